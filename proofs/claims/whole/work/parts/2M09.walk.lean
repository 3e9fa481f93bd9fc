set_option maxHeartbeats 4000000 in
set_option maxRecDepth 100000 in
theorem c_X9_digestOrders (l : Launch) (dC : Nat → ClassId) (dI : Nat → Nat → Nat) (cI cZ : ClassId) (a : Nat → Nat) (sz : Nat) (M : Mem) (a1 : Int64) (z : Int64 × Mem) (hf : fX9_digestOrders M a1 = some z) : Met l yX9_digestOrders wsX9_digestOrders ({ frames := 8, cells := 0, slots := 0, locals := 186 } : Room) (va_Pc [.ref (a 0), .long a1] (WR (dC, dI) cI cZ (wX9 cI cZ a M) sz)) (va_Ql (S := Unit) (fun r _ => r = z.1) (fun _ t => WE (dC, dI) cI cZ (wX9 cI cZ a (sr (sr (sr M 1 (z.2 1)) 2 (z.2 2)) 8 (z.2 8))) (va_A (wX9 cI cZ a M) sz) t) (va_A (wX9 cI cZ a M) sz)) 0 0 (va_A (wX9 cI cZ a M) sz) := by
  refine Met.ofW (cc := cX9_digestOrders) (maxL := 7) (ret := (some .long)) (by decide) rfl ?_
  intro p e s m args below meth c s₁ B hml hv
  obtain ⟨rfl, hsz, hP, hK, hD0, hNW⟩ := hv
  have hx := B.exec
  have hb := B.bytes
  have hr := B.returns
  have hts := atoms_spec (ws := wsX9_digestOrders) B.pre
  have hown : s.vm.findClass RX9 = some m.cls := findClass_of_methodNamed B.named
  have hlocks := B.notSynchronized
  have hw0 := hts (.constantLong RX9 249 (31)) (by decide +kernel)
  have hinX9 : ∀ w ∈ u_ws RX9 TX9 13, w ∈ wsX9_digestOrders := by decide +kernel
  have hw2 := hts (.fieldLink RX9 7 "GlideShelvesModel" "s" "[I") (by decide +kernel)
  subst hsz
  have hD := hD0.self (sz := s.heap.size)
  generalize hAe : va_A (wX9 cI cZ a M) s.heap.size = A at hD ⊢
  have hA : ∀ q : Nat, s.heap.size ≤ q → A q := fun q h => by rw [← hAe]; exact Or.inr h
  have hS : va_S A s.heap s.heap [] := va_S.rf
  have hfX9_digestOrders_L33 : ∀ (n : Nat) (kx62 : Mem → Int64 → Int32 → Option (Int64 × Mem)) (hkx62 : ∀ (N : Mem) (l3 : Int64) (l5 : Int32), kx62 N l3 l5 = some z → ∀ (ls : Array Slot), lv_has ls 7 [(0, .ref (a 0)), (3, .long l3), (5, .int l5)] → ∀ (H : Heap) (locs : List Loc), va_P (dC, dI) vwCl (wX9 cI cZ a (sr (sr (sr M 1 (N 1)) 2 (N 2)) 8 (N 8))) H → va_D A (wX9 cI cZ a (sr (sr (sr M 1 (N 1)) 2 (N 2)) 8 (N 8))) → va_S A s.heap H locs → W p l e (headSpec wsX9_digestOrders ({ frames := 8, cells := 0, slots := 0, locals := 186 } : Room)).room s m ([.ref (a 0), .long a1] : List Value).toArray below meth c H locs 0 0 (MQ below (va_Ql (S := Unit) (fun r _ => r = z.1) (fun _ t => WE (dC, dI) cI cZ (wX9 cI cZ a (sr (sr (sr M 1 (z.2 1)) 2 (z.2 2)) 8 (z.2 8))) A t) A) ([.ref (a 0), .long a1] : List Value).toArray s 0 0 A) (F0 m 62 ls [])), ∀ (N : Mem) (l3 : Int64) (l5 : Int32) (l6 : Int32), fX9_digestOrders_L33 M n kx62 N l3 l5 l6 = some z → ∀ (ls : Array Slot), lv_has ls 7 [(0, .ref (a 0)), (3, .long l3), (5, .int l5), (6, .int l6)] → ∀ (H : Heap) (locs : List Loc), va_P (dC, dI) vwCl (wX9 cI cZ a (sr (sr (sr M 1 (N 1)) 2 (N 2)) 8 (N 8))) H → va_D A (wX9 cI cZ a (sr (sr (sr M 1 (N 1)) 2 (N 2)) 8 (N 8))) → va_S A s.heap H locs → W p l e (headSpec wsX9_digestOrders ({ frames := 8, cells := 0, slots := 0, locals := 186 } : Room)).room s m ([.ref (a 0), .long a1] : List Value).toArray below meth c H locs 0 0 (MQ below (va_Ql (S := Unit) (fun r _ => r = z.1) (fun _ t => WE (dC, dI) cI cZ (wX9 cI cZ a (sr (sr (sr M 1 (z.2 1)) 2 (z.2 2)) 8 (z.2 8))) A t) A) ([.ref (a 0), .long a1] : List Value).toArray s 0 0 A) (F0 m 33 ls []) := by
    intro n
    induction n with
    | zero =>
      intro kx62 hkx62 N l3 l5 l6 hf ls hl H locs hP hD hS
      rw [fX9_digestOrders_L33] at hf
      cases hf
    | succ n ih =>
      intro kx62 hkx62 N l3 l5 l6 hf ls hl H locs hP hD hS
      rw [fX9_digestOrders_L33] at hf
      refine lv_iload hx hb dX9_digestOrders_33 (lv_at hl 3 rfl) ?_
      refine lv_bipush (v := (10 : Int32)) hx hb dX9_digestOrders_35 (by decide) ?_
      refine lv_icmp_ge (tgt := 62) hx hb dX9_digestOrders_37 (by decide) (fun c9 => ?_) (fun c9 => ?_)
      · have hf := it_t hf c9
        exact hkx62 (sr (sr (sr M 1 (N 1)) 2 (N 2)) 8 (N 8)) l3 l5 hf _ (lv_sub hl [0, 1, 2] rfl) _ _ hP hD hS
      · have hf := it_f hf c9
        refine lv_ldc2 (v := (31 : Int64)) hx hb hown hw0 dX9_digestOrders_40 ?_
        refine lv_lload_n hx hb dX9_digestOrders_43 rfl (lv_at hl 1 rfl) ?_
        refine lv_lmul hx hb dX9_digestOrders_44 ?_
        refine lv_aload_n hx hb dX9_digestOrders_45 rfl (lv_at hl 0 rfl) ?_
        refine lv_iload hx hb dX9_digestOrders_46 (lv_at hl 2 rfl) ?_
        refine lv_iload hx hb dX9_digestOrders_48 (lv_at hl 3 rfl) ?_
        obtain ⟨r50, hc50, hf⟩ := bi_s hf
        have hPc := hP
        refine cRO (W.runV (As := [.int l5, .int l6]) (rest := [.long ((31 : Int64) * l3)]) ⟨hx, hb, hml, hown, hts⟩ (c_X9_wants l dC dI cI cZ a (sr (sr (sr M 1 (N 1)) 2 (N 2)) 8 (N 8)) l5 l6 r50 hc50) (cwV 2 hts gX9_digestOrders_X9_wants rfl rfl rfl (by decide +kernel) ⟨Nat.le_of_ble_eq_true rfl, Nat.le_of_ble_eq_true rfl⟩) ⟨RO.blind, va_recv hK hP (ci := 9) (q0 := 0) rfl rfl, RO.pre hPc hK hNW⟩ rfl rfl hl.1 rfl (lv_room (Nat.le_of_ble_eq_true rfl)) dX9_digestOrders_50 ⟨Nat.le_of_ble_eq_true rfl, Nat.le_of_ble_eq_true rfl⟩) ?_
        refine lv_i2l (v := r50.toInt64) hx hb dX9_digestOrders_53 rfl ?_
        refine lv_ladd hx hb dX9_digestOrders_54 ?_
        refine lv_lstore_n (lv' := [(3, .long (((31 : Int64) * l3) + (r50.toInt64))), (0, .ref (a 0)), (5, .int l5), (6, .int l6)]) hx hb dX9_digestOrders_55 rfl hl (by decide) rfl (fun ls hl => ?_)
        refine lv_iinc (v := (l6 + (1 : Int32))) (lv' := [(6, .int (l6 + (1 : Int32))), (3, .long (((31 : Int64) * l3) + (r50.toInt64))), (0, .ref (a 0)), (5, .int l5)]) hx hb dX9_digestOrders_56 hl (k := 3) rfl rfl (by decide) rfl (fun ls hl => ?_)
        refine lv_goto (tgt := 33) hx hb dX9_digestOrders_59 (by decide) ?_
        exact ih kx62 hkx62 (sr (sr (sr M 1 (N 1)) 2 (N 2)) 8 (N 8)) (((31 : Int64) * l3) + (r50.toInt64)) l5 (l6 + (1 : Int32)) hf _ (lv_sub hl [2, 1, 3, 0] rfl) _ _ hP hD hS
  have hfX9_digestOrders_B133 : ∀ (kb : Mem → Int64 → Int32 → Option (Int64 × Mem)) (hkb : ∀ (N : Mem) (l3 : Int64) (l5 : Int32), kb N l3 l5 = some z → ∀ (ls : Array Slot), lv_has ls 7 [(0, .ref (a 0)), (3, .long l3), (5, .int l5)] → ∀ (H : Heap) (locs : List Loc), va_P (dC, dI) vwCl (wX9 cI cZ a (sr (sr (sr M 1 (N 1)) 2 (N 2)) 8 (N 8))) H → va_D A (wX9 cI cZ a (sr (sr (sr M 1 (N 1)) 2 (N 2)) 8 (N 8))) → va_S A s.heap H locs → W p l e (headSpec wsX9_digestOrders ({ frames := 8, cells := 0, slots := 0, locals := 186 } : Room)).room s m ([.ref (a 0), .long a1] : List Value).toArray below meth c H locs 0 0 (MQ below (va_Ql (S := Unit) (fun r _ => r = z.1) (fun _ t => WE (dC, dI) cI cZ (wX9 cI cZ a (sr (sr (sr M 1 (z.2 1)) 2 (z.2 2)) 8 (z.2 8))) A t) A) ([.ref (a 0), .long a1] : List Value).toArray s 0 0 A) (F0 m 18 ls [])) (kx139 : Mem → Int64 → Option (Int64 × Mem)) (hkx139 : ∀ (N : Mem) (l3 : Int64), kx139 N l3 = some z → ∀ (ls : Array Slot), lv_has ls 7 [(0, .ref (a 0)), (3, .long l3)] → ∀ (H : Heap) (locs : List Loc), va_P (dC, dI) vwCl (wX9 cI cZ a (sr (sr (sr M 1 (N 1)) 2 (N 2)) 8 (N 8))) H → va_D A (wX9 cI cZ a (sr (sr (sr M 1 (N 1)) 2 (N 2)) 8 (N 8))) → va_S A s.heap H locs → W p l e (headSpec wsX9_digestOrders ({ frames := 8, cells := 0, slots := 0, locals := 186 } : Room)).room s m ([.ref (a 0), .long a1] : List Value).toArray below meth c H locs 0 0 (MQ below (va_Ql (S := Unit) (fun r _ => r = z.1) (fun _ t => WE (dC, dI) cI cZ (wX9 cI cZ a (sr (sr (sr M 1 (z.2 1)) 2 (z.2 2)) 8 (z.2 8))) A t) A) ([.ref (a 0), .long a1] : List Value).toArray s 0 0 A) (F0 m 139 ls [])), ∀ (N : Mem) (l3 : Int64) (l5 : Int32), fX9_digestOrders_B133 M kb kx139 N l3 l5 = some z → ∀ (ls : Array Slot), lv_has ls 7 [(0, .ref (a 0)), (3, .long l3), (5, .int l5)] → ∀ (H : Heap) (locs : List Loc), va_P (dC, dI) vwCl (wX9 cI cZ a (sr (sr (sr M 1 (N 1)) 2 (N 2)) 8 (N 8))) H → va_D A (wX9 cI cZ a (sr (sr (sr M 1 (N 1)) 2 (N 2)) 8 (N 8))) → va_S A s.heap H locs → W p l e (headSpec wsX9_digestOrders ({ frames := 8, cells := 0, slots := 0, locals := 186 } : Room)).room s m ([.ref (a 0), .long a1] : List Value).toArray below meth c H locs 0 0 (MQ below (va_Ql (S := Unit) (fun r _ => r = z.1) (fun _ t => WE (dC, dI) cI cZ (wX9 cI cZ a (sr (sr (sr M 1 (z.2 1)) 2 (z.2 2)) 8 (z.2 8))) A t) A) ([.ref (a 0), .long a1] : List Value).toArray s 0 0 A) (F0 m 133 ls []) := by
    intro kb hkb kx139 hkx139 N l3 l5 hf ls hl H locs hP hD hS
    unfold fX9_digestOrders_B133 at hf
    refine lv_iinc (v := (l5 + (1 : Int32))) (lv' := [(5, .int (l5 + (1 : Int32))), (0, .ref (a 0)), (3, .long l3)]) hx hb dX9_digestOrders_133 hl (k := 2) rfl rfl (by decide) rfl (fun ls hl => ?_)
    refine lv_goto (tgt := 18) hx hb dX9_digestOrders_136 (by decide) ?_
    exact hkb (sr (sr (sr M 1 (N 1)) 2 (N 2)) 8 (N 8)) l3 (l5 + (1 : Int32)) hf _ (lv_sub hl [1, 2, 0] rfl) _ _ hP hD hS
  have hfX9_digestOrders_B81 : ∀ (kb : Mem → Int64 → Int32 → Option (Int64 × Mem)) (hkb : ∀ (N : Mem) (l3 : Int64) (l5 : Int32), kb N l3 l5 = some z → ∀ (ls : Array Slot), lv_has ls 7 [(0, .ref (a 0)), (3, .long l3), (5, .int l5)] → ∀ (H : Heap) (locs : List Loc), va_P (dC, dI) vwCl (wX9 cI cZ a (sr (sr (sr M 1 (N 1)) 2 (N 2)) 8 (N 8))) H → va_D A (wX9 cI cZ a (sr (sr (sr M 1 (N 1)) 2 (N 2)) 8 (N 8))) → va_S A s.heap H locs → W p l e (headSpec wsX9_digestOrders ({ frames := 8, cells := 0, slots := 0, locals := 186 } : Room)).room s m ([.ref (a 0), .long a1] : List Value).toArray below meth c H locs 0 0 (MQ below (va_Ql (S := Unit) (fun r _ => r = z.1) (fun _ t => WE (dC, dI) cI cZ (wX9 cI cZ a (sr (sr (sr M 1 (z.2 1)) 2 (z.2 2)) 8 (z.2 8))) A t) A) ([.ref (a 0), .long a1] : List Value).toArray s 0 0 A) (F0 m 18 ls [])) (kx139 : Mem → Int64 → Option (Int64 × Mem)) (hkx139 : ∀ (N : Mem) (l3 : Int64), kx139 N l3 = some z → ∀ (ls : Array Slot), lv_has ls 7 [(0, .ref (a 0)), (3, .long l3)] → ∀ (H : Heap) (locs : List Loc), va_P (dC, dI) vwCl (wX9 cI cZ a (sr (sr (sr M 1 (N 1)) 2 (N 2)) 8 (N 8))) H → va_D A (wX9 cI cZ a (sr (sr (sr M 1 (N 1)) 2 (N 2)) 8 (N 8))) → va_S A s.heap H locs → W p l e (headSpec wsX9_digestOrders ({ frames := 8, cells := 0, slots := 0, locals := 186 } : Room)).room s m ([.ref (a 0), .long a1] : List Value).toArray below meth c H locs 0 0 (MQ below (va_Ql (S := Unit) (fun r _ => r = z.1) (fun _ t => WE (dC, dI) cI cZ (wX9 cI cZ a (sr (sr (sr M 1 (z.2 1)) 2 (z.2 2)) 8 (z.2 8))) A t) A) ([.ref (a 0), .long a1] : List Value).toArray s 0 0 A) (F0 m 139 ls [])), ∀ (N : Mem) (l5 : Int32) (s0 : Int64) (s1 : Int32), fX9_digestOrders_B81 M kb kx139 N l5 s0 s1 = some z → ∀ (ls : Array Slot), lv_has ls 7 [(0, .ref (a 0)), (5, .int l5)] → ∀ (H : Heap) (locs : List Loc), va_P (dC, dI) vwCl (wX9 cI cZ a (sr (sr (sr M 1 (N 1)) 2 (N 2)) 8 (N 8))) H → va_D A (wX9 cI cZ a (sr (sr (sr M 1 (N 1)) 2 (N 2)) 8 (N 8))) → va_S A s.heap H locs → W p l e (headSpec wsX9_digestOrders ({ frames := 8, cells := 0, slots := 0, locals := 186 } : Room)).room s m ([.ref (a 0), .long a1] : List Value).toArray below meth c H locs 0 0 (MQ below (va_Ql (S := Unit) (fun r _ => r = z.1) (fun _ t => WE (dC, dI) cI cZ (wX9 cI cZ a (sr (sr (sr M 1 (z.2 1)) 2 (z.2 2)) 8 (z.2 8))) A t) A) ([.ref (a 0), .long a1] : List Value).toArray s 0 0 A) (F0 m 81 ls [.int s1, .long s0]) := by
    intro kb hkb kx139 hkx139 N l5 s0 s1 hf ls hl H locs hP hD hS
    unfold fX9_digestOrders_B81 at hf
    refine lv_i2l (v := s1.toInt64) hx hb dX9_digestOrders_81 rfl ?_
    refine lv_ladd hx hb dX9_digestOrders_82 ?_
    refine lv_lstore_n (lv' := [(3, .long (s0 + (s1.toInt64))), (0, .ref (a 0)), (5, .int l5)]) hx hb dX9_digestOrders_83 rfl hl (by decide) rfl (fun ls hl => ?_)
    refine lv_aload_n hx hb dX9_digestOrders_84 rfl (lv_at hl 1 rfl) ?_
    refine lv_iload hx hb dX9_digestOrders_85 (lv_at hl 2 rfl) ?_
    obtain ⟨r87, hc87, hf⟩ := bi_s hf
    have hPc := hP
    refine cRO (W.runV (As := [.int l5]) (rest := []) ⟨hx, hb, hml, hown, hts⟩ (c_X9_canBe l dC dI cI cZ a (sr (sr (sr M 1 (N 1)) 2 (N 2)) 8 (N 8)) l5 r87 hc87) (cwV 1 hts gX9_digestOrders_X9_canBe rfl rfl rfl (by decide +kernel) ⟨Nat.le_of_ble_eq_true rfl, Nat.le_of_ble_eq_true rfl⟩) ⟨RO.blind, va_recv hK hP (ci := 9) (q0 := 0) rfl rfl, RO.pre hPc hK hNW⟩ rfl rfl hl.1 rfl (lv_room (Nat.le_of_ble_eq_true rfl)) dX9_digestOrders_87 ⟨Nat.le_of_ble_eq_true rfl, Nat.le_of_ble_eq_true rfl⟩) ?_
    refine lv_if_eq (tgt := 133) hx hb dX9_digestOrders_90 (by decide) (fun c9 => ?_) (fun c9 => ?_)
    · have hf := it_t hf c9
      exact hfX9_digestOrders_B133 _ hkb _ hkx139 (sr (sr (sr M 1 (N 1)) 2 (N 2)) 8 (N 8)) (s0 + (s1.toInt64)) l5 hf _ (lv_sub hl [1, 0, 2] rfl) _ _ hP hD hS
    · have hf := it_f hf c9
      refine lv_aload_n hx hb dX9_digestOrders_93 rfl (lv_at hl 1 rfl) ?_
      refine lv_iload hx hb dX9_digestOrders_94 (lv_at hl 2 rfl) ?_
      obtain ⟨r96, hc96, hf⟩ := bi_s hf
      have hPc := hP
      refine cRO (W.runV (As := [.int l5]) (rest := []) ⟨hx, hb, hml, hown, hts⟩ (c_X9_chosen l dC dI cI cZ a (sr (sr (sr M 1 (N 1)) 2 (N 2)) 8 (N 8)) l5 r96 hc96) (cwV 1 hts gX9_digestOrders_X9_chosen rfl rfl rfl (by decide +kernel) ⟨Nat.le_of_ble_eq_true rfl, Nat.le_of_ble_eq_true rfl⟩) ⟨RO.blind, va_recv hK hP (ci := 9) (q0 := 0) rfl rfl, RO.pre hPc hK hNW⟩ rfl rfl hl.1 rfl (lv_room (Nat.le_of_ble_eq_true rfl)) dX9_digestOrders_96 ⟨Nat.le_of_ble_eq_true rfl, Nat.le_of_ble_eq_true rfl⟩) ?_
      refine lv_istore (lv' := [(6, .int r96), (3, .long (s0 + (s1.toInt64))), (0, .ref (a 0)), (5, .int l5)]) hx hb dX9_digestOrders_99 hl (by decide) rfl (fun ls hl => ?_)
      refine lv_ldc2 (v := (31 : Int64)) hx hb hown hw0 dX9_digestOrders_101 ?_
      refine lv_ldc2 (v := (31 : Int64)) hx hb hown hw0 dX9_digestOrders_104 ?_
      refine lv_ldc2 (v := (31 : Int64)) hx hb hown hw0 dX9_digestOrders_107 ?_
      refine lv_lload_n hx hb dX9_digestOrders_110 rfl (lv_at hl 1 rfl) ?_
      refine lv_lmul hx hb dX9_digestOrders_111 ?_
      refine lv_iload hx hb dX9_digestOrders_112 (lv_at hl 0 rfl) ?_
      obtain ⟨r114, hc114, hf⟩ := bi_s hf
      refine cRO (W.runS (As := [.int r96]) (rest := [.long ((31 : Int64) * (s0 + (s1.toInt64))), .long (31 : Int64), .long (31 : Int64)]) ⟨hx, hb, hml, hown, hts⟩ (c_X9_bits l r96 r114 hc114) (va_cwS 1 hts gX9_digestOrders_X9_bits rfl rfl rfl (by decide +kernel) ⟨Nat.le_of_ble_eq_true rfl, Nat.le_of_ble_eq_true rfl⟩) ⟨tr_blind, tr_pre⟩ rfl rfl hl.1 rfl (lv_room (Nat.le_of_ble_eq_true rfl)) dX9_digestOrders_114 ⟨Nat.le_of_ble_eq_true rfl, Nat.le_of_ble_eq_true rfl⟩) ?_
      refine lv_i2l (v := r114.toInt64) hx hb dX9_digestOrders_117 rfl ?_
      refine lv_ladd hx hb dX9_digestOrders_118 ?_
      refine lv_lmul hx hb dX9_digestOrders_119 ?_
      refine lv_iload hx hb dX9_digestOrders_120 (lv_at hl 0 rfl) ?_
      obtain ⟨r122, hc122, hf⟩ := bi_s hf
      refine cRO (W.runS (As := [.int r96]) (rest := [.long ((31 : Int64) * (((31 : Int64) * (s0 + (s1.toInt64))) + (r114.toInt64))), .long (31 : Int64)]) ⟨hx, hb, hml, hown, hts⟩ (c_X9_bits l r96 r122 hc122) (va_cwS 1 hts gX9_digestOrders_X9_bits rfl rfl rfl (by decide +kernel) ⟨Nat.le_of_ble_eq_true rfl, Nat.le_of_ble_eq_true rfl⟩) ⟨tr_blind, tr_pre⟩ rfl rfl hl.1 rfl (lv_room (Nat.le_of_ble_eq_true rfl)) dX9_digestOrders_122 ⟨Nat.le_of_ble_eq_true rfl, Nat.le_of_ble_eq_true rfl⟩) ?_
      refine lv_i2l (v := r122.toInt64) hx hb dX9_digestOrders_125 rfl ?_
      refine lv_ladd hx hb dX9_digestOrders_126 ?_
      refine lv_lmul hx hb dX9_digestOrders_127 ?_
      refine lv_iload hx hb dX9_digestOrders_128 (lv_at hl 0 rfl) ?_
      refine lv_i2l (v := r96.toInt64) hx hb dX9_digestOrders_130 rfl ?_
      refine lv_ladd hx hb dX9_digestOrders_131 ?_
      refine lv_lstore_n (lv' := [(3, .long (((31 : Int64) * (((31 : Int64) * (((31 : Int64) * (s0 + (s1.toInt64))) + (r114.toInt64))) + (r122.toInt64))) + (r96.toInt64))), (6, .int r96), (0, .ref (a 0)), (5, .int l5)]) hx hb dX9_digestOrders_132 rfl hl (by decide) rfl (fun ls hl => ?_)
      exact hfX9_digestOrders_B133 _ hkb _ hkx139 (sr (sr (sr M 1 (N 1)) 2 (N 2)) 8 (N 8)) (((31 : Int64) * (((31 : Int64) * (((31 : Int64) * (s0 + (s1.toInt64))) + (r114.toInt64))) + (r122.toInt64))) + (r96.toInt64)) l5 hf _ (lv_sub hl [2, 0, 3] rfl) _ _ hP hD hS
  have hfX9_digestOrders_L18 : ∀ (n : Nat) (kx139 : Mem → Int64 → Option (Int64 × Mem)) (hkx139 : ∀ (N : Mem) (l3 : Int64), kx139 N l3 = some z → ∀ (ls : Array Slot), lv_has ls 7 [(0, .ref (a 0)), (3, .long l3)] → ∀ (H : Heap) (locs : List Loc), va_P (dC, dI) vwCl (wX9 cI cZ a (sr (sr (sr M 1 (N 1)) 2 (N 2)) 8 (N 8))) H → va_D A (wX9 cI cZ a (sr (sr (sr M 1 (N 1)) 2 (N 2)) 8 (N 8))) → va_S A s.heap H locs → W p l e (headSpec wsX9_digestOrders ({ frames := 8, cells := 0, slots := 0, locals := 186 } : Room)).room s m ([.ref (a 0), .long a1] : List Value).toArray below meth c H locs 0 0 (MQ below (va_Ql (S := Unit) (fun r _ => r = z.1) (fun _ t => WE (dC, dI) cI cZ (wX9 cI cZ a (sr (sr (sr M 1 (z.2 1)) 2 (z.2 2)) 8 (z.2 8))) A t) A) ([.ref (a 0), .long a1] : List Value).toArray s 0 0 A) (F0 m 139 ls [])), ∀ (N : Mem) (l3 : Int64) (l5 : Int32), fX9_digestOrders_L18 M n kx139 N l3 l5 = some z → ∀ (ls : Array Slot), lv_has ls 7 [(0, .ref (a 0)), (3, .long l3), (5, .int l5)] → ∀ (H : Heap) (locs : List Loc), va_P (dC, dI) vwCl (wX9 cI cZ a (sr (sr (sr M 1 (N 1)) 2 (N 2)) 8 (N 8))) H → va_D A (wX9 cI cZ a (sr (sr (sr M 1 (N 1)) 2 (N 2)) 8 (N 8))) → va_S A s.heap H locs → W p l e (headSpec wsX9_digestOrders ({ frames := 8, cells := 0, slots := 0, locals := 186 } : Room)).room s m ([.ref (a 0), .long a1] : List Value).toArray below meth c H locs 0 0 (MQ below (va_Ql (S := Unit) (fun r _ => r = z.1) (fun _ t => WE (dC, dI) cI cZ (wX9 cI cZ a (sr (sr (sr M 1 (z.2 1)) 2 (z.2 2)) 8 (z.2 8))) A t) A) ([.ref (a 0), .long a1] : List Value).toArray s 0 0 A) (F0 m 18 ls []) := by
    intro n
    induction n with
    | zero =>
      intro kx139 hkx139 N l3 l5 hf ls hl H locs hP hD hS
      rw [fX9_digestOrders_L18] at hf
      cases hf
    | succ n ih =>
      intro kx139 hkx139 N l3 l5 hf ls hl H locs hP hD hS
      rw [fX9_digestOrders_L18] at hf
      refine lv_iload hx hb dX9_digestOrders_18 (lv_at hl 2 rfl) ?_
      refine lv_aload_n hx hb dX9_digestOrders_20 rfl (lv_at hl 0 rfl) ?_
      refine va_get (D := (dC, dI)) (ci := 9) (v := .ref (a 1)) (C := RX9) (T := TX9) (N := 13) hx hb hts hinX9 hown hK hP 0 rfl rfl 1 (by decide) hw2 (fun _ h9 => h9) rfl dX9_digestOrders_21 ?_
      refine lv_bipush (v := (8 : Int32)) hx hb dX9_digestOrders_24 (by decide) ?_
      obtain ⟨hi, hf⟩ := gd_s hf
      refine va_iald (D := (dC, dI)) (f := (N 1)) hx hb hK hP 1 0 rfl rfl (inb_in hi) dX9_digestOrders_26 ?_
      refine lv_icmp_ge (tgt := 139) hx hb dX9_digestOrders_27 (by decide) (fun c9 => ?_) (fun c9 => ?_)
      · have hf := it_t hf c9
        exact hkx139 (sr (sr (sr M 1 (N 1)) 2 (N 2)) 8 (N 8)) l3 hf _ (lv_sub hl [0, 1] rfl) _ _ hP hD hS
      · have hf := it_f hf c9
        refine lv_iconst (v := (0 : Int32)) hx hb dX9_digestOrders_30 (by decide) ?_
        refine lv_istore (lv' := [(6, .int (0 : Int32)), (0, .ref (a 0)), (3, .long l3), (5, .int l5)]) hx hb dX9_digestOrders_31 hl (by decide) rfl (fun ls hl => ?_)
        refine hfX9_digestOrders_L33 5000 _ (fun N l3 l5 hf ls hl H locs hP hD hS => ?_) (sr (sr (sr M 1 (N 1)) 2 (N 2)) 8 (N 8)) l3 l5 (0 : Int32) hf _ (lv_sub hl [1, 2, 3, 0] rfl) _ _ hP hD hS
        refine lv_ldc2 (v := (31 : Int64)) hx hb hown hw0 dX9_digestOrders_62 ?_
        refine lv_lload_n hx hb dX9_digestOrders_65 rfl (lv_at hl 1 rfl) ?_
        refine lv_lmul hx hb dX9_digestOrders_66 ?_
        refine lv_aload_n hx hb dX9_digestOrders_67 rfl (lv_at hl 0 rfl) ?_
        refine lv_iload hx hb dX9_digestOrders_68 (lv_at hl 2 rfl) ?_
        obtain ⟨r70, hc70, hf⟩ := bi_s hf
        have hPc := hP
        refine cRO (W.runV (As := [.int l5]) (rest := [.long ((31 : Int64) * l3)]) ⟨hx, hb, hml, hown, hts⟩ (c_X9_canBe l dC dI cI cZ a (sr (sr (sr M 1 (N 1)) 2 (N 2)) 8 (N 8)) l5 r70 hc70) (cwV 1 hts gX9_digestOrders_X9_canBe rfl rfl rfl (by decide +kernel) ⟨Nat.le_of_ble_eq_true rfl, Nat.le_of_ble_eq_true rfl⟩) ⟨RO.blind, va_recv hK hP (ci := 9) (q0 := 0) rfl rfl, RO.pre hPc hK hNW⟩ rfl rfl hl.1 rfl (lv_room (Nat.le_of_ble_eq_true rfl)) dX9_digestOrders_70 ⟨Nat.le_of_ble_eq_true rfl, Nat.le_of_ble_eq_true rfl⟩) ?_
        refine lv_if_eq (tgt := 80) hx hb dX9_digestOrders_73 (by decide) (fun c9 => ?_) (fun c9 => ?_)
        · have hf := it_t hf c9
          refine lv_iconst (v := (0 : Int32)) hx hb dX9_digestOrders_80 (by decide) ?_
          exact hfX9_digestOrders_B81 _ (ih kx139 hkx139) _ hkx139 (sr (sr (sr M 1 (N 1)) 2 (N 2)) 8 (N 8)) l5 ((31 : Int64) * l3) (0 : Int32) hf _ (lv_sub hl [0, 2] rfl) _ _ hP hD hS
        · have hf := it_f hf c9
          refine lv_iconst (v := (1 : Int32)) hx hb dX9_digestOrders_76 (by decide) ?_
          refine lv_goto (tgt := 81) hx hb dX9_digestOrders_77 (by decide) ?_
          exact hfX9_digestOrders_B81 _ (ih kx139 hkx139) _ hkx139 (sr (sr (sr M 1 (N 1)) 2 (N 2)) 8 (N 8)) l5 ((31 : Int64) * l3) (1 : Int32) hf _ (lv_sub hl [0, 2] rfl) _ _ hP hD hS
  have hl := lv_entry ([.ref (a 0), .long a1]) (n := 7) (Nat.le_of_ble_eq_true rfl)
  rw [lg_entry_eq]
  generalize (lg_sl ([.ref (a 0), .long a1]) ++ List.replicate (7 - (lg_sl ([.ref (a 0), .long a1])).length) Slot.unset).toArray = ls at hl ⊢
  have hl : lv_has ls 7 [(0, .ref (a 0)), (1, .long a1)] := hl
  unfold fX9_digestOrders at hf
  suffices hgo : ∀ (H : Heap) (locs : List Loc), va_P (dC, dI) vwCl (wX9 cI cZ a M) H → va_D A (wX9 cI cZ a M) → va_S A s.heap H locs → W p l e (headSpec wsX9_digestOrders ({ frames := 8, cells := 0, slots := 0, locals := 186 } : Room)).room s m ([.ref (a 0), .long a1] : List Value).toArray below meth c H locs 0 0 (MQ below (va_Ql (S := Unit) (fun r _ => r = z.1) (fun _ t => WE (dC, dI) cI cZ (wX9 cI cZ a (sr (sr (sr M 1 (z.2 1)) 2 (z.2 2)) 8 (z.2 8))) A t) A) ([.ref (a 0), .long a1] : List Value).toArray s 0 0 A) (F0 m 0 ls []) from hgo _ _ hP hD hS
  intro H locs hP hD hS
  refine lv_ldc2 (v := (31 : Int64)) hx hb hown hw0 dX9_digestOrders_0 ?_
  refine lv_lload_n hx hb dX9_digestOrders_3 rfl (lv_at hl 1 rfl) ?_
  refine lv_lmul hx hb dX9_digestOrders_4 ?_
  refine lv_aload_n hx hb dX9_digestOrders_5 rfl (lv_at hl 0 rfl) ?_
  refine va_get (D := (dC, dI)) (ci := 9) (v := .ref (a 1)) (C := RX9) (T := TX9) (N := 13) hx hb hts hinX9 hown hK hP 0 rfl rfl 1 (by decide) hw2 (fun _ h9 => h9) rfl dX9_digestOrders_6 ?_
  refine lv_bipush (v := (8 : Int32)) hx hb dX9_digestOrders_9 (by decide) ?_
  obtain ⟨hi, hf⟩ := gd_s hf
  refine va_iald (D := (dC, dI)) (f := (M 1)) hx hb hK hP 1 0 rfl rfl (inb_in hi) dX9_digestOrders_11 ?_
  refine lv_i2l (v := (M 1 (8 : Int32).toNatClampNeg).toInt64) hx hb dX9_digestOrders_12 rfl ?_
  refine lv_ladd hx hb dX9_digestOrders_13 ?_
  refine lv_lstore_n (lv' := [(3, .long (((31 : Int64) * a1) + ((M 1 (8 : Int32).toNatClampNeg).toInt64))), (0, .ref (a 0)), (1, .long a1)]) hx hb dX9_digestOrders_14 rfl hl (by decide) rfl (fun ls hl => ?_)
  refine lv_iconst (v := (0 : Int32)) hx hb dX9_digestOrders_15 (by decide) ?_
  refine lv_istore (lv' := [(5, .int (0 : Int32)), (3, .long (((31 : Int64) * a1) + ((M 1 (8 : Int32).toNatClampNeg).toInt64))), (0, .ref (a 0)), (1, .long a1)]) hx hb dX9_digestOrders_16 hl (by decide) rfl (fun ls hl => ?_)
  refine hfX9_digestOrders_L18 5000 _ (fun N l3 hf ls hl H locs hP hD hS => ?_) M (((31 : Int64) * a1) + ((M 1 (8 : Int32).toNatClampNeg).toInt64)) (0 : Int32) hf _ (lv_sub hl [2, 1, 0] rfl) _ _ hP hD hS
  refine lv_ldc2 (v := (31 : Int64)) hx hb hown hw0 dX9_digestOrders_139 ?_
  refine lv_lload_n hx hb dX9_digestOrders_142 rfl (lv_at hl 1 rfl) ?_
  refine lv_lmul hx hb dX9_digestOrders_143 ?_
  refine lv_aload_n hx hb dX9_digestOrders_144 rfl (lv_at hl 0 rfl) ?_
  obtain ⟨r145, hc145, hf⟩ := bi_s hf
  have hPc := hP
  have hDc := hD
  have hFc := va_free (wc := (wX9 cI cZ a (sr (sr (sr M 1 (N 1)) 2 (N 2)) 8 (N 8)))) hD hS hA [0, 1, 2, 3, 4, 5, 6, 7, 8] rfl
  refine va_calli (va_runV (As := []) (rest := [.long ((31 : Int64) * l3)]) ⟨hx, hb, hml, hown, hts⟩ (c_X9_cheapest l dC dI cI cZ a H.size (sr (sr (sr M 1 (N 1)) 2 (N 2)) 8 (N 8)) r145 hc145) (cwV 0 hts gX9_digestOrders_X9_cheapest rfl rfl rfl (by decide +kernel) ⟨Nat.le_of_ble_eq_true rfl, Nat.le_of_ble_eq_true rfl⟩) ⟨WR.blind, va_recv hK hP (ci := 9) (q0 := 0) rfl rfl, WR.pre hPc hK hDc hNW⟩ rfl rfl hl.1 rfl (lv_room (Nat.le_of_ble_eq_true rfl)) dX9_digestOrders_145 ⟨Nat.le_of_ble_eq_true rfl, Nat.le_of_ble_eq_true rfl⟩) hS (fun q _ h => hFc q h) hFc (fun rv u t H1 locs ht hvm hw hB hz1 hk1 hS => ?_)
  obtain ⟨hP1, hD1⟩ := hB
  rw [ht] at hP1
  subst hw
  have hP := hP1
  have hD := hD1.weaken (fun k q _ h => hFc q.1 h)
  have hP : va_P (dC, dI) vwCl (wX9 cI cZ a (sr (sr (sr M 1 (r145.2 1)) 2 (r145.2 2)) 8 (r145.2 8))) H1 := hP
  have hD : va_D A (wX9 cI cZ a (sr (sr (sr M 1 (r145.2 1)) 2 (r145.2 2)) 8 (r145.2 8))) := hD
  generalize H1 = H at hP hS ⊢
  refine lv_i2l (v := r145.1.toInt64) hx hb dX9_digestOrders_148 rfl ?_
  refine lv_ladd hx hb dX9_digestOrders_149 ?_
  refine lv_lconst (v := (1 : Int64)) hx hb dX9_digestOrders_150 (by decide) ?_
  refine lv_ladd hx hb dX9_digestOrders_151 ?_
  have e9 := so_e hf
  subst e9
  exact W.lret (v := ((((31 : Int64) * l3) + (r145.1.toInt64)) + (1 : Int64))) hx hb hr (fun t ht hW => ⟨⟨((((31 : Int64) * l3) + (r145.1.toInt64)) + (1 : Int64)), (), rfl, rfl, WE.mk hP hD ht⟩, hS.F ht⟩) hS.2.2 dX9_digestOrders_152
set_option maxHeartbeats 4000000 in
set_option maxRecDepth 100000 in
theorem c_X9_digest (l : Launch) (dC : Nat → ClassId) (dI : Nat → Nat → Nat) (cI cZ : ClassId) (a : Nat → Nat) (sz : Nat) (M : Mem) (z : Int64 × Mem) (hf : fX9_digest M  = some z) : Met l yX9_digest wsX9_digest ({ frames := 9, cells := 0, slots := 0, locals := 212 } : Room) (va_Pc [.ref (a 0)] (WR (dC, dI) cI cZ (wX9 cI cZ a M) sz)) (va_Ql (S := Unit) (fun r _ => r = z.1) (fun _ t => WE (dC, dI) cI cZ (wX9 cI cZ a (sr (sr (sr (sr M 0 (z.2 0)) 1 (z.2 1)) 2 (z.2 2)) 8 (z.2 8))) (va_A (wX9 cI cZ a M) sz) t) (va_A (wX9 cI cZ a M) sz)) 0 0 (va_A (wX9 cI cZ a M) sz) := by
  refine Met.ofW (cc := cX9_digest) (maxL := 5) (ret := (some .long)) (by decide) rfl ?_
  intro p e s m args below meth c s₁ B hml hv
  obtain ⟨rfl, hsz, hP, hK, hD0, hNW⟩ := hv
  have hx := B.exec
  have hb := B.bytes
  have hr := B.returns
  have hts := atoms_spec (ws := wsX9_digest) B.pre
  have hown : s.vm.findClass RX9 = some m.cls := findClass_of_methodNamed B.named
  have hlocks := B.notSynchronized
  have hinX9 : ∀ w ∈ u_ws RX9 TX9 13, w ∈ wsX9_digest := by decide +kernel
  have hw1 := hts (.fieldLink RX9 35 "GlideShelvesModel" "thrown" "I") (by decide +kernel)
  have hw2 := hts (.fieldLink RX9 7 "GlideShelvesModel" "s" "[I") (by decide +kernel)
  have hw3 := hts (.constantLong RX9 251 (4349)) (by decide +kernel)
  have hw4 := hts (.constantLong RX9 249 (31)) (by decide +kernel)
  have hw5 := hts (.fieldLink RX9 43 "GlideShelvesModel" "stateMany" "I") (by decide +kernel)
  have hw6 := hts (.fieldLink RX9 22 "GlideShelvesModel" "hasSlot" "[Z") (by decide +kernel)
  have hw7 := hts (.fieldLink RX9 172 "GlideShelvesModel" "length" "I") (by decide +kernel)
  have hw8 := hts (.fieldLink RX9 26 "GlideShelvesModel" "text" "[I") (by decide +kernel)
  subst hsz
  have hD := hD0.self (sz := s.heap.size)
  generalize hAe : va_A (wX9 cI cZ a M) s.heap.size = A at hD ⊢
  have hA : ∀ q : Nat, s.heap.size ≤ q → A q := fun q h => by rw [← hAe]; exact Or.inr h
  have hS : va_S A s.heap s.heap [] := va_S.rf
  have hfX9_digest_L41 : ∀ (n : Nat) (kx66 : Mem → Int32 → Int64 → Option (Int64 × Mem)) (hkx66 : ∀ (N : Mem) (l1 : Int32) (l2 : Int64), kx66 N l1 l2 = some z → ∀ (ls : Array Slot), lv_has ls 5 [(0, .ref (a 0)), (1, .int l1), (2, .long l2)] → ∀ (H : Heap) (locs : List Loc), va_P (dC, dI) vwCl (wX9 cI cZ a (sr (sr (sr (sr M 0 (N 0)) 1 (N 1)) 2 (N 2)) 8 (N 8))) H → va_D A (wX9 cI cZ a (sr (sr (sr (sr M 0 (N 0)) 1 (N 1)) 2 (N 2)) 8 (N 8))) → va_S A s.heap H locs → W p l e (headSpec wsX9_digest ({ frames := 9, cells := 0, slots := 0, locals := 212 } : Room)).room s m ([.ref (a 0)] : List Value).toArray below meth c H locs 0 0 (MQ below (va_Ql (S := Unit) (fun r _ => r = z.1) (fun _ t => WE (dC, dI) cI cZ (wX9 cI cZ a (sr (sr (sr (sr M 0 (z.2 0)) 1 (z.2 1)) 2 (z.2 2)) 8 (z.2 8))) A t) A) ([.ref (a 0)] : List Value).toArray s 0 0 A) (F0 m 66 ls [])), ∀ (N : Mem) (l1 : Int32) (l2 : Int64) (l4 : Int32), fX9_digest_L41 M n kx66 N l1 l2 l4 = some z → ∀ (ls : Array Slot), lv_has ls 5 [(0, .ref (a 0)), (1, .int l1), (2, .long l2), (4, .int l4)] → ∀ (H : Heap) (locs : List Loc), va_P (dC, dI) vwCl (wX9 cI cZ a (sr (sr (sr (sr M 0 (N 0)) 1 (N 1)) 2 (N 2)) 8 (N 8))) H → va_D A (wX9 cI cZ a (sr (sr (sr (sr M 0 (N 0)) 1 (N 1)) 2 (N 2)) 8 (N 8))) → va_S A s.heap H locs → W p l e (headSpec wsX9_digest ({ frames := 9, cells := 0, slots := 0, locals := 212 } : Room)).room s m ([.ref (a 0)] : List Value).toArray below meth c H locs 0 0 (MQ below (va_Ql (S := Unit) (fun r _ => r = z.1) (fun _ t => WE (dC, dI) cI cZ (wX9 cI cZ a (sr (sr (sr (sr M 0 (z.2 0)) 1 (z.2 1)) 2 (z.2 2)) 8 (z.2 8))) A t) A) ([.ref (a 0)] : List Value).toArray s 0 0 A) (F0 m 41 ls []) := by
    intro n
    induction n with
    | zero =>
      intro kx66 hkx66 N l1 l2 l4 hf ls hl H locs hP hD hS
      rw [fX9_digest_L41] at hf
      cases hf
    | succ n ih =>
      intro kx66 hkx66 N l1 l2 l4 hf ls hl H locs hP hD hS
      rw [fX9_digest_L41] at hf
      refine lv_iload hx hb dX9_digest_41 (lv_at hl 3 rfl) ?_
      refine lv_aload_n hx hb dX9_digest_43 rfl (lv_at hl 0 rfl) ?_
      refine va_get (D := (dC, dI)) (ci := 9) (v := .ref (a 1)) (C := RX9) (T := TX9) (N := 13) hx hb hts hinX9 hown hK hP 0 rfl rfl 1 (by decide) hw2 (fun _ h9 => h9) rfl dX9_digest_44 ?_
      refine lv_iconst (v := (0 : Int32)) hx hb dX9_digest_47 (by decide) ?_
      obtain ⟨hi, hf⟩ := gd_s hf
      refine va_iald (D := (dC, dI)) (f := (N 1)) hx hb hK hP 1 0 rfl rfl (inb_in hi) dX9_digest_48 ?_
      refine lv_icmp_ge (tgt := 66) hx hb dX9_digest_49 (by decide) (fun c9 => ?_) (fun c9 => ?_)
      · have hf := it_t hf c9
        exact hkx66 (sr (sr (sr (sr M 0 (N 0)) 1 (N 1)) 2 (N 2)) 8 (N 8)) l1 l2 hf _ (lv_sub hl [0, 1, 2] rfl) _ _ hP hD hS
      · have hf := it_f hf c9
        refine lv_aload_n hx hb dX9_digest_52 rfl (lv_at hl 0 rfl) ?_
        refine lv_lload_n hx hb dX9_digest_53 rfl (lv_at hl 2 rfl) ?_
        refine lv_iload hx hb dX9_digest_54 (lv_at hl 3 rfl) ?_
        obtain ⟨r56, hc56, hf⟩ := bi_s hf
        have hPc := hP
        refine cRO (W.runV (As := [.long l2, .int l4]) (rest := []) ⟨hx, hb, hml, hown, hts⟩ (c_X9_digestShelf l dC dI cI cZ a (sr (sr (sr (sr M 0 (N 0)) 1 (N 1)) 2 (N 2)) 8 (N 8)) l2 l4 r56 hc56) (cwV 2 hts gX9_digest_X9_digestShelf rfl rfl rfl (by decide +kernel) ⟨Nat.le_of_ble_eq_true rfl, Nat.le_of_ble_eq_true rfl⟩) ⟨RO.blind, va_recv hK hP (ci := 9) (q0 := 0) rfl rfl, RO.pre hPc hK hNW⟩ rfl rfl hl.1 rfl (lv_room (Nat.le_of_ble_eq_true rfl)) dX9_digest_56 ⟨Nat.le_of_ble_eq_true rfl, Nat.le_of_ble_eq_true rfl⟩) ?_
        refine lv_lstore_n (lv' := [(2, .long r56), (0, .ref (a 0)), (1, .int l1), (4, .int l4)]) hx hb dX9_digest_59 rfl hl (by decide) rfl (fun ls hl => ?_)
        refine lv_iinc (v := (l4 + (1 : Int32))) (lv' := [(4, .int (l4 + (1 : Int32))), (2, .long r56), (0, .ref (a 0)), (1, .int l1)]) hx hb dX9_digest_60 hl (k := 3) rfl rfl (by decide) rfl (fun ls hl => ?_)
        refine lv_goto (tgt := 41) hx hb dX9_digest_63 (by decide) ?_
        exact ih kx66 hkx66 (sr (sr (sr (sr M 0 (N 0)) 1 (N 1)) 2 (N 2)) 8 (N 8)) l1 r56 (l4 + (1 : Int32)) hf _ (lv_sub hl [2, 3, 1, 0] rfl) _ _ hP hD hS
  have hfX9_digest_L94 : ∀ (n : Nat) (kx133 : Mem → Int32 → Int64 → Option (Int64 × Mem)) (hkx133 : ∀ (N : Mem) (l1 : Int32) (l2 : Int64), kx133 N l1 l2 = some z → ∀ (ls : Array Slot), lv_has ls 5 [(0, .ref (a 0)), (1, .int l1), (2, .long l2)] → ∀ (H : Heap) (locs : List Loc), va_P (dC, dI) vwCl (wX9 cI cZ a (sr (sr (sr (sr M 0 (N 0)) 1 (N 1)) 2 (N 2)) 8 (N 8))) H → va_D A (wX9 cI cZ a (sr (sr (sr (sr M 0 (N 0)) 1 (N 1)) 2 (N 2)) 8 (N 8))) → va_S A s.heap H locs → W p l e (headSpec wsX9_digest ({ frames := 9, cells := 0, slots := 0, locals := 212 } : Room)).room s m ([.ref (a 0)] : List Value).toArray below meth c H locs 0 0 (MQ below (va_Ql (S := Unit) (fun r _ => r = z.1) (fun _ t => WE (dC, dI) cI cZ (wX9 cI cZ a (sr (sr (sr (sr M 0 (z.2 0)) 1 (z.2 1)) 2 (z.2 2)) 8 (z.2 8))) A t) A) ([.ref (a 0)] : List Value).toArray s 0 0 A) (F0 m 133 ls [])), ∀ (N : Mem) (l1 : Int32) (l2 : Int64) (l4 : Int32), fX9_digest_L94 M n kx133 N l1 l2 l4 = some z → ∀ (ls : Array Slot), lv_has ls 5 [(0, .ref (a 0)), (1, .int l1), (2, .long l2), (4, .int l4)] → ∀ (H : Heap) (locs : List Loc), va_P (dC, dI) vwCl (wX9 cI cZ a (sr (sr (sr (sr M 0 (N 0)) 1 (N 1)) 2 (N 2)) 8 (N 8))) H → va_D A (wX9 cI cZ a (sr (sr (sr (sr M 0 (N 0)) 1 (N 1)) 2 (N 2)) 8 (N 8))) → va_S A s.heap H locs → W p l e (headSpec wsX9_digest ({ frames := 9, cells := 0, slots := 0, locals := 212 } : Room)).room s m ([.ref (a 0)] : List Value).toArray below meth c H locs 0 0 (MQ below (va_Ql (S := Unit) (fun r _ => r = z.1) (fun _ t => WE (dC, dI) cI cZ (wX9 cI cZ a (sr (sr (sr (sr M 0 (z.2 0)) 1 (z.2 1)) 2 (z.2 2)) 8 (z.2 8))) A t) A) ([.ref (a 0)] : List Value).toArray s 0 0 A) (F0 m 94 ls []) := by
    intro n
    induction n with
    | zero =>
      intro kx133 hkx133 N l1 l2 l4 hf ls hl H locs hP hD hS
      rw [fX9_digest_L94] at hf
      cases hf
    | succ n ih =>
      intro kx133 hkx133 N l1 l2 l4 hf ls hl H locs hP hD hS
      rw [fX9_digest_L94] at hf
      refine lv_iload hx hb dX9_digest_94 (lv_at hl 3 rfl) ?_
      refine lv_iconst (v := (2 : Int32)) hx hb dX9_digest_96 (by decide) ?_
      refine lv_aload_n hx hb dX9_digest_97 rfl (lv_at hl 0 rfl) ?_
      refine va_get (D := (dC, dI)) (ci := 9) (v := .ref (a 1)) (C := RX9) (T := TX9) (N := 13) hx hb hts hinX9 hown hK hP 0 rfl rfl 1 (by decide) hw2 (fun _ h9 => h9) rfl dX9_digest_98 ?_
      refine lv_bipush (v := (7 : Int32)) hx hb dX9_digest_101 (by decide) ?_
      obtain ⟨hi, hf⟩ := gd_s hf
      refine va_iald (D := (dC, dI)) (f := (N 1)) hx hb hK hP 1 0 rfl rfl (inb_in hi) dX9_digest_103 ?_
      refine lv_imul hx hb dX9_digest_104 ?_
      refine lv_icmp_ge (tgt := 133) hx hb dX9_digest_105 (by decide) (fun c9 => ?_) (fun c9 => ?_)
      · have hf := it_t hf c9
        exact hkx133 (sr (sr (sr (sr M 0 (N 0)) 1 (N 1)) 2 (N 2)) 8 (N 8)) l1 l2 hf _ (lv_sub hl [0, 1, 2] rfl) _ _ hP hD hS
      · have hf := it_f hf c9
        refine lv_ldc2 (v := (31 : Int64)) hx hb hown hw4 dX9_digest_108 ?_
        refine lv_lload_n hx hb dX9_digest_111 rfl (lv_at hl 2 rfl) ?_
        refine lv_lmul hx hb dX9_digest_112 ?_
        refine lv_aload_n hx hb dX9_digest_113 rfl (lv_at hl 0 rfl) ?_
        refine va_get (D := (dC, dI)) (ci := 9) (v := .ref (a 1)) (C := RX9) (T := TX9) (N := 13) hx hb hts hinX9 hown hK hP 0 rfl rfl 1 (by decide) hw2 (fun _ h9 => h9) rfl dX9_digest_114 ?_
        refine lv_sipush (v := (207 : Int32)) hx hb dX9_digest_117 (by decide) ?_
        refine lv_iload hx hb dX9_digest_120 (lv_at hl 3 rfl) ?_
        refine lv_iadd hx hb dX9_digest_122 ?_
        obtain ⟨hi, hf⟩ := gd_s hf
        refine va_iald (D := (dC, dI)) (f := (N 1)) hx hb hK hP 1 0 rfl rfl (inb_in hi) dX9_digest_123 ?_
        refine lv_i2l (v := (N 1 ((207 : Int32) + l4).toNatClampNeg).toInt64) hx hb dX9_digest_124 rfl ?_
        refine lv_ladd hx hb dX9_digest_125 ?_
        refine lv_lstore_n (lv' := [(2, .long (((31 : Int64) * l2) + ((N 1 ((207 : Int32) + l4).toNatClampNeg).toInt64))), (0, .ref (a 0)), (1, .int l1), (4, .int l4)]) hx hb dX9_digest_126 rfl hl (by decide) rfl (fun ls hl => ?_)
        refine lv_iinc (v := (l4 + (1 : Int32))) (lv' := [(4, .int (l4 + (1 : Int32))), (2, .long (((31 : Int64) * l2) + ((N 1 ((207 : Int32) + l4).toNatClampNeg).toInt64))), (0, .ref (a 0)), (1, .int l1)]) hx hb dX9_digest_127 hl (k := 3) rfl rfl (by decide) rfl (fun ls hl => ?_)
        refine lv_goto (tgt := 94) hx hb dX9_digest_130 (by decide) ?_
        exact ih kx133 hkx133 (sr (sr (sr (sr M 0 (N 0)) 1 (N 1)) 2 (N 2)) 8 (N 8)) l1 (((31 : Int64) * l2) + ((N 1 ((207 : Int32) + l4).toNatClampNeg).toInt64)) (l4 + (1 : Int32)) hf _ (lv_sub hl [2, 3, 1, 0] rfl) _ _ hP hD hS
  have hfX9_digest_L327 : ∀ (n : Nat) (kx357 : Mem → Int64 → Option (Int64 × Mem)) (hkx357 : ∀ (N : Mem) (l2 : Int64), kx357 N l2 = some z → ∀ (ls : Array Slot), lv_has ls 5 [(2, .long l2)] → ∀ (H : Heap) (locs : List Loc), va_P (dC, dI) vwCl (wX9 cI cZ a (sr (sr (sr (sr M 0 (N 0)) 1 (N 1)) 2 (N 2)) 8 (N 8))) H → va_D A (wX9 cI cZ a (sr (sr (sr (sr M 0 (N 0)) 1 (N 1)) 2 (N 2)) 8 (N 8))) → va_S A s.heap H locs → W p l e (headSpec wsX9_digest ({ frames := 9, cells := 0, slots := 0, locals := 212 } : Room)).room s m ([.ref (a 0)] : List Value).toArray below meth c H locs 0 0 (MQ below (va_Ql (S := Unit) (fun r _ => r = z.1) (fun _ t => WE (dC, dI) cI cZ (wX9 cI cZ a (sr (sr (sr (sr M 0 (z.2 0)) 1 (z.2 1)) 2 (z.2 2)) 8 (z.2 8))) A t) A) ([.ref (a 0)] : List Value).toArray s 0 0 A) (F0 m 357 ls [])), ∀ (N : Mem) (l2 : Int64) (l4 : Int32), fX9_digest_L327 M n kx357 N l2 l4 = some z → ∀ (ls : Array Slot), lv_has ls 5 [(0, .ref (a 0)), (2, .long l2), (4, .int l4)] → ∀ (H : Heap) (locs : List Loc), va_P (dC, dI) vwCl (wX9 cI cZ a (sr (sr (sr (sr M 0 (N 0)) 1 (N 1)) 2 (N 2)) 8 (N 8))) H → va_D A (wX9 cI cZ a (sr (sr (sr (sr M 0 (N 0)) 1 (N 1)) 2 (N 2)) 8 (N 8))) → va_S A s.heap H locs → W p l e (headSpec wsX9_digest ({ frames := 9, cells := 0, slots := 0, locals := 212 } : Room)).room s m ([.ref (a 0)] : List Value).toArray below meth c H locs 0 0 (MQ below (va_Ql (S := Unit) (fun r _ => r = z.1) (fun _ t => WE (dC, dI) cI cZ (wX9 cI cZ a (sr (sr (sr (sr M 0 (z.2 0)) 1 (z.2 1)) 2 (z.2 2)) 8 (z.2 8))) A t) A) ([.ref (a 0)] : List Value).toArray s 0 0 A) (F0 m 327 ls []) := by
    intro n
    induction n with
    | zero =>
      intro kx357 hkx357 N l2 l4 hf ls hl H locs hP hD hS
      rw [fX9_digest_L327] at hf
      cases hf
    | succ n ih =>
      intro kx357 hkx357 N l2 l4 hf ls hl H locs hP hD hS
      rw [fX9_digest_L327] at hf
      refine lv_iload hx hb dX9_digest_327 (lv_at hl 2 rfl) ?_
      refine lv_aload_n hx hb dX9_digest_329 rfl (lv_at hl 0 rfl) ?_
      refine va_get (D := (dC, dI)) (ci := 9) (v := .int (N 0 8)) (C := RX9) (T := TX9) (N := 13) hx hb hts hinX9 hown hK hP 0 rfl rfl 8 (by decide) hw7 (fun _ h9 => h9) rfl dX9_digest_330 ?_
      refine lv_icmp_ge (tgt := 357) hx hb dX9_digest_333 (by decide) (fun c9 => ?_) (fun c9 => ?_)
      · have hf := it_t hf c9
        exact hkx357 (sr (sr (sr (sr M 0 (N 0)) 1 (N 1)) 2 (N 2)) 8 (N 8)) l2 hf _ (lv_sub hl [1] rfl) _ _ hP hD hS
      · have hf := it_f hf c9
        refine lv_ldc2 (v := (31 : Int64)) hx hb hown hw4 dX9_digest_336 ?_
        refine lv_lload_n hx hb dX9_digest_339 rfl (lv_at hl 1 rfl) ?_
        refine lv_lmul hx hb dX9_digest_340 ?_
        refine lv_aload_n hx hb dX9_digest_341 rfl (lv_at hl 0 rfl) ?_
        refine va_get (D := (dC, dI)) (ci := 9) (v := .ref (a 6)) (C := RX9) (T := TX9) (N := 13) hx hb hts hinX9 hown hK hP 0 rfl rfl 7 (by decide) hw8 (fun _ h9 => h9) rfl dX9_digest_342 ?_
        refine lv_iload hx hb dX9_digest_345 (lv_at hl 2 rfl) ?_
        obtain ⟨hi, hf⟩ := gd_s hf
        refine va_iald (D := (dC, dI)) (f := (M 6)) hx hb hK hP 6 0 rfl rfl (inb_in hi) dX9_digest_347 ?_
        refine lv_i2l (v := (M 6 l4.toNatClampNeg).toInt64) hx hb dX9_digest_348 rfl ?_
        refine lv_ladd hx hb dX9_digest_349 ?_
        refine lv_lstore_n (lv' := [(2, .long (((31 : Int64) * l2) + ((M 6 l4.toNatClampNeg).toInt64))), (0, .ref (a 0)), (4, .int l4)]) hx hb dX9_digest_350 rfl hl (by decide) rfl (fun ls hl => ?_)
        refine lv_iinc (v := (l4 + (1 : Int32))) (lv' := [(4, .int (l4 + (1 : Int32))), (2, .long (((31 : Int64) * l2) + ((M 6 l4.toNatClampNeg).toInt64))), (0, .ref (a 0))]) hx hb dX9_digest_351 hl (k := 2) rfl rfl (by decide) rfl (fun ls hl => ?_)
        refine lv_goto (tgt := 327) hx hb dX9_digest_354 (by decide) ?_
        exact ih kx357 hkx357 (sr (sr (sr (sr M 0 (N 0)) 1 (N 1)) 2 (N 2)) 8 (N 8)) (((31 : Int64) * l2) + ((M 6 l4.toNatClampNeg).toInt64)) (l4 + (1 : Int32)) hf _ (lv_sub hl [2, 1, 0] rfl) _ _ hP hD hS
  have hfX9_digest_B309 : ∀ (N : Mem) (s0 : Int64) (s1 : Int32), fX9_digest_B309 M  N s0 s1 = some z → ∀ (ls : Array Slot), lv_has ls 5 [(0, .ref (a 0))] → ∀ (H : Heap) (locs : List Loc), va_P (dC, dI) vwCl (wX9 cI cZ a (sr (sr (sr (sr M 0 (N 0)) 1 (N 1)) 2 (N 2)) 8 (N 8))) H → va_D A (wX9 cI cZ a (sr (sr (sr (sr M 0 (N 0)) 1 (N 1)) 2 (N 2)) 8 (N 8))) → va_S A s.heap H locs → W p l e (headSpec wsX9_digest ({ frames := 9, cells := 0, slots := 0, locals := 212 } : Room)).room s m ([.ref (a 0)] : List Value).toArray below meth c H locs 0 0 (MQ below (va_Ql (S := Unit) (fun r _ => r = z.1) (fun _ t => WE (dC, dI) cI cZ (wX9 cI cZ a (sr (sr (sr (sr M 0 (z.2 0)) 1 (z.2 1)) 2 (z.2 2)) 8 (z.2 8))) A t) A) ([.ref (a 0)] : List Value).toArray s 0 0 A) (F0 m 309 ls [.int s1, .long s0]) := by
    intro  N s0 s1 hf ls hl H locs hP hD hS
    unfold fX9_digest_B309 at hf
    refine lv_i2l (v := s1.toInt64) hx hb dX9_digest_309 rfl ?_
    refine lv_ladd hx hb dX9_digest_310 ?_
    refine lv_lstore_n (lv' := [(2, .long (s0 + (s1.toInt64))), (0, .ref (a 0))]) hx hb dX9_digest_311 rfl hl (by decide) rfl (fun ls hl => ?_)
    refine lv_ldc2 (v := (31 : Int64)) hx hb hown hw4 dX9_digest_312 ?_
    refine lv_lload_n hx hb dX9_digest_315 rfl (lv_at hl 0 rfl) ?_
    refine lv_lmul hx hb dX9_digest_316 ?_
    refine lv_aload_n hx hb dX9_digest_317 rfl (lv_at hl 1 rfl) ?_
    refine va_get (D := (dC, dI)) (ci := 9) (v := .int (N 0 8)) (C := RX9) (T := TX9) (N := 13) hx hb hts hinX9 hown hK hP 0 rfl rfl 8 (by decide) hw7 (fun _ h9 => h9) rfl dX9_digest_318 ?_
    refine lv_i2l (v := (N 0 8).toInt64) hx hb dX9_digest_321 rfl ?_
    refine lv_ladd hx hb dX9_digest_322 ?_
    refine lv_lstore_n (lv' := [(2, .long (((31 : Int64) * (s0 + (s1.toInt64))) + ((N 0 8).toInt64))), (0, .ref (a 0))]) hx hb dX9_digest_323 rfl hl (by decide) rfl (fun ls hl => ?_)
    refine lv_iconst (v := (0 : Int32)) hx hb dX9_digest_324 (by decide) ?_
    refine lv_istore (lv' := [(4, .int (0 : Int32)), (2, .long (((31 : Int64) * (s0 + (s1.toInt64))) + ((N 0 8).toInt64))), (0, .ref (a 0))]) hx hb dX9_digest_325 hl (by decide) rfl (fun ls hl => ?_)
    refine hfX9_digest_L327 5000 _ (fun N l2 hf ls hl H locs hP hD hS => ?_) (sr (sr (sr (sr M 0 (N 0)) 1 (N 1)) 2 (N 2)) 8 (N 8)) (((31 : Int64) * (s0 + (s1.toInt64))) + ((N 0 8).toInt64)) (0 : Int32) hf _ (lv_sub hl [2, 1, 0] rfl) _ _ hP hD hS
    refine lv_lload_n hx hb dX9_digest_357 rfl (lv_at hl 0 rfl) ?_
    have e9 := so_e hf
    subst e9
    exact W.lret (v := l2) hx hb hr (fun t ht hW => ⟨⟨l2, (), rfl, rfl, WE.mk hP hD ht⟩, hS.F ht⟩) hS.2.2 dX9_digest_358
  have hfX9_digest_B292 : ∀ (N : Mem) (s0 : Int64) (s1 : Int64) (s2 : Int32), fX9_digest_B292 M  N s0 s1 s2 = some z → ∀ (ls : Array Slot), lv_has ls 5 [(0, .ref (a 0))] → ∀ (H : Heap) (locs : List Loc), va_P (dC, dI) vwCl (wX9 cI cZ a (sr (sr (sr (sr M 0 (N 0)) 1 (N 1)) 2 (N 2)) 8 (N 8))) H → va_D A (wX9 cI cZ a (sr (sr (sr (sr M 0 (N 0)) 1 (N 1)) 2 (N 2)) 8 (N 8))) → va_S A s.heap H locs → W p l e (headSpec wsX9_digest ({ frames := 9, cells := 0, slots := 0, locals := 212 } : Room)).room s m ([.ref (a 0)] : List Value).toArray below meth c H locs 0 0 (MQ below (va_Ql (S := Unit) (fun r _ => r = z.1) (fun _ t => WE (dC, dI) cI cZ (wX9 cI cZ a (sr (sr (sr (sr M 0 (z.2 0)) 1 (z.2 1)) 2 (z.2 2)) 8 (z.2 8))) A t) A) ([.ref (a 0)] : List Value).toArray s 0 0 A) (F0 m 292 ls [.int s2, .long s1, .long s0]) := by
    intro  N s0 s1 s2 hf ls hl H locs hP hD hS
    unfold fX9_digest_B292 at hf
    refine lv_i2l (v := s2.toInt64) hx hb dX9_digest_292 rfl ?_
    refine lv_ladd hx hb dX9_digest_293 ?_
    refine lv_lmul hx hb dX9_digest_294 ?_
    refine lv_aload_n hx hb dX9_digest_295 rfl (lv_at hl 0 rfl) ?_
    refine va_get (D := (dC, dI)) (ci := 9) (v := .ref (a 5)) (C := RX9) (T := TX9) (N := 13) hx hb hts hinX9 hown hK hP 0 rfl rfl 6 (by decide) hw6 (fun _ h9 => h9) rfl dX9_digest_296 ?_
    refine lv_iconst (v := (1 : Int32)) hx hb dX9_digest_299 (by decide) ?_
    obtain ⟨hi, hf⟩ := gd_s hf
    refine va_zald (D := (dC, dI)) (f := (M 5)) hx hb hK hP 5 1 rfl rfl (inb_in hi) dX9_digest_300 ?_
    refine lv_if_eq (tgt := 308) hx hb dX9_digest_301 (by decide) (fun c9 => ?_) (fun c9 => ?_)
    · have hf := it_t hf c9
      refine lv_iconst (v := (0 : Int32)) hx hb dX9_digest_308 (by decide) ?_
      exact hfX9_digest_B309  (sr (sr (sr (sr M 0 (N 0)) 1 (N 1)) 2 (N 2)) 8 (N 8)) (s0 * (s1 + (s2.toInt64))) (0 : Int32) hf _ (lv_sub hl [0] rfl) _ _ hP hD hS
    · have hf := it_f hf c9
      refine lv_iconst (v := (1 : Int32)) hx hb dX9_digest_304 (by decide) ?_
      refine lv_goto (tgt := 309) hx hb dX9_digest_305 (by decide) ?_
      exact hfX9_digest_B309  (sr (sr (sr (sr M 0 (N 0)) 1 (N 1)) 2 (N 2)) 8 (N 8)) (s0 * (s1 + (s2.toInt64))) (1 : Int32) hf _ (lv_sub hl [0] rfl) _ _ hP hD hS
  have hfX9_digest_B217 : ∀ (N : Mem) (s0 : Int64) (s1 : Int32), fX9_digest_B217 M  N s0 s1 = some z → ∀ (ls : Array Slot), lv_has ls 5 [(0, .ref (a 0))] → ∀ (H : Heap) (locs : List Loc), va_P (dC, dI) vwCl (wX9 cI cZ a (sr (sr (sr (sr M 0 (N 0)) 1 (N 1)) 2 (N 2)) 8 (N 8))) H → va_D A (wX9 cI cZ a (sr (sr (sr (sr M 0 (N 0)) 1 (N 1)) 2 (N 2)) 8 (N 8))) → va_S A s.heap H locs → W p l e (headSpec wsX9_digest ({ frames := 9, cells := 0, slots := 0, locals := 212 } : Room)).room s m ([.ref (a 0)] : List Value).toArray below meth c H locs 0 0 (MQ below (va_Ql (S := Unit) (fun r _ => r = z.1) (fun _ t => WE (dC, dI) cI cZ (wX9 cI cZ a (sr (sr (sr (sr M 0 (z.2 0)) 1 (z.2 1)) 2 (z.2 2)) 8 (z.2 8))) A t) A) ([.ref (a 0)] : List Value).toArray s 0 0 A) (F0 m 217 ls [.int s1, .long s0]) := by
    intro  N s0 s1 hf ls hl H locs hP hD hS
    unfold fX9_digest_B217 at hf
    refine lv_i2l (v := s1.toInt64) hx hb dX9_digest_217 rfl ?_
    refine lv_ladd hx hb dX9_digest_218 ?_
    refine lv_lstore_n (lv' := [(2, .long (s0 + (s1.toInt64))), (0, .ref (a 0))]) hx hb dX9_digest_219 rfl hl (by decide) rfl (fun ls hl => ?_)
    refine lv_ldc2 (v := (31 : Int64)) hx hb hown hw4 dX9_digest_220 ?_
    refine lv_ldc2 (v := (31 : Int64)) hx hb hown hw4 dX9_digest_223 ?_
    refine lv_lload_n hx hb dX9_digest_226 rfl (lv_at hl 0 rfl) ?_
    refine lv_lmul hx hb dX9_digest_227 ?_
    refine lv_aload_n hx hb dX9_digest_228 rfl (lv_at hl 1 rfl) ?_
    obtain ⟨r229, hc229, hf⟩ := bi_s hf
    have hPc := hP
    refine cRO (W.runV (As := []) (rest := [.long ((31 : Int64) * (s0 + (s1.toInt64))), .long (31 : Int64)]) ⟨hx, hb, hml, hown, hts⟩ (c_X9_waysSum l dC dI cI cZ a (sr (sr (sr (sr M 0 (N 0)) 1 (N 1)) 2 (N 2)) 8 (N 8)) r229 hc229) (cwV 0 hts gX9_digest_X9_waysSum rfl rfl rfl (by decide +kernel) ⟨Nat.le_of_ble_eq_true rfl, Nat.le_of_ble_eq_true rfl⟩) ⟨RO.blind, va_recv hK hP (ci := 9) (q0 := 0) rfl rfl, RO.pre hPc hK hNW⟩ rfl rfl hl.1 rfl (lv_room (Nat.le_of_ble_eq_true rfl)) dX9_digest_229 ⟨Nat.le_of_ble_eq_true rfl, Nat.le_of_ble_eq_true rfl⟩) ?_
    refine lv_i2l (v := r229.toInt64) hx hb dX9_digest_232 rfl ?_
    refine lv_ladd hx hb dX9_digest_233 ?_
    refine lv_lmul hx hb dX9_digest_234 ?_
    refine lv_aload_n hx hb dX9_digest_235 rfl (lv_at hl 1 rfl) ?_
    refine va_get (D := (dC, dI)) (ci := 9) (v := .int (N 0 4)) (C := RX9) (T := TX9) (N := 13) hx hb hts hinX9 hown hK hP 0 rfl rfl 4 (by decide) hw5 (fun _ h9 => h9) rfl dX9_digest_236 ?_
    refine lv_i2l (v := (N 0 4).toInt64) hx hb dX9_digest_239 rfl ?_
    refine lv_ladd hx hb dX9_digest_240 ?_
    refine lv_lstore_n (lv' := [(2, .long (((31 : Int64) * (((31 : Int64) * (s0 + (s1.toInt64))) + (r229.toInt64))) + ((N 0 4).toInt64))), (0, .ref (a 0))]) hx hb dX9_digest_241 rfl hl (by decide) rfl (fun ls hl => ?_)
    refine lv_ldc2 (v := (31 : Int64)) hx hb hown hw4 dX9_digest_242 ?_
    refine lv_lload_n hx hb dX9_digest_245 rfl (lv_at hl 0 rfl) ?_
    refine lv_lmul hx hb dX9_digest_246 ?_
    refine lv_aload_n hx hb dX9_digest_247 rfl (lv_at hl 1 rfl) ?_
    obtain ⟨r248, hc248, hf⟩ := bi_s hf
    have hPc := hP
    refine cRO (W.runV (As := []) (rest := [.long ((31 : Int64) * (((31 : Int64) * (((31 : Int64) * (s0 + (s1.toInt64))) + (r229.toInt64))) + ((N 0 4).toInt64)))]) ⟨hx, hb, hml, hown, hts⟩ (c_X9_meanByFetch l dC dI cI cZ a (sr (sr (sr (sr M 0 (N 0)) 1 (N 1)) 2 (N 2)) 8 (N 8)) r248 hc248) (cwV 0 hts gX9_digest_X9_meanByFetch rfl rfl rfl (by decide +kernel) ⟨Nat.le_of_ble_eq_true rfl, Nat.le_of_ble_eq_true rfl⟩) ⟨RO.blind, va_recv hK hP (ci := 9) (q0 := 0) rfl rfl, RO.pre hPc hK hNW⟩ rfl rfl hl.1 rfl (lv_room (Nat.le_of_ble_eq_true rfl)) dX9_digest_248 ⟨Nat.le_of_ble_eq_true rfl, Nat.le_of_ble_eq_true rfl⟩) ?_
    obtain ⟨r251, hc251, hf⟩ := bi_s hf
    refine cRO (W.runS (As := [.double r248]) (rest := [.long ((31 : Int64) * (((31 : Int64) * (((31 : Int64) * (s0 + (s1.toInt64))) + (r229.toInt64))) + ((N 0 4).toInt64)))]) ⟨hx, hb, hml, hown, hts⟩ (c_Jxe99ae_doubleToLongBits_ccdee l r248 r251 hc251) (va_cwS 1 hts gX9_digest_Jxe99ae_doubleToLongBits_ccdee rfl rfl rfl (by decide +kernel) ⟨Nat.le_of_ble_eq_true rfl, Nat.le_of_ble_eq_true rfl⟩) ⟨tr_blind, tr_pre⟩ rfl rfl hl.1 rfl (lv_room (Nat.le_of_ble_eq_true rfl)) dX9_digest_251 ⟨Nat.le_of_ble_eq_true rfl, Nat.le_of_ble_eq_true rfl⟩) ?_
    refine lv_ladd hx hb dX9_digest_254 ?_
    refine lv_lstore_n (lv' := [(2, .long (((31 : Int64) * (((31 : Int64) * (((31 : Int64) * (s0 + (s1.toInt64))) + (r229.toInt64))) + ((N 0 4).toInt64))) + r251)), (0, .ref (a 0))]) hx hb dX9_digest_255 rfl hl (by decide) rfl (fun ls hl => ?_)
    refine lv_ldc2 (v := (31 : Int64)) hx hb hown hw4 dX9_digest_256 ?_
    refine lv_lload_n hx hb dX9_digest_259 rfl (lv_at hl 0 rfl) ?_
    refine lv_lmul hx hb dX9_digest_260 ?_
    refine lv_aload_n hx hb dX9_digest_261 rfl (lv_at hl 1 rfl) ?_
    obtain ⟨r262, hc262, hf⟩ := bi_s hf
    have hPc := hP
    refine cRO (W.runV (As := []) (rest := [.long ((31 : Int64) * (((31 : Int64) * (((31 : Int64) * (((31 : Int64) * (s0 + (s1.toInt64))) + (r229.toInt64))) + ((N 0 4).toInt64))) + r251))]) ⟨hx, hb, hml, hown, hts⟩ (c_X9_meanByUse l dC dI cI cZ a (sr (sr (sr (sr M 0 (N 0)) 1 (N 1)) 2 (N 2)) 8 (N 8)) r262 hc262) (cwV 0 hts gX9_digest_X9_meanByUse rfl rfl rfl (by decide +kernel) ⟨Nat.le_of_ble_eq_true rfl, Nat.le_of_ble_eq_true rfl⟩) ⟨RO.blind, va_recv hK hP (ci := 9) (q0 := 0) rfl rfl, RO.pre hPc hK hNW⟩ rfl rfl hl.1 rfl (lv_room (Nat.le_of_ble_eq_true rfl)) dX9_digest_262 ⟨Nat.le_of_ble_eq_true rfl, Nat.le_of_ble_eq_true rfl⟩) ?_
    obtain ⟨r265, hc265, hf⟩ := bi_s hf
    refine cRO (W.runS (As := [.double r262]) (rest := [.long ((31 : Int64) * (((31 : Int64) * (((31 : Int64) * (((31 : Int64) * (s0 + (s1.toInt64))) + (r229.toInt64))) + ((N 0 4).toInt64))) + r251))]) ⟨hx, hb, hml, hown, hts⟩ (c_Jxe99ae_doubleToLongBits_ccdee l r262 r265 hc265) (va_cwS 1 hts gX9_digest_Jxe99ae_doubleToLongBits_ccdee rfl rfl rfl (by decide +kernel) ⟨Nat.le_of_ble_eq_true rfl, Nat.le_of_ble_eq_true rfl⟩) ⟨tr_blind, tr_pre⟩ rfl rfl hl.1 rfl (lv_room (Nat.le_of_ble_eq_true rfl)) dX9_digest_265 ⟨Nat.le_of_ble_eq_true rfl, Nat.le_of_ble_eq_true rfl⟩) ?_
    refine lv_ladd hx hb dX9_digest_268 ?_
    refine lv_lstore_n (lv' := [(2, .long (((31 : Int64) * (((31 : Int64) * (((31 : Int64) * (((31 : Int64) * (s0 + (s1.toInt64))) + (r229.toInt64))) + ((N 0 4).toInt64))) + r251)) + r265)), (0, .ref (a 0))]) hx hb dX9_digest_269 rfl hl (by decide) rfl (fun ls hl => ?_)
    refine lv_ldc2 (v := (31 : Int64)) hx hb hown hw4 dX9_digest_270 ?_
    refine lv_ldc2 (v := (31 : Int64)) hx hb hown hw4 dX9_digest_273 ?_
    refine lv_lload_n hx hb dX9_digest_276 rfl (lv_at hl 0 rfl) ?_
    refine lv_lmul hx hb dX9_digest_277 ?_
    refine lv_aload_n hx hb dX9_digest_278 rfl (lv_at hl 1 rfl) ?_
    refine va_get (D := (dC, dI)) (ci := 9) (v := .ref (a 5)) (C := RX9) (T := TX9) (N := 13) hx hb hts hinX9 hown hK hP 0 rfl rfl 6 (by decide) hw6 (fun _ h9 => h9) rfl dX9_digest_279 ?_
    refine lv_iconst (v := (0 : Int32)) hx hb dX9_digest_282 (by decide) ?_
    obtain ⟨hi, hf⟩ := gd_s hf
    refine va_zald (D := (dC, dI)) (f := (M 5)) hx hb hK hP 5 1 rfl rfl (inb_in hi) dX9_digest_283 ?_
    refine lv_if_eq (tgt := 291) hx hb dX9_digest_284 (by decide) (fun c9 => ?_) (fun c9 => ?_)
    · have hf := it_t hf c9
      refine lv_iconst (v := (0 : Int32)) hx hb dX9_digest_291 (by decide) ?_
      exact hfX9_digest_B292  (sr (sr (sr (sr M 0 (N 0)) 1 (N 1)) 2 (N 2)) 8 (N 8)) (31 : Int64) ((31 : Int64) * (((31 : Int64) * (((31 : Int64) * (((31 : Int64) * (((31 : Int64) * (s0 + (s1.toInt64))) + (r229.toInt64))) + ((N 0 4).toInt64))) + r251)) + r265)) (0 : Int32) hf _ (lv_sub hl [1] rfl) _ _ hP hD hS
    · have hf := it_f hf c9
      refine lv_iconst (v := (1 : Int32)) hx hb dX9_digest_287 (by decide) ?_
      refine lv_goto (tgt := 292) hx hb dX9_digest_288 (by decide) ?_
      exact hfX9_digest_B292  (sr (sr (sr (sr M 0 (N 0)) 1 (N 1)) 2 (N 2)) 8 (N 8)) (31 : Int64) ((31 : Int64) * (((31 : Int64) * (((31 : Int64) * (((31 : Int64) * (((31 : Int64) * (s0 + (s1.toInt64))) + (r229.toInt64))) + ((N 0 4).toInt64))) + r251)) + r265)) (1 : Int32) hf _ (lv_sub hl [1] rfl) _ _ hP hD hS
  have hfX9_digest_B200 : ∀ (N : Mem) (l1 : Int32) (s0 : Int64) (s1 : Int64) (s2 : Int32), fX9_digest_B200 M  N l1 s0 s1 s2 = some z → ∀ (ls : Array Slot), lv_has ls 5 [(0, .ref (a 0)), (1, .int l1)] → ∀ (H : Heap) (locs : List Loc), va_P (dC, dI) vwCl (wX9 cI cZ a (sr (sr (sr (sr M 0 (N 0)) 1 (N 1)) 2 (N 2)) 8 (N 8))) H → va_D A (wX9 cI cZ a (sr (sr (sr (sr M 0 (N 0)) 1 (N 1)) 2 (N 2)) 8 (N 8))) → va_S A s.heap H locs → W p l e (headSpec wsX9_digest ({ frames := 9, cells := 0, slots := 0, locals := 212 } : Room)).room s m ([.ref (a 0)] : List Value).toArray below meth c H locs 0 0 (MQ below (va_Ql (S := Unit) (fun r _ => r = z.1) (fun _ t => WE (dC, dI) cI cZ (wX9 cI cZ a (sr (sr (sr (sr M 0 (z.2 0)) 1 (z.2 1)) 2 (z.2 2)) 8 (z.2 8))) A t) A) ([.ref (a 0)] : List Value).toArray s 0 0 A) (F0 m 200 ls [.int s2, .long s1, .long s0]) := by
    intro  N l1 s0 s1 s2 hf ls hl H locs hP hD hS
    unfold fX9_digest_B200 at hf
    refine lv_i2l (v := s2.toInt64) hx hb dX9_digest_200 rfl ?_
    refine lv_ladd hx hb dX9_digest_201 ?_
    refine lv_lmul hx hb dX9_digest_202 ?_
    refine lv_iload_n hx hb dX9_digest_203 rfl (lv_at hl 1 rfl) ?_
    refine lv_if_eq (tgt := 216) hx hb dX9_digest_204 (by decide) (fun c9 => ?_) (fun c9 => ?_)
    · have hf := it_t hf c9
      refine lv_iconst (v := (0 : Int32)) hx hb dX9_digest_216 (by decide) ?_
      exact hfX9_digest_B217  (sr (sr (sr (sr M 0 (N 0)) 1 (N 1)) 2 (N 2)) 8 (N 8)) (s0 * (s1 + (s2.toInt64))) (0 : Int32) hf _ (lv_sub hl [0] rfl) _ _ hP hD hS
    · have hf := it_f hf c9
      refine lv_aload_n hx hb dX9_digest_207 rfl (lv_at hl 0 rfl) ?_
      obtain ⟨r208, hc208, hf⟩ := bi_s hf
      have hPc := hP
      refine cRO (W.runV (As := []) (rest := [.long (s0 * (s1 + (s2.toInt64)))]) ⟨hx, hb, hml, hown, hts⟩ (c_X9_favourite l dC dI cI cZ a (sr (sr (sr (sr M 0 (N 0)) 1 (N 1)) 2 (N 2)) 8 (N 8)) r208 hc208) (cwV 0 hts gX9_digest_X9_favourite rfl rfl rfl (by decide +kernel) ⟨Nat.le_of_ble_eq_true rfl, Nat.le_of_ble_eq_true rfl⟩) ⟨RO.blind, va_recv hK hP (ci := 9) (q0 := 0) rfl rfl, RO.pre hPc hK hNW⟩ rfl rfl hl.1 rfl (lv_room (Nat.le_of_ble_eq_true rfl)) dX9_digest_208 ⟨Nat.le_of_ble_eq_true rfl, Nat.le_of_ble_eq_true rfl⟩) ?_
      refine lv_iconst (v := (1 : Int32)) hx hb dX9_digest_211 (by decide) ?_
      refine lv_iadd hx hb dX9_digest_212 ?_
      refine lv_goto (tgt := 217) hx hb dX9_digest_213 (by decide) ?_
      exact hfX9_digest_B217  (sr (sr (sr (sr M 0 (N 0)) 1 (N 1)) 2 (N 2)) 8 (N 8)) (s0 * (s1 + (s2.toInt64))) (r208 + (1 : Int32)) hf _ (lv_sub hl [0] rfl) _ _ hP hD hS
  have hfX9_digest_B19 : ∀ (N : Mem) (s0 : Int32), fX9_digest_B19 M  N s0 = some z → ∀ (ls : Array Slot), lv_has ls 5 [(0, .ref (a 0))] → ∀ (H : Heap) (locs : List Loc), va_P (dC, dI) vwCl (wX9 cI cZ a (sr (sr (sr (sr M 0 (N 0)) 1 (N 1)) 2 (N 2)) 8 (N 8))) H → va_D A (wX9 cI cZ a (sr (sr (sr (sr M 0 (N 0)) 1 (N 1)) 2 (N 2)) 8 (N 8))) → va_S A s.heap H locs → W p l e (headSpec wsX9_digest ({ frames := 9, cells := 0, slots := 0, locals := 212 } : Room)).room s m ([.ref (a 0)] : List Value).toArray below meth c H locs 0 0 (MQ below (va_Ql (S := Unit) (fun r _ => r = z.1) (fun _ t => WE (dC, dI) cI cZ (wX9 cI cZ a (sr (sr (sr (sr M 0 (z.2 0)) 1 (z.2 1)) 2 (z.2 2)) 8 (z.2 8))) A t) A) ([.ref (a 0)] : List Value).toArray s 0 0 A) (F0 m 19 ls [.int s0]) := by
    intro  N s0 hf ls hl H locs hP hD hS
    unfold fX9_digest_B19 at hf
    refine lv_istore_n (lv' := [(1, .int s0), (0, .ref (a 0))]) hx hb dX9_digest_19 rfl hl (by decide) rfl (fun ls hl => ?_)
    refine lv_ldc2 (v := (4349 : Int64)) hx hb hown hw3 dX9_digest_20 ?_
    refine lv_lstore_n (lv' := [(2, .long (4349 : Int64)), (1, .int s0), (0, .ref (a 0))]) hx hb dX9_digest_23 rfl hl (by decide) rfl (fun ls hl => ?_)
    refine lv_ldc2 (v := (31 : Int64)) hx hb hown hw4 dX9_digest_24 ?_
    refine lv_lload_n hx hb dX9_digest_27 rfl (lv_at hl 0 rfl) ?_
    refine lv_lmul hx hb dX9_digest_28 ?_
    refine lv_aload_n hx hb dX9_digest_29 rfl (lv_at hl 2 rfl) ?_
    refine va_get (D := (dC, dI)) (ci := 9) (v := .ref (a 1)) (C := RX9) (T := TX9) (N := 13) hx hb hts hinX9 hown hK hP 0 rfl rfl 1 (by decide) hw2 (fun _ h9 => h9) rfl dX9_digest_30 ?_
    refine lv_iconst (v := (0 : Int32)) hx hb dX9_digest_33 (by decide) ?_
    obtain ⟨hi, hf⟩ := gd_s hf
    refine va_iald (D := (dC, dI)) (f := (N 1)) hx hb hK hP 1 0 rfl rfl (inb_in hi) dX9_digest_34 ?_
    refine lv_i2l (v := (N 1 (0 : Int32).toNatClampNeg).toInt64) hx hb dX9_digest_35 rfl ?_
    refine lv_ladd hx hb dX9_digest_36 ?_
    refine lv_lstore_n (lv' := [(2, .long (((31 : Int64) * (4349 : Int64)) + ((N 1 (0 : Int32).toNatClampNeg).toInt64))), (1, .int s0), (0, .ref (a 0))]) hx hb dX9_digest_37 rfl hl (by decide) rfl (fun ls hl => ?_)
    refine lv_iconst (v := (0 : Int32)) hx hb dX9_digest_38 (by decide) ?_
    refine lv_istore (lv' := [(4, .int (0 : Int32)), (2, .long (((31 : Int64) * (4349 : Int64)) + ((N 1 (0 : Int32).toNatClampNeg).toInt64))), (1, .int s0), (0, .ref (a 0))]) hx hb dX9_digest_39 hl (by decide) rfl (fun ls hl => ?_)
    refine hfX9_digest_L41 5000 _ (fun N l1 l2 hf ls hl H locs hP hD hS => ?_) (sr (sr (sr (sr M 0 (N 0)) 1 (N 1)) 2 (N 2)) 8 (N 8)) s0 (((31 : Int64) * (4349 : Int64)) + ((N 1 (0 : Int32).toNatClampNeg).toInt64)) (0 : Int32) hf _ (lv_sub hl [3, 2, 1, 0] rfl) _ _ hP hD hS
    refine lv_aload_n hx hb dX9_digest_66 rfl (lv_at hl 0 rfl) ?_
    refine lv_aload_n hx hb dX9_digest_67 rfl (lv_at hl 0 rfl) ?_
    refine lv_lload_n hx hb dX9_digest_68 rfl (lv_at hl 2 rfl) ?_
    obtain ⟨r69, hc69, hf⟩ := bi_s hf
    have hPc := hP
    refine cRO (W.runV (As := [.long l2]) (rest := [.ref (a 0)]) ⟨hx, hb, hml, hown, hts⟩ (c_X9_digestTower l dC dI cI cZ a (sr (sr (sr (sr M 0 (N 0)) 1 (N 1)) 2 (N 2)) 8 (N 8)) l2 r69 hc69) (cwV 1 hts gX9_digest_X9_digestTower rfl rfl rfl (by decide +kernel) ⟨Nat.le_of_ble_eq_true rfl, Nat.le_of_ble_eq_true rfl⟩) ⟨RO.blind, va_recv hK hP (ci := 9) (q0 := 0) rfl rfl, RO.pre hPc hK hNW⟩ rfl rfl hl.1 rfl (lv_room (Nat.le_of_ble_eq_true rfl)) dX9_digest_69 ⟨Nat.le_of_ble_eq_true rfl, Nat.le_of_ble_eq_true rfl⟩) ?_
    obtain ⟨r72, hc72, hf⟩ := bi_s hf
    have hPc := hP
    refine cRO (W.runV (As := [.long r69]) (rest := []) ⟨hx, hb, hml, hown, hts⟩ (c_X9_digestKinds l dC dI cI cZ a (sr (sr (sr (sr M 0 (N 0)) 1 (N 1)) 2 (N 2)) 8 (N 8)) r69 r72 hc72) (cwV 1 hts gX9_digest_X9_digestKinds rfl rfl rfl (by decide +kernel) ⟨Nat.le_of_ble_eq_true rfl, Nat.le_of_ble_eq_true rfl⟩) ⟨RO.blind, va_recv hK hP (ci := 9) (q0 := 0) rfl rfl, RO.pre hPc hK hNW⟩ rfl rfl hl.1 rfl (lv_room (Nat.le_of_ble_eq_true rfl)) dX9_digest_72 ⟨Nat.le_of_ble_eq_true rfl, Nat.le_of_ble_eq_true rfl⟩) ?_
    refine lv_lstore_n (lv' := [(2, .long r72), (0, .ref (a 0)), (1, .int l1)]) hx hb dX9_digest_75 rfl hl (by decide) rfl (fun ls hl => ?_)
    refine lv_ldc2 (v := (31 : Int64)) hx hb hown hw4 dX9_digest_76 ?_
    refine lv_lload_n hx hb dX9_digest_79 rfl (lv_at hl 0 rfl) ?_
    refine lv_lmul hx hb dX9_digest_80 ?_
    refine lv_aload_n hx hb dX9_digest_81 rfl (lv_at hl 1 rfl) ?_
    refine va_get (D := (dC, dI)) (ci := 9) (v := .ref (a 1)) (C := RX9) (T := TX9) (N := 13) hx hb hts hinX9 hown hK hP 0 rfl rfl 1 (by decide) hw2 (fun _ h9 => h9) rfl dX9_digest_82 ?_
    refine lv_bipush (v := (7 : Int32)) hx hb dX9_digest_85 (by decide) ?_
    obtain ⟨hi, hf⟩ := gd_s hf
    refine va_iald (D := (dC, dI)) (f := (N 1)) hx hb hK hP 1 0 rfl rfl (inb_in hi) dX9_digest_87 ?_
    refine lv_i2l (v := (N 1 (7 : Int32).toNatClampNeg).toInt64) hx hb dX9_digest_88 rfl ?_
    refine lv_ladd hx hb dX9_digest_89 ?_
    refine lv_lstore_n (lv' := [(2, .long (((31 : Int64) * r72) + ((N 1 (7 : Int32).toNatClampNeg).toInt64))), (0, .ref (a 0)), (1, .int l1)]) hx hb dX9_digest_90 rfl hl (by decide) rfl (fun ls hl => ?_)
    refine lv_iconst (v := (0 : Int32)) hx hb dX9_digest_91 (by decide) ?_
    refine lv_istore (lv' := [(4, .int (0 : Int32)), (2, .long (((31 : Int64) * r72) + ((N 1 (7 : Int32).toNatClampNeg).toInt64))), (0, .ref (a 0)), (1, .int l1)]) hx hb dX9_digest_92 hl (by decide) rfl (fun ls hl => ?_)
    refine hfX9_digest_L94 5000 _ (fun N l1 l2 hf ls hl H locs hP hD hS => ?_) (sr (sr (sr (sr M 0 (N 0)) 1 (N 1)) 2 (N 2)) 8 (N 8)) l1 (((31 : Int64) * r72) + ((N 1 (7 : Int32).toNatClampNeg).toInt64)) (0 : Int32) hf _ (lv_sub hl [2, 3, 1, 0] rfl) _ _ hP hD hS
    refine lv_aload_n hx hb dX9_digest_133 rfl (lv_at hl 0 rfl) ?_
    refine lv_lload_n hx hb dX9_digest_134 rfl (lv_at hl 2 rfl) ?_
    obtain ⟨r135, hc135, hf⟩ := bi_s hf
    have hPc := hP
    have hDc := hD
    have hFc := va_free (wc := (wX9 cI cZ a (sr (sr (sr (sr M 0 (N 0)) 1 (N 1)) 2 (N 2)) 8 (N 8)))) hD hS hA [0, 1, 2, 3, 4, 5, 6, 7, 8] rfl
    refine va_calll (va_runV (As := [.long l2]) (rest := []) ⟨hx, hb, hml, hown, hts⟩ (c_X9_digestOrders l dC dI cI cZ a H.size (sr (sr (sr (sr M 0 (N 0)) 1 (N 1)) 2 (N 2)) 8 (N 8)) l2 r135 hc135) (cwV 1 hts gX9_digest_X9_digestOrders rfl rfl rfl (by decide +kernel) ⟨Nat.le_of_ble_eq_true rfl, Nat.le_of_ble_eq_true rfl⟩) ⟨WR.blind, va_recv hK hP (ci := 9) (q0 := 0) rfl rfl, WR.pre hPc hK hDc hNW⟩ rfl rfl hl.1 rfl (lv_room (Nat.le_of_ble_eq_true rfl)) dX9_digest_135 ⟨Nat.le_of_ble_eq_true rfl, Nat.le_of_ble_eq_true rfl⟩) hS (fun q _ h => hFc q h) hFc (fun rv u t H1 locs ht hvm hw hB hz1 hk1 hS => ?_)
    obtain ⟨hP1, hD1⟩ := hB
    rw [ht] at hP1
    subst hw
    have hP := hP1
    have hD := hD1.weaken (fun k q _ h => hFc q.1 h)
    have hP : va_P (dC, dI) vwCl (wX9 cI cZ a (sr (sr (sr (sr M 0 (N 0)) 1 (r135.2 1)) 2 (r135.2 2)) 8 (r135.2 8))) H1 := hP
    have hD : va_D A (wX9 cI cZ a (sr (sr (sr (sr M 0 (N 0)) 1 (r135.2 1)) 2 (r135.2 2)) 8 (r135.2 8))) := hD
    generalize H1 = H at hP hS ⊢
    refine lv_lstore_n (lv' := [(2, .long r135.1), (0, .ref (a 0)), (1, .int l1)]) hx hb dX9_digest_138 rfl hl (by decide) rfl (fun ls hl => ?_)
    refine lv_ldc2 (v := (31 : Int64)) hx hb hown hw4 dX9_digest_139 ?_
    refine lv_ldc2 (v := (31 : Int64)) hx hb hown hw4 dX9_digest_142 ?_
    refine lv_ldc2 (v := (31 : Int64)) hx hb hown hw4 dX9_digest_145 ?_
    refine lv_lload_n hx hb dX9_digest_148 rfl (lv_at hl 0 rfl) ?_
    refine lv_lmul hx hb dX9_digest_149 ?_
    refine lv_aload_n hx hb dX9_digest_150 rfl (lv_at hl 1 rfl) ?_
    refine va_get (D := (dC, dI)) (ci := 9) (v := .ref (a 1)) (C := RX9) (T := TX9) (N := 13) hx hb hts hinX9 hown hK hP 0 rfl rfl 1 (by decide) hw2 (fun _ h9 => h9) rfl dX9_digest_151 ?_
    refine lv_iconst (v := (4 : Int32)) hx hb dX9_digest_154 (by decide) ?_
    obtain ⟨hi, hf⟩ := gd_s hf
    refine va_iald (D := (dC, dI)) (f := (r135.2 1)) hx hb hK hP 1 0 rfl rfl (inb_in hi) dX9_digest_155 ?_
    refine lv_i2l (v := ((r135.2 1) (4 : Int32).toNatClampNeg).toInt64) hx hb dX9_digest_156 rfl ?_
    refine lv_ladd hx hb dX9_digest_157 ?_
    refine lv_lmul hx hb dX9_digest_158 ?_
    refine lv_aload_n hx hb dX9_digest_159 rfl (lv_at hl 1 rfl) ?_
    refine va_get (D := (dC, dI)) (ci := 9) (v := .ref (a 1)) (C := RX9) (T := TX9) (N := 13) hx hb hts hinX9 hown hK hP 0 rfl rfl 1 (by decide) hw2 (fun _ h9 => h9) rfl dX9_digest_160 ?_
    refine lv_iconst (v := (5 : Int32)) hx hb dX9_digest_163 (by decide) ?_
    obtain ⟨hi, hf⟩ := gd_s hf
    refine va_iald (D := (dC, dI)) (f := (r135.2 1)) hx hb hK hP 1 0 rfl rfl (inb_in hi) dX9_digest_164 ?_
    refine lv_i2l (v := ((r135.2 1) (5 : Int32).toNatClampNeg).toInt64) hx hb dX9_digest_165 rfl ?_
    refine lv_ladd hx hb dX9_digest_166 ?_
    refine lv_lmul hx hb dX9_digest_167 ?_
    refine lv_aload_n hx hb dX9_digest_168 rfl (lv_at hl 1 rfl) ?_
    refine va_get (D := (dC, dI)) (ci := 9) (v := .ref (a 1)) (C := RX9) (T := TX9) (N := 13) hx hb hts hinX9 hown hK hP 0 rfl rfl 1 (by decide) hw2 (fun _ h9 => h9) rfl dX9_digest_169 ?_
    refine lv_bipush (v := (6 : Int32)) hx hb dX9_digest_172 (by decide) ?_
    obtain ⟨hi, hf⟩ := gd_s hf
    refine va_iald (D := (dC, dI)) (f := (r135.2 1)) hx hb hK hP 1 0 rfl rfl (inb_in hi) dX9_digest_174 ?_
    refine lv_i2l (v := ((r135.2 1) (6 : Int32).toNatClampNeg).toInt64) hx hb dX9_digest_175 rfl ?_
    refine lv_ladd hx hb dX9_digest_176 ?_
    refine lv_lstore_n (lv' := [(2, .long (((31 : Int64) * (((31 : Int64) * (((31 : Int64) * r135.1) + (((r135.2 1) (4 : Int32).toNatClampNeg).toInt64))) + (((r135.2 1) (5 : Int32).toNatClampNeg).toInt64))) + (((r135.2 1) (6 : Int32).toNatClampNeg).toInt64))), (0, .ref (a 0)), (1, .int l1)]) hx hb dX9_digest_177 rfl hl (by decide) rfl (fun ls hl => ?_)
    refine lv_ldc2 (v := (31 : Int64)) hx hb hown hw4 dX9_digest_178 ?_
    refine lv_ldc2 (v := (31 : Int64)) hx hb hown hw4 dX9_digest_181 ?_
    refine lv_lload_n hx hb dX9_digest_184 rfl (lv_at hl 0 rfl) ?_
    refine lv_lmul hx hb dX9_digest_185 ?_
    refine lv_iload_n hx hb dX9_digest_186 rfl (lv_at hl 2 rfl) ?_
    refine lv_if_eq (tgt := 199) hx hb dX9_digest_187 (by decide) (fun c9 => ?_) (fun c9 => ?_)
    · have hf := it_t hf c9
      refine lv_iconst (v := (0 : Int32)) hx hb dX9_digest_199 (by decide) ?_
      exact hfX9_digest_B200  (sr (sr (sr (sr M 0 (N 0)) 1 (r135.2 1)) 2 (r135.2 2)) 8 (r135.2 8)) l1 (31 : Int64) ((31 : Int64) * (((31 : Int64) * (((31 : Int64) * (((31 : Int64) * r135.1) + (((r135.2 1) (4 : Int32).toNatClampNeg).toInt64))) + (((r135.2 1) (5 : Int32).toNatClampNeg).toInt64))) + (((r135.2 1) (6 : Int32).toNatClampNeg).toInt64))) (0 : Int32) hf _ (lv_sub hl [1, 2] rfl) _ _ hP hD hS
    · have hf := it_f hf c9
      refine lv_aload_n hx hb dX9_digest_190 rfl (lv_at hl 1 rfl) ?_
      obtain ⟨r191, hc191, hf⟩ := bi_s hf
      have hPc := hP
      refine cRO (W.runV (As := []) (rest := [.long ((31 : Int64) * (((31 : Int64) * (((31 : Int64) * (((31 : Int64) * r135.1) + (((r135.2 1) (4 : Int32).toNatClampNeg).toInt64))) + (((r135.2 1) (5 : Int32).toNatClampNeg).toInt64))) + (((r135.2 1) (6 : Int32).toNatClampNeg).toInt64))), .long (31 : Int64)]) ⟨hx, hb, hml, hown, hts⟩ (c_X9_dearest l dC dI cI cZ a (sr (sr (sr (sr M 0 (N 0)) 1 (r135.2 1)) 2 (r135.2 2)) 8 (r135.2 8)) r191 hc191) (cwV 0 hts gX9_digest_X9_dearest rfl rfl rfl (by decide +kernel) ⟨Nat.le_of_ble_eq_true rfl, Nat.le_of_ble_eq_true rfl⟩) ⟨RO.blind, va_recv hK hP (ci := 9) (q0 := 0) rfl rfl, RO.pre hPc hK hNW⟩ rfl rfl hl.1 rfl (lv_room (Nat.le_of_ble_eq_true rfl)) dX9_digest_191 ⟨Nat.le_of_ble_eq_true rfl, Nat.le_of_ble_eq_true rfl⟩) ?_
      refine lv_iconst (v := (1 : Int32)) hx hb dX9_digest_194 (by decide) ?_
      refine lv_iadd hx hb dX9_digest_195 ?_
      refine lv_goto (tgt := 200) hx hb dX9_digest_196 (by decide) ?_
      exact hfX9_digest_B200  (sr (sr (sr (sr M 0 (N 0)) 1 (r135.2 1)) 2 (r135.2 2)) 8 (r135.2 8)) l1 (31 : Int64) ((31 : Int64) * (((31 : Int64) * (((31 : Int64) * (((31 : Int64) * r135.1) + (((r135.2 1) (4 : Int32).toNatClampNeg).toInt64))) + (((r135.2 1) (5 : Int32).toNatClampNeg).toInt64))) + (((r135.2 1) (6 : Int32).toNatClampNeg).toInt64))) (r191 + (1 : Int32)) hf _ (lv_sub hl [1, 2] rfl) _ _ hP hD hS
  have hl := lv_entry ([.ref (a 0)]) (n := 5) (Nat.le_of_ble_eq_true rfl)
  rw [lg_entry_eq]
  generalize (lg_sl ([.ref (a 0)]) ++ List.replicate (5 - (lg_sl ([.ref (a 0)])).length) Slot.unset).toArray = ls at hl ⊢
  have hl : lv_has ls 5 [(0, .ref (a 0))] := hl
  unfold fX9_digest at hf
  suffices hgo : ∀ (H : Heap) (locs : List Loc), va_P (dC, dI) vwCl (wX9 cI cZ a M) H → va_D A (wX9 cI cZ a M) → va_S A s.heap H locs → W p l e (headSpec wsX9_digest ({ frames := 9, cells := 0, slots := 0, locals := 212 } : Room)).room s m ([.ref (a 0)] : List Value).toArray below meth c H locs 0 0 (MQ below (va_Ql (S := Unit) (fun r _ => r = z.1) (fun _ t => WE (dC, dI) cI cZ (wX9 cI cZ a (sr (sr (sr (sr M 0 (z.2 0)) 1 (z.2 1)) 2 (z.2 2)) 8 (z.2 8))) A t) A) ([.ref (a 0)] : List Value).toArray s 0 0 A) (F0 m 0 ls []) from hgo _ _ hP hD hS
  intro H locs hP hD hS
  refine lv_aload_n hx hb dX9_digest_0 rfl (lv_at hl 0 rfl) ?_
  refine lv_iconst (v := (0 : Int32)) hx hb dX9_digest_1 (by decide) ?_
  refine va_put (D := (dC, dI)) (ci := 9) (v := .int (0 : Int32)) (ty := .int) (C := RX9) (T := TX9) (N := 13) hx hb hts hinX9 tyX9 tyX9_ok nmX9 hown hK hP hD hS 0 rfl rfl 0 (by decide) hw1 (fun _ h9 => h9) rfl (by decide +kernel) rfl rfl (Nat.le_of_ble_eq_true rfl) dX9_digest_2 (fun H locs hP hD hS => ?_)
  have hP : va_P (dC, dI) vwCl (wX9 cI cZ a (sr M 0 (upd (M 0) 0 (0 : Int32)))) H := hP
  have hD : va_D A (wX9 cI cZ a (sr M 0 (upd (M 0) 0 (0 : Int32)))) := hD
  refine lv_aload_n hx hb dX9_digest_5 rfl (lv_at hl 0 rfl) ?_
  refine va_get (D := (dC, dI)) (ci := 9) (v := .ref (a 1)) (C := RX9) (T := TX9) (N := 13) hx hb hts hinX9 hown hK hP 0 rfl rfl 1 (by decide) hw2 (fun _ h9 => h9) rfl dX9_digest_6 ?_
  refine lv_iconst (v := (0 : Int32)) hx hb dX9_digest_9 (by decide) ?_
  obtain ⟨hi, hf⟩ := gd_s hf
  refine va_iald (D := (dC, dI)) (f := (M 1)) hx hb hK hP 1 0 rfl rfl (inb_in hi) dX9_digest_10 ?_
  refine lv_if_le (tgt := 18) hx hb dX9_digest_11 (by decide) (fun c9 => ?_) (fun c9 => ?_)
  · have hf := it_t hf c9
    refine lv_iconst (v := (0 : Int32)) hx hb dX9_digest_18 (by decide) ?_
    exact hfX9_digest_B19  (sr M 0 (upd (M 0) 0 (0 : Int32))) (0 : Int32) hf _ (lv_sub hl [0] rfl) _ _ hP hD hS
  · have hf := it_f hf c9
    refine lv_iconst (v := (1 : Int32)) hx hb dX9_digest_14 (by decide) ?_
    refine lv_goto (tgt := 19) hx hb dX9_digest_15 (by decide) ?_
    exact hfX9_digest_B19  (sr M 0 (upd (M 0) 0 (0 : Int32))) (1 : Int32) hf _ (lv_sub hl [0] rfl) _ _ hP hD hS
