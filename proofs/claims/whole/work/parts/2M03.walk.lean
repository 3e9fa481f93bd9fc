set_option maxHeartbeats 4000000 in
set_option maxRecDepth 100000 in
theorem c_X9_isBare (l : Launch) (dC : Nat → ClassId) (dI : Nat → Nat → Nat) (cI cZ : ClassId) (a : Nat → Nat) (M : Mem) (a1 : Int32) (z : Int32) (hf : fX9_isBare M a1 = some z) : Met l yX9_isBare wsX9_isBare ({ frames := 1, cells := 0, slots := 0, locals := 22 } : Room) (va_Pc [.ref (a 0), .int a1] (RO (dC, dI) cI cZ (wX9 cI cZ a M))) (k2_QcV (.int z)) 0 0 (fun _ => False) := by
  refine Met.ofW (cc := cX9_isBare) (maxL := 4) (ret := (some .boolean)) (by decide) rfl ?_
  intro p e s m args below meth c s₁ B hml hv
  obtain ⟨rfl, hP, hK, hNW⟩ := hv
  have hx := B.exec
  have hb := B.bytes
  have hr := B.returns
  have hts := atoms_spec (ws := wsX9_isBare) B.pre
  have hown : s.vm.findClass RX9 = some m.cls := findClass_of_methodNamed B.named
  have hlocks := B.notSynchronized
  have hfX9_isBare_B30 : ∀ (kb : Int32 → Int32 → Int32 → Option (Int32)) (hkb : ∀ (l1 : Int32) (l2 : Int32) (l3 : Int32), kb l1 l2 l3 = some z → ∀ (ls : Array Slot), lv_has ls 4 [(0, .ref (a 0)), (1, .int l1), (2, .int l2), (3, .int l3)] → W p l e (headSpec wsX9_isBare ({ frames := 1, cells := 0, slots := 0, locals := 22 } : Room)).room s m ([.ref (a 0), .int a1] : List Value).toArray below meth c s.heap [] 0 0 (MQ below (k2_QcV (.int z)) ([.ref (a 0), .int a1] : List Value).toArray s 0 0 (fun _ => False)) (F0 m 4 ls [])) (kx37 : Int32 → Option (Int32)) (hkx37 : ∀ (l2 : Int32), kx37 l2 = some z → ∀ (ls : Array Slot), lv_has ls 4 [(2, .int l2)] → W p l e (headSpec wsX9_isBare ({ frames := 1, cells := 0, slots := 0, locals := 22 } : Room)).room s m ([.ref (a 0), .int a1] : List Value).toArray below meth c s.heap [] 0 0 (MQ below (k2_QcV (.int z)) ([.ref (a 0), .int a1] : List Value).toArray s 0 0 (fun _ => False)) (F0 m 37 ls [])), ∀ (l1 : Int32) (l3 : Int32) (s0 : Int32), fX9_isBare_B30 M kb kx37 l1 l3 s0 = some z → ∀ (ls : Array Slot), lv_has ls 4 [(0, .ref (a 0)), (1, .int l1), (3, .int l3)] → W p l e (headSpec wsX9_isBare ({ frames := 1, cells := 0, slots := 0, locals := 22 } : Room)).room s m ([.ref (a 0), .int a1] : List Value).toArray below meth c s.heap [] 0 0 (MQ below (k2_QcV (.int z)) ([.ref (a 0), .int a1] : List Value).toArray s 0 0 (fun _ => False)) (F0 m 30 ls [.int s0]) := by
    intro kb hkb kx37 hkx37 l1 l3 s0 hf ls hl
    unfold fX9_isBare_B30 at hf
    refine lv_istore_n (lv' := [(2, .int s0), (0, .ref (a 0)), (1, .int l1), (3, .int l3)]) hx hb dX9_isBare_30 rfl hl (by decide) rfl (fun ls hl => ?_)
    refine lv_iinc (v := (l3 + (1 : Int32))) (lv' := [(3, .int (l3 + (1 : Int32))), (2, .int s0), (0, .ref (a 0)), (1, .int l1)]) hx hb dX9_isBare_31 hl (k := 3) rfl rfl (by decide) rfl (fun ls hl => ?_)
    refine lv_goto (tgt := 4) hx hb dX9_isBare_34 (by decide) ?_
    exact hkb l1 s0 (l3 + (1 : Int32)) hf _ (lv_sub hl [2, 3, 1, 0] rfl)
  have hfX9_isBare_B29 : ∀ (kb : Int32 → Int32 → Int32 → Option (Int32)) (hkb : ∀ (l1 : Int32) (l2 : Int32) (l3 : Int32), kb l1 l2 l3 = some z → ∀ (ls : Array Slot), lv_has ls 4 [(0, .ref (a 0)), (1, .int l1), (2, .int l2), (3, .int l3)] → W p l e (headSpec wsX9_isBare ({ frames := 1, cells := 0, slots := 0, locals := 22 } : Room)).room s m ([.ref (a 0), .int a1] : List Value).toArray below meth c s.heap [] 0 0 (MQ below (k2_QcV (.int z)) ([.ref (a 0), .int a1] : List Value).toArray s 0 0 (fun _ => False)) (F0 m 4 ls [])) (kx37 : Int32 → Option (Int32)) (hkx37 : ∀ (l2 : Int32), kx37 l2 = some z → ∀ (ls : Array Slot), lv_has ls 4 [(2, .int l2)] → W p l e (headSpec wsX9_isBare ({ frames := 1, cells := 0, slots := 0, locals := 22 } : Room)).room s m ([.ref (a 0), .int a1] : List Value).toArray below meth c s.heap [] 0 0 (MQ below (k2_QcV (.int z)) ([.ref (a 0), .int a1] : List Value).toArray s 0 0 (fun _ => False)) (F0 m 37 ls [])), ∀ (l1 : Int32) (l3 : Int32), fX9_isBare_B29 M kb kx37 l1 l3 = some z → ∀ (ls : Array Slot), lv_has ls 4 [(0, .ref (a 0)), (1, .int l1), (3, .int l3)] → W p l e (headSpec wsX9_isBare ({ frames := 1, cells := 0, slots := 0, locals := 22 } : Room)).room s m ([.ref (a 0), .int a1] : List Value).toArray below meth c s.heap [] 0 0 (MQ below (k2_QcV (.int z)) ([.ref (a 0), .int a1] : List Value).toArray s 0 0 (fun _ => False)) (F0 m 29 ls []) := by
    intro kb hkb kx37 hkx37 l1 l3 hf ls hl
    unfold fX9_isBare_B29 at hf
    refine lv_iconst (v := (0 : Int32)) hx hb dX9_isBare_29 (by decide) ?_
    exact hfX9_isBare_B30 _ hkb _ hkx37 l1 l3 (0 : Int32) hf _ (lv_sub hl [0, 1, 2] rfl)
  have hfX9_isBare_L4 : ∀ (n : Nat) (kx37 : Int32 → Option (Int32)) (hkx37 : ∀ (l2 : Int32), kx37 l2 = some z → ∀ (ls : Array Slot), lv_has ls 4 [(2, .int l2)] → W p l e (headSpec wsX9_isBare ({ frames := 1, cells := 0, slots := 0, locals := 22 } : Room)).room s m ([.ref (a 0), .int a1] : List Value).toArray below meth c s.heap [] 0 0 (MQ below (k2_QcV (.int z)) ([.ref (a 0), .int a1] : List Value).toArray s 0 0 (fun _ => False)) (F0 m 37 ls [])), ∀ (l1 : Int32) (l2 : Int32) (l3 : Int32), fX9_isBare_L4 M n kx37 l1 l2 l3 = some z → ∀ (ls : Array Slot), lv_has ls 4 [(0, .ref (a 0)), (1, .int l1), (2, .int l2), (3, .int l3)] → W p l e (headSpec wsX9_isBare ({ frames := 1, cells := 0, slots := 0, locals := 22 } : Room)).room s m ([.ref (a 0), .int a1] : List Value).toArray below meth c s.heap [] 0 0 (MQ below (k2_QcV (.int z)) ([.ref (a 0), .int a1] : List Value).toArray s 0 0 (fun _ => False)) (F0 m 4 ls []) := by
    intro n
    induction n with
    | zero =>
      intro kx37 hkx37 l1 l2 l3 hf ls hl
      rw [fX9_isBare_L4] at hf
      cases hf
    | succ n ih =>
      intro kx37 hkx37 l1 l2 l3 hf ls hl
      rw [fX9_isBare_L4] at hf
      refine lv_iload_n hx hb dX9_isBare_4 rfl (lv_at hl 3 rfl) ?_
      refine lv_bipush (v := (10 : Int32)) hx hb dX9_isBare_5 (by decide) ?_
      refine lv_icmp_ge (tgt := 37) hx hb dX9_isBare_7 (by decide) (fun c9 => ?_) (fun c9 => ?_)
      · have hf := it_t hf c9
        exact hkx37 l2 hf _ (lv_sub hl [2] rfl)
      · have hf := it_f hf c9
        refine lv_iload_n hx hb dX9_isBare_10 rfl (lv_at hl 2 rfl) ?_
        refine lv_if_eq (tgt := 29) hx hb dX9_isBare_11 (by decide) (fun c9 => ?_) (fun c9 => ?_)
        · have hf := it_t hf c9
          exact hfX9_isBare_B29 _ (ih kx37 hkx37) _ hkx37 l1 l3 hf _ (lv_sub hl [0, 1, 3] rfl)
        · have hf := it_f hf c9
          refine lv_aload_n hx hb dX9_isBare_14 rfl (lv_at hl 0 rfl) ?_
          refine lv_iload_n hx hb dX9_isBare_15 rfl (lv_at hl 1 rfl) ?_
          refine lv_iconst (v := (4 : Int32)) hx hb dX9_isBare_16 (by decide) ?_
          refine lv_iload_n hx hb dX9_isBare_17 rfl (lv_at hl 3 rfl) ?_
          refine lv_iadd hx hb dX9_isBare_18 ?_
          obtain ⟨r19, hc19, hf⟩ := bi_s hf
          have hPc := hP
          refine cRO (W.runV (As := [.int l1, .int ((4 : Int32) + l3)]) (rest := []) ⟨hx, hb, hml, hown, hts⟩ (c_X9_of l dC dI cI cZ a M l1 ((4 : Int32) + l3) r19 hc19) (cwV 2 hts gX9_isBare_X9_of rfl rfl rfl (by decide +kernel) ⟨Nat.le_of_ble_eq_true rfl, Nat.le_of_ble_eq_true rfl⟩) ⟨RO.blind, va_recv hK hP (ci := 9) (q0 := 0) rfl rfl, RO.pre hPc hK hNW⟩ rfl rfl hl.1 rfl (lv_room (Nat.le_of_ble_eq_true rfl)) dX9_isBare_19 ⟨Nat.le_of_ble_eq_true rfl, Nat.le_of_ble_eq_true rfl⟩) ?_
          refine lv_if_ne (tgt := 29) hx hb dX9_isBare_22 (by decide) (fun c9 => ?_) (fun c9 => ?_)
          · have hf := it_t hf c9
            exact hfX9_isBare_B29 _ (ih kx37 hkx37) _ hkx37 l1 l3 hf _ (lv_sub hl [0, 1, 3] rfl)
          · have hf := it_n hf c9
            refine lv_iconst (v := (1 : Int32)) hx hb dX9_isBare_25 (by decide) ?_
            refine lv_goto (tgt := 30) hx hb dX9_isBare_26 (by decide) ?_
            exact hfX9_isBare_B30 _ (ih kx37 hkx37) _ hkx37 l1 l3 (1 : Int32) hf _ (lv_sub hl [0, 1, 3] rfl)
  have hl := lv_entry ([.ref (a 0), .int a1]) (n := 4) (Nat.le_of_ble_eq_true rfl)
  rw [lg_entry_eq]
  generalize (lg_sl ([.ref (a 0), .int a1]) ++ List.replicate (4 - (lg_sl ([.ref (a 0), .int a1])).length) Slot.unset).toArray = ls at hl ⊢
  have hl : lv_has ls 4 [(0, .ref (a 0)), (1, .int a1)] := hl
  unfold fX9_isBare at hf
  refine lv_iconst (v := (1 : Int32)) hx hb dX9_isBare_0 (by decide) ?_
  refine lv_istore_n (lv' := [(2, .int (1 : Int32)), (0, .ref (a 0)), (1, .int a1)]) hx hb dX9_isBare_1 rfl hl (by decide) rfl (fun ls hl => ?_)
  refine lv_iconst (v := (0 : Int32)) hx hb dX9_isBare_2 (by decide) ?_
  refine lv_istore_n (lv' := [(3, .int (0 : Int32)), (2, .int (1 : Int32)), (0, .ref (a 0)), (1, .int a1)]) hx hb dX9_isBare_3 rfl hl (by decide) rfl (fun ls hl => ?_)
  refine hfX9_isBare_L4 5000 _ (fun l2 hf ls hl => ?_) a1 (1 : Int32) (0 : Int32) hf _ (lv_sub hl [2, 3, 1, 0] rfl)
  refine lv_iload_n hx hb dX9_isBare_37 rfl (lv_at hl 0 rfl) ?_
  obtain ⟨hz, hf⟩ := gd_s hf
  exact W.zret (v := l2) hx hb hr (isb_nar hz) (fun t ht hW => ⟨congrArg (fun x => Outcome.returned (some (Value.int x))) (so_e hf), ht⟩) fl0 dX9_isBare_38
set_option maxHeartbeats 4000000 in
set_option maxRecDepth 100000 in
theorem c_X9_scrap (l : Launch) (dC : Nat → ClassId) (dI : Nat → Nat → Nat) (cI cZ : ClassId) (a : Nat → Nat) (sz : Nat) (M : Mem) (a1 : Int32) (z : Int32 × Mem) (hf : fX9_scrap M a1 = some z) : Met l yX9_scrap wsX9_scrap ({ frames := 2, cells := 0, slots := 0, locals := 45 } : Room) (va_Pc [.ref (a 0), .int a1] (WR (dC, dI) cI cZ (wX9 cI cZ a M) sz)) (va_Qi (S := Unit) (fun r _ => r = z.1) (fun _ t => WE (dC, dI) cI cZ (wX9 cI cZ a (sr (sr (sr M 0 (z.2 0)) 1 (z.2 1)) 3 (z.2 3))) (va_A (wX9 cI cZ a M) sz) t) (va_A (wX9 cI cZ a M) sz)) 0 0 (va_A (wX9 cI cZ a M) sz) := by
  refine Met.ofW (cc := cX9_scrap) (maxL := 4) (ret := (some .int)) (by decide) rfl ?_
  intro p e s m args below meth c s₁ B hml hv
  obtain ⟨rfl, hsz, hP, hK, hD0, hNW⟩ := hv
  have hx := B.exec
  have hb := B.bytes
  have hr := B.returns
  have hts := atoms_spec (ws := wsX9_scrap) B.pre
  have hown : s.vm.findClass RX9 = some m.cls := findClass_of_methodNamed B.named
  have hlocks := B.notSynchronized
  have hinX9 : ∀ w ∈ u_ws RX9 TX9 13, w ∈ wsX9_scrap := by decide +kernel
  have hw1 := hts (.fieldLink RX9 35 "GlideShelvesModel" "thrown" "I") (by decide +kernel)
  have hw2 := hts (.fieldLink RX9 7 "GlideShelvesModel" "s" "[I") (by decide +kernel)
  subst hsz
  have hD := hD0.self (sz := s.heap.size)
  generalize hAe : va_A (wX9 cI cZ a M) s.heap.size = A at hD ⊢
  have hA : ∀ q : Nat, s.heap.size ≤ q → A q := fun q h => by rw [← hAe]; exact Or.inr h
  have hS : va_S A s.heap s.heap [] := va_S.rf
  have hfX9_scrap_B37 : ∀ (N : Mem), fX9_scrap_B37 M  N = some z → ∀ (ls : Array Slot), lv_has ls 4 [(0, .ref (a 0))] → ∀ (H : Heap) (locs : List Loc), va_P (dC, dI) vwCl (wX9 cI cZ a (sr (sr (sr M 0 (N 0)) 1 (N 1)) 3 (N 3))) H → va_D A (wX9 cI cZ a (sr (sr (sr M 0 (N 0)) 1 (N 1)) 3 (N 3))) → va_S A s.heap H locs → W p l e (headSpec wsX9_scrap ({ frames := 2, cells := 0, slots := 0, locals := 45 } : Room)).room s m ([.ref (a 0), .int a1] : List Value).toArray below meth c H locs 0 0 (MQ below (va_Qi (S := Unit) (fun r _ => r = z.1) (fun _ t => WE (dC, dI) cI cZ (wX9 cI cZ a (sr (sr (sr M 0 (z.2 0)) 1 (z.2 1)) 3 (z.2 3))) A t) A) ([.ref (a 0), .int a1] : List Value).toArray s 0 0 A) (F0 m 37 ls []) := by
    intro  N hf ls hl H locs hP hD hS
    unfold fX9_scrap_B37 at hf
    refine lv_aload_n hx hb dX9_scrap_37 rfl (lv_at hl 0 rfl) ?_
    refine lv_iconst (v := (2 : Int32)) hx hb dX9_scrap_38 (by decide) ?_
    obtain ⟨r39, hc39, hf⟩ := bi_s hf
    have hPc := hP
    have hDc := hD
    have hFc := va_free (wc := (wX9 cI cZ a (sr (sr (sr M 0 (N 0)) 1 (N 1)) 3 (N 3)))) hD hS hA [0, 1, 2, 3, 4, 5, 6, 7, 8] rfl
    refine va_calli (va_runV (As := [.int (2 : Int32)]) (rest := []) ⟨hx, hb, hml, hown, hts⟩ (c_X9_fails l dC dI cI cZ a H.size (sr (sr (sr M 0 (N 0)) 1 (N 1)) 3 (N 3)) (2 : Int32) r39 hc39) (cwV 1 hts gX9_scrap_X9_fails rfl rfl rfl (by decide +kernel) ⟨Nat.le_of_ble_eq_true rfl, Nat.le_of_ble_eq_true rfl⟩) ⟨WR.blind, va_recv hK hP (ci := 9) (q0 := 0) rfl rfl, WR.pre hPc hK hDc hNW⟩ rfl rfl hl.1 rfl (lv_room (Nat.le_of_ble_eq_true rfl)) dX9_scrap_39 ⟨Nat.le_of_ble_eq_true rfl, Nat.le_of_ble_eq_true rfl⟩) hS (fun q _ h => hFc q h) hFc (fun rv u t H1 locs ht hvm hw hB hz1 hk1 hS => ?_)
    obtain ⟨hP1, hD1⟩ := hB
    rw [ht] at hP1
    subst hw
    have hP := hP1
    have hD := hD1.weaken (fun k q _ h => hFc q.1 h)
    have hP : va_P (dC, dI) vwCl (wX9 cI cZ a (sr (sr (sr M 0 (r39.2 0)) 1 (N 1)) 3 (N 3))) H1 := hP
    have hD : va_D A (wX9 cI cZ a (sr (sr (sr M 0 (r39.2 0)) 1 (N 1)) 3 (N 3))) := hD
    generalize H1 = H at hP hS ⊢
    have e9 := so_e hf
    subst e9
    exact W.iret (v := r39.1) hx hb hr (fun t ht hW => ⟨⟨r39.1, (), rfl, rfl, WE.mk hP hD ht⟩, hS.F ht⟩) hS.2.2 dX9_scrap_42
  have hfX9_scrap_L69 : ∀ (n : Nat) (kx109 : Mem → Int32 → Int32 → Option (Int32 × Mem)) (hkx109 : ∀ (N : Mem) (l1 : Int32) (l2 : Int32), kx109 N l1 l2 = some z → ∀ (ls : Array Slot), lv_has ls 4 [(0, .ref (a 0)), (1, .int l1), (2, .int l2)] → ∀ (H : Heap) (locs : List Loc), va_P (dC, dI) vwCl (wX9 cI cZ a (sr (sr (sr M 0 (N 0)) 1 (N 1)) 3 (N 3))) H → va_D A (wX9 cI cZ a (sr (sr (sr M 0 (N 0)) 1 (N 1)) 3 (N 3))) → va_S A s.heap H locs → W p l e (headSpec wsX9_scrap ({ frames := 2, cells := 0, slots := 0, locals := 45 } : Room)).room s m ([.ref (a 0), .int a1] : List Value).toArray below meth c H locs 0 0 (MQ below (va_Qi (S := Unit) (fun r _ => r = z.1) (fun _ t => WE (dC, dI) cI cZ (wX9 cI cZ a (sr (sr (sr M 0 (z.2 0)) 1 (z.2 1)) 3 (z.2 3))) A t) A) ([.ref (a 0), .int a1] : List Value).toArray s 0 0 A) (F0 m 109 ls [])), ∀ (N : Mem) (l1 : Int32) (l2 : Int32) (l3 : Int32), fX9_scrap_L69 M n kx109 N l1 l2 l3 = some z → ∀ (ls : Array Slot), lv_has ls 4 [(0, .ref (a 0)), (1, .int l1), (2, .int l2), (3, .int l3)] → ∀ (H : Heap) (locs : List Loc), va_P (dC, dI) vwCl (wX9 cI cZ a (sr (sr (sr M 0 (N 0)) 1 (N 1)) 3 (N 3))) H → va_D A (wX9 cI cZ a (sr (sr (sr M 0 (N 0)) 1 (N 1)) 3 (N 3))) → va_S A s.heap H locs → W p l e (headSpec wsX9_scrap ({ frames := 2, cells := 0, slots := 0, locals := 45 } : Room)).room s m ([.ref (a 0), .int a1] : List Value).toArray below meth c H locs 0 0 (MQ below (va_Qi (S := Unit) (fun r _ => r = z.1) (fun _ t => WE (dC, dI) cI cZ (wX9 cI cZ a (sr (sr (sr M 0 (z.2 0)) 1 (z.2 1)) 3 (z.2 3))) A t) A) ([.ref (a 0), .int a1] : List Value).toArray s 0 0 A) (F0 m 69 ls []) := by
    intro n
    induction n with
    | zero =>
      intro kx109 hkx109 N l1 l2 l3 hf ls hl H locs hP hD hS
      rw [fX9_scrap_L69] at hf
      cases hf
    | succ n ih =>
      intro kx109 hkx109 N l1 l2 l3 hf ls hl H locs hP hD hS
      rw [fX9_scrap_L69] at hf
      refine lv_iload_n hx hb dX9_scrap_69 rfl (lv_at hl 3 rfl) ?_
      refine lv_bipush (v := (14 : Int32)) hx hb dX9_scrap_70 (by decide) ?_
      refine lv_aload_n hx hb dX9_scrap_72 rfl (lv_at hl 0 rfl) ?_
      refine va_get (D := (dC, dI)) (ci := 9) (v := .ref (a 1)) (C := RX9) (T := TX9) (N := 13) hx hb hts hinX9 hown hK hP 0 rfl rfl 1 (by decide) hw2 (fun _ h9 => h9) rfl dX9_scrap_73 ?_
      refine lv_iconst (v := (0 : Int32)) hx hb dX9_scrap_76 (by decide) ?_
      obtain ⟨hi, hf⟩ := gd_s hf
      refine va_iald (D := (dC, dI)) (f := (N 1)) hx hb hK hP 1 0 rfl rfl (inb_in hi) dX9_scrap_77 ?_
      refine lv_imul hx hb dX9_scrap_78 ?_
      refine lv_icmp_ge (tgt := 109) hx hb dX9_scrap_79 (by decide) (fun c9 => ?_) (fun c9 => ?_)
      · have hf := it_t hf c9
        exact hkx109 (sr (sr (sr M 0 (N 0)) 1 (N 1)) 3 (N 3)) l1 l2 hf _ (lv_sub hl [0, 1, 2] rfl) _ _ hP hD hS
      · have hf := it_f hf c9
        refine lv_aload_n hx hb dX9_scrap_82 rfl (lv_at hl 0 rfl) ?_
        refine va_get (D := (dC, dI)) (ci := 9) (v := .ref (a 1)) (C := RX9) (T := TX9) (N := 13) hx hb hts hinX9 hown hK hP 0 rfl rfl 1 (by decide) hw2 (fun _ h9 => h9) rfl dX9_scrap_83 ?_
        refine lv_bipush (v := (9 : Int32)) hx hb dX9_scrap_86 (by decide) ?_
        refine lv_iload_n hx hb dX9_scrap_88 rfl (lv_at hl 3 rfl) ?_
        refine lv_iadd hx hb dX9_scrap_89 ?_
        refine lv_aload_n hx hb dX9_scrap_90 rfl (lv_at hl 0 rfl) ?_
        refine va_get (D := (dC, dI)) (ci := 9) (v := .ref (a 1)) (C := RX9) (T := TX9) (N := 13) hx hb hts hinX9 hown hK hP 0 rfl rfl 1 (by decide) hw2 (fun _ h9 => h9) rfl dX9_scrap_91 ?_
        refine lv_bipush (v := (9 : Int32)) hx hb dX9_scrap_94 (by decide) ?_
        refine lv_iload_n hx hb dX9_scrap_96 rfl (lv_at hl 3 rfl) ?_
        refine lv_iadd hx hb dX9_scrap_97 ?_
        refine lv_bipush (v := (14 : Int32)) hx hb dX9_scrap_98 (by decide) ?_
        refine lv_iadd hx hb dX9_scrap_100 ?_
        obtain ⟨hi, hf⟩ := gd_s hf
        refine va_iald (D := (dC, dI)) (f := (N 1)) hx hb hK hP 1 0 rfl rfl (inb_in hi) dX9_scrap_101 ?_
        obtain ⟨hi, hf⟩ := gd_s hf
        refine va_iast (D := (dC, dI)) (f := (N 1)) hx hb hK hP hD hS 1 0 rfl rfl (inb_in hi) dX9_scrap_102 (fun H locs hP hD hS => ?_)
        have hP : va_P (dC, dI) vwCl (wX9 cI cZ a (sr (sr (sr M 0 (N 0)) 1 (upd (N 1) ((9 : Int32) + l3).toNatClampNeg (N 1 (((9 : Int32) + l3) + (14 : Int32)).toNatClampNeg))) 3 (N 3))) H := hP
        have hD : va_D A (wX9 cI cZ a (sr (sr (sr M 0 (N 0)) 1 (upd (N 1) ((9 : Int32) + l3).toNatClampNeg (N 1 (((9 : Int32) + l3) + (14 : Int32)).toNatClampNeg))) 3 (N 3))) := hD
        refine lv_iinc (v := (l3 + (1 : Int32))) (lv' := [(3, .int (l3 + (1 : Int32))), (0, .ref (a 0)), (1, .int l1), (2, .int l2)]) hx hb dX9_scrap_103 hl (k := 3) rfl rfl (by decide) rfl (fun ls hl => ?_)
        refine lv_goto (tgt := 69) hx hb dX9_scrap_106 (by decide) ?_
        exact ih kx109 hkx109 (sr (sr (sr M 0 (N 0)) 1 (upd (N 1) ((9 : Int32) + l3).toNatClampNeg (N 1 (((9 : Int32) + l3) + (14 : Int32)).toNatClampNeg))) 3 (N 3)) l1 l2 (l3 + (1 : Int32)) hf _ (lv_sub hl [1, 2, 3, 0] rfl) _ _ hP hD hS
  have hfX9_scrap_B131 : ∀ (N : Mem) (l2 : Int32) (s1 : Int32) (s2 : Int32) (s3 : Int32), fX9_scrap_B131 M  N l2 s1 s2 s3 = some z → ∀ (ls : Array Slot), lv_has ls 4 [(2, .int l2)] → ∀ (H : Heap) (locs : List Loc), va_P (dC, dI) vwCl (wX9 cI cZ a (sr (sr (sr M 0 (N 0)) 1 (N 1)) 3 (N 3))) H → va_D A (wX9 cI cZ a (sr (sr (sr M 0 (N 0)) 1 (N 1)) 3 (N 3))) → va_S A s.heap H locs → W p l e (headSpec wsX9_scrap ({ frames := 2, cells := 0, slots := 0, locals := 45 } : Room)).room s m ([.ref (a 0), .int a1] : List Value).toArray below meth c H locs 0 0 (MQ below (va_Qi (S := Unit) (fun r _ => r = z.1) (fun _ t => WE (dC, dI) cI cZ (wX9 cI cZ a (sr (sr (sr M 0 (z.2 0)) 1 (z.2 1)) 3 (z.2 3))) A t) A) ([.ref (a 0), .int a1] : List Value).toArray s 0 0 A) (F0 m 131 ls [.int s3, .int s2, .int s1, .ref (a 1)]) := by
    intro  N l2 s1 s2 s3 hf ls hl H locs hP hD hS
    unfold fX9_scrap_B131 at hf
    refine lv_isub hx hb dX9_scrap_131 ?_
    obtain ⟨hi, hf⟩ := gd_s hf
    refine va_iast (D := (dC, dI)) (f := (N 1)) hx hb hK hP hD hS 1 0 rfl rfl (inb_in hi) dX9_scrap_132 (fun H locs hP hD hS => ?_)
    have hP : va_P (dC, dI) vwCl (wX9 cI cZ a (sr (sr (sr M 0 (N 0)) 1 (upd (N 1) s1.toNatClampNeg (s2 - s3))) 3 (N 3))) H := hP
    have hD : va_D A (wX9 cI cZ a (sr (sr (sr M 0 (N 0)) 1 (upd (N 1) s1.toNatClampNeg (s2 - s3))) 3 (N 3))) := hD
    refine lv_iload_n hx hb dX9_scrap_133 rfl (lv_at hl 0 rfl) ?_
    have e9 := so_e hf
    subst e9
    exact W.iret (v := l2) hx hb hr (fun t ht hW => ⟨⟨l2, (), rfl, rfl, WE.mk hP hD ht⟩, hS.F ht⟩) hS.2.2 dX9_scrap_134
  have hl := lv_entry ([.ref (a 0), .int a1]) (n := 4) (Nat.le_of_ble_eq_true rfl)
  rw [lg_entry_eq]
  generalize (lg_sl ([.ref (a 0), .int a1]) ++ List.replicate (4 - (lg_sl ([.ref (a 0), .int a1])).length) Slot.unset).toArray = ls at hl ⊢
  have hl : lv_has ls 4 [(0, .ref (a 0)), (1, .int a1)] := hl
  unfold fX9_scrap at hf
  suffices hgo : ∀ (H : Heap) (locs : List Loc), va_P (dC, dI) vwCl (wX9 cI cZ a M) H → va_D A (wX9 cI cZ a M) → va_S A s.heap H locs → W p l e (headSpec wsX9_scrap ({ frames := 2, cells := 0, slots := 0, locals := 45 } : Room)).room s m ([.ref (a 0), .int a1] : List Value).toArray below meth c H locs 0 0 (MQ below (va_Qi (S := Unit) (fun r _ => r = z.1) (fun _ t => WE (dC, dI) cI cZ (wX9 cI cZ a (sr (sr (sr M 0 (z.2 0)) 1 (z.2 1)) 3 (z.2 3))) A t) A) ([.ref (a 0), .int a1] : List Value).toArray s 0 0 A) (F0 m 0 ls []) from hgo _ _ hP hD hS
  intro H locs hP hD hS
  refine lv_aload_n hx hb dX9_scrap_0 rfl (lv_at hl 0 rfl) ?_
  refine lv_iconst (v := (0 : Int32)) hx hb dX9_scrap_1 (by decide) ?_
  refine va_put (D := (dC, dI)) (ci := 9) (v := .int (0 : Int32)) (ty := .int) (C := RX9) (T := TX9) (N := 13) hx hb hts hinX9 tyX9 tyX9_ok nmX9 hown hK hP hD hS 0 rfl rfl 0 (by decide) hw1 (fun _ h9 => h9) rfl (by decide +kernel) rfl rfl (Nat.le_of_ble_eq_true rfl) dX9_scrap_2 (fun H locs hP hD hS => ?_)
  have hP : va_P (dC, dI) vwCl (wX9 cI cZ a (sr M 0 (upd (M 0) 0 (0 : Int32)))) H := hP
  have hD : va_D A (wX9 cI cZ a (sr M 0 (upd (M 0) 0 (0 : Int32)))) := hD
  refine lv_aload_n hx hb dX9_scrap_5 rfl (lv_at hl 0 rfl) ?_
  refine lv_iload_n hx hb dX9_scrap_6 rfl (lv_at hl 1 rfl) ?_
  obtain ⟨r7, hc7, hf⟩ := bi_s hf
  have hPc := hP
  refine cRO (W.runV (As := [.int a1]) (rest := []) ⟨hx, hb, hml, hown, hts⟩ (c_X9_isShelf l dC dI cI cZ a (sr M 0 (upd (M 0) 0 (0 : Int32))) a1 r7 hc7) (cwV 1 hts gX9_scrap_X9_isShelf rfl rfl rfl (by decide +kernel) ⟨Nat.le_of_ble_eq_true rfl, Nat.le_of_ble_eq_true rfl⟩) ⟨RO.blind, va_recv hK hP (ci := 9) (q0 := 0) rfl rfl, RO.pre hPc hK hNW⟩ rfl rfl hl.1 rfl (lv_room (Nat.le_of_ble_eq_true rfl)) dX9_scrap_7 ⟨Nat.le_of_ble_eq_true rfl, Nat.le_of_ble_eq_true rfl⟩) ?_
  refine lv_if_ne (tgt := 19) hx hb dX9_scrap_10 (by decide) (fun c9 => ?_) (fun c9 => ?_)
  · have hf := it_t hf c9
    refine lv_aload_n hx hb dX9_scrap_19 rfl (lv_at hl 0 rfl) ?_
    refine lv_iload_n hx hb dX9_scrap_20 rfl (lv_at hl 1 rfl) ?_
    obtain ⟨r21, hc21, hf⟩ := bi_s hf
    have hPc := hP
    refine cRO (W.runV (As := [.int a1]) (rest := []) ⟨hx, hb, hml, hown, hts⟩ (c_X9_isBare l dC dI cI cZ a (sr M 0 (upd (M 0) 0 (0 : Int32))) a1 r21 hc21) (cwV 1 hts gX9_scrap_X9_isBare rfl rfl rfl (by decide +kernel) ⟨Nat.le_of_ble_eq_true rfl, Nat.le_of_ble_eq_true rfl⟩) ⟨RO.blind, va_recv hK hP (ci := 9) (q0 := 0) rfl rfl, RO.pre hPc hK hNW⟩ rfl rfl hl.1 rfl (lv_room (Nat.le_of_ble_eq_true rfl)) dX9_scrap_21 ⟨Nat.le_of_ble_eq_true rfl, Nat.le_of_ble_eq_true rfl⟩) ?_
    refine lv_if_eq (tgt := 37) hx hb dX9_scrap_24 (by decide) (fun c9 => ?_) (fun c9 => ?_)
    · have hf := it_t hf c9
      exact hfX9_scrap_B37  (sr M 0 (upd (M 0) 0 (0 : Int32))) hf _ (lv_sub hl [0] rfl) _ _ hP hD hS
    · have hf := it_f hf c9
      refine lv_iload_n hx hb dX9_scrap_27 rfl (lv_at hl 1 rfl) ?_
      refine lv_aload_n hx hb dX9_scrap_28 rfl (lv_at hl 0 rfl) ?_
      refine va_get (D := (dC, dI)) (ci := 9) (v := .ref (a 1)) (C := RX9) (T := TX9) (N := 13) hx hb hts hinX9 hown hK hP 0 rfl rfl 1 (by decide) hw2 (fun _ h9 => h9) rfl dX9_scrap_29 ?_
      refine lv_iconst (v := (1 : Int32)) hx hb dX9_scrap_32 (by decide) ?_
      obtain ⟨hi, hf⟩ := gd_s hf
      refine va_iald (D := (dC, dI)) (f := (M 1)) hx hb hK hP 1 0 rfl rfl (inb_in hi) dX9_scrap_33 ?_
      refine lv_icmp_ne (tgt := 43) hx hb dX9_scrap_34 (by decide) (fun c9 => ?_) (fun c9 => ?_)
      · have hf := it_t hf c9
        refine lv_aload_n hx hb dX9_scrap_43 rfl (lv_at hl 0 rfl) ?_
        obtain ⟨r44, hc44, hf⟩ := bi_s hf
        have hPc := hP
        have hDc := hD
        have hFc := va_free (wc := (wX9 cI cZ a (sr M 0 (upd (M 0) 0 (0 : Int32))))) hD hS hA [0, 1, 2, 3, 4, 5, 6, 7, 8] rfl
        refine va_callv (va_runV (As := []) (rest := []) ⟨hx, hb, hml, hown, hts⟩ (c_X9_records l dC dI cI cZ a H.size (sr M 0 (upd (M 0) 0 (0 : Int32))) r44 hc44) (cwV 0 hts gX9_scrap_X9_records rfl rfl rfl (by decide +kernel) ⟨Nat.le_of_ble_eq_true rfl, Nat.le_of_ble_eq_true rfl⟩) ⟨WR.blind, va_recv hK hP (ci := 9) (q0 := 0) rfl rfl, WR.pre hPc hK hDc hNW⟩ rfl rfl hl.1 rfl (lv_room (Nat.le_of_ble_eq_true rfl)) dX9_scrap_44 ⟨Nat.le_of_ble_eq_true rfl, Nat.le_of_ble_eq_true rfl⟩) hS (fun q _ h => hFc q h) hFc (fun u t H1 locs ht hvm hw hB hz1 hk1 hS => ?_)
        obtain ⟨hP1, hD1⟩ := hB
        rw [ht] at hP1
        have hP := hP1
        have hD := hD1.weaken (fun k q _ h => hFc q.1 h)
        have hP : va_P (dC, dI) vwCl (wX9 cI cZ a (sr (sr M 0 (r44 0)) 3 (r44 3))) H1 := hP
        have hD : va_D A (wX9 cI cZ a (sr (sr M 0 (r44 0)) 3 (r44 3))) := hD
        generalize H1 = H at hP hS ⊢
        refine lv_aload_n hx hb dX9_scrap_47 rfl (lv_at hl 0 rfl) ?_
        refine lv_iload_n hx hb dX9_scrap_48 rfl (lv_at hl 1 rfl) ?_
        refine lv_iconst (v := (0 : Int32)) hx hb dX9_scrap_49 (by decide) ?_
        obtain ⟨r50, hc50, hf⟩ := bi_s hf
        have hPc := hP
        refine cRO (W.runV (As := [.int a1, .int (0 : Int32)]) (rest := []) ⟨hx, hb, hml, hown, hts⟩ (c_X9_of l dC dI cI cZ a (sr (sr M 0 (r44 0)) 3 (r44 3)) a1 (0 : Int32) r50 hc50) (cwV 2 hts gX9_scrap_X9_of rfl rfl rfl (by decide +kernel) ⟨Nat.le_of_ble_eq_true rfl, Nat.le_of_ble_eq_true rfl⟩) ⟨RO.blind, va_recv hK hP (ci := 9) (q0 := 0) rfl rfl, RO.pre hPc hK hNW⟩ rfl rfl hl.1 rfl (lv_room (Nat.le_of_ble_eq_true rfl)) dX9_scrap_50 ⟨Nat.le_of_ble_eq_true rfl, Nat.le_of_ble_eq_true rfl⟩) ?_
        refine lv_istore_n (lv' := [(2, .int r50), (0, .ref (a 0)), (1, .int a1)]) hx hb dX9_scrap_53 rfl hl (by decide) rfl (fun ls hl => ?_)
        refine lv_aload_n hx hb dX9_scrap_54 rfl (lv_at hl 1 rfl) ?_
        refine va_get (D := (dC, dI)) (ci := 9) (v := .ref (a 1)) (C := RX9) (T := TX9) (N := 13) hx hb hts hinX9 hown hK hP 0 rfl rfl 1 (by decide) hw2 (fun _ h9 => h9) rfl dX9_scrap_55 ?_
        refine lv_iconst (v := (0 : Int32)) hx hb dX9_scrap_58 (by decide) ?_
        refine lv_dup2_11 hx hb dX9_scrap_59 rfl rfl ?_
        obtain ⟨hi, hf⟩ := gd_s hf
        refine va_iald (D := (dC, dI)) (f := (M 1)) hx hb hK hP 1 0 rfl rfl (inb_in hi) dX9_scrap_60 ?_
        refine lv_iconst (v := (1 : Int32)) hx hb dX9_scrap_61 (by decide) ?_
        refine lv_isub hx hb dX9_scrap_62 ?_
        obtain ⟨hi, hf⟩ := gd_s hf
        refine va_iast (D := (dC, dI)) (f := (M 1)) hx hb hK hP hD hS 1 0 rfl rfl (inb_in hi) dX9_scrap_63 (fun H locs hP hD hS => ?_)
        have hP : va_P (dC, dI) vwCl (wX9 cI cZ a (sr (sr (sr M 0 (r44 0)) 1 (upd (M 1) (0 : Int32).toNatClampNeg ((M 1 (0 : Int32).toNatClampNeg) - (1 : Int32)))) 3 (r44 3))) H := hP
        have hD : va_D A (wX9 cI cZ a (sr (sr (sr M 0 (r44 0)) 1 (upd (M 1) (0 : Int32).toNatClampNeg ((M 1 (0 : Int32).toNatClampNeg) - (1 : Int32)))) 3 (r44 3))) := hD
        refine lv_bipush (v := (14 : Int32)) hx hb dX9_scrap_64 (by decide) ?_
        refine lv_iload_n hx hb dX9_scrap_66 rfl (lv_at hl 2 rfl) ?_
        refine lv_imul hx hb dX9_scrap_67 ?_
        refine lv_istore_n (lv' := [(3, .int ((14 : Int32) * a1)), (2, .int r50), (0, .ref (a 0)), (1, .int a1)]) hx hb dX9_scrap_68 rfl hl (by decide) rfl (fun ls hl => ?_)
        refine hfX9_scrap_L69 5000 _ (fun N l1 l2 hf ls hl H locs hP hD hS => ?_) (sr (sr (sr M 0 (r44 0)) 1 (upd (M 1) (0 : Int32).toNatClampNeg ((M 1 (0 : Int32).toNatClampNeg) - (1 : Int32)))) 3 (r44 3)) a1 r50 ((14 : Int32) * a1) hf _ (lv_sub hl [2, 3, 1, 0] rfl) _ _ hP hD hS
        refine lv_aload_n hx hb dX9_scrap_109 rfl (lv_at hl 0 rfl) ?_
        refine va_get (D := (dC, dI)) (ci := 9) (v := .ref (a 1)) (C := RX9) (T := TX9) (N := 13) hx hb hts hinX9 hown hK hP 0 rfl rfl 1 (by decide) hw2 (fun _ h9 => h9) rfl dX9_scrap_110 ?_
        refine lv_iconst (v := (1 : Int32)) hx hb dX9_scrap_113 (by decide) ?_
        refine lv_dup2_11 hx hb dX9_scrap_114 rfl rfl ?_
        obtain ⟨hi, hf⟩ := gd_s hf
        refine va_iald (D := (dC, dI)) (f := (N 1)) hx hb hK hP 1 0 rfl rfl (inb_in hi) dX9_scrap_115 ?_
        refine lv_aload_n hx hb dX9_scrap_116 rfl (lv_at hl 0 rfl) ?_
        refine va_get (D := (dC, dI)) (ci := 9) (v := .ref (a 1)) (C := RX9) (T := TX9) (N := 13) hx hb hts hinX9 hown hK hP 0 rfl rfl 1 (by decide) hw2 (fun _ h9 => h9) rfl dX9_scrap_117 ?_
        refine lv_iconst (v := (1 : Int32)) hx hb dX9_scrap_120 (by decide) ?_
        obtain ⟨hi, hf⟩ := gd_s hf
        refine va_iald (D := (dC, dI)) (f := (N 1)) hx hb hK hP 1 0 rfl rfl (inb_in hi) dX9_scrap_121 ?_
        refine lv_iload_n hx hb dX9_scrap_122 rfl (lv_at hl 1 rfl) ?_
        refine lv_icmp_le (tgt := 130) hx hb dX9_scrap_123 (by decide) (fun c9 => ?_) (fun c9 => ?_)
        · have hf := it_t hf c9
          refine lv_iconst (v := (0 : Int32)) hx hb dX9_scrap_130 (by decide) ?_
          exact hfX9_scrap_B131  (sr (sr (sr M 0 (N 0)) 1 (N 1)) 3 (N 3)) l2 (1 : Int32) (N 1 (1 : Int32).toNatClampNeg) (0 : Int32) hf _ (lv_sub hl [2] rfl) _ _ hP hD hS
        · have hf := it_f hf c9
          refine lv_iconst (v := (1 : Int32)) hx hb dX9_scrap_126 (by decide) ?_
          refine lv_goto (tgt := 131) hx hb dX9_scrap_127 (by decide) ?_
          exact hfX9_scrap_B131  (sr (sr (sr M 0 (N 0)) 1 (N 1)) 3 (N 3)) l2 (1 : Int32) (N 1 (1 : Int32).toNatClampNeg) (1 : Int32) hf _ (lv_sub hl [2] rfl) _ _ hP hD hS
      · have hf := it_n hf c9
        exact hfX9_scrap_B37  (sr M 0 (upd (M 0) 0 (0 : Int32))) hf _ (lv_sub hl [0] rfl) _ _ hP hD hS
  · have hf := it_n hf c9
    refine lv_aload_n hx hb dX9_scrap_13 rfl (lv_at hl 0 rfl) ?_
    refine lv_iconst (v := (1 : Int32)) hx hb dX9_scrap_14 (by decide) ?_
    obtain ⟨r15, hc15, hf⟩ := bi_s hf
    have hPc := hP
    have hDc := hD
    have hFc := va_free (wc := (wX9 cI cZ a (sr M 0 (upd (M 0) 0 (0 : Int32))))) hD hS hA [0, 1, 2, 3, 4, 5, 6, 7, 8] rfl
    refine va_calli (va_runV (As := [.int (1 : Int32)]) (rest := []) ⟨hx, hb, hml, hown, hts⟩ (c_X9_fails l dC dI cI cZ a H.size (sr M 0 (upd (M 0) 0 (0 : Int32))) (1 : Int32) r15 hc15) (cwV 1 hts gX9_scrap_X9_fails rfl rfl rfl (by decide +kernel) ⟨Nat.le_of_ble_eq_true rfl, Nat.le_of_ble_eq_true rfl⟩) ⟨WR.blind, va_recv hK hP (ci := 9) (q0 := 0) rfl rfl, WR.pre hPc hK hDc hNW⟩ rfl rfl hl.1 rfl (lv_room (Nat.le_of_ble_eq_true rfl)) dX9_scrap_15 ⟨Nat.le_of_ble_eq_true rfl, Nat.le_of_ble_eq_true rfl⟩) hS (fun q _ h => hFc q h) hFc (fun rv u t H1 locs ht hvm hw hB hz1 hk1 hS => ?_)
    obtain ⟨hP1, hD1⟩ := hB
    rw [ht] at hP1
    subst hw
    have hP := hP1
    have hD := hD1.weaken (fun k q _ h => hFc q.1 h)
    have hP : va_P (dC, dI) vwCl (wX9 cI cZ a (sr M 0 (r15.2 0))) H1 := hP
    have hD : va_D A (wX9 cI cZ a (sr M 0 (r15.2 0))) := hD
    generalize H1 = H at hP hS ⊢
    have e9 := so_e hf
    subst e9
    exact W.iret (v := r15.1) hx hb hr (fun t ht hW => ⟨⟨r15.1, (), rfl, rfl, WE.mk hP hD ht⟩, hS.F ht⟩) hS.2.2 dX9_scrap_18
set_option maxHeartbeats 4000000 in
set_option maxRecDepth 100000 in
theorem c_X9_fetch (l : Launch) (dC : Nat → ClassId) (dI : Nat → Nat → Nat) (cI cZ : ClassId) (a : Nat → Nat) (sz : Nat) (M : Mem) (a1 : Int32) (z : Int32 × Mem) (hf : fX9_fetch M a1 = some z) : Met l yX9_fetch wsX9_fetch ({ frames := 4, cells := 0, slots := 0, locals := 87 } : Room) (va_Pc [.ref (a 0), .int a1] (WR (dC, dI) cI cZ (wX9 cI cZ a M) sz)) (va_Qi (S := Unit) (fun r _ => r = z.1) (fun _ t => WE (dC, dI) cI cZ (wX9 cI cZ a (sr (sr (sr M 0 (z.2 0)) 1 (z.2 1)) 3 (z.2 3))) (va_A (wX9 cI cZ a M) sz) t) (va_A (wX9 cI cZ a M) sz)) 0 0 (va_A (wX9 cI cZ a M) sz) := by
  refine Met.ofW (cc := cX9_fetch) (maxL := 2) (ret := (some .int)) (by decide) rfl ?_
  intro p e s m args below meth c s₁ B hml hv
  obtain ⟨rfl, hsz, hP, hK, hD0, hNW⟩ := hv
  have hx := B.exec
  have hb := B.bytes
  have hr := B.returns
  have hts := atoms_spec (ws := wsX9_fetch) B.pre
  have hown : s.vm.findClass RX9 = some m.cls := findClass_of_methodNamed B.named
  have hlocks := B.notSynchronized
  have hinX9 : ∀ w ∈ u_ws RX9 TX9 13, w ∈ wsX9_fetch := by decide +kernel
  have hw1 := hts (.fieldLink RX9 35 "GlideShelvesModel" "thrown" "I") (by decide +kernel)
  subst hsz
  have hD := hD0.self (sz := s.heap.size)
  generalize hAe : va_A (wX9 cI cZ a M) s.heap.size = A at hD ⊢
  have hA : ∀ q : Nat, s.heap.size ≤ q → A q := fun q h => by rw [← hAe]; exact Or.inr h
  have hS : va_S A s.heap s.heap [] := va_S.rf
  have hl := lv_entry ([.ref (a 0), .int a1]) (n := 2) (Nat.le_of_ble_eq_true rfl)
  rw [lg_entry_eq]
  generalize (lg_sl ([.ref (a 0), .int a1]) ++ List.replicate (2 - (lg_sl ([.ref (a 0), .int a1])).length) Slot.unset).toArray = ls at hl ⊢
  have hl : lv_has ls 2 [(0, .ref (a 0)), (1, .int a1)] := hl
  unfold fX9_fetch at hf
  suffices hgo : ∀ (H : Heap) (locs : List Loc), va_P (dC, dI) vwCl (wX9 cI cZ a M) H → va_D A (wX9 cI cZ a M) → va_S A s.heap H locs → W p l e (headSpec wsX9_fetch ({ frames := 4, cells := 0, slots := 0, locals := 87 } : Room)).room s m ([.ref (a 0), .int a1] : List Value).toArray below meth c H locs 0 0 (MQ below (va_Qi (S := Unit) (fun r _ => r = z.1) (fun _ t => WE (dC, dI) cI cZ (wX9 cI cZ a (sr (sr (sr M 0 (z.2 0)) 1 (z.2 1)) 3 (z.2 3))) A t) A) ([.ref (a 0), .int a1] : List Value).toArray s 0 0 A) (F0 m 0 ls []) from hgo _ _ hP hD hS
  intro H locs hP hD hS
  refine lv_aload_n hx hb dX9_fetch_0 rfl (lv_at hl 0 rfl) ?_
  refine lv_iconst (v := (0 : Int32)) hx hb dX9_fetch_1 (by decide) ?_
  refine va_put (D := (dC, dI)) (ci := 9) (v := .int (0 : Int32)) (ty := .int) (C := RX9) (T := TX9) (N := 13) hx hb hts hinX9 tyX9 tyX9_ok nmX9 hown hK hP hD hS 0 rfl rfl 0 (by decide) hw1 (fun _ h9 => h9) rfl (by decide +kernel) rfl rfl (Nat.le_of_ble_eq_true rfl) dX9_fetch_2 (fun H locs hP hD hS => ?_)
  have hP : va_P (dC, dI) vwCl (wX9 cI cZ a (sr M 0 (upd (M 0) 0 (0 : Int32)))) H := hP
  have hD : va_D A (wX9 cI cZ a (sr M 0 (upd (M 0) 0 (0 : Int32)))) := hD
  refine lv_aload_n hx hb dX9_fetch_5 rfl (lv_at hl 0 rfl) ?_
  refine lv_iload_n hx hb dX9_fetch_6 rfl (lv_at hl 1 rfl) ?_
  obtain ⟨r7, hc7, hf⟩ := bi_s hf
  have hPc := hP
  refine cRO (W.runV (As := [.int a1]) (rest := []) ⟨hx, hb, hml, hown, hts⟩ (c_X9_isShelf l dC dI cI cZ a (sr M 0 (upd (M 0) 0 (0 : Int32))) a1 r7 hc7) (cwV 1 hts gX9_fetch_X9_isShelf rfl rfl rfl (by decide +kernel) ⟨Nat.le_of_ble_eq_true rfl, Nat.le_of_ble_eq_true rfl⟩) ⟨RO.blind, va_recv hK hP (ci := 9) (q0 := 0) rfl rfl, RO.pre hPc hK hNW⟩ rfl rfl hl.1 rfl (lv_room (Nat.le_of_ble_eq_true rfl)) dX9_fetch_7 ⟨Nat.le_of_ble_eq_true rfl, Nat.le_of_ble_eq_true rfl⟩) ?_
  refine lv_if_ne (tgt := 19) hx hb dX9_fetch_10 (by decide) (fun c9 => ?_) (fun c9 => ?_)
  · have hf := it_t hf c9
    refine lv_aload_n hx hb dX9_fetch_19 rfl (lv_at hl 0 rfl) ?_
    obtain ⟨r20, hc20, hf⟩ := bi_s hf
    have hPc := hP
    refine cRO (W.runV (As := []) (rest := []) ⟨hx, hb, hml, hown, hts⟩ (c_X9_hasWindow l dC dI cI cZ a (sr M 0 (upd (M 0) 0 (0 : Int32))) r20 hc20) (cwV 0 hts gX9_fetch_X9_hasWindow rfl rfl rfl (by decide +kernel) ⟨Nat.le_of_ble_eq_true rfl, Nat.le_of_ble_eq_true rfl⟩) ⟨RO.blind, va_recv hK hP (ci := 9) (q0 := 0) rfl rfl, RO.pre hPc hK hNW⟩ rfl rfl hl.1 rfl (lv_room (Nat.le_of_ble_eq_true rfl)) dX9_fetch_20 ⟨Nat.le_of_ble_eq_true rfl, Nat.le_of_ble_eq_true rfl⟩) ?_
    refine lv_if_eq (tgt := 32) hx hb dX9_fetch_23 (by decide) (fun c9 => ?_) (fun c9 => ?_)
    · have hf := it_t hf c9
      refine lv_aload_n hx hb dX9_fetch_32 rfl (lv_at hl 0 rfl) ?_
      obtain ⟨r33, hc33, hf⟩ := bi_s hf
      have hPc := hP
      have hDc := hD
      have hFc := va_free (wc := (wX9 cI cZ a (sr M 0 (upd (M 0) 0 (0 : Int32))))) hD hS hA [0, 1, 2, 3, 4, 5, 6, 7, 8] rfl
      refine va_callv (va_runV (As := []) (rest := []) ⟨hx, hb, hml, hown, hts⟩ (c_X9_records l dC dI cI cZ a H.size (sr M 0 (upd (M 0) 0 (0 : Int32))) r33 hc33) (cwV 0 hts gX9_fetch_X9_records rfl rfl rfl (by decide +kernel) ⟨Nat.le_of_ble_eq_true rfl, Nat.le_of_ble_eq_true rfl⟩) ⟨WR.blind, va_recv hK hP (ci := 9) (q0 := 0) rfl rfl, WR.pre hPc hK hDc hNW⟩ rfl rfl hl.1 rfl (lv_room (Nat.le_of_ble_eq_true rfl)) dX9_fetch_33 ⟨Nat.le_of_ble_eq_true rfl, Nat.le_of_ble_eq_true rfl⟩) hS (fun q _ h => hFc q h) hFc (fun u t H1 locs ht hvm hw hB hz1 hk1 hS => ?_)
      obtain ⟨hP1, hD1⟩ := hB
      rw [ht] at hP1
      have hP := hP1
      have hD := hD1.weaken (fun k q _ h => hFc q.1 h)
      have hP : va_P (dC, dI) vwCl (wX9 cI cZ a (sr (sr M 0 (r33 0)) 3 (r33 3))) H1 := hP
      have hD : va_D A (wX9 cI cZ a (sr (sr M 0 (r33 0)) 3 (r33 3))) := hD
      generalize H1 = H at hP hS ⊢
      refine lv_aload_n hx hb dX9_fetch_36 rfl (lv_at hl 0 rfl) ?_
      refine lv_iload_n hx hb dX9_fetch_37 rfl (lv_at hl 1 rfl) ?_
      obtain ⟨r38, hc38, hf⟩ := bi_s hf
      have hPc := hP
      have hDc := hD
      have hFc := va_free (wc := (wX9 cI cZ a (sr (sr M 0 (r33 0)) 3 (r33 3)))) hD hS hA [0, 1, 2, 3, 4, 5, 6, 7, 8] rfl
      refine va_calli (va_runV (As := [.int a1]) (rest := []) ⟨hx, hb, hml, hown, hts⟩ (c_X9_fetchesIt l dC dI cI cZ a H.size (sr (sr M 0 (r33 0)) 3 (r33 3)) a1 r38 hc38) (cwV 1 hts gX9_fetch_X9_fetchesIt rfl rfl rfl (by decide +kernel) ⟨Nat.le_of_ble_eq_true rfl, Nat.le_of_ble_eq_true rfl⟩) ⟨WR.blind, va_recv hK hP (ci := 9) (q0 := 0) rfl rfl, WR.pre hPc hK hDc hNW⟩ rfl rfl hl.1 rfl (lv_room (Nat.le_of_ble_eq_true rfl)) dX9_fetch_38 ⟨Nat.le_of_ble_eq_true rfl, Nat.le_of_ble_eq_true rfl⟩) hS (fun q _ h => hFc q h) hFc (fun rv u t H1 locs ht hvm hw hB hz1 hk1 hS => ?_)
      obtain ⟨hP1, hD1⟩ := hB
      rw [ht] at hP1
      subst hw
      have hP := hP1
      have hD := hD1.weaken (fun k q _ h => hFc q.1 h)
      have hP : va_P (dC, dI) vwCl (wX9 cI cZ a (sr (sr (sr M 0 (r33 0)) 1 (r38.2 1)) 3 (r33 3))) H1 := hP
      have hD : va_D A (wX9 cI cZ a (sr (sr (sr M 0 (r33 0)) 1 (r38.2 1)) 3 (r33 3))) := hD
      generalize H1 = H at hP hS ⊢
      have e9 := so_e hf
      subst e9
      exact W.iret (v := r38.1) hx hb hr (fun t ht hW => ⟨⟨r38.1, (), rfl, rfl, WE.mk hP hD ht⟩, hS.F ht⟩) hS.2.2 dX9_fetch_41
    · have hf := it_f hf c9
      refine lv_aload_n hx hb dX9_fetch_26 rfl (lv_at hl 0 rfl) ?_
      refine lv_iconst (v := (2 : Int32)) hx hb dX9_fetch_27 (by decide) ?_
      obtain ⟨r28, hc28, hf⟩ := bi_s hf
      have hPc := hP
      have hDc := hD
      have hFc := va_free (wc := (wX9 cI cZ a (sr M 0 (upd (M 0) 0 (0 : Int32))))) hD hS hA [0, 1, 2, 3, 4, 5, 6, 7, 8] rfl
      refine va_calli (va_runV (As := [.int (2 : Int32)]) (rest := []) ⟨hx, hb, hml, hown, hts⟩ (c_X9_fails l dC dI cI cZ a H.size (sr M 0 (upd (M 0) 0 (0 : Int32))) (2 : Int32) r28 hc28) (cwV 1 hts gX9_fetch_X9_fails rfl rfl rfl (by decide +kernel) ⟨Nat.le_of_ble_eq_true rfl, Nat.le_of_ble_eq_true rfl⟩) ⟨WR.blind, va_recv hK hP (ci := 9) (q0 := 0) rfl rfl, WR.pre hPc hK hDc hNW⟩ rfl rfl hl.1 rfl (lv_room (Nat.le_of_ble_eq_true rfl)) dX9_fetch_28 ⟨Nat.le_of_ble_eq_true rfl, Nat.le_of_ble_eq_true rfl⟩) hS (fun q _ h => hFc q h) hFc (fun rv u t H1 locs ht hvm hw hB hz1 hk1 hS => ?_)
      obtain ⟨hP1, hD1⟩ := hB
      rw [ht] at hP1
      subst hw
      have hP := hP1
      have hD := hD1.weaken (fun k q _ h => hFc q.1 h)
      have hP : va_P (dC, dI) vwCl (wX9 cI cZ a (sr M 0 (r28.2 0))) H1 := hP
      have hD : va_D A (wX9 cI cZ a (sr M 0 (r28.2 0))) := hD
      generalize H1 = H at hP hS ⊢
      have e9 := so_e hf
      subst e9
      exact W.iret (v := r28.1) hx hb hr (fun t ht hW => ⟨⟨r28.1, (), rfl, rfl, WE.mk hP hD ht⟩, hS.F ht⟩) hS.2.2 dX9_fetch_31
  · have hf := it_n hf c9
    refine lv_aload_n hx hb dX9_fetch_13 rfl (lv_at hl 0 rfl) ?_
    refine lv_iconst (v := (1 : Int32)) hx hb dX9_fetch_14 (by decide) ?_
    obtain ⟨r15, hc15, hf⟩ := bi_s hf
    have hPc := hP
    have hDc := hD
    have hFc := va_free (wc := (wX9 cI cZ a (sr M 0 (upd (M 0) 0 (0 : Int32))))) hD hS hA [0, 1, 2, 3, 4, 5, 6, 7, 8] rfl
    refine va_calli (va_runV (As := [.int (1 : Int32)]) (rest := []) ⟨hx, hb, hml, hown, hts⟩ (c_X9_fails l dC dI cI cZ a H.size (sr M 0 (upd (M 0) 0 (0 : Int32))) (1 : Int32) r15 hc15) (cwV 1 hts gX9_fetch_X9_fails rfl rfl rfl (by decide +kernel) ⟨Nat.le_of_ble_eq_true rfl, Nat.le_of_ble_eq_true rfl⟩) ⟨WR.blind, va_recv hK hP (ci := 9) (q0 := 0) rfl rfl, WR.pre hPc hK hDc hNW⟩ rfl rfl hl.1 rfl (lv_room (Nat.le_of_ble_eq_true rfl)) dX9_fetch_15 ⟨Nat.le_of_ble_eq_true rfl, Nat.le_of_ble_eq_true rfl⟩) hS (fun q _ h => hFc q h) hFc (fun rv u t H1 locs ht hvm hw hB hz1 hk1 hS => ?_)
    obtain ⟨hP1, hD1⟩ := hB
    rw [ht] at hP1
    subst hw
    have hP := hP1
    have hD := hD1.weaken (fun k q _ h => hFc q.1 h)
    have hP : va_P (dC, dI) vwCl (wX9 cI cZ a (sr M 0 (r15.2 0))) H1 := hP
    have hD : va_D A (wX9 cI cZ a (sr M 0 (r15.2 0))) := hD
    generalize H1 = H at hP hS ⊢
    have e9 := so_e hf
    subst e9
    exact W.iret (v := r15.1) hx hb hr (fun t ht hW => ⟨⟨r15.1, (), rfl, rfl, WE.mk hP hD ht⟩, hS.F ht⟩) hS.2.2 dX9_fetch_18
set_option maxHeartbeats 4000000 in
set_option maxRecDepth 100000 in
theorem c_X9_stow (l : Launch) (dC : Nat → ClassId) (dI : Nat → Nat → Nat) (cI cZ : ClassId) (a : Nat → Nat) (sz : Nat) (M : Mem) (z : Int32 × Mem) (hf : fX9_stow M  = some z) : Met l yX9_stow wsX9_stow ({ frames := 5, cells := 0, slots := 0, locals := 115 } : Room) (va_Pc [.ref (a 0)] (WR (dC, dI) cI cZ (wX9 cI cZ a M) sz)) (va_Qi (S := Unit) (fun r _ => r = z.1) (fun _ t => WE (dC, dI) cI cZ (wX9 cI cZ a (sr (sr (sr M 0 (z.2 0)) 1 (z.2 1)) 3 (z.2 3))) (va_A (wX9 cI cZ a M) sz) t) (va_A (wX9 cI cZ a M) sz)) 0 0 (va_A (wX9 cI cZ a M) sz) := by
  refine Met.ofW (cc := cX9_stow) (maxL := 1) (ret := (some .int)) (by decide) rfl ?_
  intro p e s m args below meth c s₁ B hml hv
  obtain ⟨rfl, hsz, hP, hK, hD0, hNW⟩ := hv
  have hx := B.exec
  have hb := B.bytes
  have hr := B.returns
  have hts := atoms_spec (ws := wsX9_stow) B.pre
  have hown : s.vm.findClass RX9 = some m.cls := findClass_of_methodNamed B.named
  have hlocks := B.notSynchronized
  have hinX9 : ∀ w ∈ u_ws RX9 TX9 13, w ∈ wsX9_stow := by decide +kernel
  have hw1 := hts (.fieldLink RX9 35 "GlideShelvesModel" "thrown" "I") (by decide +kernel)
  subst hsz
  have hD := hD0.self (sz := s.heap.size)
  generalize hAe : va_A (wX9 cI cZ a M) s.heap.size = A at hD ⊢
  have hA : ∀ q : Nat, s.heap.size ≤ q → A q := fun q h => by rw [← hAe]; exact Or.inr h
  have hS : va_S A s.heap s.heap [] := va_S.rf
  have hl := lv_entry ([.ref (a 0)]) (n := 1) (Nat.le_of_ble_eq_true rfl)
  rw [lg_entry_eq]
  generalize (lg_sl ([.ref (a 0)]) ++ List.replicate (1 - (lg_sl ([.ref (a 0)])).length) Slot.unset).toArray = ls at hl ⊢
  have hl : lv_has ls 1 [(0, .ref (a 0))] := hl
  unfold fX9_stow at hf
  suffices hgo : ∀ (H : Heap) (locs : List Loc), va_P (dC, dI) vwCl (wX9 cI cZ a M) H → va_D A (wX9 cI cZ a M) → va_S A s.heap H locs → W p l e (headSpec wsX9_stow ({ frames := 5, cells := 0, slots := 0, locals := 115 } : Room)).room s m ([.ref (a 0)] : List Value).toArray below meth c H locs 0 0 (MQ below (va_Qi (S := Unit) (fun r _ => r = z.1) (fun _ t => WE (dC, dI) cI cZ (wX9 cI cZ a (sr (sr (sr M 0 (z.2 0)) 1 (z.2 1)) 3 (z.2 3))) A t) A) ([.ref (a 0)] : List Value).toArray s 0 0 A) (F0 m 0 ls []) from hgo _ _ hP hD hS
  intro H locs hP hD hS
  refine lv_aload_n hx hb dX9_stow_0 rfl (lv_at hl 0 rfl) ?_
  refine lv_iconst (v := (0 : Int32)) hx hb dX9_stow_1 (by decide) ?_
  refine va_put (D := (dC, dI)) (ci := 9) (v := .int (0 : Int32)) (ty := .int) (C := RX9) (T := TX9) (N := 13) hx hb hts hinX9 tyX9 tyX9_ok nmX9 hown hK hP hD hS 0 rfl rfl 0 (by decide) hw1 (fun _ h9 => h9) rfl (by decide +kernel) rfl rfl (Nat.le_of_ble_eq_true rfl) dX9_stow_2 (fun H locs hP hD hS => ?_)
  have hP : va_P (dC, dI) vwCl (wX9 cI cZ a (sr M 0 (upd (M 0) 0 (0 : Int32)))) H := hP
  have hD : va_D A (wX9 cI cZ a (sr M 0 (upd (M 0) 0 (0 : Int32)))) := hD
  refine lv_aload_n hx hb dX9_stow_5 rfl (lv_at hl 0 rfl) ?_
  obtain ⟨r6, hc6, hf⟩ := bi_s hf
  have hPc := hP
  refine cRO (W.runV (As := []) (rest := []) ⟨hx, hb, hml, hown, hts⟩ (c_X9_hasWindow l dC dI cI cZ a (sr M 0 (upd (M 0) 0 (0 : Int32))) r6 hc6) (cwV 0 hts gX9_stow_X9_hasWindow rfl rfl rfl (by decide +kernel) ⟨Nat.le_of_ble_eq_true rfl, Nat.le_of_ble_eq_true rfl⟩) ⟨RO.blind, va_recv hK hP (ci := 9) (q0 := 0) rfl rfl, RO.pre hPc hK hNW⟩ rfl rfl hl.1 rfl (lv_room (Nat.le_of_ble_eq_true rfl)) dX9_stow_6 ⟨Nat.le_of_ble_eq_true rfl, Nat.le_of_ble_eq_true rfl⟩) ?_
  refine lv_if_ne (tgt := 18) hx hb dX9_stow_9 (by decide) (fun c9 => ?_) (fun c9 => ?_)
  · have hf := it_t hf c9
    refine lv_aload_n hx hb dX9_stow_18 rfl (lv_at hl 0 rfl) ?_
    obtain ⟨r19, hc19, hf⟩ := bi_s hf
    have hPc := hP
    have hDc := hD
    have hFc := va_free (wc := (wX9 cI cZ a (sr M 0 (upd (M 0) 0 (0 : Int32))))) hD hS hA [0, 1, 2, 3, 4, 5, 6, 7, 8] rfl
    refine va_callv (va_runV (As := []) (rest := []) ⟨hx, hb, hml, hown, hts⟩ (c_X9_records l dC dI cI cZ a H.size (sr M 0 (upd (M 0) 0 (0 : Int32))) r19 hc19) (cwV 0 hts gX9_stow_X9_records rfl rfl rfl (by decide +kernel) ⟨Nat.le_of_ble_eq_true rfl, Nat.le_of_ble_eq_true rfl⟩) ⟨WR.blind, va_recv hK hP (ci := 9) (q0 := 0) rfl rfl, WR.pre hPc hK hDc hNW⟩ rfl rfl hl.1 rfl (lv_room (Nat.le_of_ble_eq_true rfl)) dX9_stow_19 ⟨Nat.le_of_ble_eq_true rfl, Nat.le_of_ble_eq_true rfl⟩) hS (fun q _ h => hFc q h) hFc (fun u t H1 locs ht hvm hw hB hz1 hk1 hS => ?_)
    obtain ⟨hP1, hD1⟩ := hB
    rw [ht] at hP1
    have hP := hP1
    have hD := hD1.weaken (fun k q _ h => hFc q.1 h)
    have hP : va_P (dC, dI) vwCl (wX9 cI cZ a (sr (sr M 0 (r19 0)) 3 (r19 3))) H1 := hP
    have hD : va_D A (wX9 cI cZ a (sr (sr M 0 (r19 0)) 3 (r19 3))) := hD
    generalize H1 = H at hP hS ⊢
    refine lv_aload_n hx hb dX9_stow_22 rfl (lv_at hl 0 rfl) ?_
    refine lv_aload_n hx hb dX9_stow_23 rfl (lv_at hl 0 rfl) ?_
    obtain ⟨r24, hc24, hf⟩ := bi_s hf
    have hPc := hP
    refine cRO (W.runV (As := []) (rest := [.ref (a 0)]) ⟨hx, hb, hml, hown, hts⟩ (c_X9_stowPlace l dC dI cI cZ a (sr (sr M 0 (r19 0)) 3 (r19 3)) r24 hc24) (cwV 0 hts gX9_stow_X9_stowPlace rfl rfl rfl (by decide +kernel) ⟨Nat.le_of_ble_eq_true rfl, Nat.le_of_ble_eq_true rfl⟩) ⟨RO.blind, va_recv hK hP (ci := 9) (q0 := 0) rfl rfl, RO.pre hPc hK hNW⟩ rfl rfl hl.1 rfl (lv_room (Nat.le_of_ble_eq_true rfl)) dX9_stow_24 ⟨Nat.le_of_ble_eq_true rfl, Nat.le_of_ble_eq_true rfl⟩) ?_
    obtain ⟨r27, hc27, hf⟩ := bi_s hf
    have hPc := hP
    have hDc := hD
    have hFc := va_free (wc := (wX9 cI cZ a (sr (sr M 0 (r19 0)) 3 (r19 3)))) hD hS hA [0, 1, 2, 3, 4, 5, 6, 7, 8] rfl
    refine va_calli (va_runV (As := [.int r24]) (rest := []) ⟨hx, hb, hml, hown, hts⟩ (c_X9_stows l dC dI cI cZ a H.size (sr (sr M 0 (r19 0)) 3 (r19 3)) r24 r27 hc27) (cwV 1 hts gX9_stow_X9_stows rfl rfl rfl (by decide +kernel) ⟨Nat.le_of_ble_eq_true rfl, Nat.le_of_ble_eq_true rfl⟩) ⟨WR.blind, va_recv hK hP (ci := 9) (q0 := 0) rfl rfl, WR.pre hPc hK hDc hNW⟩ rfl rfl hl.1 rfl (lv_room (Nat.le_of_ble_eq_true rfl)) dX9_stow_27 ⟨Nat.le_of_ble_eq_true rfl, Nat.le_of_ble_eq_true rfl⟩) hS (fun q _ h => hFc q h) hFc (fun rv u t H1 locs ht hvm hw hB hz1 hk1 hS => ?_)
    obtain ⟨hP1, hD1⟩ := hB
    rw [ht] at hP1
    subst hw
    have hP := hP1
    have hD := hD1.weaken (fun k q _ h => hFc q.1 h)
    have hP : va_P (dC, dI) vwCl (wX9 cI cZ a (sr (sr (sr M 0 (r19 0)) 1 (r27.2 1)) 3 (r19 3))) H1 := hP
    have hD : va_D A (wX9 cI cZ a (sr (sr (sr M 0 (r19 0)) 1 (r27.2 1)) 3 (r19 3))) := hD
    generalize H1 = H at hP hS ⊢
    have e9 := so_e hf
    subst e9
    exact W.iret (v := r27.1) hx hb hr (fun t ht hW => ⟨⟨r27.1, (), rfl, rfl, WE.mk hP hD ht⟩, hS.F ht⟩) hS.2.2 dX9_stow_30
  · have hf := it_n hf c9
    refine lv_aload_n hx hb dX9_stow_12 rfl (lv_at hl 0 rfl) ?_
    refine lv_iconst (v := (1 : Int32)) hx hb dX9_stow_13 (by decide) ?_
    obtain ⟨r14, hc14, hf⟩ := bi_s hf
    have hPc := hP
    have hDc := hD
    have hFc := va_free (wc := (wX9 cI cZ a (sr M 0 (upd (M 0) 0 (0 : Int32))))) hD hS hA [0, 1, 2, 3, 4, 5, 6, 7, 8] rfl
    refine va_calli (va_runV (As := [.int (1 : Int32)]) (rest := []) ⟨hx, hb, hml, hown, hts⟩ (c_X9_fails l dC dI cI cZ a H.size (sr M 0 (upd (M 0) 0 (0 : Int32))) (1 : Int32) r14 hc14) (cwV 1 hts gX9_stow_X9_fails rfl rfl rfl (by decide +kernel) ⟨Nat.le_of_ble_eq_true rfl, Nat.le_of_ble_eq_true rfl⟩) ⟨WR.blind, va_recv hK hP (ci := 9) (q0 := 0) rfl rfl, WR.pre hPc hK hDc hNW⟩ rfl rfl hl.1 rfl (lv_room (Nat.le_of_ble_eq_true rfl)) dX9_stow_14 ⟨Nat.le_of_ble_eq_true rfl, Nat.le_of_ble_eq_true rfl⟩) hS (fun q _ h => hFc q h) hFc (fun rv u t H1 locs ht hvm hw hB hz1 hk1 hS => ?_)
    obtain ⟨hP1, hD1⟩ := hB
    rw [ht] at hP1
    subst hw
    have hP := hP1
    have hD := hD1.weaken (fun k q _ h => hFc q.1 h)
    have hP : va_P (dC, dI) vwCl (wX9 cI cZ a (sr M 0 (r14.2 0))) H1 := hP
    have hD : va_D A (wX9 cI cZ a (sr M 0 (r14.2 0))) := hD
    generalize H1 = H at hP hS ⊢
    have e9 := so_e hf
    subst e9
    exact W.iret (v := r14.1) hx hb hr (fun t ht hW => ⟨⟨r14.1, (), rfl, rfl, WE.mk hP hD ht⟩, hS.F ht⟩) hS.2.2 dX9_stow_17
set_option maxHeartbeats 4000000 in
set_option maxRecDepth 100000 in
theorem c_X9_stowAt (l : Launch) (dC : Nat → ClassId) (dI : Nat → Nat → Nat) (cI cZ : ClassId) (a : Nat → Nat) (sz : Nat) (M : Mem) (a1 : Int32) (a2 : Int32) (z : Int32 × Mem) (hf : fX9_stowAt M a1 a2 = some z) : Met l yX9_stowAt wsX9_stowAt ({ frames := 3, cells := 0, slots := 0, locals := 72 } : Room) (va_Pc [.ref (a 0), .int a1, .int a2] (WR (dC, dI) cI cZ (wX9 cI cZ a M) sz)) (va_Qi (S := Unit) (fun r _ => r = z.1) (fun _ t => WE (dC, dI) cI cZ (wX9 cI cZ a (sr (sr (sr M 0 (z.2 0)) 1 (z.2 1)) 3 (z.2 3))) (va_A (wX9 cI cZ a M) sz) t) (va_A (wX9 cI cZ a M) sz)) 0 0 (va_A (wX9 cI cZ a M) sz) := by
  refine Met.ofW (cc := cX9_stowAt) (maxL := 3) (ret := (some .int)) (by decide) rfl ?_
  intro p e s m args below meth c s₁ B hml hv
  obtain ⟨rfl, hsz, hP, hK, hD0, hNW⟩ := hv
  have hx := B.exec
  have hb := B.bytes
  have hr := B.returns
  have hts := atoms_spec (ws := wsX9_stowAt) B.pre
  have hown : s.vm.findClass RX9 = some m.cls := findClass_of_methodNamed B.named
  have hlocks := B.notSynchronized
  have hinX9 : ∀ w ∈ u_ws RX9 TX9 13, w ∈ wsX9_stowAt := by decide +kernel
  have hw1 := hts (.fieldLink RX9 35 "GlideShelvesModel" "thrown" "I") (by decide +kernel)
  have hw2 := hts (.fieldLink RX9 7 "GlideShelvesModel" "s" "[I") (by decide +kernel)
  subst hsz
  have hD := hD0.self (sz := s.heap.size)
  generalize hAe : va_A (wX9 cI cZ a M) s.heap.size = A at hD ⊢
  have hA : ∀ q : Nat, s.heap.size ≤ q → A q := fun q h => by rw [← hAe]; exact Or.inr h
  have hS : va_S A s.heap s.heap [] := va_S.rf
  have hfX9_stowAt_B46 : ∀ (N : Mem), fX9_stowAt_B46 M  N = some z → ∀ (ls : Array Slot), lv_has ls 3 [(0, .ref (a 0))] → ∀ (H : Heap) (locs : List Loc), va_P (dC, dI) vwCl (wX9 cI cZ a (sr (sr (sr M 0 (N 0)) 1 (N 1)) 3 (N 3))) H → va_D A (wX9 cI cZ a (sr (sr (sr M 0 (N 0)) 1 (N 1)) 3 (N 3))) → va_S A s.heap H locs → W p l e (headSpec wsX9_stowAt ({ frames := 3, cells := 0, slots := 0, locals := 72 } : Room)).room s m ([.ref (a 0), .int a1, .int a2] : List Value).toArray below meth c H locs 0 0 (MQ below (va_Qi (S := Unit) (fun r _ => r = z.1) (fun _ t => WE (dC, dI) cI cZ (wX9 cI cZ a (sr (sr (sr M 0 (z.2 0)) 1 (z.2 1)) 3 (z.2 3))) A t) A) ([.ref (a 0), .int a1, .int a2] : List Value).toArray s 0 0 A) (F0 m 46 ls []) := by
    intro  N hf ls hl H locs hP hD hS
    unfold fX9_stowAt_B46 at hf
    refine lv_aload_n hx hb dX9_stowAt_46 rfl (lv_at hl 0 rfl) ?_
    refine lv_iconst (v := (2 : Int32)) hx hb dX9_stowAt_47 (by decide) ?_
    obtain ⟨r48, hc48, hf⟩ := bi_s hf
    have hPc := hP
    have hDc := hD
    have hFc := va_free (wc := (wX9 cI cZ a (sr (sr (sr M 0 (N 0)) 1 (N 1)) 3 (N 3)))) hD hS hA [0, 1, 2, 3, 4, 5, 6, 7, 8] rfl
    refine va_calli (va_runV (As := [.int (2 : Int32)]) (rest := []) ⟨hx, hb, hml, hown, hts⟩ (c_X9_fails l dC dI cI cZ a H.size (sr (sr (sr M 0 (N 0)) 1 (N 1)) 3 (N 3)) (2 : Int32) r48 hc48) (cwV 1 hts gX9_stowAt_X9_fails rfl rfl rfl (by decide +kernel) ⟨Nat.le_of_ble_eq_true rfl, Nat.le_of_ble_eq_true rfl⟩) ⟨WR.blind, va_recv hK hP (ci := 9) (q0 := 0) rfl rfl, WR.pre hPc hK hDc hNW⟩ rfl rfl hl.1 rfl (lv_room (Nat.le_of_ble_eq_true rfl)) dX9_stowAt_48 ⟨Nat.le_of_ble_eq_true rfl, Nat.le_of_ble_eq_true rfl⟩) hS (fun q _ h => hFc q h) hFc (fun rv u t H1 locs ht hvm hw hB hz1 hk1 hS => ?_)
    obtain ⟨hP1, hD1⟩ := hB
    rw [ht] at hP1
    subst hw
    have hP := hP1
    have hD := hD1.weaken (fun k q _ h => hFc q.1 h)
    have hP : va_P (dC, dI) vwCl (wX9 cI cZ a (sr (sr (sr M 0 (r48.2 0)) 1 (N 1)) 3 (N 3))) H1 := hP
    have hD : va_D A (wX9 cI cZ a (sr (sr (sr M 0 (r48.2 0)) 1 (N 1)) 3 (N 3))) := hD
    generalize H1 = H at hP hS ⊢
    have e9 := so_e hf
    subst e9
    exact W.iret (v := r48.1) hx hb hr (fun t ht hW => ⟨⟨r48.1, (), rfl, rfl, WE.mk hP hD ht⟩, hS.F ht⟩) hS.2.2 dX9_stowAt_51
  have hl := lv_entry ([.ref (a 0), .int a1, .int a2]) (n := 3) (Nat.le_of_ble_eq_true rfl)
  rw [lg_entry_eq]
  generalize (lg_sl ([.ref (a 0), .int a1, .int a2]) ++ List.replicate (3 - (lg_sl ([.ref (a 0), .int a1, .int a2])).length) Slot.unset).toArray = ls at hl ⊢
  have hl : lv_has ls 3 [(0, .ref (a 0)), (1, .int a1), (2, .int a2)] := hl
  unfold fX9_stowAt at hf
  suffices hgo : ∀ (H : Heap) (locs : List Loc), va_P (dC, dI) vwCl (wX9 cI cZ a M) H → va_D A (wX9 cI cZ a M) → va_S A s.heap H locs → W p l e (headSpec wsX9_stowAt ({ frames := 3, cells := 0, slots := 0, locals := 72 } : Room)).room s m ([.ref (a 0), .int a1, .int a2] : List Value).toArray below meth c H locs 0 0 (MQ below (va_Qi (S := Unit) (fun r _ => r = z.1) (fun _ t => WE (dC, dI) cI cZ (wX9 cI cZ a (sr (sr (sr M 0 (z.2 0)) 1 (z.2 1)) 3 (z.2 3))) A t) A) ([.ref (a 0), .int a1, .int a2] : List Value).toArray s 0 0 A) (F0 m 0 ls []) from hgo _ _ hP hD hS
  intro H locs hP hD hS
  refine lv_aload_n hx hb dX9_stowAt_0 rfl (lv_at hl 0 rfl) ?_
  refine lv_iconst (v := (0 : Int32)) hx hb dX9_stowAt_1 (by decide) ?_
  refine va_put (D := (dC, dI)) (ci := 9) (v := .int (0 : Int32)) (ty := .int) (C := RX9) (T := TX9) (N := 13) hx hb hts hinX9 tyX9 tyX9_ok nmX9 hown hK hP hD hS 0 rfl rfl 0 (by decide) hw1 (fun _ h9 => h9) rfl (by decide +kernel) rfl rfl (Nat.le_of_ble_eq_true rfl) dX9_stowAt_2 (fun H locs hP hD hS => ?_)
  have hP : va_P (dC, dI) vwCl (wX9 cI cZ a (sr M 0 (upd (M 0) 0 (0 : Int32)))) H := hP
  have hD : va_D A (wX9 cI cZ a (sr M 0 (upd (M 0) 0 (0 : Int32)))) := hD
  refine lv_iload_n hx hb dX9_stowAt_5 rfl (lv_at hl 1 rfl) ?_
  refine lv_iload_n hx hb dX9_stowAt_6 rfl (lv_at hl 2 rfl) ?_
  obtain ⟨r7, hc7, hf⟩ := bi_s hf
  refine cRO (W.runS (As := [.int a1, .int a2]) (rest := []) ⟨hx, hb, hml, hown, hts⟩ (c_X9_isSpot l a1 a2 r7 hc7) (va_cwS 2 hts gX9_stowAt_X9_isSpot rfl rfl rfl (by decide +kernel) ⟨Nat.le_of_ble_eq_true rfl, Nat.le_of_ble_eq_true rfl⟩) ⟨tr_blind, tr_pre⟩ rfl rfl hl.1 rfl (lv_room (Nat.le_of_ble_eq_true rfl)) dX9_stowAt_7 ⟨Nat.le_of_ble_eq_true rfl, Nat.le_of_ble_eq_true rfl⟩) ?_
  refine lv_if_ne (tgt := 19) hx hb dX9_stowAt_10 (by decide) (fun c9 => ?_) (fun c9 => ?_)
  · have hf := it_t hf c9
    refine lv_aload_n hx hb dX9_stowAt_19 rfl (lv_at hl 0 rfl) ?_
    obtain ⟨r20, hc20, hf⟩ := bi_s hf
    have hPc := hP
    refine cRO (W.runV (As := []) (rest := []) ⟨hx, hb, hml, hown, hts⟩ (c_X9_hasWindow l dC dI cI cZ a (sr M 0 (upd (M 0) 0 (0 : Int32))) r20 hc20) (cwV 0 hts gX9_stowAt_X9_hasWindow rfl rfl rfl (by decide +kernel) ⟨Nat.le_of_ble_eq_true rfl, Nat.le_of_ble_eq_true rfl⟩) ⟨RO.blind, va_recv hK hP (ci := 9) (q0 := 0) rfl rfl, RO.pre hPc hK hNW⟩ rfl rfl hl.1 rfl (lv_room (Nat.le_of_ble_eq_true rfl)) dX9_stowAt_20 ⟨Nat.le_of_ble_eq_true rfl, Nat.le_of_ble_eq_true rfl⟩) ?_
    refine lv_if_eq (tgt := 46) hx hb dX9_stowAt_23 (by decide) (fun c9 => ?_) (fun c9 => ?_)
    · have hf := it_t hf c9
      exact hfX9_stowAt_B46  (sr M 0 (upd (M 0) 0 (0 : Int32))) hf _ (lv_sub hl [0] rfl) _ _ hP hD hS
    · have hf := it_f hf c9
      refine lv_aload_n hx hb dX9_stowAt_26 rfl (lv_at hl 0 rfl) ?_
      refine lv_aload_n hx hb dX9_stowAt_27 rfl (lv_at hl 0 rfl) ?_
      refine lv_aload_n hx hb dX9_stowAt_28 rfl (lv_at hl 0 rfl) ?_
      refine va_get (D := (dC, dI)) (ci := 9) (v := .ref (a 1)) (C := RX9) (T := TX9) (N := 13) hx hb hts hinX9 hown hK hP 0 rfl rfl 1 (by decide) hw2 (fun _ h9 => h9) rfl dX9_stowAt_29 ?_
      refine lv_iconst (v := (1 : Int32)) hx hb dX9_stowAt_32 (by decide) ?_
      obtain ⟨hi, hf⟩ := gd_s hf
      refine va_iald (D := (dC, dI)) (f := (M 1)) hx hb hK hP 1 0 rfl rfl (inb_in hi) dX9_stowAt_33 ?_
      refine lv_iconst (v := (0 : Int32)) hx hb dX9_stowAt_34 (by decide) ?_
      obtain ⟨r35, hc35, hf⟩ := bi_s hf
      have hPc := hP
      refine cRO (W.runV (As := [.int (M 1 (1 : Int32).toNatClampNeg), .int (0 : Int32)]) (rest := [.ref (a 0)]) ⟨hx, hb, hml, hown, hts⟩ (c_X9_of l dC dI cI cZ a (sr M 0 (upd (M 0) 0 (0 : Int32))) (M 1 (1 : Int32).toNatClampNeg) (0 : Int32) r35 hc35) (cwV 2 hts gX9_stowAt_X9_of rfl rfl rfl (by decide +kernel) ⟨Nat.le_of_ble_eq_true rfl, Nat.le_of_ble_eq_true rfl⟩) ⟨RO.blind, va_recv hK hP (ci := 9) (q0 := 0) rfl rfl, RO.pre hPc hK hNW⟩ rfl rfl hl.1 rfl (lv_room (Nat.le_of_ble_eq_true rfl)) dX9_stowAt_35 ⟨Nat.le_of_ble_eq_true rfl, Nat.le_of_ble_eq_true rfl⟩) ?_
      refine lv_iload_n hx hb dX9_stowAt_38 rfl (lv_at hl 1 rfl) ?_
      refine lv_iload_n hx hb dX9_stowAt_39 rfl (lv_at hl 2 rfl) ?_
      obtain ⟨r40, hc40, hf⟩ := bi_s hf
      have hPc := hP
      refine cRO (W.runV (As := [.int r35, .int a1, .int a2]) (rest := []) ⟨hx, hb, hml, hown, hts⟩ (c_X9_fits l dC dI cI cZ a (sr M 0 (upd (M 0) 0 (0 : Int32))) r35 a1 a2 r40 hc40) (cwV 3 hts gX9_stowAt_X9_fits rfl rfl rfl (by decide +kernel) ⟨Nat.le_of_ble_eq_true rfl, Nat.le_of_ble_eq_true rfl⟩) ⟨RO.blind, va_recv hK hP (ci := 9) (q0 := 0) rfl rfl, RO.pre hPc hK hNW⟩ rfl rfl hl.1 rfl (lv_room (Nat.le_of_ble_eq_true rfl)) dX9_stowAt_40 ⟨Nat.le_of_ble_eq_true rfl, Nat.le_of_ble_eq_true rfl⟩) ?_
      refine lv_if_ne (tgt := 52) hx hb dX9_stowAt_43 (by decide) (fun c9 => ?_) (fun c9 => ?_)
      · have hf := it_t hf c9
        refine lv_aload_n hx hb dX9_stowAt_52 rfl (lv_at hl 0 rfl) ?_
        obtain ⟨r53, hc53, hf⟩ := bi_s hf
        have hPc := hP
        have hDc := hD
        have hFc := va_free (wc := (wX9 cI cZ a (sr M 0 (upd (M 0) 0 (0 : Int32))))) hD hS hA [0, 1, 2, 3, 4, 5, 6, 7, 8] rfl
        refine va_callv (va_runV (As := []) (rest := []) ⟨hx, hb, hml, hown, hts⟩ (c_X9_records l dC dI cI cZ a H.size (sr M 0 (upd (M 0) 0 (0 : Int32))) r53 hc53) (cwV 0 hts gX9_stowAt_X9_records rfl rfl rfl (by decide +kernel) ⟨Nat.le_of_ble_eq_true rfl, Nat.le_of_ble_eq_true rfl⟩) ⟨WR.blind, va_recv hK hP (ci := 9) (q0 := 0) rfl rfl, WR.pre hPc hK hDc hNW⟩ rfl rfl hl.1 rfl (lv_room (Nat.le_of_ble_eq_true rfl)) dX9_stowAt_53 ⟨Nat.le_of_ble_eq_true rfl, Nat.le_of_ble_eq_true rfl⟩) hS (fun q _ h => hFc q h) hFc (fun u t H1 locs ht hvm hw hB hz1 hk1 hS => ?_)
        obtain ⟨hP1, hD1⟩ := hB
        rw [ht] at hP1
        have hP := hP1
        have hD := hD1.weaken (fun k q _ h => hFc q.1 h)
        have hP : va_P (dC, dI) vwCl (wX9 cI cZ a (sr (sr M 0 (r53 0)) 3 (r53 3))) H1 := hP
        have hD : va_D A (wX9 cI cZ a (sr (sr M 0 (r53 0)) 3 (r53 3))) := hD
        generalize H1 = H at hP hS ⊢
        refine lv_aload_n hx hb dX9_stowAt_56 rfl (lv_at hl 0 rfl) ?_
        refine lv_bipush (v := (20 : Int32)) hx hb dX9_stowAt_57 (by decide) ?_
        refine lv_iload_n hx hb dX9_stowAt_59 rfl (lv_at hl 1 rfl) ?_
        refine lv_imul hx hb dX9_stowAt_60 ?_
        refine lv_iload_n hx hb dX9_stowAt_61 rfl (lv_at hl 2 rfl) ?_
        refine lv_iadd hx hb dX9_stowAt_62 ?_
        obtain ⟨r63, hc63, hf⟩ := bi_s hf
        have hPc := hP
        have hDc := hD
        have hFc := va_free (wc := (wX9 cI cZ a (sr (sr M 0 (r53 0)) 3 (r53 3)))) hD hS hA [0, 1, 2, 3, 4, 5, 6, 7, 8] rfl
        refine va_calli (va_runV (As := [.int (((20 : Int32) * a1) + a2)]) (rest := []) ⟨hx, hb, hml, hown, hts⟩ (c_X9_stows l dC dI cI cZ a H.size (sr (sr M 0 (r53 0)) 3 (r53 3)) (((20 : Int32) * a1) + a2) r63 hc63) (cwV 1 hts gX9_stowAt_X9_stows rfl rfl rfl (by decide +kernel) ⟨Nat.le_of_ble_eq_true rfl, Nat.le_of_ble_eq_true rfl⟩) ⟨WR.blind, va_recv hK hP (ci := 9) (q0 := 0) rfl rfl, WR.pre hPc hK hDc hNW⟩ rfl rfl hl.1 rfl (lv_room (Nat.le_of_ble_eq_true rfl)) dX9_stowAt_63 ⟨Nat.le_of_ble_eq_true rfl, Nat.le_of_ble_eq_true rfl⟩) hS (fun q _ h => hFc q h) hFc (fun rv u t H1 locs ht hvm hw hB hz1 hk1 hS => ?_)
        obtain ⟨hP1, hD1⟩ := hB
        rw [ht] at hP1
        subst hw
        have hP := hP1
        have hD := hD1.weaken (fun k q _ h => hFc q.1 h)
        have hP : va_P (dC, dI) vwCl (wX9 cI cZ a (sr (sr (sr M 0 (r53 0)) 1 (r63.2 1)) 3 (r53 3))) H1 := hP
        have hD : va_D A (wX9 cI cZ a (sr (sr (sr M 0 (r53 0)) 1 (r63.2 1)) 3 (r53 3))) := hD
        generalize H1 = H at hP hS ⊢
        have e9 := so_e hf
        subst e9
        exact W.iret (v := r63.1) hx hb hr (fun t ht hW => ⟨⟨r63.1, (), rfl, rfl, WE.mk hP hD ht⟩, hS.F ht⟩) hS.2.2 dX9_stowAt_66
      · have hf := it_n hf c9
        exact hfX9_stowAt_B46  (sr M 0 (upd (M 0) 0 (0 : Int32))) hf _ (lv_sub hl [0] rfl) _ _ hP hD hS
  · have hf := it_n hf c9
    refine lv_aload_n hx hb dX9_stowAt_13 rfl (lv_at hl 0 rfl) ?_
    refine lv_iconst (v := (1 : Int32)) hx hb dX9_stowAt_14 (by decide) ?_
    obtain ⟨r15, hc15, hf⟩ := bi_s hf
    have hPc := hP
    have hDc := hD
    have hFc := va_free (wc := (wX9 cI cZ a (sr M 0 (upd (M 0) 0 (0 : Int32))))) hD hS hA [0, 1, 2, 3, 4, 5, 6, 7, 8] rfl
    refine va_calli (va_runV (As := [.int (1 : Int32)]) (rest := []) ⟨hx, hb, hml, hown, hts⟩ (c_X9_fails l dC dI cI cZ a H.size (sr M 0 (upd (M 0) 0 (0 : Int32))) (1 : Int32) r15 hc15) (cwV 1 hts gX9_stowAt_X9_fails rfl rfl rfl (by decide +kernel) ⟨Nat.le_of_ble_eq_true rfl, Nat.le_of_ble_eq_true rfl⟩) ⟨WR.blind, va_recv hK hP (ci := 9) (q0 := 0) rfl rfl, WR.pre hPc hK hDc hNW⟩ rfl rfl hl.1 rfl (lv_room (Nat.le_of_ble_eq_true rfl)) dX9_stowAt_15 ⟨Nat.le_of_ble_eq_true rfl, Nat.le_of_ble_eq_true rfl⟩) hS (fun q _ h => hFc q h) hFc (fun rv u t H1 locs ht hvm hw hB hz1 hk1 hS => ?_)
    obtain ⟨hP1, hD1⟩ := hB
    rw [ht] at hP1
    subst hw
    have hP := hP1
    have hD := hD1.weaken (fun k q _ h => hFc q.1 h)
    have hP : va_P (dC, dI) vwCl (wX9 cI cZ a (sr M 0 (r15.2 0))) H1 := hP
    have hD : va_D A (wX9 cI cZ a (sr M 0 (r15.2 0))) := hD
    generalize H1 = H at hP hS ⊢
    have e9 := so_e hf
    subst e9
    exact W.iret (v := r15.1) hx hb hr (fun t ht hW => ⟨⟨r15.1, (), rfl, rfl, WE.mk hP hD ht⟩, hS.F ht⟩) hS.2.2 dX9_stowAt_18
set_option maxHeartbeats 4000000 in
set_option maxRecDepth 100000 in
theorem c_X9_packsAside (l : Launch) (dC : Nat → ClassId) (dI : Nat → Nat → Nat) (cI cZ : ClassId) (a : Nat → Nat) (sz : Nat) (M : Mem) (z : Int32 × Mem) (hf : fX9_packsAside M  = some z) : Met l yX9_packsAside wsX9_packsAside ({ frames := 5, cells := 0, slots := 0, locals := 121 } : Room) (va_Pc [.ref (a 0)] (WR (dC, dI) cI cZ (wX9 cI cZ a M) sz)) (va_Qi (S := Unit) (fun r _ => r = z.1) (fun _ t => WE (dC, dI) cI cZ (wX9 cI cZ a (sr (sr M 1 (z.2 1)) 2 (z.2 2))) (va_A (wX9 cI cZ a M) sz) t) (va_A (wX9 cI cZ a M) sz)) 0 0 (va_A (wX9 cI cZ a M) sz) := by
  refine Met.ofW (cc := cX9_packsAside) (maxL := 2) (ret := (some .int)) (by decide) rfl ?_
  intro p e s m args below meth c s₁ B hml hv
  obtain ⟨rfl, hsz, hP, hK, hD0, hNW⟩ := hv
  have hx := B.exec
  have hb := B.bytes
  have hr := B.returns
  have hts := atoms_spec (ws := wsX9_packsAside) B.pre
  have hown : s.vm.findClass RX9 = some m.cls := findClass_of_methodNamed B.named
  have hlocks := B.notSynchronized
  subst hsz
  have hD := hD0.self (sz := s.heap.size)
  generalize hAe : va_A (wX9 cI cZ a M) s.heap.size = A at hD ⊢
  have hA : ∀ q : Nat, s.heap.size ≤ q → A q := fun q h => by rw [← hAe]; exact Or.inr h
  have hS : va_S A s.heap s.heap [] := va_S.rf
  have hl := lv_entry ([.ref (a 0)]) (n := 2) (Nat.le_of_ble_eq_true rfl)
  rw [lg_entry_eq]
  generalize (lg_sl ([.ref (a 0)]) ++ List.replicate (2 - (lg_sl ([.ref (a 0)])).length) Slot.unset).toArray = ls at hl ⊢
  have hl : lv_has ls 2 [(0, .ref (a 0))] := hl
  unfold fX9_packsAside at hf
  suffices hgo : ∀ (H : Heap) (locs : List Loc), va_P (dC, dI) vwCl (wX9 cI cZ a M) H → va_D A (wX9 cI cZ a M) → va_S A s.heap H locs → W p l e (headSpec wsX9_packsAside ({ frames := 5, cells := 0, slots := 0, locals := 121 } : Room)).room s m ([.ref (a 0)] : List Value).toArray below meth c H locs 0 0 (MQ below (va_Qi (S := Unit) (fun r _ => r = z.1) (fun _ t => WE (dC, dI) cI cZ (wX9 cI cZ a (sr (sr M 1 (z.2 1)) 2 (z.2 2))) A t) A) ([.ref (a 0)] : List Value).toArray s 0 0 A) (F0 m 0 ls []) from hgo _ _ hP hD hS
  intro H locs hP hD hS
  refine lv_aload_n hx hb dX9_packsAside_0 rfl (lv_at hl 0 rfl) ?_
  obtain ⟨r1, hc1, hf⟩ := bi_s hf
  have hPc := hP
  have hDc := hD
  have hFc := va_free (wc := (wX9 cI cZ a M)) hD hS hA [0, 1, 2, 3, 4, 5, 6, 7, 8] rfl
  refine va_calli (va_runV (As := []) (rest := []) ⟨hx, hb, hml, hown, hts⟩ (c_X9_packs l dC dI cI cZ a H.size M r1 hc1) (cwV 0 hts gX9_packsAside_X9_packs rfl rfl rfl (by decide +kernel) ⟨Nat.le_of_ble_eq_true rfl, Nat.le_of_ble_eq_true rfl⟩) ⟨WR.blind, va_recv hK hP (ci := 9) (q0 := 0) rfl rfl, WR.pre hPc hK hDc hNW⟩ rfl rfl hl.1 rfl (lv_room (Nat.le_of_ble_eq_true rfl)) dX9_packsAside_1 ⟨Nat.le_of_ble_eq_true rfl, Nat.le_of_ble_eq_true rfl⟩) hS (fun q _ h => hFc q h) hFc (fun rv u t H1 locs ht hvm hw hB hz1 hk1 hS => ?_)
  obtain ⟨hP1, hD1⟩ := hB
  rw [ht] at hP1
  subst hw
  have hP := hP1
  have hD := hD1.weaken (fun k q _ h => hFc q.1 h)
  have hP : va_P (dC, dI) vwCl (wX9 cI cZ a (sr (sr M 1 (r1.2 1)) 2 (r1.2 2))) H1 := hP
  have hD : va_D A (wX9 cI cZ a (sr (sr M 1 (r1.2 1)) 2 (r1.2 2))) := hD
  generalize H1 = H at hP hS ⊢
  refine lv_istore_n (lv' := [(1, .int r1.1), (0, .ref (a 0))]) hx hb dX9_packsAside_4 rfl hl (by decide) rfl (fun ls hl => ?_)
  refine lv_aload_n hx hb dX9_packsAside_5 rfl (lv_at hl 1 rfl) ?_
  obtain ⟨r6, hc6, hf⟩ := bi_s hf
  have hPc := hP
  have hDc := hD
  have hFc := va_free (wc := (wX9 cI cZ a (sr (sr M 1 (r1.2 1)) 2 (r1.2 2)))) hD hS hA [0, 1, 2, 3, 4, 5, 6, 7, 8] rfl
  refine va_callv (va_runV (As := []) (rest := []) ⟨hx, hb, hml, hown, hts⟩ (c_X9_takeBack l dC dI cI cZ a H.size (sr (sr M 1 (r1.2 1)) 2 (r1.2 2)) r6 hc6) (cwV 0 hts gX9_packsAside_X9_takeBack rfl rfl rfl (by decide +kernel) ⟨Nat.le_of_ble_eq_true rfl, Nat.le_of_ble_eq_true rfl⟩) ⟨WR.blind, va_recv hK hP (ci := 9) (q0 := 0) rfl rfl, WR.pre hPc hK hDc hNW⟩ rfl rfl hl.1 rfl (lv_room (Nat.le_of_ble_eq_true rfl)) dX9_packsAside_6 ⟨Nat.le_of_ble_eq_true rfl, Nat.le_of_ble_eq_true rfl⟩) hS (fun q _ h => hFc q h) hFc (fun u t H1 locs ht hvm hw hB hz1 hk1 hS => ?_)
  obtain ⟨hP1, hD1⟩ := hB
  rw [ht] at hP1
  have hP := hP1
  have hD := hD1.weaken (fun k q _ h => hFc q.1 h)
  have hP : va_P (dC, dI) vwCl (wX9 cI cZ a (sr (sr M 1 (r6 1)) 2 (r1.2 2))) H1 := hP
  have hD : va_D A (wX9 cI cZ a (sr (sr M 1 (r6 1)) 2 (r1.2 2))) := hD
  generalize H1 = H at hP hS ⊢
  refine lv_iload_n hx hb dX9_packsAside_9 rfl (lv_at hl 0 rfl) ?_
  have e9 := so_e hf
  subst e9
  exact W.iret (v := r1.1) hx hb hr (fun t ht hW => ⟨⟨r1.1, (), rfl, rfl, WE.mk hP hD ht⟩, hS.F ht⟩) hS.2.2 dX9_packsAside_10
set_option maxHeartbeats 4000000 in
set_option maxRecDepth 100000 in
theorem c_X9_pack (l : Launch) (dC : Nat → ClassId) (dI : Nat → Nat → Nat) (cI cZ : ClassId) (a : Nat → Nat) (sz : Nat) (M : Mem) (z : Int32 × Mem) (hf : fX9_pack M  = some z) : Met l yX9_pack wsX9_pack ({ frames := 6, cells := 0, slots := 0, locals := 142 } : Room) (va_Pc [.ref (a 0)] (WR (dC, dI) cI cZ (wX9 cI cZ a M) sz)) (va_Qi (S := Unit) (fun r _ => r = z.1) (fun _ t => WE (dC, dI) cI cZ (wX9 cI cZ a (sr (sr (sr (sr M 0 (z.2 0)) 1 (z.2 1)) 2 (z.2 2)) 3 (z.2 3))) (va_A (wX9 cI cZ a M) sz) t) (va_A (wX9 cI cZ a M) sz)) 0 0 (va_A (wX9 cI cZ a M) sz) := by
  refine Met.ofW (cc := cX9_pack) (maxL := 2) (ret := (some .int)) (by decide) rfl ?_
  intro p e s m args below meth c s₁ B hml hv
  obtain ⟨rfl, hsz, hP, hK, hD0, hNW⟩ := hv
  have hx := B.exec
  have hb := B.bytes
  have hr := B.returns
  have hts := atoms_spec (ws := wsX9_pack) B.pre
  have hown : s.vm.findClass RX9 = some m.cls := findClass_of_methodNamed B.named
  have hlocks := B.notSynchronized
  have hinX9 : ∀ w ∈ u_ws RX9 TX9 13, w ∈ wsX9_pack := by decide +kernel
  have hw1 := hts (.fieldLink RX9 35 "GlideShelvesModel" "thrown" "I") (by decide +kernel)
  subst hsz
  have hD := hD0.self (sz := s.heap.size)
  generalize hAe : va_A (wX9 cI cZ a M) s.heap.size = A at hD ⊢
  have hA : ∀ q : Nat, s.heap.size ≤ q → A q := fun q h => by rw [← hAe]; exact Or.inr h
  have hS : va_S A s.heap s.heap [] := va_S.rf
  have hfX9_pack_B20 : ∀ (N : Mem) (s0 : Int32), fX9_pack_B20 M  N s0 = some z → ∀ (ls : Array Slot), lv_has ls 2 [(0, .ref (a 0))] → ∀ (H : Heap) (locs : List Loc), va_P (dC, dI) vwCl (wX9 cI cZ a (sr (sr (sr (sr M 0 (N 0)) 1 (N 1)) 2 (N 2)) 3 (N 3))) H → va_D A (wX9 cI cZ a (sr (sr (sr (sr M 0 (N 0)) 1 (N 1)) 2 (N 2)) 3 (N 3))) → va_S A s.heap H locs → W p l e (headSpec wsX9_pack ({ frames := 6, cells := 0, slots := 0, locals := 142 } : Room)).room s m ([.ref (a 0)] : List Value).toArray below meth c H locs 0 0 (MQ below (va_Qi (S := Unit) (fun r _ => r = z.1) (fun _ t => WE (dC, dI) cI cZ (wX9 cI cZ a (sr (sr (sr (sr M 0 (z.2 0)) 1 (z.2 1)) 2 (z.2 2)) 3 (z.2 3))) A t) A) ([.ref (a 0)] : List Value).toArray s 0 0 A) (F0 m 20 ls [.int s0]) := by
    intro  N s0 hf ls hl H locs hP hD hS
    unfold fX9_pack_B20 at hf
    refine lv_istore_n (lv' := [(1, .int s0), (0, .ref (a 0))]) hx hb dX9_pack_20 rfl hl (by decide) rfl (fun ls hl => ?_)
    refine lv_iload_n hx hb dX9_pack_21 rfl (lv_at hl 0 rfl) ?_
    refine lv_iconst (v := (-1 : Int32)) hx hb dX9_pack_22 (by decide) ?_
    refine lv_icmp_ne (tgt := 32) hx hb dX9_pack_23 (by decide) (fun c9 => ?_) (fun c9 => ?_)
    · have hf := it_t hf c9
      refine lv_aload_n hx hb dX9_pack_32 rfl (lv_at hl 1 rfl) ?_
      obtain ⟨r33, hc33, hf⟩ := bi_s hf
      have hPc := hP
      have hDc := hD
      have hFc := va_free (wc := (wX9 cI cZ a (sr (sr (sr (sr M 0 (N 0)) 1 (N 1)) 2 (N 2)) 3 (N 3)))) hD hS hA [0, 1, 2, 3, 4, 5, 6, 7, 8] rfl
      refine va_callv (va_runV (As := []) (rest := []) ⟨hx, hb, hml, hown, hts⟩ (c_X9_records l dC dI cI cZ a H.size (sr (sr (sr (sr M 0 (N 0)) 1 (N 1)) 2 (N 2)) 3 (N 3)) r33 hc33) (cwV 0 hts gX9_pack_X9_records rfl rfl rfl (by decide +kernel) ⟨Nat.le_of_ble_eq_true rfl, Nat.le_of_ble_eq_true rfl⟩) ⟨WR.blind, va_recv hK hP (ci := 9) (q0 := 0) rfl rfl, WR.pre hPc hK hDc hNW⟩ rfl rfl hl.1 rfl (lv_room (Nat.le_of_ble_eq_true rfl)) dX9_pack_33 ⟨Nat.le_of_ble_eq_true rfl, Nat.le_of_ble_eq_true rfl⟩) hS (fun q _ h => hFc q h) hFc (fun u t H1 locs ht hvm hw hB hz1 hk1 hS => ?_)
      obtain ⟨hP1, hD1⟩ := hB
      rw [ht] at hP1
      have hP := hP1
      have hD := hD1.weaken (fun k q _ h => hFc q.1 h)
      have hP : va_P (dC, dI) vwCl (wX9 cI cZ a (sr (sr (sr (sr M 0 (r33 0)) 1 (N 1)) 2 (N 2)) 3 (r33 3))) H1 := hP
      have hD : va_D A (wX9 cI cZ a (sr (sr (sr (sr M 0 (r33 0)) 1 (N 1)) 2 (N 2)) 3 (r33 3))) := hD
      generalize H1 = H at hP hS ⊢
      refine lv_aload_n hx hb dX9_pack_36 rfl (lv_at hl 1 rfl) ?_
      obtain ⟨r37, hc37, hf⟩ := bi_s hf
      have hPc := hP
      have hDc := hD
      have hFc := va_free (wc := (wX9 cI cZ a (sr (sr (sr (sr M 0 (r33 0)) 1 (N 1)) 2 (N 2)) 3 (r33 3)))) hD hS hA [0, 1, 2, 3, 4, 5, 6, 7, 8] rfl
      refine va_calli (va_runV (As := []) (rest := []) ⟨hx, hb, hml, hown, hts⟩ (c_X9_packs l dC dI cI cZ a H.size (sr (sr (sr (sr M 0 (r33 0)) 1 (N 1)) 2 (N 2)) 3 (r33 3)) r37 hc37) (cwV 0 hts gX9_pack_X9_packs rfl rfl rfl (by decide +kernel) ⟨Nat.le_of_ble_eq_true rfl, Nat.le_of_ble_eq_true rfl⟩) ⟨WR.blind, va_recv hK hP (ci := 9) (q0 := 0) rfl rfl, WR.pre hPc hK hDc hNW⟩ rfl rfl hl.1 rfl (lv_room (Nat.le_of_ble_eq_true rfl)) dX9_pack_37 ⟨Nat.le_of_ble_eq_true rfl, Nat.le_of_ble_eq_true rfl⟩) hS (fun q _ h => hFc q h) hFc (fun rv u t H1 locs ht hvm hw hB hz1 hk1 hS => ?_)
      obtain ⟨hP1, hD1⟩ := hB
      rw [ht] at hP1
      subst hw
      have hP := hP1
      have hD := hD1.weaken (fun k q _ h => hFc q.1 h)
      have hP : va_P (dC, dI) vwCl (wX9 cI cZ a (sr (sr (sr (sr M 0 (r33 0)) 1 (r37.2 1)) 2 (r37.2 2)) 3 (r33 3))) H1 := hP
      have hD : va_D A (wX9 cI cZ a (sr (sr (sr (sr M 0 (r33 0)) 1 (r37.2 1)) 2 (r37.2 2)) 3 (r33 3))) := hD
      generalize H1 = H at hP hS ⊢
      refine lv_pop hx hb dX9_pack_40 rfl ?_
      refine lv_iload_n hx hb dX9_pack_41 rfl (lv_at hl 0 rfl) ?_
      have e9 := so_e hf
      subst e9
      exact W.iret (v := s0) hx hb hr (fun t ht hW => ⟨⟨s0, (), rfl, rfl, WE.mk hP hD ht⟩, hS.F ht⟩) hS.2.2 dX9_pack_42
    · have hf := it_n hf c9
      refine lv_aload_n hx hb dX9_pack_26 rfl (lv_at hl 1 rfl) ?_
      refine lv_iconst (v := (1 : Int32)) hx hb dX9_pack_27 (by decide) ?_
      obtain ⟨r28, hc28, hf⟩ := bi_s hf
      have hPc := hP
      have hDc := hD
      have hFc := va_free (wc := (wX9 cI cZ a (sr (sr (sr (sr M 0 (N 0)) 1 (N 1)) 2 (N 2)) 3 (N 3)))) hD hS hA [0, 1, 2, 3, 4, 5, 6, 7, 8] rfl
      refine va_calli (va_runV (As := [.int (1 : Int32)]) (rest := []) ⟨hx, hb, hml, hown, hts⟩ (c_X9_fails l dC dI cI cZ a H.size (sr (sr (sr (sr M 0 (N 0)) 1 (N 1)) 2 (N 2)) 3 (N 3)) (1 : Int32) r28 hc28) (cwV 1 hts gX9_pack_X9_fails rfl rfl rfl (by decide +kernel) ⟨Nat.le_of_ble_eq_true rfl, Nat.le_of_ble_eq_true rfl⟩) ⟨WR.blind, va_recv hK hP (ci := 9) (q0 := 0) rfl rfl, WR.pre hPc hK hDc hNW⟩ rfl rfl hl.1 rfl (lv_room (Nat.le_of_ble_eq_true rfl)) dX9_pack_28 ⟨Nat.le_of_ble_eq_true rfl, Nat.le_of_ble_eq_true rfl⟩) hS (fun q _ h => hFc q h) hFc (fun rv u t H1 locs ht hvm hw hB hz1 hk1 hS => ?_)
      obtain ⟨hP1, hD1⟩ := hB
      rw [ht] at hP1
      subst hw
      have hP := hP1
      have hD := hD1.weaken (fun k q _ h => hFc q.1 h)
      have hP : va_P (dC, dI) vwCl (wX9 cI cZ a (sr (sr (sr (sr M 0 (r28.2 0)) 1 (N 1)) 2 (N 2)) 3 (N 3))) H1 := hP
      have hD : va_D A (wX9 cI cZ a (sr (sr (sr (sr M 0 (r28.2 0)) 1 (N 1)) 2 (N 2)) 3 (N 3))) := hD
      generalize H1 = H at hP hS ⊢
      have e9 := so_e hf
      subst e9
      exact W.iret (v := r28.1) hx hb hr (fun t ht hW => ⟨⟨r28.1, (), rfl, rfl, WE.mk hP hD ht⟩, hS.F ht⟩) hS.2.2 dX9_pack_31
  have hl := lv_entry ([.ref (a 0)]) (n := 2) (Nat.le_of_ble_eq_true rfl)
  rw [lg_entry_eq]
  generalize (lg_sl ([.ref (a 0)]) ++ List.replicate (2 - (lg_sl ([.ref (a 0)])).length) Slot.unset).toArray = ls at hl ⊢
  have hl : lv_has ls 2 [(0, .ref (a 0))] := hl
  unfold fX9_pack at hf
  suffices hgo : ∀ (H : Heap) (locs : List Loc), va_P (dC, dI) vwCl (wX9 cI cZ a M) H → va_D A (wX9 cI cZ a M) → va_S A s.heap H locs → W p l e (headSpec wsX9_pack ({ frames := 6, cells := 0, slots := 0, locals := 142 } : Room)).room s m ([.ref (a 0)] : List Value).toArray below meth c H locs 0 0 (MQ below (va_Qi (S := Unit) (fun r _ => r = z.1) (fun _ t => WE (dC, dI) cI cZ (wX9 cI cZ a (sr (sr (sr (sr M 0 (z.2 0)) 1 (z.2 1)) 2 (z.2 2)) 3 (z.2 3))) A t) A) ([.ref (a 0)] : List Value).toArray s 0 0 A) (F0 m 0 ls []) from hgo _ _ hP hD hS
  intro H locs hP hD hS
  refine lv_aload_n hx hb dX9_pack_0 rfl (lv_at hl 0 rfl) ?_
  refine lv_iconst (v := (0 : Int32)) hx hb dX9_pack_1 (by decide) ?_
  refine va_put (D := (dC, dI)) (ci := 9) (v := .int (0 : Int32)) (ty := .int) (C := RX9) (T := TX9) (N := 13) hx hb hts hinX9 tyX9 tyX9_ok nmX9 hown hK hP hD hS 0 rfl rfl 0 (by decide) hw1 (fun _ h9 => h9) rfl (by decide +kernel) rfl rfl (Nat.le_of_ble_eq_true rfl) dX9_pack_2 (fun H locs hP hD hS => ?_)
  have hP : va_P (dC, dI) vwCl (wX9 cI cZ a (sr M 0 (upd (M 0) 0 (0 : Int32)))) H := hP
  have hD : va_D A (wX9 cI cZ a (sr M 0 (upd (M 0) 0 (0 : Int32)))) := hD
  refine lv_aload_n hx hb dX9_pack_5 rfl (lv_at hl 0 rfl) ?_
  obtain ⟨r6, hc6, hf⟩ := bi_s hf
  have hPc := hP
  refine cRO (W.runV (As := []) (rest := []) ⟨hx, hb, hml, hown, hts⟩ (c_X9_hasWindow l dC dI cI cZ a (sr M 0 (upd (M 0) 0 (0 : Int32))) r6 hc6) (cwV 0 hts gX9_pack_X9_hasWindow rfl rfl rfl (by decide +kernel) ⟨Nat.le_of_ble_eq_true rfl, Nat.le_of_ble_eq_true rfl⟩) ⟨RO.blind, va_recv hK hP (ci := 9) (q0 := 0) rfl rfl, RO.pre hPc hK hNW⟩ rfl rfl hl.1 rfl (lv_room (Nat.le_of_ble_eq_true rfl)) dX9_pack_6 ⟨Nat.le_of_ble_eq_true rfl, Nat.le_of_ble_eq_true rfl⟩) ?_
  refine lv_if_eq (tgt := 16) hx hb dX9_pack_9 (by decide) (fun c9 => ?_) (fun c9 => ?_)
  · have hf := it_t hf c9
    refine lv_aload_n hx hb dX9_pack_16 rfl (lv_at hl 0 rfl) ?_
    obtain ⟨r17, hc17, hf⟩ := bi_s hf
    have hPc := hP
    have hDc := hD
    have hFc := va_free (wc := (wX9 cI cZ a (sr M 0 (upd (M 0) 0 (0 : Int32))))) hD hS hA [0, 1, 2, 3, 4, 5, 6, 7, 8] rfl
    refine va_calli (va_runV (As := []) (rest := []) ⟨hx, hb, hml, hown, hts⟩ (c_X9_packsAside l dC dI cI cZ a H.size (sr M 0 (upd (M 0) 0 (0 : Int32))) r17 hc17) (cwV 0 hts gX9_pack_X9_packsAside rfl rfl rfl (by decide +kernel) ⟨Nat.le_of_ble_eq_true rfl, Nat.le_of_ble_eq_true rfl⟩) ⟨WR.blind, va_recv hK hP (ci := 9) (q0 := 0) rfl rfl, WR.pre hPc hK hDc hNW⟩ rfl rfl hl.1 rfl (lv_room (Nat.le_of_ble_eq_true rfl)) dX9_pack_17 ⟨Nat.le_of_ble_eq_true rfl, Nat.le_of_ble_eq_true rfl⟩) hS (fun q _ h => hFc q h) hFc (fun rv u t H1 locs ht hvm hw hB hz1 hk1 hS => ?_)
    obtain ⟨hP1, hD1⟩ := hB
    rw [ht] at hP1
    subst hw
    have hP := hP1
    have hD := hD1.weaken (fun k q _ h => hFc q.1 h)
    have hP : va_P (dC, dI) vwCl (wX9 cI cZ a (sr (sr (sr M 0 (upd (M 0) 0 (0 : Int32))) 1 (r17.2 1)) 2 (r17.2 2))) H1 := hP
    have hD : va_D A (wX9 cI cZ a (sr (sr (sr M 0 (upd (M 0) 0 (0 : Int32))) 1 (r17.2 1)) 2 (r17.2 2))) := hD
    generalize H1 = H at hP hS ⊢
    exact hfX9_pack_B20  (sr (sr (sr M 0 (upd (M 0) 0 (0 : Int32))) 1 (r17.2 1)) 2 (r17.2 2)) r17.1 hf _ (lv_sub hl [0] rfl) _ _ hP hD hS
  · have hf := it_f hf c9
    refine lv_iconst (v := (-1 : Int32)) hx hb dX9_pack_12 (by decide) ?_
    refine lv_goto (tgt := 20) hx hb dX9_pack_13 (by decide) ?_
    exact hfX9_pack_B20  (sr M 0 (upd (M 0) 0 (0 : Int32))) (-1 : Int32) hf _ (lv_sub hl [0] rfl) _ _ hP hD hS
set_option maxHeartbeats 4000000 in
set_option maxRecDepth 100000 in
theorem c_X9_isMany (l : Launch) (a0 : Int32) (z : Int32) (hf : fX9_isMany a0 = some z) : Met l yX9_isMany wsX9_isMany ({ frames := 1, cells := 0, slots := 0, locals := 22 } : Room) (va_Pc [.int a0] (fun _ => True)) (k2_QcV (.int z)) 0 0 (fun _ => False) := by
  refine Met.ofW (cc := cX9_isMany) (maxL := 1) (ret := (some .boolean)) (by decide) rfl ?_
  intro p e s m args below meth c s₁ B hml hv
  obtain ⟨rfl, -⟩ := hv
  have hx := B.exec
  have hb := B.bytes
  have hr := B.returns
  have hts := atoms_spec (ws := wsX9_isMany) B.pre
  have hown : s.vm.findClass RX9 = some m.cls := findClass_of_methodNamed B.named
  have hlocks := B.notSynchronized
  have hl := lv_entry ([.int a0]) (n := 1) (Nat.le_of_ble_eq_true rfl)
  rw [lg_entry_eq]
  generalize (lg_sl ([.int a0]) ++ List.replicate (1 - (lg_sl ([.int a0])).length) Slot.unset).toArray = ls at hl ⊢
  have hl : lv_has ls 1 [(0, .int a0)] := hl
  unfold fX9_isMany at hf
  refine lv_iload_n hx hb dX9_isMany_0 rfl (lv_at hl 0 rfl) ?_
  refine lv_iconst (v := (1 : Int32)) hx hb dX9_isMany_1 (by decide) ?_
  refine lv_bipush (v := (20 : Int32)) hx hb dX9_isMany_2 (by decide) ?_
  obtain ⟨r4, hc4, hf⟩ := bi_s hf
  refine cRO (W.runS (As := [.int a0, .int (1 : Int32), .int (20 : Int32)]) (rest := []) ⟨hx, hb, hml, hown, hts⟩ (c_X9_in l a0 (1 : Int32) (20 : Int32) r4 hc4) (va_cwS 3 hts gX9_isMany_X9_in rfl rfl rfl (by decide +kernel) ⟨Nat.le_of_ble_eq_true rfl, Nat.le_of_ble_eq_true rfl⟩) ⟨tr_blind, tr_pre⟩ rfl rfl hl.1 rfl (lv_room (Nat.le_of_ble_eq_true rfl)) dX9_isMany_4 ⟨Nat.le_of_ble_eq_true rfl, Nat.le_of_ble_eq_true rfl⟩) ?_
  obtain ⟨hz, hf⟩ := gd_s hf
  exact W.zret (v := r4) hx hb hr (isb_nar hz) (fun t ht hW => ⟨congrArg (fun x => Outcome.returned (some (Value.int x))) (so_e hf), ht⟩) fl0 dX9_isMany_7
set_option maxHeartbeats 4000000 in
set_option maxRecDepth 100000 in
theorem c_X9_adds (l : Launch) (dC : Nat → ClassId) (dI : Nat → Nat → Nat) (cI cZ : ClassId) (a : Nat → Nat) (sz : Nat) (M : Mem) (a1 : Int32) (a2 : Int32) (z : Int32 × Mem) (hf : fX9_adds M a1 a2 = some z) : Met l yX9_adds wsX9_adds ({ frames := 1, cells := 0, slots := 0, locals := 23 } : Room) (va_Pc [.ref (a 0), .int a1, .int a2] (WR (dC, dI) cI cZ (wX9 cI cZ a M) sz)) (va_Qi (S := Unit) (fun r _ => r = z.1) (fun _ t => WE (dC, dI) cI cZ (wX9 cI cZ a (sr M 1 (z.2 1))) (va_A (wX9 cI cZ a M) sz) t) (va_A (wX9 cI cZ a M) sz)) 0 0 (va_A (wX9 cI cZ a M) sz) := by
  refine Met.ofW (cc := cX9_adds) (maxL := 4) (ret := (some .int)) (by decide) rfl ?_
  intro p e s m args below meth c s₁ B hml hv
  obtain ⟨rfl, hsz, hP, hK, hD0, hNW⟩ := hv
  have hx := B.exec
  have hb := B.bytes
  have hr := B.returns
  have hts := atoms_spec (ws := wsX9_adds) B.pre
  have hown : s.vm.findClass RX9 = some m.cls := findClass_of_methodNamed B.named
  have hlocks := B.notSynchronized
  have hinX9 : ∀ w ∈ u_ws RX9 TX9 13, w ∈ wsX9_adds := by decide +kernel
  have hw1 := hts (.fieldLink RX9 7 "GlideShelvesModel" "s" "[I") (by decide +kernel)
  subst hsz
  have hD := hD0.self (sz := s.heap.size)
  generalize hAe : va_A (wX9 cI cZ a M) s.heap.size = A at hD ⊢
  have hA : ∀ q : Nat, s.heap.size ≤ q → A q := fun q h => by rw [← hAe]; exact Or.inr h
  have hS : va_S A s.heap s.heap [] := va_S.rf
  have hl := lv_entry ([.ref (a 0), .int a1, .int a2]) (n := 4) (Nat.le_of_ble_eq_true rfl)
  rw [lg_entry_eq]
  generalize (lg_sl ([.ref (a 0), .int a1, .int a2]) ++ List.replicate (4 - (lg_sl ([.ref (a 0), .int a1, .int a2])).length) Slot.unset).toArray = ls at hl ⊢
  have hl : lv_has ls 4 [(0, .ref (a 0)), (1, .int a1), (2, .int a2)] := hl
  unfold fX9_adds at hf
  suffices hgo : ∀ (H : Heap) (locs : List Loc), va_P (dC, dI) vwCl (wX9 cI cZ a M) H → va_D A (wX9 cI cZ a M) → va_S A s.heap H locs → W p l e (headSpec wsX9_adds ({ frames := 1, cells := 0, slots := 0, locals := 23 } : Room)).room s m ([.ref (a 0), .int a1, .int a2] : List Value).toArray below meth c H locs 0 0 (MQ below (va_Qi (S := Unit) (fun r _ => r = z.1) (fun _ t => WE (dC, dI) cI cZ (wX9 cI cZ a (sr M 1 (z.2 1))) A t) A) ([.ref (a 0), .int a1, .int a2] : List Value).toArray s 0 0 A) (F0 m 0 ls []) from hgo _ _ hP hD hS
  intro H locs hP hD hS
  refine lv_aload_n hx hb dX9_adds_0 rfl (lv_at hl 0 rfl) ?_
  refine va_get (D := (dC, dI)) (ci := 9) (v := .ref (a 1)) (C := RX9) (T := TX9) (N := 13) hx hb hts hinX9 hown hK hP 0 rfl rfl 1 (by decide) hw1 (fun _ h9 => h9) rfl dX9_adds_1 ?_
  refine lv_iconst (v := (1 : Int32)) hx hb dX9_adds_4 (by decide) ?_
  obtain ⟨hi, hf⟩ := gd_s hf
  refine va_iald (D := (dC, dI)) (f := (M 1)) hx hb hK hP 1 0 rfl rfl (inb_in hi) dX9_adds_5 ?_
  refine lv_istore_n (lv' := [(3, .int (M 1 (1 : Int32).toNatClampNeg)), (0, .ref (a 0)), (1, .int a1), (2, .int a2)]) hx hb dX9_adds_6 rfl hl (by decide) rfl (fun ls hl => ?_)
  refine lv_aload_n hx hb dX9_adds_7 rfl (lv_at hl 1 rfl) ?_
  refine lv_iload_n hx hb dX9_adds_8 rfl (lv_at hl 0 rfl) ?_
  refine lv_iconst (v := (4 : Int32)) hx hb dX9_adds_9 (by decide) ?_
  refine lv_iload_n hx hb dX9_adds_10 rfl (lv_at hl 2 rfl) ?_
  refine lv_iadd hx hb dX9_adds_11 ?_
  refine lv_aload_n hx hb dX9_adds_12 rfl (lv_at hl 1 rfl) ?_
  refine lv_iload_n hx hb dX9_adds_13 rfl (lv_at hl 0 rfl) ?_
  refine lv_iconst (v := (4 : Int32)) hx hb dX9_adds_14 (by decide) ?_
  refine lv_iload_n hx hb dX9_adds_15 rfl (lv_at hl 2 rfl) ?_
  refine lv_iadd hx hb dX9_adds_16 ?_
  obtain ⟨r17, hc17, hf⟩ := bi_s hf
  have hPc := hP
  refine cRO (W.runV (As := [.int (M 1 (1 : Int32).toNatClampNeg), .int ((4 : Int32) + a1)]) (rest := [.int ((4 : Int32) + a1), .int (M 1 (1 : Int32).toNatClampNeg), .ref (a 0)]) ⟨hx, hb, hml, hown, hts⟩ (c_X9_of l dC dI cI cZ a M (M 1 (1 : Int32).toNatClampNeg) ((4 : Int32) + a1) r17 hc17) (cwV 2 hts gX9_adds_X9_of rfl rfl rfl (by decide +kernel) ⟨Nat.le_of_ble_eq_true rfl, Nat.le_of_ble_eq_true rfl⟩) ⟨RO.blind, va_recv hK hP (ci := 9) (q0 := 0) rfl rfl, RO.pre hPc hK hNW⟩ rfl rfl hl.1 rfl (lv_room (Nat.le_of_ble_eq_true rfl)) dX9_adds_17 ⟨Nat.le_of_ble_eq_true rfl, Nat.le_of_ble_eq_true rfl⟩) ?_
  refine lv_iload_n hx hb dX9_adds_20 rfl (lv_at hl 3 rfl) ?_
  refine lv_iadd hx hb dX9_adds_21 ?_
  obtain ⟨r22, hc22, hf⟩ := bi_s hf
  have hPc := hP
  have hDc := hD
  have hFc := va_free (wc := (wX9 cI cZ a M)) hD hS hA [0, 1, 2, 3, 4, 5, 6, 7, 8] rfl
  refine va_callv (va_runV (As := [.int (M 1 (1 : Int32).toNatClampNeg), .int ((4 : Int32) + a1), .int (r17 + a2)]) (rest := []) ⟨hx, hb, hml, hown, hts⟩ (c_X9_lay l dC dI cI cZ a H.size M (M 1 (1 : Int32).toNatClampNeg) ((4 : Int32) + a1) (r17 + a2) r22 hc22) (cwV 3 hts gX9_adds_X9_lay rfl rfl rfl (by decide +kernel) ⟨Nat.le_of_ble_eq_true rfl, Nat.le_of_ble_eq_true rfl⟩) ⟨WR.blind, va_recv hK hP (ci := 9) (q0 := 0) rfl rfl, WR.pre hPc hK hDc hNW⟩ rfl rfl hl.1 rfl (lv_room (Nat.le_of_ble_eq_true rfl)) dX9_adds_22 ⟨Nat.le_of_ble_eq_true rfl, Nat.le_of_ble_eq_true rfl⟩) hS (fun q _ h => hFc q h) hFc (fun u t H1 locs ht hvm hw hB hz1 hk1 hS => ?_)
  obtain ⟨hP1, hD1⟩ := hB
  rw [ht] at hP1
  have hP := hP1
  have hD := hD1.weaken (fun k q _ h => hFc q.1 h)
  have hP : va_P (dC, dI) vwCl (wX9 cI cZ a (sr M 1 (r22 1))) H1 := hP
  have hD : va_D A (wX9 cI cZ a (sr M 1 (r22 1))) := hD
  generalize H1 = H at hP hS ⊢
  refine lv_aload_n hx hb dX9_adds_25 rfl (lv_at hl 1 rfl) ?_
  refine va_get (D := (dC, dI)) (ci := 9) (v := .ref (a 1)) (C := RX9) (T := TX9) (N := 13) hx hb hts hinX9 hown hK hP 0 rfl rfl 1 (by decide) hw1 (fun _ h9 => h9) rfl dX9_adds_26 ?_
  refine lv_sipush (v := (197 : Int32)) hx hb dX9_adds_29 (by decide) ?_
  refine lv_iload_n hx hb dX9_adds_32 rfl (lv_at hl 2 rfl) ?_
  refine lv_iadd hx hb dX9_adds_33 ?_
  refine lv_dup2_11 hx hb dX9_adds_34 rfl rfl ?_
  obtain ⟨hi, hf⟩ := gd_s hf
  refine va_iald (D := (dC, dI)) (f := (r22 1)) hx hb hK hP 1 0 rfl rfl (inb_in hi) dX9_adds_35 ?_
  refine lv_iload_n hx hb dX9_adds_36 rfl (lv_at hl 3 rfl) ?_
  refine lv_iadd hx hb dX9_adds_37 ?_
  obtain ⟨hi, hf⟩ := gd_s hf
  refine va_iast (D := (dC, dI)) (f := (r22 1)) hx hb hK hP hD hS 1 0 rfl rfl (inb_in hi) dX9_adds_38 (fun H locs hP hD hS => ?_)
  have hP : va_P (dC, dI) vwCl (wX9 cI cZ a (sr M 1 (upd (r22 1) ((197 : Int32) + a1).toNatClampNeg (((r22 1) ((197 : Int32) + a1).toNatClampNeg) + a2)))) H := hP
  have hD : va_D A (wX9 cI cZ a (sr M 1 (upd (r22 1) ((197 : Int32) + a1).toNatClampNeg (((r22 1) ((197 : Int32) + a1).toNatClampNeg) + a2)))) := hD
  refine lv_aload_n hx hb dX9_adds_39 rfl (lv_at hl 1 rfl) ?_
  refine lv_iload_n hx hb dX9_adds_40 rfl (lv_at hl 0 rfl) ?_
  refine lv_iconst (v := (4 : Int32)) hx hb dX9_adds_41 (by decide) ?_
  refine lv_iload_n hx hb dX9_adds_42 rfl (lv_at hl 2 rfl) ?_
  refine lv_iadd hx hb dX9_adds_43 ?_
  obtain ⟨r44, hc44, hf⟩ := bi_s hf
  have hPc := hP
  refine cRO (W.runV (As := [.int (M 1 (1 : Int32).toNatClampNeg), .int ((4 : Int32) + a1)]) (rest := []) ⟨hx, hb, hml, hown, hts⟩ (c_X9_of l dC dI cI cZ a (sr M 1 (upd (r22 1) ((197 : Int32) + a1).toNatClampNeg (((r22 1) ((197 : Int32) + a1).toNatClampNeg) + a2))) (M 1 (1 : Int32).toNatClampNeg) ((4 : Int32) + a1) r44 hc44) (cwV 2 hts gX9_adds_X9_of rfl rfl rfl (by decide +kernel) ⟨Nat.le_of_ble_eq_true rfl, Nat.le_of_ble_eq_true rfl⟩) ⟨RO.blind, va_recv hK hP (ci := 9) (q0 := 0) rfl rfl, RO.pre hPc hK hNW⟩ rfl rfl hl.1 rfl (lv_room (Nat.le_of_ble_eq_true rfl)) dX9_adds_44 ⟨Nat.le_of_ble_eq_true rfl, Nat.le_of_ble_eq_true rfl⟩) ?_
  have e9 := so_e hf
  subst e9
  exact W.iret (v := r44) hx hb hr (fun t ht hW => ⟨⟨r44, (), rfl, rfl, WE.mk hP hD ht⟩, hS.F ht⟩) hS.2.2 dX9_adds_47
set_option maxHeartbeats 4000000 in
set_option maxRecDepth 100000 in
theorem c_X9_fill (l : Launch) (dC : Nat → ClassId) (dI : Nat → Nat → Nat) (cI cZ : ClassId) (a : Nat → Nat) (sz : Nat) (M : Mem) (a1 : Int32) (a2 : Int32) (z : Int32 × Mem) (hf : fX9_fill M a1 a2 = some z) : Met l yX9_fill wsX9_fill ({ frames := 2, cells := 0, slots := 0, locals := 46 } : Room) (va_Pc [.ref (a 0), .int a1, .int a2] (WR (dC, dI) cI cZ (wX9 cI cZ a M) sz)) (va_Qi (S := Unit) (fun r _ => r = z.1) (fun _ t => WE (dC, dI) cI cZ (wX9 cI cZ a (sr (sr (sr M 0 (z.2 0)) 1 (z.2 1)) 3 (z.2 3))) (va_A (wX9 cI cZ a M) sz) t) (va_A (wX9 cI cZ a M) sz)) 0 0 (va_A (wX9 cI cZ a M) sz) := by
  refine Met.ofW (cc := cX9_fill) (maxL := 3) (ret := (some .int)) (by decide) rfl ?_
  intro p e s m args below meth c s₁ B hml hv
  obtain ⟨rfl, hsz, hP, hK, hD0, hNW⟩ := hv
  have hx := B.exec
  have hb := B.bytes
  have hr := B.returns
  have hts := atoms_spec (ws := wsX9_fill) B.pre
  have hown : s.vm.findClass RX9 = some m.cls := findClass_of_methodNamed B.named
  have hlocks := B.notSynchronized
  have hinX9 : ∀ w ∈ u_ws RX9 TX9 13, w ∈ wsX9_fill := by decide +kernel
  have hw1 := hts (.fieldLink RX9 35 "GlideShelvesModel" "thrown" "I") (by decide +kernel)
  have hw2 := hts (.fieldLink RX9 7 "GlideShelvesModel" "s" "[I") (by decide +kernel)
  subst hsz
  have hD := hD0.self (sz := s.heap.size)
  generalize hAe : va_A (wX9 cI cZ a M) s.heap.size = A at hD ⊢
  have hA : ∀ q : Nat, s.heap.size ≤ q → A q := fun q h => by rw [← hAe]; exact Or.inr h
  have hS : va_S A s.heap s.heap [] := va_S.rf
  have hfX9_fill_B67 : ∀ (N : Mem), fX9_fill_B67 M  N = some z → ∀ (ls : Array Slot), lv_has ls 3 [(0, .ref (a 0))] → ∀ (H : Heap) (locs : List Loc), va_P (dC, dI) vwCl (wX9 cI cZ a (sr (sr (sr M 0 (N 0)) 1 (N 1)) 3 (N 3))) H → va_D A (wX9 cI cZ a (sr (sr (sr M 0 (N 0)) 1 (N 1)) 3 (N 3))) → va_S A s.heap H locs → W p l e (headSpec wsX9_fill ({ frames := 2, cells := 0, slots := 0, locals := 46 } : Room)).room s m ([.ref (a 0), .int a1, .int a2] : List Value).toArray below meth c H locs 0 0 (MQ below (va_Qi (S := Unit) (fun r _ => r = z.1) (fun _ t => WE (dC, dI) cI cZ (wX9 cI cZ a (sr (sr (sr M 0 (z.2 0)) 1 (z.2 1)) 3 (z.2 3))) A t) A) ([.ref (a 0), .int a1, .int a2] : List Value).toArray s 0 0 A) (F0 m 67 ls []) := by
    intro  N hf ls hl H locs hP hD hS
    unfold fX9_fill_B67 at hf
    refine lv_aload_n hx hb dX9_fill_67 rfl (lv_at hl 0 rfl) ?_
    refine lv_iconst (v := (3 : Int32)) hx hb dX9_fill_68 (by decide) ?_
    obtain ⟨r69, hc69, hf⟩ := bi_s hf
    have hPc := hP
    have hDc := hD
    have hFc := va_free (wc := (wX9 cI cZ a (sr (sr (sr M 0 (N 0)) 1 (N 1)) 3 (N 3)))) hD hS hA [0, 1, 2, 3, 4, 5, 6, 7, 8] rfl
    refine va_calli (va_runV (As := [.int (3 : Int32)]) (rest := []) ⟨hx, hb, hml, hown, hts⟩ (c_X9_fails l dC dI cI cZ a H.size (sr (sr (sr M 0 (N 0)) 1 (N 1)) 3 (N 3)) (3 : Int32) r69 hc69) (cwV 1 hts gX9_fill_X9_fails rfl rfl rfl (by decide +kernel) ⟨Nat.le_of_ble_eq_true rfl, Nat.le_of_ble_eq_true rfl⟩) ⟨WR.blind, va_recv hK hP (ci := 9) (q0 := 0) rfl rfl, WR.pre hPc hK hDc hNW⟩ rfl rfl hl.1 rfl (lv_room (Nat.le_of_ble_eq_true rfl)) dX9_fill_69 ⟨Nat.le_of_ble_eq_true rfl, Nat.le_of_ble_eq_true rfl⟩) hS (fun q _ h => hFc q h) hFc (fun rv u t H1 locs ht hvm hw hB hz1 hk1 hS => ?_)
    obtain ⟨hP1, hD1⟩ := hB
    rw [ht] at hP1
    subst hw
    have hP := hP1
    have hD := hD1.weaken (fun k q _ h => hFc q.1 h)
    have hP : va_P (dC, dI) vwCl (wX9 cI cZ a (sr (sr (sr M 0 (r69.2 0)) 1 (N 1)) 3 (N 3))) H1 := hP
    have hD : va_D A (wX9 cI cZ a (sr (sr (sr M 0 (r69.2 0)) 1 (N 1)) 3 (N 3))) := hD
    generalize H1 = H at hP hS ⊢
    have e9 := so_e hf
    subst e9
    exact W.iret (v := r69.1) hx hb hr (fun t ht hW => ⟨⟨r69.1, (), rfl, rfl, WE.mk hP hD ht⟩, hS.F ht⟩) hS.2.2 dX9_fill_72
  have hl := lv_entry ([.ref (a 0), .int a1, .int a2]) (n := 3) (Nat.le_of_ble_eq_true rfl)
  rw [lg_entry_eq]
  generalize (lg_sl ([.ref (a 0), .int a1, .int a2]) ++ List.replicate (3 - (lg_sl ([.ref (a 0), .int a1, .int a2])).length) Slot.unset).toArray = ls at hl ⊢
  have hl : lv_has ls 3 [(0, .ref (a 0)), (1, .int a1), (2, .int a2)] := hl
  unfold fX9_fill at hf
  suffices hgo : ∀ (H : Heap) (locs : List Loc), va_P (dC, dI) vwCl (wX9 cI cZ a M) H → va_D A (wX9 cI cZ a M) → va_S A s.heap H locs → W p l e (headSpec wsX9_fill ({ frames := 2, cells := 0, slots := 0, locals := 46 } : Room)).room s m ([.ref (a 0), .int a1, .int a2] : List Value).toArray below meth c H locs 0 0 (MQ below (va_Qi (S := Unit) (fun r _ => r = z.1) (fun _ t => WE (dC, dI) cI cZ (wX9 cI cZ a (sr (sr (sr M 0 (z.2 0)) 1 (z.2 1)) 3 (z.2 3))) A t) A) ([.ref (a 0), .int a1, .int a2] : List Value).toArray s 0 0 A) (F0 m 0 ls []) from hgo _ _ hP hD hS
  intro H locs hP hD hS
  refine lv_aload_n hx hb dX9_fill_0 rfl (lv_at hl 0 rfl) ?_
  refine lv_iconst (v := (0 : Int32)) hx hb dX9_fill_1 (by decide) ?_
  refine va_put (D := (dC, dI)) (ci := 9) (v := .int (0 : Int32)) (ty := .int) (C := RX9) (T := TX9) (N := 13) hx hb hts hinX9 tyX9 tyX9_ok nmX9 hown hK hP hD hS 0 rfl rfl 0 (by decide) hw1 (fun _ h9 => h9) rfl (by decide +kernel) rfl rfl (Nat.le_of_ble_eq_true rfl) dX9_fill_2 (fun H locs hP hD hS => ?_)
  have hP : va_P (dC, dI) vwCl (wX9 cI cZ a (sr M 0 (upd (M 0) 0 (0 : Int32)))) H := hP
  have hD : va_D A (wX9 cI cZ a (sr M 0 (upd (M 0) 0 (0 : Int32)))) := hD
  refine lv_iload_n hx hb dX9_fill_5 rfl (lv_at hl 1 rfl) ?_
  obtain ⟨r6, hc6, hf⟩ := bi_s hf
  refine cRO (W.runS (As := [.int a1]) (rest := []) ⟨hx, hb, hml, hown, hts⟩ (c_X9_isKind l a1 r6 hc6) (va_cwS 1 hts gX9_fill_X9_isKind rfl rfl rfl (by decide +kernel) ⟨Nat.le_of_ble_eq_true rfl, Nat.le_of_ble_eq_true rfl⟩) ⟨tr_blind, tr_pre⟩ rfl rfl hl.1 rfl (lv_room (Nat.le_of_ble_eq_true rfl)) dX9_fill_6 ⟨Nat.le_of_ble_eq_true rfl, Nat.le_of_ble_eq_true rfl⟩) ?_
  refine lv_if_ne (tgt := 18) hx hb dX9_fill_9 (by decide) (fun c9 => ?_) (fun c9 => ?_)
  · have hf := it_t hf c9
    refine lv_iload_n hx hb dX9_fill_18 rfl (lv_at hl 2 rfl) ?_
    obtain ⟨r19, hc19, hf⟩ := bi_s hf
    refine cRO (W.runS (As := [.int a2]) (rest := []) ⟨hx, hb, hml, hown, hts⟩ (c_X9_isMany l a2 r19 hc19) (va_cwS 1 hts gX9_fill_X9_isMany rfl rfl rfl (by decide +kernel) ⟨Nat.le_of_ble_eq_true rfl, Nat.le_of_ble_eq_true rfl⟩) ⟨tr_blind, tr_pre⟩ rfl rfl hl.1 rfl (lv_room (Nat.le_of_ble_eq_true rfl)) dX9_fill_19 ⟨Nat.le_of_ble_eq_true rfl, Nat.le_of_ble_eq_true rfl⟩) ?_
    refine lv_if_ne (tgt := 31) hx hb dX9_fill_22 (by decide) (fun c9 => ?_) (fun c9 => ?_)
    · have hf := it_t hf c9
      refine lv_aload_n hx hb dX9_fill_31 rfl (lv_at hl 0 rfl) ?_
      obtain ⟨r32, hc32, hf⟩ := bi_s hf
      have hPc := hP
      refine cRO (W.runV (As := []) (rest := []) ⟨hx, hb, hml, hown, hts⟩ (c_X9_hasWindow l dC dI cI cZ a (sr M 0 (upd (M 0) 0 (0 : Int32))) r32 hc32) (cwV 0 hts gX9_fill_X9_hasWindow rfl rfl rfl (by decide +kernel) ⟨Nat.le_of_ble_eq_true rfl, Nat.le_of_ble_eq_true rfl⟩) ⟨RO.blind, va_recv hK hP (ci := 9) (q0 := 0) rfl rfl, RO.pre hPc hK hNW⟩ rfl rfl hl.1 rfl (lv_room (Nat.le_of_ble_eq_true rfl)) dX9_fill_32 ⟨Nat.le_of_ble_eq_true rfl, Nat.le_of_ble_eq_true rfl⟩) ?_
      refine lv_if_eq (tgt := 67) hx hb dX9_fill_35 (by decide) (fun c9 => ?_) (fun c9 => ?_)
      · have hf := it_t hf c9
        exact hfX9_fill_B67  (sr M 0 (upd (M 0) 0 (0 : Int32))) hf _ (lv_sub hl [0] rfl) _ _ hP hD hS
      · have hf := it_f hf c9
        refine lv_aload_n hx hb dX9_fill_38 rfl (lv_at hl 0 rfl) ?_
        refine lv_aload_n hx hb dX9_fill_39 rfl (lv_at hl 0 rfl) ?_
        refine va_get (D := (dC, dI)) (ci := 9) (v := .ref (a 1)) (C := RX9) (T := TX9) (N := 13) hx hb hts hinX9 hown hK hP 0 rfl rfl 1 (by decide) hw2 (fun _ h9 => h9) rfl dX9_fill_40 ?_
        refine lv_iconst (v := (1 : Int32)) hx hb dX9_fill_43 (by decide) ?_
        obtain ⟨hi, hf⟩ := gd_s hf
        refine va_iald (D := (dC, dI)) (f := (M 1)) hx hb hK hP 1 0 rfl rfl (inb_in hi) dX9_fill_44 ?_
        obtain ⟨r45, hc45, hf⟩ := bi_s hf
        have hPc := hP
        refine cRO (W.runV (As := [.int (M 1 (1 : Int32).toNatClampNeg)]) (rest := []) ⟨hx, hb, hml, hown, hts⟩ (c_X9_weight l dC dI cI cZ a (sr M 0 (upd (M 0) 0 (0 : Int32))) (M 1 (1 : Int32).toNatClampNeg) r45 hc45) (cwV 1 hts gX9_fill_X9_weight rfl rfl rfl (by decide +kernel) ⟨Nat.le_of_ble_eq_true rfl, Nat.le_of_ble_eq_true rfl⟩) ⟨RO.blind, va_recv hK hP (ci := 9) (q0 := 0) rfl rfl, RO.pre hPc hK hNW⟩ rfl rfl hl.1 rfl (lv_room (Nat.le_of_ble_eq_true rfl)) dX9_fill_45 ⟨Nat.le_of_ble_eq_true rfl, Nat.le_of_ble_eq_true rfl⟩) ?_
        refine lv_iload_n hx hb dX9_fill_48 rfl (lv_at hl 2 rfl) ?_
        refine lv_aload_n hx hb dX9_fill_49 rfl (lv_at hl 0 rfl) ?_
        refine va_get (D := (dC, dI)) (ci := 9) (v := .ref (a 1)) (C := RX9) (T := TX9) (N := 13) hx hb hts hinX9 hown hK hP 0 rfl rfl 1 (by decide) hw2 (fun _ h9 => h9) rfl dX9_fill_50 ?_
        refine lv_sipush (v := (177 : Int32)) hx hb dX9_fill_53 (by decide) ?_
        refine lv_iload_n hx hb dX9_fill_56 rfl (lv_at hl 1 rfl) ?_
        refine lv_iadd hx hb dX9_fill_57 ?_
        obtain ⟨hi, hf⟩ := gd_s hf
        refine va_iald (D := (dC, dI)) (f := (M 1)) hx hb hK hP 1 0 rfl rfl (inb_in hi) dX9_fill_58 ?_
        refine lv_imul hx hb dX9_fill_59 ?_
        refine lv_iadd hx hb dX9_fill_60 ?_
        refine lv_sipush (v := (150 : Int32)) hx hb dX9_fill_61 (by decide) ?_
        refine lv_icmp_le (tgt := 73) hx hb dX9_fill_64 (by decide) (fun c9 => ?_) (fun c9 => ?_)
        · have hf := it_t hf c9
          refine lv_aload_n hx hb dX9_fill_73 rfl (lv_at hl 0 rfl) ?_
          obtain ⟨r74, hc74, hf⟩ := bi_s hf
          have hPc := hP
          have hDc := hD
          have hFc := va_free (wc := (wX9 cI cZ a (sr M 0 (upd (M 0) 0 (0 : Int32))))) hD hS hA [0, 1, 2, 3, 4, 5, 6, 7, 8] rfl
          refine va_callv (va_runV (As := []) (rest := []) ⟨hx, hb, hml, hown, hts⟩ (c_X9_records l dC dI cI cZ a H.size (sr M 0 (upd (M 0) 0 (0 : Int32))) r74 hc74) (cwV 0 hts gX9_fill_X9_records rfl rfl rfl (by decide +kernel) ⟨Nat.le_of_ble_eq_true rfl, Nat.le_of_ble_eq_true rfl⟩) ⟨WR.blind, va_recv hK hP (ci := 9) (q0 := 0) rfl rfl, WR.pre hPc hK hDc hNW⟩ rfl rfl hl.1 rfl (lv_room (Nat.le_of_ble_eq_true rfl)) dX9_fill_74 ⟨Nat.le_of_ble_eq_true rfl, Nat.le_of_ble_eq_true rfl⟩) hS (fun q _ h => hFc q h) hFc (fun u t H1 locs ht hvm hw hB hz1 hk1 hS => ?_)
          obtain ⟨hP1, hD1⟩ := hB
          rw [ht] at hP1
          have hP := hP1
          have hD := hD1.weaken (fun k q _ h => hFc q.1 h)
          have hP : va_P (dC, dI) vwCl (wX9 cI cZ a (sr (sr M 0 (r74 0)) 3 (r74 3))) H1 := hP
          have hD : va_D A (wX9 cI cZ a (sr (sr M 0 (r74 0)) 3 (r74 3))) := hD
          generalize H1 = H at hP hS ⊢
          refine lv_aload_n hx hb dX9_fill_77 rfl (lv_at hl 0 rfl) ?_
          refine lv_iload_n hx hb dX9_fill_78 rfl (lv_at hl 1 rfl) ?_
          refine lv_iload_n hx hb dX9_fill_79 rfl (lv_at hl 2 rfl) ?_
          obtain ⟨r80, hc80, hf⟩ := bi_s hf
          have hPc := hP
          have hDc := hD
          have hFc := va_free (wc := (wX9 cI cZ a (sr (sr M 0 (r74 0)) 3 (r74 3)))) hD hS hA [0, 1, 2, 3, 4, 5, 6, 7, 8] rfl
          refine va_calli (va_runV (As := [.int a1, .int a2]) (rest := []) ⟨hx, hb, hml, hown, hts⟩ (c_X9_adds l dC dI cI cZ a H.size (sr (sr M 0 (r74 0)) 3 (r74 3)) a1 a2 r80 hc80) (cwV 2 hts gX9_fill_X9_adds rfl rfl rfl (by decide +kernel) ⟨Nat.le_of_ble_eq_true rfl, Nat.le_of_ble_eq_true rfl⟩) ⟨WR.blind, va_recv hK hP (ci := 9) (q0 := 0) rfl rfl, WR.pre hPc hK hDc hNW⟩ rfl rfl hl.1 rfl (lv_room (Nat.le_of_ble_eq_true rfl)) dX9_fill_80 ⟨Nat.le_of_ble_eq_true rfl, Nat.le_of_ble_eq_true rfl⟩) hS (fun q _ h => hFc q h) hFc (fun rv u t H1 locs ht hvm hw hB hz1 hk1 hS => ?_)
          obtain ⟨hP1, hD1⟩ := hB
          rw [ht] at hP1
          subst hw
          have hP := hP1
          have hD := hD1.weaken (fun k q _ h => hFc q.1 h)
          have hP : va_P (dC, dI) vwCl (wX9 cI cZ a (sr (sr (sr M 0 (r74 0)) 1 (r80.2 1)) 3 (r74 3))) H1 := hP
          have hD : va_D A (wX9 cI cZ a (sr (sr (sr M 0 (r74 0)) 1 (r80.2 1)) 3 (r74 3))) := hD
          generalize H1 = H at hP hS ⊢
          have e9 := so_e hf
          subst e9
          exact W.iret (v := r80.1) hx hb hr (fun t ht hW => ⟨⟨r80.1, (), rfl, rfl, WE.mk hP hD ht⟩, hS.F ht⟩) hS.2.2 dX9_fill_83
        · have hf := it_f hf c9
          exact hfX9_fill_B67  (sr M 0 (upd (M 0) 0 (0 : Int32))) hf _ (lv_sub hl [0] rfl) _ _ hP hD hS
    · have hf := it_n hf c9
      refine lv_aload_n hx hb dX9_fill_25 rfl (lv_at hl 0 rfl) ?_
      refine lv_iconst (v := (2 : Int32)) hx hb dX9_fill_26 (by decide) ?_
      obtain ⟨r27, hc27, hf⟩ := bi_s hf
      have hPc := hP
      have hDc := hD
      have hFc := va_free (wc := (wX9 cI cZ a (sr M 0 (upd (M 0) 0 (0 : Int32))))) hD hS hA [0, 1, 2, 3, 4, 5, 6, 7, 8] rfl
      refine va_calli (va_runV (As := [.int (2 : Int32)]) (rest := []) ⟨hx, hb, hml, hown, hts⟩ (c_X9_fails l dC dI cI cZ a H.size (sr M 0 (upd (M 0) 0 (0 : Int32))) (2 : Int32) r27 hc27) (cwV 1 hts gX9_fill_X9_fails rfl rfl rfl (by decide +kernel) ⟨Nat.le_of_ble_eq_true rfl, Nat.le_of_ble_eq_true rfl⟩) ⟨WR.blind, va_recv hK hP (ci := 9) (q0 := 0) rfl rfl, WR.pre hPc hK hDc hNW⟩ rfl rfl hl.1 rfl (lv_room (Nat.le_of_ble_eq_true rfl)) dX9_fill_27 ⟨Nat.le_of_ble_eq_true rfl, Nat.le_of_ble_eq_true rfl⟩) hS (fun q _ h => hFc q h) hFc (fun rv u t H1 locs ht hvm hw hB hz1 hk1 hS => ?_)
      obtain ⟨hP1, hD1⟩ := hB
      rw [ht] at hP1
      subst hw
      have hP := hP1
      have hD := hD1.weaken (fun k q _ h => hFc q.1 h)
      have hP : va_P (dC, dI) vwCl (wX9 cI cZ a (sr M 0 (r27.2 0))) H1 := hP
      have hD : va_D A (wX9 cI cZ a (sr M 0 (r27.2 0))) := hD
      generalize H1 = H at hP hS ⊢
      have e9 := so_e hf
      subst e9
      exact W.iret (v := r27.1) hx hb hr (fun t ht hW => ⟨⟨r27.1, (), rfl, rfl, WE.mk hP hD ht⟩, hS.F ht⟩) hS.2.2 dX9_fill_30
  · have hf := it_n hf c9
    refine lv_aload_n hx hb dX9_fill_12 rfl (lv_at hl 0 rfl) ?_
    refine lv_iconst (v := (1 : Int32)) hx hb dX9_fill_13 (by decide) ?_
    obtain ⟨r14, hc14, hf⟩ := bi_s hf
    have hPc := hP
    have hDc := hD
    have hFc := va_free (wc := (wX9 cI cZ a (sr M 0 (upd (M 0) 0 (0 : Int32))))) hD hS hA [0, 1, 2, 3, 4, 5, 6, 7, 8] rfl
    refine va_calli (va_runV (As := [.int (1 : Int32)]) (rest := []) ⟨hx, hb, hml, hown, hts⟩ (c_X9_fails l dC dI cI cZ a H.size (sr M 0 (upd (M 0) 0 (0 : Int32))) (1 : Int32) r14 hc14) (cwV 1 hts gX9_fill_X9_fails rfl rfl rfl (by decide +kernel) ⟨Nat.le_of_ble_eq_true rfl, Nat.le_of_ble_eq_true rfl⟩) ⟨WR.blind, va_recv hK hP (ci := 9) (q0 := 0) rfl rfl, WR.pre hPc hK hDc hNW⟩ rfl rfl hl.1 rfl (lv_room (Nat.le_of_ble_eq_true rfl)) dX9_fill_14 ⟨Nat.le_of_ble_eq_true rfl, Nat.le_of_ble_eq_true rfl⟩) hS (fun q _ h => hFc q h) hFc (fun rv u t H1 locs ht hvm hw hB hz1 hk1 hS => ?_)
    obtain ⟨hP1, hD1⟩ := hB
    rw [ht] at hP1
    subst hw
    have hP := hP1
    have hD := hD1.weaken (fun k q _ h => hFc q.1 h)
    have hP : va_P (dC, dI) vwCl (wX9 cI cZ a (sr M 0 (r14.2 0))) H1 := hP
    have hD : va_D A (wX9 cI cZ a (sr M 0 (r14.2 0))) := hD
    generalize H1 = H at hP hS ⊢
    have e9 := so_e hf
    subst e9
    exact W.iret (v := r14.1) hx hb hr (fun t ht hW => ⟨⟨r14.1, (), rfl, rfl, WE.mk hP hD ht⟩, hS.F ht⟩) hS.2.2 dX9_fill_17
set_option maxHeartbeats 4000000 in
set_option maxRecDepth 100000 in
theorem c_X9_take (l : Launch) (dC : Nat → ClassId) (dI : Nat → Nat → Nat) (cI cZ : ClassId) (a : Nat → Nat) (sz : Nat) (M : Mem) (a1 : Int32) (a2 : Int32) (z : Int32 × Mem) (hf : fX9_take M a1 a2 = some z) : Met l yX9_take wsX9_take ({ frames := 2, cells := 0, slots := 0, locals := 46 } : Room) (va_Pc [.ref (a 0), .int a1, .int a2] (WR (dC, dI) cI cZ (wX9 cI cZ a M) sz)) (va_Qi (S := Unit) (fun r _ => r = z.1) (fun _ t => WE (dC, dI) cI cZ (wX9 cI cZ a (sr (sr (sr M 0 (z.2 0)) 1 (z.2 1)) 3 (z.2 3))) (va_A (wX9 cI cZ a M) sz) t) (va_A (wX9 cI cZ a M) sz)) 0 0 (va_A (wX9 cI cZ a M) sz) := by
  refine Met.ofW (cc := cX9_take) (maxL := 3) (ret := (some .int)) (by decide) rfl ?_
  intro p e s m args below meth c s₁ B hml hv
  obtain ⟨rfl, hsz, hP, hK, hD0, hNW⟩ := hv
  have hx := B.exec
  have hb := B.bytes
  have hr := B.returns
  have hts := atoms_spec (ws := wsX9_take) B.pre
  have hown : s.vm.findClass RX9 = some m.cls := findClass_of_methodNamed B.named
  have hlocks := B.notSynchronized
  have hinX9 : ∀ w ∈ u_ws RX9 TX9 13, w ∈ wsX9_take := by decide +kernel
  have hw1 := hts (.fieldLink RX9 35 "GlideShelvesModel" "thrown" "I") (by decide +kernel)
  have hw2 := hts (.fieldLink RX9 7 "GlideShelvesModel" "s" "[I") (by decide +kernel)
  subst hsz
  have hD := hD0.self (sz := s.heap.size)
  generalize hAe : va_A (wX9 cI cZ a M) s.heap.size = A at hD ⊢
  have hA : ∀ q : Nat, s.heap.size ≤ q → A q := fun q h => by rw [← hAe]; exact Or.inr h
  have hS : va_S A s.heap s.heap [] := va_S.rf
  have hfX9_take_B55 : ∀ (N : Mem), fX9_take_B55 M  N = some z → ∀ (ls : Array Slot), lv_has ls 3 [(0, .ref (a 0))] → ∀ (H : Heap) (locs : List Loc), va_P (dC, dI) vwCl (wX9 cI cZ a (sr (sr (sr M 0 (N 0)) 1 (N 1)) 3 (N 3))) H → va_D A (wX9 cI cZ a (sr (sr (sr M 0 (N 0)) 1 (N 1)) 3 (N 3))) → va_S A s.heap H locs → W p l e (headSpec wsX9_take ({ frames := 2, cells := 0, slots := 0, locals := 46 } : Room)).room s m ([.ref (a 0), .int a1, .int a2] : List Value).toArray below meth c H locs 0 0 (MQ below (va_Qi (S := Unit) (fun r _ => r = z.1) (fun _ t => WE (dC, dI) cI cZ (wX9 cI cZ a (sr (sr (sr M 0 (z.2 0)) 1 (z.2 1)) 3 (z.2 3))) A t) A) ([.ref (a 0), .int a1, .int a2] : List Value).toArray s 0 0 A) (F0 m 55 ls []) := by
    intro  N hf ls hl H locs hP hD hS
    unfold fX9_take_B55 at hf
    refine lv_aload_n hx hb dX9_take_55 rfl (lv_at hl 0 rfl) ?_
    refine lv_iconst (v := (3 : Int32)) hx hb dX9_take_56 (by decide) ?_
    obtain ⟨r57, hc57, hf⟩ := bi_s hf
    have hPc := hP
    have hDc := hD
    have hFc := va_free (wc := (wX9 cI cZ a (sr (sr (sr M 0 (N 0)) 1 (N 1)) 3 (N 3)))) hD hS hA [0, 1, 2, 3, 4, 5, 6, 7, 8] rfl
    refine va_calli (va_runV (As := [.int (3 : Int32)]) (rest := []) ⟨hx, hb, hml, hown, hts⟩ (c_X9_fails l dC dI cI cZ a H.size (sr (sr (sr M 0 (N 0)) 1 (N 1)) 3 (N 3)) (3 : Int32) r57 hc57) (cwV 1 hts gX9_take_X9_fails rfl rfl rfl (by decide +kernel) ⟨Nat.le_of_ble_eq_true rfl, Nat.le_of_ble_eq_true rfl⟩) ⟨WR.blind, va_recv hK hP (ci := 9) (q0 := 0) rfl rfl, WR.pre hPc hK hDc hNW⟩ rfl rfl hl.1 rfl (lv_room (Nat.le_of_ble_eq_true rfl)) dX9_take_57 ⟨Nat.le_of_ble_eq_true rfl, Nat.le_of_ble_eq_true rfl⟩) hS (fun q _ h => hFc q h) hFc (fun rv u t H1 locs ht hvm hw hB hz1 hk1 hS => ?_)
    obtain ⟨hP1, hD1⟩ := hB
    rw [ht] at hP1
    subst hw
    have hP := hP1
    have hD := hD1.weaken (fun k q _ h => hFc q.1 h)
    have hP : va_P (dC, dI) vwCl (wX9 cI cZ a (sr (sr (sr M 0 (r57.2 0)) 1 (N 1)) 3 (N 3))) H1 := hP
    have hD : va_D A (wX9 cI cZ a (sr (sr (sr M 0 (r57.2 0)) 1 (N 1)) 3 (N 3))) := hD
    generalize H1 = H at hP hS ⊢
    have e9 := so_e hf
    subst e9
    exact W.iret (v := r57.1) hx hb hr (fun t ht hW => ⟨⟨r57.1, (), rfl, rfl, WE.mk hP hD ht⟩, hS.F ht⟩) hS.2.2 dX9_take_60
  have hl := lv_entry ([.ref (a 0), .int a1, .int a2]) (n := 3) (Nat.le_of_ble_eq_true rfl)
  rw [lg_entry_eq]
  generalize (lg_sl ([.ref (a 0), .int a1, .int a2]) ++ List.replicate (3 - (lg_sl ([.ref (a 0), .int a1, .int a2])).length) Slot.unset).toArray = ls at hl ⊢
  have hl : lv_has ls 3 [(0, .ref (a 0)), (1, .int a1), (2, .int a2)] := hl
  unfold fX9_take at hf
  suffices hgo : ∀ (H : Heap) (locs : List Loc), va_P (dC, dI) vwCl (wX9 cI cZ a M) H → va_D A (wX9 cI cZ a M) → va_S A s.heap H locs → W p l e (headSpec wsX9_take ({ frames := 2, cells := 0, slots := 0, locals := 46 } : Room)).room s m ([.ref (a 0), .int a1, .int a2] : List Value).toArray below meth c H locs 0 0 (MQ below (va_Qi (S := Unit) (fun r _ => r = z.1) (fun _ t => WE (dC, dI) cI cZ (wX9 cI cZ a (sr (sr (sr M 0 (z.2 0)) 1 (z.2 1)) 3 (z.2 3))) A t) A) ([.ref (a 0), .int a1, .int a2] : List Value).toArray s 0 0 A) (F0 m 0 ls []) from hgo _ _ hP hD hS
  intro H locs hP hD hS
  refine lv_aload_n hx hb dX9_take_0 rfl (lv_at hl 0 rfl) ?_
  refine lv_iconst (v := (0 : Int32)) hx hb dX9_take_1 (by decide) ?_
  refine va_put (D := (dC, dI)) (ci := 9) (v := .int (0 : Int32)) (ty := .int) (C := RX9) (T := TX9) (N := 13) hx hb hts hinX9 tyX9 tyX9_ok nmX9 hown hK hP hD hS 0 rfl rfl 0 (by decide) hw1 (fun _ h9 => h9) rfl (by decide +kernel) rfl rfl (Nat.le_of_ble_eq_true rfl) dX9_take_2 (fun H locs hP hD hS => ?_)
  have hP : va_P (dC, dI) vwCl (wX9 cI cZ a (sr M 0 (upd (M 0) 0 (0 : Int32)))) H := hP
  have hD : va_D A (wX9 cI cZ a (sr M 0 (upd (M 0) 0 (0 : Int32)))) := hD
  refine lv_iload_n hx hb dX9_take_5 rfl (lv_at hl 1 rfl) ?_
  obtain ⟨r6, hc6, hf⟩ := bi_s hf
  refine cRO (W.runS (As := [.int a1]) (rest := []) ⟨hx, hb, hml, hown, hts⟩ (c_X9_isKind l a1 r6 hc6) (va_cwS 1 hts gX9_take_X9_isKind rfl rfl rfl (by decide +kernel) ⟨Nat.le_of_ble_eq_true rfl, Nat.le_of_ble_eq_true rfl⟩) ⟨tr_blind, tr_pre⟩ rfl rfl hl.1 rfl (lv_room (Nat.le_of_ble_eq_true rfl)) dX9_take_6 ⟨Nat.le_of_ble_eq_true rfl, Nat.le_of_ble_eq_true rfl⟩) ?_
  refine lv_if_ne (tgt := 18) hx hb dX9_take_9 (by decide) (fun c9 => ?_) (fun c9 => ?_)
  · have hf := it_t hf c9
    refine lv_iload_n hx hb dX9_take_18 rfl (lv_at hl 2 rfl) ?_
    obtain ⟨r19, hc19, hf⟩ := bi_s hf
    refine cRO (W.runS (As := [.int a2]) (rest := []) ⟨hx, hb, hml, hown, hts⟩ (c_X9_isMany l a2 r19 hc19) (va_cwS 1 hts gX9_take_X9_isMany rfl rfl rfl (by decide +kernel) ⟨Nat.le_of_ble_eq_true rfl, Nat.le_of_ble_eq_true rfl⟩) ⟨tr_blind, tr_pre⟩ rfl rfl hl.1 rfl (lv_room (Nat.le_of_ble_eq_true rfl)) dX9_take_19 ⟨Nat.le_of_ble_eq_true rfl, Nat.le_of_ble_eq_true rfl⟩) ?_
    refine lv_if_ne (tgt := 31) hx hb dX9_take_22 (by decide) (fun c9 => ?_) (fun c9 => ?_)
    · have hf := it_t hf c9
      refine lv_aload_n hx hb dX9_take_31 rfl (lv_at hl 0 rfl) ?_
      obtain ⟨r32, hc32, hf⟩ := bi_s hf
      have hPc := hP
      refine cRO (W.runV (As := []) (rest := []) ⟨hx, hb, hml, hown, hts⟩ (c_X9_hasWindow l dC dI cI cZ a (sr M 0 (upd (M 0) 0 (0 : Int32))) r32 hc32) (cwV 0 hts gX9_take_X9_hasWindow rfl rfl rfl (by decide +kernel) ⟨Nat.le_of_ble_eq_true rfl, Nat.le_of_ble_eq_true rfl⟩) ⟨RO.blind, va_recv hK hP (ci := 9) (q0 := 0) rfl rfl, RO.pre hPc hK hNW⟩ rfl rfl hl.1 rfl (lv_room (Nat.le_of_ble_eq_true rfl)) dX9_take_32 ⟨Nat.le_of_ble_eq_true rfl, Nat.le_of_ble_eq_true rfl⟩) ?_
      refine lv_if_eq (tgt := 55) hx hb dX9_take_35 (by decide) (fun c9 => ?_) (fun c9 => ?_)
      · have hf := it_t hf c9
        exact hfX9_take_B55  (sr M 0 (upd (M 0) 0 (0 : Int32))) hf _ (lv_sub hl [0] rfl) _ _ hP hD hS
      · have hf := it_f hf c9
        refine lv_aload_n hx hb dX9_take_38 rfl (lv_at hl 0 rfl) ?_
        refine lv_aload_n hx hb dX9_take_39 rfl (lv_at hl 0 rfl) ?_
        refine va_get (D := (dC, dI)) (ci := 9) (v := .ref (a 1)) (C := RX9) (T := TX9) (N := 13) hx hb hts hinX9 hown hK hP 0 rfl rfl 1 (by decide) hw2 (fun _ h9 => h9) rfl dX9_take_40 ?_
        refine lv_iconst (v := (1 : Int32)) hx hb dX9_take_43 (by decide) ?_
        obtain ⟨hi, hf⟩ := gd_s hf
        refine va_iald (D := (dC, dI)) (f := (M 1)) hx hb hK hP 1 0 rfl rfl (inb_in hi) dX9_take_44 ?_
        refine lv_iconst (v := (4 : Int32)) hx hb dX9_take_45 (by decide) ?_
        refine lv_iload_n hx hb dX9_take_46 rfl (lv_at hl 1 rfl) ?_
        refine lv_iadd hx hb dX9_take_47 ?_
        obtain ⟨r48, hc48, hf⟩ := bi_s hf
        have hPc := hP
        refine cRO (W.runV (As := [.int (M 1 (1 : Int32).toNatClampNeg), .int ((4 : Int32) + a1)]) (rest := []) ⟨hx, hb, hml, hown, hts⟩ (c_X9_of l dC dI cI cZ a (sr M 0 (upd (M 0) 0 (0 : Int32))) (M 1 (1 : Int32).toNatClampNeg) ((4 : Int32) + a1) r48 hc48) (cwV 2 hts gX9_take_X9_of rfl rfl rfl (by decide +kernel) ⟨Nat.le_of_ble_eq_true rfl, Nat.le_of_ble_eq_true rfl⟩) ⟨RO.blind, va_recv hK hP (ci := 9) (q0 := 0) rfl rfl, RO.pre hPc hK hNW⟩ rfl rfl hl.1 rfl (lv_room (Nat.le_of_ble_eq_true rfl)) dX9_take_48 ⟨Nat.le_of_ble_eq_true rfl, Nat.le_of_ble_eq_true rfl⟩) ?_
        refine lv_iload_n hx hb dX9_take_51 rfl (lv_at hl 2 rfl) ?_
        refine lv_icmp_ge (tgt := 61) hx hb dX9_take_52 (by decide) (fun c9 => ?_) (fun c9 => ?_)
        · have hf := it_t hf c9
          refine lv_aload_n hx hb dX9_take_61 rfl (lv_at hl 0 rfl) ?_
          obtain ⟨r62, hc62, hf⟩ := bi_s hf
          have hPc := hP
          have hDc := hD
          have hFc := va_free (wc := (wX9 cI cZ a (sr M 0 (upd (M 0) 0 (0 : Int32))))) hD hS hA [0, 1, 2, 3, 4, 5, 6, 7, 8] rfl
          refine va_callv (va_runV (As := []) (rest := []) ⟨hx, hb, hml, hown, hts⟩ (c_X9_records l dC dI cI cZ a H.size (sr M 0 (upd (M 0) 0 (0 : Int32))) r62 hc62) (cwV 0 hts gX9_take_X9_records rfl rfl rfl (by decide +kernel) ⟨Nat.le_of_ble_eq_true rfl, Nat.le_of_ble_eq_true rfl⟩) ⟨WR.blind, va_recv hK hP (ci := 9) (q0 := 0) rfl rfl, WR.pre hPc hK hDc hNW⟩ rfl rfl hl.1 rfl (lv_room (Nat.le_of_ble_eq_true rfl)) dX9_take_62 ⟨Nat.le_of_ble_eq_true rfl, Nat.le_of_ble_eq_true rfl⟩) hS (fun q _ h => hFc q h) hFc (fun u t H1 locs ht hvm hw hB hz1 hk1 hS => ?_)
          obtain ⟨hP1, hD1⟩ := hB
          rw [ht] at hP1
          have hP := hP1
          have hD := hD1.weaken (fun k q _ h => hFc q.1 h)
          have hP : va_P (dC, dI) vwCl (wX9 cI cZ a (sr (sr M 0 (r62 0)) 3 (r62 3))) H1 := hP
          have hD : va_D A (wX9 cI cZ a (sr (sr M 0 (r62 0)) 3 (r62 3))) := hD
          generalize H1 = H at hP hS ⊢
          refine lv_aload_n hx hb dX9_take_65 rfl (lv_at hl 0 rfl) ?_
          refine lv_iload_n hx hb dX9_take_66 rfl (lv_at hl 1 rfl) ?_
          refine lv_iload_n hx hb dX9_take_67 rfl (lv_at hl 2 rfl) ?_
          refine lv_ineg hx hb dX9_take_68 ?_
          obtain ⟨r69, hc69, hf⟩ := bi_s hf
          have hPc := hP
          have hDc := hD
          have hFc := va_free (wc := (wX9 cI cZ a (sr (sr M 0 (r62 0)) 3 (r62 3)))) hD hS hA [0, 1, 2, 3, 4, 5, 6, 7, 8] rfl
          refine va_calli (va_runV (As := [.int a1, .int (-a2)]) (rest := []) ⟨hx, hb, hml, hown, hts⟩ (c_X9_adds l dC dI cI cZ a H.size (sr (sr M 0 (r62 0)) 3 (r62 3)) a1 (-a2) r69 hc69) (cwV 2 hts gX9_take_X9_adds rfl rfl rfl (by decide +kernel) ⟨Nat.le_of_ble_eq_true rfl, Nat.le_of_ble_eq_true rfl⟩) ⟨WR.blind, va_recv hK hP (ci := 9) (q0 := 0) rfl rfl, WR.pre hPc hK hDc hNW⟩ rfl rfl hl.1 rfl (lv_room (Nat.le_of_ble_eq_true rfl)) dX9_take_69 ⟨Nat.le_of_ble_eq_true rfl, Nat.le_of_ble_eq_true rfl⟩) hS (fun q _ h => hFc q h) hFc (fun rv u t H1 locs ht hvm hw hB hz1 hk1 hS => ?_)
          obtain ⟨hP1, hD1⟩ := hB
          rw [ht] at hP1
          subst hw
          have hP := hP1
          have hD := hD1.weaken (fun k q _ h => hFc q.1 h)
          have hP : va_P (dC, dI) vwCl (wX9 cI cZ a (sr (sr (sr M 0 (r62 0)) 1 (r69.2 1)) 3 (r62 3))) H1 := hP
          have hD : va_D A (wX9 cI cZ a (sr (sr (sr M 0 (r62 0)) 1 (r69.2 1)) 3 (r62 3))) := hD
          generalize H1 = H at hP hS ⊢
          have e9 := so_e hf
          subst e9
          exact W.iret (v := r69.1) hx hb hr (fun t ht hW => ⟨⟨r69.1, (), rfl, rfl, WE.mk hP hD ht⟩, hS.F ht⟩) hS.2.2 dX9_take_72
        · have hf := it_f hf c9
          exact hfX9_take_B55  (sr M 0 (upd (M 0) 0 (0 : Int32))) hf _ (lv_sub hl [0] rfl) _ _ hP hD hS
    · have hf := it_n hf c9
      refine lv_aload_n hx hb dX9_take_25 rfl (lv_at hl 0 rfl) ?_
      refine lv_iconst (v := (2 : Int32)) hx hb dX9_take_26 (by decide) ?_
      obtain ⟨r27, hc27, hf⟩ := bi_s hf
      have hPc := hP
      have hDc := hD
      have hFc := va_free (wc := (wX9 cI cZ a (sr M 0 (upd (M 0) 0 (0 : Int32))))) hD hS hA [0, 1, 2, 3, 4, 5, 6, 7, 8] rfl
      refine va_calli (va_runV (As := [.int (2 : Int32)]) (rest := []) ⟨hx, hb, hml, hown, hts⟩ (c_X9_fails l dC dI cI cZ a H.size (sr M 0 (upd (M 0) 0 (0 : Int32))) (2 : Int32) r27 hc27) (cwV 1 hts gX9_take_X9_fails rfl rfl rfl (by decide +kernel) ⟨Nat.le_of_ble_eq_true rfl, Nat.le_of_ble_eq_true rfl⟩) ⟨WR.blind, va_recv hK hP (ci := 9) (q0 := 0) rfl rfl, WR.pre hPc hK hDc hNW⟩ rfl rfl hl.1 rfl (lv_room (Nat.le_of_ble_eq_true rfl)) dX9_take_27 ⟨Nat.le_of_ble_eq_true rfl, Nat.le_of_ble_eq_true rfl⟩) hS (fun q _ h => hFc q h) hFc (fun rv u t H1 locs ht hvm hw hB hz1 hk1 hS => ?_)
      obtain ⟨hP1, hD1⟩ := hB
      rw [ht] at hP1
      subst hw
      have hP := hP1
      have hD := hD1.weaken (fun k q _ h => hFc q.1 h)
      have hP : va_P (dC, dI) vwCl (wX9 cI cZ a (sr M 0 (r27.2 0))) H1 := hP
      have hD : va_D A (wX9 cI cZ a (sr M 0 (r27.2 0))) := hD
      generalize H1 = H at hP hS ⊢
      have e9 := so_e hf
      subst e9
      exact W.iret (v := r27.1) hx hb hr (fun t ht hW => ⟨⟨r27.1, (), rfl, rfl, WE.mk hP hD ht⟩, hS.F ht⟩) hS.2.2 dX9_take_30
  · have hf := it_n hf c9
    refine lv_aload_n hx hb dX9_take_12 rfl (lv_at hl 0 rfl) ?_
    refine lv_iconst (v := (1 : Int32)) hx hb dX9_take_13 (by decide) ?_
    obtain ⟨r14, hc14, hf⟩ := bi_s hf
    have hPc := hP
    have hDc := hD
    have hFc := va_free (wc := (wX9 cI cZ a (sr M 0 (upd (M 0) 0 (0 : Int32))))) hD hS hA [0, 1, 2, 3, 4, 5, 6, 7, 8] rfl
    refine va_calli (va_runV (As := [.int (1 : Int32)]) (rest := []) ⟨hx, hb, hml, hown, hts⟩ (c_X9_fails l dC dI cI cZ a H.size (sr M 0 (upd (M 0) 0 (0 : Int32))) (1 : Int32) r14 hc14) (cwV 1 hts gX9_take_X9_fails rfl rfl rfl (by decide +kernel) ⟨Nat.le_of_ble_eq_true rfl, Nat.le_of_ble_eq_true rfl⟩) ⟨WR.blind, va_recv hK hP (ci := 9) (q0 := 0) rfl rfl, WR.pre hPc hK hDc hNW⟩ rfl rfl hl.1 rfl (lv_room (Nat.le_of_ble_eq_true rfl)) dX9_take_14 ⟨Nat.le_of_ble_eq_true rfl, Nat.le_of_ble_eq_true rfl⟩) hS (fun q _ h => hFc q h) hFc (fun rv u t H1 locs ht hvm hw hB hz1 hk1 hS => ?_)
    obtain ⟨hP1, hD1⟩ := hB
    rw [ht] at hP1
    subst hw
    have hP := hP1
    have hD := hD1.weaken (fun k q _ h => hFc q.1 h)
    have hP : va_P (dC, dI) vwCl (wX9 cI cZ a (sr M 0 (r14.2 0))) H1 := hP
    have hD : va_D A (wX9 cI cZ a (sr M 0 (r14.2 0))) := hD
    generalize H1 = H at hP hS ⊢
    have e9 := so_e hf
    subst e9
    exact W.iret (v := r14.1) hx hb hr (fun t ht hW => ⟨⟨r14.1, (), rfl, rfl, WE.mk hP hD ht⟩, hS.F ht⟩) hS.2.2 dX9_take_17
set_option maxHeartbeats 4000000 in
set_option maxRecDepth 100000 in
theorem c_X9_sign (l : Launch) (dC : Nat → ClassId) (dI : Nat → Nat → Nat) (cI cZ : ClassId) (a : Nat → Nat) (M : Mem) (z : Int32) (hf : fX9_sign M  = some z) : Met l yX9_sign wsX9_sign ({ frames := 0, cells := 0, slots := 0, locals := 0 } : Room) (va_Pc [.ref (a 0)] (RO (dC, dI) cI cZ (wX9 cI cZ a M))) (k2_QcV (.int z)) 0 0 (fun _ => False) := by
  refine Met.ofW (cc := cX9_sign) (maxL := 1) (ret := (some .int)) (by decide) rfl ?_
  intro p e s m args below meth c s₁ B hml hv
  obtain ⟨rfl, hP, hK, hNW⟩ := hv
  have hx := B.exec
  have hb := B.bytes
  have hr := B.returns
  have hts := atoms_spec (ws := wsX9_sign) B.pre
  have hown : s.vm.findClass RX9 = some m.cls := findClass_of_methodNamed B.named
  have hlocks := B.notSynchronized
  have hinX9 : ∀ w ∈ u_ws RX9 TX9 13, w ∈ wsX9_sign := by decide +kernel
  have hw1 := hts (.fieldLink RX9 190 "GlideShelvesModel" "at" "I") (by decide +kernel)
  have hw2 := hts (.fieldLink RX9 172 "GlideShelvesModel" "length" "I") (by decide +kernel)
  have hw3 := hts (.fieldLink RX9 26 "GlideShelvesModel" "text" "[I") (by decide +kernel)
  have hfX9_sign_B24 : ∀ (s0 : Int32), fX9_sign_B24 M  s0 = some z → ∀ (ls : Array Slot), lv_has ls 1 [] → W p l e (headSpec wsX9_sign ({ frames := 0, cells := 0, slots := 0, locals := 0 } : Room)).room s m ([.ref (a 0)] : List Value).toArray below meth c s.heap [] 0 0 (MQ below (k2_QcV (.int z)) ([.ref (a 0)] : List Value).toArray s 0 0 (fun _ => False)) (F0 m 24 ls [.int s0]) := by
    intro  s0 hf ls hl
    unfold fX9_sign_B24 at hf
    exact W.iret (v := s0) hx hb hr (fun t ht hW => ⟨congrArg (fun x => Outcome.returned (some (Value.int x))) (so_e hf), ht⟩) fl0 dX9_sign_24
  have hl := lv_entry ([.ref (a 0)]) (n := 1) (Nat.le_of_ble_eq_true rfl)
  rw [lg_entry_eq]
  generalize (lg_sl ([.ref (a 0)]) ++ List.replicate (1 - (lg_sl ([.ref (a 0)])).length) Slot.unset).toArray = ls at hl ⊢
  have hl : lv_has ls 1 [(0, .ref (a 0))] := hl
  unfold fX9_sign at hf
  refine lv_aload_n hx hb dX9_sign_0 rfl (lv_at hl 0 rfl) ?_
  refine va_get (D := (dC, dI)) (ci := 9) (v := .int (M 0 9)) (C := RX9) (T := TX9) (N := 13) hx hb hts hinX9 hown hK hP 0 rfl rfl 9 (by decide) hw1 (fun _ h9 => h9) rfl dX9_sign_1 ?_
  refine lv_aload_n hx hb dX9_sign_4 rfl (lv_at hl 0 rfl) ?_
  refine va_get (D := (dC, dI)) (ci := 9) (v := .int (M 0 8)) (C := RX9) (T := TX9) (N := 13) hx hb hts hinX9 hown hK hP 0 rfl rfl 8 (by decide) hw2 (fun _ h9 => h9) rfl dX9_sign_5 ?_
  refine lv_icmp_ge (tgt := 23) hx hb dX9_sign_8 (by decide) (fun c9 => ?_) (fun c9 => ?_)
  · have hf := it_t hf c9
    refine lv_iconst (v := (0 : Int32)) hx hb dX9_sign_23 (by decide) ?_
    exact hfX9_sign_B24  (0 : Int32) hf _ (lv_sub hl [] rfl)
  · have hf := it_f hf c9
    refine lv_aload_n hx hb dX9_sign_11 rfl (lv_at hl 0 rfl) ?_
    refine va_get (D := (dC, dI)) (ci := 9) (v := .ref (a 6)) (C := RX9) (T := TX9) (N := 13) hx hb hts hinX9 hown hK hP 0 rfl rfl 7 (by decide) hw3 (fun _ h9 => h9) rfl dX9_sign_12 ?_
    refine lv_aload_n hx hb dX9_sign_15 rfl (lv_at hl 0 rfl) ?_
    refine va_get (D := (dC, dI)) (ci := 9) (v := .int (M 0 9)) (C := RX9) (T := TX9) (N := 13) hx hb hts hinX9 hown hK hP 0 rfl rfl 9 (by decide) hw1 (fun _ h9 => h9) rfl dX9_sign_16 ?_
    obtain ⟨hi, hf⟩ := gd_s hf
    refine va_iald (D := (dC, dI)) (f := (M 6)) hx hb hK hP 6 0 rfl rfl (inb_in hi) dX9_sign_19 ?_
    refine lv_goto (tgt := 24) hx hb dX9_sign_20 (by decide) ?_
    exact hfX9_sign_B24  (M 6 (M 0 9).toNatClampNeg) hf _ (lv_sub hl [] rfl)
