set_option maxHeartbeats 4000000 in
set_option maxRecDepth 100000 in
theorem c_X7_countFree (l : Launch) (dC : Nat → ClassId) (dI : Nat → Nat → Nat) (cI cZ : ClassId) (a : Nat → Nat) (M : Mem) (a1 : Int32) (z : Int32) (hf : fX7_countFree M a1 = some z) : Met l yX7_countFree wsX7_countFree ({ frames := 2, cells := 0, slots := 0, locals := 44 } : Room) (va_Pc [.ref (a 0), .int a1] (RO (dC, dI) cI cZ (wX7 cI cZ a M))) (k2_QcV (.int z)) 0 0 (fun _ => False) := by
  refine Met.ofW (cc := cX7_countFree) (maxL := 5) (ret := (some .int)) (by decide) rfl ?_
  intro p e s m args below meth c s₁ B hml hv
  obtain ⟨rfl, hP, hK, hNW⟩ := hv
  have hx := B.exec
  have hb := B.bytes
  have hr := B.returns
  have hts := atoms_spec (ws := wsX7_countFree) B.pre
  have hown : s.vm.findClass RX7 = some m.cls := findClass_of_methodNamed B.named
  have hlocks := B.notSynchronized
  have hfX7_countFree_B31 : ∀ (kb : Int32 → Int32 → Int32 → Option (Int32)) (hkb : ∀ (l2 : Int32) (l3 : Int32) (l4 : Int32), kb l2 l3 l4 = some z → ∀ (ls : Array Slot), lv_has ls 5 [(2, .int l2), (3, .int l3), (4, .int l4)] → W p l e (headSpec wsX7_countFree ({ frames := 2, cells := 0, slots := 0, locals := 44 } : Room)).room s m ([.ref (a 0), .int a1] : List Value).toArray below meth c s.heap [] 0 0 (MQ below (k2_QcV (.int z)) ([.ref (a 0), .int a1] : List Value).toArray s 0 0 (fun _ => False)) (F0 m 11 ls [])) (kx37 : Int32 → Option (Int32)) (hkx37 : ∀ (l3 : Int32), kx37 l3 = some z → ∀ (ls : Array Slot), lv_has ls 5 [(3, .int l3)] → W p l e (headSpec wsX7_countFree ({ frames := 2, cells := 0, slots := 0, locals := 44 } : Room)).room s m ([.ref (a 0), .int a1] : List Value).toArray below meth c s.heap [] 0 0 (MQ below (k2_QcV (.int z)) ([.ref (a 0), .int a1] : List Value).toArray s 0 0 (fun _ => False)) (F0 m 37 ls [])), ∀ (l2 : Int32) (l3 : Int32) (l4 : Int32), fX7_countFree_B31 M kb kx37 l2 l3 l4 = some z → ∀ (ls : Array Slot), lv_has ls 5 [(2, .int l2), (3, .int l3), (4, .int l4)] → W p l e (headSpec wsX7_countFree ({ frames := 2, cells := 0, slots := 0, locals := 44 } : Room)).room s m ([.ref (a 0), .int a1] : List Value).toArray below meth c s.heap [] 0 0 (MQ below (k2_QcV (.int z)) ([.ref (a 0), .int a1] : List Value).toArray s 0 0 (fun _ => False)) (F0 m 31 ls []) := by
    intro kb hkb kx37 hkx37 l2 l3 l4 hf ls hl
    unfold fX7_countFree_B31 at hf
    refine lv_iinc (v := (l4 + (1 : Int32))) (lv' := [(4, .int (l4 + (1 : Int32))), (2, .int l2), (3, .int l3)]) hx hb dX7_countFree_31 hl (k := 2) rfl rfl (by decide) rfl (fun ls hl => ?_)
    refine lv_goto (tgt := 11) hx hb dX7_countFree_34 (by decide) ?_
    exact hkb l2 l3 (l4 + (1 : Int32)) hf _ (lv_sub hl [1, 2, 0] rfl)
  have hfX7_countFree_L11 : ∀ (n : Nat) (kx37 : Int32 → Option (Int32)) (hkx37 : ∀ (l3 : Int32), kx37 l3 = some z → ∀ (ls : Array Slot), lv_has ls 5 [(3, .int l3)] → W p l e (headSpec wsX7_countFree ({ frames := 2, cells := 0, slots := 0, locals := 44 } : Room)).room s m ([.ref (a 0), .int a1] : List Value).toArray below meth c s.heap [] 0 0 (MQ below (k2_QcV (.int z)) ([.ref (a 0), .int a1] : List Value).toArray s 0 0 (fun _ => False)) (F0 m 37 ls [])), ∀ (l2 : Int32) (l3 : Int32) (l4 : Int32), fX7_countFree_L11 M n kx37 l2 l3 l4 = some z → ∀ (ls : Array Slot), lv_has ls 5 [(2, .int l2), (3, .int l3), (4, .int l4)] → W p l e (headSpec wsX7_countFree ({ frames := 2, cells := 0, slots := 0, locals := 44 } : Room)).room s m ([.ref (a 0), .int a1] : List Value).toArray below meth c s.heap [] 0 0 (MQ below (k2_QcV (.int z)) ([.ref (a 0), .int a1] : List Value).toArray s 0 0 (fun _ => False)) (F0 m 11 ls []) := by
    intro n
    induction n with
    | zero =>
      intro kx37 hkx37 l2 l3 l4 hf ls hl
      rw [fX7_countFree_L11] at hf
      cases hf
    | succ n ih =>
      intro kx37 hkx37 l2 l3 l4 hf ls hl
      rw [fX7_countFree_L11] at hf
      refine lv_iload hx hb dX7_countFree_11 (lv_at hl 2 rfl) ?_
      refine lv_bipush (v := (20 : Int32)) hx hb dX7_countFree_13 (by decide) ?_
      refine lv_icmp_ge (tgt := 37) hx hb dX7_countFree_15 (by decide) (fun c9 => ?_) (fun c9 => ?_)
      · have hf := it_t hf c9
        exact hkx37 l3 hf _ (lv_sub hl [1] rfl)
      · have hf := it_f hf c9
        refine lv_iload_n hx hb dX7_countFree_18 rfl (lv_at hl 0 rfl) ?_
        refine lv_iload hx hb dX7_countFree_19 (lv_at hl 2 rfl) ?_
        refine lv_iconst (v := (1 : Int32)) hx hb dX7_countFree_21 (by decide) ?_
        obtain ⟨r22, hc22, hf⟩ := bi_s hf
        refine cRO (W.runS (As := [.int l2, .int l4, .int (1 : Int32)]) (rest := []) ⟨hx, hb, hml, hown, hts⟩ (c_X7_fits l l2 l4 (1 : Int32) r22 hc22) (va_cwS 3 hts gX7_countFree_X7_fits rfl rfl rfl (by decide +kernel) ⟨Nat.le_of_ble_eq_true rfl, Nat.le_of_ble_eq_true rfl⟩) ⟨tr_blind, tr_pre⟩ rfl rfl hl.1 rfl (lv_room (Nat.le_of_ble_eq_true rfl)) dX7_countFree_22 ⟨Nat.le_of_ble_eq_true rfl, Nat.le_of_ble_eq_true rfl⟩) ?_
        refine lv_if_eq (tgt := 31) hx hb dX7_countFree_25 (by decide) (fun c9 => ?_) (fun c9 => ?_)
        · have hf := it_t hf c9
          exact hfX7_countFree_B31 _ (ih kx37 hkx37) _ hkx37 l2 l3 l4 hf _ (lv_sub hl [0, 1, 2] rfl)
        · have hf := it_f hf c9
          refine lv_iinc (v := (l3 + (1 : Int32))) (lv' := [(3, .int (l3 + (1 : Int32))), (2, .int l2), (4, .int l4)]) hx hb dX7_countFree_28 hl (k := 1) rfl rfl (by decide) rfl (fun ls hl => ?_)
          exact hfX7_countFree_B31 _ (ih kx37 hkx37) _ hkx37 l2 (l3 + (1 : Int32)) l4 hf _ (lv_sub hl [1, 0, 2] rfl)
  have hl := lv_entry ([.ref (a 0), .int a1]) (n := 5) (Nat.le_of_ble_eq_true rfl)
  rw [lg_entry_eq]
  generalize (lg_sl ([.ref (a 0), .int a1]) ++ List.replicate (5 - (lg_sl ([.ref (a 0), .int a1])).length) Slot.unset).toArray = ls at hl ⊢
  have hl : lv_has ls 5 [(0, .ref (a 0)), (1, .int a1)] := hl
  unfold fX7_countFree at hf
  refine lv_aload_n hx hb dX7_countFree_0 rfl (lv_at hl 0 rfl) ?_
  refine lv_iload_n hx hb dX7_countFree_1 rfl (lv_at hl 1 rfl) ?_
  obtain ⟨r2, hc2, hf⟩ := bi_s hf
  have hPc := hP
  refine cRO (W.runV (As := [.int a1]) (rest := []) ⟨hx, hb, hml, hown, hts⟩ (c_X7_takenOn l dC dI cI cZ a M a1 r2 hc2) (cwV 1 hts gX7_countFree_X7_takenOn rfl rfl rfl (by decide +kernel) ⟨Nat.le_of_ble_eq_true rfl, Nat.le_of_ble_eq_true rfl⟩) ⟨RO.blind, va_recv hK hP (ci := 7) (q0 := 0) rfl rfl, RO.pre hPc hK hNW⟩ rfl rfl hl.1 rfl (lv_room (Nat.le_of_ble_eq_true rfl)) dX7_countFree_2 ⟨Nat.le_of_ble_eq_true rfl, Nat.le_of_ble_eq_true rfl⟩) ?_
  refine lv_istore_n (lv' := [(2, .int r2), (0, .ref (a 0)), (1, .int a1)]) hx hb dX7_countFree_5 rfl hl (by decide) rfl (fun ls hl => ?_)
  refine lv_iconst (v := (0 : Int32)) hx hb dX7_countFree_6 (by decide) ?_
  refine lv_istore_n (lv' := [(3, .int (0 : Int32)), (2, .int r2), (0, .ref (a 0)), (1, .int a1)]) hx hb dX7_countFree_7 rfl hl (by decide) rfl (fun ls hl => ?_)
  refine lv_iconst (v := (0 : Int32)) hx hb dX7_countFree_8 (by decide) ?_
  refine lv_istore (lv' := [(4, .int (0 : Int32)), (3, .int (0 : Int32)), (2, .int r2), (0, .ref (a 0)), (1, .int a1)]) hx hb dX7_countFree_9 hl (by decide) rfl (fun ls hl => ?_)
  refine hfX7_countFree_L11 5000 _ (fun l3 hf ls hl => ?_) r2 (0 : Int32) (0 : Int32) hf _ (lv_sub hl [2, 1, 0] rfl)
  refine lv_iload_n hx hb dX7_countFree_37 rfl (lv_at hl 0 rfl) ?_
  exact W.iret (v := l3) hx hb hr (fun t ht hW => ⟨congrArg (fun x => Outcome.returned (some (Value.int x))) (so_e hf), ht⟩) fl0 dX7_countFree_38
set_option maxHeartbeats 4000000 in
set_option maxRecDepth 100000 in
theorem c_X7_longestFree (l : Launch) (dC : Nat → ClassId) (dI : Nat → Nat → Nat) (cI cZ : ClassId) (a : Nat → Nat) (M : Mem) (a1 : Int32) (z : Int32) (hf : fX7_longestFree M a1 = some z) : Met l yX7_longestFree wsX7_longestFree ({ frames := 2, cells := 0, slots := 0, locals := 44 } : Room) (va_Pc [.ref (a 0), .int a1] (RO (dC, dI) cI cZ (wX7 cI cZ a M))) (k2_QcV (.int z)) 0 0 (fun _ => False) := by
  refine Met.ofW (cc := cX7_longestFree) (maxL := 6) (ret := (some .int)) (by decide) rfl ?_
  intro p e s m args below meth c s₁ B hml hv
  obtain ⟨rfl, hP, hK, hNW⟩ := hv
  have hx := B.exec
  have hb := B.bytes
  have hr := B.returns
  have hts := atoms_spec (ws := wsX7_longestFree) B.pre
  have hown : s.vm.findClass RX7 = some m.cls := findClass_of_methodNamed B.named
  have hlocks := B.notSynchronized
  have hw0 := hts (.methodLink RX7 56 Lib.Math.max.name) (by decide +kernel)
  have hw1 := hts (.static Lib.Math.max.name) (by decide +kernel)
  have hw2 := hts (.initialized "java/lang/Math") (by decide +kernel)
  have hw3 := hts (.code Lib.Math.max.name Lib.Math.max.code 2 (some .int)) (by decide +kernel)
  have hfX7_longestFree_B39 : ∀ (kb : Int32 → Int32 → Int32 → Int32 → Option (Int32)) (hkb : ∀ (l2 : Int32) (l3 : Int32) (l4 : Int32) (l5 : Int32), kb l2 l3 l4 l5 = some z → ∀ (ls : Array Slot), lv_has ls 6 [(2, .int l2), (3, .int l3), (4, .int l4), (5, .int l5)] → W p l e (headSpec wsX7_longestFree ({ frames := 2, cells := 0, slots := 0, locals := 44 } : Room)).room s m ([.ref (a 0), .int a1] : List Value).toArray below meth c s.heap [] 0 0 (MQ below (k2_QcV (.int z)) ([.ref (a 0), .int a1] : List Value).toArray s 0 0 (fun _ => False)) (F0 m 14 ls [])) (kx54 : Int32 → Option (Int32)) (hkx54 : ∀ (l3 : Int32), kx54 l3 = some z → ∀ (ls : Array Slot), lv_has ls 6 [(3, .int l3)] → W p l e (headSpec wsX7_longestFree ({ frames := 2, cells := 0, slots := 0, locals := 44 } : Room)).room s m ([.ref (a 0), .int a1] : List Value).toArray below meth c s.heap [] 0 0 (MQ below (k2_QcV (.int z)) ([.ref (a 0), .int a1] : List Value).toArray s 0 0 (fun _ => False)) (F0 m 54 ls [])), ∀ (l2 : Int32) (l3 : Int32) (l5 : Int32) (s0 : Int32), fX7_longestFree_B39 M kb kx54 l2 l3 l5 s0 = some z → ∀ (ls : Array Slot), lv_has ls 6 [(2, .int l2), (3, .int l3), (5, .int l5)] → W p l e (headSpec wsX7_longestFree ({ frames := 2, cells := 0, slots := 0, locals := 44 } : Room)).room s m ([.ref (a 0), .int a1] : List Value).toArray below meth c s.heap [] 0 0 (MQ below (k2_QcV (.int z)) ([.ref (a 0), .int a1] : List Value).toArray s 0 0 (fun _ => False)) (F0 m 39 ls [.int s0]) := by
    intro kb hkb kx54 hkx54 l2 l3 l5 s0 hf ls hl
    unfold fX7_longestFree_B39 at hf
    refine lv_istore (lv' := [(4, .int s0), (2, .int l2), (3, .int l3), (5, .int l5)]) hx hb dX7_longestFree_39 hl (by decide) rfl (fun ls hl => ?_)
    refine lv_iload_n hx hb dX7_longestFree_41 rfl (lv_at hl 2 rfl) ?_
    refine lv_iload hx hb dX7_longestFree_42 (lv_at hl 0 rfl) ?_
    refine va_mmax hx hb (hml.trans hl.1.symm) hown hw0 hw1 hw2 hw3 (Nat.le_of_ble_eq_true rfl) (Nat.le_of_ble_eq_true rfl) (Nat.le_of_ble_eq_true rfl) (Nat.le_of_ble_eq_true rfl) dX7_longestFree_44 ?_
    refine lv_istore_n (lv' := [(3, .int (if l3 < s0 then s0 else l3)), (4, .int s0), (2, .int l2), (5, .int l5)]) hx hb dX7_longestFree_47 rfl hl (by decide) rfl (fun ls hl => ?_)
    refine lv_iinc (v := (l5 + (1 : Int32))) (lv' := [(5, .int (l5 + (1 : Int32))), (3, .int (if l3 < s0 then s0 else l3)), (4, .int s0), (2, .int l2)]) hx hb dX7_longestFree_48 hl (k := 3) rfl rfl (by decide) rfl (fun ls hl => ?_)
    refine lv_goto (tgt := 14) hx hb dX7_longestFree_51 (by decide) ?_
    exact hkb l2 (if l3 < s0 then s0 else l3) s0 (l5 + (1 : Int32)) hf _ (lv_sub hl [3, 1, 2, 0] rfl)
  have hfX7_longestFree_L14 : ∀ (n : Nat) (kx54 : Int32 → Option (Int32)) (hkx54 : ∀ (l3 : Int32), kx54 l3 = some z → ∀ (ls : Array Slot), lv_has ls 6 [(3, .int l3)] → W p l e (headSpec wsX7_longestFree ({ frames := 2, cells := 0, slots := 0, locals := 44 } : Room)).room s m ([.ref (a 0), .int a1] : List Value).toArray below meth c s.heap [] 0 0 (MQ below (k2_QcV (.int z)) ([.ref (a 0), .int a1] : List Value).toArray s 0 0 (fun _ => False)) (F0 m 54 ls [])), ∀ (l2 : Int32) (l3 : Int32) (l4 : Int32) (l5 : Int32), fX7_longestFree_L14 M n kx54 l2 l3 l4 l5 = some z → ∀ (ls : Array Slot), lv_has ls 6 [(2, .int l2), (3, .int l3), (4, .int l4), (5, .int l5)] → W p l e (headSpec wsX7_longestFree ({ frames := 2, cells := 0, slots := 0, locals := 44 } : Room)).room s m ([.ref (a 0), .int a1] : List Value).toArray below meth c s.heap [] 0 0 (MQ below (k2_QcV (.int z)) ([.ref (a 0), .int a1] : List Value).toArray s 0 0 (fun _ => False)) (F0 m 14 ls []) := by
    intro n
    induction n with
    | zero =>
      intro kx54 hkx54 l2 l3 l4 l5 hf ls hl
      rw [fX7_longestFree_L14] at hf
      cases hf
    | succ n ih =>
      intro kx54 hkx54 l2 l3 l4 l5 hf ls hl
      rw [fX7_longestFree_L14] at hf
      refine lv_iload hx hb dX7_longestFree_14 (lv_at hl 3 rfl) ?_
      refine lv_bipush (v := (20 : Int32)) hx hb dX7_longestFree_16 (by decide) ?_
      refine lv_icmp_ge (tgt := 54) hx hb dX7_longestFree_18 (by decide) (fun c9 => ?_) (fun c9 => ?_)
      · have hf := it_t hf c9
        exact hkx54 l3 hf _ (lv_sub hl [1] rfl)
      · have hf := it_f hf c9
        refine lv_iload_n hx hb dX7_longestFree_21 rfl (lv_at hl 0 rfl) ?_
        refine lv_iload hx hb dX7_longestFree_22 (lv_at hl 3 rfl) ?_
        refine lv_iconst (v := (1 : Int32)) hx hb dX7_longestFree_24 (by decide) ?_
        obtain ⟨r25, hc25, hf⟩ := bi_s hf
        refine cRO (W.runS (As := [.int l2, .int l5, .int (1 : Int32)]) (rest := []) ⟨hx, hb, hml, hown, hts⟩ (c_X7_fits l l2 l5 (1 : Int32) r25 hc25) (va_cwS 3 hts gX7_longestFree_X7_fits rfl rfl rfl (by decide +kernel) ⟨Nat.le_of_ble_eq_true rfl, Nat.le_of_ble_eq_true rfl⟩) ⟨tr_blind, tr_pre⟩ rfl rfl hl.1 rfl (lv_room (Nat.le_of_ble_eq_true rfl)) dX7_longestFree_25 ⟨Nat.le_of_ble_eq_true rfl, Nat.le_of_ble_eq_true rfl⟩) ?_
        refine lv_if_eq (tgt := 38) hx hb dX7_longestFree_28 (by decide) (fun c9 => ?_) (fun c9 => ?_)
        · have hf := it_t hf c9
          refine lv_iconst (v := (0 : Int32)) hx hb dX7_longestFree_38 (by decide) ?_
          exact hfX7_longestFree_B39 _ (ih kx54 hkx54) _ hkx54 l2 l3 l5 (0 : Int32) hf _ (lv_sub hl [0, 1, 3] rfl)
        · have hf := it_f hf c9
          refine lv_iload hx hb dX7_longestFree_31 (lv_at hl 2 rfl) ?_
          refine lv_iconst (v := (1 : Int32)) hx hb dX7_longestFree_33 (by decide) ?_
          refine lv_iadd hx hb dX7_longestFree_34 ?_
          refine lv_goto (tgt := 39) hx hb dX7_longestFree_35 (by decide) ?_
          exact hfX7_longestFree_B39 _ (ih kx54 hkx54) _ hkx54 l2 l3 l5 (l4 + (1 : Int32)) hf _ (lv_sub hl [0, 1, 3] rfl)
  have hl := lv_entry ([.ref (a 0), .int a1]) (n := 6) (Nat.le_of_ble_eq_true rfl)
  rw [lg_entry_eq]
  generalize (lg_sl ([.ref (a 0), .int a1]) ++ List.replicate (6 - (lg_sl ([.ref (a 0), .int a1])).length) Slot.unset).toArray = ls at hl ⊢
  have hl : lv_has ls 6 [(0, .ref (a 0)), (1, .int a1)] := hl
  unfold fX7_longestFree at hf
  refine lv_aload_n hx hb dX7_longestFree_0 rfl (lv_at hl 0 rfl) ?_
  refine lv_iload_n hx hb dX7_longestFree_1 rfl (lv_at hl 1 rfl) ?_
  obtain ⟨r2, hc2, hf⟩ := bi_s hf
  have hPc := hP
  refine cRO (W.runV (As := [.int a1]) (rest := []) ⟨hx, hb, hml, hown, hts⟩ (c_X7_takenOn l dC dI cI cZ a M a1 r2 hc2) (cwV 1 hts gX7_longestFree_X7_takenOn rfl rfl rfl (by decide +kernel) ⟨Nat.le_of_ble_eq_true rfl, Nat.le_of_ble_eq_true rfl⟩) ⟨RO.blind, va_recv hK hP (ci := 7) (q0 := 0) rfl rfl, RO.pre hPc hK hNW⟩ rfl rfl hl.1 rfl (lv_room (Nat.le_of_ble_eq_true rfl)) dX7_longestFree_2 ⟨Nat.le_of_ble_eq_true rfl, Nat.le_of_ble_eq_true rfl⟩) ?_
  refine lv_istore_n (lv' := [(2, .int r2), (0, .ref (a 0)), (1, .int a1)]) hx hb dX7_longestFree_5 rfl hl (by decide) rfl (fun ls hl => ?_)
  refine lv_iconst (v := (0 : Int32)) hx hb dX7_longestFree_6 (by decide) ?_
  refine lv_istore_n (lv' := [(3, .int (0 : Int32)), (2, .int r2), (0, .ref (a 0)), (1, .int a1)]) hx hb dX7_longestFree_7 rfl hl (by decide) rfl (fun ls hl => ?_)
  refine lv_iconst (v := (0 : Int32)) hx hb dX7_longestFree_8 (by decide) ?_
  refine lv_istore (lv' := [(4, .int (0 : Int32)), (3, .int (0 : Int32)), (2, .int r2), (0, .ref (a 0)), (1, .int a1)]) hx hb dX7_longestFree_9 hl (by decide) rfl (fun ls hl => ?_)
  refine lv_iconst (v := (0 : Int32)) hx hb dX7_longestFree_11 (by decide) ?_
  refine lv_istore (lv' := [(5, .int (0 : Int32)), (4, .int (0 : Int32)), (3, .int (0 : Int32)), (2, .int r2), (0, .ref (a 0)), (1, .int a1)]) hx hb dX7_longestFree_12 hl (by decide) rfl (fun ls hl => ?_)
  refine hfX7_longestFree_L14 5000 _ (fun l3 hf ls hl => ?_) r2 (0 : Int32) (0 : Int32) (0 : Int32) hf _ (lv_sub hl [3, 2, 1, 0] rfl)
  refine lv_iload_n hx hb dX7_longestFree_54 rfl (lv_at hl 0 rfl) ?_
  exact W.iret (v := l3) hx hb hr (fun t ht hW => ⟨congrArg (fun x => Outcome.returned (some (Value.int x))) (so_e hf), ht⟩) fl0 dX7_longestFree_55
set_option maxHeartbeats 4000000 in
set_option maxRecDepth 100000 in
theorem c_X7_sumOfHeights (l : Launch) (dC : Nat → ClassId) (dI : Nat → Nat → Nat) (cI cZ : ClassId) (a : Nat → Nat) (M : Mem) (z : Int32) (hf : fX7_sumOfHeights M  = some z) : Met l yX7_sumOfHeights wsX7_sumOfHeights ({ frames := 0, cells := 0, slots := 0, locals := 0 } : Room) (va_Pc [.ref (a 0)] (RO (dC, dI) cI cZ (wX7 cI cZ a M))) (k2_QcV (.int z)) 0 0 (fun _ => False) := by
  refine Met.ofW (cc := cX7_sumOfHeights) (maxL := 3) (ret := (some .int)) (by decide) rfl ?_
  intro p e s m args below meth c s₁ B hml hv
  obtain ⟨rfl, hP, hK, hNW⟩ := hv
  have hx := B.exec
  have hb := B.bytes
  have hr := B.returns
  have hts := atoms_spec (ws := wsX7_sumOfHeights) B.pre
  have hown : s.vm.findClass RX7 = some m.cls := findClass_of_methodNamed B.named
  have hlocks := B.notSynchronized
  have hinX7 : ∀ w ∈ u_ws RX7 TX7 6, w ∈ wsX7_sumOfHeights := by decide +kernel
  have hw1 := hts (.fieldLink RX7 9 "GlideShelves$Tower" "count" "I") (by decide +kernel)
  have hw2 := hts (.fieldLink RX7 15 "GlideShelves$Tower" "window" "I") (by decide +kernel)
  have hw3 := hts (.fieldLink RX7 18 "GlideShelves$Tower" "heights" "[I") (by decide +kernel)
  have hfX7_sumOfHeights_B29 : ∀ (kb : Int32 → Int32 → Option (Int32)) (hkb : ∀ (l1 : Int32) (l2 : Int32), kb l1 l2 = some z → ∀ (ls : Array Slot), lv_has ls 3 [(0, .ref (a 0)), (1, .int l1), (2, .int l2)] → W p l e (headSpec wsX7_sumOfHeights ({ frames := 0, cells := 0, slots := 0, locals := 0 } : Room)).room s m ([.ref (a 0)] : List Value).toArray below meth c s.heap [] 0 0 (MQ below (k2_QcV (.int z)) ([.ref (a 0)] : List Value).toArray s 0 0 (fun _ => False)) (F0 m 4 ls [])) (kx35 : Int32 → Option (Int32)) (hkx35 : ∀ (l1 : Int32), kx35 l1 = some z → ∀ (ls : Array Slot), lv_has ls 3 [(1, .int l1)] → W p l e (headSpec wsX7_sumOfHeights ({ frames := 0, cells := 0, slots := 0, locals := 0 } : Room)).room s m ([.ref (a 0)] : List Value).toArray below meth c s.heap [] 0 0 (MQ below (k2_QcV (.int z)) ([.ref (a 0)] : List Value).toArray s 0 0 (fun _ => False)) (F0 m 35 ls [])), ∀ (l1 : Int32) (l2 : Int32), fX7_sumOfHeights_B29 M kb kx35 l1 l2 = some z → ∀ (ls : Array Slot), lv_has ls 3 [(0, .ref (a 0)), (1, .int l1), (2, .int l2)] → W p l e (headSpec wsX7_sumOfHeights ({ frames := 0, cells := 0, slots := 0, locals := 0 } : Room)).room s m ([.ref (a 0)] : List Value).toArray below meth c s.heap [] 0 0 (MQ below (k2_QcV (.int z)) ([.ref (a 0)] : List Value).toArray s 0 0 (fun _ => False)) (F0 m 29 ls []) := by
    intro kb hkb kx35 hkx35 l1 l2 hf ls hl
    unfold fX7_sumOfHeights_B29 at hf
    refine lv_iinc (v := (l2 + (1 : Int32))) (lv' := [(2, .int (l2 + (1 : Int32))), (0, .ref (a 0)), (1, .int l1)]) hx hb dX7_sumOfHeights_29 hl (k := 2) rfl rfl (by decide) rfl (fun ls hl => ?_)
    refine lv_goto (tgt := 4) hx hb dX7_sumOfHeights_32 (by decide) ?_
    exact hkb l1 (l2 + (1 : Int32)) hf _ (lv_sub hl [1, 2, 0] rfl)
  have hfX7_sumOfHeights_L4 : ∀ (n : Nat) (kx35 : Int32 → Option (Int32)) (hkx35 : ∀ (l1 : Int32), kx35 l1 = some z → ∀ (ls : Array Slot), lv_has ls 3 [(1, .int l1)] → W p l e (headSpec wsX7_sumOfHeights ({ frames := 0, cells := 0, slots := 0, locals := 0 } : Room)).room s m ([.ref (a 0)] : List Value).toArray below meth c s.heap [] 0 0 (MQ below (k2_QcV (.int z)) ([.ref (a 0)] : List Value).toArray s 0 0 (fun _ => False)) (F0 m 35 ls [])), ∀ (l1 : Int32) (l2 : Int32), fX7_sumOfHeights_L4 M n kx35 l1 l2 = some z → ∀ (ls : Array Slot), lv_has ls 3 [(0, .ref (a 0)), (1, .int l1), (2, .int l2)] → W p l e (headSpec wsX7_sumOfHeights ({ frames := 0, cells := 0, slots := 0, locals := 0 } : Room)).room s m ([.ref (a 0)] : List Value).toArray below meth c s.heap [] 0 0 (MQ below (k2_QcV (.int z)) ([.ref (a 0)] : List Value).toArray s 0 0 (fun _ => False)) (F0 m 4 ls []) := by
    intro n
    induction n with
    | zero =>
      intro kx35 hkx35 l1 l2 hf ls hl
      rw [fX7_sumOfHeights_L4] at hf
      cases hf
    | succ n ih =>
      intro kx35 hkx35 l1 l2 hf ls hl
      rw [fX7_sumOfHeights_L4] at hf
      refine lv_iload_n hx hb dX7_sumOfHeights_4 rfl (lv_at hl 2 rfl) ?_
      refine lv_aload_n hx hb dX7_sumOfHeights_5 rfl (lv_at hl 0 rfl) ?_
      refine va_get (D := (dC, dI)) (ci := 7) (v := .int (M 0 0)) (C := RX7) (T := TX7) (N := 6) hx hb hts hinX7 hown hK hP 0 rfl rfl 0 (by decide) hw1 (fun _ h9 => h9) rfl dX7_sumOfHeights_6 ?_
      refine lv_icmp_ge (tgt := 35) hx hb dX7_sumOfHeights_9 (by decide) (fun c9 => ?_) (fun c9 => ?_)
      · have hf := it_t hf c9
        exact hkx35 l1 hf _ (lv_sub hl [1] rfl)
      · have hf := it_f hf c9
        refine lv_iload_n hx hb dX7_sumOfHeights_12 rfl (lv_at hl 2 rfl) ?_
        refine lv_aload_n hx hb dX7_sumOfHeights_13 rfl (lv_at hl 0 rfl) ?_
        refine va_get (D := (dC, dI)) (ci := 7) (v := .int (M 0 1)) (C := RX7) (T := TX7) (N := 6) hx hb hts hinX7 hown hK hP 0 rfl rfl 1 (by decide) hw2 (fun _ h9 => h9) rfl dX7_sumOfHeights_14 ?_
        refine lv_icmp_eq (tgt := 29) hx hb dX7_sumOfHeights_17 (by decide) (fun c9 => ?_) (fun c9 => ?_)
        · have hf := it_t hf c9
          exact hfX7_sumOfHeights_B29 _ (ih kx35 hkx35) _ hkx35 l1 l2 hf _ (lv_sub hl [0, 1, 2] rfl)
        · have hf := it_f hf c9
          refine lv_iload_n hx hb dX7_sumOfHeights_20 rfl (lv_at hl 1 rfl) ?_
          refine lv_aload_n hx hb dX7_sumOfHeights_21 rfl (lv_at hl 0 rfl) ?_
          refine va_get (D := (dC, dI)) (ci := 7) (v := .ref (a 1)) (C := RX7) (T := TX7) (N := 6) hx hb hts hinX7 hown hK hP 0 rfl rfl 2 (by decide) hw3 (fun _ h9 => h9) rfl dX7_sumOfHeights_22 ?_
          refine lv_iload_n hx hb dX7_sumOfHeights_25 rfl (lv_at hl 2 rfl) ?_
          obtain ⟨hi, hf⟩ := gd_s hf
          refine va_iald (D := (dC, dI)) (f := (M 1)) hx hb hK hP 1 0 rfl rfl (inb_in hi) dX7_sumOfHeights_26 ?_
          refine lv_iadd hx hb dX7_sumOfHeights_27 ?_
          refine lv_istore_n (lv' := [(1, .int (l1 + (M 1 l2.toNatClampNeg))), (0, .ref (a 0)), (2, .int l2)]) hx hb dX7_sumOfHeights_28 rfl hl (by decide) rfl (fun ls hl => ?_)
          exact hfX7_sumOfHeights_B29 _ (ih kx35 hkx35) _ hkx35 (l1 + (M 1 l2.toNatClampNeg)) l2 hf _ (lv_sub hl [1, 0, 2] rfl)
  have hl := lv_entry ([.ref (a 0)]) (n := 3) (Nat.le_of_ble_eq_true rfl)
  rw [lg_entry_eq]
  generalize (lg_sl ([.ref (a 0)]) ++ List.replicate (3 - (lg_sl ([.ref (a 0)])).length) Slot.unset).toArray = ls at hl ⊢
  have hl : lv_has ls 3 [(0, .ref (a 0))] := hl
  unfold fX7_sumOfHeights at hf
  refine lv_iconst (v := (0 : Int32)) hx hb dX7_sumOfHeights_0 (by decide) ?_
  refine lv_istore_n (lv' := [(1, .int (0 : Int32)), (0, .ref (a 0))]) hx hb dX7_sumOfHeights_1 rfl hl (by decide) rfl (fun ls hl => ?_)
  refine lv_iconst (v := (0 : Int32)) hx hb dX7_sumOfHeights_2 (by decide) ?_
  refine lv_istore_n (lv' := [(2, .int (0 : Int32)), (1, .int (0 : Int32)), (0, .ref (a 0))]) hx hb dX7_sumOfHeights_3 rfl hl (by decide) rfl (fun ls hl => ?_)
  refine hfX7_sumOfHeights_L4 5000 _ (fun l1 hf ls hl => ?_) (0 : Int32) (0 : Int32) hf _ (lv_sub hl [2, 1, 0] rfl)
  refine lv_iload_n hx hb dX7_sumOfHeights_35 rfl (lv_at hl 0 rfl) ?_
  exact W.iret (v := l1) hx hb hr (fun t ht hW => ⟨congrArg (fun x => Outcome.returned (some (Value.int x))) (so_e hf), ht⟩) fl0 dX7_sumOfHeights_36
set_option maxHeartbeats 4000000 in
set_option maxRecDepth 100000 in
theorem c_X7_mostUsed (l : Launch) (dC : Nat → ClassId) (dI : Nat → Nat → Nat) (cI cZ : ClassId) (a : Nat → Nat) (M : Mem) (a1 : Int32) (z : Int32) (hf : fX7_mostUsed M a1 = some z) : Met l yX7_mostUsed wsX7_mostUsed ({ frames := 0, cells := 0, slots := 0, locals := 0 } : Room) (va_Pc [.ref (a 0), .int a1] (RO (dC, dI) cI cZ (wX7 cI cZ a M))) (k2_QcV (.int z)) 0 0 (fun _ => False) := by
  refine Met.ofW (cc := cX7_mostUsed) (maxL := 5) (ret := (some .int)) (by decide) rfl ?_
  intro p e s m args below meth c s₁ B hml hv
  obtain ⟨rfl, hP, hK, hNW⟩ := hv
  have hx := B.exec
  have hb := B.bytes
  have hr := B.returns
  have hts := atoms_spec (ws := wsX7_mostUsed) B.pre
  have hown : s.vm.findClass RX7 = some m.cls := findClass_of_methodNamed B.named
  have hlocks := B.notSynchronized
  have hinX7 : ∀ w ∈ u_ws RX7 TX7 6, w ∈ wsX7_mostUsed := by decide +kernel
  have hw1 := hts (.fieldLink RX7 9 "GlideShelves$Tower" "count" "I") (by decide +kernel)
  have hw2 := hts (.fieldLink RX7 25 "GlideShelves$Tower" "uses" "[I") (by decide +kernel)
  have hfX7_mostUsed_B54 : ∀ (kb : Int32 → Int32 → Int32 → Option (Int32)) (hkb : ∀ (l1 : Int32) (l2 : Int32) (l3 : Int32), kb l1 l2 l3 = some z → ∀ (ls : Array Slot), lv_has ls 5 [(0, .ref (a 0)), (1, .int l1), (2, .int l2), (3, .int l3)] → W p l e (headSpec wsX7_mostUsed ({ frames := 0, cells := 0, slots := 0, locals := 0 } : Room)).room s m ([.ref (a 0), .int a1] : List Value).toArray below meth c s.heap [] 0 0 (MQ below (k2_QcV (.int z)) ([.ref (a 0), .int a1] : List Value).toArray s 0 0 (fun _ => False)) (F0 m 4 ls [])) (kx60 : Int32 → Option (Int32)) (hkx60 : ∀ (l2 : Int32), kx60 l2 = some z → ∀ (ls : Array Slot), lv_has ls 5 [(2, .int l2)] → W p l e (headSpec wsX7_mostUsed ({ frames := 0, cells := 0, slots := 0, locals := 0 } : Room)).room s m ([.ref (a 0), .int a1] : List Value).toArray below meth c s.heap [] 0 0 (MQ below (k2_QcV (.int z)) ([.ref (a 0), .int a1] : List Value).toArray s 0 0 (fun _ => False)) (F0 m 60 ls [])), ∀ (l1 : Int32) (l2 : Int32) (l3 : Int32), fX7_mostUsed_B54 M kb kx60 l1 l2 l3 = some z → ∀ (ls : Array Slot), lv_has ls 5 [(0, .ref (a 0)), (1, .int l1), (2, .int l2), (3, .int l3)] → W p l e (headSpec wsX7_mostUsed ({ frames := 0, cells := 0, slots := 0, locals := 0 } : Room)).room s m ([.ref (a 0), .int a1] : List Value).toArray below meth c s.heap [] 0 0 (MQ below (k2_QcV (.int z)) ([.ref (a 0), .int a1] : List Value).toArray s 0 0 (fun _ => False)) (F0 m 54 ls []) := by
    intro kb hkb kx60 hkx60 l1 l2 l3 hf ls hl
    unfold fX7_mostUsed_B54 at hf
    refine lv_iinc (v := (l3 + (1 : Int32))) (lv' := [(3, .int (l3 + (1 : Int32))), (0, .ref (a 0)), (1, .int l1), (2, .int l2)]) hx hb dX7_mostUsed_54 hl (k := 3) rfl rfl (by decide) rfl (fun ls hl => ?_)
    refine lv_goto (tgt := 4) hx hb dX7_mostUsed_57 (by decide) ?_
    exact hkb l1 l2 (l3 + (1 : Int32)) hf _ (lv_sub hl [1, 2, 3, 0] rfl)
  have hfX7_mostUsed_B52 : ∀ (kb : Int32 → Int32 → Int32 → Option (Int32)) (hkb : ∀ (l1 : Int32) (l2 : Int32) (l3 : Int32), kb l1 l2 l3 = some z → ∀ (ls : Array Slot), lv_has ls 5 [(0, .ref (a 0)), (1, .int l1), (2, .int l2), (3, .int l3)] → W p l e (headSpec wsX7_mostUsed ({ frames := 0, cells := 0, slots := 0, locals := 0 } : Room)).room s m ([.ref (a 0), .int a1] : List Value).toArray below meth c s.heap [] 0 0 (MQ below (k2_QcV (.int z)) ([.ref (a 0), .int a1] : List Value).toArray s 0 0 (fun _ => False)) (F0 m 4 ls [])) (kx60 : Int32 → Option (Int32)) (hkx60 : ∀ (l2 : Int32), kx60 l2 = some z → ∀ (ls : Array Slot), lv_has ls 5 [(2, .int l2)] → W p l e (headSpec wsX7_mostUsed ({ frames := 0, cells := 0, slots := 0, locals := 0 } : Room)).room s m ([.ref (a 0), .int a1] : List Value).toArray below meth c s.heap [] 0 0 (MQ below (k2_QcV (.int z)) ([.ref (a 0), .int a1] : List Value).toArray s 0 0 (fun _ => False)) (F0 m 60 ls [])), ∀ (l1 : Int32) (l3 : Int32), fX7_mostUsed_B52 M kb kx60 l1 l3 = some z → ∀ (ls : Array Slot), lv_has ls 5 [(0, .ref (a 0)), (1, .int l1), (3, .int l3)] → W p l e (headSpec wsX7_mostUsed ({ frames := 0, cells := 0, slots := 0, locals := 0 } : Room)).room s m ([.ref (a 0), .int a1] : List Value).toArray below meth c s.heap [] 0 0 (MQ below (k2_QcV (.int z)) ([.ref (a 0), .int a1] : List Value).toArray s 0 0 (fun _ => False)) (F0 m 52 ls []) := by
    intro kb hkb kx60 hkx60 l1 l3 hf ls hl
    unfold fX7_mostUsed_B52 at hf
    refine lv_iload_n hx hb dX7_mostUsed_52 rfl (lv_at hl 2 rfl) ?_
    refine lv_istore_n (lv' := [(2, .int l3), (0, .ref (a 0)), (1, .int l1), (3, .int l3)]) hx hb dX7_mostUsed_53 rfl hl (by decide) rfl (fun ls hl => ?_)
    exact hfX7_mostUsed_B54 _ hkb _ hkx60 l1 l3 l3 hf _ (lv_sub hl [1, 2, 0, 3] rfl)
  have hfX7_mostUsed_B25 : ∀ (kb : Int32 → Int32 → Int32 → Option (Int32)) (hkb : ∀ (l1 : Int32) (l2 : Int32) (l3 : Int32), kb l1 l2 l3 = some z → ∀ (ls : Array Slot), lv_has ls 5 [(0, .ref (a 0)), (1, .int l1), (2, .int l2), (3, .int l3)] → W p l e (headSpec wsX7_mostUsed ({ frames := 0, cells := 0, slots := 0, locals := 0 } : Room)).room s m ([.ref (a 0), .int a1] : List Value).toArray below meth c s.heap [] 0 0 (MQ below (k2_QcV (.int z)) ([.ref (a 0), .int a1] : List Value).toArray s 0 0 (fun _ => False)) (F0 m 4 ls [])) (kx60 : Int32 → Option (Int32)) (hkx60 : ∀ (l2 : Int32), kx60 l2 = some z → ∀ (ls : Array Slot), lv_has ls 5 [(2, .int l2)] → W p l e (headSpec wsX7_mostUsed ({ frames := 0, cells := 0, slots := 0, locals := 0 } : Room)).room s m ([.ref (a 0), .int a1] : List Value).toArray below meth c s.heap [] 0 0 (MQ below (k2_QcV (.int z)) ([.ref (a 0), .int a1] : List Value).toArray s 0 0 (fun _ => False)) (F0 m 60 ls [])), ∀ (l1 : Int32) (l2 : Int32) (l3 : Int32) (s0 : Int32), fX7_mostUsed_B25 M kb kx60 l1 l2 l3 s0 = some z → ∀ (ls : Array Slot), lv_has ls 5 [(0, .ref (a 0)), (1, .int l1), (2, .int l2), (3, .int l3)] → W p l e (headSpec wsX7_mostUsed ({ frames := 0, cells := 0, slots := 0, locals := 0 } : Room)).room s m ([.ref (a 0), .int a1] : List Value).toArray below meth c s.heap [] 0 0 (MQ below (k2_QcV (.int z)) ([.ref (a 0), .int a1] : List Value).toArray s 0 0 (fun _ => False)) (F0 m 25 ls [.int s0]) := by
    intro kb hkb kx60 hkx60 l1 l2 l3 s0 hf ls hl
    unfold fX7_mostUsed_B25 at hf
    refine lv_istore (lv' := [(4, .int s0), (0, .ref (a 0)), (1, .int l1), (2, .int l2), (3, .int l3)]) hx hb dX7_mostUsed_25 hl (by decide) rfl (fun ls hl => ?_)
    refine lv_iload hx hb dX7_mostUsed_27 (lv_at hl 0 rfl) ?_
    refine lv_if_eq (tgt := 54) hx hb dX7_mostUsed_29 (by decide) (fun c9 => ?_) (fun c9 => ?_)
    · have hf := it_t hf c9
      exact hfX7_mostUsed_B54 _ hkb _ hkx60 l1 l2 l3 hf _ (lv_sub hl [1, 2, 3, 4] rfl)
    · have hf := it_f hf c9
      refine lv_iload_n hx hb dX7_mostUsed_32 rfl (lv_at hl 3 rfl) ?_
      refine lv_iconst (v := (-1 : Int32)) hx hb dX7_mostUsed_33 (by decide) ?_
      refine lv_icmp_eq (tgt := 52) hx hb dX7_mostUsed_34 (by decide) (fun c9 => ?_) (fun c9 => ?_)
      · have hf := it_t hf c9
        exact hfX7_mostUsed_B52 _ hkb _ hkx60 l1 l3 hf _ (lv_sub hl [1, 2, 4] rfl)
      · have hf := it_f hf c9
        refine lv_aload_n hx hb dX7_mostUsed_37 rfl (lv_at hl 1 rfl) ?_
        refine va_get (D := (dC, dI)) (ci := 7) (v := .ref (a 3)) (C := RX7) (T := TX7) (N := 6) hx hb hts hinX7 hown hK hP 0 rfl rfl 4 (by decide) hw2 (fun _ h9 => h9) rfl dX7_mostUsed_38 ?_
        refine lv_iload_n hx hb dX7_mostUsed_41 rfl (lv_at hl 4 rfl) ?_
        obtain ⟨hi, hf⟩ := gd_s hf
        refine va_iald (D := (dC, dI)) (f := (M 3)) hx hb hK hP 3 0 rfl rfl (inb_in hi) dX7_mostUsed_42 ?_
        refine lv_aload_n hx hb dX7_mostUsed_43 rfl (lv_at hl 1 rfl) ?_
        refine va_get (D := (dC, dI)) (ci := 7) (v := .ref (a 3)) (C := RX7) (T := TX7) (N := 6) hx hb hts hinX7 hown hK hP 0 rfl rfl 4 (by decide) hw2 (fun _ h9 => h9) rfl dX7_mostUsed_44 ?_
        refine lv_iload_n hx hb dX7_mostUsed_47 rfl (lv_at hl 3 rfl) ?_
        obtain ⟨hi, hf⟩ := gd_s hf
        refine va_iald (D := (dC, dI)) (f := (M 3)) hx hb hK hP 3 0 rfl rfl (inb_in hi) dX7_mostUsed_48 ?_
        refine lv_icmp_le (tgt := 54) hx hb dX7_mostUsed_49 (by decide) (fun c9 => ?_) (fun c9 => ?_)
        · have hf := it_t hf c9
          exact hfX7_mostUsed_B54 _ hkb _ hkx60 l1 l2 l3 hf _ (lv_sub hl [1, 2, 3, 4] rfl)
        · have hf := it_f hf c9
          exact hfX7_mostUsed_B52 _ hkb _ hkx60 l1 l3 hf _ (lv_sub hl [1, 2, 4] rfl)
  have hfX7_mostUsed_L4 : ∀ (n : Nat) (kx60 : Int32 → Option (Int32)) (hkx60 : ∀ (l2 : Int32), kx60 l2 = some z → ∀ (ls : Array Slot), lv_has ls 5 [(2, .int l2)] → W p l e (headSpec wsX7_mostUsed ({ frames := 0, cells := 0, slots := 0, locals := 0 } : Room)).room s m ([.ref (a 0), .int a1] : List Value).toArray below meth c s.heap [] 0 0 (MQ below (k2_QcV (.int z)) ([.ref (a 0), .int a1] : List Value).toArray s 0 0 (fun _ => False)) (F0 m 60 ls [])), ∀ (l1 : Int32) (l2 : Int32) (l3 : Int32), fX7_mostUsed_L4 M n kx60 l1 l2 l3 = some z → ∀ (ls : Array Slot), lv_has ls 5 [(0, .ref (a 0)), (1, .int l1), (2, .int l2), (3, .int l3)] → W p l e (headSpec wsX7_mostUsed ({ frames := 0, cells := 0, slots := 0, locals := 0 } : Room)).room s m ([.ref (a 0), .int a1] : List Value).toArray below meth c s.heap [] 0 0 (MQ below (k2_QcV (.int z)) ([.ref (a 0), .int a1] : List Value).toArray s 0 0 (fun _ => False)) (F0 m 4 ls []) := by
    intro n
    induction n with
    | zero =>
      intro kx60 hkx60 l1 l2 l3 hf ls hl
      rw [fX7_mostUsed_L4] at hf
      cases hf
    | succ n ih =>
      intro kx60 hkx60 l1 l2 l3 hf ls hl
      rw [fX7_mostUsed_L4] at hf
      refine lv_iload_n hx hb dX7_mostUsed_4 rfl (lv_at hl 3 rfl) ?_
      refine lv_aload_n hx hb dX7_mostUsed_5 rfl (lv_at hl 0 rfl) ?_
      refine va_get (D := (dC, dI)) (ci := 7) (v := .int (M 0 0)) (C := RX7) (T := TX7) (N := 6) hx hb hts hinX7 hown hK hP 0 rfl rfl 0 (by decide) hw1 (fun _ h9 => h9) rfl dX7_mostUsed_6 ?_
      refine lv_icmp_ge (tgt := 60) hx hb dX7_mostUsed_9 (by decide) (fun c9 => ?_) (fun c9 => ?_)
      · have hf := it_t hf c9
        exact hkx60 l2 hf _ (lv_sub hl [2] rfl)
      · have hf := it_f hf c9
        refine lv_iload_n hx hb dX7_mostUsed_12 rfl (lv_at hl 1 rfl) ?_
        refine lv_iload_n hx hb dX7_mostUsed_13 rfl (lv_at hl 3 rfl) ?_
        refine lv_ishr hx hb dX7_mostUsed_14 ?_
        refine lv_iconst (v := (1 : Int32)) hx hb dX7_mostUsed_15 (by decide) ?_
        refine lv_iand hx hb dX7_mostUsed_16 ?_
        refine lv_if_ne (tgt := 24) hx hb dX7_mostUsed_17 (by decide) (fun c9 => ?_) (fun c9 => ?_)
        · have hf := it_t hf c9
          refine lv_iconst (v := (0 : Int32)) hx hb dX7_mostUsed_24 (by decide) ?_
          exact hfX7_mostUsed_B25 _ (ih kx60 hkx60) _ hkx60 l1 l2 l3 (0 : Int32) hf _ (lv_sub hl [0, 1, 2, 3] rfl)
        · have hf := it_n hf c9
          refine lv_iconst (v := (1 : Int32)) hx hb dX7_mostUsed_20 (by decide) ?_
          refine lv_goto (tgt := 25) hx hb dX7_mostUsed_21 (by decide) ?_
          exact hfX7_mostUsed_B25 _ (ih kx60 hkx60) _ hkx60 l1 l2 l3 (1 : Int32) hf _ (lv_sub hl [0, 1, 2, 3] rfl)
  have hl := lv_entry ([.ref (a 0), .int a1]) (n := 5) (Nat.le_of_ble_eq_true rfl)
  rw [lg_entry_eq]
  generalize (lg_sl ([.ref (a 0), .int a1]) ++ List.replicate (5 - (lg_sl ([.ref (a 0), .int a1])).length) Slot.unset).toArray = ls at hl ⊢
  have hl : lv_has ls 5 [(0, .ref (a 0)), (1, .int a1)] := hl
  unfold fX7_mostUsed at hf
  refine lv_iconst (v := (-1 : Int32)) hx hb dX7_mostUsed_0 (by decide) ?_
  refine lv_istore_n (lv' := [(2, .int (-1 : Int32)), (0, .ref (a 0)), (1, .int a1)]) hx hb dX7_mostUsed_1 rfl hl (by decide) rfl (fun ls hl => ?_)
  refine lv_iconst (v := (0 : Int32)) hx hb dX7_mostUsed_2 (by decide) ?_
  refine lv_istore_n (lv' := [(3, .int (0 : Int32)), (2, .int (-1 : Int32)), (0, .ref (a 0)), (1, .int a1)]) hx hb dX7_mostUsed_3 rfl hl (by decide) rfl (fun ls hl => ?_)
  refine hfX7_mostUsed_L4 5000 _ (fun l2 hf ls hl => ?_) a1 (-1 : Int32) (0 : Int32) hf _ (lv_sub hl [2, 3, 1, 0] rfl)
  refine lv_iload_n hx hb dX7_mostUsed_60 rfl (lv_at hl 0 rfl) ?_
  exact W.iret (v := l2) hx hb hr (fun t ht hW => ⟨congrArg (fun x => Outcome.returned (some (Value.int x))) (so_e hf), ht⟩) fl0 dX7_mostUsed_61
set_option maxHeartbeats 4000000 in
set_option maxRecDepth 100000 in
theorem c_X2_copyFrom (l : Launch) (dC : Nat → ClassId) (dI : Nat → Nat → Nat) (cI cZ : ClassId) (a : Nat → Nat) (sz : Nat) (M : Mem) (z : Mem) (hf : fX2_copyFrom M  = some z) : Met l yX2_copyFrom wsX2_copyFrom ({ frames := 0, cells := 0, slots := 0, locals := 0 } : Room) (va_Pc [.ref (a 0), .ref (a 3)] (WR (dC, dI) cI cZ (wX2_copyFrom cI cZ a M) sz)) (va_Qv (S := Unit) (fun _ => True) (fun _ t => WE (dC, dI) cI cZ (wX2_copyFrom cI cZ a (sr (sr (sr M 0 (z 0)) 1 (z 1)) 2 (z 2))) (va_A (wX2_copyFrom cI cZ a M) sz) t) (va_A (wX2_copyFrom cI cZ a M) sz)) 0 0 (va_A (wX2_copyFrom cI cZ a M) sz) := by
  refine Met.ofW (cc := cX2_copyFrom) (maxL := 3) (ret := none) (by decide) rfl ?_
  intro p e s m args below meth c s₁ B hml hv
  obtain ⟨rfl, hsz, hP, hK, hD0, hNW⟩ := hv
  have hx := B.exec
  have hb := B.bytes
  have hr := B.returns
  have hts := atoms_spec (ws := wsX2_copyFrom) B.pre
  have hown : s.vm.findClass RX2 = some m.cls := findClass_of_methodNamed B.named
  have hlocks := B.notSynchronized
  have hinX2 : ∀ w ∈ u_ws RX2 TX2 7, w ∈ wsX2_copyFrom := by decide +kernel
  have hw1 := hts (.fieldLink RX2 9 "GlideShelves$Lift" "slot" "I") (by decide +kernel)
  have hw2 := hts (.fieldLink RX2 15 "GlideShelves$Lift" "keepsPlaces" "Z") (by decide +kernel)
  have hw3 := hts (.fieldLink RX2 19 "GlideShelves$Lift" "allTicks" "I") (by decide +kernel)
  have hw4 := hts (.fieldLink RX2 22 "GlideShelves$Lift" "allFetches" "I") (by decide +kernel)
  have hw5 := hts (.fieldLink RX2 25 "GlideShelves$Lift" "remembered" "I") (by decide +kernel)
  have hw6 := hts (.fieldLink RX2 28 "GlideShelves$Lift" "tripSums" "[I") (by decide +kernel)
  have hw7 := hts (.fieldLink RX2 32 "GlideShelves$Lift" "tripBrought" "[Z") (by decide +kernel)
  subst hsz
  have hD := hD0.self (sz := s.heap.size)
  generalize hAe : va_A (wX2_copyFrom cI cZ a M) s.heap.size = A at hD ⊢
  have hA : ∀ q : Nat, s.heap.size ≤ q → A q := fun q h => by rw [← hAe]; exact Or.inr h
  have hS : va_S A s.heap s.heap [] := va_S.rf
  have hfX2_copyFrom_L42 : ∀ (n : Nat) (kx78 : Mem → Option (Mem)) (hkx78 : ∀ (N : Mem), kx78 N = some z → ∀ (ls : Array Slot), lv_has ls 3 [] → ∀ (H : Heap) (locs : List Loc), va_P (dC, dI) vwCl (wX2_copyFrom cI cZ a (sr (sr (sr M 0 (N 0)) 1 (N 1)) 2 (N 2))) H → va_D A (wX2_copyFrom cI cZ a (sr (sr (sr M 0 (N 0)) 1 (N 1)) 2 (N 2))) → va_S A s.heap H locs → W p l e (headSpec wsX2_copyFrom ({ frames := 0, cells := 0, slots := 0, locals := 0 } : Room)).room s m ([.ref (a 0), .ref (a 3)] : List Value).toArray below meth c H locs 0 0 (MQ below (va_Qv (S := Unit) (fun _ => True) (fun _ t => WE (dC, dI) cI cZ (wX2_copyFrom cI cZ a (sr (sr (sr M 0 (z 0)) 1 (z 1)) 2 (z 2))) A t) A) ([.ref (a 0), .ref (a 3)] : List Value).toArray s 0 0 A) (F0 m 78 ls [])), ∀ (N : Mem) (l2 : Int32), fX2_copyFrom_L42 M n kx78 N l2 = some z → ∀ (ls : Array Slot), lv_has ls 3 [(0, .ref (a 0)), (1, .ref (a 3)), (2, .int l2)] → ∀ (H : Heap) (locs : List Loc), va_P (dC, dI) vwCl (wX2_copyFrom cI cZ a (sr (sr (sr M 0 (N 0)) 1 (N 1)) 2 (N 2))) H → va_D A (wX2_copyFrom cI cZ a (sr (sr (sr M 0 (N 0)) 1 (N 1)) 2 (N 2))) → va_S A s.heap H locs → W p l e (headSpec wsX2_copyFrom ({ frames := 0, cells := 0, slots := 0, locals := 0 } : Room)).room s m ([.ref (a 0), .ref (a 3)] : List Value).toArray below meth c H locs 0 0 (MQ below (va_Qv (S := Unit) (fun _ => True) (fun _ t => WE (dC, dI) cI cZ (wX2_copyFrom cI cZ a (sr (sr (sr M 0 (z 0)) 1 (z 1)) 2 (z 2))) A t) A) ([.ref (a 0), .ref (a 3)] : List Value).toArray s 0 0 A) (F0 m 42 ls []) := by
    intro n
    induction n with
    | zero =>
      intro kx78 hkx78 N l2 hf ls hl H locs hP hD hS
      rw [fX2_copyFrom_L42] at hf
      cases hf
    | succ n ih =>
      intro kx78 hkx78 N l2 hf ls hl H locs hP hD hS
      rw [fX2_copyFrom_L42] at hf
      refine lv_iload_n hx hb dX2_copyFrom_42 rfl (lv_at hl 2 rfl) ?_
      refine lv_bipush (v := (8 : Int32)) hx hb dX2_copyFrom_43 (by decide) ?_
      refine lv_icmp_ge (tgt := 78) hx hb dX2_copyFrom_45 (by decide) (fun c9 => ?_) (fun c9 => ?_)
      · have hf := it_t hf c9
        exact hkx78 (sr (sr (sr M 0 (N 0)) 1 (N 1)) 2 (N 2)) hf _ (lv_sub hl [] rfl) _ _ hP hD hS
      · have hf := it_f hf c9
        refine lv_aload_n hx hb dX2_copyFrom_48 rfl (lv_at hl 0 rfl) ?_
        refine va_get (D := (dC, dI)) (ci := 2) (v := .ref (a 1)) (C := RX2) (T := TX2) (N := 7) hx hb hts hinX2 hown hK hP 0 rfl rfl 5 (by decide) hw6 (fun _ h9 => h9) rfl dX2_copyFrom_49 ?_
        refine lv_iload_n hx hb dX2_copyFrom_52 rfl (lv_at hl 2 rfl) ?_
        refine lv_aload_n hx hb dX2_copyFrom_53 rfl (lv_at hl 1 rfl) ?_
        refine va_get (D := (dC, dI)) (ci := 2) (v := .ref (a 4)) (C := RX2) (T := TX2) (N := 7) hx hb hts hinX2 hown hK hP 3 rfl rfl 5 (by decide) hw6 (fun _ h9 => h9) rfl dX2_copyFrom_54 ?_
        refine lv_iload_n hx hb dX2_copyFrom_57 rfl (lv_at hl 2 rfl) ?_
        obtain ⟨hi, hf⟩ := gd_s hf
        refine va_iald (D := (dC, dI)) (f := (M 4)) hx hb hK hP 4 0 rfl rfl (inb_in hi) dX2_copyFrom_58 ?_
        obtain ⟨hi, hf⟩ := gd_s hf
        refine va_iast (D := (dC, dI)) (f := (N 1)) hx hb hK hP hD hS 1 0 rfl rfl (inb_in hi) dX2_copyFrom_59 (fun H locs hP hD hS => ?_)
        have hP : va_P (dC, dI) vwCl (wX2_copyFrom cI cZ a (sr (sr (sr M 0 (N 0)) 1 (upd (N 1) l2.toNatClampNeg (M 4 l2.toNatClampNeg))) 2 (N 2))) H := hP
        have hD : va_D A (wX2_copyFrom cI cZ a (sr (sr (sr M 0 (N 0)) 1 (upd (N 1) l2.toNatClampNeg (M 4 l2.toNatClampNeg))) 2 (N 2))) := hD
        refine lv_aload_n hx hb dX2_copyFrom_60 rfl (lv_at hl 0 rfl) ?_
        refine va_get (D := (dC, dI)) (ci := 2) (v := .ref (a 2)) (C := RX2) (T := TX2) (N := 7) hx hb hts hinX2 hown hK hP 0 rfl rfl 6 (by decide) hw7 (fun _ h9 => h9) rfl dX2_copyFrom_61 ?_
        refine lv_iload_n hx hb dX2_copyFrom_64 rfl (lv_at hl 2 rfl) ?_
        refine lv_aload_n hx hb dX2_copyFrom_65 rfl (lv_at hl 1 rfl) ?_
        refine va_get (D := (dC, dI)) (ci := 2) (v := .ref (a 5)) (C := RX2) (T := TX2) (N := 7) hx hb hts hinX2 hown hK hP 3 rfl rfl 6 (by decide) hw7 (fun _ h9 => h9) rfl dX2_copyFrom_66 ?_
        refine lv_iload_n hx hb dX2_copyFrom_69 rfl (lv_at hl 2 rfl) ?_
        obtain ⟨hi, hf⟩ := gd_s hf
        refine va_zald (D := (dC, dI)) (f := (M 5)) hx hb hK hP 5 1 rfl rfl (inb_in hi) dX2_copyFrom_70 ?_
        obtain ⟨hi, hf⟩ := gd_s hf
        obtain ⟨hz, hf⟩ := gd_s hf
        refine va_zast (D := (dC, dI)) (f := (N 2)) hx hb hK hP hD hS 2 1 rfl rfl (inb_in hi) dX2_copyFrom_71 (fun H locs hP hD hS => ?_)
        rw [isb_vnar hz] at hP hD
        have hP : va_P (dC, dI) vwCl (wX2_copyFrom cI cZ a (sr (sr (sr M 0 (N 0)) 1 (upd (N 1) l2.toNatClampNeg (M 4 l2.toNatClampNeg))) 2 (upd (N 2) l2.toNatClampNeg (M 5 l2.toNatClampNeg)))) H := hP
        have hD : va_D A (wX2_copyFrom cI cZ a (sr (sr (sr M 0 (N 0)) 1 (upd (N 1) l2.toNatClampNeg (M 4 l2.toNatClampNeg))) 2 (upd (N 2) l2.toNatClampNeg (M 5 l2.toNatClampNeg)))) := hD
        refine lv_iinc (v := (l2 + (1 : Int32))) (lv' := [(2, .int (l2 + (1 : Int32))), (0, .ref (a 0)), (1, .ref (a 3))]) hx hb dX2_copyFrom_72 hl (k := 2) rfl rfl (by decide) rfl (fun ls hl => ?_)
        refine lv_goto (tgt := 42) hx hb dX2_copyFrom_75 (by decide) ?_
        exact ih kx78 hkx78 (sr (sr (sr M 0 (N 0)) 1 (upd (N 1) l2.toNatClampNeg (M 4 l2.toNatClampNeg))) 2 (upd (N 2) l2.toNatClampNeg (M 5 l2.toNatClampNeg))) (l2 + (1 : Int32)) hf _ (lv_sub hl [1, 2, 0] rfl) _ _ hP hD hS
  have hl := lv_entry ([.ref (a 0), .ref (a 3)]) (n := 3) (Nat.le_of_ble_eq_true rfl)
  rw [lg_entry_eq]
  generalize (lg_sl ([.ref (a 0), .ref (a 3)]) ++ List.replicate (3 - (lg_sl ([.ref (a 0), .ref (a 3)])).length) Slot.unset).toArray = ls at hl ⊢
  have hl : lv_has ls 3 [(0, .ref (a 0)), (1, .ref (a 3))] := hl
  unfold fX2_copyFrom at hf
  suffices hgo : ∀ (H : Heap) (locs : List Loc), va_P (dC, dI) vwCl (wX2_copyFrom cI cZ a M) H → va_D A (wX2_copyFrom cI cZ a M) → va_S A s.heap H locs → W p l e (headSpec wsX2_copyFrom ({ frames := 0, cells := 0, slots := 0, locals := 0 } : Room)).room s m ([.ref (a 0), .ref (a 3)] : List Value).toArray below meth c H locs 0 0 (MQ below (va_Qv (S := Unit) (fun _ => True) (fun _ t => WE (dC, dI) cI cZ (wX2_copyFrom cI cZ a (sr (sr (sr M 0 (z 0)) 1 (z 1)) 2 (z 2))) A t) A) ([.ref (a 0), .ref (a 3)] : List Value).toArray s 0 0 A) (F0 m 0 ls []) from hgo _ _ hP hD hS
  intro H locs hP hD hS
  refine lv_aload_n hx hb dX2_copyFrom_0 rfl (lv_at hl 0 rfl) ?_
  refine lv_aload_n hx hb dX2_copyFrom_1 rfl (lv_at hl 1 rfl) ?_
  refine va_get (D := (dC, dI)) (ci := 2) (v := .int (M 3 0)) (C := RX2) (T := TX2) (N := 7) hx hb hts hinX2 hown hK hP 3 rfl rfl 0 (by decide) hw1 (fun _ h9 => h9) rfl dX2_copyFrom_2 ?_
  refine va_put (D := (dC, dI)) (ci := 2) (v := .int (M 3 0)) (ty := .int) (C := RX2) (T := TX2) (N := 7) hx hb hts hinX2 tyX2 tyX2_ok nmX2 hown hK hP hD hS 0 rfl rfl 0 (by decide) hw1 (fun _ h9 => h9) rfl (by decide +kernel) rfl rfl (Nat.le_of_ble_eq_true rfl) dX2_copyFrom_5 (fun H locs hP hD hS => ?_)
  have hP : va_P (dC, dI) vwCl (wX2_copyFrom cI cZ a (sr M 0 (upd (M 0) 0 (M 3 0)))) H := hP
  have hD : va_D A (wX2_copyFrom cI cZ a (sr M 0 (upd (M 0) 0 (M 3 0)))) := hD
  refine lv_aload_n hx hb dX2_copyFrom_8 rfl (lv_at hl 0 rfl) ?_
  refine lv_aload_n hx hb dX2_copyFrom_9 rfl (lv_at hl 1 rfl) ?_
  refine va_get (D := (dC, dI)) (ci := 2) (v := .int (M 3 1)) (C := RX2) (T := TX2) (N := 7) hx hb hts hinX2 hown hK hP 3 rfl rfl 1 (by decide) hw2 (fun _ h9 => h9) rfl dX2_copyFrom_10 ?_
  obtain ⟨hz, hf⟩ := gd_s hf
  refine va_put (D := (dC, dI)) (ci := 2) (v := .int (M 3 1)) (ty := .boolean) (C := RX2) (T := TX2) (N := 7) hx hb hts hinX2 tyX2 tyX2_ok nmX2 hown hK hP hD hS 0 rfl rfl 1 (by decide) hw2 (fun _ h9 => h9) rfl (by decide +kernel) (isb_nar hz) (isb_fit hz) (Nat.le_of_ble_eq_true rfl) dX2_copyFrom_13 (fun H locs hP hD hS => ?_)
  have hP : va_P (dC, dI) vwCl (wX2_copyFrom cI cZ a (sr M 0 (upd (upd (M 0) 0 (M 3 0)) 1 (M 3 1)))) H := hP
  have hD : va_D A (wX2_copyFrom cI cZ a (sr M 0 (upd (upd (M 0) 0 (M 3 0)) 1 (M 3 1)))) := hD
  refine lv_aload_n hx hb dX2_copyFrom_16 rfl (lv_at hl 0 rfl) ?_
  refine lv_aload_n hx hb dX2_copyFrom_17 rfl (lv_at hl 1 rfl) ?_
  refine va_get (D := (dC, dI)) (ci := 2) (v := .int (M 3 2)) (C := RX2) (T := TX2) (N := 7) hx hb hts hinX2 hown hK hP 3 rfl rfl 2 (by decide) hw3 (fun _ h9 => h9) rfl dX2_copyFrom_18 ?_
  refine va_put (D := (dC, dI)) (ci := 2) (v := .int (M 3 2)) (ty := .int) (C := RX2) (T := TX2) (N := 7) hx hb hts hinX2 tyX2 tyX2_ok nmX2 hown hK hP hD hS 0 rfl rfl 2 (by decide) hw3 (fun _ h9 => h9) rfl (by decide +kernel) rfl rfl (Nat.le_of_ble_eq_true rfl) dX2_copyFrom_21 (fun H locs hP hD hS => ?_)
  have hP : va_P (dC, dI) vwCl (wX2_copyFrom cI cZ a (sr M 0 (upd (upd (upd (M 0) 0 (M 3 0)) 1 (M 3 1)) 2 (M 3 2)))) H := hP
  have hD : va_D A (wX2_copyFrom cI cZ a (sr M 0 (upd (upd (upd (M 0) 0 (M 3 0)) 1 (M 3 1)) 2 (M 3 2)))) := hD
  refine lv_aload_n hx hb dX2_copyFrom_24 rfl (lv_at hl 0 rfl) ?_
  refine lv_aload_n hx hb dX2_copyFrom_25 rfl (lv_at hl 1 rfl) ?_
  refine va_get (D := (dC, dI)) (ci := 2) (v := .int (M 3 3)) (C := RX2) (T := TX2) (N := 7) hx hb hts hinX2 hown hK hP 3 rfl rfl 3 (by decide) hw4 (fun _ h9 => h9) rfl dX2_copyFrom_26 ?_
  refine va_put (D := (dC, dI)) (ci := 2) (v := .int (M 3 3)) (ty := .int) (C := RX2) (T := TX2) (N := 7) hx hb hts hinX2 tyX2 tyX2_ok nmX2 hown hK hP hD hS 0 rfl rfl 3 (by decide) hw4 (fun _ h9 => h9) rfl (by decide +kernel) rfl rfl (Nat.le_of_ble_eq_true rfl) dX2_copyFrom_29 (fun H locs hP hD hS => ?_)
  have hP : va_P (dC, dI) vwCl (wX2_copyFrom cI cZ a (sr M 0 (upd (upd (upd (upd (M 0) 0 (M 3 0)) 1 (M 3 1)) 2 (M 3 2)) 3 (M 3 3)))) H := hP
  have hD : va_D A (wX2_copyFrom cI cZ a (sr M 0 (upd (upd (upd (upd (M 0) 0 (M 3 0)) 1 (M 3 1)) 2 (M 3 2)) 3 (M 3 3)))) := hD
  refine lv_aload_n hx hb dX2_copyFrom_32 rfl (lv_at hl 0 rfl) ?_
  refine lv_aload_n hx hb dX2_copyFrom_33 rfl (lv_at hl 1 rfl) ?_
  refine va_get (D := (dC, dI)) (ci := 2) (v := .int (M 3 4)) (C := RX2) (T := TX2) (N := 7) hx hb hts hinX2 hown hK hP 3 rfl rfl 4 (by decide) hw5 (fun _ h9 => h9) rfl dX2_copyFrom_34 ?_
  refine va_put (D := (dC, dI)) (ci := 2) (v := .int (M 3 4)) (ty := .int) (C := RX2) (T := TX2) (N := 7) hx hb hts hinX2 tyX2 tyX2_ok nmX2 hown hK hP hD hS 0 rfl rfl 4 (by decide) hw5 (fun _ h9 => h9) rfl (by decide +kernel) rfl rfl (Nat.le_of_ble_eq_true rfl) dX2_copyFrom_37 (fun H locs hP hD hS => ?_)
  have hP : va_P (dC, dI) vwCl (wX2_copyFrom cI cZ a (sr M 0 (upd (upd (upd (upd (upd (M 0) 0 (M 3 0)) 1 (M 3 1)) 2 (M 3 2)) 3 (M 3 3)) 4 (M 3 4)))) H := hP
  have hD : va_D A (wX2_copyFrom cI cZ a (sr M 0 (upd (upd (upd (upd (upd (M 0) 0 (M 3 0)) 1 (M 3 1)) 2 (M 3 2)) 3 (M 3 3)) 4 (M 3 4)))) := hD
  refine lv_iconst (v := (0 : Int32)) hx hb dX2_copyFrom_40 (by decide) ?_
  refine lv_istore_n (lv' := [(2, .int (0 : Int32)), (0, .ref (a 0)), (1, .ref (a 3))]) hx hb dX2_copyFrom_41 rfl hl (by decide) rfl (fun ls hl => ?_)
  refine hfX2_copyFrom_L42 5000 _ (fun N hf ls hl H locs hP hD hS => ?_) (sr M 0 (upd (upd (upd (upd (upd (M 0) 0 (M 3 0)) 1 (M 3 1)) 2 (M 3 2)) 3 (M 3 3)) 4 (M 3 4))) (0 : Int32) hf _ (lv_sub hl [1, 2, 0] rfl) _ _ hP hD hS
  have e9 := so_e hf
  subst e9
  exact W.vret hx hb hr (fun t ht hW => ⟨⟨(), rfl, trivial, WE.mk hP hD ht⟩, hS.F ht⟩) hS.2.2 dX2_copyFrom_78
set_option maxHeartbeats 4000000 in
set_option maxRecDepth 100000 in
theorem c_X2_go (l : Launch) (dC : Nat → ClassId) (dI : Nat → Nat → Nat) (cI cZ : ClassId) (a : Nat → Nat) (sz : Nat) (M : Mem) (a1 : Int32) (a2 : Int32) (a3 : Int32) (z : Mem) (hf : fX2_go M a1 a2 a3 = some z) : Met l yX2_go wsX2_go ({ frames := 1, cells := 0, slots := 0, locals := 40 } : Room) (va_Pc [.ref (a 0), .int a1, .int a2, .int a3] (WR (dC, dI) cI cZ (wX2 cI cZ a M) sz)) (va_Qv (S := Unit) (fun _ => True) (fun _ t => WE (dC, dI) cI cZ (wX2 cI cZ a (sr (sr (sr M 0 (z 0)) 1 (z 1)) 2 (z 2))) (va_A (wX2 cI cZ a M) sz) t) (va_A (wX2 cI cZ a M) sz)) 0 0 (va_A (wX2 cI cZ a M) sz) := by
  refine Met.ofW (cc := cX2_go) (maxL := 5) (ret := none) (by decide) rfl ?_
  intro p e s m args below meth c s₁ B hml hv
  obtain ⟨rfl, hsz, hP, hK, hD0, hNW⟩ := hv
  have hx := B.exec
  have hb := B.bytes
  have hr := B.returns
  have hts := atoms_spec (ws := wsX2_go) B.pre
  have hown : s.vm.findClass RX2 = some m.cls := findClass_of_methodNamed B.named
  have hlocks := B.notSynchronized
  have hinX2 : ∀ w ∈ u_ws RX2 TX2 7, w ∈ wsX2_go := by decide +kernel
  have hw1 := hts (.fieldLink RX2 28 "GlideShelves$Lift" "tripSums" "[I") (by decide +kernel)
  have hw2 := hts (.fieldLink RX2 32 "GlideShelves$Lift" "tripBrought" "[Z") (by decide +kernel)
  have hw3 := hts (.fieldLink RX2 25 "GlideShelves$Lift" "remembered" "I") (by decide +kernel)
  have hw4 := hts (.methodLink RX2 36 Lib.Math.min.name) (by decide +kernel)
  have hw5 := hts (.static Lib.Math.min.name) (by decide +kernel)
  have hw6 := hts (.initialized "java/lang/Math") (by decide +kernel)
  have hw7 := hts (.code Lib.Math.min.name Lib.Math.min.code 2 (some .int)) (by decide +kernel)
  have hw8 := hts (.fieldLink RX2 19 "GlideShelves$Lift" "allTicks" "I") (by decide +kernel)
  have hw9 := hts (.fieldLink RX2 22 "GlideShelves$Lift" "allFetches" "I") (by decide +kernel)
  have hw10 := hts (.fieldLink RX2 9 "GlideShelves$Lift" "slot" "I") (by decide +kernel)
  subst hsz
  have hD := hD0.self (sz := s.heap.size)
  generalize hAe : va_A (wX2 cI cZ a M) s.heap.size = A at hD ⊢
  have hA : ∀ q : Nat, s.heap.size ≤ q → A q := fun q h => by rw [← hAe]; exact Or.inr h
  have hS : va_S A s.heap s.heap [] := va_S.rf
  have hfX2_go_L4 : ∀ (n : Nat) (kx47 : Mem → Int32 → Int32 → Int32 → Option (Mem)) (hkx47 : ∀ (N : Mem) (l1 : Int32) (l2 : Int32) (l3 : Int32), kx47 N l1 l2 l3 = some z → ∀ (ls : Array Slot), lv_has ls 5 [(0, .ref (a 0)), (1, .int l1), (2, .int l2), (3, .int l3)] → ∀ (H : Heap) (locs : List Loc), va_P (dC, dI) vwCl (wX2 cI cZ a (sr (sr (sr M 0 (N 0)) 1 (N 1)) 2 (N 2))) H → va_D A (wX2 cI cZ a (sr (sr (sr M 0 (N 0)) 1 (N 1)) 2 (N 2))) → va_S A s.heap H locs → W p l e (headSpec wsX2_go ({ frames := 1, cells := 0, slots := 0, locals := 40 } : Room)).room s m ([.ref (a 0), .int a1, .int a2, .int a3] : List Value).toArray below meth c H locs 0 0 (MQ below (va_Qv (S := Unit) (fun _ => True) (fun _ t => WE (dC, dI) cI cZ (wX2 cI cZ a (sr (sr (sr M 0 (z 0)) 1 (z 1)) 2 (z 2))) A t) A) ([.ref (a 0), .int a1, .int a2, .int a3] : List Value).toArray s 0 0 A) (F0 m 47 ls [])), ∀ (N : Mem) (l1 : Int32) (l2 : Int32) (l3 : Int32) (l4 : Int32), fX2_go_L4 M n kx47 N l1 l2 l3 l4 = some z → ∀ (ls : Array Slot), lv_has ls 5 [(0, .ref (a 0)), (1, .int l1), (2, .int l2), (3, .int l3), (4, .int l4)] → ∀ (H : Heap) (locs : List Loc), va_P (dC, dI) vwCl (wX2 cI cZ a (sr (sr (sr M 0 (N 0)) 1 (N 1)) 2 (N 2))) H → va_D A (wX2 cI cZ a (sr (sr (sr M 0 (N 0)) 1 (N 1)) 2 (N 2))) → va_S A s.heap H locs → W p l e (headSpec wsX2_go ({ frames := 1, cells := 0, slots := 0, locals := 40 } : Room)).room s m ([.ref (a 0), .int a1, .int a2, .int a3] : List Value).toArray below meth c H locs 0 0 (MQ below (va_Qv (S := Unit) (fun _ => True) (fun _ t => WE (dC, dI) cI cZ (wX2 cI cZ a (sr (sr (sr M 0 (z 0)) 1 (z 1)) 2 (z 2))) A t) A) ([.ref (a 0), .int a1, .int a2, .int a3] : List Value).toArray s 0 0 A) (F0 m 4 ls []) := by
    intro n
    induction n with
    | zero =>
      intro kx47 hkx47 N l1 l2 l3 l4 hf ls hl H locs hP hD hS
      rw [fX2_go_L4] at hf
      cases hf
    | succ n ih =>
      intro kx47 hkx47 N l1 l2 l3 l4 hf ls hl H locs hP hD hS
      rw [fX2_go_L4] at hf
      refine lv_iload hx hb dX2_go_4 (lv_at hl 4 rfl) ?_
      refine lv_if_le (tgt := 47) hx hb dX2_go_6 (by decide) (fun c9 => ?_) (fun c9 => ?_)
      · have hf := it_t hf c9
        exact hkx47 (sr (sr (sr M 0 (N 0)) 1 (N 1)) 2 (N 2)) l1 l2 l3 hf _ (lv_sub hl [0, 1, 2, 3] rfl) _ _ hP hD hS
      · have hf := it_f hf c9
        refine lv_aload_n hx hb dX2_go_9 rfl (lv_at hl 0 rfl) ?_
        refine va_get (D := (dC, dI)) (ci := 2) (v := .ref (a 1)) (C := RX2) (T := TX2) (N := 7) hx hb hts hinX2 hown hK hP 0 rfl rfl 5 (by decide) hw1 (fun _ h9 => h9) rfl dX2_go_10 ?_
        refine lv_iload hx hb dX2_go_13 (lv_at hl 4 rfl) ?_
        refine lv_aload_n hx hb dX2_go_15 rfl (lv_at hl 0 rfl) ?_
        refine va_get (D := (dC, dI)) (ci := 2) (v := .ref (a 1)) (C := RX2) (T := TX2) (N := 7) hx hb hts hinX2 hown hK hP 0 rfl rfl 5 (by decide) hw1 (fun _ h9 => h9) rfl dX2_go_16 ?_
        refine lv_iload hx hb dX2_go_19 (lv_at hl 4 rfl) ?_
        refine lv_iconst (v := (1 : Int32)) hx hb dX2_go_21 (by decide) ?_
        refine lv_isub hx hb dX2_go_22 ?_
        obtain ⟨hi, hf⟩ := gd_s hf
        refine va_iald (D := (dC, dI)) (f := (N 1)) hx hb hK hP 1 0 rfl rfl (inb_in hi) dX2_go_23 ?_
        obtain ⟨hi, hf⟩ := gd_s hf
        refine va_iast (D := (dC, dI)) (f := (N 1)) hx hb hK hP hD hS 1 0 rfl rfl (inb_in hi) dX2_go_24 (fun H locs hP hD hS => ?_)
        have hP : va_P (dC, dI) vwCl (wX2 cI cZ a (sr (sr (sr M 0 (N 0)) 1 (upd (N 1) l4.toNatClampNeg (N 1 (l4 - (1 : Int32)).toNatClampNeg))) 2 (N 2))) H := hP
        have hD : va_D A (wX2 cI cZ a (sr (sr (sr M 0 (N 0)) 1 (upd (N 1) l4.toNatClampNeg (N 1 (l4 - (1 : Int32)).toNatClampNeg))) 2 (N 2))) := hD
        refine lv_aload_n hx hb dX2_go_25 rfl (lv_at hl 0 rfl) ?_
        refine va_get (D := (dC, dI)) (ci := 2) (v := .ref (a 2)) (C := RX2) (T := TX2) (N := 7) hx hb hts hinX2 hown hK hP 0 rfl rfl 6 (by decide) hw2 (fun _ h9 => h9) rfl dX2_go_26 ?_
        refine lv_iload hx hb dX2_go_29 (lv_at hl 4 rfl) ?_
        refine lv_aload_n hx hb dX2_go_31 rfl (lv_at hl 0 rfl) ?_
        refine va_get (D := (dC, dI)) (ci := 2) (v := .ref (a 2)) (C := RX2) (T := TX2) (N := 7) hx hb hts hinX2 hown hK hP 0 rfl rfl 6 (by decide) hw2 (fun _ h9 => h9) rfl dX2_go_32 ?_
        refine lv_iload hx hb dX2_go_35 (lv_at hl 4 rfl) ?_
        refine lv_iconst (v := (1 : Int32)) hx hb dX2_go_37 (by decide) ?_
        refine lv_isub hx hb dX2_go_38 ?_
        obtain ⟨hi, hf⟩ := gd_s hf
        refine va_zald (D := (dC, dI)) (f := (N 2)) hx hb hK hP 2 1 rfl rfl (inb_in hi) dX2_go_39 ?_
        obtain ⟨hi, hf⟩ := gd_s hf
        obtain ⟨hz, hf⟩ := gd_s hf
        refine va_zast (D := (dC, dI)) (f := (N 2)) hx hb hK hP hD hS 2 1 rfl rfl (inb_in hi) dX2_go_40 (fun H locs hP hD hS => ?_)
        rw [isb_vnar hz] at hP hD
        have hP : va_P (dC, dI) vwCl (wX2 cI cZ a (sr (sr (sr M 0 (N 0)) 1 (upd (N 1) l4.toNatClampNeg (N 1 (l4 - (1 : Int32)).toNatClampNeg))) 2 (upd (N 2) l4.toNatClampNeg (N 2 (l4 - (1 : Int32)).toNatClampNeg)))) H := hP
        have hD : va_D A (wX2 cI cZ a (sr (sr (sr M 0 (N 0)) 1 (upd (N 1) l4.toNatClampNeg (N 1 (l4 - (1 : Int32)).toNatClampNeg))) 2 (upd (N 2) l4.toNatClampNeg (N 2 (l4 - (1 : Int32)).toNatClampNeg)))) := hD
        refine lv_iinc (v := (l4 + (-1 : Int32))) (lv' := [(4, .int (l4 + (-1 : Int32))), (0, .ref (a 0)), (1, .int l1), (2, .int l2), (3, .int l3)]) hx hb dX2_go_41 hl (k := 4) rfl rfl (by decide) rfl (fun ls hl => ?_)
        refine lv_goto (tgt := 4) hx hb dX2_go_44 (by decide) ?_
        exact ih kx47 hkx47 (sr (sr (sr M 0 (N 0)) 1 (upd (N 1) l4.toNatClampNeg (N 1 (l4 - (1 : Int32)).toNatClampNeg))) 2 (upd (N 2) l4.toNatClampNeg (N 2 (l4 - (1 : Int32)).toNatClampNeg))) l1 l2 l3 (l4 + (-1 : Int32)) hf _ (lv_sub hl [1, 2, 3, 4, 0] rfl) _ _ hP hD hS
  have hfX2_go_B100 : ∀ (N : Mem) (l3 : Int32) (s1 : Int32) (s2 : Int32), fX2_go_B100 M  N l3 s1 s2 = some z → ∀ (ls : Array Slot), lv_has ls 5 [(0, .ref (a 0)), (3, .int l3)] → ∀ (H : Heap) (locs : List Loc), va_P (dC, dI) vwCl (wX2 cI cZ a (sr (sr (sr M 0 (N 0)) 1 (N 1)) 2 (N 2))) H → va_D A (wX2 cI cZ a (sr (sr (sr M 0 (N 0)) 1 (N 1)) 2 (N 2))) → va_S A s.heap H locs → W p l e (headSpec wsX2_go ({ frames := 1, cells := 0, slots := 0, locals := 40 } : Room)).room s m ([.ref (a 0), .int a1, .int a2, .int a3] : List Value).toArray below meth c H locs 0 0 (MQ below (va_Qv (S := Unit) (fun _ => True) (fun _ t => WE (dC, dI) cI cZ (wX2 cI cZ a (sr (sr (sr M 0 (z 0)) 1 (z 1)) 2 (z 2))) A t) A) ([.ref (a 0), .int a1, .int a2, .int a3] : List Value).toArray s 0 0 A) (F0 m 100 ls [.int s2, .int s1, .ref (a 0)]) := by
    intro  N l3 s1 s2 hf ls hl H locs hP hD hS
    unfold fX2_go_B100 at hf
    refine lv_iadd hx hb dX2_go_100 ?_
    refine va_put (D := (dC, dI)) (ci := 2) (v := .int (s1 + s2)) (ty := .int) (C := RX2) (T := TX2) (N := 7) hx hb hts hinX2 tyX2 tyX2_ok nmX2 hown hK hP hD hS 0 rfl rfl 3 (by decide) hw9 (fun _ h9 => h9) rfl (by decide +kernel) rfl rfl (Nat.le_of_ble_eq_true rfl) dX2_go_101 (fun H locs hP hD hS => ?_)
    have hP : va_P (dC, dI) vwCl (wX2 cI cZ a (sr (sr (sr M 0 (upd (N 0) 3 (s1 + s2))) 1 (N 1)) 2 (N 2))) H := hP
    have hD : va_D A (wX2 cI cZ a (sr (sr (sr M 0 (upd (N 0) 3 (s1 + s2))) 1 (N 1)) 2 (N 2))) := hD
    refine lv_aload_n hx hb dX2_go_104 rfl (lv_at hl 0 rfl) ?_
    refine lv_iload_n hx hb dX2_go_105 rfl (lv_at hl 1 rfl) ?_
    refine va_put (D := (dC, dI)) (ci := 2) (v := .int l3) (ty := .int) (C := RX2) (T := TX2) (N := 7) hx hb hts hinX2 tyX2 tyX2_ok nmX2 hown hK hP hD hS 0 rfl rfl 0 (by decide) hw10 (fun _ h9 => h9) rfl (by decide +kernel) rfl rfl (Nat.le_of_ble_eq_true rfl) dX2_go_106 (fun H locs hP hD hS => ?_)
    have hP : va_P (dC, dI) vwCl (wX2 cI cZ a (sr (sr (sr M 0 (upd (upd (N 0) 3 (s1 + s2)) 0 l3)) 1 (N 1)) 2 (N 2))) H := hP
    have hD : va_D A (wX2 cI cZ a (sr (sr (sr M 0 (upd (upd (N 0) 3 (s1 + s2)) 0 l3)) 1 (N 1)) 2 (N 2))) := hD
    have e9 := so_e hf
    subst e9
    exact W.vret hx hb hr (fun t ht hW => ⟨⟨(), rfl, trivial, WE.mk hP hD ht⟩, hS.F ht⟩) hS.2.2 dX2_go_109
  have hl := lv_entry ([.ref (a 0), .int a1, .int a2, .int a3]) (n := 5) (Nat.le_of_ble_eq_true rfl)
  rw [lg_entry_eq]
  generalize (lg_sl ([.ref (a 0), .int a1, .int a2, .int a3]) ++ List.replicate (5 - (lg_sl ([.ref (a 0), .int a1, .int a2, .int a3])).length) Slot.unset).toArray = ls at hl ⊢
  have hl : lv_has ls 5 [(0, .ref (a 0)), (1, .int a1), (2, .int a2), (3, .int a3)] := hl
  unfold fX2_go at hf
  suffices hgo : ∀ (H : Heap) (locs : List Loc), va_P (dC, dI) vwCl (wX2 cI cZ a M) H → va_D A (wX2 cI cZ a M) → va_S A s.heap H locs → W p l e (headSpec wsX2_go ({ frames := 1, cells := 0, slots := 0, locals := 40 } : Room)).room s m ([.ref (a 0), .int a1, .int a2, .int a3] : List Value).toArray below meth c H locs 0 0 (MQ below (va_Qv (S := Unit) (fun _ => True) (fun _ t => WE (dC, dI) cI cZ (wX2 cI cZ a (sr (sr (sr M 0 (z 0)) 1 (z 1)) 2 (z 2))) A t) A) ([.ref (a 0), .int a1, .int a2, .int a3] : List Value).toArray s 0 0 A) (F0 m 0 ls []) from hgo _ _ hP hD hS
  intro H locs hP hD hS
  refine lv_bipush (v := (7 : Int32)) hx hb dX2_go_0 (by decide) ?_
  refine lv_istore (lv' := [(4, .int (7 : Int32)), (0, .ref (a 0)), (1, .int a1), (2, .int a2), (3, .int a3)]) hx hb dX2_go_2 hl (by decide) rfl (fun ls hl => ?_)
  refine hfX2_go_L4 5000 _ (fun N l1 l2 l3 hf ls hl H locs hP hD hS => ?_) M a1 a2 a3 (7 : Int32) hf _ (lv_sub hl [1, 2, 3, 4, 0] rfl) _ _ hP hD hS
  refine lv_aload_n hx hb dX2_go_47 rfl (lv_at hl 0 rfl) ?_
  refine va_get (D := (dC, dI)) (ci := 2) (v := .ref (a 1)) (C := RX2) (T := TX2) (N := 7) hx hb hts hinX2 hown hK hP 0 rfl rfl 5 (by decide) hw1 (fun _ h9 => h9) rfl dX2_go_48 ?_
  refine lv_iconst (v := (0 : Int32)) hx hb dX2_go_51 (by decide) ?_
  refine lv_iload_n hx hb dX2_go_52 rfl (lv_at hl 1 rfl) ?_
  obtain ⟨hi, hf⟩ := gd_s hf
  refine va_iast (D := (dC, dI)) (f := (N 1)) hx hb hK hP hD hS 1 0 rfl rfl (inb_in hi) dX2_go_53 (fun H locs hP hD hS => ?_)
  have hP : va_P (dC, dI) vwCl (wX2 cI cZ a (sr (sr (sr M 0 (N 0)) 1 (upd (N 1) (0 : Int32).toNatClampNeg l1)) 2 (N 2))) H := hP
  have hD : va_D A (wX2 cI cZ a (sr (sr (sr M 0 (N 0)) 1 (upd (N 1) (0 : Int32).toNatClampNeg l1)) 2 (N 2))) := hD
  refine lv_aload_n hx hb dX2_go_54 rfl (lv_at hl 0 rfl) ?_
  refine va_get (D := (dC, dI)) (ci := 2) (v := .ref (a 2)) (C := RX2) (T := TX2) (N := 7) hx hb hts hinX2 hown hK hP 0 rfl rfl 6 (by decide) hw2 (fun _ h9 => h9) rfl dX2_go_55 ?_
  refine lv_iconst (v := (0 : Int32)) hx hb dX2_go_58 (by decide) ?_
  refine lv_iload_n hx hb dX2_go_59 rfl (lv_at hl 2 rfl) ?_
  obtain ⟨hi, hf⟩ := gd_s hf
  obtain ⟨hz, hf⟩ := gd_s hf
  refine va_zast (D := (dC, dI)) (f := (N 2)) hx hb hK hP hD hS 2 1 rfl rfl (inb_in hi) dX2_go_60 (fun H locs hP hD hS => ?_)
  rw [isb_vnar hz] at hP hD
  have hP : va_P (dC, dI) vwCl (wX2 cI cZ a (sr (sr (sr M 0 (N 0)) 1 (upd (N 1) (0 : Int32).toNatClampNeg l1)) 2 (upd (N 2) (0 : Int32).toNatClampNeg l2))) H := hP
  have hD : va_D A (wX2 cI cZ a (sr (sr (sr M 0 (N 0)) 1 (upd (N 1) (0 : Int32).toNatClampNeg l1)) 2 (upd (N 2) (0 : Int32).toNatClampNeg l2))) := hD
  refine lv_aload_n hx hb dX2_go_61 rfl (lv_at hl 0 rfl) ?_
  refine lv_aload_n hx hb dX2_go_62 rfl (lv_at hl 0 rfl) ?_
  refine va_get (D := (dC, dI)) (ci := 2) (v := .int (N 0 4)) (C := RX2) (T := TX2) (N := 7) hx hb hts hinX2 hown hK hP 0 rfl rfl 4 (by decide) hw3 (fun _ h9 => h9) rfl dX2_go_63 ?_
  refine lv_iconst (v := (1 : Int32)) hx hb dX2_go_66 (by decide) ?_
  refine lv_iadd hx hb dX2_go_67 ?_
  refine lv_bipush (v := (8 : Int32)) hx hb dX2_go_68 (by decide) ?_
  refine va_mmin hx hb (hml.trans hl.1.symm) hown hw4 hw5 hw6 hw7 (Nat.le_of_ble_eq_true rfl) (Nat.le_of_ble_eq_true rfl) (Nat.le_of_ble_eq_true rfl) (Nat.le_of_ble_eq_true rfl) dX2_go_70 ?_
  refine va_put (D := (dC, dI)) (ci := 2) (v := .int (if (8 : Int32) < ((N 0 4) + (1 : Int32)) then (8 : Int32) else ((N 0 4) + (1 : Int32)))) (ty := .int) (C := RX2) (T := TX2) (N := 7) hx hb hts hinX2 tyX2 tyX2_ok nmX2 hown hK hP hD hS 0 rfl rfl 4 (by decide) hw3 (fun _ h9 => h9) rfl (by decide +kernel) rfl rfl (Nat.le_of_ble_eq_true rfl) dX2_go_73 (fun H locs hP hD hS => ?_)
  have hP : va_P (dC, dI) vwCl (wX2 cI cZ a (sr (sr (sr M 0 (upd (N 0) 4 (if (8 : Int32) < ((N 0 4) + (1 : Int32)) then (8 : Int32) else ((N 0 4) + (1 : Int32))))) 1 (upd (N 1) (0 : Int32).toNatClampNeg l1)) 2 (upd (N 2) (0 : Int32).toNatClampNeg l2))) H := hP
  have hD : va_D A (wX2 cI cZ a (sr (sr (sr M 0 (upd (N 0) 4 (if (8 : Int32) < ((N 0 4) + (1 : Int32)) then (8 : Int32) else ((N 0 4) + (1 : Int32))))) 1 (upd (N 1) (0 : Int32).toNatClampNeg l1)) 2 (upd (N 2) (0 : Int32).toNatClampNeg l2))) := hD
  refine lv_aload_n hx hb dX2_go_76 rfl (lv_at hl 0 rfl) ?_
  refine lv_dup hx hb dX2_go_77 rfl ?_
  refine va_get (D := (dC, dI)) (ci := 2) (v := .int (N 0 2)) (C := RX2) (T := TX2) (N := 7) hx hb hts hinX2 hown hK hP 0 rfl rfl 2 (by decide) hw8 (fun _ h9 => h9) rfl dX2_go_78 ?_
  refine lv_iload_n hx hb dX2_go_81 rfl (lv_at hl 1 rfl) ?_
  refine lv_iadd hx hb dX2_go_82 ?_
  refine va_put (D := (dC, dI)) (ci := 2) (v := .int ((N 0 2) + l1)) (ty := .int) (C := RX2) (T := TX2) (N := 7) hx hb hts hinX2 tyX2 tyX2_ok nmX2 hown hK hP hD hS 0 rfl rfl 2 (by decide) hw8 (fun _ h9 => h9) rfl (by decide +kernel) rfl rfl (Nat.le_of_ble_eq_true rfl) dX2_go_83 (fun H locs hP hD hS => ?_)
  have hP : va_P (dC, dI) vwCl (wX2 cI cZ a (sr (sr (sr M 0 (upd (upd (N 0) 4 (if (8 : Int32) < ((N 0 4) + (1 : Int32)) then (8 : Int32) else ((N 0 4) + (1 : Int32)))) 2 ((N 0 2) + l1))) 1 (upd (N 1) (0 : Int32).toNatClampNeg l1)) 2 (upd (N 2) (0 : Int32).toNatClampNeg l2))) H := hP
  have hD : va_D A (wX2 cI cZ a (sr (sr (sr M 0 (upd (upd (N 0) 4 (if (8 : Int32) < ((N 0 4) + (1 : Int32)) then (8 : Int32) else ((N 0 4) + (1 : Int32)))) 2 ((N 0 2) + l1))) 1 (upd (N 1) (0 : Int32).toNatClampNeg l1)) 2 (upd (N 2) (0 : Int32).toNatClampNeg l2))) := hD
  refine lv_aload_n hx hb dX2_go_86 rfl (lv_at hl 0 rfl) ?_
  refine lv_dup hx hb dX2_go_87 rfl ?_
  refine va_get (D := (dC, dI)) (ci := 2) (v := .int (N 0 3)) (C := RX2) (T := TX2) (N := 7) hx hb hts hinX2 hown hK hP 0 rfl rfl 3 (by decide) hw9 (fun _ h9 => h9) rfl dX2_go_88 ?_
  refine lv_iload_n hx hb dX2_go_91 rfl (lv_at hl 2 rfl) ?_
  refine lv_if_eq (tgt := 99) hx hb dX2_go_92 (by decide) (fun c9 => ?_) (fun c9 => ?_)
  · have hf := it_t hf c9
    refine lv_iconst (v := (0 : Int32)) hx hb dX2_go_99 (by decide) ?_
    exact hfX2_go_B100  (sr (sr (sr M 0 (upd (upd (N 0) 4 (if (8 : Int32) < ((N 0 4) + (1 : Int32)) then (8 : Int32) else ((N 0 4) + (1 : Int32)))) 2 ((N 0 2) + l1))) 1 (upd (N 1) (0 : Int32).toNatClampNeg l1)) 2 (upd (N 2) (0 : Int32).toNatClampNeg l2)) l3 (N 0 3) (0 : Int32) hf _ (lv_sub hl [0, 3] rfl) _ _ hP hD hS
  · have hf := it_f hf c9
    refine lv_iconst (v := (1 : Int32)) hx hb dX2_go_95 (by decide) ?_
    refine lv_goto (tgt := 100) hx hb dX2_go_96 (by decide) ?_
    exact hfX2_go_B100  (sr (sr (sr M 0 (upd (upd (N 0) 4 (if (8 : Int32) < ((N 0 4) + (1 : Int32)) then (8 : Int32) else ((N 0 4) + (1 : Int32)))) 2 ((N 0 2) + l1))) 1 (upd (N 1) (0 : Int32).toNatClampNeg l1)) 2 (upd (N 2) (0 : Int32).toNatClampNeg l2)) l3 (N 0 3) (1 : Int32) hf _ (lv_sub hl [0, 3] rfl) _ _ hP hD hS
set_option maxHeartbeats 4000000 in
set_option maxRecDepth 100000 in
theorem c_X0_copyFrom (l : Launch) (dC : Nat → ClassId) (dI : Nat → Nat → Nat) (cI cZ : ClassId) (a : Nat → Nat) (sz : Nat) (M : Mem) (z : Mem) (hf : fX0_copyFrom M  = some z) : Met l yX0_copyFrom wsX0_copyFrom ({ frames := 1, cells := 0, slots := 0, locals := 60 } : Room) (va_Pc [.ref (a 0), .ref (a 5)] (WR (dC, dI) cI cZ (wX0_copyFrom cI cZ a M) sz)) (va_Qv (S := Unit) (fun _ => True) (fun _ t => WE (dC, dI) cI cZ (wX0_copyFrom cI cZ a (sr (sr (sr (sr M 1 (z 1)) 2 (z 2)) 3 (z 3)) 4 (z 4))) (va_A (wX0_copyFrom cI cZ a M) sz) t) (va_A (wX0_copyFrom cI cZ a M) sz)) 0 0 (va_A (wX0_copyFrom cI cZ a M) sz) := by
  refine Met.ofW (cc := cX0_copyFrom) (maxL := 2) (ret := none) (by decide) rfl ?_
  intro p e s m args below meth c s₁ B hml hv
  obtain ⟨rfl, hsz, hP, hK, hD0, hNW⟩ := hv
  have hx := B.exec
  have hb := B.bytes
  have hr := B.returns
  have hts := atoms_spec (ws := wsX0_copyFrom) B.pre
  have hown : s.vm.findClass RX0 = some m.cls := findClass_of_methodNamed B.named
  have hlocks := B.notSynchronized
  have hinX0 : ∀ w ∈ u_ws RX0 TX0 4, w ∈ wsX0_copyFrom := by decide +kernel
  have hw1 := hts (.fieldLink RX0 9 "GlideShelves$Goods" "weights" "[I") (by decide +kernel)
  have hw2 := hts (.methodLink RX0 24 arraycopyName) (by decide +kernel)
  have hw3 := hts (.native arraycopyName) (by decide +kernel)
  have hw4 := hts (.static arraycopyName) (by decide +kernel)
  have hw5 := hts (.initialized "java/lang/System") (by decide +kernel)
  have hw6 := hts (.fieldLink RX0 15 "GlideShelves$Goods" "leasts" "[I") (by decide +kernel)
  have hw7 := hts (.fieldLink RX0 18 "GlideShelves$Goods" "filledIn" "[I") (by decide +kernel)
  have hw8 := hts (.fieldLink RX0 21 "GlideShelves$Goods" "takenOut" "[I") (by decide +kernel)
  subst hsz
  have hD := hD0.self (sz := s.heap.size)
  generalize hAe : va_A (wX0_copyFrom cI cZ a M) s.heap.size = A at hD ⊢
  have hA : ∀ q : Nat, s.heap.size ≤ q → A q := fun q h => by rw [← hAe]; exact Or.inr h
  have hS : va_S A s.heap s.heap [] := va_S.rf
  have hl := lv_entry ([.ref (a 0), .ref (a 5)]) (n := 2) (Nat.le_of_ble_eq_true rfl)
  rw [lg_entry_eq]
  generalize (lg_sl ([.ref (a 0), .ref (a 5)]) ++ List.replicate (2 - (lg_sl ([.ref (a 0), .ref (a 5)])).length) Slot.unset).toArray = ls at hl ⊢
  have hl : lv_has ls 2 [(0, .ref (a 0)), (1, .ref (a 5))] := hl
  unfold fX0_copyFrom at hf
  suffices hgo : ∀ (H : Heap) (locs : List Loc), va_P (dC, dI) vwCl (wX0_copyFrom cI cZ a M) H → va_D A (wX0_copyFrom cI cZ a M) → va_S A s.heap H locs → W p l e (headSpec wsX0_copyFrom ({ frames := 1, cells := 0, slots := 0, locals := 60 } : Room)).room s m ([.ref (a 0), .ref (a 5)] : List Value).toArray below meth c H locs 0 0 (MQ below (va_Qv (S := Unit) (fun _ => True) (fun _ t => WE (dC, dI) cI cZ (wX0_copyFrom cI cZ a (sr (sr (sr (sr M 1 (z 1)) 2 (z 2)) 3 (z 3)) 4 (z 4))) A t) A) ([.ref (a 0), .ref (a 5)] : List Value).toArray s 0 0 A) (F0 m 0 ls []) from hgo _ _ hP hD hS
  intro H locs hP hD hS
  refine lv_aload_n hx hb dX0_copyFrom_0 rfl (lv_at hl 1 rfl) ?_
  refine va_get (D := (dC, dI)) (ci := 0) (v := .ref (a 6)) (C := RX0) (T := TX0) (N := 4) hx hb hts hinX0 hown hK hP 5 rfl rfl 0 (by decide) hw1 (fun _ h9 => h9) rfl dX0_copyFrom_1 ?_
  refine lv_iconst (v := (0 : Int32)) hx hb dX0_copyFrom_4 (by decide) ?_
  refine lv_aload_n hx hb dX0_copyFrom_5 rfl (lv_at hl 0 rfl) ?_
  refine va_get (D := (dC, dI)) (ci := 0) (v := .ref (a 1)) (C := RX0) (T := TX0) (N := 4) hx hb hts hinX0 hown hK hP 0 rfl rfl 0 (by decide) hw1 (fun _ h9 => h9) rfl dX0_copyFrom_6 ?_
  refine lv_iconst (v := (0 : Int32)) hx hb dX0_copyFrom_9 (by decide) ?_
  refine lv_bipush (v := (10 : Int32)) hx hb dX0_copyFrom_10 (by decide) ?_
  obtain ⟨hz, hf⟩ := gd_s hf
  obtain ⟨h1, h2, h3, h4, h5⟩ := cpk_s hz
  refine va_copyi (D := (dC, dI)) (f := (M 6)) (g := (M 1)) (ty := .int) hx hb (hml.trans hl.1.symm) hown hw2 hw3 hw4 hw5 hK hP hD hS 6 1 0 0 rfl rfl rfl rfl rfl h1 h2 h3 h4 h5 (fun _ _ => rfl) (Nat.le_of_ble_eq_true rfl) (by decide +kernel) dX0_copyFrom_12 (fun H locs hP hD hS => ?_)
  have hP : va_P (dC, dI) vwCl (wX0_copyFrom cI cZ a (sr M 1 (va_cpy (M 6) (M 1) (0 : Int32).toNatClampNeg (0 : Int32).toNatClampNeg (10 : Int32).toNatClampNeg))) H := hP
  have hD : va_D A (wX0_copyFrom cI cZ a (sr M 1 (va_cpy (M 6) (M 1) (0 : Int32).toNatClampNeg (0 : Int32).toNatClampNeg (10 : Int32).toNatClampNeg))) := hD
  refine lv_aload_n hx hb dX0_copyFrom_15 rfl (lv_at hl 1 rfl) ?_
  refine va_get (D := (dC, dI)) (ci := 0) (v := .ref (a 7)) (C := RX0) (T := TX0) (N := 4) hx hb hts hinX0 hown hK hP 5 rfl rfl 1 (by decide) hw6 (fun _ h9 => h9) rfl dX0_copyFrom_16 ?_
  refine lv_iconst (v := (0 : Int32)) hx hb dX0_copyFrom_19 (by decide) ?_
  refine lv_aload_n hx hb dX0_copyFrom_20 rfl (lv_at hl 0 rfl) ?_
  refine va_get (D := (dC, dI)) (ci := 0) (v := .ref (a 2)) (C := RX0) (T := TX0) (N := 4) hx hb hts hinX0 hown hK hP 0 rfl rfl 1 (by decide) hw6 (fun _ h9 => h9) rfl dX0_copyFrom_21 ?_
  refine lv_iconst (v := (0 : Int32)) hx hb dX0_copyFrom_24 (by decide) ?_
  refine lv_bipush (v := (10 : Int32)) hx hb dX0_copyFrom_25 (by decide) ?_
  obtain ⟨hz, hf⟩ := gd_s hf
  obtain ⟨h1, h2, h3, h4, h5⟩ := cpk_s hz
  refine va_copyi (D := (dC, dI)) (f := (M 7)) (g := (M 2)) (ty := .int) hx hb (hml.trans hl.1.symm) hown hw2 hw3 hw4 hw5 hK hP hD hS 7 2 0 0 rfl rfl rfl rfl rfl h1 h2 h3 h4 h5 (fun _ _ => rfl) (Nat.le_of_ble_eq_true rfl) (by decide +kernel) dX0_copyFrom_27 (fun H locs hP hD hS => ?_)
  have hP : va_P (dC, dI) vwCl (wX0_copyFrom cI cZ a (sr (sr M 1 (va_cpy (M 6) (M 1) (0 : Int32).toNatClampNeg (0 : Int32).toNatClampNeg (10 : Int32).toNatClampNeg)) 2 (va_cpy (M 7) (M 2) (0 : Int32).toNatClampNeg (0 : Int32).toNatClampNeg (10 : Int32).toNatClampNeg))) H := hP
  have hD : va_D A (wX0_copyFrom cI cZ a (sr (sr M 1 (va_cpy (M 6) (M 1) (0 : Int32).toNatClampNeg (0 : Int32).toNatClampNeg (10 : Int32).toNatClampNeg)) 2 (va_cpy (M 7) (M 2) (0 : Int32).toNatClampNeg (0 : Int32).toNatClampNeg (10 : Int32).toNatClampNeg))) := hD
  refine lv_aload_n hx hb dX0_copyFrom_30 rfl (lv_at hl 1 rfl) ?_
  refine va_get (D := (dC, dI)) (ci := 0) (v := .ref (a 8)) (C := RX0) (T := TX0) (N := 4) hx hb hts hinX0 hown hK hP 5 rfl rfl 2 (by decide) hw7 (fun _ h9 => h9) rfl dX0_copyFrom_31 ?_
  refine lv_iconst (v := (0 : Int32)) hx hb dX0_copyFrom_34 (by decide) ?_
  refine lv_aload_n hx hb dX0_copyFrom_35 rfl (lv_at hl 0 rfl) ?_
  refine va_get (D := (dC, dI)) (ci := 0) (v := .ref (a 3)) (C := RX0) (T := TX0) (N := 4) hx hb hts hinX0 hown hK hP 0 rfl rfl 2 (by decide) hw7 (fun _ h9 => h9) rfl dX0_copyFrom_36 ?_
  refine lv_iconst (v := (0 : Int32)) hx hb dX0_copyFrom_39 (by decide) ?_
  refine lv_bipush (v := (10 : Int32)) hx hb dX0_copyFrom_40 (by decide) ?_
  obtain ⟨hz, hf⟩ := gd_s hf
  obtain ⟨h1, h2, h3, h4, h5⟩ := cpk_s hz
  refine va_copyi (D := (dC, dI)) (f := (M 8)) (g := (M 3)) (ty := .int) hx hb (hml.trans hl.1.symm) hown hw2 hw3 hw4 hw5 hK hP hD hS 8 3 0 0 rfl rfl rfl rfl rfl h1 h2 h3 h4 h5 (fun _ _ => rfl) (Nat.le_of_ble_eq_true rfl) (by decide +kernel) dX0_copyFrom_42 (fun H locs hP hD hS => ?_)
  have hP : va_P (dC, dI) vwCl (wX0_copyFrom cI cZ a (sr (sr (sr M 1 (va_cpy (M 6) (M 1) (0 : Int32).toNatClampNeg (0 : Int32).toNatClampNeg (10 : Int32).toNatClampNeg)) 2 (va_cpy (M 7) (M 2) (0 : Int32).toNatClampNeg (0 : Int32).toNatClampNeg (10 : Int32).toNatClampNeg)) 3 (va_cpy (M 8) (M 3) (0 : Int32).toNatClampNeg (0 : Int32).toNatClampNeg (10 : Int32).toNatClampNeg))) H := hP
  have hD : va_D A (wX0_copyFrom cI cZ a (sr (sr (sr M 1 (va_cpy (M 6) (M 1) (0 : Int32).toNatClampNeg (0 : Int32).toNatClampNeg (10 : Int32).toNatClampNeg)) 2 (va_cpy (M 7) (M 2) (0 : Int32).toNatClampNeg (0 : Int32).toNatClampNeg (10 : Int32).toNatClampNeg)) 3 (va_cpy (M 8) (M 3) (0 : Int32).toNatClampNeg (0 : Int32).toNatClampNeg (10 : Int32).toNatClampNeg))) := hD
  refine lv_aload_n hx hb dX0_copyFrom_45 rfl (lv_at hl 1 rfl) ?_
  refine va_get (D := (dC, dI)) (ci := 0) (v := .ref (a 9)) (C := RX0) (T := TX0) (N := 4) hx hb hts hinX0 hown hK hP 5 rfl rfl 3 (by decide) hw8 (fun _ h9 => h9) rfl dX0_copyFrom_46 ?_
  refine lv_iconst (v := (0 : Int32)) hx hb dX0_copyFrom_49 (by decide) ?_
  refine lv_aload_n hx hb dX0_copyFrom_50 rfl (lv_at hl 0 rfl) ?_
  refine va_get (D := (dC, dI)) (ci := 0) (v := .ref (a 4)) (C := RX0) (T := TX0) (N := 4) hx hb hts hinX0 hown hK hP 0 rfl rfl 3 (by decide) hw8 (fun _ h9 => h9) rfl dX0_copyFrom_51 ?_
  refine lv_iconst (v := (0 : Int32)) hx hb dX0_copyFrom_54 (by decide) ?_
  refine lv_bipush (v := (10 : Int32)) hx hb dX0_copyFrom_55 (by decide) ?_
  obtain ⟨hz, hf⟩ := gd_s hf
  obtain ⟨h1, h2, h3, h4, h5⟩ := cpk_s hz
  refine va_copyi (D := (dC, dI)) (f := (M 9)) (g := (M 4)) (ty := .int) hx hb (hml.trans hl.1.symm) hown hw2 hw3 hw4 hw5 hK hP hD hS 9 4 0 0 rfl rfl rfl rfl rfl h1 h2 h3 h4 h5 (fun _ _ => rfl) (Nat.le_of_ble_eq_true rfl) (by decide +kernel) dX0_copyFrom_57 (fun H locs hP hD hS => ?_)
  have hP : va_P (dC, dI) vwCl (wX0_copyFrom cI cZ a (sr (sr (sr (sr M 1 (va_cpy (M 6) (M 1) (0 : Int32).toNatClampNeg (0 : Int32).toNatClampNeg (10 : Int32).toNatClampNeg)) 2 (va_cpy (M 7) (M 2) (0 : Int32).toNatClampNeg (0 : Int32).toNatClampNeg (10 : Int32).toNatClampNeg)) 3 (va_cpy (M 8) (M 3) (0 : Int32).toNatClampNeg (0 : Int32).toNatClampNeg (10 : Int32).toNatClampNeg)) 4 (va_cpy (M 9) (M 4) (0 : Int32).toNatClampNeg (0 : Int32).toNatClampNeg (10 : Int32).toNatClampNeg))) H := hP
  have hD : va_D A (wX0_copyFrom cI cZ a (sr (sr (sr (sr M 1 (va_cpy (M 6) (M 1) (0 : Int32).toNatClampNeg (0 : Int32).toNatClampNeg (10 : Int32).toNatClampNeg)) 2 (va_cpy (M 7) (M 2) (0 : Int32).toNatClampNeg (0 : Int32).toNatClampNeg (10 : Int32).toNatClampNeg)) 3 (va_cpy (M 8) (M 3) (0 : Int32).toNatClampNeg (0 : Int32).toNatClampNeg (10 : Int32).toNatClampNeg)) 4 (va_cpy (M 9) (M 4) (0 : Int32).toNatClampNeg (0 : Int32).toNatClampNeg (10 : Int32).toNatClampNeg))) := hD
  have e9 := so_e hf
  subst e9
  exact W.vret hx hb hr (fun t ht hW => ⟨⟨(), rfl, trivial, WE.mk hP hD ht⟩, hS.F ht⟩) hS.2.2 dX0_copyFrom_60
set_option maxHeartbeats 4000000 in
set_option maxRecDepth 100000 in
theorem c_X3_copyFrom (l : Launch) (dC : Nat → ClassId) (dI : Nat → Nat → Nat) (cI cZ : ClassId) (a : Nat → Nat) (sz : Nat) (M : Mem) (z : Mem) (hf : fX3_copyFrom M  = some z) : Met l yX3_copyFrom wsX3_copyFrom ({ frames := 1, cells := 0, slots := 0, locals := 60 } : Room) (va_Pc [.ref (a 0), .ref (a 2)] (WR (dC, dI) cI cZ (wX3_copyFrom cI cZ a M) sz)) (va_Qv (S := Unit) (fun _ => True) (fun _ t => WE (dC, dI) cI cZ (wX3_copyFrom cI cZ a (sr (sr M 0 (z 0)) 1 (z 1))) (va_A (wX3_copyFrom cI cZ a M) sz) t) (va_A (wX3_copyFrom cI cZ a M) sz)) 0 0 (va_A (wX3_copyFrom cI cZ a M) sz) := by
  refine Met.ofW (cc := cX3_copyFrom) (maxL := 2) (ret := none) (by decide) rfl ?_
  intro p e s m args below meth c s₁ B hml hv
  obtain ⟨rfl, hsz, hP, hK, hD0, hNW⟩ := hv
  have hx := B.exec
  have hb := B.bytes
  have hr := B.returns
  have hts := atoms_spec (ws := wsX3_copyFrom) B.pre
  have hown : s.vm.findClass RX3 = some m.cls := findClass_of_methodNamed B.named
  have hlocks := B.notSynchronized
  have hinX3 : ∀ w ∈ u_ws RX3 TX3 2, w ∈ wsX3_copyFrom := by decide +kernel
  have hw1 := hts (.fieldLink RX3 9 "GlideShelves$OrderBook" "count" "I") (by decide +kernel)
  have hw2 := hts (.fieldLink RX3 15 "GlideShelves$OrderBook" "wants" "[I") (by decide +kernel)
  have hw3 := hts (.methodLink RX3 19 arraycopyName) (by decide +kernel)
  have hw4 := hts (.native arraycopyName) (by decide +kernel)
  have hw5 := hts (.static arraycopyName) (by decide +kernel)
  have hw6 := hts (.initialized "java/lang/System") (by decide +kernel)
  subst hsz
  have hD := hD0.self (sz := s.heap.size)
  generalize hAe : va_A (wX3_copyFrom cI cZ a M) s.heap.size = A at hD ⊢
  have hA : ∀ q : Nat, s.heap.size ≤ q → A q := fun q h => by rw [← hAe]; exact Or.inr h
  have hS : va_S A s.heap s.heap [] := va_S.rf
  have hl := lv_entry ([.ref (a 0), .ref (a 2)]) (n := 2) (Nat.le_of_ble_eq_true rfl)
  rw [lg_entry_eq]
  generalize (lg_sl ([.ref (a 0), .ref (a 2)]) ++ List.replicate (2 - (lg_sl ([.ref (a 0), .ref (a 2)])).length) Slot.unset).toArray = ls at hl ⊢
  have hl : lv_has ls 2 [(0, .ref (a 0)), (1, .ref (a 2))] := hl
  unfold fX3_copyFrom at hf
  suffices hgo : ∀ (H : Heap) (locs : List Loc), va_P (dC, dI) vwCl (wX3_copyFrom cI cZ a M) H → va_D A (wX3_copyFrom cI cZ a M) → va_S A s.heap H locs → W p l e (headSpec wsX3_copyFrom ({ frames := 1, cells := 0, slots := 0, locals := 60 } : Room)).room s m ([.ref (a 0), .ref (a 2)] : List Value).toArray below meth c H locs 0 0 (MQ below (va_Qv (S := Unit) (fun _ => True) (fun _ t => WE (dC, dI) cI cZ (wX3_copyFrom cI cZ a (sr (sr M 0 (z 0)) 1 (z 1))) A t) A) ([.ref (a 0), .ref (a 2)] : List Value).toArray s 0 0 A) (F0 m 0 ls []) from hgo _ _ hP hD hS
  intro H locs hP hD hS
  refine lv_aload_n hx hb dX3_copyFrom_0 rfl (lv_at hl 0 rfl) ?_
  refine lv_aload_n hx hb dX3_copyFrom_1 rfl (lv_at hl 1 rfl) ?_
  refine va_get (D := (dC, dI)) (ci := 3) (v := .int (M 2 0)) (C := RX3) (T := TX3) (N := 2) hx hb hts hinX3 hown hK hP 2 rfl rfl 0 (by decide) hw1 (fun _ h9 => h9) rfl dX3_copyFrom_2 ?_
  refine va_put (D := (dC, dI)) (ci := 3) (v := .int (M 2 0)) (ty := .int) (C := RX3) (T := TX3) (N := 2) hx hb hts hinX3 tyX3 tyX3_ok nmX3 hown hK hP hD hS 0 rfl rfl 0 (by decide) hw1 (fun _ h9 => h9) rfl (by decide +kernel) rfl rfl (Nat.le_of_ble_eq_true rfl) dX3_copyFrom_5 (fun H locs hP hD hS => ?_)
  have hP : va_P (dC, dI) vwCl (wX3_copyFrom cI cZ a (sr M 0 (upd (M 0) 0 (M 2 0)))) H := hP
  have hD : va_D A (wX3_copyFrom cI cZ a (sr M 0 (upd (M 0) 0 (M 2 0)))) := hD
  refine lv_aload_n hx hb dX3_copyFrom_8 rfl (lv_at hl 1 rfl) ?_
  refine va_get (D := (dC, dI)) (ci := 3) (v := .ref (a 3)) (C := RX3) (T := TX3) (N := 2) hx hb hts hinX3 hown hK hP 2 rfl rfl 1 (by decide) hw2 (fun _ h9 => h9) rfl dX3_copyFrom_9 ?_
  refine lv_iconst (v := (0 : Int32)) hx hb dX3_copyFrom_12 (by decide) ?_
  refine lv_aload_n hx hb dX3_copyFrom_13 rfl (lv_at hl 0 rfl) ?_
  refine va_get (D := (dC, dI)) (ci := 3) (v := .ref (a 1)) (C := RX3) (T := TX3) (N := 2) hx hb hts hinX3 hown hK hP 0 rfl rfl 1 (by decide) hw2 (fun _ h9 => h9) rfl dX3_copyFrom_14 ?_
  refine lv_iconst (v := (0 : Int32)) hx hb dX3_copyFrom_17 (by decide) ?_
  refine lv_bipush (v := (80 : Int32)) hx hb dX3_copyFrom_18 (by decide) ?_
  obtain ⟨hz, hf⟩ := gd_s hf
  obtain ⟨h1, h2, h3, h4, h5⟩ := cpk_s hz
  refine va_copyi (D := (dC, dI)) (f := (M 3)) (g := (M 1)) (ty := .int) hx hb (hml.trans hl.1.symm) hown hw3 hw4 hw5 hw6 hK hP hD hS 3 1 0 0 rfl rfl rfl rfl rfl h1 h2 h3 h4 h5 (fun _ _ => rfl) (Nat.le_of_ble_eq_true rfl) (by decide +kernel) dX3_copyFrom_20 (fun H locs hP hD hS => ?_)
  have hP : va_P (dC, dI) vwCl (wX3_copyFrom cI cZ a (sr (sr M 0 (upd (M 0) 0 (M 2 0))) 1 (va_cpy (M 3) (M 1) (0 : Int32).toNatClampNeg (0 : Int32).toNatClampNeg (80 : Int32).toNatClampNeg))) H := hP
  have hD : va_D A (wX3_copyFrom cI cZ a (sr (sr M 0 (upd (M 0) 0 (M 2 0))) 1 (va_cpy (M 3) (M 1) (0 : Int32).toNatClampNeg (0 : Int32).toNatClampNeg (80 : Int32).toNatClampNeg))) := hD
  have e9 := so_e hf
  subst e9
  exact W.vret hx hb hr (fun t ht hW => ⟨⟨(), rfl, trivial, WE.mk hP hD ht⟩, hS.F ht⟩) hS.2.2 dX3_copyFrom_23
set_option maxHeartbeats 4000000 in
set_option maxRecDepth 100000 in
theorem c_X3_add (l : Launch) (dC : Nat → ClassId) (dI : Nat → Nat → Nat) (cI cZ : ClassId) (a : Nat → Nat) (sz : Nat) (M : Mem) (z : Int32 × Mem) (hf : fX3_add M  = some z) : Met l yX3_add wsX3_add ({ frames := 0, cells := 0, slots := 0, locals := 0 } : Room) (va_Pc [.ref (a 0), .ref (a 2)] (WR (dC, dI) cI cZ (wX3_add cI cZ a M) sz)) (va_Qi (S := Unit) (fun r _ => r = z.1) (fun _ t => WE (dC, dI) cI cZ (wX3_add cI cZ a (sr (sr M 0 (z.2 0)) 1 (z.2 1))) (va_A (wX3_add cI cZ a M) sz) t) (va_A (wX3_add cI cZ a M) sz)) 0 0 (va_A (wX3_add cI cZ a M) sz) := by
  refine Met.ofW (cc := cX3_add) (maxL := 4) (ret := (some .int)) (by decide) rfl ?_
  intro p e s m args below meth c s₁ B hml hv
  obtain ⟨rfl, hsz, hP, hK, hD0, hNW⟩ := hv
  have hx := B.exec
  have hb := B.bytes
  have hr := B.returns
  have hts := atoms_spec (ws := wsX3_add) B.pre
  have hown : s.vm.findClass RX3 = some m.cls := findClass_of_methodNamed B.named
  have hlocks := B.notSynchronized
  have hinX3 : ∀ w ∈ u_ws RX3 TX3 2, w ∈ wsX3_add := by decide +kernel
  have hw1 := hts (.fieldLink RX3 9 "GlideShelves$OrderBook" "count" "I") (by decide +kernel)
  have hw2 := hts (.fieldLink RX3 15 "GlideShelves$OrderBook" "wants" "[I") (by decide +kernel)
  subst hsz
  have hD := hD0.self (sz := s.heap.size)
  generalize hAe : va_A (wX3_add cI cZ a M) s.heap.size = A at hD ⊢
  have hA : ∀ q : Nat, s.heap.size ≤ q → A q := fun q h => by rw [← hAe]; exact Or.inr h
  have hS : va_S A s.heap s.heap [] := va_S.rf
  have hfX3_add_L7 : ∀ (n : Nat) (kx39 : Mem → Int32 → Option (Int32 × Mem)) (hkx39 : ∀ (N : Mem) (l2 : Int32), kx39 N l2 = some z → ∀ (ls : Array Slot), lv_has ls 4 [(0, .ref (a 0)), (2, .int l2)] → ∀ (H : Heap) (locs : List Loc), va_P (dC, dI) vwCl (wX3_add cI cZ a (sr (sr M 0 (N 0)) 1 (N 1))) H → va_D A (wX3_add cI cZ a (sr (sr M 0 (N 0)) 1 (N 1))) → va_S A s.heap H locs → W p l e (headSpec wsX3_add ({ frames := 0, cells := 0, slots := 0, locals := 0 } : Room)).room s m ([.ref (a 0), .ref (a 2)] : List Value).toArray below meth c H locs 0 0 (MQ below (va_Qi (S := Unit) (fun r _ => r = z.1) (fun _ t => WE (dC, dI) cI cZ (wX3_add cI cZ a (sr (sr M 0 (z.2 0)) 1 (z.2 1))) A t) A) ([.ref (a 0), .ref (a 2)] : List Value).toArray s 0 0 A) (F0 m 39 ls [])), ∀ (N : Mem) (l2 : Int32) (l3 : Int32), fX3_add_L7 M n kx39 N l2 l3 = some z → ∀ (ls : Array Slot), lv_has ls 4 [(0, .ref (a 0)), (1, .ref (a 2)), (2, .int l2), (3, .int l3)] → ∀ (H : Heap) (locs : List Loc), va_P (dC, dI) vwCl (wX3_add cI cZ a (sr (sr M 0 (N 0)) 1 (N 1))) H → va_D A (wX3_add cI cZ a (sr (sr M 0 (N 0)) 1 (N 1))) → va_S A s.heap H locs → W p l e (headSpec wsX3_add ({ frames := 0, cells := 0, slots := 0, locals := 0 } : Room)).room s m ([.ref (a 0), .ref (a 2)] : List Value).toArray below meth c H locs 0 0 (MQ below (va_Qi (S := Unit) (fun r _ => r = z.1) (fun _ t => WE (dC, dI) cI cZ (wX3_add cI cZ a (sr (sr M 0 (z.2 0)) 1 (z.2 1))) A t) A) ([.ref (a 0), .ref (a 2)] : List Value).toArray s 0 0 A) (F0 m 7 ls []) := by
    intro n
    induction n with
    | zero =>
      intro kx39 hkx39 N l2 l3 hf ls hl H locs hP hD hS
      rw [fX3_add_L7] at hf
      cases hf
    | succ n ih =>
      intro kx39 hkx39 N l2 l3 hf ls hl H locs hP hD hS
      rw [fX3_add_L7] at hf
      refine lv_iload_n hx hb dX3_add_7 rfl (lv_at hl 3 rfl) ?_
      refine lv_bipush (v := (10 : Int32)) hx hb dX3_add_8 (by decide) ?_
      refine lv_icmp_ge (tgt := 39) hx hb dX3_add_10 (by decide) (fun c9 => ?_) (fun c9 => ?_)
      · have hf := it_t hf c9
        exact hkx39 (sr (sr M 0 (N 0)) 1 (N 1)) l2 hf _ (lv_sub hl [0, 2] rfl) _ _ hP hD hS
      · have hf := it_f hf c9
        refine lv_iload_n hx hb dX3_add_13 rfl (lv_at hl 3 rfl) ?_
        refine lv_aload_n hx hb dX3_add_14 rfl (lv_at hl 1 rfl) ?_
        refine va_alen (v := (10 : Int32)) hx hb hK hP 2 0 rfl rfl rfl dX3_add_15 ?_
        refine lv_icmp_ge (tgt := 39) hx hb dX3_add_16 (by decide) (fun c9 => ?_) (fun c9 => ?_)
        · have hf := it_t hf c9
          exact hkx39 (sr (sr M 0 (N 0)) 1 (N 1)) l2 hf _ (lv_sub hl [0, 2] rfl) _ _ hP hD hS
        · have hf := it_f hf c9
          refine lv_aload_n hx hb dX3_add_19 rfl (lv_at hl 0 rfl) ?_
          refine va_get (D := (dC, dI)) (ci := 3) (v := .ref (a 1)) (C := RX3) (T := TX3) (N := 2) hx hb hts hinX3 hown hK hP 0 rfl rfl 1 (by decide) hw2 (fun _ h9 => h9) rfl dX3_add_20 ?_
          refine lv_iload_n hx hb dX3_add_23 rfl (lv_at hl 2 rfl) ?_
          refine lv_bipush (v := (10 : Int32)) hx hb dX3_add_24 (by decide) ?_
          refine lv_imul hx hb dX3_add_26 ?_
          refine lv_iload_n hx hb dX3_add_27 rfl (lv_at hl 3 rfl) ?_
          refine lv_iadd hx hb dX3_add_28 ?_
          refine lv_aload_n hx hb dX3_add_29 rfl (lv_at hl 1 rfl) ?_
          refine lv_iload_n hx hb dX3_add_30 rfl (lv_at hl 3 rfl) ?_
          obtain ⟨hi, hf⟩ := gd_s hf
          refine va_iald (D := (dC, dI)) (f := (M 2)) hx hb hK hP 2 0 rfl rfl (inb_in hi) dX3_add_31 ?_
          obtain ⟨hi, hf⟩ := gd_s hf
          refine va_iast (D := (dC, dI)) (f := (N 1)) hx hb hK hP hD hS 1 0 rfl rfl (inb_in hi) dX3_add_32 (fun H locs hP hD hS => ?_)
          have hP : va_P (dC, dI) vwCl (wX3_add cI cZ a (sr (sr M 0 (N 0)) 1 (upd (N 1) ((l2 * (10 : Int32)) + l3).toNatClampNeg (M 2 l3.toNatClampNeg)))) H := hP
          have hD : va_D A (wX3_add cI cZ a (sr (sr M 0 (N 0)) 1 (upd (N 1) ((l2 * (10 : Int32)) + l3).toNatClampNeg (M 2 l3.toNatClampNeg)))) := hD
          refine lv_iinc (v := (l3 + (1 : Int32))) (lv' := [(3, .int (l3 + (1 : Int32))), (0, .ref (a 0)), (1, .ref (a 2)), (2, .int l2)]) hx hb dX3_add_33 hl (k := 3) rfl rfl (by decide) rfl (fun ls hl => ?_)
          refine lv_goto (tgt := 7) hx hb dX3_add_36 (by decide) ?_
          exact ih kx39 hkx39 (sr (sr M 0 (N 0)) 1 (upd (N 1) ((l2 * (10 : Int32)) + l3).toNatClampNeg (M 2 l3.toNatClampNeg))) l2 (l3 + (1 : Int32)) hf _ (lv_sub hl [1, 2, 3, 0] rfl) _ _ hP hD hS
  have hl := lv_entry ([.ref (a 0), .ref (a 2)]) (n := 4) (Nat.le_of_ble_eq_true rfl)
  rw [lg_entry_eq]
  generalize (lg_sl ([.ref (a 0), .ref (a 2)]) ++ List.replicate (4 - (lg_sl ([.ref (a 0), .ref (a 2)])).length) Slot.unset).toArray = ls at hl ⊢
  have hl : lv_has ls 4 [(0, .ref (a 0)), (1, .ref (a 2))] := hl
  unfold fX3_add at hf
  suffices hgo : ∀ (H : Heap) (locs : List Loc), va_P (dC, dI) vwCl (wX3_add cI cZ a M) H → va_D A (wX3_add cI cZ a M) → va_S A s.heap H locs → W p l e (headSpec wsX3_add ({ frames := 0, cells := 0, slots := 0, locals := 0 } : Room)).room s m ([.ref (a 0), .ref (a 2)] : List Value).toArray below meth c H locs 0 0 (MQ below (va_Qi (S := Unit) (fun r _ => r = z.1) (fun _ t => WE (dC, dI) cI cZ (wX3_add cI cZ a (sr (sr M 0 (z.2 0)) 1 (z.2 1))) A t) A) ([.ref (a 0), .ref (a 2)] : List Value).toArray s 0 0 A) (F0 m 0 ls []) from hgo _ _ hP hD hS
  intro H locs hP hD hS
  refine lv_aload_n hx hb dX3_add_0 rfl (lv_at hl 0 rfl) ?_
  refine va_get (D := (dC, dI)) (ci := 3) (v := .int (M 0 0)) (C := RX3) (T := TX3) (N := 2) hx hb hts hinX3 hown hK hP 0 rfl rfl 0 (by decide) hw1 (fun _ h9 => h9) rfl dX3_add_1 ?_
  refine lv_istore_n (lv' := [(2, .int (M 0 0)), (0, .ref (a 0)), (1, .ref (a 2))]) hx hb dX3_add_4 rfl hl (by decide) rfl (fun ls hl => ?_)
  refine lv_iconst (v := (0 : Int32)) hx hb dX3_add_5 (by decide) ?_
  refine lv_istore_n (lv' := [(3, .int (0 : Int32)), (2, .int (M 0 0)), (0, .ref (a 0)), (1, .ref (a 2))]) hx hb dX3_add_6 rfl hl (by decide) rfl (fun ls hl => ?_)
  refine hfX3_add_L7 5000 _ (fun N l2 hf ls hl H locs hP hD hS => ?_) M (M 0 0) (0 : Int32) hf _ (lv_sub hl [2, 3, 1, 0] rfl) _ _ hP hD hS
  refine lv_aload_n hx hb dX3_add_39 rfl (lv_at hl 0 rfl) ?_
  refine lv_dup hx hb dX3_add_40 rfl ?_
  refine va_get (D := (dC, dI)) (ci := 3) (v := .int (N 0 0)) (C := RX3) (T := TX3) (N := 2) hx hb hts hinX3 hown hK hP 0 rfl rfl 0 (by decide) hw1 (fun _ h9 => h9) rfl dX3_add_41 ?_
  refine lv_iconst (v := (1 : Int32)) hx hb dX3_add_44 (by decide) ?_
  refine lv_iadd hx hb dX3_add_45 ?_
  refine va_put (D := (dC, dI)) (ci := 3) (v := .int ((N 0 0) + (1 : Int32))) (ty := .int) (C := RX3) (T := TX3) (N := 2) hx hb hts hinX3 tyX3 tyX3_ok nmX3 hown hK hP hD hS 0 rfl rfl 0 (by decide) hw1 (fun _ h9 => h9) rfl (by decide +kernel) rfl rfl (Nat.le_of_ble_eq_true rfl) dX3_add_46 (fun H locs hP hD hS => ?_)
  have hP : va_P (dC, dI) vwCl (wX3_add cI cZ a (sr (sr M 0 (upd (N 0) 0 ((N 0 0) + (1 : Int32)))) 1 (N 1))) H := hP
  have hD : va_D A (wX3_add cI cZ a (sr (sr M 0 (upd (N 0) 0 ((N 0 0) + (1 : Int32)))) 1 (N 1))) := hD
  refine lv_iload_n hx hb dX3_add_49 rfl (lv_at hl 1 rfl) ?_
  have e9 := so_e hf
  subst e9
  exact W.iret (v := l2) hx hb hr (fun t ht hW => ⟨⟨l2, (), rfl, rfl, WE.mk hP hD ht⟩, hS.F ht⟩) hS.2.2 dX3_add_50
set_option maxHeartbeats 4000000 in
set_option maxRecDepth 100000 in
theorem c_X3_remove (l : Launch) (dC : Nat → ClassId) (dI : Nat → Nat → Nat) (cI cZ : ClassId) (a : Nat → Nat) (sz : Nat) (M : Mem) (a1 : Int32) (z : Mem) (hf : fX3_remove M a1 = some z) : Met l yX3_remove wsX3_remove ({ frames := 1, cells := 0, slots := 0, locals := 60 } : Room) (va_Pc [.ref (a 0), .int a1] (WR (dC, dI) cI cZ (wX3 cI cZ a M) sz)) (va_Qv (S := Unit) (fun _ => True) (fun _ t => WE (dC, dI) cI cZ (wX3 cI cZ a (sr (sr M 0 (z 0)) 1 (z 1))) (va_A (wX3 cI cZ a M) sz) t) (va_A (wX3 cI cZ a M) sz)) 0 0 (va_A (wX3 cI cZ a M) sz) := by
  refine Met.ofW (cc := cX3_remove) (maxL := 3) (ret := none) (by decide) rfl ?_
  intro p e s m args below meth c s₁ B hml hv
  obtain ⟨rfl, hsz, hP, hK, hD0, hNW⟩ := hv
  have hx := B.exec
  have hb := B.bytes
  have hr := B.returns
  have hts := atoms_spec (ws := wsX3_remove) B.pre
  have hown : s.vm.findClass RX3 = some m.cls := findClass_of_methodNamed B.named
  have hlocks := B.notSynchronized
  have hinX3 : ∀ w ∈ u_ws RX3 TX3 2, w ∈ wsX3_remove := by decide +kernel
  have hw1 := hts (.fieldLink RX3 9 "GlideShelves$OrderBook" "count" "I") (by decide +kernel)
  have hw2 := hts (.fieldLink RX3 15 "GlideShelves$OrderBook" "wants" "[I") (by decide +kernel)
  have hw3 := hts (.methodLink RX3 19 arraycopyName) (by decide +kernel)
  have hw4 := hts (.native arraycopyName) (by decide +kernel)
  have hw5 := hts (.static arraycopyName) (by decide +kernel)
  have hw6 := hts (.initialized "java/lang/System") (by decide +kernel)
  subst hsz
  have hD := hD0.self (sz := s.heap.size)
  generalize hAe : va_A (wX3 cI cZ a M) s.heap.size = A at hD ⊢
  have hA : ∀ q : Nat, s.heap.size ≤ q → A q := fun q h => by rw [← hAe]; exact Or.inr h
  have hS : va_S A s.heap s.heap [] := va_S.rf
  have hfX3_remove_L4 : ∀ (n : Nat) (kx41 : Mem → Option (Mem)) (hkx41 : ∀ (N : Mem), kx41 N = some z → ∀ (ls : Array Slot), lv_has ls 3 [(0, .ref (a 0))] → ∀ (H : Heap) (locs : List Loc), va_P (dC, dI) vwCl (wX3 cI cZ a (sr (sr M 0 (N 0)) 1 (N 1))) H → va_D A (wX3 cI cZ a (sr (sr M 0 (N 0)) 1 (N 1))) → va_S A s.heap H locs → W p l e (headSpec wsX3_remove ({ frames := 1, cells := 0, slots := 0, locals := 60 } : Room)).room s m ([.ref (a 0), .int a1] : List Value).toArray below meth c H locs 0 0 (MQ below (va_Qv (S := Unit) (fun _ => True) (fun _ t => WE (dC, dI) cI cZ (wX3 cI cZ a (sr (sr M 0 (z 0)) 1 (z 1))) A t) A) ([.ref (a 0), .int a1] : List Value).toArray s 0 0 A) (F0 m 41 ls [])), ∀ (N : Mem) (l2 : Int32), fX3_remove_L4 M n kx41 N l2 = some z → ∀ (ls : Array Slot), lv_has ls 3 [(0, .ref (a 0)), (2, .int l2)] → ∀ (H : Heap) (locs : List Loc), va_P (dC, dI) vwCl (wX3 cI cZ a (sr (sr M 0 (N 0)) 1 (N 1))) H → va_D A (wX3 cI cZ a (sr (sr M 0 (N 0)) 1 (N 1))) → va_S A s.heap H locs → W p l e (headSpec wsX3_remove ({ frames := 1, cells := 0, slots := 0, locals := 60 } : Room)).room s m ([.ref (a 0), .int a1] : List Value).toArray below meth c H locs 0 0 (MQ below (va_Qv (S := Unit) (fun _ => True) (fun _ t => WE (dC, dI) cI cZ (wX3 cI cZ a (sr (sr M 0 (z 0)) 1 (z 1))) A t) A) ([.ref (a 0), .int a1] : List Value).toArray s 0 0 A) (F0 m 4 ls []) := by
    intro n
    induction n with
    | zero =>
      intro kx41 hkx41 N l2 hf ls hl H locs hP hD hS
      rw [fX3_remove_L4] at hf
      cases hf
    | succ n ih =>
      intro kx41 hkx41 N l2 hf ls hl H locs hP hD hS
      rw [fX3_remove_L4] at hf
      refine lv_iload_n hx hb dX3_remove_4 rfl (lv_at hl 1 rfl) ?_
      refine lv_aload_n hx hb dX3_remove_5 rfl (lv_at hl 0 rfl) ?_
      refine va_get (D := (dC, dI)) (ci := 3) (v := .int (N 0 0)) (C := RX3) (T := TX3) (N := 2) hx hb hts hinX3 hown hK hP 0 rfl rfl 0 (by decide) hw1 (fun _ h9 => h9) rfl dX3_remove_6 ?_
      refine lv_icmp_ge (tgt := 41) hx hb dX3_remove_9 (by decide) (fun c9 => ?_) (fun c9 => ?_)
      · have hf := it_t hf c9
        exact hkx41 (sr (sr M 0 (N 0)) 1 (N 1)) hf _ (lv_sub hl [0] rfl) _ _ hP hD hS
      · have hf := it_f hf c9
        refine lv_aload_n hx hb dX3_remove_12 rfl (lv_at hl 0 rfl) ?_
        refine va_get (D := (dC, dI)) (ci := 3) (v := .ref (a 1)) (C := RX3) (T := TX3) (N := 2) hx hb hts hinX3 hown hK hP 0 rfl rfl 1 (by decide) hw2 (fun _ h9 => h9) rfl dX3_remove_13 ?_
        refine lv_iload_n hx hb dX3_remove_16 rfl (lv_at hl 1 rfl) ?_
        refine lv_bipush (v := (10 : Int32)) hx hb dX3_remove_17 (by decide) ?_
        refine lv_imul hx hb dX3_remove_19 ?_
        refine lv_aload_n hx hb dX3_remove_20 rfl (lv_at hl 0 rfl) ?_
        refine va_get (D := (dC, dI)) (ci := 3) (v := .ref (a 1)) (C := RX3) (T := TX3) (N := 2) hx hb hts hinX3 hown hK hP 0 rfl rfl 1 (by decide) hw2 (fun _ h9 => h9) rfl dX3_remove_21 ?_
        refine lv_iload_n hx hb dX3_remove_24 rfl (lv_at hl 1 rfl) ?_
        refine lv_iconst (v := (1 : Int32)) hx hb dX3_remove_25 (by decide) ?_
        refine lv_isub hx hb dX3_remove_26 ?_
        refine lv_bipush (v := (10 : Int32)) hx hb dX3_remove_27 (by decide) ?_
        refine lv_imul hx hb dX3_remove_29 ?_
        refine lv_bipush (v := (10 : Int32)) hx hb dX3_remove_30 (by decide) ?_
        obtain ⟨hz, hf⟩ := gd_s hf
        obtain ⟨h1, h2, h3, h4, h5⟩ := cpk_s hz
        refine va_copyi (D := (dC, dI)) (f := (N 1)) (g := (N 1)) (ty := .int) hx hb (hml.trans hl.1.symm) hown hw3 hw4 hw5 hw6 hK hP hD hS 1 1 0 0 rfl rfl rfl rfl rfl h1 h2 h3 h4 h5 (fun _ _ => rfl) (Nat.le_of_ble_eq_true rfl) (by decide +kernel) dX3_remove_32 (fun H locs hP hD hS => ?_)
        have hP : va_P (dC, dI) vwCl (wX3 cI cZ a (sr (sr M 0 (N 0)) 1 (va_cpy (N 1) (N 1) (l2 * (10 : Int32)).toNatClampNeg ((l2 - (1 : Int32)) * (10 : Int32)).toNatClampNeg (10 : Int32).toNatClampNeg))) H := hP
        have hD : va_D A (wX3 cI cZ a (sr (sr M 0 (N 0)) 1 (va_cpy (N 1) (N 1) (l2 * (10 : Int32)).toNatClampNeg ((l2 - (1 : Int32)) * (10 : Int32)).toNatClampNeg (10 : Int32).toNatClampNeg))) := hD
        refine lv_iinc (v := (l2 + (1 : Int32))) (lv' := [(2, .int (l2 + (1 : Int32))), (0, .ref (a 0))]) hx hb dX3_remove_35 hl (k := 1) rfl rfl (by decide) rfl (fun ls hl => ?_)
        refine lv_goto (tgt := 4) hx hb dX3_remove_38 (by decide) ?_
        exact ih kx41 hkx41 (sr (sr M 0 (N 0)) 1 (va_cpy (N 1) (N 1) (l2 * (10 : Int32)).toNatClampNeg ((l2 - (1 : Int32)) * (10 : Int32)).toNatClampNeg (10 : Int32).toNatClampNeg)) (l2 + (1 : Int32)) hf _ (lv_sub hl [1, 0] rfl) _ _ hP hD hS
  have hl := lv_entry ([.ref (a 0), .int a1]) (n := 3) (Nat.le_of_ble_eq_true rfl)
  rw [lg_entry_eq]
  generalize (lg_sl ([.ref (a 0), .int a1]) ++ List.replicate (3 - (lg_sl ([.ref (a 0), .int a1])).length) Slot.unset).toArray = ls at hl ⊢
  have hl : lv_has ls 3 [(0, .ref (a 0)), (1, .int a1)] := hl
  unfold fX3_remove at hf
  suffices hgo : ∀ (H : Heap) (locs : List Loc), va_P (dC, dI) vwCl (wX3 cI cZ a M) H → va_D A (wX3 cI cZ a M) → va_S A s.heap H locs → W p l e (headSpec wsX3_remove ({ frames := 1, cells := 0, slots := 0, locals := 60 } : Room)).room s m ([.ref (a 0), .int a1] : List Value).toArray below meth c H locs 0 0 (MQ below (va_Qv (S := Unit) (fun _ => True) (fun _ t => WE (dC, dI) cI cZ (wX3 cI cZ a (sr (sr M 0 (z 0)) 1 (z 1))) A t) A) ([.ref (a 0), .int a1] : List Value).toArray s 0 0 A) (F0 m 0 ls []) from hgo _ _ hP hD hS
  intro H locs hP hD hS
  refine lv_iload_n hx hb dX3_remove_0 rfl (lv_at hl 1 rfl) ?_
  refine lv_iconst (v := (1 : Int32)) hx hb dX3_remove_1 (by decide) ?_
  refine lv_iadd hx hb dX3_remove_2 ?_
  refine lv_istore_n (lv' := [(2, .int (a1 + (1 : Int32))), (0, .ref (a 0)), (1, .int a1)]) hx hb dX3_remove_3 rfl hl (by decide) rfl (fun ls hl => ?_)
  refine hfX3_remove_L4 5000 _ (fun N hf ls hl H locs hP hD hS => ?_) M (a1 + (1 : Int32)) hf _ (lv_sub hl [1, 0] rfl) _ _ hP hD hS
  refine lv_aload_n hx hb dX3_remove_41 rfl (lv_at hl 0 rfl) ?_
  refine lv_dup hx hb dX3_remove_42 rfl ?_
  refine va_get (D := (dC, dI)) (ci := 3) (v := .int (N 0 0)) (C := RX3) (T := TX3) (N := 2) hx hb hts hinX3 hown hK hP 0 rfl rfl 0 (by decide) hw1 (fun _ h9 => h9) rfl dX3_remove_43 ?_
  refine lv_iconst (v := (1 : Int32)) hx hb dX3_remove_46 (by decide) ?_
  refine lv_isub hx hb dX3_remove_47 ?_
  refine va_put (D := (dC, dI)) (ci := 3) (v := .int ((N 0 0) - (1 : Int32))) (ty := .int) (C := RX3) (T := TX3) (N := 2) hx hb hts hinX3 tyX3 tyX3_ok nmX3 hown hK hP hD hS 0 rfl rfl 0 (by decide) hw1 (fun _ h9 => h9) rfl (by decide +kernel) rfl rfl (Nat.le_of_ble_eq_true rfl) dX3_remove_48 (fun H locs hP hD hS => ?_)
  have hP : va_P (dC, dI) vwCl (wX3 cI cZ a (sr (sr M 0 (upd (N 0) 0 ((N 0 0) - (1 : Int32)))) 1 (N 1))) H := hP
  have hD : va_D A (wX3 cI cZ a (sr (sr M 0 (upd (N 0) 0 ((N 0 0) - (1 : Int32)))) 1 (N 1))) := hD
  have e9 := so_e hf
  subst e9
  exact W.vret hx hb hr (fun t ht hW => ⟨⟨(), rfl, trivial, WE.mk hP hD ht⟩, hS.F ht⟩) hS.2.2 dX3_remove_51
set_option maxHeartbeats 4000000 in
set_option maxRecDepth 100000 in
theorem c_X3_wantedOf (l : Launch) (dC : Nat → ClassId) (dI : Nat → Nat → Nat) (cI cZ : ClassId) (a : Nat → Nat) (M : Mem) (a1 : Int32) (a2 : Int32) (z : Int32) (hf : fX3_wantedOf M a1 a2 = some z) : Met l yX3_wantedOf wsX3_wantedOf ({ frames := 0, cells := 0, slots := 0, locals := 0 } : Room) (va_Pc [.ref (a 0), .int a1, .int a2] (RO (dC, dI) cI cZ (wX3 cI cZ a M))) (k2_QcV (.int z)) 0 0 (fun _ => False) := by
  refine Met.ofW (cc := cX3_wantedOf) (maxL := 3) (ret := (some .int)) (by decide) rfl ?_
  intro p e s m args below meth c s₁ B hml hv
  obtain ⟨rfl, hP, hK, hNW⟩ := hv
  have hx := B.exec
  have hb := B.bytes
  have hr := B.returns
  have hts := atoms_spec (ws := wsX3_wantedOf) B.pre
  have hown : s.vm.findClass RX3 = some m.cls := findClass_of_methodNamed B.named
  have hlocks := B.notSynchronized
  have hinX3 : ∀ w ∈ u_ws RX3 TX3 2, w ∈ wsX3_wantedOf := by decide +kernel
  have hw1 := hts (.fieldLink RX3 15 "GlideShelves$OrderBook" "wants" "[I") (by decide +kernel)
  have hl := lv_entry ([.ref (a 0), .int a1, .int a2]) (n := 3) (Nat.le_of_ble_eq_true rfl)
  rw [lg_entry_eq]
  generalize (lg_sl ([.ref (a 0), .int a1, .int a2]) ++ List.replicate (3 - (lg_sl ([.ref (a 0), .int a1, .int a2])).length) Slot.unset).toArray = ls at hl ⊢
  have hl : lv_has ls 3 [(0, .ref (a 0)), (1, .int a1), (2, .int a2)] := hl
  unfold fX3_wantedOf at hf
  refine lv_aload_n hx hb dX3_wantedOf_0 rfl (lv_at hl 0 rfl) ?_
  refine va_get (D := (dC, dI)) (ci := 3) (v := .ref (a 1)) (C := RX3) (T := TX3) (N := 2) hx hb hts hinX3 hown hK hP 0 rfl rfl 1 (by decide) hw1 (fun _ h9 => h9) rfl dX3_wantedOf_1 ?_
  refine lv_iload_n hx hb dX3_wantedOf_4 rfl (lv_at hl 1 rfl) ?_
  refine lv_bipush (v := (10 : Int32)) hx hb dX3_wantedOf_5 (by decide) ?_
  refine lv_imul hx hb dX3_wantedOf_7 ?_
  refine lv_iload_n hx hb dX3_wantedOf_8 rfl (lv_at hl 2 rfl) ?_
  refine lv_iadd hx hb dX3_wantedOf_9 ?_
  obtain ⟨hi, hf⟩ := gd_s hf
  refine va_iald (D := (dC, dI)) (f := (M 1)) hx hb hK hP 1 0 rfl rfl (inb_in hi) dX3_wantedOf_10 ?_
  exact W.iret (v := (M 1 ((a1 * (10 : Int32)) + a2).toNatClampNeg)) hx hb hr (fun t ht hW => ⟨congrArg (fun x => Outcome.returned (some (Value.int x))) (so_e hf), ht⟩) fl0 dX3_wantedOf_11
set_option maxHeartbeats 4000000 in
set_option maxRecDepth 100000 in
theorem c_X3_sumOf (l : Launch) (dC : Nat → ClassId) (dI : Nat → Nat → Nat) (cI cZ : ClassId) (a : Nat → Nat) (M : Mem) (a1 : Int32) (z : Int32) (hf : fX3_sumOf M a1 = some z) : Met l yX3_sumOf wsX3_sumOf ({ frames := 1, cells := 0, slots := 0, locals := 22 } : Room) (va_Pc [.ref (a 0), .int a1] (RO (dC, dI) cI cZ (wX3 cI cZ a M))) (k2_QcV (.int z)) 0 0 (fun _ => False) := by
  refine Met.ofW (cc := cX3_sumOf) (maxL := 4) (ret := (some .int)) (by decide) rfl ?_
  intro p e s m args below meth c s₁ B hml hv
  obtain ⟨rfl, hP, hK, hNW⟩ := hv
  have hx := B.exec
  have hb := B.bytes
  have hr := B.returns
  have hts := atoms_spec (ws := wsX3_sumOf) B.pre
  have hown : s.vm.findClass RX3 = some m.cls := findClass_of_methodNamed B.named
  have hlocks := B.notSynchronized
  have hfX3_sumOf_L4 : ∀ (n : Nat) (kx25 : Int32 → Option (Int32)) (hkx25 : ∀ (l2 : Int32), kx25 l2 = some z → ∀ (ls : Array Slot), lv_has ls 4 [(2, .int l2)] → W p l e (headSpec wsX3_sumOf ({ frames := 1, cells := 0, slots := 0, locals := 22 } : Room)).room s m ([.ref (a 0), .int a1] : List Value).toArray below meth c s.heap [] 0 0 (MQ below (k2_QcV (.int z)) ([.ref (a 0), .int a1] : List Value).toArray s 0 0 (fun _ => False)) (F0 m 25 ls [])), ∀ (l1 : Int32) (l2 : Int32) (l3 : Int32), fX3_sumOf_L4 M n kx25 l1 l2 l3 = some z → ∀ (ls : Array Slot), lv_has ls 4 [(0, .ref (a 0)), (1, .int l1), (2, .int l2), (3, .int l3)] → W p l e (headSpec wsX3_sumOf ({ frames := 1, cells := 0, slots := 0, locals := 22 } : Room)).room s m ([.ref (a 0), .int a1] : List Value).toArray below meth c s.heap [] 0 0 (MQ below (k2_QcV (.int z)) ([.ref (a 0), .int a1] : List Value).toArray s 0 0 (fun _ => False)) (F0 m 4 ls []) := by
    intro n
    induction n with
    | zero =>
      intro kx25 hkx25 l1 l2 l3 hf ls hl
      rw [fX3_sumOf_L4] at hf
      cases hf
    | succ n ih =>
      intro kx25 hkx25 l1 l2 l3 hf ls hl
      rw [fX3_sumOf_L4] at hf
      refine lv_iload_n hx hb dX3_sumOf_4 rfl (lv_at hl 3 rfl) ?_
      refine lv_bipush (v := (10 : Int32)) hx hb dX3_sumOf_5 (by decide) ?_
      refine lv_icmp_ge (tgt := 25) hx hb dX3_sumOf_7 (by decide) (fun c9 => ?_) (fun c9 => ?_)
      · have hf := it_t hf c9
        exact hkx25 l2 hf _ (lv_sub hl [2] rfl)
      · have hf := it_f hf c9
        refine lv_iload_n hx hb dX3_sumOf_10 rfl (lv_at hl 2 rfl) ?_
        refine lv_aload_n hx hb dX3_sumOf_11 rfl (lv_at hl 0 rfl) ?_
        refine lv_iload_n hx hb dX3_sumOf_12 rfl (lv_at hl 1 rfl) ?_
        refine lv_iload_n hx hb dX3_sumOf_13 rfl (lv_at hl 3 rfl) ?_
        obtain ⟨r14, hc14, hf⟩ := bi_s hf
        have hPc := hP
        refine cRO (W.runV (As := [.int l1, .int l3]) (rest := [.int l2]) ⟨hx, hb, hml, hown, hts⟩ (c_X3_wantedOf l dC dI cI cZ a M l1 l3 r14 hc14) (cwV 2 hts gX3_sumOf_X3_wantedOf rfl rfl rfl (by decide +kernel) ⟨Nat.le_of_ble_eq_true rfl, Nat.le_of_ble_eq_true rfl⟩) ⟨RO.blind, va_recv hK hP (ci := 3) (q0 := 0) rfl rfl, RO.pre hPc hK hNW⟩ rfl rfl hl.1 rfl (lv_room (Nat.le_of_ble_eq_true rfl)) dX3_sumOf_14 ⟨Nat.le_of_ble_eq_true rfl, Nat.le_of_ble_eq_true rfl⟩) ?_
        refine lv_iadd hx hb dX3_sumOf_17 ?_
        refine lv_istore_n (lv' := [(2, .int (l2 + r14)), (0, .ref (a 0)), (1, .int l1), (3, .int l3)]) hx hb dX3_sumOf_18 rfl hl (by decide) rfl (fun ls hl => ?_)
        refine lv_iinc (v := (l3 + (1 : Int32))) (lv' := [(3, .int (l3 + (1 : Int32))), (2, .int (l2 + r14)), (0, .ref (a 0)), (1, .int l1)]) hx hb dX3_sumOf_19 hl (k := 3) rfl rfl (by decide) rfl (fun ls hl => ?_)
        refine lv_goto (tgt := 4) hx hb dX3_sumOf_22 (by decide) ?_
        exact ih kx25 hkx25 l1 (l2 + r14) (l3 + (1 : Int32)) hf _ (lv_sub hl [2, 3, 1, 0] rfl)
  have hl := lv_entry ([.ref (a 0), .int a1]) (n := 4) (Nat.le_of_ble_eq_true rfl)
  rw [lg_entry_eq]
  generalize (lg_sl ([.ref (a 0), .int a1]) ++ List.replicate (4 - (lg_sl ([.ref (a 0), .int a1])).length) Slot.unset).toArray = ls at hl ⊢
  have hl : lv_has ls 4 [(0, .ref (a 0)), (1, .int a1)] := hl
  unfold fX3_sumOf at hf
  refine lv_iconst (v := (0 : Int32)) hx hb dX3_sumOf_0 (by decide) ?_
  refine lv_istore_n (lv' := [(2, .int (0 : Int32)), (0, .ref (a 0)), (1, .int a1)]) hx hb dX3_sumOf_1 rfl hl (by decide) rfl (fun ls hl => ?_)
  refine lv_iconst (v := (0 : Int32)) hx hb dX3_sumOf_2 (by decide) ?_
  refine lv_istore_n (lv' := [(3, .int (0 : Int32)), (2, .int (0 : Int32)), (0, .ref (a 0)), (1, .int a1)]) hx hb dX3_sumOf_3 rfl hl (by decide) rfl (fun ls hl => ?_)
  refine hfX3_sumOf_L4 5000 _ (fun l2 hf ls hl => ?_) a1 (0 : Int32) (0 : Int32) hf _ (lv_sub hl [2, 3, 1, 0] rfl)
  refine lv_iload_n hx hb dX3_sumOf_25 rfl (lv_at hl 0 rfl) ?_
  exact W.iret (v := l2) hx hb hr (fun t ht hW => ⟨congrArg (fun x => Outcome.returned (some (Value.int x))) (so_e hf), ht⟩) fl0 dX3_sumOf_26
set_option maxHeartbeats 4000000 in
set_option maxRecDepth 100000 in
theorem c_X4_begin (l : Launch) (dC : Nat → ClassId) (dI : Nat → Nat → Nat) (cI cZ : ClassId) (a : Nat → Nat) (sz : Nat) (M : Mem) (z : Mem) (hf : fX4_begin M  = some z) : Met l yX4_begin wsX4_begin ({ frames := 0, cells := 0, slots := 0, locals := 0 } : Room) (va_Pc [.ref (a 0)] (WR (dC, dI) cI cZ (wX4 cI cZ a M) sz)) (va_Qv (S := Unit) (fun _ => True) (fun _ t => WE (dC, dI) cI cZ (wX4 cI cZ a (sr (sr M 0 (z 0)) 1 (z 1))) (va_A (wX4 cI cZ a M) sz) t) (va_A (wX4 cI cZ a M) sz)) 0 0 (va_A (wX4 cI cZ a M) sz) := by
  refine Met.ofW (cc := cX4_begin) (maxL := 2) (ret := none) (by decide) rfl ?_
  intro p e s m args below meth c s₁ B hml hv
  obtain ⟨rfl, hsz, hP, hK, hD0, hNW⟩ := hv
  have hx := B.exec
  have hb := B.bytes
  have hr := B.returns
  have hts := atoms_spec (ws := wsX4_begin) B.pre
  have hown : s.vm.findClass RX4 = some m.cls := findClass_of_methodNamed B.named
  have hlocks := B.notSynchronized
  have hinX4 : ∀ w ∈ u_ws RX4 TX4 3, w ∈ wsX4_begin := by decide +kernel
  have hw1 := hts (.fieldLink RX4 11 "GlideShelves$OrderReader" "stage" "I") (by decide +kernel)
  have hw2 := hts (.fieldLink RX4 15 "GlideShelves$OrderReader" "kind" "I") (by decide +kernel)
  have hw3 := hts (.fieldLink RX4 18 "GlideShelves$OrderReader" "numbers" "[I") (by decide +kernel)
  subst hsz
  have hD := hD0.self (sz := s.heap.size)
  generalize hAe : va_A (wX4 cI cZ a M) s.heap.size = A at hD ⊢
  have hA : ∀ q : Nat, s.heap.size ≤ q → A q := fun q h => by rw [← hAe]; exact Or.inr h
  have hS : va_S A s.heap s.heap [] := va_S.rf
  have hfX4_begin_L12 : ∀ (n : Nat) (kx31 : Mem → Option (Mem)) (hkx31 : ∀ (N : Mem), kx31 N = some z → ∀ (ls : Array Slot), lv_has ls 2 [] → ∀ (H : Heap) (locs : List Loc), va_P (dC, dI) vwCl (wX4 cI cZ a (sr (sr M 0 (N 0)) 1 (N 1))) H → va_D A (wX4 cI cZ a (sr (sr M 0 (N 0)) 1 (N 1))) → va_S A s.heap H locs → W p l e (headSpec wsX4_begin ({ frames := 0, cells := 0, slots := 0, locals := 0 } : Room)).room s m ([.ref (a 0)] : List Value).toArray below meth c H locs 0 0 (MQ below (va_Qv (S := Unit) (fun _ => True) (fun _ t => WE (dC, dI) cI cZ (wX4 cI cZ a (sr (sr M 0 (z 0)) 1 (z 1))) A t) A) ([.ref (a 0)] : List Value).toArray s 0 0 A) (F0 m 31 ls [])), ∀ (N : Mem) (l1 : Int32), fX4_begin_L12 M n kx31 N l1 = some z → ∀ (ls : Array Slot), lv_has ls 2 [(0, .ref (a 0)), (1, .int l1)] → ∀ (H : Heap) (locs : List Loc), va_P (dC, dI) vwCl (wX4 cI cZ a (sr (sr M 0 (N 0)) 1 (N 1))) H → va_D A (wX4 cI cZ a (sr (sr M 0 (N 0)) 1 (N 1))) → va_S A s.heap H locs → W p l e (headSpec wsX4_begin ({ frames := 0, cells := 0, slots := 0, locals := 0 } : Room)).room s m ([.ref (a 0)] : List Value).toArray below meth c H locs 0 0 (MQ below (va_Qv (S := Unit) (fun _ => True) (fun _ t => WE (dC, dI) cI cZ (wX4 cI cZ a (sr (sr M 0 (z 0)) 1 (z 1))) A t) A) ([.ref (a 0)] : List Value).toArray s 0 0 A) (F0 m 12 ls []) := by
    intro n
    induction n with
    | zero =>
      intro kx31 hkx31 N l1 hf ls hl H locs hP hD hS
      rw [fX4_begin_L12] at hf
      cases hf
    | succ n ih =>
      intro kx31 hkx31 N l1 hf ls hl H locs hP hD hS
      rw [fX4_begin_L12] at hf
      refine lv_iload_n hx hb dX4_begin_12 rfl (lv_at hl 1 rfl) ?_
      refine lv_bipush (v := (10 : Int32)) hx hb dX4_begin_13 (by decide) ?_
      refine lv_icmp_ge (tgt := 31) hx hb dX4_begin_15 (by decide) (fun c9 => ?_) (fun c9 => ?_)
      · have hf := it_t hf c9
        exact hkx31 (sr (sr M 0 (N 0)) 1 (N 1)) hf _ (lv_sub hl [] rfl) _ _ hP hD hS
      · have hf := it_f hf c9
        refine lv_aload_n hx hb dX4_begin_18 rfl (lv_at hl 0 rfl) ?_
        refine va_get (D := (dC, dI)) (ci := 4) (v := .ref (a 1)) (C := RX4) (T := TX4) (N := 3) hx hb hts hinX4 hown hK hP 0 rfl rfl 2 (by decide) hw3 (fun _ h9 => h9) rfl dX4_begin_19 ?_
        refine lv_iload_n hx hb dX4_begin_22 rfl (lv_at hl 1 rfl) ?_
        refine lv_iconst (v := (0 : Int32)) hx hb dX4_begin_23 (by decide) ?_
        obtain ⟨hi, hf⟩ := gd_s hf
        refine va_iast (D := (dC, dI)) (f := (N 1)) hx hb hK hP hD hS 1 0 rfl rfl (inb_in hi) dX4_begin_24 (fun H locs hP hD hS => ?_)
        have hP : va_P (dC, dI) vwCl (wX4 cI cZ a (sr (sr M 0 (N 0)) 1 (upd (N 1) l1.toNatClampNeg (0 : Int32)))) H := hP
        have hD : va_D A (wX4 cI cZ a (sr (sr M 0 (N 0)) 1 (upd (N 1) l1.toNatClampNeg (0 : Int32)))) := hD
        refine lv_iinc (v := (l1 + (1 : Int32))) (lv' := [(1, .int (l1 + (1 : Int32))), (0, .ref (a 0))]) hx hb dX4_begin_25 hl (k := 1) rfl rfl (by decide) rfl (fun ls hl => ?_)
        refine lv_goto (tgt := 12) hx hb dX4_begin_28 (by decide) ?_
        exact ih kx31 hkx31 (sr (sr M 0 (N 0)) 1 (upd (N 1) l1.toNatClampNeg (0 : Int32))) (l1 + (1 : Int32)) hf _ (lv_sub hl [1, 0] rfl) _ _ hP hD hS
  have hl := lv_entry ([.ref (a 0)]) (n := 2) (Nat.le_of_ble_eq_true rfl)
  rw [lg_entry_eq]
  generalize (lg_sl ([.ref (a 0)]) ++ List.replicate (2 - (lg_sl ([.ref (a 0)])).length) Slot.unset).toArray = ls at hl ⊢
  have hl : lv_has ls 2 [(0, .ref (a 0))] := hl
  unfold fX4_begin at hf
  suffices hgo : ∀ (H : Heap) (locs : List Loc), va_P (dC, dI) vwCl (wX4 cI cZ a M) H → va_D A (wX4 cI cZ a M) → va_S A s.heap H locs → W p l e (headSpec wsX4_begin ({ frames := 0, cells := 0, slots := 0, locals := 0 } : Room)).room s m ([.ref (a 0)] : List Value).toArray below meth c H locs 0 0 (MQ below (va_Qv (S := Unit) (fun _ => True) (fun _ t => WE (dC, dI) cI cZ (wX4 cI cZ a (sr (sr M 0 (z 0)) 1 (z 1))) A t) A) ([.ref (a 0)] : List Value).toArray s 0 0 A) (F0 m 0 ls []) from hgo _ _ hP hD hS
  intro H locs hP hD hS
  refine lv_aload_n hx hb dX4_begin_0 rfl (lv_at hl 0 rfl) ?_
  refine lv_iconst (v := (0 : Int32)) hx hb dX4_begin_1 (by decide) ?_
  refine va_put (D := (dC, dI)) (ci := 4) (v := .int (0 : Int32)) (ty := .int) (C := RX4) (T := TX4) (N := 3) hx hb hts hinX4 tyX4 tyX4_ok nmX4 hown hK hP hD hS 0 rfl rfl 0 (by decide) hw1 (fun _ h9 => h9) rfl (by decide +kernel) rfl rfl (Nat.le_of_ble_eq_true rfl) dX4_begin_2 (fun H locs hP hD hS => ?_)
  have hP : va_P (dC, dI) vwCl (wX4 cI cZ a (sr M 0 (upd (M 0) 0 (0 : Int32)))) H := hP
  have hD : va_D A (wX4 cI cZ a (sr M 0 (upd (M 0) 0 (0 : Int32)))) := hD
  refine lv_aload_n hx hb dX4_begin_5 rfl (lv_at hl 0 rfl) ?_
  refine lv_iconst (v := (-1 : Int32)) hx hb dX4_begin_6 (by decide) ?_
  refine va_put (D := (dC, dI)) (ci := 4) (v := .int (-1 : Int32)) (ty := .int) (C := RX4) (T := TX4) (N := 3) hx hb hts hinX4 tyX4 tyX4_ok nmX4 hown hK hP hD hS 0 rfl rfl 1 (by decide) hw2 (fun _ h9 => h9) rfl (by decide +kernel) rfl rfl (Nat.le_of_ble_eq_true rfl) dX4_begin_7 (fun H locs hP hD hS => ?_)
  have hP : va_P (dC, dI) vwCl (wX4 cI cZ a (sr M 0 (upd (upd (M 0) 0 (0 : Int32)) 1 (-1 : Int32)))) H := hP
  have hD : va_D A (wX4 cI cZ a (sr M 0 (upd (upd (M 0) 0 (0 : Int32)) 1 (-1 : Int32)))) := hD
  refine lv_iconst (v := (0 : Int32)) hx hb dX4_begin_10 (by decide) ?_
  refine lv_istore_n (lv' := [(1, .int (0 : Int32)), (0, .ref (a 0))]) hx hb dX4_begin_11 rfl hl (by decide) rfl (fun ls hl => ?_)
  refine hfX4_begin_L12 5000 _ (fun N hf ls hl H locs hP hD hS => ?_) (sr M 0 (upd (upd (M 0) 0 (0 : Int32)) 1 (-1 : Int32))) (0 : Int32) hf _ (lv_sub hl [1, 0] rfl) _ _ hP hD hS
  have e9 := so_e hf
  subst e9
  exact W.vret hx hb hr (fun t ht hW => ⟨⟨(), rfl, trivial, WE.mk hP hD ht⟩, hS.F ht⟩) hS.2.2 dX4_begin_31
set_option maxHeartbeats 4000000 in
set_option maxRecDepth 100000 in
theorem c_X4_isAtEnd (l : Launch) (dC : Nat → ClassId) (dI : Nat → Nat → Nat) (cI cZ : ClassId) (a : Nat → Nat) (M : Mem) (z : Int32) (hf : fX4_isAtEnd M  = some z) : Met l yX4_isAtEnd wsX4_isAtEnd ({ frames := 0, cells := 0, slots := 0, locals := 0 } : Room) (va_Pc [.ref (a 0)] (RO (dC, dI) cI cZ (wX4 cI cZ a M))) (k2_QcV (.int z)) 0 0 (fun _ => False) := by
  refine Met.ofW (cc := cX4_isAtEnd) (maxL := 1) (ret := (some .boolean)) (by decide) rfl ?_
  intro p e s m args below meth c s₁ B hml hv
  obtain ⟨rfl, hP, hK, hNW⟩ := hv
  have hx := B.exec
  have hb := B.bytes
  have hr := B.returns
  have hts := atoms_spec (ws := wsX4_isAtEnd) B.pre
  have hown : s.vm.findClass RX4 = some m.cls := findClass_of_methodNamed B.named
  have hlocks := B.notSynchronized
  have hinX4 : ∀ w ∈ u_ws RX4 TX4 3, w ∈ wsX4_isAtEnd := by decide +kernel
  have hw1 := hts (.fieldLink RX4 11 "GlideShelves$OrderReader" "stage" "I") (by decide +kernel)
  have hfX4_isAtEnd_B13 : ∀ (s0 : Int32), fX4_isAtEnd_B13 M  s0 = some z → ∀ (ls : Array Slot), lv_has ls 1 [] → W p l e (headSpec wsX4_isAtEnd ({ frames := 0, cells := 0, slots := 0, locals := 0 } : Room)).room s m ([.ref (a 0)] : List Value).toArray below meth c s.heap [] 0 0 (MQ below (k2_QcV (.int z)) ([.ref (a 0)] : List Value).toArray s 0 0 (fun _ => False)) (F0 m 13 ls [.int s0]) := by
    intro  s0 hf ls hl
    unfold fX4_isAtEnd_B13 at hf
    obtain ⟨hz, hf⟩ := gd_s hf
    exact W.zret (v := s0) hx hb hr (isb_nar hz) (fun t ht hW => ⟨congrArg (fun x => Outcome.returned (some (Value.int x))) (so_e hf), ht⟩) fl0 dX4_isAtEnd_13
  have hl := lv_entry ([.ref (a 0)]) (n := 1) (Nat.le_of_ble_eq_true rfl)
  rw [lg_entry_eq]
  generalize (lg_sl ([.ref (a 0)]) ++ List.replicate (1 - (lg_sl ([.ref (a 0)])).length) Slot.unset).toArray = ls at hl ⊢
  have hl : lv_has ls 1 [(0, .ref (a 0))] := hl
  unfold fX4_isAtEnd at hf
  refine lv_aload_n hx hb dX4_isAtEnd_0 rfl (lv_at hl 0 rfl) ?_
  refine va_get (D := (dC, dI)) (ci := 4) (v := .int (M 0 0)) (C := RX4) (T := TX4) (N := 3) hx hb hts hinX4 hown hK hP 0 rfl rfl 0 (by decide) hw1 (fun _ h9 => h9) rfl dX4_isAtEnd_1 ?_
  refine lv_iconst (v := (3 : Int32)) hx hb dX4_isAtEnd_4 (by decide) ?_
  refine lv_icmp_ne (tgt := 12) hx hb dX4_isAtEnd_5 (by decide) (fun c9 => ?_) (fun c9 => ?_)
  · have hf := it_t hf c9
    refine lv_iconst (v := (0 : Int32)) hx hb dX4_isAtEnd_12 (by decide) ?_
    exact hfX4_isAtEnd_B13  (0 : Int32) hf _ (lv_sub hl [] rfl)
  · have hf := it_n hf c9
    refine lv_iconst (v := (1 : Int32)) hx hb dX4_isAtEnd_8 (by decide) ?_
    refine lv_goto (tgt := 13) hx hb dX4_isAtEnd_9 (by decide) ?_
    exact hfX4_isAtEnd_B13  (1 : Int32) hf _ (lv_sub hl [] rfl)
set_option maxHeartbeats 4000000 in
set_option maxRecDepth 100000 in
theorem c_X4_readComma (l : Launch) (dC : Nat → ClassId) (dI : Nat → Nat → Nat) (cI cZ : ClassId) (a : Nat → Nat) (sz : Nat) (M : Mem) (z : Int32 × Mem) (hf : fX4_readComma M  = some z) : Met l yX4_readComma wsX4_readComma ({ frames := 0, cells := 0, slots := 0, locals := 0 } : Room) (va_Pc [.ref (a 0)] (WR (dC, dI) cI cZ (wX4 cI cZ a M) sz)) (va_Qi (S := Unit) (fun r _ => r = z.1) (fun _ t => WE (dC, dI) cI cZ (wX4 cI cZ a (sr M 0 (z.2 0))) (va_A (wX4 cI cZ a M) sz) t) (va_A (wX4 cI cZ a M) sz)) 0 0 (va_A (wX4 cI cZ a M) sz) := by
  refine Met.ofW (cc := cX4_readComma) (maxL := 1) (ret := (some .boolean)) (by decide) rfl ?_
  intro p e s m args below meth c s₁ B hml hv
  obtain ⟨rfl, hsz, hP, hK, hD0, hNW⟩ := hv
  have hx := B.exec
  have hb := B.bytes
  have hr := B.returns
  have hts := atoms_spec (ws := wsX4_readComma) B.pre
  have hown : s.vm.findClass RX4 = some m.cls := findClass_of_methodNamed B.named
  have hlocks := B.notSynchronized
  have hinX4 : ∀ w ∈ u_ws RX4 TX4 3, w ∈ wsX4_readComma := by decide +kernel
  have hw1 := hts (.fieldLink RX4 11 "GlideShelves$OrderReader" "stage" "I") (by decide +kernel)
  have hw2 := hts (.fieldLink RX4 15 "GlideShelves$OrderReader" "kind" "I") (by decide +kernel)
  subst hsz
  have hD := hD0.self (sz := s.heap.size)
  generalize hAe : va_A (wX4 cI cZ a M) s.heap.size = A at hD ⊢
  have hA : ∀ q : Nat, s.heap.size ≤ q → A q := fun q h => by rw [← hAe]; exact Or.inr h
  have hS : va_S A s.heap s.heap [] := va_S.rf
  have hfX4_readComma_B19 : ∀ (N : Mem) (s0 : Int32), fX4_readComma_B19 M  N s0 = some z → ∀ (ls : Array Slot), lv_has ls 1 [] → ∀ (H : Heap) (locs : List Loc), va_P (dC, dI) vwCl (wX4 cI cZ a (sr M 0 (N 0))) H → va_D A (wX4 cI cZ a (sr M 0 (N 0))) → va_S A s.heap H locs → W p l e (headSpec wsX4_readComma ({ frames := 0, cells := 0, slots := 0, locals := 0 } : Room)).room s m ([.ref (a 0)] : List Value).toArray below meth c H locs 0 0 (MQ below (va_Qi (S := Unit) (fun r _ => r = z.1) (fun _ t => WE (dC, dI) cI cZ (wX4 cI cZ a (sr M 0 (z.2 0))) A t) A) ([.ref (a 0)] : List Value).toArray s 0 0 A) (F0 m 19 ls [.int s0]) := by
    intro  N s0 hf ls hl H locs hP hD hS
    unfold fX4_readComma_B19 at hf
    obtain ⟨hz, hf⟩ := gd_s hf
    have e9 := so_e hf
    subst e9
    exact W.zret (v := s0) hx hb hr (isb_nar hz) (fun t ht hW => ⟨⟨s0, (), rfl, rfl, WE.mk hP hD ht⟩, hS.F ht⟩) hS.2.2 dX4_readComma_19
  have hl := lv_entry ([.ref (a 0)]) (n := 1) (Nat.le_of_ble_eq_true rfl)
  rw [lg_entry_eq]
  generalize (lg_sl ([.ref (a 0)]) ++ List.replicate (1 - (lg_sl ([.ref (a 0)])).length) Slot.unset).toArray = ls at hl ⊢
  have hl : lv_has ls 1 [(0, .ref (a 0))] := hl
  unfold fX4_readComma at hf
  suffices hgo : ∀ (H : Heap) (locs : List Loc), va_P (dC, dI) vwCl (wX4 cI cZ a M) H → va_D A (wX4 cI cZ a M) → va_S A s.heap H locs → W p l e (headSpec wsX4_readComma ({ frames := 0, cells := 0, slots := 0, locals := 0 } : Room)).room s m ([.ref (a 0)] : List Value).toArray below meth c H locs 0 0 (MQ below (va_Qi (S := Unit) (fun r _ => r = z.1) (fun _ t => WE (dC, dI) cI cZ (wX4 cI cZ a (sr M 0 (z.2 0))) A t) A) ([.ref (a 0)] : List Value).toArray s 0 0 A) (F0 m 0 ls []) from hgo _ _ hP hD hS
  intro H locs hP hD hS
  refine lv_aload_n hx hb dX4_readComma_0 rfl (lv_at hl 0 rfl) ?_
  refine lv_iconst (v := (0 : Int32)) hx hb dX4_readComma_1 (by decide) ?_
  refine va_put (D := (dC, dI)) (ci := 4) (v := .int (0 : Int32)) (ty := .int) (C := RX4) (T := TX4) (N := 3) hx hb hts hinX4 tyX4 tyX4_ok nmX4 hown hK hP hD hS 0 rfl rfl 0 (by decide) hw1 (fun _ h9 => h9) rfl (by decide +kernel) rfl rfl (Nat.le_of_ble_eq_true rfl) dX4_readComma_2 (fun H locs hP hD hS => ?_)
  have hP : va_P (dC, dI) vwCl (wX4 cI cZ a (sr M 0 (upd (M 0) 0 (0 : Int32)))) H := hP
  have hD : va_D A (wX4 cI cZ a (sr M 0 (upd (M 0) 0 (0 : Int32)))) := hD
  refine lv_aload_n hx hb dX4_readComma_5 rfl (lv_at hl 0 rfl) ?_
  refine va_get (D := (dC, dI)) (ci := 4) (v := .int (M 0 1)) (C := RX4) (T := TX4) (N := 3) hx hb hts hinX4 hown hK hP 0 rfl rfl 1 (by decide) hw2 (fun _ h9 => h9) rfl dX4_readComma_6 ?_
  refine lv_bipush (v := (9 : Int32)) hx hb dX4_readComma_9 (by decide) ?_
  refine lv_icmp_ge (tgt := 18) hx hb dX4_readComma_11 (by decide) (fun c9 => ?_) (fun c9 => ?_)
  · have hf := it_t hf c9
    refine lv_iconst (v := (0 : Int32)) hx hb dX4_readComma_18 (by decide) ?_
    exact hfX4_readComma_B19  (sr M 0 (upd (M 0) 0 (0 : Int32))) (0 : Int32) hf _ (lv_sub hl [] rfl) _ _ hP hD hS
  · have hf := it_f hf c9
    refine lv_iconst (v := (1 : Int32)) hx hb dX4_readComma_14 (by decide) ?_
    refine lv_goto (tgt := 19) hx hb dX4_readComma_15 (by decide) ?_
    exact hfX4_readComma_B19  (sr M 0 (upd (M 0) 0 (0 : Int32))) (1 : Int32) hf _ (lv_sub hl [] rfl) _ _ hP hD hS
