set_option maxHeartbeats 4000000 in
set_option maxRecDepth 100000 in
theorem c_X9_thrown (l : Launch) (dC : Nat → ClassId) (dI : Nat → Nat → Nat) (cI cZ : ClassId) (a : Nat → Nat) (M : Mem) (z : Int32) (hf : fX9_thrown M  = some z) : Met l yX9_thrown wsX9_thrown ({ frames := 0, cells := 0, slots := 0, locals := 0 } : Room) (va_Pc [.ref (a 0)] (RO (dC, dI) cI cZ (wX9 cI cZ a M))) (k2_QcV (.int z)) 0 0 (fun _ => False) := by
  refine Met.ofW (cc := cX9_thrown) (maxL := 1) (ret := (some .int)) (by decide) rfl ?_
  intro p e s m args below meth c s₁ B hml hv
  obtain ⟨rfl, hP, hK, hNW⟩ := hv
  have hx := B.exec
  have hb := B.bytes
  have hr := B.returns
  have hts := atoms_spec (ws := wsX9_thrown) B.pre
  have hown : s.vm.findClass RX9 = some m.cls := findClass_of_methodNamed B.named
  have hlocks := B.notSynchronized
  have hinX9 : ∀ w ∈ u_ws RX9 TX9 13, w ∈ wsX9_thrown := by decide +kernel
  have hw1 := hts (.fieldLink RX9 35 "GlideShelvesModel" "thrown" "I") (by decide +kernel)
  have hl := lv_entry ([.ref (a 0)]) (n := 1) (Nat.le_of_ble_eq_true rfl)
  rw [lg_entry_eq]
  generalize (lg_sl ([.ref (a 0)]) ++ List.replicate (1 - (lg_sl ([.ref (a 0)])).length) Slot.unset).toArray = ls at hl ⊢
  have hl : lv_has ls 1 [(0, .ref (a 0))] := hl
  unfold fX9_thrown at hf
  refine lv_aload_n hx hb dX9_thrown_0 rfl (lv_at hl 0 rfl) ?_
  refine va_get (D := (dC, dI)) (ci := 9) (v := .int (M 0 0)) (C := RX9) (T := TX9) (N := 13) hx hb hts hinX9 hown hK hP 0 rfl rfl 0 (by decide) hw1 (fun _ h9 => h9) rfl dX9_thrown_1 ?_
  exact W.iret (v := (M 0 0)) hx hb hr (fun t ht hW => ⟨congrArg (fun x => Outcome.returned (some (Value.int x))) (so_e hf), ht⟩) fl0 dX9_thrown_4
set_option maxHeartbeats 4000000 in
set_option maxRecDepth 100000 in
theorem c_X9_fails (l : Launch) (dC : Nat → ClassId) (dI : Nat → Nat → Nat) (cI cZ : ClassId) (a : Nat → Nat) (sz : Nat) (M : Mem) (a1 : Int32) (z : Int32 × Mem) (hf : fX9_fails M a1 = some z) : Met l yX9_fails wsX9_fails ({ frames := 0, cells := 0, slots := 0, locals := 0 } : Room) (va_Pc [.ref (a 0), .int a1] (WR (dC, dI) cI cZ (wX9 cI cZ a M) sz)) (va_Qi (S := Unit) (fun r _ => r = z.1) (fun _ t => WE (dC, dI) cI cZ (wX9 cI cZ a (sr M 0 (z.2 0))) (va_A (wX9 cI cZ a M) sz) t) (va_A (wX9 cI cZ a M) sz)) 0 0 (va_A (wX9 cI cZ a M) sz) := by
  refine Met.ofW (cc := cX9_fails) (maxL := 2) (ret := (some .int)) (by decide) rfl ?_
  intro p e s m args below meth c s₁ B hml hv
  obtain ⟨rfl, hsz, hP, hK, hD0, hNW⟩ := hv
  have hx := B.exec
  have hb := B.bytes
  have hr := B.returns
  have hts := atoms_spec (ws := wsX9_fails) B.pre
  have hown : s.vm.findClass RX9 = some m.cls := findClass_of_methodNamed B.named
  have hlocks := B.notSynchronized
  have hinX9 : ∀ w ∈ u_ws RX9 TX9 13, w ∈ wsX9_fails := by decide +kernel
  have hw1 := hts (.fieldLink RX9 35 "GlideShelvesModel" "thrown" "I") (by decide +kernel)
  subst hsz
  have hD := hD0.self (sz := s.heap.size)
  generalize hAe : va_A (wX9 cI cZ a M) s.heap.size = A at hD ⊢
  have hA : ∀ q : Nat, s.heap.size ≤ q → A q := fun q h => by rw [← hAe]; exact Or.inr h
  have hS : va_S A s.heap s.heap [] := va_S.rf
  have hl := lv_entry ([.ref (a 0), .int a1]) (n := 2) (Nat.le_of_ble_eq_true rfl)
  rw [lg_entry_eq]
  generalize (lg_sl ([.ref (a 0), .int a1]) ++ List.replicate (2 - (lg_sl ([.ref (a 0), .int a1])).length) Slot.unset).toArray = ls at hl ⊢
  have hl : lv_has ls 2 [(0, .ref (a 0)), (1, .int a1)] := hl
  unfold fX9_fails at hf
  suffices hgo : ∀ (H : Heap) (locs : List Loc), va_P (dC, dI) vwCl (wX9 cI cZ a M) H → va_D A (wX9 cI cZ a M) → va_S A s.heap H locs → W p l e (headSpec wsX9_fails ({ frames := 0, cells := 0, slots := 0, locals := 0 } : Room)).room s m ([.ref (a 0), .int a1] : List Value).toArray below meth c H locs 0 0 (MQ below (va_Qi (S := Unit) (fun r _ => r = z.1) (fun _ t => WE (dC, dI) cI cZ (wX9 cI cZ a (sr M 0 (z.2 0))) A t) A) ([.ref (a 0), .int a1] : List Value).toArray s 0 0 A) (F0 m 0 ls []) from hgo _ _ hP hD hS
  intro H locs hP hD hS
  refine lv_aload_n hx hb dX9_fails_0 rfl (lv_at hl 0 rfl) ?_
  refine lv_iload_n hx hb dX9_fails_1 rfl (lv_at hl 1 rfl) ?_
  refine va_put (D := (dC, dI)) (ci := 9) (v := .int a1) (ty := .int) (C := RX9) (T := TX9) (N := 13) hx hb hts hinX9 tyX9 tyX9_ok nmX9 hown hK hP hD hS 0 rfl rfl 0 (by decide) hw1 (fun _ h9 => h9) rfl (by decide +kernel) rfl rfl (Nat.le_of_ble_eq_true rfl) dX9_fails_2 (fun H locs hP hD hS => ?_)
  have hP : va_P (dC, dI) vwCl (wX9 cI cZ a (sr M 0 (upd (M 0) 0 a1))) H := hP
  have hD : va_D A (wX9 cI cZ a (sr M 0 (upd (M 0) 0 a1))) := hD
  refine lv_iconst (v := (0 : Int32)) hx hb dX9_fails_5 (by decide) ?_
  have e9 := so_e hf
  subst e9
  exact W.iret (v := (0 : Int32)) hx hb hr (fun t ht hW => ⟨⟨(0 : Int32), (), rfl, rfl, WE.mk hP hD ht⟩, hS.F ht⟩) hS.2.2 dX9_fails_6
set_option maxHeartbeats 4000000 in
set_option maxRecDepth 100000 in
theorem c_X9_in (l : Launch) (a0 : Int32) (a1 : Int32) (a2 : Int32) (z : Int32) (hf : fX9_in a0 a1 a2 = some z) : Met l yX9_in wsX9_in ({ frames := 0, cells := 0, slots := 0, locals := 0 } : Room) (va_Pc [.int a0, .int a1, .int a2] (fun _ => True)) (k2_QcV (.int z)) 0 0 (fun _ => False) := by
  refine Met.ofW (cc := cX9_in) (maxL := 3) (ret := (some .boolean)) (by decide) rfl ?_
  intro p e s m args below meth c s₁ B hml hv
  obtain ⟨rfl, -⟩ := hv
  have hx := B.exec
  have hb := B.bytes
  have hr := B.returns
  have hts := atoms_spec (ws := wsX9_in) B.pre
  have hown : s.vm.findClass RX9 = some m.cls := findClass_of_methodNamed B.named
  have hlocks := B.notSynchronized
  have hfX9_in_B15 : ∀ (s0 : Int32), fX9_in_B15  s0 = some z → ∀ (ls : Array Slot), lv_has ls 3 [] → W p l e (headSpec wsX9_in ({ frames := 0, cells := 0, slots := 0, locals := 0 } : Room)).room s m ([.int a0, .int a1, .int a2] : List Value).toArray below meth c s.heap [] 0 0 (MQ below (k2_QcV (.int z)) ([.int a0, .int a1, .int a2] : List Value).toArray s 0 0 (fun _ => False)) (F0 m 15 ls [.int s0]) := by
    intro  s0 hf ls hl
    unfold fX9_in_B15 at hf
    obtain ⟨hz, hf⟩ := gd_s hf
    exact W.zret (v := s0) hx hb hr (isb_nar hz) (fun t ht hW => ⟨congrArg (fun x => Outcome.returned (some (Value.int x))) (so_e hf), ht⟩) fl0 dX9_in_15
  have hfX9_in_B14 : ∀ (_ : Unit), fX9_in_B14  () = some z → ∀ (ls : Array Slot), lv_has ls 3 [] → W p l e (headSpec wsX9_in ({ frames := 0, cells := 0, slots := 0, locals := 0 } : Room)).room s m ([.int a0, .int a1, .int a2] : List Value).toArray below meth c s.heap [] 0 0 (MQ below (k2_QcV (.int z)) ([.int a0, .int a1, .int a2] : List Value).toArray s 0 0 (fun _ => False)) (F0 m 14 ls []) := by
    intro  _ hf ls hl
    unfold fX9_in_B14 at hf
    refine lv_iconst (v := (0 : Int32)) hx hb dX9_in_14 (by decide) ?_
    exact hfX9_in_B15  (0 : Int32) hf _ (lv_sub hl [] rfl)
  have hl := lv_entry ([.int a0, .int a1, .int a2]) (n := 3) (Nat.le_of_ble_eq_true rfl)
  rw [lg_entry_eq]
  generalize (lg_sl ([.int a0, .int a1, .int a2]) ++ List.replicate (3 - (lg_sl ([.int a0, .int a1, .int a2])).length) Slot.unset).toArray = ls at hl ⊢
  have hl : lv_has ls 3 [(0, .int a0), (1, .int a1), (2, .int a2)] := hl
  unfold fX9_in at hf
  refine lv_iload_n hx hb dX9_in_0 rfl (lv_at hl 0 rfl) ?_
  refine lv_iload_n hx hb dX9_in_1 rfl (lv_at hl 1 rfl) ?_
  refine lv_icmp_lt (tgt := 14) hx hb dX9_in_2 (by decide) (fun c9 => ?_) (fun c9 => ?_)
  · have hf := it_t hf c9
    exact hfX9_in_B14  () hf _ (lv_sub hl [] rfl)
  · have hf := it_f hf c9
    refine lv_iload_n hx hb dX9_in_5 rfl (lv_at hl 0 rfl) ?_
    refine lv_iload_n hx hb dX9_in_6 rfl (lv_at hl 2 rfl) ?_
    refine lv_icmp_gt (tgt := 14) hx hb dX9_in_7 (by decide) (fun c9 => ?_) (fun c9 => ?_)
    · have hf := it_t hf c9
      exact hfX9_in_B14  () hf _ (lv_sub hl [] rfl)
    · have hf := it_f hf c9
      refine lv_iconst (v := (1 : Int32)) hx hb dX9_in_10 (by decide) ?_
      refine lv_goto (tgt := 15) hx hb dX9_in_11 (by decide) ?_
      exact hfX9_in_B15  (1 : Int32) hf _ (lv_sub hl [] rfl)
set_option maxHeartbeats 4000000 in
set_option maxRecDepth 100000 in
theorem c_X9_isShelf (l : Launch) (dC : Nat → ClassId) (dI : Nat → Nat → Nat) (cI cZ : ClassId) (a : Nat → Nat) (M : Mem) (a1 : Int32) (z : Int32) (hf : fX9_isShelf M a1 = some z) : Met l yX9_isShelf wsX9_isShelf ({ frames := 1, cells := 0, slots := 0, locals := 22 } : Room) (va_Pc [.ref (a 0), .int a1] (RO (dC, dI) cI cZ (wX9 cI cZ a M))) (k2_QcV (.int z)) 0 0 (fun _ => False) := by
  refine Met.ofW (cc := cX9_isShelf) (maxL := 2) (ret := (some .boolean)) (by decide) rfl ?_
  intro p e s m args below meth c s₁ B hml hv
  obtain ⟨rfl, hP, hK, hNW⟩ := hv
  have hx := B.exec
  have hb := B.bytes
  have hr := B.returns
  have hts := atoms_spec (ws := wsX9_isShelf) B.pre
  have hown : s.vm.findClass RX9 = some m.cls := findClass_of_methodNamed B.named
  have hlocks := B.notSynchronized
  have hinX9 : ∀ w ∈ u_ws RX9 TX9 13, w ∈ wsX9_isShelf := by decide +kernel
  have hw1 := hts (.fieldLink RX9 7 "GlideShelvesModel" "s" "[I") (by decide +kernel)
  have hl := lv_entry ([.ref (a 0), .int a1]) (n := 2) (Nat.le_of_ble_eq_true rfl)
  rw [lg_entry_eq]
  generalize (lg_sl ([.ref (a 0), .int a1]) ++ List.replicate (2 - (lg_sl ([.ref (a 0), .int a1])).length) Slot.unset).toArray = ls at hl ⊢
  have hl : lv_has ls 2 [(0, .ref (a 0)), (1, .int a1)] := hl
  unfold fX9_isShelf at hf
  refine lv_iload_n hx hb dX9_isShelf_0 rfl (lv_at hl 1 rfl) ?_
  refine lv_iconst (v := (0 : Int32)) hx hb dX9_isShelf_1 (by decide) ?_
  refine lv_aload_n hx hb dX9_isShelf_2 rfl (lv_at hl 0 rfl) ?_
  refine va_get (D := (dC, dI)) (ci := 9) (v := .ref (a 1)) (C := RX9) (T := TX9) (N := 13) hx hb hts hinX9 hown hK hP 0 rfl rfl 1 (by decide) hw1 (fun _ h9 => h9) rfl dX9_isShelf_3 ?_
  refine lv_iconst (v := (0 : Int32)) hx hb dX9_isShelf_6 (by decide) ?_
  obtain ⟨hi, hf⟩ := gd_s hf
  refine va_iald (D := (dC, dI)) (f := (M 1)) hx hb hK hP 1 0 rfl rfl (inb_in hi) dX9_isShelf_7 ?_
  refine lv_iconst (v := (1 : Int32)) hx hb dX9_isShelf_8 (by decide) ?_
  refine lv_isub hx hb dX9_isShelf_9 ?_
  obtain ⟨r10, hc10, hf⟩ := bi_s hf
  refine cRO (W.runS (As := [.int a1, .int (0 : Int32), .int ((M 1 (0 : Int32).toNatClampNeg) - (1 : Int32))]) (rest := []) ⟨hx, hb, hml, hown, hts⟩ (c_X9_in l a1 (0 : Int32) ((M 1 (0 : Int32).toNatClampNeg) - (1 : Int32)) r10 hc10) (va_cwS 3 hts gX9_isShelf_X9_in rfl rfl rfl (by decide +kernel) ⟨Nat.le_of_ble_eq_true rfl, Nat.le_of_ble_eq_true rfl⟩) ⟨tr_blind, tr_pre⟩ rfl rfl hl.1 rfl (lv_room (Nat.le_of_ble_eq_true rfl)) dX9_isShelf_10 ⟨Nat.le_of_ble_eq_true rfl, Nat.le_of_ble_eq_true rfl⟩) ?_
  obtain ⟨hz, hf⟩ := gd_s hf
  exact W.zret (v := r10) hx hb hr (isb_nar hz) (fun t ht hW => ⟨congrArg (fun x => Outcome.returned (some (Value.int x))) (so_e hf), ht⟩) fl0 dX9_isShelf_13
set_option maxHeartbeats 4000000 in
set_option maxRecDepth 100000 in
theorem c_X9_isKind (l : Launch) (a0 : Int32) (z : Int32) (hf : fX9_isKind a0 = some z) : Met l yX9_isKind wsX9_isKind ({ frames := 1, cells := 0, slots := 0, locals := 22 } : Room) (va_Pc [.int a0] (fun _ => True)) (k2_QcV (.int z)) 0 0 (fun _ => False) := by
  refine Met.ofW (cc := cX9_isKind) (maxL := 1) (ret := (some .boolean)) (by decide) rfl ?_
  intro p e s m args below meth c s₁ B hml hv
  obtain ⟨rfl, -⟩ := hv
  have hx := B.exec
  have hb := B.bytes
  have hr := B.returns
  have hts := atoms_spec (ws := wsX9_isKind) B.pre
  have hown : s.vm.findClass RX9 = some m.cls := findClass_of_methodNamed B.named
  have hlocks := B.notSynchronized
  have hl := lv_entry ([.int a0]) (n := 1) (Nat.le_of_ble_eq_true rfl)
  rw [lg_entry_eq]
  generalize (lg_sl ([.int a0]) ++ List.replicate (1 - (lg_sl ([.int a0])).length) Slot.unset).toArray = ls at hl ⊢
  have hl : lv_has ls 1 [(0, .int a0)] := hl
  unfold fX9_isKind at hf
  refine lv_iload_n hx hb dX9_isKind_0 rfl (lv_at hl 0 rfl) ?_
  refine lv_iconst (v := (0 : Int32)) hx hb dX9_isKind_1 (by decide) ?_
  refine lv_bipush (v := (9 : Int32)) hx hb dX9_isKind_2 (by decide) ?_
  obtain ⟨r4, hc4, hf⟩ := bi_s hf
  refine cRO (W.runS (As := [.int a0, .int (0 : Int32), .int (9 : Int32)]) (rest := []) ⟨hx, hb, hml, hown, hts⟩ (c_X9_in l a0 (0 : Int32) (9 : Int32) r4 hc4) (va_cwS 3 hts gX9_isKind_X9_in rfl rfl rfl (by decide +kernel) ⟨Nat.le_of_ble_eq_true rfl, Nat.le_of_ble_eq_true rfl⟩) ⟨tr_blind, tr_pre⟩ rfl rfl hl.1 rfl (lv_room (Nat.le_of_ble_eq_true rfl)) dX9_isKind_4 ⟨Nat.le_of_ble_eq_true rfl, Nat.le_of_ble_eq_true rfl⟩) ?_
  obtain ⟨hz, hf⟩ := gd_s hf
  exact W.zret (v := r4) hx hb hr (isb_nar hz) (fun t ht hW => ⟨congrArg (fun x => Outcome.returned (some (Value.int x))) (so_e hf), ht⟩) fl0 dX9_isKind_7
set_option maxHeartbeats 4000000 in
set_option maxRecDepth 100000 in
theorem c_X9_isOrder (l : Launch) (dC : Nat → ClassId) (dI : Nat → Nat → Nat) (cI cZ : ClassId) (a : Nat → Nat) (M : Mem) (a1 : Int32) (z : Int32) (hf : fX9_isOrder M a1 = some z) : Met l yX9_isOrder wsX9_isOrder ({ frames := 1, cells := 0, slots := 0, locals := 22 } : Room) (va_Pc [.ref (a 0), .int a1] (RO (dC, dI) cI cZ (wX9 cI cZ a M))) (k2_QcV (.int z)) 0 0 (fun _ => False) := by
  refine Met.ofW (cc := cX9_isOrder) (maxL := 2) (ret := (some .boolean)) (by decide) rfl ?_
  intro p e s m args below meth c s₁ B hml hv
  obtain ⟨rfl, hP, hK, hNW⟩ := hv
  have hx := B.exec
  have hb := B.bytes
  have hr := B.returns
  have hts := atoms_spec (ws := wsX9_isOrder) B.pre
  have hown : s.vm.findClass RX9 = some m.cls := findClass_of_methodNamed B.named
  have hlocks := B.notSynchronized
  have hinX9 : ∀ w ∈ u_ws RX9 TX9 13, w ∈ wsX9_isOrder := by decide +kernel
  have hw1 := hts (.fieldLink RX9 7 "GlideShelvesModel" "s" "[I") (by decide +kernel)
  have hl := lv_entry ([.ref (a 0), .int a1]) (n := 2) (Nat.le_of_ble_eq_true rfl)
  rw [lg_entry_eq]
  generalize (lg_sl ([.ref (a 0), .int a1]) ++ List.replicate (2 - (lg_sl ([.ref (a 0), .int a1])).length) Slot.unset).toArray = ls at hl ⊢
  have hl : lv_has ls 2 [(0, .ref (a 0)), (1, .int a1)] := hl
  unfold fX9_isOrder at hf
  refine lv_iload_n hx hb dX9_isOrder_0 rfl (lv_at hl 1 rfl) ?_
  refine lv_iconst (v := (0 : Int32)) hx hb dX9_isOrder_1 (by decide) ?_
  refine lv_aload_n hx hb dX9_isOrder_2 rfl (lv_at hl 0 rfl) ?_
  refine va_get (D := (dC, dI)) (ci := 9) (v := .ref (a 1)) (C := RX9) (T := TX9) (N := 13) hx hb hts hinX9 hown hK hP 0 rfl rfl 1 (by decide) hw1 (fun _ h9 => h9) rfl dX9_isOrder_3 ?_
  refine lv_bipush (v := (8 : Int32)) hx hb dX9_isOrder_6 (by decide) ?_
  obtain ⟨hi, hf⟩ := gd_s hf
  refine va_iald (D := (dC, dI)) (f := (M 1)) hx hb hK hP 1 0 rfl rfl (inb_in hi) dX9_isOrder_8 ?_
  refine lv_iconst (v := (1 : Int32)) hx hb dX9_isOrder_9 (by decide) ?_
  refine lv_isub hx hb dX9_isOrder_10 ?_
  obtain ⟨r11, hc11, hf⟩ := bi_s hf
  refine cRO (W.runS (As := [.int a1, .int (0 : Int32), .int ((M 1 (8 : Int32).toNatClampNeg) - (1 : Int32))]) (rest := []) ⟨hx, hb, hml, hown, hts⟩ (c_X9_in l a1 (0 : Int32) ((M 1 (8 : Int32).toNatClampNeg) - (1 : Int32)) r11 hc11) (va_cwS 3 hts gX9_isOrder_X9_in rfl rfl rfl (by decide +kernel) ⟨Nat.le_of_ble_eq_true rfl, Nat.le_of_ble_eq_true rfl⟩) ⟨tr_blind, tr_pre⟩ rfl rfl hl.1 rfl (lv_room (Nat.le_of_ble_eq_true rfl)) dX9_isOrder_11 ⟨Nat.le_of_ble_eq_true rfl, Nat.le_of_ble_eq_true rfl⟩) ?_
  obtain ⟨hz, hf⟩ := gd_s hf
  exact W.zret (v := r11) hx hb hr (isb_nar hz) (fun t ht hW => ⟨congrArg (fun x => Outcome.returned (some (Value.int x))) (so_e hf), ht⟩) fl0 dX9_isOrder_14
set_option maxHeartbeats 4000000 in
set_option maxRecDepth 100000 in
theorem c_X9_isSpot (l : Launch) (a0 : Int32) (a1 : Int32) (z : Int32) (hf : fX9_isSpot a0 a1 = some z) : Met l yX9_isSpot wsX9_isSpot ({ frames := 1, cells := 0, slots := 0, locals := 22 } : Room) (va_Pc [.int a0, .int a1] (fun _ => True)) (k2_QcV (.int z)) 0 0 (fun _ => False) := by
  refine Met.ofW (cc := cX9_isSpot) (maxL := 2) (ret := (some .boolean)) (by decide) rfl ?_
  intro p e s m args below meth c s₁ B hml hv
  obtain ⟨rfl, -⟩ := hv
  have hx := B.exec
  have hb := B.bytes
  have hr := B.returns
  have hts := atoms_spec (ws := wsX9_isSpot) B.pre
  have hown : s.vm.findClass RX9 = some m.cls := findClass_of_methodNamed B.named
  have hlocks := B.notSynchronized
  have hfX9_isSpot_B24 : ∀ (s0 : Int32), fX9_isSpot_B24  s0 = some z → ∀ (ls : Array Slot), lv_has ls 2 [] → W p l e (headSpec wsX9_isSpot ({ frames := 1, cells := 0, slots := 0, locals := 22 } : Room)).room s m ([.int a0, .int a1] : List Value).toArray below meth c s.heap [] 0 0 (MQ below (k2_QcV (.int z)) ([.int a0, .int a1] : List Value).toArray s 0 0 (fun _ => False)) (F0 m 24 ls [.int s0]) := by
    intro  s0 hf ls hl
    unfold fX9_isSpot_B24 at hf
    obtain ⟨hz, hf⟩ := gd_s hf
    exact W.zret (v := s0) hx hb hr (isb_nar hz) (fun t ht hW => ⟨congrArg (fun x => Outcome.returned (some (Value.int x))) (so_e hf), ht⟩) fl0 dX9_isSpot_24
  have hfX9_isSpot_B23 : ∀ (_ : Unit), fX9_isSpot_B23  () = some z → ∀ (ls : Array Slot), lv_has ls 2 [] → W p l e (headSpec wsX9_isSpot ({ frames := 1, cells := 0, slots := 0, locals := 22 } : Room)).room s m ([.int a0, .int a1] : List Value).toArray below meth c s.heap [] 0 0 (MQ below (k2_QcV (.int z)) ([.int a0, .int a1] : List Value).toArray s 0 0 (fun _ => False)) (F0 m 23 ls []) := by
    intro  _ hf ls hl
    unfold fX9_isSpot_B23 at hf
    refine lv_iconst (v := (0 : Int32)) hx hb dX9_isSpot_23 (by decide) ?_
    exact hfX9_isSpot_B24  (0 : Int32) hf _ (lv_sub hl [] rfl)
  have hl := lv_entry ([.int a0, .int a1]) (n := 2) (Nat.le_of_ble_eq_true rfl)
  rw [lg_entry_eq]
  generalize (lg_sl ([.int a0, .int a1]) ++ List.replicate (2 - (lg_sl ([.int a0, .int a1])).length) Slot.unset).toArray = ls at hl ⊢
  have hl : lv_has ls 2 [(0, .int a0), (1, .int a1)] := hl
  unfold fX9_isSpot at hf
  refine lv_iload_n hx hb dX9_isSpot_0 rfl (lv_at hl 0 rfl) ?_
  refine lv_iconst (v := (0 : Int32)) hx hb dX9_isSpot_1 (by decide) ?_
  refine lv_iconst (v := (1 : Int32)) hx hb dX9_isSpot_2 (by decide) ?_
  obtain ⟨r3, hc3, hf⟩ := bi_s hf
  refine cRO (W.runS (As := [.int a0, .int (0 : Int32), .int (1 : Int32)]) (rest := []) ⟨hx, hb, hml, hown, hts⟩ (c_X9_in l a0 (0 : Int32) (1 : Int32) r3 hc3) (va_cwS 3 hts gX9_isSpot_X9_in rfl rfl rfl (by decide +kernel) ⟨Nat.le_of_ble_eq_true rfl, Nat.le_of_ble_eq_true rfl⟩) ⟨tr_blind, tr_pre⟩ rfl rfl hl.1 rfl (lv_room (Nat.le_of_ble_eq_true rfl)) dX9_isSpot_3 ⟨Nat.le_of_ble_eq_true rfl, Nat.le_of_ble_eq_true rfl⟩) ?_
  refine lv_if_eq (tgt := 23) hx hb dX9_isSpot_6 (by decide) (fun c9 => ?_) (fun c9 => ?_)
  · have hf := it_t hf c9
    exact hfX9_isSpot_B23  () hf _ (lv_sub hl [] rfl)
  · have hf := it_f hf c9
    refine lv_iload_n hx hb dX9_isSpot_9 rfl (lv_at hl 1 rfl) ?_
    refine lv_iconst (v := (0 : Int32)) hx hb dX9_isSpot_10 (by decide) ?_
    refine lv_bipush (v := (19 : Int32)) hx hb dX9_isSpot_11 (by decide) ?_
    obtain ⟨r13, hc13, hf⟩ := bi_s hf
    refine cRO (W.runS (As := [.int a1, .int (0 : Int32), .int (19 : Int32)]) (rest := []) ⟨hx, hb, hml, hown, hts⟩ (c_X9_in l a1 (0 : Int32) (19 : Int32) r13 hc13) (va_cwS 3 hts gX9_isSpot_X9_in rfl rfl rfl (by decide +kernel) ⟨Nat.le_of_ble_eq_true rfl, Nat.le_of_ble_eq_true rfl⟩) ⟨tr_blind, tr_pre⟩ rfl rfl hl.1 rfl (lv_room (Nat.le_of_ble_eq_true rfl)) dX9_isSpot_13 ⟨Nat.le_of_ble_eq_true rfl, Nat.le_of_ble_eq_true rfl⟩) ?_
    refine lv_if_eq (tgt := 23) hx hb dX9_isSpot_16 (by decide) (fun c9 => ?_) (fun c9 => ?_)
    · have hf := it_t hf c9
      exact hfX9_isSpot_B23  () hf _ (lv_sub hl [] rfl)
    · have hf := it_f hf c9
      refine lv_iconst (v := (1 : Int32)) hx hb dX9_isSpot_19 (by decide) ?_
      refine lv_goto (tgt := 24) hx hb dX9_isSpot_20 (by decide) ?_
      exact hfX9_isSpot_B24  (1 : Int32) hf _ (lv_sub hl [] rfl)
set_option maxHeartbeats 4000000 in
set_option maxRecDepth 100000 in
theorem c_X9_of (l : Launch) (dC : Nat → ClassId) (dI : Nat → Nat → Nat) (cI cZ : ClassId) (a : Nat → Nat) (M : Mem) (a1 : Int32) (a2 : Int32) (z : Int32) (hf : fX9_of M a1 a2 = some z) : Met l yX9_of wsX9_of ({ frames := 0, cells := 0, slots := 0, locals := 0 } : Room) (va_Pc [.ref (a 0), .int a1, .int a2] (RO (dC, dI) cI cZ (wX9 cI cZ a M))) (k2_QcV (.int z)) 0 0 (fun _ => False) := by
  refine Met.ofW (cc := cX9_of) (maxL := 3) (ret := (some .int)) (by decide) rfl ?_
  intro p e s m args below meth c s₁ B hml hv
  obtain ⟨rfl, hP, hK, hNW⟩ := hv
  have hx := B.exec
  have hb := B.bytes
  have hr := B.returns
  have hts := atoms_spec (ws := wsX9_of) B.pre
  have hown : s.vm.findClass RX9 = some m.cls := findClass_of_methodNamed B.named
  have hlocks := B.notSynchronized
  have hinX9 : ∀ w ∈ u_ws RX9 TX9 13, w ∈ wsX9_of := by decide +kernel
  have hw1 := hts (.fieldLink RX9 7 "GlideShelvesModel" "s" "[I") (by decide +kernel)
  have hl := lv_entry ([.ref (a 0), .int a1, .int a2]) (n := 3) (Nat.le_of_ble_eq_true rfl)
  rw [lg_entry_eq]
  generalize (lg_sl ([.ref (a 0), .int a1, .int a2]) ++ List.replicate (3 - (lg_sl ([.ref (a 0), .int a1, .int a2])).length) Slot.unset).toArray = ls at hl ⊢
  have hl : lv_has ls 3 [(0, .ref (a 0)), (1, .int a1), (2, .int a2)] := hl
  unfold fX9_of at hf
  refine lv_aload_n hx hb dX9_of_0 rfl (lv_at hl 0 rfl) ?_
  refine va_get (D := (dC, dI)) (ci := 9) (v := .ref (a 1)) (C := RX9) (T := TX9) (N := 13) hx hb hts hinX9 hown hK hP 0 rfl rfl 1 (by decide) hw1 (fun _ h9 => h9) rfl dX9_of_1 ?_
  refine lv_bipush (v := (9 : Int32)) hx hb dX9_of_4 (by decide) ?_
  refine lv_bipush (v := (14 : Int32)) hx hb dX9_of_6 (by decide) ?_
  refine lv_iload_n hx hb dX9_of_8 rfl (lv_at hl 1 rfl) ?_
  refine lv_imul hx hb dX9_of_9 ?_
  refine lv_iadd hx hb dX9_of_10 ?_
  refine lv_iload_n hx hb dX9_of_11 rfl (lv_at hl 2 rfl) ?_
  refine lv_iadd hx hb dX9_of_12 ?_
  obtain ⟨hi, hf⟩ := gd_s hf
  refine va_iald (D := (dC, dI)) (f := (M 1)) hx hb hK hP 1 0 rfl rfl (inb_in hi) dX9_of_13 ?_
  exact W.iret (v := (M 1 (((9 : Int32) + ((14 : Int32) * a1)) + a2).toNatClampNeg)) hx hb hr (fun t ht hW => ⟨congrArg (fun x => Outcome.returned (some (Value.int x))) (so_e hf), ht⟩) fl0 dX9_of_14
set_option maxHeartbeats 4000000 in
set_option maxRecDepth 100000 in
theorem c_X9_lay (l : Launch) (dC : Nat → ClassId) (dI : Nat → Nat → Nat) (cI cZ : ClassId) (a : Nat → Nat) (sz : Nat) (M : Mem) (a1 : Int32) (a2 : Int32) (a3 : Int32) (z : Mem) (hf : fX9_lay M a1 a2 a3 = some z) : Met l yX9_lay wsX9_lay ({ frames := 0, cells := 0, slots := 0, locals := 0 } : Room) (va_Pc [.ref (a 0), .int a1, .int a2, .int a3] (WR (dC, dI) cI cZ (wX9 cI cZ a M) sz)) (va_Qv (S := Unit) (fun _ => True) (fun _ t => WE (dC, dI) cI cZ (wX9 cI cZ a (sr M 1 (z 1))) (va_A (wX9 cI cZ a M) sz) t) (va_A (wX9 cI cZ a M) sz)) 0 0 (va_A (wX9 cI cZ a M) sz) := by
  refine Met.ofW (cc := cX9_lay) (maxL := 4) (ret := none) (by decide) rfl ?_
  intro p e s m args below meth c s₁ B hml hv
  obtain ⟨rfl, hsz, hP, hK, hD0, hNW⟩ := hv
  have hx := B.exec
  have hb := B.bytes
  have hr := B.returns
  have hts := atoms_spec (ws := wsX9_lay) B.pre
  have hown : s.vm.findClass RX9 = some m.cls := findClass_of_methodNamed B.named
  have hlocks := B.notSynchronized
  have hinX9 : ∀ w ∈ u_ws RX9 TX9 13, w ∈ wsX9_lay := by decide +kernel
  have hw1 := hts (.fieldLink RX9 7 "GlideShelvesModel" "s" "[I") (by decide +kernel)
  subst hsz
  have hD := hD0.self (sz := s.heap.size)
  generalize hAe : va_A (wX9 cI cZ a M) s.heap.size = A at hD ⊢
  have hA : ∀ q : Nat, s.heap.size ≤ q → A q := fun q h => by rw [← hAe]; exact Or.inr h
  have hS : va_S A s.heap s.heap [] := va_S.rf
  have hl := lv_entry ([.ref (a 0), .int a1, .int a2, .int a3]) (n := 4) (Nat.le_of_ble_eq_true rfl)
  rw [lg_entry_eq]
  generalize (lg_sl ([.ref (a 0), .int a1, .int a2, .int a3]) ++ List.replicate (4 - (lg_sl ([.ref (a 0), .int a1, .int a2, .int a3])).length) Slot.unset).toArray = ls at hl ⊢
  have hl : lv_has ls 4 [(0, .ref (a 0)), (1, .int a1), (2, .int a2), (3, .int a3)] := hl
  unfold fX9_lay at hf
  suffices hgo : ∀ (H : Heap) (locs : List Loc), va_P (dC, dI) vwCl (wX9 cI cZ a M) H → va_D A (wX9 cI cZ a M) → va_S A s.heap H locs → W p l e (headSpec wsX9_lay ({ frames := 0, cells := 0, slots := 0, locals := 0 } : Room)).room s m ([.ref (a 0), .int a1, .int a2, .int a3] : List Value).toArray below meth c H locs 0 0 (MQ below (va_Qv (S := Unit) (fun _ => True) (fun _ t => WE (dC, dI) cI cZ (wX9 cI cZ a (sr M 1 (z 1))) A t) A) ([.ref (a 0), .int a1, .int a2, .int a3] : List Value).toArray s 0 0 A) (F0 m 0 ls []) from hgo _ _ hP hD hS
  intro H locs hP hD hS
  refine lv_aload_n hx hb dX9_lay_0 rfl (lv_at hl 0 rfl) ?_
  refine va_get (D := (dC, dI)) (ci := 9) (v := .ref (a 1)) (C := RX9) (T := TX9) (N := 13) hx hb hts hinX9 hown hK hP 0 rfl rfl 1 (by decide) hw1 (fun _ h9 => h9) rfl dX9_lay_1 ?_
  refine lv_bipush (v := (9 : Int32)) hx hb dX9_lay_4 (by decide) ?_
  refine lv_bipush (v := (14 : Int32)) hx hb dX9_lay_6 (by decide) ?_
  refine lv_iload_n hx hb dX9_lay_8 rfl (lv_at hl 1 rfl) ?_
  refine lv_imul hx hb dX9_lay_9 ?_
  refine lv_iadd hx hb dX9_lay_10 ?_
  refine lv_iload_n hx hb dX9_lay_11 rfl (lv_at hl 2 rfl) ?_
  refine lv_iadd hx hb dX9_lay_12 ?_
  refine lv_iload_n hx hb dX9_lay_13 rfl (lv_at hl 3 rfl) ?_
  obtain ⟨hi, hf⟩ := gd_s hf
  refine va_iast (D := (dC, dI)) (f := (M 1)) hx hb hK hP hD hS 1 0 rfl rfl (inb_in hi) dX9_lay_14 (fun H locs hP hD hS => ?_)
  have hP : va_P (dC, dI) vwCl (wX9 cI cZ a (sr M 1 (upd (M 1) (((9 : Int32) + ((14 : Int32) * a1)) + a2).toNatClampNeg a3))) H := hP
  have hD : va_D A (wX9 cI cZ a (sr M 1 (upd (M 1) (((9 : Int32) + ((14 : Int32) * a1)) + a2).toNatClampNeg a3))) := hD
  have e9 := so_e hf
  subst e9
  exact W.vret hx hb hr (fun t ht hW => ⟨⟨(), rfl, trivial, WE.mk hP hD ht⟩, hS.F ht⟩) hS.2.2 dX9_lay_15
set_option maxHeartbeats 4000000 in
set_option maxRecDepth 100000 in
theorem c_X9_hasWindow (l : Launch) (dC : Nat → ClassId) (dI : Nat → Nat → Nat) (cI cZ : ClassId) (a : Nat → Nat) (M : Mem) (z : Int32) (hf : fX9_hasWindow M  = some z) : Met l yX9_hasWindow wsX9_hasWindow ({ frames := 0, cells := 0, slots := 0, locals := 0 } : Room) (va_Pc [.ref (a 0)] (RO (dC, dI) cI cZ (wX9 cI cZ a M))) (k2_QcV (.int z)) 0 0 (fun _ => False) := by
  refine Met.ofW (cc := cX9_hasWindow) (maxL := 1) (ret := (some .boolean)) (by decide) rfl ?_
  intro p e s m args below meth c s₁ B hml hv
  obtain ⟨rfl, hP, hK, hNW⟩ := hv
  have hx := B.exec
  have hb := B.bytes
  have hr := B.returns
  have hts := atoms_spec (ws := wsX9_hasWindow) B.pre
  have hown : s.vm.findClass RX9 = some m.cls := findClass_of_methodNamed B.named
  have hlocks := B.notSynchronized
  have hinX9 : ∀ w ∈ u_ws RX9 TX9 13, w ∈ wsX9_hasWindow := by decide +kernel
  have hw1 := hts (.fieldLink RX9 7 "GlideShelvesModel" "s" "[I") (by decide +kernel)
  have hfX9_hasWindow_B15 : ∀ (s0 : Int32), fX9_hasWindow_B15 M  s0 = some z → ∀ (ls : Array Slot), lv_has ls 1 [] → W p l e (headSpec wsX9_hasWindow ({ frames := 0, cells := 0, slots := 0, locals := 0 } : Room)).room s m ([.ref (a 0)] : List Value).toArray below meth c s.heap [] 0 0 (MQ below (k2_QcV (.int z)) ([.ref (a 0)] : List Value).toArray s 0 0 (fun _ => False)) (F0 m 15 ls [.int s0]) := by
    intro  s0 hf ls hl
    unfold fX9_hasWindow_B15 at hf
    obtain ⟨hz, hf⟩ := gd_s hf
    exact W.zret (v := s0) hx hb hr (isb_nar hz) (fun t ht hW => ⟨congrArg (fun x => Outcome.returned (some (Value.int x))) (so_e hf), ht⟩) fl0 dX9_hasWindow_15
  have hl := lv_entry ([.ref (a 0)]) (n := 1) (Nat.le_of_ble_eq_true rfl)
  rw [lg_entry_eq]
  generalize (lg_sl ([.ref (a 0)]) ++ List.replicate (1 - (lg_sl ([.ref (a 0)])).length) Slot.unset).toArray = ls at hl ⊢
  have hl : lv_has ls 1 [(0, .ref (a 0))] := hl
  unfold fX9_hasWindow at hf
  refine lv_aload_n hx hb dX9_hasWindow_0 rfl (lv_at hl 0 rfl) ?_
  refine va_get (D := (dC, dI)) (ci := 9) (v := .ref (a 1)) (C := RX9) (T := TX9) (N := 13) hx hb hts hinX9 hown hK hP 0 rfl rfl 1 (by decide) hw1 (fun _ h9 => h9) rfl dX9_hasWindow_1 ?_
  refine lv_iconst (v := (1 : Int32)) hx hb dX9_hasWindow_4 (by decide) ?_
  obtain ⟨hi, hf⟩ := gd_s hf
  refine va_iald (D := (dC, dI)) (f := (M 1)) hx hb hK hP 1 0 rfl rfl (inb_in hi) dX9_hasWindow_5 ?_
  refine lv_iconst (v := (-1 : Int32)) hx hb dX9_hasWindow_6 (by decide) ?_
  refine lv_icmp_eq (tgt := 14) hx hb dX9_hasWindow_7 (by decide) (fun c9 => ?_) (fun c9 => ?_)
  · have hf := it_t hf c9
    refine lv_iconst (v := (0 : Int32)) hx hb dX9_hasWindow_14 (by decide) ?_
    exact hfX9_hasWindow_B15  (0 : Int32) hf _ (lv_sub hl [] rfl)
  · have hf := it_f hf c9
    refine lv_iconst (v := (1 : Int32)) hx hb dX9_hasWindow_10 (by decide) ?_
    refine lv_goto (tgt := 15) hx hb dX9_hasWindow_11 (by decide) ?_
    exact hfX9_hasWindow_B15  (1 : Int32) hf _ (lv_sub hl [] rfl)
set_option maxHeartbeats 4000000 in
set_option maxRecDepth 100000 in
theorem c_X9_records (l : Launch) (dC : Nat → ClassId) (dI : Nat → Nat → Nat) (cI cZ : ClassId) (a : Nat → Nat) (sz : Nat) (M : Mem) (z : Mem) (hf : fX9_records M  = some z) : Met l yX9_records wsX9_records ({ frames := 0, cells := 0, slots := 0, locals := 0 } : Room) (va_Pc [.ref (a 0)] (WR (dC, dI) cI cZ (wX9 cI cZ a M) sz)) (va_Qv (S := Unit) (fun _ => True) (fun _ t => WE (dC, dI) cI cZ (wX9 cI cZ a (sr (sr M 0 (z 0)) 3 (z 3))) (va_A (wX9 cI cZ a M) sz) t) (va_A (wX9 cI cZ a M) sz)) 0 0 (va_A (wX9 cI cZ a M) sz) := by
  refine Met.ofW (cc := cX9_records) (maxL := 2) (ret := none) (by decide) rfl ?_
  intro p e s m args below meth c s₁ B hml hv
  obtain ⟨rfl, hsz, hP, hK, hD0, hNW⟩ := hv
  have hx := B.exec
  have hb := B.bytes
  have hr := B.returns
  have hts := atoms_spec (ws := wsX9_records) B.pre
  have hown : s.vm.findClass RX9 = some m.cls := findClass_of_methodNamed B.named
  have hlocks := B.notSynchronized
  have hinX9 : ∀ w ∈ u_ws RX9 TX9 13, w ∈ wsX9_records := by decide +kernel
  have hw1 := hts (.fieldLink RX9 43 "GlideShelvesModel" "stateMany" "I") (by decide +kernel)
  have hw2 := hts (.fieldLink RX9 16 "GlideShelvesModel" "states" "[I") (by decide +kernel)
  have hw3 := hts (.fieldLink RX9 7 "GlideShelvesModel" "s" "[I") (by decide +kernel)
  subst hsz
  have hD := hD0.self (sz := s.heap.size)
  generalize hAe : va_A (wX9 cI cZ a M) s.heap.size = A at hD ⊢
  have hA : ∀ q : Nat, s.heap.size ≤ q → A q := fun q h => by rw [← hAe]; exact Or.inr h
  have hS : va_S A s.heap s.heap [] := va_S.rf
  have hfX9_records_L52 : ∀ (n : Nat) (kx86 : Mem → Option (Mem)) (hkx86 : ∀ (N : Mem), kx86 N = some z → ∀ (ls : Array Slot), lv_has ls 2 [(0, .ref (a 0))] → ∀ (H : Heap) (locs : List Loc), va_P (dC, dI) vwCl (wX9 cI cZ a (sr (sr M 0 (N 0)) 3 (N 3))) H → va_D A (wX9 cI cZ a (sr (sr M 0 (N 0)) 3 (N 3))) → va_S A s.heap H locs → W p l e (headSpec wsX9_records ({ frames := 0, cells := 0, slots := 0, locals := 0 } : Room)).room s m ([.ref (a 0)] : List Value).toArray below meth c H locs 0 0 (MQ below (va_Qv (S := Unit) (fun _ => True) (fun _ t => WE (dC, dI) cI cZ (wX9 cI cZ a (sr (sr M 0 (z 0)) 3 (z 3))) A t) A) ([.ref (a 0)] : List Value).toArray s 0 0 A) (F0 m 86 ls [])), ∀ (N : Mem) (l1 : Int32), fX9_records_L52 M n kx86 N l1 = some z → ∀ (ls : Array Slot), lv_has ls 2 [(0, .ref (a 0)), (1, .int l1)] → ∀ (H : Heap) (locs : List Loc), va_P (dC, dI) vwCl (wX9 cI cZ a (sr (sr M 0 (N 0)) 3 (N 3))) H → va_D A (wX9 cI cZ a (sr (sr M 0 (N 0)) 3 (N 3))) → va_S A s.heap H locs → W p l e (headSpec wsX9_records ({ frames := 0, cells := 0, slots := 0, locals := 0 } : Room)).room s m ([.ref (a 0)] : List Value).toArray below meth c H locs 0 0 (MQ below (va_Qv (S := Unit) (fun _ => True) (fun _ t => WE (dC, dI) cI cZ (wX9 cI cZ a (sr (sr M 0 (z 0)) 3 (z 3))) A t) A) ([.ref (a 0)] : List Value).toArray s 0 0 A) (F0 m 52 ls []) := by
    intro n
    induction n with
    | zero =>
      intro kx86 hkx86 N l1 hf ls hl H locs hP hD hS
      rw [fX9_records_L52] at hf
      cases hf
    | succ n ih =>
      intro kx86 hkx86 N l1 hf ls hl H locs hP hD hS
      rw [fX9_records_L52] at hf
      refine lv_iload_n hx hb dX9_records_52 rfl (lv_at hl 1 rfl) ?_
      refine lv_sipush (v := (304 : Int32)) hx hb dX9_records_53 (by decide) ?_
      refine lv_icmp_ge (tgt := 86) hx hb dX9_records_56 (by decide) (fun c9 => ?_) (fun c9 => ?_)
      · have hf := it_t hf c9
        exact hkx86 (sr (sr M 0 (N 0)) 3 (N 3)) hf _ (lv_sub hl [0] rfl) _ _ hP hD hS
      · have hf := it_f hf c9
        refine lv_aload_n hx hb dX9_records_59 rfl (lv_at hl 0 rfl) ?_
        refine va_get (D := (dC, dI)) (ci := 9) (v := .ref (a 3)) (C := RX9) (T := TX9) (N := 13) hx hb hts hinX9 hown hK hP 0 rfl rfl 3 (by decide) hw2 (fun _ h9 => h9) rfl dX9_records_60 ?_
        refine lv_sipush (v := (304 : Int32)) hx hb dX9_records_63 (by decide) ?_
        refine lv_aload_n hx hb dX9_records_66 rfl (lv_at hl 0 rfl) ?_
        refine va_get (D := (dC, dI)) (ci := 9) (v := .int (N 0 4)) (C := RX9) (T := TX9) (N := 13) hx hb hts hinX9 hown hK hP 0 rfl rfl 4 (by decide) hw1 (fun _ h9 => h9) rfl dX9_records_67 ?_
        refine lv_imul hx hb dX9_records_70 ?_
        refine lv_iload_n hx hb dX9_records_71 rfl (lv_at hl 1 rfl) ?_
        refine lv_iadd hx hb dX9_records_72 ?_
        refine lv_aload_n hx hb dX9_records_73 rfl (lv_at hl 0 rfl) ?_
        refine va_get (D := (dC, dI)) (ci := 9) (v := .ref (a 1)) (C := RX9) (T := TX9) (N := 13) hx hb hts hinX9 hown hK hP 0 rfl rfl 1 (by decide) hw3 (fun _ h9 => h9) rfl dX9_records_74 ?_
        refine lv_iload_n hx hb dX9_records_77 rfl (lv_at hl 1 rfl) ?_
        obtain ⟨hi, hf⟩ := gd_s hf
        refine va_iald (D := (dC, dI)) (f := (M 1)) hx hb hK hP 1 0 rfl rfl (inb_in hi) dX9_records_78 ?_
        obtain ⟨hi, hf⟩ := gd_s hf
        refine va_iast (D := (dC, dI)) (f := (N 3)) hx hb hK hP hD hS 3 0 rfl rfl (inb_in hi) dX9_records_79 (fun H locs hP hD hS => ?_)
        have hP : va_P (dC, dI) vwCl (wX9 cI cZ a (sr (sr M 0 (N 0)) 3 (upd (N 3) (((304 : Int32) * (N 0 4)) + l1).toNatClampNeg (M 1 l1.toNatClampNeg)))) H := hP
        have hD : va_D A (wX9 cI cZ a (sr (sr M 0 (N 0)) 3 (upd (N 3) (((304 : Int32) * (N 0 4)) + l1).toNatClampNeg (M 1 l1.toNatClampNeg)))) := hD
        refine lv_iinc (v := (l1 + (1 : Int32))) (lv' := [(1, .int (l1 + (1 : Int32))), (0, .ref (a 0))]) hx hb dX9_records_80 hl (k := 1) rfl rfl (by decide) rfl (fun ls hl => ?_)
        refine lv_goto (tgt := 52) hx hb dX9_records_83 (by decide) ?_
        exact ih kx86 hkx86 (sr (sr M 0 (N 0)) 3 (upd (N 3) (((304 : Int32) * (N 0 4)) + l1).toNatClampNeg (M 1 l1.toNatClampNeg))) (l1 + (1 : Int32)) hf _ (lv_sub hl [1, 0] rfl) _ _ hP hD hS
  have hfX9_records_B50 : ∀ (N : Mem), fX9_records_B50 M  N = some z → ∀ (ls : Array Slot), lv_has ls 2 [(0, .ref (a 0))] → ∀ (H : Heap) (locs : List Loc), va_P (dC, dI) vwCl (wX9 cI cZ a (sr (sr M 0 (N 0)) 3 (N 3))) H → va_D A (wX9 cI cZ a (sr (sr M 0 (N 0)) 3 (N 3))) → va_S A s.heap H locs → W p l e (headSpec wsX9_records ({ frames := 0, cells := 0, slots := 0, locals := 0 } : Room)).room s m ([.ref (a 0)] : List Value).toArray below meth c H locs 0 0 (MQ below (va_Qv (S := Unit) (fun _ => True) (fun _ t => WE (dC, dI) cI cZ (wX9 cI cZ a (sr (sr M 0 (z 0)) 3 (z 3))) A t) A) ([.ref (a 0)] : List Value).toArray s 0 0 A) (F0 m 50 ls []) := by
    intro  N hf ls hl H locs hP hD hS
    unfold fX9_records_B50 at hf
    refine lv_iconst (v := (0 : Int32)) hx hb dX9_records_50 (by decide) ?_
    refine lv_istore_n (lv' := [(1, .int (0 : Int32)), (0, .ref (a 0))]) hx hb dX9_records_51 rfl hl (by decide) rfl (fun ls hl => ?_)
    refine hfX9_records_L52 5000 _ (fun N hf ls hl H locs hP hD hS => ?_) (sr (sr M 0 (N 0)) 3 (N 3)) (0 : Int32) hf _ (lv_sub hl [1, 0] rfl) _ _ hP hD hS
    refine lv_aload_n hx hb dX9_records_86 rfl (lv_at hl 0 rfl) ?_
    refine lv_dup hx hb dX9_records_87 rfl ?_
    refine va_get (D := (dC, dI)) (ci := 9) (v := .int (N 0 4)) (C := RX9) (T := TX9) (N := 13) hx hb hts hinX9 hown hK hP 0 rfl rfl 4 (by decide) hw1 (fun _ h9 => h9) rfl dX9_records_88 ?_
    refine lv_iconst (v := (1 : Int32)) hx hb dX9_records_91 (by decide) ?_
    refine lv_iadd hx hb dX9_records_92 ?_
    refine va_put (D := (dC, dI)) (ci := 9) (v := .int ((N 0 4) + (1 : Int32))) (ty := .int) (C := RX9) (T := TX9) (N := 13) hx hb hts hinX9 tyX9 tyX9_ok nmX9 hown hK hP hD hS 0 rfl rfl 4 (by decide) hw1 (fun _ h9 => h9) rfl (by decide +kernel) rfl rfl (Nat.le_of_ble_eq_true rfl) dX9_records_93 (fun H locs hP hD hS => ?_)
    have hP : va_P (dC, dI) vwCl (wX9 cI cZ a (sr (sr M 0 (upd (N 0) 4 ((N 0 4) + (1 : Int32)))) 3 (N 3))) H := hP
    have hD : va_D A (wX9 cI cZ a (sr (sr M 0 (upd (N 0) 4 ((N 0 4) + (1 : Int32)))) 3 (N 3))) := hD
    have e9 := so_e hf
    subst e9
    exact W.vret hx hb hr (fun t ht hW => ⟨⟨(), rfl, trivial, WE.mk hP hD ht⟩, hS.F ht⟩) hS.2.2 dX9_records_96
  have hfX9_records_L11 : ∀ (n : Nat) (kx40 : Mem → Option (Mem)) (hkx40 : ∀ (N : Mem), kx40 N = some z → ∀ (ls : Array Slot), lv_has ls 2 [(0, .ref (a 0))] → ∀ (H : Heap) (locs : List Loc), va_P (dC, dI) vwCl (wX9 cI cZ a (sr (sr M 0 (N 0)) 3 (N 3))) H → va_D A (wX9 cI cZ a (sr (sr M 0 (N 0)) 3 (N 3))) → va_S A s.heap H locs → W p l e (headSpec wsX9_records ({ frames := 0, cells := 0, slots := 0, locals := 0 } : Room)).room s m ([.ref (a 0)] : List Value).toArray below meth c H locs 0 0 (MQ below (va_Qv (S := Unit) (fun _ => True) (fun _ t => WE (dC, dI) cI cZ (wX9 cI cZ a (sr (sr M 0 (z 0)) 3 (z 3))) A t) A) ([.ref (a 0)] : List Value).toArray s 0 0 A) (F0 m 40 ls [])), ∀ (N : Mem) (l1 : Int32), fX9_records_L11 M n kx40 N l1 = some z → ∀ (ls : Array Slot), lv_has ls 2 [(0, .ref (a 0)), (1, .int l1)] → ∀ (H : Heap) (locs : List Loc), va_P (dC, dI) vwCl (wX9 cI cZ a (sr (sr M 0 (N 0)) 3 (N 3))) H → va_D A (wX9 cI cZ a (sr (sr M 0 (N 0)) 3 (N 3))) → va_S A s.heap H locs → W p l e (headSpec wsX9_records ({ frames := 0, cells := 0, slots := 0, locals := 0 } : Room)).room s m ([.ref (a 0)] : List Value).toArray below meth c H locs 0 0 (MQ below (va_Qv (S := Unit) (fun _ => True) (fun _ t => WE (dC, dI) cI cZ (wX9 cI cZ a (sr (sr M 0 (z 0)) 3 (z 3))) A t) A) ([.ref (a 0)] : List Value).toArray s 0 0 A) (F0 m 11 ls []) := by
    intro n
    induction n with
    | zero =>
      intro kx40 hkx40 N l1 hf ls hl H locs hP hD hS
      rw [fX9_records_L11] at hf
      cases hf
    | succ n ih =>
      intro kx40 hkx40 N l1 hf ls hl H locs hP hD hS
      rw [fX9_records_L11] at hf
      refine lv_iload_n hx hb dX9_records_11 rfl (lv_at hl 1 rfl) ?_
      refine lv_sipush (v := (1520 : Int32)) hx hb dX9_records_12 (by decide) ?_
      refine lv_icmp_ge (tgt := 40) hx hb dX9_records_15 (by decide) (fun c9 => ?_) (fun c9 => ?_)
      · have hf := it_t hf c9
        exact hkx40 (sr (sr M 0 (N 0)) 3 (N 3)) hf _ (lv_sub hl [0] rfl) _ _ hP hD hS
      · have hf := it_f hf c9
        refine lv_aload_n hx hb dX9_records_18 rfl (lv_at hl 0 rfl) ?_
        refine va_get (D := (dC, dI)) (ci := 9) (v := .ref (a 3)) (C := RX9) (T := TX9) (N := 13) hx hb hts hinX9 hown hK hP 0 rfl rfl 3 (by decide) hw2 (fun _ h9 => h9) rfl dX9_records_19 ?_
        refine lv_iload_n hx hb dX9_records_22 rfl (lv_at hl 1 rfl) ?_
        refine lv_aload_n hx hb dX9_records_23 rfl (lv_at hl 0 rfl) ?_
        refine va_get (D := (dC, dI)) (ci := 9) (v := .ref (a 3)) (C := RX9) (T := TX9) (N := 13) hx hb hts hinX9 hown hK hP 0 rfl rfl 3 (by decide) hw2 (fun _ h9 => h9) rfl dX9_records_24 ?_
        refine lv_iload_n hx hb dX9_records_27 rfl (lv_at hl 1 rfl) ?_
        refine lv_sipush (v := (304 : Int32)) hx hb dX9_records_28 (by decide) ?_
        refine lv_iadd hx hb dX9_records_31 ?_
        obtain ⟨hi, hf⟩ := gd_s hf
        refine va_iald (D := (dC, dI)) (f := (N 3)) hx hb hK hP 3 0 rfl rfl (inb_in hi) dX9_records_32 ?_
        obtain ⟨hi, hf⟩ := gd_s hf
        refine va_iast (D := (dC, dI)) (f := (N 3)) hx hb hK hP hD hS 3 0 rfl rfl (inb_in hi) dX9_records_33 (fun H locs hP hD hS => ?_)
        have hP : va_P (dC, dI) vwCl (wX9 cI cZ a (sr (sr M 0 (N 0)) 3 (upd (N 3) l1.toNatClampNeg (N 3 (l1 + (304 : Int32)).toNatClampNeg)))) H := hP
        have hD : va_D A (wX9 cI cZ a (sr (sr M 0 (N 0)) 3 (upd (N 3) l1.toNatClampNeg (N 3 (l1 + (304 : Int32)).toNatClampNeg)))) := hD
        refine lv_iinc (v := (l1 + (1 : Int32))) (lv' := [(1, .int (l1 + (1 : Int32))), (0, .ref (a 0))]) hx hb dX9_records_34 hl (k := 1) rfl rfl (by decide) rfl (fun ls hl => ?_)
        refine lv_goto (tgt := 11) hx hb dX9_records_37 (by decide) ?_
        exact ih kx40 hkx40 (sr (sr M 0 (N 0)) 3 (upd (N 3) l1.toNatClampNeg (N 3 (l1 + (304 : Int32)).toNatClampNeg))) (l1 + (1 : Int32)) hf _ (lv_sub hl [1, 0] rfl) _ _ hP hD hS
  have hl := lv_entry ([.ref (a 0)]) (n := 2) (Nat.le_of_ble_eq_true rfl)
  rw [lg_entry_eq]
  generalize (lg_sl ([.ref (a 0)]) ++ List.replicate (2 - (lg_sl ([.ref (a 0)])).length) Slot.unset).toArray = ls at hl ⊢
  have hl : lv_has ls 2 [(0, .ref (a 0))] := hl
  unfold fX9_records at hf
  suffices hgo : ∀ (H : Heap) (locs : List Loc), va_P (dC, dI) vwCl (wX9 cI cZ a M) H → va_D A (wX9 cI cZ a M) → va_S A s.heap H locs → W p l e (headSpec wsX9_records ({ frames := 0, cells := 0, slots := 0, locals := 0 } : Room)).room s m ([.ref (a 0)] : List Value).toArray below meth c H locs 0 0 (MQ below (va_Qv (S := Unit) (fun _ => True) (fun _ t => WE (dC, dI) cI cZ (wX9 cI cZ a (sr (sr M 0 (z 0)) 3 (z 3))) A t) A) ([.ref (a 0)] : List Value).toArray s 0 0 A) (F0 m 0 ls []) from hgo _ _ hP hD hS
  intro H locs hP hD hS
  refine lv_aload_n hx hb dX9_records_0 rfl (lv_at hl 0 rfl) ?_
  refine va_get (D := (dC, dI)) (ci := 9) (v := .int (M 0 4)) (C := RX9) (T := TX9) (N := 13) hx hb hts hinX9 hown hK hP 0 rfl rfl 4 (by decide) hw1 (fun _ h9 => h9) rfl dX9_records_1 ?_
  refine lv_bipush (v := (6 : Int32)) hx hb dX9_records_4 (by decide) ?_
  refine lv_icmp_ne (tgt := 50) hx hb dX9_records_6 (by decide) (fun c9 => ?_) (fun c9 => ?_)
  · have hf := it_t hf c9
    exact hfX9_records_B50  M hf _ (lv_sub hl [0] rfl) _ _ hP hD hS
  · have hf := it_n hf c9
    refine lv_iconst (v := (0 : Int32)) hx hb dX9_records_9 (by decide) ?_
    refine lv_istore_n (lv' := [(1, .int (0 : Int32)), (0, .ref (a 0))]) hx hb dX9_records_10 rfl hl (by decide) rfl (fun ls hl => ?_)
    refine hfX9_records_L11 5000 _ (fun N hf ls hl H locs hP hD hS => ?_) M (0 : Int32) hf _ (lv_sub hl [1, 0] rfl) _ _ hP hD hS
    refine lv_aload_n hx hb dX9_records_40 rfl (lv_at hl 0 rfl) ?_
    refine lv_dup hx hb dX9_records_41 rfl ?_
    refine va_get (D := (dC, dI)) (ci := 9) (v := .int (N 0 4)) (C := RX9) (T := TX9) (N := 13) hx hb hts hinX9 hown hK hP 0 rfl rfl 4 (by decide) hw1 (fun _ h9 => h9) rfl dX9_records_42 ?_
    refine lv_iconst (v := (1 : Int32)) hx hb dX9_records_45 (by decide) ?_
    refine lv_isub hx hb dX9_records_46 ?_
    refine va_put (D := (dC, dI)) (ci := 9) (v := .int ((N 0 4) - (1 : Int32))) (ty := .int) (C := RX9) (T := TX9) (N := 13) hx hb hts hinX9 tyX9 tyX9_ok nmX9 hown hK hP hD hS 0 rfl rfl 4 (by decide) hw1 (fun _ h9 => h9) rfl (by decide +kernel) rfl rfl (Nat.le_of_ble_eq_true rfl) dX9_records_47 (fun H locs hP hD hS => ?_)
    have hP : va_P (dC, dI) vwCl (wX9 cI cZ a (sr (sr M 0 (upd (N 0) 4 ((N 0 4) - (1 : Int32)))) 3 (N 3))) H := hP
    have hD : va_D A (wX9 cI cZ a (sr (sr M 0 (upd (N 0) 4 ((N 0 4) - (1 : Int32)))) 3 (N 3))) := hD
    exact hfX9_records_B50  (sr (sr M 0 (upd (N 0) 4 ((N 0 4) - (1 : Int32)))) 3 (N 3)) hf _ (lv_sub hl [0] rfl) _ _ hP hD hS
set_option maxHeartbeats 4000000 in
set_option maxRecDepth 100000 in
theorem c_X9_putAside (l : Launch) (dC : Nat → ClassId) (dI : Nat → Nat → Nat) (cI cZ : ClassId) (a : Nat → Nat) (sz : Nat) (M : Mem) (z : Mem) (hf : fX9_putAside M  = some z) : Met l yX9_putAside wsX9_putAside ({ frames := 0, cells := 0, slots := 0, locals := 0 } : Room) (va_Pc [.ref (a 0)] (WR (dC, dI) cI cZ (wX9 cI cZ a M) sz)) (va_Qv (S := Unit) (fun _ => True) (fun _ t => WE (dC, dI) cI cZ (wX9 cI cZ a (sr M 2 (z 2))) (va_A (wX9 cI cZ a M) sz) t) (va_A (wX9 cI cZ a M) sz)) 0 0 (va_A (wX9 cI cZ a M) sz) := by
  refine Met.ofW (cc := cX9_putAside) (maxL := 2) (ret := none) (by decide) rfl ?_
  intro p e s m args below meth c s₁ B hml hv
  obtain ⟨rfl, hsz, hP, hK, hD0, hNW⟩ := hv
  have hx := B.exec
  have hb := B.bytes
  have hr := B.returns
  have hts := atoms_spec (ws := wsX9_putAside) B.pre
  have hown : s.vm.findClass RX9 = some m.cls := findClass_of_methodNamed B.named
  have hlocks := B.notSynchronized
  have hinX9 : ∀ w ∈ u_ws RX9 TX9 13, w ∈ wsX9_putAside := by decide +kernel
  have hw1 := hts (.fieldLink RX9 13 "GlideShelvesModel" "aside" "[I") (by decide +kernel)
  have hw2 := hts (.fieldLink RX9 7 "GlideShelvesModel" "s" "[I") (by decide +kernel)
  subst hsz
  have hD := hD0.self (sz := s.heap.size)
  generalize hAe : va_A (wX9 cI cZ a M) s.heap.size = A at hD ⊢
  have hA : ∀ q : Nat, s.heap.size ≤ q → A q := fun q h => by rw [← hAe]; exact Or.inr h
  have hS : va_S A s.heap s.heap [] := va_S.rf
  have hfX9_putAside_L2 : ∀ (n : Nat) (kx27 : Mem → Option (Mem)) (hkx27 : ∀ (N : Mem), kx27 N = some z → ∀ (ls : Array Slot), lv_has ls 2 [] → ∀ (H : Heap) (locs : List Loc), va_P (dC, dI) vwCl (wX9 cI cZ a (sr M 2 (N 2))) H → va_D A (wX9 cI cZ a (sr M 2 (N 2))) → va_S A s.heap H locs → W p l e (headSpec wsX9_putAside ({ frames := 0, cells := 0, slots := 0, locals := 0 } : Room)).room s m ([.ref (a 0)] : List Value).toArray below meth c H locs 0 0 (MQ below (va_Qv (S := Unit) (fun _ => True) (fun _ t => WE (dC, dI) cI cZ (wX9 cI cZ a (sr M 2 (z 2))) A t) A) ([.ref (a 0)] : List Value).toArray s 0 0 A) (F0 m 27 ls [])), ∀ (N : Mem) (l1 : Int32), fX9_putAside_L2 M n kx27 N l1 = some z → ∀ (ls : Array Slot), lv_has ls 2 [(0, .ref (a 0)), (1, .int l1)] → ∀ (H : Heap) (locs : List Loc), va_P (dC, dI) vwCl (wX9 cI cZ a (sr M 2 (N 2))) H → va_D A (wX9 cI cZ a (sr M 2 (N 2))) → va_S A s.heap H locs → W p l e (headSpec wsX9_putAside ({ frames := 0, cells := 0, slots := 0, locals := 0 } : Room)).room s m ([.ref (a 0)] : List Value).toArray below meth c H locs 0 0 (MQ below (va_Qv (S := Unit) (fun _ => True) (fun _ t => WE (dC, dI) cI cZ (wX9 cI cZ a (sr M 2 (z 2))) A t) A) ([.ref (a 0)] : List Value).toArray s 0 0 A) (F0 m 2 ls []) := by
    intro n
    induction n with
    | zero =>
      intro kx27 hkx27 N l1 hf ls hl H locs hP hD hS
      rw [fX9_putAside_L2] at hf
      cases hf
    | succ n ih =>
      intro kx27 hkx27 N l1 hf ls hl H locs hP hD hS
      rw [fX9_putAside_L2] at hf
      refine lv_iload_n hx hb dX9_putAside_2 rfl (lv_at hl 1 rfl) ?_
      refine lv_sipush (v := (304 : Int32)) hx hb dX9_putAside_3 (by decide) ?_
      refine lv_icmp_ge (tgt := 27) hx hb dX9_putAside_6 (by decide) (fun c9 => ?_) (fun c9 => ?_)
      · have hf := it_t hf c9
        exact hkx27 (sr M 2 (N 2)) hf _ (lv_sub hl [] rfl) _ _ hP hD hS
      · have hf := it_f hf c9
        refine lv_aload_n hx hb dX9_putAside_9 rfl (lv_at hl 0 rfl) ?_
        refine va_get (D := (dC, dI)) (ci := 9) (v := .ref (a 2)) (C := RX9) (T := TX9) (N := 13) hx hb hts hinX9 hown hK hP 0 rfl rfl 2 (by decide) hw1 (fun _ h9 => h9) rfl dX9_putAside_10 ?_
        refine lv_iload_n hx hb dX9_putAside_13 rfl (lv_at hl 1 rfl) ?_
        refine lv_aload_n hx hb dX9_putAside_14 rfl (lv_at hl 0 rfl) ?_
        refine va_get (D := (dC, dI)) (ci := 9) (v := .ref (a 1)) (C := RX9) (T := TX9) (N := 13) hx hb hts hinX9 hown hK hP 0 rfl rfl 1 (by decide) hw2 (fun _ h9 => h9) rfl dX9_putAside_15 ?_
        refine lv_iload_n hx hb dX9_putAside_18 rfl (lv_at hl 1 rfl) ?_
        obtain ⟨hi, hf⟩ := gd_s hf
        refine va_iald (D := (dC, dI)) (f := (M 1)) hx hb hK hP 1 0 rfl rfl (inb_in hi) dX9_putAside_19 ?_
        obtain ⟨hi, hf⟩ := gd_s hf
        refine va_iast (D := (dC, dI)) (f := (N 2)) hx hb hK hP hD hS 2 0 rfl rfl (inb_in hi) dX9_putAside_20 (fun H locs hP hD hS => ?_)
        have hP : va_P (dC, dI) vwCl (wX9 cI cZ a (sr M 2 (upd (N 2) l1.toNatClampNeg (M 1 l1.toNatClampNeg)))) H := hP
        have hD : va_D A (wX9 cI cZ a (sr M 2 (upd (N 2) l1.toNatClampNeg (M 1 l1.toNatClampNeg)))) := hD
        refine lv_iinc (v := (l1 + (1 : Int32))) (lv' := [(1, .int (l1 + (1 : Int32))), (0, .ref (a 0))]) hx hb dX9_putAside_21 hl (k := 1) rfl rfl (by decide) rfl (fun ls hl => ?_)
        refine lv_goto (tgt := 2) hx hb dX9_putAside_24 (by decide) ?_
        exact ih kx27 hkx27 (sr M 2 (upd (N 2) l1.toNatClampNeg (M 1 l1.toNatClampNeg))) (l1 + (1 : Int32)) hf _ (lv_sub hl [1, 0] rfl) _ _ hP hD hS
  have hl := lv_entry ([.ref (a 0)]) (n := 2) (Nat.le_of_ble_eq_true rfl)
  rw [lg_entry_eq]
  generalize (lg_sl ([.ref (a 0)]) ++ List.replicate (2 - (lg_sl ([.ref (a 0)])).length) Slot.unset).toArray = ls at hl ⊢
  have hl : lv_has ls 2 [(0, .ref (a 0))] := hl
  unfold fX9_putAside at hf
  suffices hgo : ∀ (H : Heap) (locs : List Loc), va_P (dC, dI) vwCl (wX9 cI cZ a M) H → va_D A (wX9 cI cZ a M) → va_S A s.heap H locs → W p l e (headSpec wsX9_putAside ({ frames := 0, cells := 0, slots := 0, locals := 0 } : Room)).room s m ([.ref (a 0)] : List Value).toArray below meth c H locs 0 0 (MQ below (va_Qv (S := Unit) (fun _ => True) (fun _ t => WE (dC, dI) cI cZ (wX9 cI cZ a (sr M 2 (z 2))) A t) A) ([.ref (a 0)] : List Value).toArray s 0 0 A) (F0 m 0 ls []) from hgo _ _ hP hD hS
  intro H locs hP hD hS
  refine lv_iconst (v := (0 : Int32)) hx hb dX9_putAside_0 (by decide) ?_
  refine lv_istore_n (lv' := [(1, .int (0 : Int32)), (0, .ref (a 0))]) hx hb dX9_putAside_1 rfl hl (by decide) rfl (fun ls hl => ?_)
  refine hfX9_putAside_L2 5000 _ (fun N hf ls hl H locs hP hD hS => ?_) M (0 : Int32) hf _ (lv_sub hl [1, 0] rfl) _ _ hP hD hS
  have e9 := so_e hf
  subst e9
  exact W.vret hx hb hr (fun t ht hW => ⟨⟨(), rfl, trivial, WE.mk hP hD ht⟩, hS.F ht⟩) hS.2.2 dX9_putAside_27
set_option maxHeartbeats 4000000 in
set_option maxRecDepth 100000 in
theorem c_X9_takeBack (l : Launch) (dC : Nat → ClassId) (dI : Nat → Nat → Nat) (cI cZ : ClassId) (a : Nat → Nat) (sz : Nat) (M : Mem) (z : Mem) (hf : fX9_takeBack M  = some z) : Met l yX9_takeBack wsX9_takeBack ({ frames := 0, cells := 0, slots := 0, locals := 0 } : Room) (va_Pc [.ref (a 0)] (WR (dC, dI) cI cZ (wX9 cI cZ a M) sz)) (va_Qv (S := Unit) (fun _ => True) (fun _ t => WE (dC, dI) cI cZ (wX9 cI cZ a (sr M 1 (z 1))) (va_A (wX9 cI cZ a M) sz) t) (va_A (wX9 cI cZ a M) sz)) 0 0 (va_A (wX9 cI cZ a M) sz) := by
  refine Met.ofW (cc := cX9_takeBack) (maxL := 2) (ret := none) (by decide) rfl ?_
  intro p e s m args below meth c s₁ B hml hv
  obtain ⟨rfl, hsz, hP, hK, hD0, hNW⟩ := hv
  have hx := B.exec
  have hb := B.bytes
  have hr := B.returns
  have hts := atoms_spec (ws := wsX9_takeBack) B.pre
  have hown : s.vm.findClass RX9 = some m.cls := findClass_of_methodNamed B.named
  have hlocks := B.notSynchronized
  have hinX9 : ∀ w ∈ u_ws RX9 TX9 13, w ∈ wsX9_takeBack := by decide +kernel
  have hw1 := hts (.fieldLink RX9 7 "GlideShelvesModel" "s" "[I") (by decide +kernel)
  have hw2 := hts (.fieldLink RX9 13 "GlideShelvesModel" "aside" "[I") (by decide +kernel)
  subst hsz
  have hD := hD0.self (sz := s.heap.size)
  generalize hAe : va_A (wX9 cI cZ a M) s.heap.size = A at hD ⊢
  have hA : ∀ q : Nat, s.heap.size ≤ q → A q := fun q h => by rw [← hAe]; exact Or.inr h
  have hS : va_S A s.heap s.heap [] := va_S.rf
  have hfX9_takeBack_L2 : ∀ (n : Nat) (kx27 : Mem → Option (Mem)) (hkx27 : ∀ (N : Mem), kx27 N = some z → ∀ (ls : Array Slot), lv_has ls 2 [] → ∀ (H : Heap) (locs : List Loc), va_P (dC, dI) vwCl (wX9 cI cZ a (sr M 1 (N 1))) H → va_D A (wX9 cI cZ a (sr M 1 (N 1))) → va_S A s.heap H locs → W p l e (headSpec wsX9_takeBack ({ frames := 0, cells := 0, slots := 0, locals := 0 } : Room)).room s m ([.ref (a 0)] : List Value).toArray below meth c H locs 0 0 (MQ below (va_Qv (S := Unit) (fun _ => True) (fun _ t => WE (dC, dI) cI cZ (wX9 cI cZ a (sr M 1 (z 1))) A t) A) ([.ref (a 0)] : List Value).toArray s 0 0 A) (F0 m 27 ls [])), ∀ (N : Mem) (l1 : Int32), fX9_takeBack_L2 M n kx27 N l1 = some z → ∀ (ls : Array Slot), lv_has ls 2 [(0, .ref (a 0)), (1, .int l1)] → ∀ (H : Heap) (locs : List Loc), va_P (dC, dI) vwCl (wX9 cI cZ a (sr M 1 (N 1))) H → va_D A (wX9 cI cZ a (sr M 1 (N 1))) → va_S A s.heap H locs → W p l e (headSpec wsX9_takeBack ({ frames := 0, cells := 0, slots := 0, locals := 0 } : Room)).room s m ([.ref (a 0)] : List Value).toArray below meth c H locs 0 0 (MQ below (va_Qv (S := Unit) (fun _ => True) (fun _ t => WE (dC, dI) cI cZ (wX9 cI cZ a (sr M 1 (z 1))) A t) A) ([.ref (a 0)] : List Value).toArray s 0 0 A) (F0 m 2 ls []) := by
    intro n
    induction n with
    | zero =>
      intro kx27 hkx27 N l1 hf ls hl H locs hP hD hS
      rw [fX9_takeBack_L2] at hf
      cases hf
    | succ n ih =>
      intro kx27 hkx27 N l1 hf ls hl H locs hP hD hS
      rw [fX9_takeBack_L2] at hf
      refine lv_iload_n hx hb dX9_takeBack_2 rfl (lv_at hl 1 rfl) ?_
      refine lv_sipush (v := (304 : Int32)) hx hb dX9_takeBack_3 (by decide) ?_
      refine lv_icmp_ge (tgt := 27) hx hb dX9_takeBack_6 (by decide) (fun c9 => ?_) (fun c9 => ?_)
      · have hf := it_t hf c9
        exact hkx27 (sr M 1 (N 1)) hf _ (lv_sub hl [] rfl) _ _ hP hD hS
      · have hf := it_f hf c9
        refine lv_aload_n hx hb dX9_takeBack_9 rfl (lv_at hl 0 rfl) ?_
        refine va_get (D := (dC, dI)) (ci := 9) (v := .ref (a 1)) (C := RX9) (T := TX9) (N := 13) hx hb hts hinX9 hown hK hP 0 rfl rfl 1 (by decide) hw1 (fun _ h9 => h9) rfl dX9_takeBack_10 ?_
        refine lv_iload_n hx hb dX9_takeBack_13 rfl (lv_at hl 1 rfl) ?_
        refine lv_aload_n hx hb dX9_takeBack_14 rfl (lv_at hl 0 rfl) ?_
        refine va_get (D := (dC, dI)) (ci := 9) (v := .ref (a 2)) (C := RX9) (T := TX9) (N := 13) hx hb hts hinX9 hown hK hP 0 rfl rfl 2 (by decide) hw2 (fun _ h9 => h9) rfl dX9_takeBack_15 ?_
        refine lv_iload_n hx hb dX9_takeBack_18 rfl (lv_at hl 1 rfl) ?_
        obtain ⟨hi, hf⟩ := gd_s hf
        refine va_iald (D := (dC, dI)) (f := (M 2)) hx hb hK hP 2 0 rfl rfl (inb_in hi) dX9_takeBack_19 ?_
        obtain ⟨hi, hf⟩ := gd_s hf
        refine va_iast (D := (dC, dI)) (f := (N 1)) hx hb hK hP hD hS 1 0 rfl rfl (inb_in hi) dX9_takeBack_20 (fun H locs hP hD hS => ?_)
        have hP : va_P (dC, dI) vwCl (wX9 cI cZ a (sr M 1 (upd (N 1) l1.toNatClampNeg (M 2 l1.toNatClampNeg)))) H := hP
        have hD : va_D A (wX9 cI cZ a (sr M 1 (upd (N 1) l1.toNatClampNeg (M 2 l1.toNatClampNeg)))) := hD
        refine lv_iinc (v := (l1 + (1 : Int32))) (lv' := [(1, .int (l1 + (1 : Int32))), (0, .ref (a 0))]) hx hb dX9_takeBack_21 hl (k := 1) rfl rfl (by decide) rfl (fun ls hl => ?_)
        refine lv_goto (tgt := 2) hx hb dX9_takeBack_24 (by decide) ?_
        exact ih kx27 hkx27 (sr M 1 (upd (N 1) l1.toNatClampNeg (M 2 l1.toNatClampNeg))) (l1 + (1 : Int32)) hf _ (lv_sub hl [1, 0] rfl) _ _ hP hD hS
  have hl := lv_entry ([.ref (a 0)]) (n := 2) (Nat.le_of_ble_eq_true rfl)
  rw [lg_entry_eq]
  generalize (lg_sl ([.ref (a 0)]) ++ List.replicate (2 - (lg_sl ([.ref (a 0)])).length) Slot.unset).toArray = ls at hl ⊢
  have hl : lv_has ls 2 [(0, .ref (a 0))] := hl
  unfold fX9_takeBack at hf
  suffices hgo : ∀ (H : Heap) (locs : List Loc), va_P (dC, dI) vwCl (wX9 cI cZ a M) H → va_D A (wX9 cI cZ a M) → va_S A s.heap H locs → W p l e (headSpec wsX9_takeBack ({ frames := 0, cells := 0, slots := 0, locals := 0 } : Room)).room s m ([.ref (a 0)] : List Value).toArray below meth c H locs 0 0 (MQ below (va_Qv (S := Unit) (fun _ => True) (fun _ t => WE (dC, dI) cI cZ (wX9 cI cZ a (sr M 1 (z 1))) A t) A) ([.ref (a 0)] : List Value).toArray s 0 0 A) (F0 m 0 ls []) from hgo _ _ hP hD hS
  intro H locs hP hD hS
  refine lv_iconst (v := (0 : Int32)) hx hb dX9_takeBack_0 (by decide) ?_
  refine lv_istore_n (lv' := [(1, .int (0 : Int32)), (0, .ref (a 0))]) hx hb dX9_takeBack_1 rfl hl (by decide) rfl (fun ls hl => ?_)
  refine hfX9_takeBack_L2 5000 _ (fun N hf ls hl H locs hP hD hS => ?_) M (0 : Int32) hf _ (lv_sub hl [1, 0] rfl) _ _ hP hD hS
  have e9 := so_e hf
  subst e9
  exact W.vret hx hb hr (fun t ht hW => ⟨⟨(), rfl, trivial, WE.mk hP hD ht⟩, hS.F ht⟩) hS.2.2 dX9_takeBack_27
set_option maxHeartbeats 4000000 in
set_option maxRecDepth 100000 in
theorem c_X9_on (l : Launch) (dC : Nat → ClassId) (dI : Nat → Nat → Nat) (cI cZ : ClassId) (a : Nat → Nat) (M : Mem) (a1 : Int32) (a2 : Int32) (z : Int32) (hf : fX9_on M a1 a2 = some z) : Met l yX9_on wsX9_on ({ frames := 1, cells := 0, slots := 0, locals := 22 } : Room) (va_Pc [.ref (a 0), .int a1, .int a2] (RO (dC, dI) cI cZ (wX9 cI cZ a M))) (k2_QcV (.int z)) 0 0 (fun _ => False) := by
  refine Met.ofW (cc := cX9_on) (maxL := 6) (ret := (some .int)) (by decide) rfl ?_
  intro p e s m args below meth c s₁ B hml hv
  obtain ⟨rfl, hP, hK, hNW⟩ := hv
  have hx := B.exec
  have hb := B.bytes
  have hr := B.returns
  have hts := atoms_spec (ws := wsX9_on) B.pre
  have hown : s.vm.findClass RX9 = some m.cls := findClass_of_methodNamed B.named
  have hlocks := B.notSynchronized
  have hinX9 : ∀ w ∈ u_ws RX9 TX9 13, w ∈ wsX9_on := by decide +kernel
  have hw1 := hts (.fieldLink RX9 7 "GlideShelvesModel" "s" "[I") (by decide +kernel)
  have hfX9_on_B81 : ∀ (kb : Int32 → Int32 → Int32 → Int32 → Option (Int32)) (hkb : ∀ (l1 : Int32) (l2 : Int32) (l3 : Int32) (l4 : Int32), kb l1 l2 l3 l4 = some z → ∀ (ls : Array Slot), lv_has ls 6 [(0, .ref (a 0)), (1, .int l1), (2, .int l2), (3, .int l3), (4, .int l4)] → W p l e (headSpec wsX9_on ({ frames := 1, cells := 0, slots := 0, locals := 22 } : Room)).room s m ([.ref (a 0), .int a1, .int a2] : List Value).toArray below meth c s.heap [] 0 0 (MQ below (k2_QcV (.int z)) ([.ref (a 0), .int a1, .int a2] : List Value).toArray s 0 0 (fun _ => False)) (F0 m 5 ls [])) (kx88 : Int32 → Option (Int32)) (hkx88 : ∀ (l3 : Int32), kx88 l3 = some z → ∀ (ls : Array Slot), lv_has ls 6 [(3, .int l3)] → W p l e (headSpec wsX9_on ({ frames := 1, cells := 0, slots := 0, locals := 22 } : Room)).room s m ([.ref (a 0), .int a1, .int a2] : List Value).toArray below meth c s.heap [] 0 0 (MQ below (k2_QcV (.int z)) ([.ref (a 0), .int a1, .int a2] : List Value).toArray s 0 0 (fun _ => False)) (F0 m 88 ls [])), ∀ (l1 : Int32) (l2 : Int32) (l4 : Int32) (s0 : Int32), fX9_on_B81 M kb kx88 l1 l2 l4 s0 = some z → ∀ (ls : Array Slot), lv_has ls 6 [(0, .ref (a 0)), (1, .int l1), (2, .int l2), (4, .int l4)] → W p l e (headSpec wsX9_on ({ frames := 1, cells := 0, slots := 0, locals := 22 } : Room)).room s m ([.ref (a 0), .int a1, .int a2] : List Value).toArray below meth c s.heap [] 0 0 (MQ below (k2_QcV (.int z)) ([.ref (a 0), .int a1, .int a2] : List Value).toArray s 0 0 (fun _ => False)) (F0 m 81 ls [.int s0]) := by
    intro kb hkb kx88 hkx88 l1 l2 l4 s0 hf ls hl
    unfold fX9_on_B81 at hf
    refine lv_istore_n (lv' := [(3, .int s0), (0, .ref (a 0)), (1, .int l1), (2, .int l2), (4, .int l4)]) hx hb dX9_on_81 rfl hl (by decide) rfl (fun ls hl => ?_)
    refine lv_iinc (v := (l4 + (1 : Int32))) (lv' := [(4, .int (l4 + (1 : Int32))), (3, .int s0), (0, .ref (a 0)), (1, .int l1), (2, .int l2)]) hx hb dX9_on_82 hl (k := 4) rfl rfl (by decide) rfl (fun ls hl => ?_)
    refine lv_goto (tgt := 5) hx hb dX9_on_85 (by decide) ?_
    exact hkb l1 l2 s0 (l4 + (1 : Int32)) hf _ (lv_sub hl [2, 3, 4, 1, 0] rfl)
  have hfX9_on_B68 : ∀ (kb : Int32 → Int32 → Int32 → Int32 → Option (Int32)) (hkb : ∀ (l1 : Int32) (l2 : Int32) (l3 : Int32) (l4 : Int32), kb l1 l2 l3 l4 = some z → ∀ (ls : Array Slot), lv_has ls 6 [(0, .ref (a 0)), (1, .int l1), (2, .int l2), (3, .int l3), (4, .int l4)] → W p l e (headSpec wsX9_on ({ frames := 1, cells := 0, slots := 0, locals := 22 } : Room)).room s m ([.ref (a 0), .int a1, .int a2] : List Value).toArray below meth c s.heap [] 0 0 (MQ below (k2_QcV (.int z)) ([.ref (a 0), .int a1, .int a2] : List Value).toArray s 0 0 (fun _ => False)) (F0 m 5 ls [])) (kx88 : Int32 → Option (Int32)) (hkx88 : ∀ (l3 : Int32), kx88 l3 = some z → ∀ (ls : Array Slot), lv_has ls 6 [(3, .int l3)] → W p l e (headSpec wsX9_on ({ frames := 1, cells := 0, slots := 0, locals := 22 } : Room)).room s m ([.ref (a 0), .int a1, .int a2] : List Value).toArray below meth c s.heap [] 0 0 (MQ below (k2_QcV (.int z)) ([.ref (a 0), .int a1, .int a2] : List Value).toArray s 0 0 (fun _ => False)) (F0 m 88 ls [])), ∀ (l1 : Int32) (l2 : Int32) (l3 : Int32) (l4 : Int32) (s0 : Int32), fX9_on_B68 M kb kx88 l1 l2 l3 l4 s0 = some z → ∀ (ls : Array Slot), lv_has ls 6 [(0, .ref (a 0)), (1, .int l1), (2, .int l2), (3, .int l3), (4, .int l4)] → W p l e (headSpec wsX9_on ({ frames := 1, cells := 0, slots := 0, locals := 22 } : Room)).room s m ([.ref (a 0), .int a1, .int a2] : List Value).toArray below meth c s.heap [] 0 0 (MQ below (k2_QcV (.int z)) ([.ref (a 0), .int a1, .int a2] : List Value).toArray s 0 0 (fun _ => False)) (F0 m 68 ls [.int s0]) := by
    intro kb hkb kx88 hkx88 l1 l2 l3 l4 s0 hf ls hl
    unfold fX9_on_B68 at hf
    refine lv_istore (lv' := [(5, .int s0), (0, .ref (a 0)), (1, .int l1), (2, .int l2), (3, .int l3), (4, .int l4)]) hx hb dX9_on_68 hl (by decide) rfl (fun ls hl => ?_)
    refine lv_iload hx hb dX9_on_70 (lv_at hl 0 rfl) ?_
    refine lv_if_eq (tgt := 80) hx hb dX9_on_72 (by decide) (fun c9 => ?_) (fun c9 => ?_)
    · have hf := it_t hf c9
      refine lv_iload_n hx hb dX9_on_80 rfl (lv_at hl 4 rfl) ?_
      exact hfX9_on_B81 _ hkb _ hkx88 l1 l2 l4 l3 hf _ (lv_sub hl [1, 2, 3, 5] rfl)
    · have hf := it_f hf c9
      refine lv_iload hx hb dX9_on_75 (lv_at hl 5 rfl) ?_
      refine lv_goto (tgt := 81) hx hb dX9_on_77 (by decide) ?_
      exact hfX9_on_B81 _ hkb _ hkx88 l1 l2 l4 l4 hf _ (lv_sub hl [1, 2, 3, 5] rfl)
  have hfX9_on_B67 : ∀ (kb : Int32 → Int32 → Int32 → Int32 → Option (Int32)) (hkb : ∀ (l1 : Int32) (l2 : Int32) (l3 : Int32) (l4 : Int32), kb l1 l2 l3 l4 = some z → ∀ (ls : Array Slot), lv_has ls 6 [(0, .ref (a 0)), (1, .int l1), (2, .int l2), (3, .int l3), (4, .int l4)] → W p l e (headSpec wsX9_on ({ frames := 1, cells := 0, slots := 0, locals := 22 } : Room)).room s m ([.ref (a 0), .int a1, .int a2] : List Value).toArray below meth c s.heap [] 0 0 (MQ below (k2_QcV (.int z)) ([.ref (a 0), .int a1, .int a2] : List Value).toArray s 0 0 (fun _ => False)) (F0 m 5 ls [])) (kx88 : Int32 → Option (Int32)) (hkx88 : ∀ (l3 : Int32), kx88 l3 = some z → ∀ (ls : Array Slot), lv_has ls 6 [(3, .int l3)] → W p l e (headSpec wsX9_on ({ frames := 1, cells := 0, slots := 0, locals := 22 } : Room)).room s m ([.ref (a 0), .int a1, .int a2] : List Value).toArray below meth c s.heap [] 0 0 (MQ below (k2_QcV (.int z)) ([.ref (a 0), .int a1, .int a2] : List Value).toArray s 0 0 (fun _ => False)) (F0 m 88 ls [])), ∀ (l1 : Int32) (l2 : Int32) (l3 : Int32) (l4 : Int32), fX9_on_B67 M kb kx88 l1 l2 l3 l4 = some z → ∀ (ls : Array Slot), lv_has ls 6 [(0, .ref (a 0)), (1, .int l1), (2, .int l2), (3, .int l3), (4, .int l4)] → W p l e (headSpec wsX9_on ({ frames := 1, cells := 0, slots := 0, locals := 22 } : Room)).room s m ([.ref (a 0), .int a1, .int a2] : List Value).toArray below meth c s.heap [] 0 0 (MQ below (k2_QcV (.int z)) ([.ref (a 0), .int a1, .int a2] : List Value).toArray s 0 0 (fun _ => False)) (F0 m 67 ls []) := by
    intro kb hkb kx88 hkx88 l1 l2 l3 l4 hf ls hl
    unfold fX9_on_B67 at hf
    refine lv_iconst (v := (0 : Int32)) hx hb dX9_on_67 (by decide) ?_
    exact hfX9_on_B68 _ hkb _ hkx88 l1 l2 l3 l4 (0 : Int32) hf _ (lv_sub hl [0, 1, 2, 3, 4] rfl)
  have hfX9_on_L5 : ∀ (n : Nat) (kx88 : Int32 → Option (Int32)) (hkx88 : ∀ (l3 : Int32), kx88 l3 = some z → ∀ (ls : Array Slot), lv_has ls 6 [(3, .int l3)] → W p l e (headSpec wsX9_on ({ frames := 1, cells := 0, slots := 0, locals := 22 } : Room)).room s m ([.ref (a 0), .int a1, .int a2] : List Value).toArray below meth c s.heap [] 0 0 (MQ below (k2_QcV (.int z)) ([.ref (a 0), .int a1, .int a2] : List Value).toArray s 0 0 (fun _ => False)) (F0 m 88 ls [])), ∀ (l1 : Int32) (l2 : Int32) (l3 : Int32) (l4 : Int32), fX9_on_L5 M n kx88 l1 l2 l3 l4 = some z → ∀ (ls : Array Slot), lv_has ls 6 [(0, .ref (a 0)), (1, .int l1), (2, .int l2), (3, .int l3), (4, .int l4)] → W p l e (headSpec wsX9_on ({ frames := 1, cells := 0, slots := 0, locals := 22 } : Room)).room s m ([.ref (a 0), .int a1, .int a2] : List Value).toArray below meth c s.heap [] 0 0 (MQ below (k2_QcV (.int z)) ([.ref (a 0), .int a1, .int a2] : List Value).toArray s 0 0 (fun _ => False)) (F0 m 5 ls []) := by
    intro n
    induction n with
    | zero =>
      intro kx88 hkx88 l1 l2 l3 l4 hf ls hl
      rw [fX9_on_L5] at hf
      cases hf
    | succ n ih =>
      intro kx88 hkx88 l1 l2 l3 l4 hf ls hl
      rw [fX9_on_L5] at hf
      refine lv_iload hx hb dX9_on_5 (lv_at hl 4 rfl) ?_
      refine lv_aload_n hx hb dX9_on_7 rfl (lv_at hl 0 rfl) ?_
      refine va_get (D := (dC, dI)) (ci := 9) (v := .ref (a 1)) (C := RX9) (T := TX9) (N := 13) hx hb hts hinX9 hown hK hP 0 rfl rfl 1 (by decide) hw1 (fun _ h9 => h9) rfl dX9_on_8 ?_
      refine lv_iconst (v := (0 : Int32)) hx hb dX9_on_11 (by decide) ?_
      obtain ⟨hi, hf⟩ := gd_s hf
      refine va_iald (D := (dC, dI)) (f := (M 1)) hx hb hK hP 1 0 rfl rfl (inb_in hi) dX9_on_12 ?_
      refine lv_icmp_ge (tgt := 88) hx hb dX9_on_13 (by decide) (fun c9 => ?_) (fun c9 => ?_)
      · have hf := it_t hf c9
        exact hkx88 l3 hf _ (lv_sub hl [3] rfl)
      · have hf := it_f hf c9
        refine lv_iload hx hb dX9_on_16 (lv_at hl 4 rfl) ?_
        refine lv_aload_n hx hb dX9_on_18 rfl (lv_at hl 0 rfl) ?_
        refine va_get (D := (dC, dI)) (ci := 9) (v := .ref (a 1)) (C := RX9) (T := TX9) (N := 13) hx hb hts hinX9 hown hK hP 0 rfl rfl 1 (by decide) hw1 (fun _ h9 => h9) rfl dX9_on_19 ?_
        refine lv_iconst (v := (1 : Int32)) hx hb dX9_on_22 (by decide) ?_
        obtain ⟨hi, hf⟩ := gd_s hf
        refine va_iald (D := (dC, dI)) (f := (M 1)) hx hb hK hP 1 0 rfl rfl (inb_in hi) dX9_on_23 ?_
        refine lv_icmp_eq (tgt := 67) hx hb dX9_on_24 (by decide) (fun c9 => ?_) (fun c9 => ?_)
        · have hf := it_t hf c9
          exact hfX9_on_B67 _ (ih kx88 hkx88) _ hkx88 l1 l2 l3 l4 hf _ (lv_sub hl [0, 1, 2, 3, 4] rfl)
        · have hf := it_f hf c9
          refine lv_aload_n hx hb dX9_on_27 rfl (lv_at hl 0 rfl) ?_
          refine lv_iload hx hb dX9_on_28 (lv_at hl 4 rfl) ?_
          refine lv_iconst (v := (1 : Int32)) hx hb dX9_on_30 (by decide) ?_
          obtain ⟨r31, hc31, hf⟩ := bi_s hf
          have hPc := hP
          refine cRO (W.runV (As := [.int l4, .int (1 : Int32)]) (rest := []) ⟨hx, hb, hml, hown, hts⟩ (c_X9_of l dC dI cI cZ a M l4 (1 : Int32) r31 hc31) (cwV 2 hts gX9_on_X9_of rfl rfl rfl (by decide +kernel) ⟨Nat.le_of_ble_eq_true rfl, Nat.le_of_ble_eq_true rfl⟩) ⟨RO.blind, va_recv hK hP (ci := 9) (q0 := 0) rfl rfl, RO.pre hPc hK hNW⟩ rfl rfl hl.1 rfl (lv_room (Nat.le_of_ble_eq_true rfl)) dX9_on_31 ⟨Nat.le_of_ble_eq_true rfl, Nat.le_of_ble_eq_true rfl⟩) ?_
          refine lv_iload_n hx hb dX9_on_34 rfl (lv_at hl 1 rfl) ?_
          refine lv_icmp_ne (tgt := 67) hx hb dX9_on_35 (by decide) (fun c9 => ?_) (fun c9 => ?_)
          · have hf := it_t hf c9
            exact hfX9_on_B67 _ (ih kx88 hkx88) _ hkx88 l1 l2 l3 l4 hf _ (lv_sub hl [0, 1, 2, 3, 4] rfl)
          · have hf := it_n hf c9
            refine lv_iload_n hx hb dX9_on_38 rfl (lv_at hl 2 rfl) ?_
            refine lv_aload_n hx hb dX9_on_39 rfl (lv_at hl 0 rfl) ?_
            refine lv_iload hx hb dX9_on_40 (lv_at hl 4 rfl) ?_
            refine lv_iconst (v := (2 : Int32)) hx hb dX9_on_42 (by decide) ?_
            obtain ⟨r43, hc43, hf⟩ := bi_s hf
            have hPc := hP
            refine cRO (W.runV (As := [.int l4, .int (2 : Int32)]) (rest := [.int l2]) ⟨hx, hb, hml, hown, hts⟩ (c_X9_of l dC dI cI cZ a M l4 (2 : Int32) r43 hc43) (cwV 2 hts gX9_on_X9_of rfl rfl rfl (by decide +kernel) ⟨Nat.le_of_ble_eq_true rfl, Nat.le_of_ble_eq_true rfl⟩) ⟨RO.blind, va_recv hK hP (ci := 9) (q0 := 0) rfl rfl, RO.pre hPc hK hNW⟩ rfl rfl hl.1 rfl (lv_room (Nat.le_of_ble_eq_true rfl)) dX9_on_43 ⟨Nat.le_of_ble_eq_true rfl, Nat.le_of_ble_eq_true rfl⟩) ?_
            refine lv_isub hx hb dX9_on_46 ?_
            refine lv_iconst (v := (0 : Int32)) hx hb dX9_on_47 (by decide) ?_
            refine lv_aload_n hx hb dX9_on_48 rfl (lv_at hl 0 rfl) ?_
            refine lv_iload hx hb dX9_on_49 (lv_at hl 4 rfl) ?_
            refine lv_iconst (v := (0 : Int32)) hx hb dX9_on_51 (by decide) ?_
            obtain ⟨r52, hc52, hf⟩ := bi_s hf
            have hPc := hP
            refine cRO (W.runV (As := [.int l4, .int (0 : Int32)]) (rest := [.int (0 : Int32), .int (l2 - r43)]) ⟨hx, hb, hml, hown, hts⟩ (c_X9_of l dC dI cI cZ a M l4 (0 : Int32) r52 hc52) (cwV 2 hts gX9_on_X9_of rfl rfl rfl (by decide +kernel) ⟨Nat.le_of_ble_eq_true rfl, Nat.le_of_ble_eq_true rfl⟩) ⟨RO.blind, va_recv hK hP (ci := 9) (q0 := 0) rfl rfl, RO.pre hPc hK hNW⟩ rfl rfl hl.1 rfl (lv_room (Nat.le_of_ble_eq_true rfl)) dX9_on_52 ⟨Nat.le_of_ble_eq_true rfl, Nat.le_of_ble_eq_true rfl⟩) ?_
            refine lv_iconst (v := (1 : Int32)) hx hb dX9_on_55 (by decide) ?_
            refine lv_isub hx hb dX9_on_56 ?_
            obtain ⟨r57, hc57, hf⟩ := bi_s hf
            refine cRO (W.runS (As := [.int (l2 - r43), .int (0 : Int32), .int (r52 - (1 : Int32))]) (rest := []) ⟨hx, hb, hml, hown, hts⟩ (c_X9_in l (l2 - r43) (0 : Int32) (r52 - (1 : Int32)) r57 hc57) (va_cwS 3 hts gX9_on_X9_in rfl rfl rfl (by decide +kernel) ⟨Nat.le_of_ble_eq_true rfl, Nat.le_of_ble_eq_true rfl⟩) ⟨tr_blind, tr_pre⟩ rfl rfl hl.1 rfl (lv_room (Nat.le_of_ble_eq_true rfl)) dX9_on_57 ⟨Nat.le_of_ble_eq_true rfl, Nat.le_of_ble_eq_true rfl⟩) ?_
            refine lv_if_eq (tgt := 67) hx hb dX9_on_60 (by decide) (fun c9 => ?_) (fun c9 => ?_)
            · have hf := it_t hf c9
              exact hfX9_on_B67 _ (ih kx88 hkx88) _ hkx88 l1 l2 l3 l4 hf _ (lv_sub hl [0, 1, 2, 3, 4] rfl)
            · have hf := it_f hf c9
              refine lv_iconst (v := (1 : Int32)) hx hb dX9_on_63 (by decide) ?_
              refine lv_goto (tgt := 68) hx hb dX9_on_64 (by decide) ?_
              exact hfX9_on_B68 _ (ih kx88 hkx88) _ hkx88 l1 l2 l3 l4 (1 : Int32) hf _ (lv_sub hl [0, 1, 2, 3, 4] rfl)
  have hl := lv_entry ([.ref (a 0), .int a1, .int a2]) (n := 6) (Nat.le_of_ble_eq_true rfl)
  rw [lg_entry_eq]
  generalize (lg_sl ([.ref (a 0), .int a1, .int a2]) ++ List.replicate (6 - (lg_sl ([.ref (a 0), .int a1, .int a2])).length) Slot.unset).toArray = ls at hl ⊢
  have hl : lv_has ls 6 [(0, .ref (a 0)), (1, .int a1), (2, .int a2)] := hl
  unfold fX9_on at hf
  refine lv_iconst (v := (-1 : Int32)) hx hb dX9_on_0 (by decide) ?_
  refine lv_istore_n (lv' := [(3, .int (-1 : Int32)), (0, .ref (a 0)), (1, .int a1), (2, .int a2)]) hx hb dX9_on_1 rfl hl (by decide) rfl (fun ls hl => ?_)
  refine lv_iconst (v := (0 : Int32)) hx hb dX9_on_2 (by decide) ?_
  refine lv_istore (lv' := [(4, .int (0 : Int32)), (3, .int (-1 : Int32)), (0, .ref (a 0)), (1, .int a1), (2, .int a2)]) hx hb dX9_on_3 hl (by decide) rfl (fun ls hl => ?_)
  refine hfX9_on_L5 5000 _ (fun l3 hf ls hl => ?_) a1 a2 (-1 : Int32) (0 : Int32) hf _ (lv_sub hl [2, 3, 4, 1, 0] rfl)
  refine lv_iload_n hx hb dX9_on_88 rfl (lv_at hl 0 rfl) ?_
  exact W.iret (v := l3) hx hb hr (fun t ht hW => ⟨congrArg (fun x => Outcome.returned (some (Value.int x))) (so_e hf), ht⟩) fl0 dX9_on_89
set_option maxHeartbeats 4000000 in
set_option maxRecDepth 100000 in
theorem c_X9_fits (l : Launch) (dC : Nat → ClassId) (dI : Nat → Nat → Nat) (cI cZ : ClassId) (a : Nat → Nat) (M : Mem) (a1 : Int32) (a2 : Int32) (a3 : Int32) (z : Int32) (hf : fX9_fits M a1 a2 a3 = some z) : Met l yX9_fits wsX9_fits ({ frames := 2, cells := 0, slots := 0, locals := 47 } : Room) (va_Pc [.ref (a 0), .int a1, .int a2, .int a3] (RO (dC, dI) cI cZ (wX9 cI cZ a M))) (k2_QcV (.int z)) 0 0 (fun _ => False) := by
  refine Met.ofW (cc := cX9_fits) (maxL := 6) (ret := (some .boolean)) (by decide) rfl ?_
  intro p e s m args below meth c s₁ B hml hv
  obtain ⟨rfl, hP, hK, hNW⟩ := hv
  have hx := B.exec
  have hb := B.bytes
  have hr := B.returns
  have hts := atoms_spec (ws := wsX9_fits) B.pre
  have hown : s.vm.findClass RX9 = some m.cls := findClass_of_methodNamed B.named
  have hlocks := B.notSynchronized
  have hfX9_fits_B47 : ∀ (kb : Int32 → Int32 → Int32 → Int32 → Int32 → Option (Int32)) (hkb : ∀ (l1 : Int32) (l2 : Int32) (l3 : Int32) (l4 : Int32) (l5 : Int32), kb l1 l2 l3 l4 l5 = some z → ∀ (ls : Array Slot), lv_has ls 6 [(0, .ref (a 0)), (1, .int l1), (2, .int l2), (3, .int l3), (4, .int l4), (5, .int l5)] → W p l e (headSpec wsX9_fits ({ frames := 2, cells := 0, slots := 0, locals := 47 } : Room)).room s m ([.ref (a 0), .int a1, .int a2, .int a3] : List Value).toArray below meth c s.heap [] 0 0 (MQ below (k2_QcV (.int z)) ([.ref (a 0), .int a1, .int a2, .int a3] : List Value).toArray s 0 0 (fun _ => False)) (F0 m 18 ls [])) (kx55 : Int32 → Option (Int32)) (hkx55 : ∀ (l4 : Int32), kx55 l4 = some z → ∀ (ls : Array Slot), lv_has ls 6 [(4, .int l4)] → W p l e (headSpec wsX9_fits ({ frames := 2, cells := 0, slots := 0, locals := 47 } : Room)).room s m ([.ref (a 0), .int a1, .int a2, .int a3] : List Value).toArray below meth c s.heap [] 0 0 (MQ below (k2_QcV (.int z)) ([.ref (a 0), .int a1, .int a2, .int a3] : List Value).toArray s 0 0 (fun _ => False)) (F0 m 55 ls [])), ∀ (l1 : Int32) (l2 : Int32) (l3 : Int32) (l5 : Int32) (s0 : Int32), fX9_fits_B47 M kb kx55 l1 l2 l3 l5 s0 = some z → ∀ (ls : Array Slot), lv_has ls 6 [(0, .ref (a 0)), (1, .int l1), (2, .int l2), (3, .int l3), (5, .int l5)] → W p l e (headSpec wsX9_fits ({ frames := 2, cells := 0, slots := 0, locals := 47 } : Room)).room s m ([.ref (a 0), .int a1, .int a2, .int a3] : List Value).toArray below meth c s.heap [] 0 0 (MQ below (k2_QcV (.int z)) ([.ref (a 0), .int a1, .int a2, .int a3] : List Value).toArray s 0 0 (fun _ => False)) (F0 m 47 ls [.int s0]) := by
    intro kb hkb kx55 hkx55 l1 l2 l3 l5 s0 hf ls hl
    unfold fX9_fits_B47 at hf
    refine lv_istore (lv' := [(4, .int s0), (0, .ref (a 0)), (1, .int l1), (2, .int l2), (3, .int l3), (5, .int l5)]) hx hb dX9_fits_47 hl (by decide) rfl (fun ls hl => ?_)
    refine lv_iinc (v := (l5 + (1 : Int32))) (lv' := [(5, .int (l5 + (1 : Int32))), (4, .int s0), (0, .ref (a 0)), (1, .int l1), (2, .int l2), (3, .int l3)]) hx hb dX9_fits_49 hl (k := 5) rfl rfl (by decide) rfl (fun ls hl => ?_)
    refine lv_goto (tgt := 18) hx hb dX9_fits_52 (by decide) ?_
    exact hkb l1 l2 l3 s0 (l5 + (1 : Int32)) hf _ (lv_sub hl [2, 3, 4, 5, 1, 0] rfl)
  have hfX9_fits_L18 : ∀ (n : Nat) (kx55 : Int32 → Option (Int32)) (hkx55 : ∀ (l4 : Int32), kx55 l4 = some z → ∀ (ls : Array Slot), lv_has ls 6 [(4, .int l4)] → W p l e (headSpec wsX9_fits ({ frames := 2, cells := 0, slots := 0, locals := 47 } : Room)).room s m ([.ref (a 0), .int a1, .int a2, .int a3] : List Value).toArray below meth c s.heap [] 0 0 (MQ below (k2_QcV (.int z)) ([.ref (a 0), .int a1, .int a2, .int a3] : List Value).toArray s 0 0 (fun _ => False)) (F0 m 55 ls [])), ∀ (l1 : Int32) (l2 : Int32) (l3 : Int32) (l4 : Int32) (l5 : Int32), fX9_fits_L18 M n kx55 l1 l2 l3 l4 l5 = some z → ∀ (ls : Array Slot), lv_has ls 6 [(0, .ref (a 0)), (1, .int l1), (2, .int l2), (3, .int l3), (4, .int l4), (5, .int l5)] → W p l e (headSpec wsX9_fits ({ frames := 2, cells := 0, slots := 0, locals := 47 } : Room)).room s m ([.ref (a 0), .int a1, .int a2, .int a3] : List Value).toArray below meth c s.heap [] 0 0 (MQ below (k2_QcV (.int z)) ([.ref (a 0), .int a1, .int a2, .int a3] : List Value).toArray s 0 0 (fun _ => False)) (F0 m 18 ls []) := by
    intro n
    induction n with
    | zero =>
      intro kx55 hkx55 l1 l2 l3 l4 l5 hf ls hl
      rw [fX9_fits_L18] at hf
      cases hf
    | succ n ih =>
      intro kx55 hkx55 l1 l2 l3 l4 l5 hf ls hl
      rw [fX9_fits_L18] at hf
      refine lv_iload hx hb dX9_fits_18 (lv_at hl 5 rfl) ?_
      refine lv_iload_n hx hb dX9_fits_20 rfl (lv_at hl 3 rfl) ?_
      refine lv_iload_n hx hb dX9_fits_21 rfl (lv_at hl 1 rfl) ?_
      refine lv_iadd hx hb dX9_fits_22 ?_
      refine lv_icmp_ge (tgt := 55) hx hb dX9_fits_23 (by decide) (fun c9 => ?_) (fun c9 => ?_)
      · have hf := it_t hf c9
        exact hkx55 l4 hf _ (lv_sub hl [4] rfl)
      · have hf := it_f hf c9
        refine lv_iload hx hb dX9_fits_26 (lv_at hl 4 rfl) ?_
        refine lv_if_eq (tgt := 55) hx hb dX9_fits_28 (by decide) (fun c9 => ?_) (fun c9 => ?_)
        · have hf := it_t hf c9
          exact hkx55 l4 hf _ (lv_sub hl [4] rfl)
        · have hf := it_f hf c9
          refine lv_aload_n hx hb dX9_fits_31 rfl (lv_at hl 0 rfl) ?_
          refine lv_iload_n hx hb dX9_fits_32 rfl (lv_at hl 2 rfl) ?_
          refine lv_iload hx hb dX9_fits_33 (lv_at hl 5 rfl) ?_
          obtain ⟨r35, hc35, hf⟩ := bi_s hf
          have hPc := hP
          refine cRO (W.runV (As := [.int l2, .int l5]) (rest := []) ⟨hx, hb, hml, hown, hts⟩ (c_X9_on l dC dI cI cZ a M l2 l5 r35 hc35) (cwV 2 hts gX9_fits_X9_on rfl rfl rfl (by decide +kernel) ⟨Nat.le_of_ble_eq_true rfl, Nat.le_of_ble_eq_true rfl⟩) ⟨RO.blind, va_recv hK hP (ci := 9) (q0 := 0) rfl rfl, RO.pre hPc hK hNW⟩ rfl rfl hl.1 rfl (lv_room (Nat.le_of_ble_eq_true rfl)) dX9_fits_35 ⟨Nat.le_of_ble_eq_true rfl, Nat.le_of_ble_eq_true rfl⟩) ?_
          refine lv_iconst (v := (-1 : Int32)) hx hb dX9_fits_38 (by decide) ?_
          refine lv_icmp_ne (tgt := 46) hx hb dX9_fits_39 (by decide) (fun c9 => ?_) (fun c9 => ?_)
          · have hf := it_t hf c9
            refine lv_iconst (v := (0 : Int32)) hx hb dX9_fits_46 (by decide) ?_
            exact hfX9_fits_B47 _ (ih kx55 hkx55) _ hkx55 l1 l2 l3 l5 (0 : Int32) hf _ (lv_sub hl [0, 1, 2, 3, 5] rfl)
          · have hf := it_n hf c9
            refine lv_iconst (v := (1 : Int32)) hx hb dX9_fits_42 (by decide) ?_
            refine lv_goto (tgt := 47) hx hb dX9_fits_43 (by decide) ?_
            exact hfX9_fits_B47 _ (ih kx55 hkx55) _ hkx55 l1 l2 l3 l5 (1 : Int32) hf _ (lv_sub hl [0, 1, 2, 3, 5] rfl)
  have hfX9_fits_B13 : ∀ (l1 : Int32) (l2 : Int32) (l3 : Int32) (s0 : Int32), fX9_fits_B13 M  l1 l2 l3 s0 = some z → ∀ (ls : Array Slot), lv_has ls 6 [(0, .ref (a 0)), (1, .int l1), (2, .int l2), (3, .int l3)] → W p l e (headSpec wsX9_fits ({ frames := 2, cells := 0, slots := 0, locals := 47 } : Room)).room s m ([.ref (a 0), .int a1, .int a2, .int a3] : List Value).toArray below meth c s.heap [] 0 0 (MQ below (k2_QcV (.int z)) ([.ref (a 0), .int a1, .int a2, .int a3] : List Value).toArray s 0 0 (fun _ => False)) (F0 m 13 ls [.int s0]) := by
    intro  l1 l2 l3 s0 hf ls hl
    unfold fX9_fits_B13 at hf
    refine lv_istore (lv' := [(4, .int s0), (0, .ref (a 0)), (1, .int l1), (2, .int l2), (3, .int l3)]) hx hb dX9_fits_13 hl (by decide) rfl (fun ls hl => ?_)
    refine lv_iload_n hx hb dX9_fits_15 rfl (lv_at hl 4 rfl) ?_
    refine lv_istore (lv' := [(5, .int l3), (4, .int s0), (0, .ref (a 0)), (1, .int l1), (2, .int l2), (3, .int l3)]) hx hb dX9_fits_16 hl (by decide) rfl (fun ls hl => ?_)
    refine hfX9_fits_L18 5000 _ (fun l4 hf ls hl => ?_) l1 l2 l3 s0 l3 hf _ (lv_sub hl [2, 3, 4, 5, 1, 0] rfl)
    refine lv_iload hx hb dX9_fits_55 (lv_at hl 0 rfl) ?_
    obtain ⟨hz, hf⟩ := gd_s hf
    exact W.zret (v := l4) hx hb hr (isb_nar hz) (fun t ht hW => ⟨congrArg (fun x => Outcome.returned (some (Value.int x))) (so_e hf), ht⟩) fl0 dX9_fits_57
  have hl := lv_entry ([.ref (a 0), .int a1, .int a2, .int a3]) (n := 6) (Nat.le_of_ble_eq_true rfl)
  rw [lg_entry_eq]
  generalize (lg_sl ([.ref (a 0), .int a1, .int a2, .int a3]) ++ List.replicate (6 - (lg_sl ([.ref (a 0), .int a1, .int a2, .int a3])).length) Slot.unset).toArray = ls at hl ⊢
  have hl : lv_has ls 6 [(0, .ref (a 0)), (1, .int a1), (2, .int a2), (3, .int a3)] := hl
  unfold fX9_fits at hf
  refine lv_iload_n hx hb dX9_fits_0 rfl (lv_at hl 3 rfl) ?_
  refine lv_iload_n hx hb dX9_fits_1 rfl (lv_at hl 1 rfl) ?_
  refine lv_iadd hx hb dX9_fits_2 ?_
  refine lv_bipush (v := (20 : Int32)) hx hb dX9_fits_3 (by decide) ?_
  refine lv_icmp_gt (tgt := 12) hx hb dX9_fits_5 (by decide) (fun c9 => ?_) (fun c9 => ?_)
  · have hf := it_t hf c9
    refine lv_iconst (v := (0 : Int32)) hx hb dX9_fits_12 (by decide) ?_
    exact hfX9_fits_B13  a1 a2 a3 (0 : Int32) hf _ (lv_sub hl [0, 1, 2, 3] rfl)
  · have hf := it_f hf c9
    refine lv_iconst (v := (1 : Int32)) hx hb dX9_fits_8 (by decide) ?_
    refine lv_goto (tgt := 13) hx hb dX9_fits_9 (by decide) ?_
    exact hfX9_fits_B13  a1 a2 a3 (1 : Int32) hf _ (lv_sub hl [0, 1, 2, 3] rfl)
set_option maxHeartbeats 4000000 in
set_option maxRecDepth 100000 in
theorem c_X9_place (l : Launch) (dC : Nat → ClassId) (dI : Nat → Nat → Nat) (cI cZ : ClassId) (a : Nat → Nat) (M : Mem) (a1 : Int32) (z : Int32) (hf : fX9_place M a1 = some z) : Met l yX9_place wsX9_place ({ frames := 3, cells := 0, slots := 0, locals := 72 } : Room) (va_Pc [.ref (a 0), .int a1] (RO (dC, dI) cI cZ (wX9 cI cZ a M))) (k2_QcV (.int z)) 0 0 (fun _ => False) := by
  refine Met.ofW (cc := cX9_place) (maxL := 3) (ret := (some .int)) (by decide) rfl ?_
  intro p e s m args below meth c s₁ B hml hv
  obtain ⟨rfl, hP, hK, hNW⟩ := hv
  have hx := B.exec
  have hb := B.bytes
  have hr := B.returns
  have hts := atoms_spec (ws := wsX9_place) B.pre
  have hown : s.vm.findClass RX9 = some m.cls := findClass_of_methodNamed B.named
  have hlocks := B.notSynchronized
  have hfX9_place_L2 : ∀ (n : Nat) (kx22 : Int32 → Option (Int32)) (hkx22 : ∀ (l2 : Int32), kx22 l2 = some z → ∀ (ls : Array Slot), lv_has ls 3 [(2, .int l2)] → W p l e (headSpec wsX9_place ({ frames := 3, cells := 0, slots := 0, locals := 72 } : Room)).room s m ([.ref (a 0), .int a1] : List Value).toArray below meth c s.heap [] 0 0 (MQ below (k2_QcV (.int z)) ([.ref (a 0), .int a1] : List Value).toArray s 0 0 (fun _ => False)) (F0 m 22 ls [])) (kx39 : Unit → Option (Int32)) (hkx39 : ∀ (_ : Unit), kx39 () = some z → ∀ (ls : Array Slot), lv_has ls 3 [] → W p l e (headSpec wsX9_place ({ frames := 3, cells := 0, slots := 0, locals := 72 } : Room)).room s m ([.ref (a 0), .int a1] : List Value).toArray below meth c s.heap [] 0 0 (MQ below (k2_QcV (.int z)) ([.ref (a 0), .int a1] : List Value).toArray s 0 0 (fun _ => False)) (F0 m 39 ls [])), ∀ (l1 : Int32) (l2 : Int32), fX9_place_L2 M n kx22 kx39 l1 l2 = some z → ∀ (ls : Array Slot), lv_has ls 3 [(0, .ref (a 0)), (1, .int l1), (2, .int l2)] → W p l e (headSpec wsX9_place ({ frames := 3, cells := 0, slots := 0, locals := 72 } : Room)).room s m ([.ref (a 0), .int a1] : List Value).toArray below meth c s.heap [] 0 0 (MQ below (k2_QcV (.int z)) ([.ref (a 0), .int a1] : List Value).toArray s 0 0 (fun _ => False)) (F0 m 2 ls []) := by
    intro n
    induction n with
    | zero =>
      intro kx22 hkx22 kx39 hkx39 l1 l2 hf ls hl
      rw [fX9_place_L2] at hf
      cases hf
    | succ n ih =>
      intro kx22 hkx22 kx39 hkx39 l1 l2 hf ls hl
      rw [fX9_place_L2] at hf
      refine lv_iload_n hx hb dX9_place_2 rfl (lv_at hl 2 rfl) ?_
      refine lv_bipush (v := (40 : Int32)) hx hb dX9_place_3 (by decide) ?_
      refine lv_icmp_ge (tgt := 39) hx hb dX9_place_5 (by decide) (fun c9 => ?_) (fun c9 => ?_)
      · have hf := it_t hf c9
        exact hkx39 () hf _ (lv_sub hl [] rfl)
      · have hf := it_f hf c9
        refine lv_aload_n hx hb dX9_place_8 rfl (lv_at hl 0 rfl) ?_
        refine lv_iload_n hx hb dX9_place_9 rfl (lv_at hl 1 rfl) ?_
        refine lv_iload_n hx hb dX9_place_10 rfl (lv_at hl 2 rfl) ?_
        refine lv_iconst (v := (2 : Int32)) hx hb dX9_place_11 (by decide) ?_
        refine lv_irem hx hb dX9_place_12 (by decide) ?_
        refine lv_iload_n hx hb dX9_place_13 rfl (lv_at hl 2 rfl) ?_
        refine lv_iconst (v := (2 : Int32)) hx hb dX9_place_14 (by decide) ?_
        refine lv_idiv hx hb dX9_place_15 (by decide) ?_
        obtain ⟨r16, hc16, hf⟩ := bi_s hf
        have hPc := hP
        refine cRO (W.runV (As := [.int l1, .int (l2 - l2 / (2 : Int32) * (2 : Int32)), .int (l2 / (2 : Int32))]) (rest := []) ⟨hx, hb, hml, hown, hts⟩ (c_X9_fits l dC dI cI cZ a M l1 (l2 - l2 / (2 : Int32) * (2 : Int32)) (l2 / (2 : Int32)) r16 hc16) (cwV 3 hts gX9_place_X9_fits rfl rfl rfl (by decide +kernel) ⟨Nat.le_of_ble_eq_true rfl, Nat.le_of_ble_eq_true rfl⟩) ⟨RO.blind, va_recv hK hP (ci := 9) (q0 := 0) rfl rfl, RO.pre hPc hK hNW⟩ rfl rfl hl.1 rfl (lv_room (Nat.le_of_ble_eq_true rfl)) dX9_place_16 ⟨Nat.le_of_ble_eq_true rfl, Nat.le_of_ble_eq_true rfl⟩) ?_
        refine lv_if_eq (tgt := 33) hx hb dX9_place_19 (by decide) (fun c9 => ?_) (fun c9 => ?_)
        · have hf := it_t hf c9
          refine lv_iinc (v := (l2 + (1 : Int32))) (lv' := [(2, .int (l2 + (1 : Int32))), (0, .ref (a 0)), (1, .int l1)]) hx hb dX9_place_33 hl (k := 2) rfl rfl (by decide) rfl (fun ls hl => ?_)
          refine lv_goto (tgt := 2) hx hb dX9_place_36 (by decide) ?_
          exact ih kx22 hkx22 kx39 hkx39 l1 (l2 + (1 : Int32)) hf _ (lv_sub hl [1, 2, 0] rfl)
        · have hf := it_f hf c9
          exact hkx22 l2 hf _ (lv_sub hl [2] rfl)
  have hl := lv_entry ([.ref (a 0), .int a1]) (n := 3) (Nat.le_of_ble_eq_true rfl)
  rw [lg_entry_eq]
  generalize (lg_sl ([.ref (a 0), .int a1]) ++ List.replicate (3 - (lg_sl ([.ref (a 0), .int a1])).length) Slot.unset).toArray = ls at hl ⊢
  have hl : lv_has ls 3 [(0, .ref (a 0)), (1, .int a1)] := hl
  unfold fX9_place at hf
  refine lv_iconst (v := (0 : Int32)) hx hb dX9_place_0 (by decide) ?_
  refine lv_istore_n (lv' := [(2, .int (0 : Int32)), (0, .ref (a 0)), (1, .int a1)]) hx hb dX9_place_1 rfl hl (by decide) rfl (fun ls hl => ?_)
  refine hfX9_place_L2 5000 _ (fun l2 hf ls hl => ?_) _ (fun _ hf ls hl => ?_) a1 (0 : Int32) hf _ (lv_sub hl [1, 2, 0] rfl)
  · refine lv_bipush (v := (20 : Int32)) hx hb dX9_place_22 (by decide) ?_
    refine lv_iload_n hx hb dX9_place_24 rfl (lv_at hl 0 rfl) ?_
    refine lv_iconst (v := (2 : Int32)) hx hb dX9_place_25 (by decide) ?_
    refine lv_irem hx hb dX9_place_26 (by decide) ?_
    refine lv_imul hx hb dX9_place_27 ?_
    refine lv_iload_n hx hb dX9_place_28 rfl (lv_at hl 0 rfl) ?_
    refine lv_iconst (v := (2 : Int32)) hx hb dX9_place_29 (by decide) ?_
    refine lv_idiv hx hb dX9_place_30 (by decide) ?_
    refine lv_iadd hx hb dX9_place_31 ?_
    exact W.iret (v := (((20 : Int32) * (l2 - l2 / (2 : Int32) * (2 : Int32))) + (l2 / (2 : Int32)))) hx hb hr (fun t ht hW => ⟨congrArg (fun x => Outcome.returned (some (Value.int x))) (so_e hf), ht⟩) fl0 dX9_place_32
  · refine lv_iconst (v := (-1 : Int32)) hx hb dX9_place_39 (by decide) ?_
    exact W.iret (v := (-1 : Int32)) hx hb hr (fun t ht hW => ⟨congrArg (fun x => Outcome.returned (some (Value.int x))) (so_e hf), ht⟩) fl0 dX9_place_40
set_option maxHeartbeats 4000000 in
set_option maxRecDepth 100000 in
theorem c_X9_way (l : Launch) (dC : Nat → ClassId) (dI : Nat → Nat → Nat) (cI cZ : ClassId) (a : Nat → Nat) (M : Mem) (a1 : Int32) (z : Int32) (hf : fX9_way M a1 = some z) : Met l yX9_way wsX9_way ({ frames := 1, cells := 0, slots := 0, locals := 22 } : Room) (va_Pc [.ref (a 0), .int a1] (RO (dC, dI) cI cZ (wX9 cI cZ a M))) (k2_QcV (.int z)) 0 0 (fun _ => False) := by
  refine Met.ofW (cc := cX9_way) (maxL := 2) (ret := (some .int)) (by decide) rfl ?_
  intro p e s m args below meth c s₁ B hml hv
  obtain ⟨rfl, hP, hK, hNW⟩ := hv
  have hx := B.exec
  have hb := B.bytes
  have hr := B.returns
  have hts := atoms_spec (ws := wsX9_way) B.pre
  have hown : s.vm.findClass RX9 = some m.cls := findClass_of_methodNamed B.named
  have hlocks := B.notSynchronized
  have hl := lv_entry ([.ref (a 0), .int a1]) (n := 2) (Nat.le_of_ble_eq_true rfl)
  rw [lg_entry_eq]
  generalize (lg_sl ([.ref (a 0), .int a1]) ++ List.replicate (2 - (lg_sl ([.ref (a 0), .int a1])).length) Slot.unset).toArray = ls at hl ⊢
  have hl : lv_has ls 2 [(0, .ref (a 0)), (1, .int a1)] := hl
  unfold fX9_way at hf
  refine lv_aload_n hx hb dX9_way_0 rfl (lv_at hl 0 rfl) ?_
  refine lv_iload_n hx hb dX9_way_1 rfl (lv_at hl 1 rfl) ?_
  refine lv_iconst (v := (2 : Int32)) hx hb dX9_way_2 (by decide) ?_
  obtain ⟨r3, hc3, hf⟩ := bi_s hf
  have hPc := hP
  refine cRO (W.runV (As := [.int a1, .int (2 : Int32)]) (rest := []) ⟨hx, hb, hml, hown, hts⟩ (c_X9_of l dC dI cI cZ a M a1 (2 : Int32) r3 hc3) (cwV 2 hts gX9_way_X9_of rfl rfl rfl (by decide +kernel) ⟨Nat.le_of_ble_eq_true rfl, Nat.le_of_ble_eq_true rfl⟩) ⟨RO.blind, va_recv hK hP (ci := 9) (q0 := 0) rfl rfl, RO.pre hPc hK hNW⟩ rfl rfl hl.1 rfl (lv_room (Nat.le_of_ble_eq_true rfl)) dX9_way_3 ⟨Nat.le_of_ble_eq_true rfl, Nat.le_of_ble_eq_true rfl⟩) ?_
  refine lv_iconst (v := (2 : Int32)) hx hb dX9_way_6 (by decide) ?_
  refine lv_aload_n hx hb dX9_way_7 rfl (lv_at hl 0 rfl) ?_
  refine lv_iload_n hx hb dX9_way_8 rfl (lv_at hl 1 rfl) ?_
  refine lv_iconst (v := (1 : Int32)) hx hb dX9_way_9 (by decide) ?_
  obtain ⟨r10, hc10, hf⟩ := bi_s hf
  have hPc := hP
  refine cRO (W.runV (As := [.int a1, .int (1 : Int32)]) (rest := [.int (2 : Int32), .int r3]) ⟨hx, hb, hml, hown, hts⟩ (c_X9_of l dC dI cI cZ a M a1 (1 : Int32) r10 hc10) (cwV 2 hts gX9_way_X9_of rfl rfl rfl (by decide +kernel) ⟨Nat.le_of_ble_eq_true rfl, Nat.le_of_ble_eq_true rfl⟩) ⟨RO.blind, va_recv hK hP (ci := 9) (q0 := 0) rfl rfl, RO.pre hPc hK hNW⟩ rfl rfl hl.1 rfl (lv_room (Nat.le_of_ble_eq_true rfl)) dX9_way_10 ⟨Nat.le_of_ble_eq_true rfl, Nat.le_of_ble_eq_true rfl⟩) ?_
  refine lv_imul hx hb dX9_way_13 ?_
  refine lv_iadd hx hb dX9_way_14 ?_
  exact W.iret (v := (r3 + ((2 : Int32) * r10))) hx hb hr (fun t ht hW => ⟨congrArg (fun x => Outcome.returned (some (Value.int x))) (so_e hf), ht⟩) fl0 dX9_way_15
set_option maxHeartbeats 4000000 in
set_option maxRecDepth 100000 in
theorem c_X9_puts (l : Launch) (dC : Nat → ClassId) (dI : Nat → Nat → Nat) (cI cZ : ClassId) (a : Nat → Nat) (sz : Nat) (M : Mem) (a1 : Int32) (a2 : Int32) (z : Mem) (hf : fX9_puts M a1 a2 = some z) : Met l yX9_puts wsX9_puts ({ frames := 1, cells := 0, slots := 0, locals := 23 } : Room) (va_Pc [.ref (a 0), .int a1, .int a2] (WR (dC, dI) cI cZ (wX9 cI cZ a M) sz)) (va_Qv (S := Unit) (fun _ => True) (fun _ t => WE (dC, dI) cI cZ (wX9 cI cZ a (sr M 1 (z 1))) (va_A (wX9 cI cZ a M) sz) t) (va_A (wX9 cI cZ a M) sz)) 0 0 (va_A (wX9 cI cZ a M) sz) := by
  refine Met.ofW (cc := cX9_puts) (maxL := 3) (ret := none) (by decide) rfl ?_
  intro p e s m args below meth c s₁ B hml hv
  obtain ⟨rfl, hsz, hP, hK, hD0, hNW⟩ := hv
  have hx := B.exec
  have hb := B.bytes
  have hr := B.returns
  have hts := atoms_spec (ws := wsX9_puts) B.pre
  have hown : s.vm.findClass RX9 = some m.cls := findClass_of_methodNamed B.named
  have hlocks := B.notSynchronized
  subst hsz
  have hD := hD0.self (sz := s.heap.size)
  generalize hAe : va_A (wX9 cI cZ a M) s.heap.size = A at hD ⊢
  have hA : ∀ q : Nat, s.heap.size ≤ q → A q := fun q h => by rw [← hAe]; exact Or.inr h
  have hS : va_S A s.heap s.heap [] := va_S.rf
  have hl := lv_entry ([.ref (a 0), .int a1, .int a2]) (n := 3) (Nat.le_of_ble_eq_true rfl)
  rw [lg_entry_eq]
  generalize (lg_sl ([.ref (a 0), .int a1, .int a2]) ++ List.replicate (3 - (lg_sl ([.ref (a 0), .int a1, .int a2])).length) Slot.unset).toArray = ls at hl ⊢
  have hl : lv_has ls 3 [(0, .ref (a 0)), (1, .int a1), (2, .int a2)] := hl
  unfold fX9_puts at hf
  suffices hgo : ∀ (H : Heap) (locs : List Loc), va_P (dC, dI) vwCl (wX9 cI cZ a M) H → va_D A (wX9 cI cZ a M) → va_S A s.heap H locs → W p l e (headSpec wsX9_puts ({ frames := 1, cells := 0, slots := 0, locals := 23 } : Room)).room s m ([.ref (a 0), .int a1, .int a2] : List Value).toArray below meth c H locs 0 0 (MQ below (va_Qv (S := Unit) (fun _ => True) (fun _ t => WE (dC, dI) cI cZ (wX9 cI cZ a (sr M 1 (z 1))) A t) A) ([.ref (a 0), .int a1, .int a2] : List Value).toArray s 0 0 A) (F0 m 0 ls []) from hgo _ _ hP hD hS
  intro H locs hP hD hS
  refine lv_aload_n hx hb dX9_puts_0 rfl (lv_at hl 0 rfl) ?_
  refine lv_iload_n hx hb dX9_puts_1 rfl (lv_at hl 1 rfl) ?_
  refine lv_iconst (v := (1 : Int32)) hx hb dX9_puts_2 (by decide) ?_
  refine lv_iload_n hx hb dX9_puts_3 rfl (lv_at hl 2 rfl) ?_
  refine lv_bipush (v := (20 : Int32)) hx hb dX9_puts_4 (by decide) ?_
  refine lv_idiv hx hb dX9_puts_6 (by decide) ?_
  obtain ⟨r7, hc7, hf⟩ := bi_s hf
  have hPc := hP
  have hDc := hD
  have hFc := va_free (wc := (wX9 cI cZ a M)) hD hS hA [0, 1, 2, 3, 4, 5, 6, 7, 8] rfl
  refine va_callv (va_runV (As := [.int a1, .int (1 : Int32), .int (a2 / (20 : Int32))]) (rest := []) ⟨hx, hb, hml, hown, hts⟩ (c_X9_lay l dC dI cI cZ a H.size M a1 (1 : Int32) (a2 / (20 : Int32)) r7 hc7) (cwV 3 hts gX9_puts_X9_lay rfl rfl rfl (by decide +kernel) ⟨Nat.le_of_ble_eq_true rfl, Nat.le_of_ble_eq_true rfl⟩) ⟨WR.blind, va_recv hK hP (ci := 9) (q0 := 0) rfl rfl, WR.pre hPc hK hDc hNW⟩ rfl rfl hl.1 rfl (lv_room (Nat.le_of_ble_eq_true rfl)) dX9_puts_7 ⟨Nat.le_of_ble_eq_true rfl, Nat.le_of_ble_eq_true rfl⟩) hS (fun q _ h => hFc q h) hFc (fun u t H1 locs ht hvm hw hB hz1 hk1 hS => ?_)
  obtain ⟨hP1, hD1⟩ := hB
  rw [ht] at hP1
  have hP := hP1
  have hD := hD1.weaken (fun k q _ h => hFc q.1 h)
  have hP : va_P (dC, dI) vwCl (wX9 cI cZ a (sr M 1 (r7 1))) H1 := hP
  have hD : va_D A (wX9 cI cZ a (sr M 1 (r7 1))) := hD
  generalize H1 = H at hP hS ⊢
  refine lv_aload_n hx hb dX9_puts_10 rfl (lv_at hl 0 rfl) ?_
  refine lv_iload_n hx hb dX9_puts_11 rfl (lv_at hl 1 rfl) ?_
  refine lv_iconst (v := (2 : Int32)) hx hb dX9_puts_12 (by decide) ?_
  refine lv_iload_n hx hb dX9_puts_13 rfl (lv_at hl 2 rfl) ?_
  refine lv_bipush (v := (20 : Int32)) hx hb dX9_puts_14 (by decide) ?_
  refine lv_irem hx hb dX9_puts_16 (by decide) ?_
  obtain ⟨r17, hc17, hf⟩ := bi_s hf
  have hPc := hP
  have hDc := hD
  have hFc := va_free (wc := (wX9 cI cZ a (sr M 1 (r7 1)))) hD hS hA [0, 1, 2, 3, 4, 5, 6, 7, 8] rfl
  refine va_callv (va_runV (As := [.int a1, .int (2 : Int32), .int (a2 - a2 / (20 : Int32) * (20 : Int32))]) (rest := []) ⟨hx, hb, hml, hown, hts⟩ (c_X9_lay l dC dI cI cZ a H.size (sr M 1 (r7 1)) a1 (2 : Int32) (a2 - a2 / (20 : Int32) * (20 : Int32)) r17 hc17) (cwV 3 hts gX9_puts_X9_lay rfl rfl rfl (by decide +kernel) ⟨Nat.le_of_ble_eq_true rfl, Nat.le_of_ble_eq_true rfl⟩) ⟨WR.blind, va_recv hK hP (ci := 9) (q0 := 0) rfl rfl, WR.pre hPc hK hDc hNW⟩ rfl rfl hl.1 rfl (lv_room (Nat.le_of_ble_eq_true rfl)) dX9_puts_17 ⟨Nat.le_of_ble_eq_true rfl, Nat.le_of_ble_eq_true rfl⟩) hS (fun q _ h => hFc q h) hFc (fun u t H1 locs ht hvm hw hB hz1 hk1 hS => ?_)
  obtain ⟨hP1, hD1⟩ := hB
  rw [ht] at hP1
  have hP := hP1
  have hD := hD1.weaken (fun k q _ h => hFc q.1 h)
  have hP : va_P (dC, dI) vwCl (wX9 cI cZ a (sr M 1 (r17 1))) H1 := hP
  have hD : va_D A (wX9 cI cZ a (sr M 1 (r17 1))) := hD
  generalize H1 = H at hP hS ⊢
  have e9 := so_e hf
  subst e9
  exact W.vret hx hb hr (fun t ht hW => ⟨⟨(), rfl, trivial, WE.mk hP hD ht⟩, hS.F ht⟩) hS.2.2 dX9_puts_20
set_option maxHeartbeats 4000000 in
set_option maxRecDepth 100000 in
theorem c_X9_freeMany (l : Launch) (dC : Nat → ClassId) (dI : Nat → Nat → Nat) (cI cZ : ClassId) (a : Nat → Nat) (M : Mem) (z : Int32) (hf : fX9_freeMany M  = some z) : Met l yX9_freeMany wsX9_freeMany ({ frames := 2, cells := 0, slots := 0, locals := 47 } : Room) (va_Pc [.ref (a 0)] (RO (dC, dI) cI cZ (wX9 cI cZ a M))) (k2_QcV (.int z)) 0 0 (fun _ => False) := by
  refine Met.ofW (cc := cX9_freeMany) (maxL := 3) (ret := (some .int)) (by decide) rfl ?_
  intro p e s m args below meth c s₁ B hml hv
  obtain ⟨rfl, hP, hK, hNW⟩ := hv
  have hx := B.exec
  have hb := B.bytes
  have hr := B.returns
  have hts := atoms_spec (ws := wsX9_freeMany) B.pre
  have hown : s.vm.findClass RX9 = some m.cls := findClass_of_methodNamed B.named
  have hlocks := B.notSynchronized
  have hfX9_freeMany_B32 : ∀ (kb : Int32 → Int32 → Option (Int32)) (hkb : ∀ (l1 : Int32) (l2 : Int32), kb l1 l2 = some z → ∀ (ls : Array Slot), lv_has ls 3 [(0, .ref (a 0)), (1, .int l1), (2, .int l2)] → W p l e (headSpec wsX9_freeMany ({ frames := 2, cells := 0, slots := 0, locals := 47 } : Room)).room s m ([.ref (a 0)] : List Value).toArray below meth c s.heap [] 0 0 (MQ below (k2_QcV (.int z)) ([.ref (a 0)] : List Value).toArray s 0 0 (fun _ => False)) (F0 m 4 ls [])) (kx40 : Int32 → Option (Int32)) (hkx40 : ∀ (l1 : Int32), kx40 l1 = some z → ∀ (ls : Array Slot), lv_has ls 3 [(1, .int l1)] → W p l e (headSpec wsX9_freeMany ({ frames := 2, cells := 0, slots := 0, locals := 47 } : Room)).room s m ([.ref (a 0)] : List Value).toArray below meth c s.heap [] 0 0 (MQ below (k2_QcV (.int z)) ([.ref (a 0)] : List Value).toArray s 0 0 (fun _ => False)) (F0 m 40 ls [])), ∀ (l2 : Int32) (s0 : Int32) (s1 : Int32), fX9_freeMany_B32 M kb kx40 l2 s0 s1 = some z → ∀ (ls : Array Slot), lv_has ls 3 [(0, .ref (a 0)), (2, .int l2)] → W p l e (headSpec wsX9_freeMany ({ frames := 2, cells := 0, slots := 0, locals := 47 } : Room)).room s m ([.ref (a 0)] : List Value).toArray below meth c s.heap [] 0 0 (MQ below (k2_QcV (.int z)) ([.ref (a 0)] : List Value).toArray s 0 0 (fun _ => False)) (F0 m 32 ls [.int s1, .int s0]) := by
    intro kb hkb kx40 hkx40 l2 s0 s1 hf ls hl
    unfold fX9_freeMany_B32 at hf
    refine lv_iadd hx hb dX9_freeMany_32 ?_
    refine lv_istore_n (lv' := [(1, .int (s0 + s1)), (0, .ref (a 0)), (2, .int l2)]) hx hb dX9_freeMany_33 rfl hl (by decide) rfl (fun ls hl => ?_)
    refine lv_iinc (v := (l2 + (1 : Int32))) (lv' := [(2, .int (l2 + (1 : Int32))), (1, .int (s0 + s1)), (0, .ref (a 0))]) hx hb dX9_freeMany_34 hl (k := 2) rfl rfl (by decide) rfl (fun ls hl => ?_)
    refine lv_goto (tgt := 4) hx hb dX9_freeMany_37 (by decide) ?_
    exact hkb (s0 + s1) (l2 + (1 : Int32)) hf _ (lv_sub hl [2, 1, 0] rfl)
  have hfX9_freeMany_L4 : ∀ (n : Nat) (kx40 : Int32 → Option (Int32)) (hkx40 : ∀ (l1 : Int32), kx40 l1 = some z → ∀ (ls : Array Slot), lv_has ls 3 [(1, .int l1)] → W p l e (headSpec wsX9_freeMany ({ frames := 2, cells := 0, slots := 0, locals := 47 } : Room)).room s m ([.ref (a 0)] : List Value).toArray below meth c s.heap [] 0 0 (MQ below (k2_QcV (.int z)) ([.ref (a 0)] : List Value).toArray s 0 0 (fun _ => False)) (F0 m 40 ls [])), ∀ (l1 : Int32) (l2 : Int32), fX9_freeMany_L4 M n kx40 l1 l2 = some z → ∀ (ls : Array Slot), lv_has ls 3 [(0, .ref (a 0)), (1, .int l1), (2, .int l2)] → W p l e (headSpec wsX9_freeMany ({ frames := 2, cells := 0, slots := 0, locals := 47 } : Room)).room s m ([.ref (a 0)] : List Value).toArray below meth c s.heap [] 0 0 (MQ below (k2_QcV (.int z)) ([.ref (a 0)] : List Value).toArray s 0 0 (fun _ => False)) (F0 m 4 ls []) := by
    intro n
    induction n with
    | zero =>
      intro kx40 hkx40 l1 l2 hf ls hl
      rw [fX9_freeMany_L4] at hf
      cases hf
    | succ n ih =>
      intro kx40 hkx40 l1 l2 hf ls hl
      rw [fX9_freeMany_L4] at hf
      refine lv_iload_n hx hb dX9_freeMany_4 rfl (lv_at hl 2 rfl) ?_
      refine lv_bipush (v := (40 : Int32)) hx hb dX9_freeMany_5 (by decide) ?_
      refine lv_icmp_ge (tgt := 40) hx hb dX9_freeMany_7 (by decide) (fun c9 => ?_) (fun c9 => ?_)
      · have hf := it_t hf c9
        exact hkx40 l1 hf _ (lv_sub hl [1] rfl)
      · have hf := it_f hf c9
        refine lv_iload_n hx hb dX9_freeMany_10 rfl (lv_at hl 1 rfl) ?_
        refine lv_aload_n hx hb dX9_freeMany_11 rfl (lv_at hl 0 rfl) ?_
        refine lv_iload_n hx hb dX9_freeMany_12 rfl (lv_at hl 2 rfl) ?_
        refine lv_bipush (v := (20 : Int32)) hx hb dX9_freeMany_13 (by decide) ?_
        refine lv_idiv hx hb dX9_freeMany_15 (by decide) ?_
        refine lv_iload_n hx hb dX9_freeMany_16 rfl (lv_at hl 2 rfl) ?_
        refine lv_bipush (v := (20 : Int32)) hx hb dX9_freeMany_17 (by decide) ?_
        refine lv_irem hx hb dX9_freeMany_19 (by decide) ?_
        obtain ⟨r20, hc20, hf⟩ := bi_s hf
        have hPc := hP
        refine cRO (W.runV (As := [.int (l2 / (20 : Int32)), .int (l2 - l2 / (20 : Int32) * (20 : Int32))]) (rest := [.int l1]) ⟨hx, hb, hml, hown, hts⟩ (c_X9_on l dC dI cI cZ a M (l2 / (20 : Int32)) (l2 - l2 / (20 : Int32) * (20 : Int32)) r20 hc20) (cwV 2 hts gX9_freeMany_X9_on rfl rfl rfl (by decide +kernel) ⟨Nat.le_of_ble_eq_true rfl, Nat.le_of_ble_eq_true rfl⟩) ⟨RO.blind, va_recv hK hP (ci := 9) (q0 := 0) rfl rfl, RO.pre hPc hK hNW⟩ rfl rfl hl.1 rfl (lv_room (Nat.le_of_ble_eq_true rfl)) dX9_freeMany_20 ⟨Nat.le_of_ble_eq_true rfl, Nat.le_of_ble_eq_true rfl⟩) ?_
        refine lv_iconst (v := (-1 : Int32)) hx hb dX9_freeMany_23 (by decide) ?_
        refine lv_icmp_ne (tgt := 31) hx hb dX9_freeMany_24 (by decide) (fun c9 => ?_) (fun c9 => ?_)
        · have hf := it_t hf c9
          refine lv_iconst (v := (0 : Int32)) hx hb dX9_freeMany_31 (by decide) ?_
          exact hfX9_freeMany_B32 _ (ih kx40 hkx40) _ hkx40 l2 l1 (0 : Int32) hf _ (lv_sub hl [0, 2] rfl)
        · have hf := it_n hf c9
          refine lv_iconst (v := (1 : Int32)) hx hb dX9_freeMany_27 (by decide) ?_
          refine lv_goto (tgt := 32) hx hb dX9_freeMany_28 (by decide) ?_
          exact hfX9_freeMany_B32 _ (ih kx40 hkx40) _ hkx40 l2 l1 (1 : Int32) hf _ (lv_sub hl [0, 2] rfl)
  have hl := lv_entry ([.ref (a 0)]) (n := 3) (Nat.le_of_ble_eq_true rfl)
  rw [lg_entry_eq]
  generalize (lg_sl ([.ref (a 0)]) ++ List.replicate (3 - (lg_sl ([.ref (a 0)])).length) Slot.unset).toArray = ls at hl ⊢
  have hl : lv_has ls 3 [(0, .ref (a 0))] := hl
  unfold fX9_freeMany at hf
  refine lv_iconst (v := (0 : Int32)) hx hb dX9_freeMany_0 (by decide) ?_
  refine lv_istore_n (lv' := [(1, .int (0 : Int32)), (0, .ref (a 0))]) hx hb dX9_freeMany_1 rfl hl (by decide) rfl (fun ls hl => ?_)
  refine lv_iconst (v := (0 : Int32)) hx hb dX9_freeMany_2 (by decide) ?_
  refine lv_istore_n (lv' := [(2, .int (0 : Int32)), (1, .int (0 : Int32)), (0, .ref (a 0))]) hx hb dX9_freeMany_3 rfl hl (by decide) rfl (fun ls hl => ?_)
  refine hfX9_freeMany_L4 5000 _ (fun l1 hf ls hl => ?_) (0 : Int32) (0 : Int32) hf _ (lv_sub hl [2, 1, 0] rfl)
  refine lv_iload_n hx hb dX9_freeMany_40 rfl (lv_at hl 0 rfl) ?_
  exact W.iret (v := l1) hx hb hr (fun t ht hW => ⟨congrArg (fun x => Outcome.returned (some (Value.int x))) (so_e hf), ht⟩) fl0 dX9_freeMany_41
set_option maxHeartbeats 4000000 in
set_option maxRecDepth 100000 in
theorem c_X9_gap (l : Launch) (dC : Nat → ClassId) (dI : Nat → Nat → Nat) (cI cZ : ClassId) (a : Nat → Nat) (M : Mem) (a1 : Int32) (z : Int32) (hf : fX9_gap M a1 = some z) : Met l yX9_gap wsX9_gap ({ frames := 2, cells := 0, slots := 0, locals := 47 } : Room) (va_Pc [.ref (a 0), .int a1] (RO (dC, dI) cI cZ (wX9 cI cZ a M))) (k2_QcV (.int z)) 0 0 (fun _ => False) := by
  refine Met.ofW (cc := cX9_gap) (maxL := 5) (ret := (some .int)) (by decide) rfl ?_
  intro p e s m args below meth c s₁ B hml hv
  obtain ⟨rfl, hP, hK, hNW⟩ := hv
  have hx := B.exec
  have hb := B.bytes
  have hr := B.returns
  have hts := atoms_spec (ws := wsX9_gap) B.pre
  have hown : s.vm.findClass RX9 = some m.cls := findClass_of_methodNamed B.named
  have hlocks := B.notSynchronized
  have hfX9_gap_B43 : ∀ (kb : Int32 → Int32 → Int32 → Int32 → Option (Int32)) (hkb : ∀ (l1 : Int32) (l2 : Int32) (l3 : Int32) (l4 : Int32), kb l1 l2 l3 l4 = some z → ∀ (ls : Array Slot), lv_has ls 5 [(0, .ref (a 0)), (1, .int l1), (2, .int l2), (3, .int l3), (4, .int l4)] → W p l e (headSpec wsX9_gap ({ frames := 2, cells := 0, slots := 0, locals := 47 } : Room)).room s m ([.ref (a 0), .int a1] : List Value).toArray below meth c s.heap [] 0 0 (MQ below (k2_QcV (.int z)) ([.ref (a 0), .int a1] : List Value).toArray s 0 0 (fun _ => False)) (F0 m 7 ls [])) (kx50 : Int32 → Option (Int32)) (hkx50 : ∀ (l2 : Int32), kx50 l2 = some z → ∀ (ls : Array Slot), lv_has ls 5 [(2, .int l2)] → W p l e (headSpec wsX9_gap ({ frames := 2, cells := 0, slots := 0, locals := 47 } : Room)).room s m ([.ref (a 0), .int a1] : List Value).toArray below meth c s.heap [] 0 0 (MQ below (k2_QcV (.int z)) ([.ref (a 0), .int a1] : List Value).toArray s 0 0 (fun _ => False)) (F0 m 50 ls [])), ∀ (l1 : Int32) (l3 : Int32) (l4 : Int32) (s0 : Int32), fX9_gap_B43 M kb kx50 l1 l3 l4 s0 = some z → ∀ (ls : Array Slot), lv_has ls 5 [(0, .ref (a 0)), (1, .int l1), (3, .int l3), (4, .int l4)] → W p l e (headSpec wsX9_gap ({ frames := 2, cells := 0, slots := 0, locals := 47 } : Room)).room s m ([.ref (a 0), .int a1] : List Value).toArray below meth c s.heap [] 0 0 (MQ below (k2_QcV (.int z)) ([.ref (a 0), .int a1] : List Value).toArray s 0 0 (fun _ => False)) (F0 m 43 ls [.int s0]) := by
    intro kb hkb kx50 hkx50 l1 l3 l4 s0 hf ls hl
    unfold fX9_gap_B43 at hf
    refine lv_istore_n (lv' := [(2, .int s0), (0, .ref (a 0)), (1, .int l1), (3, .int l3), (4, .int l4)]) hx hb dX9_gap_43 rfl hl (by decide) rfl (fun ls hl => ?_)
    refine lv_iinc (v := (l4 + (1 : Int32))) (lv' := [(4, .int (l4 + (1 : Int32))), (2, .int s0), (0, .ref (a 0)), (1, .int l1), (3, .int l3)]) hx hb dX9_gap_44 hl (k := 4) rfl rfl (by decide) rfl (fun ls hl => ?_)
    refine lv_goto (tgt := 7) hx hb dX9_gap_47 (by decide) ?_
    exact hkb l1 s0 l3 (l4 + (1 : Int32)) hf _ (lv_sub hl [2, 3, 1, 4, 0] rfl)
  have hfX9_gap_B32 : ∀ (kb : Int32 → Int32 → Int32 → Int32 → Option (Int32)) (hkb : ∀ (l1 : Int32) (l2 : Int32) (l3 : Int32) (l4 : Int32), kb l1 l2 l3 l4 = some z → ∀ (ls : Array Slot), lv_has ls 5 [(0, .ref (a 0)), (1, .int l1), (2, .int l2), (3, .int l3), (4, .int l4)] → W p l e (headSpec wsX9_gap ({ frames := 2, cells := 0, slots := 0, locals := 47 } : Room)).room s m ([.ref (a 0), .int a1] : List Value).toArray below meth c s.heap [] 0 0 (MQ below (k2_QcV (.int z)) ([.ref (a 0), .int a1] : List Value).toArray s 0 0 (fun _ => False)) (F0 m 7 ls [])) (kx50 : Int32 → Option (Int32)) (hkx50 : ∀ (l2 : Int32), kx50 l2 = some z → ∀ (ls : Array Slot), lv_has ls 5 [(2, .int l2)] → W p l e (headSpec wsX9_gap ({ frames := 2, cells := 0, slots := 0, locals := 47 } : Room)).room s m ([.ref (a 0), .int a1] : List Value).toArray below meth c s.heap [] 0 0 (MQ below (k2_QcV (.int z)) ([.ref (a 0), .int a1] : List Value).toArray s 0 0 (fun _ => False)) (F0 m 50 ls [])), ∀ (l1 : Int32) (l2 : Int32) (l4 : Int32) (s0 : Int32), fX9_gap_B32 M kb kx50 l1 l2 l4 s0 = some z → ∀ (ls : Array Slot), lv_has ls 5 [(0, .ref (a 0)), (1, .int l1), (2, .int l2), (4, .int l4)] → W p l e (headSpec wsX9_gap ({ frames := 2, cells := 0, slots := 0, locals := 47 } : Room)).room s m ([.ref (a 0), .int a1] : List Value).toArray below meth c s.heap [] 0 0 (MQ below (k2_QcV (.int z)) ([.ref (a 0), .int a1] : List Value).toArray s 0 0 (fun _ => False)) (F0 m 32 ls [.int s0]) := by
    intro kb hkb kx50 hkx50 l1 l2 l4 s0 hf ls hl
    unfold fX9_gap_B32 at hf
    refine lv_istore_n (lv' := [(3, .int s0), (0, .ref (a 0)), (1, .int l1), (2, .int l2), (4, .int l4)]) hx hb dX9_gap_32 rfl hl (by decide) rfl (fun ls hl => ?_)
    refine lv_iload_n hx hb dX9_gap_33 rfl (lv_at hl 0 rfl) ?_
    refine lv_iload_n hx hb dX9_gap_34 rfl (lv_at hl 3 rfl) ?_
    refine lv_icmp_le (tgt := 42) hx hb dX9_gap_35 (by decide) (fun c9 => ?_) (fun c9 => ?_)
    · have hf := it_t hf c9
      refine lv_iload_n hx hb dX9_gap_42 rfl (lv_at hl 3 rfl) ?_
      exact hfX9_gap_B43 _ hkb _ hkx50 l1 s0 l4 l2 hf _ (lv_sub hl [1, 2, 0, 4] rfl)
    · have hf := it_f hf c9
      refine lv_iload_n hx hb dX9_gap_38 rfl (lv_at hl 0 rfl) ?_
      refine lv_goto (tgt := 43) hx hb dX9_gap_39 (by decide) ?_
      exact hfX9_gap_B43 _ hkb _ hkx50 l1 s0 l4 s0 hf _ (lv_sub hl [1, 2, 0, 4] rfl)
  have hfX9_gap_L7 : ∀ (n : Nat) (kx50 : Int32 → Option (Int32)) (hkx50 : ∀ (l2 : Int32), kx50 l2 = some z → ∀ (ls : Array Slot), lv_has ls 5 [(2, .int l2)] → W p l e (headSpec wsX9_gap ({ frames := 2, cells := 0, slots := 0, locals := 47 } : Room)).room s m ([.ref (a 0), .int a1] : List Value).toArray below meth c s.heap [] 0 0 (MQ below (k2_QcV (.int z)) ([.ref (a 0), .int a1] : List Value).toArray s 0 0 (fun _ => False)) (F0 m 50 ls [])), ∀ (l1 : Int32) (l2 : Int32) (l3 : Int32) (l4 : Int32), fX9_gap_L7 M n kx50 l1 l2 l3 l4 = some z → ∀ (ls : Array Slot), lv_has ls 5 [(0, .ref (a 0)), (1, .int l1), (2, .int l2), (3, .int l3), (4, .int l4)] → W p l e (headSpec wsX9_gap ({ frames := 2, cells := 0, slots := 0, locals := 47 } : Room)).room s m ([.ref (a 0), .int a1] : List Value).toArray below meth c s.heap [] 0 0 (MQ below (k2_QcV (.int z)) ([.ref (a 0), .int a1] : List Value).toArray s 0 0 (fun _ => False)) (F0 m 7 ls []) := by
    intro n
    induction n with
    | zero =>
      intro kx50 hkx50 l1 l2 l3 l4 hf ls hl
      rw [fX9_gap_L7] at hf
      cases hf
    | succ n ih =>
      intro kx50 hkx50 l1 l2 l3 l4 hf ls hl
      rw [fX9_gap_L7] at hf
      refine lv_iload hx hb dX9_gap_7 (lv_at hl 4 rfl) ?_
      refine lv_bipush (v := (20 : Int32)) hx hb dX9_gap_9 (by decide) ?_
      refine lv_icmp_ge (tgt := 50) hx hb dX9_gap_11 (by decide) (fun c9 => ?_) (fun c9 => ?_)
      · have hf := it_t hf c9
        exact hkx50 l2 hf _ (lv_sub hl [2] rfl)
      · have hf := it_f hf c9
        refine lv_aload_n hx hb dX9_gap_14 rfl (lv_at hl 0 rfl) ?_
        refine lv_iload_n hx hb dX9_gap_15 rfl (lv_at hl 1 rfl) ?_
        refine lv_iload hx hb dX9_gap_16 (lv_at hl 4 rfl) ?_
        obtain ⟨r18, hc18, hf⟩ := bi_s hf
        have hPc := hP
        refine cRO (W.runV (As := [.int l1, .int l4]) (rest := []) ⟨hx, hb, hml, hown, hts⟩ (c_X9_on l dC dI cI cZ a M l1 l4 r18 hc18) (cwV 2 hts gX9_gap_X9_on rfl rfl rfl (by decide +kernel) ⟨Nat.le_of_ble_eq_true rfl, Nat.le_of_ble_eq_true rfl⟩) ⟨RO.blind, va_recv hK hP (ci := 9) (q0 := 0) rfl rfl, RO.pre hPc hK hNW⟩ rfl rfl hl.1 rfl (lv_room (Nat.le_of_ble_eq_true rfl)) dX9_gap_18 ⟨Nat.le_of_ble_eq_true rfl, Nat.le_of_ble_eq_true rfl⟩) ?_
        refine lv_iconst (v := (-1 : Int32)) hx hb dX9_gap_21 (by decide) ?_
        refine lv_icmp_ne (tgt := 31) hx hb dX9_gap_22 (by decide) (fun c9 => ?_) (fun c9 => ?_)
        · have hf := it_t hf c9
          refine lv_iconst (v := (0 : Int32)) hx hb dX9_gap_31 (by decide) ?_
          exact hfX9_gap_B32 _ (ih kx50 hkx50) _ hkx50 l1 l2 l4 (0 : Int32) hf _ (lv_sub hl [0, 1, 2, 4] rfl)
        · have hf := it_n hf c9
          refine lv_iload_n hx hb dX9_gap_25 rfl (lv_at hl 3 rfl) ?_
          refine lv_iconst (v := (1 : Int32)) hx hb dX9_gap_26 (by decide) ?_
          refine lv_iadd hx hb dX9_gap_27 ?_
          refine lv_goto (tgt := 32) hx hb dX9_gap_28 (by decide) ?_
          exact hfX9_gap_B32 _ (ih kx50 hkx50) _ hkx50 l1 l2 l4 (l3 + (1 : Int32)) hf _ (lv_sub hl [0, 1, 2, 4] rfl)
  have hl := lv_entry ([.ref (a 0), .int a1]) (n := 5) (Nat.le_of_ble_eq_true rfl)
  rw [lg_entry_eq]
  generalize (lg_sl ([.ref (a 0), .int a1]) ++ List.replicate (5 - (lg_sl ([.ref (a 0), .int a1])).length) Slot.unset).toArray = ls at hl ⊢
  have hl : lv_has ls 5 [(0, .ref (a 0)), (1, .int a1)] := hl
  unfold fX9_gap at hf
  refine lv_iconst (v := (0 : Int32)) hx hb dX9_gap_0 (by decide) ?_
  refine lv_istore_n (lv' := [(2, .int (0 : Int32)), (0, .ref (a 0)), (1, .int a1)]) hx hb dX9_gap_1 rfl hl (by decide) rfl (fun ls hl => ?_)
  refine lv_iconst (v := (0 : Int32)) hx hb dX9_gap_2 (by decide) ?_
  refine lv_istore_n (lv' := [(3, .int (0 : Int32)), (2, .int (0 : Int32)), (0, .ref (a 0)), (1, .int a1)]) hx hb dX9_gap_3 rfl hl (by decide) rfl (fun ls hl => ?_)
  refine lv_iconst (v := (0 : Int32)) hx hb dX9_gap_4 (by decide) ?_
  refine lv_istore (lv' := [(4, .int (0 : Int32)), (3, .int (0 : Int32)), (2, .int (0 : Int32)), (0, .ref (a 0)), (1, .int a1)]) hx hb dX9_gap_5 hl (by decide) rfl (fun ls hl => ?_)
  refine hfX9_gap_L7 5000 _ (fun l2 hf ls hl => ?_) a1 (0 : Int32) (0 : Int32) (0 : Int32) hf _ (lv_sub hl [3, 4, 2, 1, 0] rfl)
  refine lv_iload_n hx hb dX9_gap_50 rfl (lv_at hl 0 rfl) ?_
  exact W.iret (v := l2) hx hb hr (fun t ht hW => ⟨congrArg (fun x => Outcome.returned (some (Value.int x))) (so_e hf), ht⟩) fl0 dX9_gap_51
set_option maxHeartbeats 4000000 in
set_option maxRecDepth 100000 in
theorem c_X9_notesTrip (l : Launch) (dC : Nat → ClassId) (dI : Nat → Nat → Nat) (cI cZ : ClassId) (a : Nat → Nat) (sz : Nat) (M : Mem) (a1 : Int32) (a2 : Int32) (z : Mem) (hf : fX9_notesTrip M a1 a2 = some z) : Met l yX9_notesTrip wsX9_notesTrip ({ frames := 0, cells := 0, slots := 0, locals := 0 } : Room) (va_Pc [.ref (a 0), .int a1, .int a2] (WR (dC, dI) cI cZ (wX9 cI cZ a M) sz)) (va_Qv (S := Unit) (fun _ => True) (fun _ t => WE (dC, dI) cI cZ (wX9 cI cZ a (sr M 1 (z 1))) (va_A (wX9 cI cZ a M) sz) t) (va_A (wX9 cI cZ a M) sz)) 0 0 (va_A (wX9 cI cZ a M) sz) := by
  refine Met.ofW (cc := cX9_notesTrip) (maxL := 4) (ret := none) (by decide) rfl ?_
  intro p e s m args below meth c s₁ B hml hv
  obtain ⟨rfl, hsz, hP, hK, hD0, hNW⟩ := hv
  have hx := B.exec
  have hb := B.bytes
  have hr := B.returns
  have hts := atoms_spec (ws := wsX9_notesTrip) B.pre
  have hown : s.vm.findClass RX9 = some m.cls := findClass_of_methodNamed B.named
  have hlocks := B.notSynchronized
  have hinX9 : ∀ w ∈ u_ws RX9 TX9 13, w ∈ wsX9_notesTrip := by decide +kernel
  have hw1 := hts (.fieldLink RX9 7 "GlideShelvesModel" "s" "[I") (by decide +kernel)
  subst hsz
  have hD := hD0.self (sz := s.heap.size)
  generalize hAe : va_A (wX9 cI cZ a M) s.heap.size = A at hD ⊢
  have hA : ∀ q : Nat, s.heap.size ≤ q → A q := fun q h => by rw [← hAe]; exact Or.inr h
  have hS : va_S A s.heap s.heap [] := va_S.rf
  have hfX9_notesTrip_L3 : ∀ (n : Nat) (kx36 : Mem → Int32 → Int32 → Option (Mem)) (hkx36 : ∀ (N : Mem) (l1 : Int32) (l2 : Int32), kx36 N l1 l2 = some z → ∀ (ls : Array Slot), lv_has ls 4 [(0, .ref (a 0)), (1, .int l1), (2, .int l2)] → ∀ (H : Heap) (locs : List Loc), va_P (dC, dI) vwCl (wX9 cI cZ a (sr M 1 (N 1))) H → va_D A (wX9 cI cZ a (sr M 1 (N 1))) → va_S A s.heap H locs → W p l e (headSpec wsX9_notesTrip ({ frames := 0, cells := 0, slots := 0, locals := 0 } : Room)).room s m ([.ref (a 0), .int a1, .int a2] : List Value).toArray below meth c H locs 0 0 (MQ below (va_Qv (S := Unit) (fun _ => True) (fun _ t => WE (dC, dI) cI cZ (wX9 cI cZ a (sr M 1 (z 1))) A t) A) ([.ref (a 0), .int a1, .int a2] : List Value).toArray s 0 0 A) (F0 m 36 ls [])), ∀ (N : Mem) (l1 : Int32) (l2 : Int32) (l3 : Int32), fX9_notesTrip_L3 M n kx36 N l1 l2 l3 = some z → ∀ (ls : Array Slot), lv_has ls 4 [(0, .ref (a 0)), (1, .int l1), (2, .int l2), (3, .int l3)] → ∀ (H : Heap) (locs : List Loc), va_P (dC, dI) vwCl (wX9 cI cZ a (sr M 1 (N 1))) H → va_D A (wX9 cI cZ a (sr M 1 (N 1))) → va_S A s.heap H locs → W p l e (headSpec wsX9_notesTrip ({ frames := 0, cells := 0, slots := 0, locals := 0 } : Room)).room s m ([.ref (a 0), .int a1, .int a2] : List Value).toArray below meth c H locs 0 0 (MQ below (va_Qv (S := Unit) (fun _ => True) (fun _ t => WE (dC, dI) cI cZ (wX9 cI cZ a (sr M 1 (z 1))) A t) A) ([.ref (a 0), .int a1, .int a2] : List Value).toArray s 0 0 A) (F0 m 3 ls []) := by
    intro n
    induction n with
    | zero =>
      intro kx36 hkx36 N l1 l2 l3 hf ls hl H locs hP hD hS
      rw [fX9_notesTrip_L3] at hf
      cases hf
    | succ n ih =>
      intro kx36 hkx36 N l1 l2 l3 hf ls hl H locs hP hD hS
      rw [fX9_notesTrip_L3] at hf
      refine lv_iload_n hx hb dX9_notesTrip_3 rfl (lv_at hl 3 rfl) ?_
      refine lv_iconst (v := (1 : Int32)) hx hb dX9_notesTrip_4 (by decide) ?_
      refine lv_icmp_le (tgt := 36) hx hb dX9_notesTrip_5 (by decide) (fun c9 => ?_) (fun c9 => ?_)
      · have hf := it_t hf c9
        exact hkx36 (sr M 1 (N 1)) l1 l2 hf _ (lv_sub hl [0, 1, 2] rfl) _ _ hP hD hS
      · have hf := it_f hf c9
        refine lv_aload_n hx hb dX9_notesTrip_8 rfl (lv_at hl 0 rfl) ?_
        refine va_get (D := (dC, dI)) (ci := 9) (v := .ref (a 1)) (C := RX9) (T := TX9) (N := 13) hx hb hts hinX9 hown hK hP 0 rfl rfl 1 (by decide) hw1 (fun _ h9 => h9) rfl dX9_notesTrip_9 ?_
        refine lv_sipush (v := (207 : Int32)) hx hb dX9_notesTrip_12 (by decide) ?_
        refine lv_iload_n hx hb dX9_notesTrip_15 rfl (lv_at hl 3 rfl) ?_
        refine lv_iadd hx hb dX9_notesTrip_16 ?_
        refine lv_aload_n hx hb dX9_notesTrip_17 rfl (lv_at hl 0 rfl) ?_
        refine va_get (D := (dC, dI)) (ci := 9) (v := .ref (a 1)) (C := RX9) (T := TX9) (N := 13) hx hb hts hinX9 hown hK hP 0 rfl rfl 1 (by decide) hw1 (fun _ h9 => h9) rfl dX9_notesTrip_18 ?_
        refine lv_sipush (v := (207 : Int32)) hx hb dX9_notesTrip_21 (by decide) ?_
        refine lv_iload_n hx hb dX9_notesTrip_24 rfl (lv_at hl 3 rfl) ?_
        refine lv_iadd hx hb dX9_notesTrip_25 ?_
        refine lv_iconst (v := (2 : Int32)) hx hb dX9_notesTrip_26 (by decide) ?_
        refine lv_isub hx hb dX9_notesTrip_27 ?_
        obtain ⟨hi, hf⟩ := gd_s hf
        refine va_iald (D := (dC, dI)) (f := (N 1)) hx hb hK hP 1 0 rfl rfl (inb_in hi) dX9_notesTrip_28 ?_
        obtain ⟨hi, hf⟩ := gd_s hf
        refine va_iast (D := (dC, dI)) (f := (N 1)) hx hb hK hP hD hS 1 0 rfl rfl (inb_in hi) dX9_notesTrip_29 (fun H locs hP hD hS => ?_)
        have hP : va_P (dC, dI) vwCl (wX9 cI cZ a (sr M 1 (upd (N 1) ((207 : Int32) + l3).toNatClampNeg (N 1 (((207 : Int32) + l3) - (2 : Int32)).toNatClampNeg)))) H := hP
        have hD : va_D A (wX9 cI cZ a (sr M 1 (upd (N 1) ((207 : Int32) + l3).toNatClampNeg (N 1 (((207 : Int32) + l3) - (2 : Int32)).toNatClampNeg)))) := hD
        refine lv_iinc (v := (l3 + (-1 : Int32))) (lv' := [(3, .int (l3 + (-1 : Int32))), (0, .ref (a 0)), (1, .int l1), (2, .int l2)]) hx hb dX9_notesTrip_30 hl (k := 3) rfl rfl (by decide) rfl (fun ls hl => ?_)
        refine lv_goto (tgt := 3) hx hb dX9_notesTrip_33 (by decide) ?_
        exact ih kx36 hkx36 (sr M 1 (upd (N 1) ((207 : Int32) + l3).toNatClampNeg (N 1 (((207 : Int32) + l3) - (2 : Int32)).toNatClampNeg))) l1 l2 (l3 + (-1 : Int32)) hf _ (lv_sub hl [1, 2, 3, 0] rfl) _ _ hP hD hS
  have hfX9_notesTrip_B79 : ∀ (N : Mem) (l1 : Int32) (s1 : Int32) (s2 : Int32) (s3 : Int32), fX9_notesTrip_B79 M  N l1 s1 s2 s3 = some z → ∀ (ls : Array Slot), lv_has ls 4 [(0, .ref (a 0)), (1, .int l1)] → ∀ (H : Heap) (locs : List Loc), va_P (dC, dI) vwCl (wX9 cI cZ a (sr M 1 (N 1))) H → va_D A (wX9 cI cZ a (sr M 1 (N 1))) → va_S A s.heap H locs → W p l e (headSpec wsX9_notesTrip ({ frames := 0, cells := 0, slots := 0, locals := 0 } : Room)).room s m ([.ref (a 0), .int a1, .int a2] : List Value).toArray below meth c H locs 0 0 (MQ below (va_Qv (S := Unit) (fun _ => True) (fun _ t => WE (dC, dI) cI cZ (wX9 cI cZ a (sr M 1 (z 1))) A t) A) ([.ref (a 0), .int a1, .int a2] : List Value).toArray s 0 0 A) (F0 m 79 ls [.int s3, .int s2, .int s1, .ref (a 1)]) := by
    intro  N l1 s1 s2 s3 hf ls hl H locs hP hD hS
    unfold fX9_notesTrip_B79 at hf
    refine lv_iadd hx hb dX9_notesTrip_79 ?_
    obtain ⟨hi, hf⟩ := gd_s hf
    refine va_iast (D := (dC, dI)) (f := (N 1)) hx hb hK hP hD hS 1 0 rfl rfl (inb_in hi) dX9_notesTrip_80 (fun H locs hP hD hS => ?_)
    have hP : va_P (dC, dI) vwCl (wX9 cI cZ a (sr M 1 (upd (N 1) s1.toNatClampNeg (s2 + s3)))) H := hP
    have hD : va_D A (wX9 cI cZ a (sr M 1 (upd (N 1) s1.toNatClampNeg (s2 + s3)))) := hD
    refine lv_aload_n hx hb dX9_notesTrip_81 rfl (lv_at hl 0 rfl) ?_
    refine va_get (D := (dC, dI)) (ci := 9) (v := .ref (a 1)) (C := RX9) (T := TX9) (N := 13) hx hb hts hinX9 hown hK hP 0 rfl rfl 1 (by decide) hw1 (fun _ h9 => h9) rfl dX9_notesTrip_82 ?_
    refine lv_iconst (v := (4 : Int32)) hx hb dX9_notesTrip_85 (by decide) ?_
    refine lv_dup2_11 hx hb dX9_notesTrip_86 rfl rfl ?_
    obtain ⟨hi, hf⟩ := gd_s hf
    refine va_iald (D := (dC, dI)) (f := (upd (N 1) s1.toNatClampNeg (s2 + s3))) hx hb hK hP 1 0 rfl rfl (inb_in hi) dX9_notesTrip_87 ?_
    refine lv_iload_n hx hb dX9_notesTrip_88 rfl (lv_at hl 1 rfl) ?_
    refine lv_iadd hx hb dX9_notesTrip_89 ?_
    obtain ⟨hi, hf⟩ := gd_s hf
    refine va_iast (D := (dC, dI)) (f := (upd (N 1) s1.toNatClampNeg (s2 + s3))) hx hb hK hP hD hS 1 0 rfl rfl (inb_in hi) dX9_notesTrip_90 (fun H locs hP hD hS => ?_)
    have hP : va_P (dC, dI) vwCl (wX9 cI cZ a (sr M 1 (upd (upd (N 1) s1.toNatClampNeg (s2 + s3)) (4 : Int32).toNatClampNeg (((upd (N 1) s1.toNatClampNeg (s2 + s3)) (4 : Int32).toNatClampNeg) + l1)))) H := hP
    have hD : va_D A (wX9 cI cZ a (sr M 1 (upd (upd (N 1) s1.toNatClampNeg (s2 + s3)) (4 : Int32).toNatClampNeg (((upd (N 1) s1.toNatClampNeg (s2 + s3)) (4 : Int32).toNatClampNeg) + l1)))) := hD
    have e9 := so_e hf
    subst e9
    exact W.vret hx hb hr (fun t ht hW => ⟨⟨(), rfl, trivial, WE.mk hP hD ht⟩, hS.F ht⟩) hS.2.2 dX9_notesTrip_91
  have hl := lv_entry ([.ref (a 0), .int a1, .int a2]) (n := 4) (Nat.le_of_ble_eq_true rfl)
  rw [lg_entry_eq]
  generalize (lg_sl ([.ref (a 0), .int a1, .int a2]) ++ List.replicate (4 - (lg_sl ([.ref (a 0), .int a1, .int a2])).length) Slot.unset).toArray = ls at hl ⊢
  have hl : lv_has ls 4 [(0, .ref (a 0)), (1, .int a1), (2, .int a2)] := hl
  unfold fX9_notesTrip at hf
  suffices hgo : ∀ (H : Heap) (locs : List Loc), va_P (dC, dI) vwCl (wX9 cI cZ a M) H → va_D A (wX9 cI cZ a M) → va_S A s.heap H locs → W p l e (headSpec wsX9_notesTrip ({ frames := 0, cells := 0, slots := 0, locals := 0 } : Room)).room s m ([.ref (a 0), .int a1, .int a2] : List Value).toArray below meth c H locs 0 0 (MQ below (va_Qv (S := Unit) (fun _ => True) (fun _ t => WE (dC, dI) cI cZ (wX9 cI cZ a (sr M 1 (z 1))) A t) A) ([.ref (a 0), .int a1, .int a2] : List Value).toArray s 0 0 A) (F0 m 0 ls []) from hgo _ _ hP hD hS
  intro H locs hP hD hS
  refine lv_bipush (v := (15 : Int32)) hx hb dX9_notesTrip_0 (by decide) ?_
  refine lv_istore_n (lv' := [(3, .int (15 : Int32)), (0, .ref (a 0)), (1, .int a1), (2, .int a2)]) hx hb dX9_notesTrip_2 rfl hl (by decide) rfl (fun ls hl => ?_)
  refine hfX9_notesTrip_L3 5000 _ (fun N l1 l2 hf ls hl H locs hP hD hS => ?_) M a1 a2 (15 : Int32) hf _ (lv_sub hl [1, 2, 3, 0] rfl) _ _ hP hD hS
  refine lv_aload_n hx hb dX9_notesTrip_36 rfl (lv_at hl 0 rfl) ?_
  refine va_get (D := (dC, dI)) (ci := 9) (v := .ref (a 1)) (C := RX9) (T := TX9) (N := 13) hx hb hts hinX9 hown hK hP 0 rfl rfl 1 (by decide) hw1 (fun _ h9 => h9) rfl dX9_notesTrip_37 ?_
  refine lv_sipush (v := (207 : Int32)) hx hb dX9_notesTrip_40 (by decide) ?_
  refine lv_iload_n hx hb dX9_notesTrip_43 rfl (lv_at hl 1 rfl) ?_
  obtain ⟨hi, hf⟩ := gd_s hf
  refine va_iast (D := (dC, dI)) (f := (N 1)) hx hb hK hP hD hS 1 0 rfl rfl (inb_in hi) dX9_notesTrip_44 (fun H locs hP hD hS => ?_)
  have hP : va_P (dC, dI) vwCl (wX9 cI cZ a (sr M 1 (upd (N 1) (207 : Int32).toNatClampNeg l1))) H := hP
  have hD : va_D A (wX9 cI cZ a (sr M 1 (upd (N 1) (207 : Int32).toNatClampNeg l1))) := hD
  refine lv_aload_n hx hb dX9_notesTrip_45 rfl (lv_at hl 0 rfl) ?_
  refine va_get (D := (dC, dI)) (ci := 9) (v := .ref (a 1)) (C := RX9) (T := TX9) (N := 13) hx hb hts hinX9 hown hK hP 0 rfl rfl 1 (by decide) hw1 (fun _ h9 => h9) rfl dX9_notesTrip_46 ?_
  refine lv_sipush (v := (208 : Int32)) hx hb dX9_notesTrip_49 (by decide) ?_
  refine lv_iload_n hx hb dX9_notesTrip_52 rfl (lv_at hl 2 rfl) ?_
  obtain ⟨hi, hf⟩ := gd_s hf
  refine va_iast (D := (dC, dI)) (f := (upd (N 1) (207 : Int32).toNatClampNeg l1)) hx hb hK hP hD hS 1 0 rfl rfl (inb_in hi) dX9_notesTrip_53 (fun H locs hP hD hS => ?_)
  have hP : va_P (dC, dI) vwCl (wX9 cI cZ a (sr M 1 (upd (upd (N 1) (207 : Int32).toNatClampNeg l1) (208 : Int32).toNatClampNeg l2))) H := hP
  have hD : va_D A (wX9 cI cZ a (sr M 1 (upd (upd (N 1) (207 : Int32).toNatClampNeg l1) (208 : Int32).toNatClampNeg l2))) := hD
  refine lv_aload_n hx hb dX9_notesTrip_54 rfl (lv_at hl 0 rfl) ?_
  refine va_get (D := (dC, dI)) (ci := 9) (v := .ref (a 1)) (C := RX9) (T := TX9) (N := 13) hx hb hts hinX9 hown hK hP 0 rfl rfl 1 (by decide) hw1 (fun _ h9 => h9) rfl dX9_notesTrip_55 ?_
  refine lv_bipush (v := (7 : Int32)) hx hb dX9_notesTrip_58 (by decide) ?_
  refine lv_dup2_11 hx hb dX9_notesTrip_60 rfl rfl ?_
  obtain ⟨hi, hf⟩ := gd_s hf
  refine va_iald (D := (dC, dI)) (f := (upd (upd (N 1) (207 : Int32).toNatClampNeg l1) (208 : Int32).toNatClampNeg l2)) hx hb hK hP 1 0 rfl rfl (inb_in hi) dX9_notesTrip_61 ?_
  refine lv_aload_n hx hb dX9_notesTrip_62 rfl (lv_at hl 0 rfl) ?_
  refine va_get (D := (dC, dI)) (ci := 9) (v := .ref (a 1)) (C := RX9) (T := TX9) (N := 13) hx hb hts hinX9 hown hK hP 0 rfl rfl 1 (by decide) hw1 (fun _ h9 => h9) rfl dX9_notesTrip_63 ?_
  refine lv_bipush (v := (7 : Int32)) hx hb dX9_notesTrip_66 (by decide) ?_
  obtain ⟨hi, hf⟩ := gd_s hf
  refine va_iald (D := (dC, dI)) (f := (upd (upd (N 1) (207 : Int32).toNatClampNeg l1) (208 : Int32).toNatClampNeg l2)) hx hb hK hP 1 0 rfl rfl (inb_in hi) dX9_notesTrip_68 ?_
  refine lv_bipush (v := (8 : Int32)) hx hb dX9_notesTrip_69 (by decide) ?_
  refine lv_icmp_ge (tgt := 78) hx hb dX9_notesTrip_71 (by decide) (fun c9 => ?_) (fun c9 => ?_)
  · have hf := it_t hf c9
    refine lv_iconst (v := (0 : Int32)) hx hb dX9_notesTrip_78 (by decide) ?_
    exact hfX9_notesTrip_B79  (sr M 1 (upd (upd (N 1) (207 : Int32).toNatClampNeg l1) (208 : Int32).toNatClampNeg l2)) l1 (7 : Int32) ((upd (upd (N 1) (207 : Int32).toNatClampNeg l1) (208 : Int32).toNatClampNeg l2) (7 : Int32).toNatClampNeg) (0 : Int32) hf _ (lv_sub hl [0, 1] rfl) _ _ hP hD hS
  · have hf := it_f hf c9
    refine lv_iconst (v := (1 : Int32)) hx hb dX9_notesTrip_74 (by decide) ?_
    refine lv_goto (tgt := 79) hx hb dX9_notesTrip_75 (by decide) ?_
    exact hfX9_notesTrip_B79  (sr M 1 (upd (upd (N 1) (207 : Int32).toNatClampNeg l1) (208 : Int32).toNatClampNeg l2)) l1 (7 : Int32) ((upd (upd (N 1) (207 : Int32).toNatClampNeg l1) (208 : Int32).toNatClampNeg l2) (7 : Int32).toNatClampNeg) (1 : Int32) hf _ (lv_sub hl [0, 1] rfl) _ _ hP hD hS
