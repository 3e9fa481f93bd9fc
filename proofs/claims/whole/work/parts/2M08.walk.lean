set_option maxHeartbeats 4000000 in
set_option maxRecDepth 100000 in
theorem c_X9_ticks (l : Launch) (dC : Nat → ClassId) (dI : Nat → Nat → Nat) (cI cZ : ClassId) (a : Nat → Nat) (sz : Nat) (M : Mem) (z : Int32 × Mem) (hf : fX9_ticks M  = some z) : Met l yX9_ticks wsX9_ticks ({ frames := 0, cells := 0, slots := 0, locals := 0 } : Room) (va_Pc [.ref (a 0)] (WR (dC, dI) cI cZ (wX9 cI cZ a M) sz)) (va_Qi (S := Unit) (fun r _ => r = z.1) (fun _ t => WE (dC, dI) cI cZ (wX9 cI cZ a (sr M 0 (z.2 0))) (va_A (wX9 cI cZ a M) sz) t) (va_A (wX9 cI cZ a M) sz)) 0 0 (va_A (wX9 cI cZ a M) sz) := by
  refine Met.ofW (cc := cX9_ticks) (maxL := 1) (ret := (some .int)) (by decide) rfl ?_
  intro p e s m args below meth c s₁ B hml hv
  obtain ⟨rfl, hsz, hP, hK, hD0, hNW⟩ := hv
  have hx := B.exec
  have hb := B.bytes
  have hr := B.returns
  have hts := atoms_spec (ws := wsX9_ticks) B.pre
  have hown : s.vm.findClass RX9 = some m.cls := findClass_of_methodNamed B.named
  have hlocks := B.notSynchronized
  have hinX9 : ∀ w ∈ u_ws RX9 TX9 13, w ∈ wsX9_ticks := by decide +kernel
  have hw1 := hts (.fieldLink RX9 35 "GlideShelvesModel" "thrown" "I") (by decide +kernel)
  have hw2 := hts (.fieldLink RX9 7 "GlideShelvesModel" "s" "[I") (by decide +kernel)
  subst hsz
  have hD := hD0.self (sz := s.heap.size)
  generalize hAe : va_A (wX9 cI cZ a M) s.heap.size = A at hD ⊢
  have hA : ∀ q : Nat, s.heap.size ≤ q → A q := fun q h => by rw [← hAe]; exact Or.inr h
  have hS : va_S A s.heap s.heap [] := va_S.rf
  have hl := lv_entry ([.ref (a 0)]) (n := 1) (Nat.le_of_ble_eq_true rfl)
  rw [lg_entry_eq]
  generalize (lg_sl ([.ref (a 0)]) ++ List.replicate (1 - (lg_sl ([.ref (a 0)])).length) Slot.unset).toArray = ls at hl ⊢
  have hl : lv_has ls 1 [(0, .ref (a 0))] := hl
  unfold fX9_ticks at hf
  suffices hgo : ∀ (H : Heap) (locs : List Loc), va_P (dC, dI) vwCl (wX9 cI cZ a M) H → va_D A (wX9 cI cZ a M) → va_S A s.heap H locs → W p l e (headSpec wsX9_ticks ({ frames := 0, cells := 0, slots := 0, locals := 0 } : Room)).room s m ([.ref (a 0)] : List Value).toArray below meth c H locs 0 0 (MQ below (va_Qi (S := Unit) (fun r _ => r = z.1) (fun _ t => WE (dC, dI) cI cZ (wX9 cI cZ a (sr M 0 (z.2 0))) A t) A) ([.ref (a 0)] : List Value).toArray s 0 0 A) (F0 m 0 ls []) from hgo _ _ hP hD hS
  intro H locs hP hD hS
  refine lv_aload_n hx hb dX9_ticks_0 rfl (lv_at hl 0 rfl) ?_
  refine lv_iconst (v := (0 : Int32)) hx hb dX9_ticks_1 (by decide) ?_
  refine va_put (D := (dC, dI)) (ci := 9) (v := .int (0 : Int32)) (ty := .int) (C := RX9) (T := TX9) (N := 13) hx hb hts hinX9 tyX9 tyX9_ok nmX9 hown hK hP hD hS 0 rfl rfl 0 (by decide) hw1 (fun _ h9 => h9) rfl (by decide +kernel) rfl rfl (Nat.le_of_ble_eq_true rfl) dX9_ticks_2 (fun H locs hP hD hS => ?_)
  have hP : va_P (dC, dI) vwCl (wX9 cI cZ a (sr M 0 (upd (M 0) 0 (0 : Int32)))) H := hP
  have hD : va_D A (wX9 cI cZ a (sr M 0 (upd (M 0) 0 (0 : Int32)))) := hD
  refine lv_aload_n hx hb dX9_ticks_5 rfl (lv_at hl 0 rfl) ?_
  refine va_get (D := (dC, dI)) (ci := 9) (v := .ref (a 1)) (C := RX9) (T := TX9) (N := 13) hx hb hts hinX9 hown hK hP 0 rfl rfl 1 (by decide) hw2 (fun _ h9 => h9) rfl dX9_ticks_6 ?_
  refine lv_iconst (v := (4 : Int32)) hx hb dX9_ticks_9 (by decide) ?_
  obtain ⟨hi, hf⟩ := gd_s hf
  refine va_iald (D := (dC, dI)) (f := (M 1)) hx hb hK hP 1 0 rfl rfl (inb_in hi) dX9_ticks_10 ?_
  have e9 := so_e hf
  subst e9
  exact W.iret (v := (M 1 (4 : Int32).toNatClampNeg)) hx hb hr (fun t ht hW => ⟨⟨(M 1 (4 : Int32).toNatClampNeg), (), rfl, rfl, WE.mk hP hD ht⟩, hS.F ht⟩) hS.2.2 dX9_ticks_11
set_option maxHeartbeats 4000000 in
set_option maxRecDepth 100000 in
theorem c_X9_fetches (l : Launch) (dC : Nat → ClassId) (dI : Nat → Nat → Nat) (cI cZ : ClassId) (a : Nat → Nat) (sz : Nat) (M : Mem) (z : Int32 × Mem) (hf : fX9_fetches M  = some z) : Met l yX9_fetches wsX9_fetches ({ frames := 0, cells := 0, slots := 0, locals := 0 } : Room) (va_Pc [.ref (a 0)] (WR (dC, dI) cI cZ (wX9 cI cZ a M) sz)) (va_Qi (S := Unit) (fun r _ => r = z.1) (fun _ t => WE (dC, dI) cI cZ (wX9 cI cZ a (sr M 0 (z.2 0))) (va_A (wX9 cI cZ a M) sz) t) (va_A (wX9 cI cZ a M) sz)) 0 0 (va_A (wX9 cI cZ a M) sz) := by
  refine Met.ofW (cc := cX9_fetches) (maxL := 1) (ret := (some .int)) (by decide) rfl ?_
  intro p e s m args below meth c s₁ B hml hv
  obtain ⟨rfl, hsz, hP, hK, hD0, hNW⟩ := hv
  have hx := B.exec
  have hb := B.bytes
  have hr := B.returns
  have hts := atoms_spec (ws := wsX9_fetches) B.pre
  have hown : s.vm.findClass RX9 = some m.cls := findClass_of_methodNamed B.named
  have hlocks := B.notSynchronized
  have hinX9 : ∀ w ∈ u_ws RX9 TX9 13, w ∈ wsX9_fetches := by decide +kernel
  have hw1 := hts (.fieldLink RX9 35 "GlideShelvesModel" "thrown" "I") (by decide +kernel)
  have hw2 := hts (.fieldLink RX9 7 "GlideShelvesModel" "s" "[I") (by decide +kernel)
  subst hsz
  have hD := hD0.self (sz := s.heap.size)
  generalize hAe : va_A (wX9 cI cZ a M) s.heap.size = A at hD ⊢
  have hA : ∀ q : Nat, s.heap.size ≤ q → A q := fun q h => by rw [← hAe]; exact Or.inr h
  have hS : va_S A s.heap s.heap [] := va_S.rf
  have hl := lv_entry ([.ref (a 0)]) (n := 1) (Nat.le_of_ble_eq_true rfl)
  rw [lg_entry_eq]
  generalize (lg_sl ([.ref (a 0)]) ++ List.replicate (1 - (lg_sl ([.ref (a 0)])).length) Slot.unset).toArray = ls at hl ⊢
  have hl : lv_has ls 1 [(0, .ref (a 0))] := hl
  unfold fX9_fetches at hf
  suffices hgo : ∀ (H : Heap) (locs : List Loc), va_P (dC, dI) vwCl (wX9 cI cZ a M) H → va_D A (wX9 cI cZ a M) → va_S A s.heap H locs → W p l e (headSpec wsX9_fetches ({ frames := 0, cells := 0, slots := 0, locals := 0 } : Room)).room s m ([.ref (a 0)] : List Value).toArray below meth c H locs 0 0 (MQ below (va_Qi (S := Unit) (fun r _ => r = z.1) (fun _ t => WE (dC, dI) cI cZ (wX9 cI cZ a (sr M 0 (z.2 0))) A t) A) ([.ref (a 0)] : List Value).toArray s 0 0 A) (F0 m 0 ls []) from hgo _ _ hP hD hS
  intro H locs hP hD hS
  refine lv_aload_n hx hb dX9_fetches_0 rfl (lv_at hl 0 rfl) ?_
  refine lv_iconst (v := (0 : Int32)) hx hb dX9_fetches_1 (by decide) ?_
  refine va_put (D := (dC, dI)) (ci := 9) (v := .int (0 : Int32)) (ty := .int) (C := RX9) (T := TX9) (N := 13) hx hb hts hinX9 tyX9 tyX9_ok nmX9 hown hK hP hD hS 0 rfl rfl 0 (by decide) hw1 (fun _ h9 => h9) rfl (by decide +kernel) rfl rfl (Nat.le_of_ble_eq_true rfl) dX9_fetches_2 (fun H locs hP hD hS => ?_)
  have hP : va_P (dC, dI) vwCl (wX9 cI cZ a (sr M 0 (upd (M 0) 0 (0 : Int32)))) H := hP
  have hD : va_D A (wX9 cI cZ a (sr M 0 (upd (M 0) 0 (0 : Int32)))) := hD
  refine lv_aload_n hx hb dX9_fetches_5 rfl (lv_at hl 0 rfl) ?_
  refine va_get (D := (dC, dI)) (ci := 9) (v := .ref (a 1)) (C := RX9) (T := TX9) (N := 13) hx hb hts hinX9 hown hK hP 0 rfl rfl 1 (by decide) hw2 (fun _ h9 => h9) rfl dX9_fetches_6 ?_
  refine lv_iconst (v := (5 : Int32)) hx hb dX9_fetches_9 (by decide) ?_
  obtain ⟨hi, hf⟩ := gd_s hf
  refine va_iald (D := (dC, dI)) (f := (M 1)) hx hb hK hP 1 0 rfl rfl (inb_in hi) dX9_fetches_10 ?_
  have e9 := so_e hf
  subst e9
  exact W.iret (v := (M 1 (5 : Int32).toNatClampNeg)) hx hb hr (fun t ht hW => ⟨⟨(M 1 (5 : Int32).toNatClampNeg), (), rfl, rfl, WE.mk hP hD ht⟩, hS.F ht⟩) hS.2.2 dX9_fetches_11
set_option maxHeartbeats 4000000 in
set_option maxRecDepth 100000 in
theorem c_X9_served (l : Launch) (dC : Nat → ClassId) (dI : Nat → Nat → Nat) (cI cZ : ClassId) (a : Nat → Nat) (sz : Nat) (M : Mem) (z : Int32 × Mem) (hf : fX9_served M  = some z) : Met l yX9_served wsX9_served ({ frames := 0, cells := 0, slots := 0, locals := 0 } : Room) (va_Pc [.ref (a 0)] (WR (dC, dI) cI cZ (wX9 cI cZ a M) sz)) (va_Qi (S := Unit) (fun r _ => r = z.1) (fun _ t => WE (dC, dI) cI cZ (wX9 cI cZ a (sr M 0 (z.2 0))) (va_A (wX9 cI cZ a M) sz) t) (va_A (wX9 cI cZ a M) sz)) 0 0 (va_A (wX9 cI cZ a M) sz) := by
  refine Met.ofW (cc := cX9_served) (maxL := 1) (ret := (some .int)) (by decide) rfl ?_
  intro p e s m args below meth c s₁ B hml hv
  obtain ⟨rfl, hsz, hP, hK, hD0, hNW⟩ := hv
  have hx := B.exec
  have hb := B.bytes
  have hr := B.returns
  have hts := atoms_spec (ws := wsX9_served) B.pre
  have hown : s.vm.findClass RX9 = some m.cls := findClass_of_methodNamed B.named
  have hlocks := B.notSynchronized
  have hinX9 : ∀ w ∈ u_ws RX9 TX9 13, w ∈ wsX9_served := by decide +kernel
  have hw1 := hts (.fieldLink RX9 35 "GlideShelvesModel" "thrown" "I") (by decide +kernel)
  have hw2 := hts (.fieldLink RX9 7 "GlideShelvesModel" "s" "[I") (by decide +kernel)
  subst hsz
  have hD := hD0.self (sz := s.heap.size)
  generalize hAe : va_A (wX9 cI cZ a M) s.heap.size = A at hD ⊢
  have hA : ∀ q : Nat, s.heap.size ≤ q → A q := fun q h => by rw [← hAe]; exact Or.inr h
  have hS : va_S A s.heap s.heap [] := va_S.rf
  have hl := lv_entry ([.ref (a 0)]) (n := 1) (Nat.le_of_ble_eq_true rfl)
  rw [lg_entry_eq]
  generalize (lg_sl ([.ref (a 0)]) ++ List.replicate (1 - (lg_sl ([.ref (a 0)])).length) Slot.unset).toArray = ls at hl ⊢
  have hl : lv_has ls 1 [(0, .ref (a 0))] := hl
  unfold fX9_served at hf
  suffices hgo : ∀ (H : Heap) (locs : List Loc), va_P (dC, dI) vwCl (wX9 cI cZ a M) H → va_D A (wX9 cI cZ a M) → va_S A s.heap H locs → W p l e (headSpec wsX9_served ({ frames := 0, cells := 0, slots := 0, locals := 0 } : Room)).room s m ([.ref (a 0)] : List Value).toArray below meth c H locs 0 0 (MQ below (va_Qi (S := Unit) (fun r _ => r = z.1) (fun _ t => WE (dC, dI) cI cZ (wX9 cI cZ a (sr M 0 (z.2 0))) A t) A) ([.ref (a 0)] : List Value).toArray s 0 0 A) (F0 m 0 ls []) from hgo _ _ hP hD hS
  intro H locs hP hD hS
  refine lv_aload_n hx hb dX9_served_0 rfl (lv_at hl 0 rfl) ?_
  refine lv_iconst (v := (0 : Int32)) hx hb dX9_served_1 (by decide) ?_
  refine va_put (D := (dC, dI)) (ci := 9) (v := .int (0 : Int32)) (ty := .int) (C := RX9) (T := TX9) (N := 13) hx hb hts hinX9 tyX9 tyX9_ok nmX9 hown hK hP hD hS 0 rfl rfl 0 (by decide) hw1 (fun _ h9 => h9) rfl (by decide +kernel) rfl rfl (Nat.le_of_ble_eq_true rfl) dX9_served_2 (fun H locs hP hD hS => ?_)
  have hP : va_P (dC, dI) vwCl (wX9 cI cZ a (sr M 0 (upd (M 0) 0 (0 : Int32)))) H := hP
  have hD : va_D A (wX9 cI cZ a (sr M 0 (upd (M 0) 0 (0 : Int32)))) := hD
  refine lv_aload_n hx hb dX9_served_5 rfl (lv_at hl 0 rfl) ?_
  refine va_get (D := (dC, dI)) (ci := 9) (v := .ref (a 1)) (C := RX9) (T := TX9) (N := 13) hx hb hts hinX9 hown hK hP 0 rfl rfl 1 (by decide) hw2 (fun _ h9 => h9) rfl dX9_served_6 ?_
  refine lv_bipush (v := (6 : Int32)) hx hb dX9_served_9 (by decide) ?_
  obtain ⟨hi, hf⟩ := gd_s hf
  refine va_iald (D := (dC, dI)) (f := (M 1)) hx hb hK hP 1 0 rfl rfl (inb_in hi) dX9_served_11 ?_
  have e9 := so_e hf
  subst e9
  exact W.iret (v := (M 1 (6 : Int32).toNatClampNeg)) hx hb hr (fun t ht hW => ⟨⟨(M 1 (6 : Int32).toNatClampNeg), (), rfl, rfl, WE.mk hP hD ht⟩, hS.F ht⟩) hS.2.2 dX9_served_12
set_option maxHeartbeats 4000000 in
set_option maxRecDepth 100000 in
theorem c_X9_fetchTicks (l : Launch) (dC : Nat → ClassId) (dI : Nat → Nat → Nat) (cI cZ : ClassId) (a : Nat → Nat) (sz : Nat) (M : Mem) (a1 : Int32) (z : Int32 × Mem) (hf : fX9_fetchTicks M a1 = some z) : Met l yX9_fetchTicks wsX9_fetchTicks ({ frames := 3, cells := 0, slots := 0, locals := 65 } : Room) (va_Pc [.ref (a 0), .int a1] (WR (dC, dI) cI cZ (wX9 cI cZ a M) sz)) (va_Qi (S := Unit) (fun r _ => r = z.1) (fun _ t => WE (dC, dI) cI cZ (wX9 cI cZ a (sr M 0 (z.2 0))) (va_A (wX9 cI cZ a M) sz) t) (va_A (wX9 cI cZ a M) sz)) 0 0 (va_A (wX9 cI cZ a M) sz) := by
  refine Met.ofW (cc := cX9_fetchTicks) (maxL := 2) (ret := (some .int)) (by decide) rfl ?_
  intro p e s m args below meth c s₁ B hml hv
  obtain ⟨rfl, hsz, hP, hK, hD0, hNW⟩ := hv
  have hx := B.exec
  have hb := B.bytes
  have hr := B.returns
  have hts := atoms_spec (ws := wsX9_fetchTicks) B.pre
  have hown : s.vm.findClass RX9 = some m.cls := findClass_of_methodNamed B.named
  have hlocks := B.notSynchronized
  have hinX9 : ∀ w ∈ u_ws RX9 TX9 13, w ∈ wsX9_fetchTicks := by decide +kernel
  have hw1 := hts (.fieldLink RX9 35 "GlideShelvesModel" "thrown" "I") (by decide +kernel)
  subst hsz
  have hD := hD0.self (sz := s.heap.size)
  generalize hAe : va_A (wX9 cI cZ a M) s.heap.size = A at hD ⊢
  have hA : ∀ q : Nat, s.heap.size ≤ q → A q := fun q h => by rw [← hAe]; exact Or.inr h
  have hS : va_S A s.heap s.heap [] := va_S.rf
  have hfX9_fetchTicks_B39 : ∀ (N : Mem) (s0 : Int32), fX9_fetchTicks_B39 M  N s0 = some z → ∀ (ls : Array Slot), lv_has ls 2 [] → ∀ (H : Heap) (locs : List Loc), va_P (dC, dI) vwCl (wX9 cI cZ a (sr M 0 (N 0))) H → va_D A (wX9 cI cZ a (sr M 0 (N 0))) → va_S A s.heap H locs → W p l e (headSpec wsX9_fetchTicks ({ frames := 3, cells := 0, slots := 0, locals := 65 } : Room)).room s m ([.ref (a 0), .int a1] : List Value).toArray below meth c H locs 0 0 (MQ below (va_Qi (S := Unit) (fun r _ => r = z.1) (fun _ t => WE (dC, dI) cI cZ (wX9 cI cZ a (sr M 0 (z.2 0))) A t) A) ([.ref (a 0), .int a1] : List Value).toArray s 0 0 A) (F0 m 39 ls [.int s0]) := by
    intro  N s0 hf ls hl H locs hP hD hS
    unfold fX9_fetchTicks_B39 at hf
    have e9 := so_e hf
    subst e9
    exact W.iret (v := s0) hx hb hr (fun t ht hW => ⟨⟨s0, (), rfl, rfl, WE.mk hP hD ht⟩, hS.F ht⟩) hS.2.2 dX9_fetchTicks_39
  have hl := lv_entry ([.ref (a 0), .int a1]) (n := 2) (Nat.le_of_ble_eq_true rfl)
  rw [lg_entry_eq]
  generalize (lg_sl ([.ref (a 0), .int a1]) ++ List.replicate (2 - (lg_sl ([.ref (a 0), .int a1])).length) Slot.unset).toArray = ls at hl ⊢
  have hl : lv_has ls 2 [(0, .ref (a 0)), (1, .int a1)] := hl
  unfold fX9_fetchTicks at hf
  suffices hgo : ∀ (H : Heap) (locs : List Loc), va_P (dC, dI) vwCl (wX9 cI cZ a M) H → va_D A (wX9 cI cZ a M) → va_S A s.heap H locs → W p l e (headSpec wsX9_fetchTicks ({ frames := 3, cells := 0, slots := 0, locals := 65 } : Room)).room s m ([.ref (a 0), .int a1] : List Value).toArray below meth c H locs 0 0 (MQ below (va_Qi (S := Unit) (fun r _ => r = z.1) (fun _ t => WE (dC, dI) cI cZ (wX9 cI cZ a (sr M 0 (z.2 0))) A t) A) ([.ref (a 0), .int a1] : List Value).toArray s 0 0 A) (F0 m 0 ls []) from hgo _ _ hP hD hS
  intro H locs hP hD hS
  refine lv_aload_n hx hb dX9_fetchTicks_0 rfl (lv_at hl 0 rfl) ?_
  refine lv_iconst (v := (0 : Int32)) hx hb dX9_fetchTicks_1 (by decide) ?_
  refine va_put (D := (dC, dI)) (ci := 9) (v := .int (0 : Int32)) (ty := .int) (C := RX9) (T := TX9) (N := 13) hx hb hts hinX9 tyX9 tyX9_ok nmX9 hown hK hP hD hS 0 rfl rfl 0 (by decide) hw1 (fun _ h9 => h9) rfl (by decide +kernel) rfl rfl (Nat.le_of_ble_eq_true rfl) dX9_fetchTicks_2 (fun H locs hP hD hS => ?_)
  have hP : va_P (dC, dI) vwCl (wX9 cI cZ a (sr M 0 (upd (M 0) 0 (0 : Int32)))) H := hP
  have hD : va_D A (wX9 cI cZ a (sr M 0 (upd (M 0) 0 (0 : Int32)))) := hD
  refine lv_aload_n hx hb dX9_fetchTicks_5 rfl (lv_at hl 0 rfl) ?_
  refine lv_iload_n hx hb dX9_fetchTicks_6 rfl (lv_at hl 1 rfl) ?_
  obtain ⟨r7, hc7, hf⟩ := bi_s hf
  have hPc := hP
  refine cRO (W.runV (As := [.int a1]) (rest := []) ⟨hx, hb, hml, hown, hts⟩ (c_X9_isShelf l dC dI cI cZ a (sr M 0 (upd (M 0) 0 (0 : Int32))) a1 r7 hc7) (cwV 1 hts gX9_fetchTicks_X9_isShelf rfl rfl rfl (by decide +kernel) ⟨Nat.le_of_ble_eq_true rfl, Nat.le_of_ble_eq_true rfl⟩) ⟨RO.blind, va_recv hK hP (ci := 9) (q0 := 0) rfl rfl, RO.pre hPc hK hNW⟩ rfl rfl hl.1 rfl (lv_room (Nat.le_of_ble_eq_true rfl)) dX9_fetchTicks_7 ⟨Nat.le_of_ble_eq_true rfl, Nat.le_of_ble_eq_true rfl⟩) ?_
  refine lv_if_ne (tgt := 19) hx hb dX9_fetchTicks_10 (by decide) (fun c9 => ?_) (fun c9 => ?_)
  · have hf := it_t hf c9
    refine lv_aload_n hx hb dX9_fetchTicks_19 rfl (lv_at hl 0 rfl) ?_
    obtain ⟨r20, hc20, hf⟩ := bi_s hf
    have hPc := hP
    refine cRO (W.runV (As := []) (rest := []) ⟨hx, hb, hml, hown, hts⟩ (c_X9_hasWindow l dC dI cI cZ a (sr M 0 (upd (M 0) 0 (0 : Int32))) r20 hc20) (cwV 0 hts gX9_fetchTicks_X9_hasWindow rfl rfl rfl (by decide +kernel) ⟨Nat.le_of_ble_eq_true rfl, Nat.le_of_ble_eq_true rfl⟩) ⟨RO.blind, va_recv hK hP (ci := 9) (q0 := 0) rfl rfl, RO.pre hPc hK hNW⟩ rfl rfl hl.1 rfl (lv_room (Nat.le_of_ble_eq_true rfl)) dX9_fetchTicks_20 ⟨Nat.le_of_ble_eq_true rfl, Nat.le_of_ble_eq_true rfl⟩) ?_
    refine lv_if_eq (tgt := 34) hx hb dX9_fetchTicks_23 (by decide) (fun c9 => ?_) (fun c9 => ?_)
    · have hf := it_t hf c9
      refine lv_aload_n hx hb dX9_fetchTicks_34 rfl (lv_at hl 0 rfl) ?_
      refine lv_iload_n hx hb dX9_fetchTicks_35 rfl (lv_at hl 1 rfl) ?_
      obtain ⟨r36, hc36, hf⟩ := bi_s hf
      have hPc := hP
      refine cRO (W.runV (As := [.int a1]) (rest := []) ⟨hx, hb, hml, hown, hts⟩ (c_X9_wayTo l dC dI cI cZ a (sr M 0 (upd (M 0) 0 (0 : Int32))) a1 r36 hc36) (cwV 1 hts gX9_fetchTicks_X9_wayTo rfl rfl rfl (by decide +kernel) ⟨Nat.le_of_ble_eq_true rfl, Nat.le_of_ble_eq_true rfl⟩) ⟨RO.blind, va_recv hK hP (ci := 9) (q0 := 0) rfl rfl, RO.pre hPc hK hNW⟩ rfl rfl hl.1 rfl (lv_room (Nat.le_of_ble_eq_true rfl)) dX9_fetchTicks_36 ⟨Nat.le_of_ble_eq_true rfl, Nat.le_of_ble_eq_true rfl⟩) ?_
      exact hfX9_fetchTicks_B39  (sr M 0 (upd (M 0) 0 (0 : Int32))) r36 hf _ (lv_sub hl [] rfl) _ _ hP hD hS
    · have hf := it_f hf c9
      refine lv_aload_n hx hb dX9_fetchTicks_26 rfl (lv_at hl 0 rfl) ?_
      refine lv_iconst (v := (2 : Int32)) hx hb dX9_fetchTicks_27 (by decide) ?_
      obtain ⟨r28, hc28, hf⟩ := bi_s hf
      have hPc := hP
      have hDc := hD
      have hFc := va_free (wc := (wX9 cI cZ a (sr M 0 (upd (M 0) 0 (0 : Int32))))) hD hS hA [0, 1, 2, 3, 4, 5, 6, 7, 8] rfl
      refine va_calli (va_runV (As := [.int (2 : Int32)]) (rest := []) ⟨hx, hb, hml, hown, hts⟩ (c_X9_fails l dC dI cI cZ a H.size (sr M 0 (upd (M 0) 0 (0 : Int32))) (2 : Int32) r28 hc28) (cwV 1 hts gX9_fetchTicks_X9_fails rfl rfl rfl (by decide +kernel) ⟨Nat.le_of_ble_eq_true rfl, Nat.le_of_ble_eq_true rfl⟩) ⟨WR.blind, va_recv hK hP (ci := 9) (q0 := 0) rfl rfl, WR.pre hPc hK hDc hNW⟩ rfl rfl hl.1 rfl (lv_room (Nat.le_of_ble_eq_true rfl)) dX9_fetchTicks_28 ⟨Nat.le_of_ble_eq_true rfl, Nat.le_of_ble_eq_true rfl⟩) hS (fun q _ h => hFc q h) hFc (fun rv u t H1 locs ht hvm hw hB hz1 hk1 hS => ?_)
      obtain ⟨hP1, hD1⟩ := hB
      rw [ht] at hP1
      subst hw
      have hP := hP1
      have hD := hD1.weaken (fun k q _ h => hFc q.1 h)
      have hP : va_P (dC, dI) vwCl (wX9 cI cZ a (sr M 0 (r28.2 0))) H1 := hP
      have hD : va_D A (wX9 cI cZ a (sr M 0 (r28.2 0))) := hD
      generalize H1 = H at hP hS ⊢
      refine lv_goto (tgt := 39) hx hb dX9_fetchTicks_31 (by decide) ?_
      exact hfX9_fetchTicks_B39  (sr M 0 (r28.2 0)) r28.1 hf _ (lv_sub hl [] rfl) _ _ hP hD hS
  · have hf := it_n hf c9
    refine lv_aload_n hx hb dX9_fetchTicks_13 rfl (lv_at hl 0 rfl) ?_
    refine lv_iconst (v := (1 : Int32)) hx hb dX9_fetchTicks_14 (by decide) ?_
    obtain ⟨r15, hc15, hf⟩ := bi_s hf
    have hPc := hP
    have hDc := hD
    have hFc := va_free (wc := (wX9 cI cZ a (sr M 0 (upd (M 0) 0 (0 : Int32))))) hD hS hA [0, 1, 2, 3, 4, 5, 6, 7, 8] rfl
    refine va_calli (va_runV (As := [.int (1 : Int32)]) (rest := []) ⟨hx, hb, hml, hown, hts⟩ (c_X9_fails l dC dI cI cZ a H.size (sr M 0 (upd (M 0) 0 (0 : Int32))) (1 : Int32) r15 hc15) (cwV 1 hts gX9_fetchTicks_X9_fails rfl rfl rfl (by decide +kernel) ⟨Nat.le_of_ble_eq_true rfl, Nat.le_of_ble_eq_true rfl⟩) ⟨WR.blind, va_recv hK hP (ci := 9) (q0 := 0) rfl rfl, WR.pre hPc hK hDc hNW⟩ rfl rfl hl.1 rfl (lv_room (Nat.le_of_ble_eq_true rfl)) dX9_fetchTicks_15 ⟨Nat.le_of_ble_eq_true rfl, Nat.le_of_ble_eq_true rfl⟩) hS (fun q _ h => hFc q h) hFc (fun rv u t H1 locs ht hvm hw hB hz1 hk1 hS => ?_)
    obtain ⟨hP1, hD1⟩ := hB
    rw [ht] at hP1
    subst hw
    have hP := hP1
    have hD := hD1.weaken (fun k q _ h => hFc q.1 h)
    have hP : va_P (dC, dI) vwCl (wX9 cI cZ a (sr M 0 (r15.2 0))) H1 := hP
    have hD : va_D A (wX9 cI cZ a (sr M 0 (r15.2 0))) := hD
    generalize H1 = H at hP hS ⊢
    have e9 := so_e hf
    subst e9
    exact W.iret (v := r15.1) hx hb hr (fun t ht hW => ⟨⟨r15.1, (), rfl, rfl, WE.mk hP hD ht⟩, hS.F ht⟩) hS.2.2 dX9_fetchTicks_18
set_option maxHeartbeats 4000000 in
set_option maxRecDepth 100000 in
theorem c_X9_dearest (l : Launch) (dC : Nat → ClassId) (dI : Nat → Nat → Nat) (cI cZ : ClassId) (a : Nat → Nat) (M : Mem) (z : Int32) (hf : fX9_dearest M  = some z) : Met l yX9_dearest wsX9_dearest ({ frames := 2, cells := 0, slots := 0, locals := 45 } : Room) (va_Pc [.ref (a 0)] (RO (dC, dI) cI cZ (wX9 cI cZ a M))) (k2_QcV (.int z)) 0 0 (fun _ => False) := by
  refine Met.ofW (cc := cX9_dearest) (maxL := 3) (ret := (some .int)) (by decide) rfl ?_
  intro p e s m args below meth c s₁ B hml hv
  obtain ⟨rfl, hP, hK, hNW⟩ := hv
  have hx := B.exec
  have hb := B.bytes
  have hr := B.returns
  have hts := atoms_spec (ws := wsX9_dearest) B.pre
  have hown : s.vm.findClass RX9 = some m.cls := findClass_of_methodNamed B.named
  have hlocks := B.notSynchronized
  have hinX9 : ∀ w ∈ u_ws RX9 TX9 13, w ∈ wsX9_dearest := by decide +kernel
  have hw1 := hts (.fieldLink RX9 7 "GlideShelvesModel" "s" "[I") (by decide +kernel)
  have hfX9_dearest_B32 : ∀ (kb : Int32 → Int32 → Option (Int32)) (hkb : ∀ (l1 : Int32) (l2 : Int32), kb l1 l2 = some z → ∀ (ls : Array Slot), lv_has ls 3 [(0, .ref (a 0)), (1, .int l1), (2, .int l2)] → W p l e (headSpec wsX9_dearest ({ frames := 2, cells := 0, slots := 0, locals := 45 } : Room)).room s m ([.ref (a 0)] : List Value).toArray below meth c s.heap [] 0 0 (MQ below (k2_QcV (.int z)) ([.ref (a 0)] : List Value).toArray s 0 0 (fun _ => False)) (F0 m 4 ls [])) (kx39 : Int32 → Option (Int32)) (hkx39 : ∀ (l1 : Int32), kx39 l1 = some z → ∀ (ls : Array Slot), lv_has ls 3 [(1, .int l1)] → W p l e (headSpec wsX9_dearest ({ frames := 2, cells := 0, slots := 0, locals := 45 } : Room)).room s m ([.ref (a 0)] : List Value).toArray below meth c s.heap [] 0 0 (MQ below (k2_QcV (.int z)) ([.ref (a 0)] : List Value).toArray s 0 0 (fun _ => False)) (F0 m 39 ls [])), ∀ (l2 : Int32) (s0 : Int32), fX9_dearest_B32 M kb kx39 l2 s0 = some z → ∀ (ls : Array Slot), lv_has ls 3 [(0, .ref (a 0)), (2, .int l2)] → W p l e (headSpec wsX9_dearest ({ frames := 2, cells := 0, slots := 0, locals := 45 } : Room)).room s m ([.ref (a 0)] : List Value).toArray below meth c s.heap [] 0 0 (MQ below (k2_QcV (.int z)) ([.ref (a 0)] : List Value).toArray s 0 0 (fun _ => False)) (F0 m 32 ls [.int s0]) := by
    intro kb hkb kx39 hkx39 l2 s0 hf ls hl
    unfold fX9_dearest_B32 at hf
    refine lv_istore_n (lv' := [(1, .int s0), (0, .ref (a 0)), (2, .int l2)]) hx hb dX9_dearest_32 rfl hl (by decide) rfl (fun ls hl => ?_)
    refine lv_iinc (v := (l2 + (1 : Int32))) (lv' := [(2, .int (l2 + (1 : Int32))), (1, .int s0), (0, .ref (a 0))]) hx hb dX9_dearest_33 hl (k := 2) rfl rfl (by decide) rfl (fun ls hl => ?_)
    refine lv_goto (tgt := 4) hx hb dX9_dearest_36 (by decide) ?_
    exact hkb s0 (l2 + (1 : Int32)) hf _ (lv_sub hl [2, 1, 0] rfl)
  have hfX9_dearest_L4 : ∀ (n : Nat) (kx39 : Int32 → Option (Int32)) (hkx39 : ∀ (l1 : Int32), kx39 l1 = some z → ∀ (ls : Array Slot), lv_has ls 3 [(1, .int l1)] → W p l e (headSpec wsX9_dearest ({ frames := 2, cells := 0, slots := 0, locals := 45 } : Room)).room s m ([.ref (a 0)] : List Value).toArray below meth c s.heap [] 0 0 (MQ below (k2_QcV (.int z)) ([.ref (a 0)] : List Value).toArray s 0 0 (fun _ => False)) (F0 m 39 ls [])), ∀ (l1 : Int32) (l2 : Int32), fX9_dearest_L4 M n kx39 l1 l2 = some z → ∀ (ls : Array Slot), lv_has ls 3 [(0, .ref (a 0)), (1, .int l1), (2, .int l2)] → W p l e (headSpec wsX9_dearest ({ frames := 2, cells := 0, slots := 0, locals := 45 } : Room)).room s m ([.ref (a 0)] : List Value).toArray below meth c s.heap [] 0 0 (MQ below (k2_QcV (.int z)) ([.ref (a 0)] : List Value).toArray s 0 0 (fun _ => False)) (F0 m 4 ls []) := by
    intro n
    induction n with
    | zero =>
      intro kx39 hkx39 l1 l2 hf ls hl
      rw [fX9_dearest_L4] at hf
      cases hf
    | succ n ih =>
      intro kx39 hkx39 l1 l2 hf ls hl
      rw [fX9_dearest_L4] at hf
      refine lv_iload_n hx hb dX9_dearest_4 rfl (lv_at hl 2 rfl) ?_
      refine lv_aload_n hx hb dX9_dearest_5 rfl (lv_at hl 0 rfl) ?_
      refine va_get (D := (dC, dI)) (ci := 9) (v := .ref (a 1)) (C := RX9) (T := TX9) (N := 13) hx hb hts hinX9 hown hK hP 0 rfl rfl 1 (by decide) hw1 (fun _ h9 => h9) rfl dX9_dearest_6 ?_
      refine lv_iconst (v := (0 : Int32)) hx hb dX9_dearest_9 (by decide) ?_
      obtain ⟨hi, hf⟩ := gd_s hf
      refine va_iald (D := (dC, dI)) (f := (M 1)) hx hb hK hP 1 0 rfl rfl (inb_in hi) dX9_dearest_10 ?_
      refine lv_icmp_ge (tgt := 39) hx hb dX9_dearest_11 (by decide) (fun c9 => ?_) (fun c9 => ?_)
      · have hf := it_t hf c9
        exact hkx39 l1 hf _ (lv_sub hl [1] rfl)
      · have hf := it_f hf c9
        refine lv_aload_n hx hb dX9_dearest_14 rfl (lv_at hl 0 rfl) ?_
        refine lv_iload_n hx hb dX9_dearest_15 rfl (lv_at hl 2 rfl) ?_
        obtain ⟨r16, hc16, hf⟩ := bi_s hf
        have hPc := hP
        refine cRO (W.runV (As := [.int l2]) (rest := []) ⟨hx, hb, hml, hown, hts⟩ (c_X9_weight l dC dI cI cZ a M l2 r16 hc16) (cwV 1 hts gX9_dearest_X9_weight rfl rfl rfl (by decide +kernel) ⟨Nat.le_of_ble_eq_true rfl, Nat.le_of_ble_eq_true rfl⟩) ⟨RO.blind, va_recv hK hP (ci := 9) (q0 := 0) rfl rfl, RO.pre hPc hK hNW⟩ rfl rfl hl.1 rfl (lv_room (Nat.le_of_ble_eq_true rfl)) dX9_dearest_16 ⟨Nat.le_of_ble_eq_true rfl, Nat.le_of_ble_eq_true rfl⟩) ?_
        refine lv_aload_n hx hb dX9_dearest_19 rfl (lv_at hl 0 rfl) ?_
        refine lv_iload_n hx hb dX9_dearest_20 rfl (lv_at hl 1 rfl) ?_
        obtain ⟨r21, hc21, hf⟩ := bi_s hf
        have hPc := hP
        refine cRO (W.runV (As := [.int l1]) (rest := [.int r16]) ⟨hx, hb, hml, hown, hts⟩ (c_X9_weight l dC dI cI cZ a M l1 r21 hc21) (cwV 1 hts gX9_dearest_X9_weight rfl rfl rfl (by decide +kernel) ⟨Nat.le_of_ble_eq_true rfl, Nat.le_of_ble_eq_true rfl⟩) ⟨RO.blind, va_recv hK hP (ci := 9) (q0 := 0) rfl rfl, RO.pre hPc hK hNW⟩ rfl rfl hl.1 rfl (lv_room (Nat.le_of_ble_eq_true rfl)) dX9_dearest_21 ⟨Nat.le_of_ble_eq_true rfl, Nat.le_of_ble_eq_true rfl⟩) ?_
        refine lv_icmp_le (tgt := 31) hx hb dX9_dearest_24 (by decide) (fun c9 => ?_) (fun c9 => ?_)
        · have hf := it_t hf c9
          refine lv_iload_n hx hb dX9_dearest_31 rfl (lv_at hl 1 rfl) ?_
          exact hfX9_dearest_B32 _ (ih kx39 hkx39) _ hkx39 l2 l1 hf _ (lv_sub hl [0, 2] rfl)
        · have hf := it_f hf c9
          refine lv_iload_n hx hb dX9_dearest_27 rfl (lv_at hl 2 rfl) ?_
          refine lv_goto (tgt := 32) hx hb dX9_dearest_28 (by decide) ?_
          exact hfX9_dearest_B32 _ (ih kx39 hkx39) _ hkx39 l2 l2 hf _ (lv_sub hl [0, 2] rfl)
  have hl := lv_entry ([.ref (a 0)]) (n := 3) (Nat.le_of_ble_eq_true rfl)
  rw [lg_entry_eq]
  generalize (lg_sl ([.ref (a 0)]) ++ List.replicate (3 - (lg_sl ([.ref (a 0)])).length) Slot.unset).toArray = ls at hl ⊢
  have hl : lv_has ls 3 [(0, .ref (a 0))] := hl
  unfold fX9_dearest at hf
  refine lv_iconst (v := (0 : Int32)) hx hb dX9_dearest_0 (by decide) ?_
  refine lv_istore_n (lv' := [(1, .int (0 : Int32)), (0, .ref (a 0))]) hx hb dX9_dearest_1 rfl hl (by decide) rfl (fun ls hl => ?_)
  refine lv_iconst (v := (1 : Int32)) hx hb dX9_dearest_2 (by decide) ?_
  refine lv_istore_n (lv' := [(2, .int (1 : Int32)), (1, .int (0 : Int32)), (0, .ref (a 0))]) hx hb dX9_dearest_3 rfl hl (by decide) rfl (fun ls hl => ?_)
  refine hfX9_dearest_L4 5000 _ (fun l1 hf ls hl => ?_) (0 : Int32) (1 : Int32) hf _ (lv_sub hl [2, 1, 0] rfl)
  refine lv_iload_n hx hb dX9_dearest_39 rfl (lv_at hl 0 rfl) ?_
  exact W.iret (v := l1) hx hb hr (fun t ht hW => ⟨congrArg (fun x => Outcome.returned (some (Value.int x))) (so_e hf), ht⟩) fl0 dX9_dearest_40
set_option maxHeartbeats 4000000 in
set_option maxRecDepth 100000 in
theorem c_X9_heaviest (l : Launch) (dC : Nat → ClassId) (dI : Nat → Nat → Nat) (cI cZ : ClassId) (a : Nat → Nat) (sz : Nat) (M : Mem) (z : Int32 × Mem) (hf : fX9_heaviest M  = some z) : Met l yX9_heaviest wsX9_heaviest ({ frames := 3, cells := 0, slots := 0, locals := 67 } : Room) (va_Pc [.ref (a 0)] (WR (dC, dI) cI cZ (wX9 cI cZ a M) sz)) (va_Qi (S := Unit) (fun r _ => r = z.1) (fun _ t => WE (dC, dI) cI cZ (wX9 cI cZ a (sr M 0 (z.2 0))) (va_A (wX9 cI cZ a M) sz) t) (va_A (wX9 cI cZ a M) sz)) 0 0 (va_A (wX9 cI cZ a M) sz) := by
  refine Met.ofW (cc := cX9_heaviest) (maxL := 1) (ret := (some .int)) (by decide) rfl ?_
  intro p e s m args below meth c s₁ B hml hv
  obtain ⟨rfl, hsz, hP, hK, hD0, hNW⟩ := hv
  have hx := B.exec
  have hb := B.bytes
  have hr := B.returns
  have hts := atoms_spec (ws := wsX9_heaviest) B.pre
  have hown : s.vm.findClass RX9 = some m.cls := findClass_of_methodNamed B.named
  have hlocks := B.notSynchronized
  have hinX9 : ∀ w ∈ u_ws RX9 TX9 13, w ∈ wsX9_heaviest := by decide +kernel
  have hw1 := hts (.fieldLink RX9 35 "GlideShelvesModel" "thrown" "I") (by decide +kernel)
  have hw2 := hts (.fieldLink RX9 7 "GlideShelvesModel" "s" "[I") (by decide +kernel)
  subst hsz
  have hD := hD0.self (sz := s.heap.size)
  generalize hAe : va_A (wX9 cI cZ a M) s.heap.size = A at hD ⊢
  have hA : ∀ q : Nat, s.heap.size ≤ q → A q := fun q h => by rw [← hAe]; exact Or.inr h
  have hS : va_S A s.heap s.heap [] := va_S.rf
  have hfX9_heaviest_B26 : ∀ (N : Mem) (s0 : Int32), fX9_heaviest_B26 M  N s0 = some z → ∀ (ls : Array Slot), lv_has ls 1 [] → ∀ (H : Heap) (locs : List Loc), va_P (dC, dI) vwCl (wX9 cI cZ a (sr M 0 (N 0))) H → va_D A (wX9 cI cZ a (sr M 0 (N 0))) → va_S A s.heap H locs → W p l e (headSpec wsX9_heaviest ({ frames := 3, cells := 0, slots := 0, locals := 67 } : Room)).room s m ([.ref (a 0)] : List Value).toArray below meth c H locs 0 0 (MQ below (va_Qi (S := Unit) (fun r _ => r = z.1) (fun _ t => WE (dC, dI) cI cZ (wX9 cI cZ a (sr M 0 (z.2 0))) A t) A) ([.ref (a 0)] : List Value).toArray s 0 0 A) (F0 m 26 ls [.int s0]) := by
    intro  N s0 hf ls hl H locs hP hD hS
    unfold fX9_heaviest_B26 at hf
    have e9 := so_e hf
    subst e9
    exact W.iret (v := s0) hx hb hr (fun t ht hW => ⟨⟨s0, (), rfl, rfl, WE.mk hP hD ht⟩, hS.F ht⟩) hS.2.2 dX9_heaviest_26
  have hl := lv_entry ([.ref (a 0)]) (n := 1) (Nat.le_of_ble_eq_true rfl)
  rw [lg_entry_eq]
  generalize (lg_sl ([.ref (a 0)]) ++ List.replicate (1 - (lg_sl ([.ref (a 0)])).length) Slot.unset).toArray = ls at hl ⊢
  have hl : lv_has ls 1 [(0, .ref (a 0))] := hl
  unfold fX9_heaviest at hf
  suffices hgo : ∀ (H : Heap) (locs : List Loc), va_P (dC, dI) vwCl (wX9 cI cZ a M) H → va_D A (wX9 cI cZ a M) → va_S A s.heap H locs → W p l e (headSpec wsX9_heaviest ({ frames := 3, cells := 0, slots := 0, locals := 67 } : Room)).room s m ([.ref (a 0)] : List Value).toArray below meth c H locs 0 0 (MQ below (va_Qi (S := Unit) (fun r _ => r = z.1) (fun _ t => WE (dC, dI) cI cZ (wX9 cI cZ a (sr M 0 (z.2 0))) A t) A) ([.ref (a 0)] : List Value).toArray s 0 0 A) (F0 m 0 ls []) from hgo _ _ hP hD hS
  intro H locs hP hD hS
  refine lv_aload_n hx hb dX9_heaviest_0 rfl (lv_at hl 0 rfl) ?_
  refine lv_iconst (v := (0 : Int32)) hx hb dX9_heaviest_1 (by decide) ?_
  refine va_put (D := (dC, dI)) (ci := 9) (v := .int (0 : Int32)) (ty := .int) (C := RX9) (T := TX9) (N := 13) hx hb hts hinX9 tyX9 tyX9_ok nmX9 hown hK hP hD hS 0 rfl rfl 0 (by decide) hw1 (fun _ h9 => h9) rfl (by decide +kernel) rfl rfl (Nat.le_of_ble_eq_true rfl) dX9_heaviest_2 (fun H locs hP hD hS => ?_)
  have hP : va_P (dC, dI) vwCl (wX9 cI cZ a (sr M 0 (upd (M 0) 0 (0 : Int32)))) H := hP
  have hD : va_D A (wX9 cI cZ a (sr M 0 (upd (M 0) 0 (0 : Int32)))) := hD
  refine lv_aload_n hx hb dX9_heaviest_5 rfl (lv_at hl 0 rfl) ?_
  refine va_get (D := (dC, dI)) (ci := 9) (v := .ref (a 1)) (C := RX9) (T := TX9) (N := 13) hx hb hts hinX9 hown hK hP 0 rfl rfl 1 (by decide) hw2 (fun _ h9 => h9) rfl dX9_heaviest_6 ?_
  refine lv_iconst (v := (0 : Int32)) hx hb dX9_heaviest_9 (by decide) ?_
  obtain ⟨hi, hf⟩ := gd_s hf
  refine va_iald (D := (dC, dI)) (f := (M 1)) hx hb hK hP 1 0 rfl rfl (inb_in hi) dX9_heaviest_10 ?_
  refine lv_if_ne (tgt := 22) hx hb dX9_heaviest_11 (by decide) (fun c9 => ?_) (fun c9 => ?_)
  · have hf := it_t hf c9
    refine lv_aload_n hx hb dX9_heaviest_22 rfl (lv_at hl 0 rfl) ?_
    obtain ⟨r23, hc23, hf⟩ := bi_s hf
    have hPc := hP
    refine cRO (W.runV (As := []) (rest := []) ⟨hx, hb, hml, hown, hts⟩ (c_X9_dearest l dC dI cI cZ a (sr M 0 (upd (M 0) 0 (0 : Int32))) r23 hc23) (cwV 0 hts gX9_heaviest_X9_dearest rfl rfl rfl (by decide +kernel) ⟨Nat.le_of_ble_eq_true rfl, Nat.le_of_ble_eq_true rfl⟩) ⟨RO.blind, va_recv hK hP (ci := 9) (q0 := 0) rfl rfl, RO.pre hPc hK hNW⟩ rfl rfl hl.1 rfl (lv_room (Nat.le_of_ble_eq_true rfl)) dX9_heaviest_23 ⟨Nat.le_of_ble_eq_true rfl, Nat.le_of_ble_eq_true rfl⟩) ?_
    exact hfX9_heaviest_B26  (sr M 0 (upd (M 0) 0 (0 : Int32))) r23 hf _ (lv_sub hl [] rfl) _ _ hP hD hS
  · have hf := it_n hf c9
    refine lv_aload_n hx hb dX9_heaviest_14 rfl (lv_at hl 0 rfl) ?_
    refine lv_iconst (v := (1 : Int32)) hx hb dX9_heaviest_15 (by decide) ?_
    obtain ⟨r16, hc16, hf⟩ := bi_s hf
    have hPc := hP
    have hDc := hD
    have hFc := va_free (wc := (wX9 cI cZ a (sr M 0 (upd (M 0) 0 (0 : Int32))))) hD hS hA [0, 1, 2, 3, 4, 5, 6, 7, 8] rfl
    refine va_calli (va_runV (As := [.int (1 : Int32)]) (rest := []) ⟨hx, hb, hml, hown, hts⟩ (c_X9_fails l dC dI cI cZ a H.size (sr M 0 (upd (M 0) 0 (0 : Int32))) (1 : Int32) r16 hc16) (cwV 1 hts gX9_heaviest_X9_fails rfl rfl rfl (by decide +kernel) ⟨Nat.le_of_ble_eq_true rfl, Nat.le_of_ble_eq_true rfl⟩) ⟨WR.blind, va_recv hK hP (ci := 9) (q0 := 0) rfl rfl, WR.pre hPc hK hDc hNW⟩ rfl rfl hl.1 rfl (lv_room (Nat.le_of_ble_eq_true rfl)) dX9_heaviest_16 ⟨Nat.le_of_ble_eq_true rfl, Nat.le_of_ble_eq_true rfl⟩) hS (fun q _ h => hFc q h) hFc (fun rv u t H1 locs ht hvm hw hB hz1 hk1 hS => ?_)
    obtain ⟨hP1, hD1⟩ := hB
    rw [ht] at hP1
    subst hw
    have hP := hP1
    have hD := hD1.weaken (fun k q _ h => hFc q.1 h)
    have hP : va_P (dC, dI) vwCl (wX9 cI cZ a (sr M 0 (r16.2 0))) H1 := hP
    have hD : va_D A (wX9 cI cZ a (sr M 0 (r16.2 0))) := hD
    generalize H1 = H at hP hS ⊢
    refine lv_goto (tgt := 26) hx hb dX9_heaviest_19 (by decide) ?_
    exact hfX9_heaviest_B26  (sr M 0 (r16.2 0)) r16.1 hf _ (lv_sub hl [] rfl) _ _ hP hD hS
set_option maxHeartbeats 4000000 in
set_option maxRecDepth 100000 in
theorem c_X9_favourite (l : Launch) (dC : Nat → ClassId) (dI : Nat → Nat → Nat) (cI cZ : ClassId) (a : Nat → Nat) (M : Mem) (z : Int32) (hf : fX9_favourite M  = some z) : Met l yX9_favourite wsX9_favourite ({ frames := 1, cells := 0, slots := 0, locals := 22 } : Room) (va_Pc [.ref (a 0)] (RO (dC, dI) cI cZ (wX9 cI cZ a M))) (k2_QcV (.int z)) 0 0 (fun _ => False) := by
  refine Met.ofW (cc := cX9_favourite) (maxL := 3) (ret := (some .int)) (by decide) rfl ?_
  intro p e s m args below meth c s₁ B hml hv
  obtain ⟨rfl, hP, hK, hNW⟩ := hv
  have hx := B.exec
  have hb := B.bytes
  have hr := B.returns
  have hts := atoms_spec (ws := wsX9_favourite) B.pre
  have hown : s.vm.findClass RX9 = some m.cls := findClass_of_methodNamed B.named
  have hlocks := B.notSynchronized
  have hinX9 : ∀ w ∈ u_ws RX9 TX9 13, w ∈ wsX9_favourite := by decide +kernel
  have hw1 := hts (.fieldLink RX9 7 "GlideShelvesModel" "s" "[I") (by decide +kernel)
  have hfX9_favourite_B34 : ∀ (kb : Int32 → Int32 → Option (Int32)) (hkb : ∀ (l1 : Int32) (l2 : Int32), kb l1 l2 = some z → ∀ (ls : Array Slot), lv_has ls 3 [(0, .ref (a 0)), (1, .int l1), (2, .int l2)] → W p l e (headSpec wsX9_favourite ({ frames := 1, cells := 0, slots := 0, locals := 22 } : Room)).room s m ([.ref (a 0)] : List Value).toArray below meth c s.heap [] 0 0 (MQ below (k2_QcV (.int z)) ([.ref (a 0)] : List Value).toArray s 0 0 (fun _ => False)) (F0 m 4 ls [])) (kx41 : Int32 → Option (Int32)) (hkx41 : ∀ (l1 : Int32), kx41 l1 = some z → ∀ (ls : Array Slot), lv_has ls 3 [(1, .int l1)] → W p l e (headSpec wsX9_favourite ({ frames := 1, cells := 0, slots := 0, locals := 22 } : Room)).room s m ([.ref (a 0)] : List Value).toArray below meth c s.heap [] 0 0 (MQ below (k2_QcV (.int z)) ([.ref (a 0)] : List Value).toArray s 0 0 (fun _ => False)) (F0 m 41 ls [])), ∀ (l2 : Int32) (s0 : Int32), fX9_favourite_B34 M kb kx41 l2 s0 = some z → ∀ (ls : Array Slot), lv_has ls 3 [(0, .ref (a 0)), (2, .int l2)] → W p l e (headSpec wsX9_favourite ({ frames := 1, cells := 0, slots := 0, locals := 22 } : Room)).room s m ([.ref (a 0)] : List Value).toArray below meth c s.heap [] 0 0 (MQ below (k2_QcV (.int z)) ([.ref (a 0)] : List Value).toArray s 0 0 (fun _ => False)) (F0 m 34 ls [.int s0]) := by
    intro kb hkb kx41 hkx41 l2 s0 hf ls hl
    unfold fX9_favourite_B34 at hf
    refine lv_istore_n (lv' := [(1, .int s0), (0, .ref (a 0)), (2, .int l2)]) hx hb dX9_favourite_34 rfl hl (by decide) rfl (fun ls hl => ?_)
    refine lv_iinc (v := (l2 + (1 : Int32))) (lv' := [(2, .int (l2 + (1 : Int32))), (1, .int s0), (0, .ref (a 0))]) hx hb dX9_favourite_35 hl (k := 2) rfl rfl (by decide) rfl (fun ls hl => ?_)
    refine lv_goto (tgt := 4) hx hb dX9_favourite_38 (by decide) ?_
    exact hkb s0 (l2 + (1 : Int32)) hf _ (lv_sub hl [2, 1, 0] rfl)
  have hfX9_favourite_L4 : ∀ (n : Nat) (kx41 : Int32 → Option (Int32)) (hkx41 : ∀ (l1 : Int32), kx41 l1 = some z → ∀ (ls : Array Slot), lv_has ls 3 [(1, .int l1)] → W p l e (headSpec wsX9_favourite ({ frames := 1, cells := 0, slots := 0, locals := 22 } : Room)).room s m ([.ref (a 0)] : List Value).toArray below meth c s.heap [] 0 0 (MQ below (k2_QcV (.int z)) ([.ref (a 0)] : List Value).toArray s 0 0 (fun _ => False)) (F0 m 41 ls [])), ∀ (l1 : Int32) (l2 : Int32), fX9_favourite_L4 M n kx41 l1 l2 = some z → ∀ (ls : Array Slot), lv_has ls 3 [(0, .ref (a 0)), (1, .int l1), (2, .int l2)] → W p l e (headSpec wsX9_favourite ({ frames := 1, cells := 0, slots := 0, locals := 22 } : Room)).room s m ([.ref (a 0)] : List Value).toArray below meth c s.heap [] 0 0 (MQ below (k2_QcV (.int z)) ([.ref (a 0)] : List Value).toArray s 0 0 (fun _ => False)) (F0 m 4 ls []) := by
    intro n
    induction n with
    | zero =>
      intro kx41 hkx41 l1 l2 hf ls hl
      rw [fX9_favourite_L4] at hf
      cases hf
    | succ n ih =>
      intro kx41 hkx41 l1 l2 hf ls hl
      rw [fX9_favourite_L4] at hf
      refine lv_iload_n hx hb dX9_favourite_4 rfl (lv_at hl 2 rfl) ?_
      refine lv_aload_n hx hb dX9_favourite_5 rfl (lv_at hl 0 rfl) ?_
      refine va_get (D := (dC, dI)) (ci := 9) (v := .ref (a 1)) (C := RX9) (T := TX9) (N := 13) hx hb hts hinX9 hown hK hP 0 rfl rfl 1 (by decide) hw1 (fun _ h9 => h9) rfl dX9_favourite_6 ?_
      refine lv_iconst (v := (0 : Int32)) hx hb dX9_favourite_9 (by decide) ?_
      obtain ⟨hi, hf⟩ := gd_s hf
      refine va_iald (D := (dC, dI)) (f := (M 1)) hx hb hK hP 1 0 rfl rfl (inb_in hi) dX9_favourite_10 ?_
      refine lv_icmp_ge (tgt := 41) hx hb dX9_favourite_11 (by decide) (fun c9 => ?_) (fun c9 => ?_)
      · have hf := it_t hf c9
        exact hkx41 l1 hf _ (lv_sub hl [1] rfl)
      · have hf := it_f hf c9
        refine lv_aload_n hx hb dX9_favourite_14 rfl (lv_at hl 0 rfl) ?_
        refine lv_iload_n hx hb dX9_favourite_15 rfl (lv_at hl 2 rfl) ?_
        refine lv_iconst (v := (3 : Int32)) hx hb dX9_favourite_16 (by decide) ?_
        obtain ⟨r17, hc17, hf⟩ := bi_s hf
        have hPc := hP
        refine cRO (W.runV (As := [.int l2, .int (3 : Int32)]) (rest := []) ⟨hx, hb, hml, hown, hts⟩ (c_X9_of l dC dI cI cZ a M l2 (3 : Int32) r17 hc17) (cwV 2 hts gX9_favourite_X9_of rfl rfl rfl (by decide +kernel) ⟨Nat.le_of_ble_eq_true rfl, Nat.le_of_ble_eq_true rfl⟩) ⟨RO.blind, va_recv hK hP (ci := 9) (q0 := 0) rfl rfl, RO.pre hPc hK hNW⟩ rfl rfl hl.1 rfl (lv_room (Nat.le_of_ble_eq_true rfl)) dX9_favourite_17 ⟨Nat.le_of_ble_eq_true rfl, Nat.le_of_ble_eq_true rfl⟩) ?_
        refine lv_aload_n hx hb dX9_favourite_20 rfl (lv_at hl 0 rfl) ?_
        refine lv_iload_n hx hb dX9_favourite_21 rfl (lv_at hl 1 rfl) ?_
        refine lv_iconst (v := (3 : Int32)) hx hb dX9_favourite_22 (by decide) ?_
        obtain ⟨r23, hc23, hf⟩ := bi_s hf
        have hPc := hP
        refine cRO (W.runV (As := [.int l1, .int (3 : Int32)]) (rest := [.int r17]) ⟨hx, hb, hml, hown, hts⟩ (c_X9_of l dC dI cI cZ a M l1 (3 : Int32) r23 hc23) (cwV 2 hts gX9_favourite_X9_of rfl rfl rfl (by decide +kernel) ⟨Nat.le_of_ble_eq_true rfl, Nat.le_of_ble_eq_true rfl⟩) ⟨RO.blind, va_recv hK hP (ci := 9) (q0 := 0) rfl rfl, RO.pre hPc hK hNW⟩ rfl rfl hl.1 rfl (lv_room (Nat.le_of_ble_eq_true rfl)) dX9_favourite_23 ⟨Nat.le_of_ble_eq_true rfl, Nat.le_of_ble_eq_true rfl⟩) ?_
        refine lv_icmp_le (tgt := 33) hx hb dX9_favourite_26 (by decide) (fun c9 => ?_) (fun c9 => ?_)
        · have hf := it_t hf c9
          refine lv_iload_n hx hb dX9_favourite_33 rfl (lv_at hl 1 rfl) ?_
          exact hfX9_favourite_B34 _ (ih kx41 hkx41) _ hkx41 l2 l1 hf _ (lv_sub hl [0, 2] rfl)
        · have hf := it_f hf c9
          refine lv_iload_n hx hb dX9_favourite_29 rfl (lv_at hl 2 rfl) ?_
          refine lv_goto (tgt := 34) hx hb dX9_favourite_30 (by decide) ?_
          exact hfX9_favourite_B34 _ (ih kx41 hkx41) _ hkx41 l2 l2 hf _ (lv_sub hl [0, 2] rfl)
  have hl := lv_entry ([.ref (a 0)]) (n := 3) (Nat.le_of_ble_eq_true rfl)
  rw [lg_entry_eq]
  generalize (lg_sl ([.ref (a 0)]) ++ List.replicate (3 - (lg_sl ([.ref (a 0)])).length) Slot.unset).toArray = ls at hl ⊢
  have hl : lv_has ls 3 [(0, .ref (a 0))] := hl
  unfold fX9_favourite at hf
  refine lv_iconst (v := (0 : Int32)) hx hb dX9_favourite_0 (by decide) ?_
  refine lv_istore_n (lv' := [(1, .int (0 : Int32)), (0, .ref (a 0))]) hx hb dX9_favourite_1 rfl hl (by decide) rfl (fun ls hl => ?_)
  refine lv_iconst (v := (1 : Int32)) hx hb dX9_favourite_2 (by decide) ?_
  refine lv_istore_n (lv' := [(2, .int (1 : Int32)), (1, .int (0 : Int32)), (0, .ref (a 0))]) hx hb dX9_favourite_3 rfl hl (by decide) rfl (fun ls hl => ?_)
  refine hfX9_favourite_L4 5000 _ (fun l1 hf ls hl => ?_) (0 : Int32) (1 : Int32) hf _ (lv_sub hl [2, 1, 0] rfl)
  refine lv_iload_n hx hb dX9_favourite_41 rfl (lv_at hl 0 rfl) ?_
  exact W.iret (v := l1) hx hb hr (fun t ht hW => ⟨congrArg (fun x => Outcome.returned (some (Value.int x))) (so_e hf), ht⟩) fl0 dX9_favourite_42
set_option maxHeartbeats 4000000 in
set_option maxRecDepth 100000 in
theorem c_X9_mostFetched (l : Launch) (dC : Nat → ClassId) (dI : Nat → Nat → Nat) (cI cZ : ClassId) (a : Nat → Nat) (sz : Nat) (M : Mem) (z : Int32 × Mem) (hf : fX9_mostFetched M  = some z) : Met l yX9_mostFetched wsX9_mostFetched ({ frames := 2, cells := 0, slots := 0, locals := 44 } : Room) (va_Pc [.ref (a 0)] (WR (dC, dI) cI cZ (wX9 cI cZ a M) sz)) (va_Qi (S := Unit) (fun r _ => r = z.1) (fun _ t => WE (dC, dI) cI cZ (wX9 cI cZ a (sr M 0 (z.2 0))) (va_A (wX9 cI cZ a M) sz) t) (va_A (wX9 cI cZ a M) sz)) 0 0 (va_A (wX9 cI cZ a M) sz) := by
  refine Met.ofW (cc := cX9_mostFetched) (maxL := 1) (ret := (some .int)) (by decide) rfl ?_
  intro p e s m args below meth c s₁ B hml hv
  obtain ⟨rfl, hsz, hP, hK, hD0, hNW⟩ := hv
  have hx := B.exec
  have hb := B.bytes
  have hr := B.returns
  have hts := atoms_spec (ws := wsX9_mostFetched) B.pre
  have hown : s.vm.findClass RX9 = some m.cls := findClass_of_methodNamed B.named
  have hlocks := B.notSynchronized
  have hinX9 : ∀ w ∈ u_ws RX9 TX9 13, w ∈ wsX9_mostFetched := by decide +kernel
  have hw1 := hts (.fieldLink RX9 35 "GlideShelvesModel" "thrown" "I") (by decide +kernel)
  have hw2 := hts (.fieldLink RX9 7 "GlideShelvesModel" "s" "[I") (by decide +kernel)
  subst hsz
  have hD := hD0.self (sz := s.heap.size)
  generalize hAe : va_A (wX9 cI cZ a M) s.heap.size = A at hD ⊢
  have hA : ∀ q : Nat, s.heap.size ≤ q → A q := fun q h => by rw [← hAe]; exact Or.inr h
  have hS : va_S A s.heap s.heap [] := va_S.rf
  have hfX9_mostFetched_B26 : ∀ (N : Mem) (s0 : Int32), fX9_mostFetched_B26 M  N s0 = some z → ∀ (ls : Array Slot), lv_has ls 1 [] → ∀ (H : Heap) (locs : List Loc), va_P (dC, dI) vwCl (wX9 cI cZ a (sr M 0 (N 0))) H → va_D A (wX9 cI cZ a (sr M 0 (N 0))) → va_S A s.heap H locs → W p l e (headSpec wsX9_mostFetched ({ frames := 2, cells := 0, slots := 0, locals := 44 } : Room)).room s m ([.ref (a 0)] : List Value).toArray below meth c H locs 0 0 (MQ below (va_Qi (S := Unit) (fun r _ => r = z.1) (fun _ t => WE (dC, dI) cI cZ (wX9 cI cZ a (sr M 0 (z.2 0))) A t) A) ([.ref (a 0)] : List Value).toArray s 0 0 A) (F0 m 26 ls [.int s0]) := by
    intro  N s0 hf ls hl H locs hP hD hS
    unfold fX9_mostFetched_B26 at hf
    have e9 := so_e hf
    subst e9
    exact W.iret (v := s0) hx hb hr (fun t ht hW => ⟨⟨s0, (), rfl, rfl, WE.mk hP hD ht⟩, hS.F ht⟩) hS.2.2 dX9_mostFetched_26
  have hl := lv_entry ([.ref (a 0)]) (n := 1) (Nat.le_of_ble_eq_true rfl)
  rw [lg_entry_eq]
  generalize (lg_sl ([.ref (a 0)]) ++ List.replicate (1 - (lg_sl ([.ref (a 0)])).length) Slot.unset).toArray = ls at hl ⊢
  have hl : lv_has ls 1 [(0, .ref (a 0))] := hl
  unfold fX9_mostFetched at hf
  suffices hgo : ∀ (H : Heap) (locs : List Loc), va_P (dC, dI) vwCl (wX9 cI cZ a M) H → va_D A (wX9 cI cZ a M) → va_S A s.heap H locs → W p l e (headSpec wsX9_mostFetched ({ frames := 2, cells := 0, slots := 0, locals := 44 } : Room)).room s m ([.ref (a 0)] : List Value).toArray below meth c H locs 0 0 (MQ below (va_Qi (S := Unit) (fun r _ => r = z.1) (fun _ t => WE (dC, dI) cI cZ (wX9 cI cZ a (sr M 0 (z.2 0))) A t) A) ([.ref (a 0)] : List Value).toArray s 0 0 A) (F0 m 0 ls []) from hgo _ _ hP hD hS
  intro H locs hP hD hS
  refine lv_aload_n hx hb dX9_mostFetched_0 rfl (lv_at hl 0 rfl) ?_
  refine lv_iconst (v := (0 : Int32)) hx hb dX9_mostFetched_1 (by decide) ?_
  refine va_put (D := (dC, dI)) (ci := 9) (v := .int (0 : Int32)) (ty := .int) (C := RX9) (T := TX9) (N := 13) hx hb hts hinX9 tyX9 tyX9_ok nmX9 hown hK hP hD hS 0 rfl rfl 0 (by decide) hw1 (fun _ h9 => h9) rfl (by decide +kernel) rfl rfl (Nat.le_of_ble_eq_true rfl) dX9_mostFetched_2 (fun H locs hP hD hS => ?_)
  have hP : va_P (dC, dI) vwCl (wX9 cI cZ a (sr M 0 (upd (M 0) 0 (0 : Int32)))) H := hP
  have hD : va_D A (wX9 cI cZ a (sr M 0 (upd (M 0) 0 (0 : Int32)))) := hD
  refine lv_aload_n hx hb dX9_mostFetched_5 rfl (lv_at hl 0 rfl) ?_
  refine va_get (D := (dC, dI)) (ci := 9) (v := .ref (a 1)) (C := RX9) (T := TX9) (N := 13) hx hb hts hinX9 hown hK hP 0 rfl rfl 1 (by decide) hw2 (fun _ h9 => h9) rfl dX9_mostFetched_6 ?_
  refine lv_iconst (v := (0 : Int32)) hx hb dX9_mostFetched_9 (by decide) ?_
  obtain ⟨hi, hf⟩ := gd_s hf
  refine va_iald (D := (dC, dI)) (f := (M 1)) hx hb hK hP 1 0 rfl rfl (inb_in hi) dX9_mostFetched_10 ?_
  refine lv_if_ne (tgt := 22) hx hb dX9_mostFetched_11 (by decide) (fun c9 => ?_) (fun c9 => ?_)
  · have hf := it_t hf c9
    refine lv_aload_n hx hb dX9_mostFetched_22 rfl (lv_at hl 0 rfl) ?_
    obtain ⟨r23, hc23, hf⟩ := bi_s hf
    have hPc := hP
    refine cRO (W.runV (As := []) (rest := []) ⟨hx, hb, hml, hown, hts⟩ (c_X9_favourite l dC dI cI cZ a (sr M 0 (upd (M 0) 0 (0 : Int32))) r23 hc23) (cwV 0 hts gX9_mostFetched_X9_favourite rfl rfl rfl (by decide +kernel) ⟨Nat.le_of_ble_eq_true rfl, Nat.le_of_ble_eq_true rfl⟩) ⟨RO.blind, va_recv hK hP (ci := 9) (q0 := 0) rfl rfl, RO.pre hPc hK hNW⟩ rfl rfl hl.1 rfl (lv_room (Nat.le_of_ble_eq_true rfl)) dX9_mostFetched_23 ⟨Nat.le_of_ble_eq_true rfl, Nat.le_of_ble_eq_true rfl⟩) ?_
    exact hfX9_mostFetched_B26  (sr M 0 (upd (M 0) 0 (0 : Int32))) r23 hf _ (lv_sub hl [] rfl) _ _ hP hD hS
  · have hf := it_n hf c9
    refine lv_aload_n hx hb dX9_mostFetched_14 rfl (lv_at hl 0 rfl) ?_
    refine lv_iconst (v := (1 : Int32)) hx hb dX9_mostFetched_15 (by decide) ?_
    obtain ⟨r16, hc16, hf⟩ := bi_s hf
    have hPc := hP
    have hDc := hD
    have hFc := va_free (wc := (wX9 cI cZ a (sr M 0 (upd (M 0) 0 (0 : Int32))))) hD hS hA [0, 1, 2, 3, 4, 5, 6, 7, 8] rfl
    refine va_calli (va_runV (As := [.int (1 : Int32)]) (rest := []) ⟨hx, hb, hml, hown, hts⟩ (c_X9_fails l dC dI cI cZ a H.size (sr M 0 (upd (M 0) 0 (0 : Int32))) (1 : Int32) r16 hc16) (cwV 1 hts gX9_mostFetched_X9_fails rfl rfl rfl (by decide +kernel) ⟨Nat.le_of_ble_eq_true rfl, Nat.le_of_ble_eq_true rfl⟩) ⟨WR.blind, va_recv hK hP (ci := 9) (q0 := 0) rfl rfl, WR.pre hPc hK hDc hNW⟩ rfl rfl hl.1 rfl (lv_room (Nat.le_of_ble_eq_true rfl)) dX9_mostFetched_16 ⟨Nat.le_of_ble_eq_true rfl, Nat.le_of_ble_eq_true rfl⟩) hS (fun q _ h => hFc q h) hFc (fun rv u t H1 locs ht hvm hw hB hz1 hk1 hS => ?_)
    obtain ⟨hP1, hD1⟩ := hB
    rw [ht] at hP1
    subst hw
    have hP := hP1
    have hD := hD1.weaken (fun k q _ h => hFc q.1 h)
    have hP : va_P (dC, dI) vwCl (wX9 cI cZ a (sr M 0 (r16.2 0))) H1 := hP
    have hD : va_D A (wX9 cI cZ a (sr M 0 (r16.2 0))) := hD
    generalize H1 = H at hP hS ⊢
    refine lv_goto (tgt := 26) hx hb dX9_mostFetched_19 (by decide) ?_
    exact hfX9_mostFetched_B26  (sr M 0 (r16.2 0)) r16.1 hf _ (lv_sub hl [] rfl) _ _ hP hD hS
set_option maxHeartbeats 4000000 in
set_option maxRecDepth 100000 in
theorem c_X9_waysSum (l : Launch) (dC : Nat → ClassId) (dI : Nat → Nat → Nat) (cI cZ : ClassId) (a : Nat → Nat) (M : Mem) (z : Int32) (hf : fX9_waysSum M  = some z) : Met l yX9_waysSum wsX9_waysSum ({ frames := 2, cells := 0, slots := 0, locals := 43 } : Room) (va_Pc [.ref (a 0)] (RO (dC, dI) cI cZ (wX9 cI cZ a M))) (k2_QcV (.int z)) 0 0 (fun _ => False) := by
  refine Met.ofW (cc := cX9_waysSum) (maxL := 3) (ret := (some .int)) (by decide) rfl ?_
  intro p e s m args below meth c s₁ B hml hv
  obtain ⟨rfl, hP, hK, hNW⟩ := hv
  have hx := B.exec
  have hb := B.bytes
  have hr := B.returns
  have hts := atoms_spec (ws := wsX9_waysSum) B.pre
  have hown : s.vm.findClass RX9 = some m.cls := findClass_of_methodNamed B.named
  have hlocks := B.notSynchronized
  have hinX9 : ∀ w ∈ u_ws RX9 TX9 13, w ∈ wsX9_waysSum := by decide +kernel
  have hw1 := hts (.fieldLink RX9 7 "GlideShelvesModel" "s" "[I") (by decide +kernel)
  have hfX9_waysSum_L4 : ∀ (n : Nat) (kx35 : Int32 → Option (Int32)) (hkx35 : ∀ (l1 : Int32), kx35 l1 = some z → ∀ (ls : Array Slot), lv_has ls 3 [(1, .int l1)] → W p l e (headSpec wsX9_waysSum ({ frames := 2, cells := 0, slots := 0, locals := 43 } : Room)).room s m ([.ref (a 0)] : List Value).toArray below meth c s.heap [] 0 0 (MQ below (k2_QcV (.int z)) ([.ref (a 0)] : List Value).toArray s 0 0 (fun _ => False)) (F0 m 35 ls [])), ∀ (l1 : Int32) (l2 : Int32), fX9_waysSum_L4 M n kx35 l1 l2 = some z → ∀ (ls : Array Slot), lv_has ls 3 [(0, .ref (a 0)), (1, .int l1), (2, .int l2)] → W p l e (headSpec wsX9_waysSum ({ frames := 2, cells := 0, slots := 0, locals := 43 } : Room)).room s m ([.ref (a 0)] : List Value).toArray below meth c s.heap [] 0 0 (MQ below (k2_QcV (.int z)) ([.ref (a 0)] : List Value).toArray s 0 0 (fun _ => False)) (F0 m 4 ls []) := by
    intro n
    induction n with
    | zero =>
      intro kx35 hkx35 l1 l2 hf ls hl
      rw [fX9_waysSum_L4] at hf
      cases hf
    | succ n ih =>
      intro kx35 hkx35 l1 l2 hf ls hl
      rw [fX9_waysSum_L4] at hf
      refine lv_iload_n hx hb dX9_waysSum_4 rfl (lv_at hl 2 rfl) ?_
      refine lv_aload_n hx hb dX9_waysSum_5 rfl (lv_at hl 0 rfl) ?_
      refine va_get (D := (dC, dI)) (ci := 9) (v := .ref (a 1)) (C := RX9) (T := TX9) (N := 13) hx hb hts hinX9 hown hK hP 0 rfl rfl 1 (by decide) hw1 (fun _ h9 => h9) rfl dX9_waysSum_6 ?_
      refine lv_iconst (v := (0 : Int32)) hx hb dX9_waysSum_9 (by decide) ?_
      obtain ⟨hi, hf⟩ := gd_s hf
      refine va_iald (D := (dC, dI)) (f := (M 1)) hx hb hK hP 1 0 rfl rfl (inb_in hi) dX9_waysSum_10 ?_
      refine lv_icmp_ge (tgt := 35) hx hb dX9_waysSum_11 (by decide) (fun c9 => ?_) (fun c9 => ?_)
      · have hf := it_t hf c9
        exact hkx35 l1 hf _ (lv_sub hl [1] rfl)
      · have hf := it_f hf c9
        refine lv_iload_n hx hb dX9_waysSum_14 rfl (lv_at hl 1 rfl) ?_
        refine lv_aload_n hx hb dX9_waysSum_15 rfl (lv_at hl 0 rfl) ?_
        refine lv_iload_n hx hb dX9_waysSum_16 rfl (lv_at hl 2 rfl) ?_
        refine lv_iconst (v := (3 : Int32)) hx hb dX9_waysSum_17 (by decide) ?_
        obtain ⟨r18, hc18, hf⟩ := bi_s hf
        have hPc := hP
        refine cRO (W.runV (As := [.int l2, .int (3 : Int32)]) (rest := [.int l1]) ⟨hx, hb, hml, hown, hts⟩ (c_X9_of l dC dI cI cZ a M l2 (3 : Int32) r18 hc18) (cwV 2 hts gX9_waysSum_X9_of rfl rfl rfl (by decide +kernel) ⟨Nat.le_of_ble_eq_true rfl, Nat.le_of_ble_eq_true rfl⟩) ⟨RO.blind, va_recv hK hP (ci := 9) (q0 := 0) rfl rfl, RO.pre hPc hK hNW⟩ rfl rfl hl.1 rfl (lv_room (Nat.le_of_ble_eq_true rfl)) dX9_waysSum_18 ⟨Nat.le_of_ble_eq_true rfl, Nat.le_of_ble_eq_true rfl⟩) ?_
        refine lv_aload_n hx hb dX9_waysSum_21 rfl (lv_at hl 0 rfl) ?_
        refine lv_iload_n hx hb dX9_waysSum_22 rfl (lv_at hl 2 rfl) ?_
        obtain ⟨r23, hc23, hf⟩ := bi_s hf
        have hPc := hP
        refine cRO (W.runV (As := [.int l2]) (rest := [.int r18, .int l1]) ⟨hx, hb, hml, hown, hts⟩ (c_X9_way l dC dI cI cZ a M l2 r23 hc23) (cwV 1 hts gX9_waysSum_X9_way rfl rfl rfl (by decide +kernel) ⟨Nat.le_of_ble_eq_true rfl, Nat.le_of_ble_eq_true rfl⟩) ⟨RO.blind, va_recv hK hP (ci := 9) (q0 := 0) rfl rfl, RO.pre hPc hK hNW⟩ rfl rfl hl.1 rfl (lv_room (Nat.le_of_ble_eq_true rfl)) dX9_waysSum_23 ⟨Nat.le_of_ble_eq_true rfl, Nat.le_of_ble_eq_true rfl⟩) ?_
        refine lv_imul hx hb dX9_waysSum_26 ?_
        refine lv_iadd hx hb dX9_waysSum_27 ?_
        refine lv_istore_n (lv' := [(1, .int (l1 + (r18 * r23))), (0, .ref (a 0)), (2, .int l2)]) hx hb dX9_waysSum_28 rfl hl (by decide) rfl (fun ls hl => ?_)
        refine lv_iinc (v := (l2 + (1 : Int32))) (lv' := [(2, .int (l2 + (1 : Int32))), (1, .int (l1 + (r18 * r23))), (0, .ref (a 0))]) hx hb dX9_waysSum_29 hl (k := 2) rfl rfl (by decide) rfl (fun ls hl => ?_)
        refine lv_goto (tgt := 4) hx hb dX9_waysSum_32 (by decide) ?_
        exact ih kx35 hkx35 (l1 + (r18 * r23)) (l2 + (1 : Int32)) hf _ (lv_sub hl [2, 1, 0] rfl)
  have hl := lv_entry ([.ref (a 0)]) (n := 3) (Nat.le_of_ble_eq_true rfl)
  rw [lg_entry_eq]
  generalize (lg_sl ([.ref (a 0)]) ++ List.replicate (3 - (lg_sl ([.ref (a 0)])).length) Slot.unset).toArray = ls at hl ⊢
  have hl : lv_has ls 3 [(0, .ref (a 0))] := hl
  unfold fX9_waysSum at hf
  refine lv_iconst (v := (0 : Int32)) hx hb dX9_waysSum_0 (by decide) ?_
  refine lv_istore_n (lv' := [(1, .int (0 : Int32)), (0, .ref (a 0))]) hx hb dX9_waysSum_1 rfl hl (by decide) rfl (fun ls hl => ?_)
  refine lv_iconst (v := (0 : Int32)) hx hb dX9_waysSum_2 (by decide) ?_
  refine lv_istore_n (lv' := [(2, .int (0 : Int32)), (1, .int (0 : Int32)), (0, .ref (a 0))]) hx hb dX9_waysSum_3 rfl hl (by decide) rfl (fun ls hl => ?_)
  refine hfX9_waysSum_L4 5000 _ (fun l1 hf ls hl => ?_) (0 : Int32) (0 : Int32) hf _ (lv_sub hl [2, 1, 0] rfl)
  refine lv_iload_n hx hb dX9_waysSum_35 rfl (lv_at hl 0 rfl) ?_
  exact W.iret (v := l1) hx hb hr (fun t ht hW => ⟨congrArg (fun x => Outcome.returned (some (Value.int x))) (so_e hf), ht⟩) fl0 dX9_waysSum_36
set_option maxHeartbeats 4000000 in
set_option maxRecDepth 100000 in
theorem c_X9_usedWays (l : Launch) (dC : Nat → ClassId) (dI : Nat → Nat → Nat) (cI cZ : ClassId) (a : Nat → Nat) (sz : Nat) (M : Mem) (z : Int32 × Mem) (hf : fX9_usedWays M  = some z) : Met l yX9_usedWays wsX9_usedWays ({ frames := 3, cells := 0, slots := 0, locals := 65 } : Room) (va_Pc [.ref (a 0)] (WR (dC, dI) cI cZ (wX9 cI cZ a M) sz)) (va_Qi (S := Unit) (fun r _ => r = z.1) (fun _ t => WE (dC, dI) cI cZ (wX9 cI cZ a (sr M 0 (z.2 0))) (va_A (wX9 cI cZ a M) sz) t) (va_A (wX9 cI cZ a M) sz)) 0 0 (va_A (wX9 cI cZ a M) sz) := by
  refine Met.ofW (cc := cX9_usedWays) (maxL := 1) (ret := (some .int)) (by decide) rfl ?_
  intro p e s m args below meth c s₁ B hml hv
  obtain ⟨rfl, hsz, hP, hK, hD0, hNW⟩ := hv
  have hx := B.exec
  have hb := B.bytes
  have hr := B.returns
  have hts := atoms_spec (ws := wsX9_usedWays) B.pre
  have hown : s.vm.findClass RX9 = some m.cls := findClass_of_methodNamed B.named
  have hlocks := B.notSynchronized
  have hinX9 : ∀ w ∈ u_ws RX9 TX9 13, w ∈ wsX9_usedWays := by decide +kernel
  have hw1 := hts (.fieldLink RX9 35 "GlideShelvesModel" "thrown" "I") (by decide +kernel)
  subst hsz
  have hD := hD0.self (sz := s.heap.size)
  generalize hAe : va_A (wX9 cI cZ a M) s.heap.size = A at hD ⊢
  have hA : ∀ q : Nat, s.heap.size ≤ q → A q := fun q h => by rw [← hAe]; exact Or.inr h
  have hS : va_S A s.heap s.heap [] := va_S.rf
  have hl := lv_entry ([.ref (a 0)]) (n := 1) (Nat.le_of_ble_eq_true rfl)
  rw [lg_entry_eq]
  generalize (lg_sl ([.ref (a 0)]) ++ List.replicate (1 - (lg_sl ([.ref (a 0)])).length) Slot.unset).toArray = ls at hl ⊢
  have hl : lv_has ls 1 [(0, .ref (a 0))] := hl
  unfold fX9_usedWays at hf
  suffices hgo : ∀ (H : Heap) (locs : List Loc), va_P (dC, dI) vwCl (wX9 cI cZ a M) H → va_D A (wX9 cI cZ a M) → va_S A s.heap H locs → W p l e (headSpec wsX9_usedWays ({ frames := 3, cells := 0, slots := 0, locals := 65 } : Room)).room s m ([.ref (a 0)] : List Value).toArray below meth c H locs 0 0 (MQ below (va_Qi (S := Unit) (fun r _ => r = z.1) (fun _ t => WE (dC, dI) cI cZ (wX9 cI cZ a (sr M 0 (z.2 0))) A t) A) ([.ref (a 0)] : List Value).toArray s 0 0 A) (F0 m 0 ls []) from hgo _ _ hP hD hS
  intro H locs hP hD hS
  refine lv_aload_n hx hb dX9_usedWays_0 rfl (lv_at hl 0 rfl) ?_
  refine lv_iconst (v := (0 : Int32)) hx hb dX9_usedWays_1 (by decide) ?_
  refine va_put (D := (dC, dI)) (ci := 9) (v := .int (0 : Int32)) (ty := .int) (C := RX9) (T := TX9) (N := 13) hx hb hts hinX9 tyX9 tyX9_ok nmX9 hown hK hP hD hS 0 rfl rfl 0 (by decide) hw1 (fun _ h9 => h9) rfl (by decide +kernel) rfl rfl (Nat.le_of_ble_eq_true rfl) dX9_usedWays_2 (fun H locs hP hD hS => ?_)
  have hP : va_P (dC, dI) vwCl (wX9 cI cZ a (sr M 0 (upd (M 0) 0 (0 : Int32)))) H := hP
  have hD : va_D A (wX9 cI cZ a (sr M 0 (upd (M 0) 0 (0 : Int32)))) := hD
  refine lv_aload_n hx hb dX9_usedWays_5 rfl (lv_at hl 0 rfl) ?_
  obtain ⟨r6, hc6, hf⟩ := bi_s hf
  have hPc := hP
  refine cRO (W.runV (As := []) (rest := []) ⟨hx, hb, hml, hown, hts⟩ (c_X9_waysSum l dC dI cI cZ a (sr M 0 (upd (M 0) 0 (0 : Int32))) r6 hc6) (cwV 0 hts gX9_usedWays_X9_waysSum rfl rfl rfl (by decide +kernel) ⟨Nat.le_of_ble_eq_true rfl, Nat.le_of_ble_eq_true rfl⟩) ⟨RO.blind, va_recv hK hP (ci := 9) (q0 := 0) rfl rfl, RO.pre hPc hK hNW⟩ rfl rfl hl.1 rfl (lv_room (Nat.le_of_ble_eq_true rfl)) dX9_usedWays_6 ⟨Nat.le_of_ble_eq_true rfl, Nat.le_of_ble_eq_true rfl⟩) ?_
  have e9 := so_e hf
  subst e9
  exact W.iret (v := r6) hx hb hr (fun t ht hW => ⟨⟨r6, (), rfl, rfl, WE.mk hP hD ht⟩, hS.F ht⟩) hS.2.2 dX9_usedWays_9
set_option maxHeartbeats 4000000 in
set_option maxRecDepth 100000 in
theorem c_X9_meanByUse (l : Launch) (dC : Nat → ClassId) (dI : Nat → Nat → Nat) (cI cZ : ClassId) (a : Nat → Nat) (M : Mem) (z : UInt64) (hf : fX9_meanByUse M  = some z) : Met l yX9_meanByUse wsX9_meanByUse ({ frames := 3, cells := 0, slots := 0, locals := 65 } : Room) (va_Pc [.ref (a 0)] (RO (dC, dI) cI cZ (wX9 cI cZ a M))) (k2_QcV (.double z)) 0 0 (fun _ => False) := by
  refine Met.ofW (cc := cX9_meanByUse) (maxL := 3) (ret := (some .double)) (by decide) rfl ?_
  intro p e s m args below meth c s₁ B hml hv
  obtain ⟨rfl, hP, hK, hNW⟩ := hv
  have hx := B.exec
  have hb := B.bytes
  have hr := B.returns
  have hts := atoms_spec (ws := wsX9_meanByUse) B.pre
  have hown : s.vm.findClass RX9 = some m.cls := findClass_of_methodNamed B.named
  have hlocks := B.notSynchronized
  have hinX9 : ∀ w ∈ u_ws RX9 TX9 13, w ∈ wsX9_meanByUse := by decide +kernel
  have hw1 := hts (.fieldLink RX9 7 "GlideShelvesModel" "s" "[I") (by decide +kernel)
  have hfX9_meanByUse_L4 : ∀ (n : Nat) (kx29 : Int32 → Option (UInt64)) (hkx29 : ∀ (l1 : Int32), kx29 l1 = some z → ∀ (ls : Array Slot), lv_has ls 3 [(0, .ref (a 0)), (1, .int l1)] → W p l e (headSpec wsX9_meanByUse ({ frames := 3, cells := 0, slots := 0, locals := 65 } : Room)).room s m ([.ref (a 0)] : List Value).toArray below meth c s.heap [] 0 0 (MQ below (k2_QcV (.double z)) ([.ref (a 0)] : List Value).toArray s 0 0 (fun _ => False)) (F0 m 29 ls [])), ∀ (l1 : Int32) (l2 : Int32), fX9_meanByUse_L4 M n kx29 l1 l2 = some z → ∀ (ls : Array Slot), lv_has ls 3 [(0, .ref (a 0)), (1, .int l1), (2, .int l2)] → W p l e (headSpec wsX9_meanByUse ({ frames := 3, cells := 0, slots := 0, locals := 65 } : Room)).room s m ([.ref (a 0)] : List Value).toArray below meth c s.heap [] 0 0 (MQ below (k2_QcV (.double z)) ([.ref (a 0)] : List Value).toArray s 0 0 (fun _ => False)) (F0 m 4 ls []) := by
    intro n
    induction n with
    | zero =>
      intro kx29 hkx29 l1 l2 hf ls hl
      rw [fX9_meanByUse_L4] at hf
      cases hf
    | succ n ih =>
      intro kx29 hkx29 l1 l2 hf ls hl
      rw [fX9_meanByUse_L4] at hf
      refine lv_iload_n hx hb dX9_meanByUse_4 rfl (lv_at hl 2 rfl) ?_
      refine lv_aload_n hx hb dX9_meanByUse_5 rfl (lv_at hl 0 rfl) ?_
      refine va_get (D := (dC, dI)) (ci := 9) (v := .ref (a 1)) (C := RX9) (T := TX9) (N := 13) hx hb hts hinX9 hown hK hP 0 rfl rfl 1 (by decide) hw1 (fun _ h9 => h9) rfl dX9_meanByUse_6 ?_
      refine lv_iconst (v := (0 : Int32)) hx hb dX9_meanByUse_9 (by decide) ?_
      obtain ⟨hi, hf⟩ := gd_s hf
      refine va_iald (D := (dC, dI)) (f := (M 1)) hx hb hK hP 1 0 rfl rfl (inb_in hi) dX9_meanByUse_10 ?_
      refine lv_icmp_ge (tgt := 29) hx hb dX9_meanByUse_11 (by decide) (fun c9 => ?_) (fun c9 => ?_)
      · have hf := it_t hf c9
        exact hkx29 l1 hf _ (lv_sub hl [0, 1] rfl)
      · have hf := it_f hf c9
        refine lv_iload_n hx hb dX9_meanByUse_14 rfl (lv_at hl 1 rfl) ?_
        refine lv_aload_n hx hb dX9_meanByUse_15 rfl (lv_at hl 0 rfl) ?_
        refine lv_iload_n hx hb dX9_meanByUse_16 rfl (lv_at hl 2 rfl) ?_
        refine lv_iconst (v := (3 : Int32)) hx hb dX9_meanByUse_17 (by decide) ?_
        obtain ⟨r18, hc18, hf⟩ := bi_s hf
        have hPc := hP
        refine cRO (W.runV (As := [.int l2, .int (3 : Int32)]) (rest := [.int l1]) ⟨hx, hb, hml, hown, hts⟩ (c_X9_of l dC dI cI cZ a M l2 (3 : Int32) r18 hc18) (cwV 2 hts gX9_meanByUse_X9_of rfl rfl rfl (by decide +kernel) ⟨Nat.le_of_ble_eq_true rfl, Nat.le_of_ble_eq_true rfl⟩) ⟨RO.blind, va_recv hK hP (ci := 9) (q0 := 0) rfl rfl, RO.pre hPc hK hNW⟩ rfl rfl hl.1 rfl (lv_room (Nat.le_of_ble_eq_true rfl)) dX9_meanByUse_18 ⟨Nat.le_of_ble_eq_true rfl, Nat.le_of_ble_eq_true rfl⟩) ?_
        refine lv_iadd hx hb dX9_meanByUse_21 ?_
        refine lv_istore_n (lv' := [(1, .int (l1 + r18)), (0, .ref (a 0)), (2, .int l2)]) hx hb dX9_meanByUse_22 rfl hl (by decide) rfl (fun ls hl => ?_)
        refine lv_iinc (v := (l2 + (1 : Int32))) (lv' := [(2, .int (l2 + (1 : Int32))), (1, .int (l1 + r18)), (0, .ref (a 0))]) hx hb dX9_meanByUse_23 hl (k := 2) rfl rfl (by decide) rfl (fun ls hl => ?_)
        refine lv_goto (tgt := 4) hx hb dX9_meanByUse_26 (by decide) ?_
        exact ih kx29 hkx29 (l1 + r18) (l2 + (1 : Int32)) hf _ (lv_sub hl [2, 1, 0] rfl)
  have hfX9_meanByUse_B45 : ∀ (s0 : UInt64), fX9_meanByUse_B45 M  s0 = some z → ∀ (ls : Array Slot), lv_has ls 3 [] → W p l e (headSpec wsX9_meanByUse ({ frames := 3, cells := 0, slots := 0, locals := 65 } : Room)).room s m ([.ref (a 0)] : List Value).toArray below meth c s.heap [] 0 0 (MQ below (k2_QcV (.double z)) ([.ref (a 0)] : List Value).toArray s 0 0 (fun _ => False)) (F0 m 45 ls [.double s0]) := by
    intro  s0 hf ls hl
    unfold fX9_meanByUse_B45 at hf
    exact W.dret (v := s0) hx hb hr (fun t ht hW => ⟨congrArg (fun x => Outcome.returned (some (Value.double x))) (so_e hf), ht⟩) fl0 dX9_meanByUse_45
  have hl := lv_entry ([.ref (a 0)]) (n := 3) (Nat.le_of_ble_eq_true rfl)
  rw [lg_entry_eq]
  generalize (lg_sl ([.ref (a 0)]) ++ List.replicate (3 - (lg_sl ([.ref (a 0)])).length) Slot.unset).toArray = ls at hl ⊢
  have hl : lv_has ls 3 [(0, .ref (a 0))] := hl
  unfold fX9_meanByUse at hf
  refine lv_iconst (v := (0 : Int32)) hx hb dX9_meanByUse_0 (by decide) ?_
  refine lv_istore_n (lv' := [(1, .int (0 : Int32)), (0, .ref (a 0))]) hx hb dX9_meanByUse_1 rfl hl (by decide) rfl (fun ls hl => ?_)
  refine lv_iconst (v := (0 : Int32)) hx hb dX9_meanByUse_2 (by decide) ?_
  refine lv_istore_n (lv' := [(2, .int (0 : Int32)), (1, .int (0 : Int32)), (0, .ref (a 0))]) hx hb dX9_meanByUse_3 rfl hl (by decide) rfl (fun ls hl => ?_)
  refine hfX9_meanByUse_L4 5000 _ (fun l1 hf ls hl => ?_) (0 : Int32) (0 : Int32) hf _ (lv_sub hl [2, 1, 0] rfl)
  refine lv_iload_n hx hb dX9_meanByUse_29 rfl (lv_at hl 1 rfl) ?_
  refine lv_if_ne (tgt := 37) hx hb dX9_meanByUse_30 (by decide) (fun c9 => ?_) (fun c9 => ?_)
  · have hf := it_t hf c9
    refine lv_aload_n hx hb dX9_meanByUse_37 rfl (lv_at hl 0 rfl) ?_
    obtain ⟨r38, hc38, hf⟩ := bi_s hf
    have hPc := hP
    refine cRO (W.runV (As := []) (rest := []) ⟨hx, hb, hml, hown, hts⟩ (c_X9_waysSum l dC dI cI cZ a M r38 hc38) (cwV 0 hts gX9_meanByUse_X9_waysSum rfl rfl rfl (by decide +kernel) ⟨Nat.le_of_ble_eq_true rfl, Nat.le_of_ble_eq_true rfl⟩) ⟨RO.blind, va_recv hK hP (ci := 9) (q0 := 0) rfl rfl, RO.pre hPc hK hNW⟩ rfl rfl hl.1 rfl (lv_room (Nat.le_of_ble_eq_true rfl)) dX9_meanByUse_38 ⟨Nat.le_of_ble_eq_true rfl, Nat.le_of_ble_eq_true rfl⟩) ?_
    refine lv_i2d hx hb dX9_meanByUse_41 ?_
    refine lv_iload_n hx hb dX9_meanByUse_42 rfl (lv_at hl 1 rfl) ?_
    refine lv_i2d hx hb dX9_meanByUse_43 ?_
    obtain ⟨hi, hf⟩ := gd_s hf
    refine lv_ddiv hx hb dX9_meanByUse_44 (nnb_s hi) ?_
    exact hfX9_meanByUse_B45  (FP.ddiv (FP.i2d r38) (FP.i2d l1)) hf _ (lv_sub hl [] rfl)
  · have hf := it_n hf c9
    refine lv_dconst0 hx hb dX9_meanByUse_33 ?_
    refine lv_goto (tgt := 45) hx hb dX9_meanByUse_34 (by decide) ?_
    exact hfX9_meanByUse_B45  FP.dconst0 hf _ (lv_sub hl [] rfl)
set_option maxHeartbeats 4000000 in
set_option maxRecDepth 100000 in
theorem c_X9_meanWay (l : Launch) (dC : Nat → ClassId) (dI : Nat → Nat → Nat) (cI cZ : ClassId) (a : Nat → Nat) (sz : Nat) (M : Mem) (z : UInt64 × Mem) (hf : fX9_meanWay M  = some z) : Met l yX9_meanWay wsX9_meanWay ({ frames := 4, cells := 0, slots := 0, locals := 87 } : Room) (va_Pc [.ref (a 0)] (WR (dC, dI) cI cZ (wX9 cI cZ a M) sz)) (va_Qd (S := Unit) (fun r _ => r = z.1) (fun _ t => WE (dC, dI) cI cZ (wX9 cI cZ a (sr M 0 (z.2 0))) (va_A (wX9 cI cZ a M) sz) t) (va_A (wX9 cI cZ a M) sz)) 0 0 (va_A (wX9 cI cZ a M) sz) := by
  refine Met.ofW (cc := cX9_meanWay) (maxL := 1) (ret := (some .double)) (by decide) rfl ?_
  intro p e s m args below meth c s₁ B hml hv
  obtain ⟨rfl, hsz, hP, hK, hD0, hNW⟩ := hv
  have hx := B.exec
  have hb := B.bytes
  have hr := B.returns
  have hts := atoms_spec (ws := wsX9_meanWay) B.pre
  have hown : s.vm.findClass RX9 = some m.cls := findClass_of_methodNamed B.named
  have hlocks := B.notSynchronized
  have hinX9 : ∀ w ∈ u_ws RX9 TX9 13, w ∈ wsX9_meanWay := by decide +kernel
  have hw1 := hts (.fieldLink RX9 35 "GlideShelvesModel" "thrown" "I") (by decide +kernel)
  subst hsz
  have hD := hD0.self (sz := s.heap.size)
  generalize hAe : va_A (wX9 cI cZ a M) s.heap.size = A at hD ⊢
  have hA : ∀ q : Nat, s.heap.size ≤ q → A q := fun q h => by rw [← hAe]; exact Or.inr h
  have hS : va_S A s.heap s.heap [] := va_S.rf
  have hl := lv_entry ([.ref (a 0)]) (n := 1) (Nat.le_of_ble_eq_true rfl)
  rw [lg_entry_eq]
  generalize (lg_sl ([.ref (a 0)]) ++ List.replicate (1 - (lg_sl ([.ref (a 0)])).length) Slot.unset).toArray = ls at hl ⊢
  have hl : lv_has ls 1 [(0, .ref (a 0))] := hl
  unfold fX9_meanWay at hf
  suffices hgo : ∀ (H : Heap) (locs : List Loc), va_P (dC, dI) vwCl (wX9 cI cZ a M) H → va_D A (wX9 cI cZ a M) → va_S A s.heap H locs → W p l e (headSpec wsX9_meanWay ({ frames := 4, cells := 0, slots := 0, locals := 87 } : Room)).room s m ([.ref (a 0)] : List Value).toArray below meth c H locs 0 0 (MQ below (va_Qd (S := Unit) (fun r _ => r = z.1) (fun _ t => WE (dC, dI) cI cZ (wX9 cI cZ a (sr M 0 (z.2 0))) A t) A) ([.ref (a 0)] : List Value).toArray s 0 0 A) (F0 m 0 ls []) from hgo _ _ hP hD hS
  intro H locs hP hD hS
  refine lv_aload_n hx hb dX9_meanWay_0 rfl (lv_at hl 0 rfl) ?_
  refine lv_iconst (v := (0 : Int32)) hx hb dX9_meanWay_1 (by decide) ?_
  refine va_put (D := (dC, dI)) (ci := 9) (v := .int (0 : Int32)) (ty := .int) (C := RX9) (T := TX9) (N := 13) hx hb hts hinX9 tyX9 tyX9_ok nmX9 hown hK hP hD hS 0 rfl rfl 0 (by decide) hw1 (fun _ h9 => h9) rfl (by decide +kernel) rfl rfl (Nat.le_of_ble_eq_true rfl) dX9_meanWay_2 (fun H locs hP hD hS => ?_)
  have hP : va_P (dC, dI) vwCl (wX9 cI cZ a (sr M 0 (upd (M 0) 0 (0 : Int32)))) H := hP
  have hD : va_D A (wX9 cI cZ a (sr M 0 (upd (M 0) 0 (0 : Int32)))) := hD
  refine lv_aload_n hx hb dX9_meanWay_5 rfl (lv_at hl 0 rfl) ?_
  obtain ⟨r6, hc6, hf⟩ := bi_s hf
  have hPc := hP
  refine cRO (W.runV (As := []) (rest := []) ⟨hx, hb, hml, hown, hts⟩ (c_X9_meanByUse l dC dI cI cZ a (sr M 0 (upd (M 0) 0 (0 : Int32))) r6 hc6) (cwV 0 hts gX9_meanWay_X9_meanByUse rfl rfl rfl (by decide +kernel) ⟨Nat.le_of_ble_eq_true rfl, Nat.le_of_ble_eq_true rfl⟩) ⟨RO.blind, va_recv hK hP (ci := 9) (q0 := 0) rfl rfl, RO.pre hPc hK hNW⟩ rfl rfl hl.1 rfl (lv_room (Nat.le_of_ble_eq_true rfl)) dX9_meanWay_6 ⟨Nat.le_of_ble_eq_true rfl, Nat.le_of_ble_eq_true rfl⟩) ?_
  have e9 := so_e hf
  subst e9
  exact W.dret (v := r6) hx hb hr (fun t ht hW => ⟨⟨r6, (), rfl, rfl, WE.mk hP hD ht⟩, hS.F ht⟩) hS.2.2 dX9_meanWay_9
set_option maxHeartbeats 4000000 in
set_option maxRecDepth 100000 in
theorem c_X9_meanByFetch (l : Launch) (dC : Nat → ClassId) (dI : Nat → Nat → Nat) (cI cZ : ClassId) (a : Nat → Nat) (M : Mem) (z : UInt64) (hf : fX9_meanByFetch M  = some z) : Met l yX9_meanByFetch wsX9_meanByFetch ({ frames := 0, cells := 0, slots := 0, locals := 0 } : Room) (va_Pc [.ref (a 0)] (RO (dC, dI) cI cZ (wX9 cI cZ a M))) (k2_QcV (.double z)) 0 0 (fun _ => False) := by
  refine Met.ofW (cc := cX9_meanByFetch) (maxL := 1) (ret := (some .double)) (by decide) rfl ?_
  intro p e s m args below meth c s₁ B hml hv
  obtain ⟨rfl, hP, hK, hNW⟩ := hv
  have hx := B.exec
  have hb := B.bytes
  have hr := B.returns
  have hts := atoms_spec (ws := wsX9_meanByFetch) B.pre
  have hown : s.vm.findClass RX9 = some m.cls := findClass_of_methodNamed B.named
  have hlocks := B.notSynchronized
  have hinX9 : ∀ w ∈ u_ws RX9 TX9 13, w ∈ wsX9_meanByFetch := by decide +kernel
  have hw1 := hts (.fieldLink RX9 7 "GlideShelvesModel" "s" "[I") (by decide +kernel)
  have hfX9_meanByFetch_B28 : ∀ (s0 : UInt64), fX9_meanByFetch_B28 M  s0 = some z → ∀ (ls : Array Slot), lv_has ls 1 [] → W p l e (headSpec wsX9_meanByFetch ({ frames := 0, cells := 0, slots := 0, locals := 0 } : Room)).room s m ([.ref (a 0)] : List Value).toArray below meth c s.heap [] 0 0 (MQ below (k2_QcV (.double z)) ([.ref (a 0)] : List Value).toArray s 0 0 (fun _ => False)) (F0 m 28 ls [.double s0]) := by
    intro  s0 hf ls hl
    unfold fX9_meanByFetch_B28 at hf
    exact W.dret (v := s0) hx hb hr (fun t ht hW => ⟨congrArg (fun x => Outcome.returned (some (Value.double x))) (so_e hf), ht⟩) fl0 dX9_meanByFetch_28
  have hl := lv_entry ([.ref (a 0)]) (n := 1) (Nat.le_of_ble_eq_true rfl)
  rw [lg_entry_eq]
  generalize (lg_sl ([.ref (a 0)]) ++ List.replicate (1 - (lg_sl ([.ref (a 0)])).length) Slot.unset).toArray = ls at hl ⊢
  have hl : lv_has ls 1 [(0, .ref (a 0))] := hl
  unfold fX9_meanByFetch at hf
  refine lv_aload_n hx hb dX9_meanByFetch_0 rfl (lv_at hl 0 rfl) ?_
  refine va_get (D := (dC, dI)) (ci := 9) (v := .ref (a 1)) (C := RX9) (T := TX9) (N := 13) hx hb hts hinX9 hown hK hP 0 rfl rfl 1 (by decide) hw1 (fun _ h9 => h9) rfl dX9_meanByFetch_1 ?_
  refine lv_iconst (v := (5 : Int32)) hx hb dX9_meanByFetch_4 (by decide) ?_
  obtain ⟨hi, hf⟩ := gd_s hf
  refine va_iald (D := (dC, dI)) (f := (M 1)) hx hb hK hP 1 0 rfl rfl (inb_in hi) dX9_meanByFetch_5 ?_
  refine lv_if_ne (tgt := 13) hx hb dX9_meanByFetch_6 (by decide) (fun c9 => ?_) (fun c9 => ?_)
  · have hf := it_t hf c9
    refine lv_aload_n hx hb dX9_meanByFetch_13 rfl (lv_at hl 0 rfl) ?_
    refine va_get (D := (dC, dI)) (ci := 9) (v := .ref (a 1)) (C := RX9) (T := TX9) (N := 13) hx hb hts hinX9 hown hK hP 0 rfl rfl 1 (by decide) hw1 (fun _ h9 => h9) rfl dX9_meanByFetch_14 ?_
    refine lv_iconst (v := (4 : Int32)) hx hb dX9_meanByFetch_17 (by decide) ?_
    obtain ⟨hi, hf⟩ := gd_s hf
    refine va_iald (D := (dC, dI)) (f := (M 1)) hx hb hK hP 1 0 rfl rfl (inb_in hi) dX9_meanByFetch_18 ?_
    refine lv_i2d hx hb dX9_meanByFetch_19 ?_
    refine lv_aload_n hx hb dX9_meanByFetch_20 rfl (lv_at hl 0 rfl) ?_
    refine va_get (D := (dC, dI)) (ci := 9) (v := .ref (a 1)) (C := RX9) (T := TX9) (N := 13) hx hb hts hinX9 hown hK hP 0 rfl rfl 1 (by decide) hw1 (fun _ h9 => h9) rfl dX9_meanByFetch_21 ?_
    refine lv_iconst (v := (5 : Int32)) hx hb dX9_meanByFetch_24 (by decide) ?_
    obtain ⟨hi, hf⟩ := gd_s hf
    refine va_iald (D := (dC, dI)) (f := (M 1)) hx hb hK hP 1 0 rfl rfl (inb_in hi) dX9_meanByFetch_25 ?_
    refine lv_i2d hx hb dX9_meanByFetch_26 ?_
    obtain ⟨hi, hf⟩ := gd_s hf
    refine lv_ddiv hx hb dX9_meanByFetch_27 (nnb_s hi) ?_
    exact hfX9_meanByFetch_B28  (FP.ddiv (FP.i2d (M 1 (4 : Int32).toNatClampNeg)) (FP.i2d (M 1 (5 : Int32).toNatClampNeg))) hf _ (lv_sub hl [] rfl)
  · have hf := it_n hf c9
    refine lv_dconst0 hx hb dX9_meanByFetch_9 ?_
    refine lv_goto (tgt := 28) hx hb dX9_meanByFetch_10 (by decide) ?_
    exact hfX9_meanByFetch_B28  FP.dconst0 hf _ (lv_sub hl [] rfl)
set_option maxHeartbeats 4000000 in
set_option maxRecDepth 100000 in
theorem c_X9_meanTicks (l : Launch) (dC : Nat → ClassId) (dI : Nat → Nat → Nat) (cI cZ : ClassId) (a : Nat → Nat) (sz : Nat) (M : Mem) (z : UInt64 × Mem) (hf : fX9_meanTicks M  = some z) : Met l yX9_meanTicks wsX9_meanTicks ({ frames := 1, cells := 0, slots := 0, locals := 20 } : Room) (va_Pc [.ref (a 0)] (WR (dC, dI) cI cZ (wX9 cI cZ a M) sz)) (va_Qd (S := Unit) (fun r _ => r = z.1) (fun _ t => WE (dC, dI) cI cZ (wX9 cI cZ a (sr M 0 (z.2 0))) (va_A (wX9 cI cZ a M) sz) t) (va_A (wX9 cI cZ a M) sz)) 0 0 (va_A (wX9 cI cZ a M) sz) := by
  refine Met.ofW (cc := cX9_meanTicks) (maxL := 1) (ret := (some .double)) (by decide) rfl ?_
  intro p e s m args below meth c s₁ B hml hv
  obtain ⟨rfl, hsz, hP, hK, hD0, hNW⟩ := hv
  have hx := B.exec
  have hb := B.bytes
  have hr := B.returns
  have hts := atoms_spec (ws := wsX9_meanTicks) B.pre
  have hown : s.vm.findClass RX9 = some m.cls := findClass_of_methodNamed B.named
  have hlocks := B.notSynchronized
  have hinX9 : ∀ w ∈ u_ws RX9 TX9 13, w ∈ wsX9_meanTicks := by decide +kernel
  have hw1 := hts (.fieldLink RX9 35 "GlideShelvesModel" "thrown" "I") (by decide +kernel)
  subst hsz
  have hD := hD0.self (sz := s.heap.size)
  generalize hAe : va_A (wX9 cI cZ a M) s.heap.size = A at hD ⊢
  have hA : ∀ q : Nat, s.heap.size ≤ q → A q := fun q h => by rw [← hAe]; exact Or.inr h
  have hS : va_S A s.heap s.heap [] := va_S.rf
  have hl := lv_entry ([.ref (a 0)]) (n := 1) (Nat.le_of_ble_eq_true rfl)
  rw [lg_entry_eq]
  generalize (lg_sl ([.ref (a 0)]) ++ List.replicate (1 - (lg_sl ([.ref (a 0)])).length) Slot.unset).toArray = ls at hl ⊢
  have hl : lv_has ls 1 [(0, .ref (a 0))] := hl
  unfold fX9_meanTicks at hf
  suffices hgo : ∀ (H : Heap) (locs : List Loc), va_P (dC, dI) vwCl (wX9 cI cZ a M) H → va_D A (wX9 cI cZ a M) → va_S A s.heap H locs → W p l e (headSpec wsX9_meanTicks ({ frames := 1, cells := 0, slots := 0, locals := 20 } : Room)).room s m ([.ref (a 0)] : List Value).toArray below meth c H locs 0 0 (MQ below (va_Qd (S := Unit) (fun r _ => r = z.1) (fun _ t => WE (dC, dI) cI cZ (wX9 cI cZ a (sr M 0 (z.2 0))) A t) A) ([.ref (a 0)] : List Value).toArray s 0 0 A) (F0 m 0 ls []) from hgo _ _ hP hD hS
  intro H locs hP hD hS
  refine lv_aload_n hx hb dX9_meanTicks_0 rfl (lv_at hl 0 rfl) ?_
  refine lv_iconst (v := (0 : Int32)) hx hb dX9_meanTicks_1 (by decide) ?_
  refine va_put (D := (dC, dI)) (ci := 9) (v := .int (0 : Int32)) (ty := .int) (C := RX9) (T := TX9) (N := 13) hx hb hts hinX9 tyX9 tyX9_ok nmX9 hown hK hP hD hS 0 rfl rfl 0 (by decide) hw1 (fun _ h9 => h9) rfl (by decide +kernel) rfl rfl (Nat.le_of_ble_eq_true rfl) dX9_meanTicks_2 (fun H locs hP hD hS => ?_)
  have hP : va_P (dC, dI) vwCl (wX9 cI cZ a (sr M 0 (upd (M 0) 0 (0 : Int32)))) H := hP
  have hD : va_D A (wX9 cI cZ a (sr M 0 (upd (M 0) 0 (0 : Int32)))) := hD
  refine lv_aload_n hx hb dX9_meanTicks_5 rfl (lv_at hl 0 rfl) ?_
  obtain ⟨r6, hc6, hf⟩ := bi_s hf
  have hPc := hP
  refine cRO (W.runV (As := []) (rest := []) ⟨hx, hb, hml, hown, hts⟩ (c_X9_meanByFetch l dC dI cI cZ a (sr M 0 (upd (M 0) 0 (0 : Int32))) r6 hc6) (cwV 0 hts gX9_meanTicks_X9_meanByFetch rfl rfl rfl (by decide +kernel) ⟨Nat.le_of_ble_eq_true rfl, Nat.le_of_ble_eq_true rfl⟩) ⟨RO.blind, va_recv hK hP (ci := 9) (q0 := 0) rfl rfl, RO.pre hPc hK hNW⟩ rfl rfl hl.1 rfl (lv_room (Nat.le_of_ble_eq_true rfl)) dX9_meanTicks_6 ⟨Nat.le_of_ble_eq_true rfl, Nat.le_of_ble_eq_true rfl⟩) ?_
  have e9 := so_e hf
  subst e9
  exact W.dret (v := r6) hx hb hr (fun t ht hW => ⟨⟨r6, (), rfl, rfl, WE.mk hP hD ht⟩, hS.F ht⟩) hS.2.2 dX9_meanTicks_9
set_option maxHeartbeats 4000000 in
set_option maxRecDepth 100000 in
theorem c_X9_digestShelf (l : Launch) (dC : Nat → ClassId) (dI : Nat → Nat → Nat) (cI cZ : ClassId) (a : Nat → Nat) (M : Mem) (a1 : Int64) (a3 : Int32) (z : Int64) (hf : fX9_digestShelf M a1 a3 = some z) : Met l yX9_digestShelf wsX9_digestShelf ({ frames := 2, cells := 0, slots := 0, locals := 45 } : Room) (va_Pc [.ref (a 0), .long a1, .int a3] (RO (dC, dI) cI cZ (wX9 cI cZ a M))) (k2_QcV (.long z)) 0 0 (fun _ => False) := by
  refine Met.ofW (cc := cX9_digestShelf) (maxL := 7) (ret := (some .long)) (by decide) rfl ?_
  intro p e s m args below meth c s₁ B hml hv
  obtain ⟨rfl, hP, hK, hNW⟩ := hv
  have hx := B.exec
  have hb := B.bytes
  have hr := B.returns
  have hts := atoms_spec (ws := wsX9_digestShelf) B.pre
  have hown : s.vm.findClass RX9 = some m.cls := findClass_of_methodNamed B.named
  have hlocks := B.notSynchronized
  have hw0 := hts (.constantLong RX9 249 (31)) (by decide +kernel)
  have hinX9 : ∀ w ∈ u_ws RX9 TX9 13, w ∈ wsX9_digestShelf := by decide +kernel
  have hw2 := hts (.fieldLink RX9 7 "GlideShelvesModel" "s" "[I") (by decide +kernel)
  have hfX9_digestShelf_L67 : ∀ (n : Nat) (kx99 : Int32 → Int64 → Option (Int64)) (hkx99 : ∀ (l3 : Int32) (l4 : Int64), kx99 l3 l4 = some z → ∀ (ls : Array Slot), lv_has ls 7 [(0, .ref (a 0)), (3, .int l3), (4, .long l4)] → W p l e (headSpec wsX9_digestShelf ({ frames := 2, cells := 0, slots := 0, locals := 45 } : Room)).room s m ([.ref (a 0), .long a1, .int a3] : List Value).toArray below meth c s.heap [] 0 0 (MQ below (k2_QcV (.long z)) ([.ref (a 0), .long a1, .int a3] : List Value).toArray s 0 0 (fun _ => False)) (F0 m 99 ls [])), ∀ (l3 : Int32) (l4 : Int64) (l6 : Int32), fX9_digestShelf_L67 M n kx99 l3 l4 l6 = some z → ∀ (ls : Array Slot), lv_has ls 7 [(0, .ref (a 0)), (3, .int l3), (4, .long l4), (6, .int l6)] → W p l e (headSpec wsX9_digestShelf ({ frames := 2, cells := 0, slots := 0, locals := 45 } : Room)).room s m ([.ref (a 0), .long a1, .int a3] : List Value).toArray below meth c s.heap [] 0 0 (MQ below (k2_QcV (.long z)) ([.ref (a 0), .long a1, .int a3] : List Value).toArray s 0 0 (fun _ => False)) (F0 m 67 ls []) := by
    intro n
    induction n with
    | zero =>
      intro kx99 hkx99 l3 l4 l6 hf ls hl
      rw [fX9_digestShelf_L67] at hf
      cases hf
    | succ n ih =>
      intro kx99 hkx99 l3 l4 l6 hf ls hl
      rw [fX9_digestShelf_L67] at hf
      refine lv_iload hx hb dX9_digestShelf_67 (lv_at hl 3 rfl) ?_
      refine lv_bipush (v := (10 : Int32)) hx hb dX9_digestShelf_69 (by decide) ?_
      refine lv_icmp_ge (tgt := 99) hx hb dX9_digestShelf_71 (by decide) (fun c9 => ?_) (fun c9 => ?_)
      · have hf := it_t hf c9
        exact hkx99 l3 l4 hf _ (lv_sub hl [0, 1, 2] rfl)
      · have hf := it_f hf c9
        refine lv_ldc2 (v := (31 : Int64)) hx hb hown hw0 dX9_digestShelf_74 ?_
        refine lv_lload hx hb dX9_digestShelf_77 (lv_at hl 2 rfl) ?_
        refine lv_lmul hx hb dX9_digestShelf_79 ?_
        refine lv_aload_n hx hb dX9_digestShelf_80 rfl (lv_at hl 0 rfl) ?_
        refine lv_iload_n hx hb dX9_digestShelf_81 rfl (lv_at hl 1 rfl) ?_
        refine lv_iconst (v := (4 : Int32)) hx hb dX9_digestShelf_82 (by decide) ?_
        refine lv_iload hx hb dX9_digestShelf_83 (lv_at hl 3 rfl) ?_
        refine lv_iadd hx hb dX9_digestShelf_85 ?_
        obtain ⟨r86, hc86, hf⟩ := bi_s hf
        have hPc := hP
        refine cRO (W.runV (As := [.int l3, .int ((4 : Int32) + l6)]) (rest := [.long ((31 : Int64) * l4)]) ⟨hx, hb, hml, hown, hts⟩ (c_X9_of l dC dI cI cZ a M l3 ((4 : Int32) + l6) r86 hc86) (cwV 2 hts gX9_digestShelf_X9_of rfl rfl rfl (by decide +kernel) ⟨Nat.le_of_ble_eq_true rfl, Nat.le_of_ble_eq_true rfl⟩) ⟨RO.blind, va_recv hK hP (ci := 9) (q0 := 0) rfl rfl, RO.pre hPc hK hNW⟩ rfl rfl hl.1 rfl (lv_room (Nat.le_of_ble_eq_true rfl)) dX9_digestShelf_86 ⟨Nat.le_of_ble_eq_true rfl, Nat.le_of_ble_eq_true rfl⟩) ?_
        refine lv_i2l (v := r86.toInt64) hx hb dX9_digestShelf_89 rfl ?_
        refine lv_ladd hx hb dX9_digestShelf_90 ?_
        refine lv_lstore (lv' := [(4, .long (((31 : Int64) * l4) + (r86.toInt64))), (0, .ref (a 0)), (3, .int l3), (6, .int l6)]) hx hb dX9_digestShelf_91 hl (by decide) rfl (fun ls hl => ?_)
        refine lv_iinc (v := (l6 + (1 : Int32))) (lv' := [(6, .int (l6 + (1 : Int32))), (4, .long (((31 : Int64) * l4) + (r86.toInt64))), (0, .ref (a 0)), (3, .int l3)]) hx hb dX9_digestShelf_93 hl (k := 3) rfl rfl (by decide) rfl (fun ls hl => ?_)
        refine lv_goto (tgt := 67) hx hb dX9_digestShelf_96 (by decide) ?_
        exact ih kx99 hkx99 l3 (((31 : Int64) * l4) + (r86.toInt64)) (l6 + (1 : Int32)) hf _ (lv_sub hl [2, 3, 1, 0] rfl)
  have hfX9_digestShelf_B60 : ∀ (l3 : Int32) (s0 : Int64) (s1 : Int32), fX9_digestShelf_B60 M  l3 s0 s1 = some z → ∀ (ls : Array Slot), lv_has ls 7 [(0, .ref (a 0)), (3, .int l3)] → W p l e (headSpec wsX9_digestShelf ({ frames := 2, cells := 0, slots := 0, locals := 45 } : Room)).room s m ([.ref (a 0), .long a1, .int a3] : List Value).toArray below meth c s.heap [] 0 0 (MQ below (k2_QcV (.long z)) ([.ref (a 0), .long a1, .int a3] : List Value).toArray s 0 0 (fun _ => False)) (F0 m 60 ls [.int s1, .long s0]) := by
    intro  l3 s0 s1 hf ls hl
    unfold fX9_digestShelf_B60 at hf
    refine lv_i2l (v := s1.toInt64) hx hb dX9_digestShelf_60 rfl ?_
    refine lv_ladd hx hb dX9_digestShelf_61 ?_
    refine lv_lstore (lv' := [(4, .long (s0 + (s1.toInt64))), (0, .ref (a 0)), (3, .int l3)]) hx hb dX9_digestShelf_62 hl (by decide) rfl (fun ls hl => ?_)
    refine lv_iconst (v := (0 : Int32)) hx hb dX9_digestShelf_64 (by decide) ?_
    refine lv_istore (lv' := [(6, .int (0 : Int32)), (4, .long (s0 + (s1.toInt64))), (0, .ref (a 0)), (3, .int l3)]) hx hb dX9_digestShelf_65 hl (by decide) rfl (fun ls hl => ?_)
    refine hfX9_digestShelf_L67 5000 _ (fun l3 l4 hf ls hl => ?_) l3 (s0 + (s1.toInt64)) (0 : Int32) hf _ (lv_sub hl [2, 3, 1, 0] rfl)
    refine lv_ldc2 (v := (31 : Int64)) hx hb hown hw0 dX9_digestShelf_99 ?_
    refine lv_ldc2 (v := (31 : Int64)) hx hb hown hw0 dX9_digestShelf_102 ?_
    refine lv_lload hx hb dX9_digestShelf_105 (lv_at hl 2 rfl) ?_
    refine lv_lmul hx hb dX9_digestShelf_107 ?_
    refine lv_aload_n hx hb dX9_digestShelf_108 rfl (lv_at hl 0 rfl) ?_
    refine lv_iload_n hx hb dX9_digestShelf_109 rfl (lv_at hl 1 rfl) ?_
    obtain ⟨r110, hc110, hf⟩ := bi_s hf
    have hPc := hP
    refine cRO (W.runV (As := [.int l3]) (rest := [.long ((31 : Int64) * l4), .long (31 : Int64)]) ⟨hx, hb, hml, hown, hts⟩ (c_X9_weight l dC dI cI cZ a M l3 r110 hc110) (cwV 1 hts gX9_digestShelf_X9_weight rfl rfl rfl (by decide +kernel) ⟨Nat.le_of_ble_eq_true rfl, Nat.le_of_ble_eq_true rfl⟩) ⟨RO.blind, va_recv hK hP (ci := 9) (q0 := 0) rfl rfl, RO.pre hPc hK hNW⟩ rfl rfl hl.1 rfl (lv_room (Nat.le_of_ble_eq_true rfl)) dX9_digestShelf_110 ⟨Nat.le_of_ble_eq_true rfl, Nat.le_of_ble_eq_true rfl⟩) ?_
    refine lv_i2l (v := r110.toInt64) hx hb dX9_digestShelf_113 rfl ?_
    refine lv_ladd hx hb dX9_digestShelf_114 ?_
    refine lv_lmul hx hb dX9_digestShelf_115 ?_
    refine lv_aload_n hx hb dX9_digestShelf_116 rfl (lv_at hl 0 rfl) ?_
    refine lv_iload_n hx hb dX9_digestShelf_117 rfl (lv_at hl 1 rfl) ?_
    refine lv_iconst (v := (3 : Int32)) hx hb dX9_digestShelf_118 (by decide) ?_
    obtain ⟨r119, hc119, hf⟩ := bi_s hf
    have hPc := hP
    refine cRO (W.runV (As := [.int l3, .int (3 : Int32)]) (rest := [.long ((31 : Int64) * (((31 : Int64) * l4) + (r110.toInt64)))]) ⟨hx, hb, hml, hown, hts⟩ (c_X9_of l dC dI cI cZ a M l3 (3 : Int32) r119 hc119) (cwV 2 hts gX9_digestShelf_X9_of rfl rfl rfl (by decide +kernel) ⟨Nat.le_of_ble_eq_true rfl, Nat.le_of_ble_eq_true rfl⟩) ⟨RO.blind, va_recv hK hP (ci := 9) (q0 := 0) rfl rfl, RO.pre hPc hK hNW⟩ rfl rfl hl.1 rfl (lv_room (Nat.le_of_ble_eq_true rfl)) dX9_digestShelf_119 ⟨Nat.le_of_ble_eq_true rfl, Nat.le_of_ble_eq_true rfl⟩) ?_
    refine lv_i2l (v := r119.toInt64) hx hb dX9_digestShelf_122 rfl ?_
    refine lv_ladd hx hb dX9_digestShelf_123 ?_
    exact W.lret (v := (((31 : Int64) * (((31 : Int64) * l4) + (r110.toInt64))) + (r119.toInt64))) hx hb hr (fun t ht hW => ⟨congrArg (fun x => Outcome.returned (some (Value.long x))) (so_e hf), ht⟩) fl0 dX9_digestShelf_124
  have hl := lv_entry ([.ref (a 0), .long a1, .int a3]) (n := 7) (Nat.le_of_ble_eq_true rfl)
  rw [lg_entry_eq]
  generalize (lg_sl ([.ref (a 0), .long a1, .int a3]) ++ List.replicate (7 - (lg_sl ([.ref (a 0), .long a1, .int a3])).length) Slot.unset).toArray = ls at hl ⊢
  have hl : lv_has ls 7 [(0, .ref (a 0)), (1, .long a1), (3, .int a3)] := hl
  unfold fX9_digestShelf at hf
  refine lv_ldc2 (v := (31 : Int64)) hx hb hown hw0 dX9_digestShelf_0 ?_
  refine lv_ldc2 (v := (31 : Int64)) hx hb hown hw0 dX9_digestShelf_3 ?_
  refine lv_ldc2 (v := (31 : Int64)) hx hb hown hw0 dX9_digestShelf_6 ?_
  refine lv_lload_n hx hb dX9_digestShelf_9 rfl (lv_at hl 1 rfl) ?_
  refine lv_lmul hx hb dX9_digestShelf_10 ?_
  refine lv_aload_n hx hb dX9_digestShelf_11 rfl (lv_at hl 0 rfl) ?_
  refine lv_iload_n hx hb dX9_digestShelf_12 rfl (lv_at hl 2 rfl) ?_
  refine lv_iconst (v := (0 : Int32)) hx hb dX9_digestShelf_13 (by decide) ?_
  obtain ⟨r14, hc14, hf⟩ := bi_s hf
  have hPc := hP
  refine cRO (W.runV (As := [.int a3, .int (0 : Int32)]) (rest := [.long ((31 : Int64) * a1), .long (31 : Int64), .long (31 : Int64)]) ⟨hx, hb, hml, hown, hts⟩ (c_X9_of l dC dI cI cZ a M a3 (0 : Int32) r14 hc14) (cwV 2 hts gX9_digestShelf_X9_of rfl rfl rfl (by decide +kernel) ⟨Nat.le_of_ble_eq_true rfl, Nat.le_of_ble_eq_true rfl⟩) ⟨RO.blind, va_recv hK hP (ci := 9) (q0 := 0) rfl rfl, RO.pre hPc hK hNW⟩ rfl rfl hl.1 rfl (lv_room (Nat.le_of_ble_eq_true rfl)) dX9_digestShelf_14 ⟨Nat.le_of_ble_eq_true rfl, Nat.le_of_ble_eq_true rfl⟩) ?_
  refine lv_i2l (v := r14.toInt64) hx hb dX9_digestShelf_17 rfl ?_
  refine lv_ladd hx hb dX9_digestShelf_18 ?_
  refine lv_lmul hx hb dX9_digestShelf_19 ?_
  refine lv_aload_n hx hb dX9_digestShelf_20 rfl (lv_at hl 0 rfl) ?_
  refine lv_iload_n hx hb dX9_digestShelf_21 rfl (lv_at hl 2 rfl) ?_
  refine lv_iconst (v := (1 : Int32)) hx hb dX9_digestShelf_22 (by decide) ?_
  obtain ⟨r23, hc23, hf⟩ := bi_s hf
  have hPc := hP
  refine cRO (W.runV (As := [.int a3, .int (1 : Int32)]) (rest := [.long ((31 : Int64) * (((31 : Int64) * a1) + (r14.toInt64))), .long (31 : Int64)]) ⟨hx, hb, hml, hown, hts⟩ (c_X9_of l dC dI cI cZ a M a3 (1 : Int32) r23 hc23) (cwV 2 hts gX9_digestShelf_X9_of rfl rfl rfl (by decide +kernel) ⟨Nat.le_of_ble_eq_true rfl, Nat.le_of_ble_eq_true rfl⟩) ⟨RO.blind, va_recv hK hP (ci := 9) (q0 := 0) rfl rfl, RO.pre hPc hK hNW⟩ rfl rfl hl.1 rfl (lv_room (Nat.le_of_ble_eq_true rfl)) dX9_digestShelf_23 ⟨Nat.le_of_ble_eq_true rfl, Nat.le_of_ble_eq_true rfl⟩) ?_
  refine lv_i2l (v := r23.toInt64) hx hb dX9_digestShelf_26 rfl ?_
  refine lv_ladd hx hb dX9_digestShelf_27 ?_
  refine lv_lmul hx hb dX9_digestShelf_28 ?_
  refine lv_aload_n hx hb dX9_digestShelf_29 rfl (lv_at hl 0 rfl) ?_
  refine lv_iload_n hx hb dX9_digestShelf_30 rfl (lv_at hl 2 rfl) ?_
  refine lv_iconst (v := (2 : Int32)) hx hb dX9_digestShelf_31 (by decide) ?_
  obtain ⟨r32, hc32, hf⟩ := bi_s hf
  have hPc := hP
  refine cRO (W.runV (As := [.int a3, .int (2 : Int32)]) (rest := [.long ((31 : Int64) * (((31 : Int64) * (((31 : Int64) * a1) + (r14.toInt64))) + (r23.toInt64)))]) ⟨hx, hb, hml, hown, hts⟩ (c_X9_of l dC dI cI cZ a M a3 (2 : Int32) r32 hc32) (cwV 2 hts gX9_digestShelf_X9_of rfl rfl rfl (by decide +kernel) ⟨Nat.le_of_ble_eq_true rfl, Nat.le_of_ble_eq_true rfl⟩) ⟨RO.blind, va_recv hK hP (ci := 9) (q0 := 0) rfl rfl, RO.pre hPc hK hNW⟩ rfl rfl hl.1 rfl (lv_room (Nat.le_of_ble_eq_true rfl)) dX9_digestShelf_32 ⟨Nat.le_of_ble_eq_true rfl, Nat.le_of_ble_eq_true rfl⟩) ?_
  refine lv_i2l (v := r32.toInt64) hx hb dX9_digestShelf_35 rfl ?_
  refine lv_ladd hx hb dX9_digestShelf_36 ?_
  refine lv_lstore (lv' := [(4, .long (((31 : Int64) * (((31 : Int64) * (((31 : Int64) * a1) + (r14.toInt64))) + (r23.toInt64))) + (r32.toInt64))), (0, .ref (a 0)), (1, .long a1), (3, .int a3)]) hx hb dX9_digestShelf_37 hl (by decide) rfl (fun ls hl => ?_)
  refine lv_ldc2 (v := (31 : Int64)) hx hb hown hw0 dX9_digestShelf_39 ?_
  refine lv_lload hx hb dX9_digestShelf_42 (lv_at hl 0 rfl) ?_
  refine lv_lmul hx hb dX9_digestShelf_44 ?_
  refine lv_aload_n hx hb dX9_digestShelf_45 rfl (lv_at hl 1 rfl) ?_
  refine va_get (D := (dC, dI)) (ci := 9) (v := .ref (a 1)) (C := RX9) (T := TX9) (N := 13) hx hb hts hinX9 hown hK hP 0 rfl rfl 1 (by decide) hw2 (fun _ h9 => h9) rfl dX9_digestShelf_46 ?_
  refine lv_iconst (v := (1 : Int32)) hx hb dX9_digestShelf_49 (by decide) ?_
  obtain ⟨hi, hf⟩ := gd_s hf
  refine va_iald (D := (dC, dI)) (f := (M 1)) hx hb hK hP 1 0 rfl rfl (inb_in hi) dX9_digestShelf_50 ?_
  refine lv_iload_n hx hb dX9_digestShelf_51 rfl (lv_at hl 3 rfl) ?_
  refine lv_icmp_ne (tgt := 59) hx hb dX9_digestShelf_52 (by decide) (fun c9 => ?_) (fun c9 => ?_)
  · have hf := it_t hf c9
    refine lv_iconst (v := (0 : Int32)) hx hb dX9_digestShelf_59 (by decide) ?_
    exact hfX9_digestShelf_B60  a3 ((31 : Int64) * (((31 : Int64) * (((31 : Int64) * (((31 : Int64) * a1) + (r14.toInt64))) + (r23.toInt64))) + (r32.toInt64))) (0 : Int32) hf _ (lv_sub hl [1, 3] rfl)
  · have hf := it_n hf c9
    refine lv_iconst (v := (1 : Int32)) hx hb dX9_digestShelf_55 (by decide) ?_
    refine lv_goto (tgt := 60) hx hb dX9_digestShelf_56 (by decide) ?_
    exact hfX9_digestShelf_B60  a3 ((31 : Int64) * (((31 : Int64) * (((31 : Int64) * (((31 : Int64) * a1) + (r14.toInt64))) + (r23.toInt64))) + (r32.toInt64))) (1 : Int32) hf _ (lv_sub hl [1, 3] rfl)
set_option maxHeartbeats 4000000 in
set_option maxRecDepth 100000 in
theorem c_X9_digestTower (l : Launch) (dC : Nat → ClassId) (dI : Nat → Nat → Nat) (cI cZ : ClassId) (a : Nat → Nat) (M : Mem) (a1 : Int64) (z : Int64) (hf : fX9_digestTower M a1 = some z) : Met l yX9_digestTower wsX9_digestTower ({ frames := 4, cells := 0, slots := 0, locals := 94 } : Room) (va_Pc [.ref (a 0), .long a1] (RO (dC, dI) cI cZ (wX9 cI cZ a M))) (k2_QcV (.long z)) 0 0 (fun _ => False) := by
  refine Met.ofW (cc := cX9_digestTower) (maxL := 6) (ret := (some .long)) (by decide) rfl ?_
  intro p e s m args below meth c s₁ B hml hv
  obtain ⟨rfl, hP, hK, hNW⟩ := hv
  have hx := B.exec
  have hb := B.bytes
  have hr := B.returns
  have hts := atoms_spec (ws := wsX9_digestTower) B.pre
  have hown : s.vm.findClass RX9 = some m.cls := findClass_of_methodNamed B.named
  have hlocks := B.notSynchronized
  have hw0 := hts (.constantLong RX9 249 (31)) (by decide +kernel)
  have hinX9 : ∀ w ∈ u_ws RX9 TX9 13, w ∈ wsX9_digestTower := by decide +kernel
  have hw2 := hts (.fieldLink RX9 7 "GlideShelvesModel" "s" "[I") (by decide +kernel)
  have hfX9_digestTower_L5 : ∀ (n : Nat) (kx42 : Int64 → Option (Int64)) (hkx42 : ∀ (l3 : Int64), kx42 l3 = some z → ∀ (ls : Array Slot), lv_has ls 6 [(0, .ref (a 0)), (3, .long l3)] → W p l e (headSpec wsX9_digestTower ({ frames := 4, cells := 0, slots := 0, locals := 94 } : Room)).room s m ([.ref (a 0), .long a1] : List Value).toArray below meth c s.heap [] 0 0 (MQ below (k2_QcV (.long z)) ([.ref (a 0), .long a1] : List Value).toArray s 0 0 (fun _ => False)) (F0 m 42 ls [])), ∀ (l3 : Int64) (l5 : Int32), fX9_digestTower_L5 M n kx42 l3 l5 = some z → ∀ (ls : Array Slot), lv_has ls 6 [(0, .ref (a 0)), (3, .long l3), (5, .int l5)] → W p l e (headSpec wsX9_digestTower ({ frames := 4, cells := 0, slots := 0, locals := 94 } : Room)).room s m ([.ref (a 0), .long a1] : List Value).toArray below meth c s.heap [] 0 0 (MQ below (k2_QcV (.long z)) ([.ref (a 0), .long a1] : List Value).toArray s 0 0 (fun _ => False)) (F0 m 5 ls []) := by
    intro n
    induction n with
    | zero =>
      intro kx42 hkx42 l3 l5 hf ls hl
      rw [fX9_digestTower_L5] at hf
      cases hf
    | succ n ih =>
      intro kx42 hkx42 l3 l5 hf ls hl
      rw [fX9_digestTower_L5] at hf
      refine lv_iload hx hb dX9_digestTower_5 (lv_at hl 2 rfl) ?_
      refine lv_bipush (v := (40 : Int32)) hx hb dX9_digestTower_7 (by decide) ?_
      refine lv_icmp_ge (tgt := 42) hx hb dX9_digestTower_9 (by decide) (fun c9 => ?_) (fun c9 => ?_)
      · have hf := it_t hf c9
        exact hkx42 l3 hf _ (lv_sub hl [0, 1] rfl)
      · have hf := it_f hf c9
        refine lv_ldc2 (v := (31 : Int64)) hx hb hown hw0 dX9_digestTower_12 ?_
        refine lv_lload_n hx hb dX9_digestTower_15 rfl (lv_at hl 1 rfl) ?_
        refine lv_lmul hx hb dX9_digestTower_16 ?_
        refine lv_aload_n hx hb dX9_digestTower_17 rfl (lv_at hl 0 rfl) ?_
        refine lv_iload hx hb dX9_digestTower_18 (lv_at hl 2 rfl) ?_
        refine lv_bipush (v := (20 : Int32)) hx hb dX9_digestTower_20 (by decide) ?_
        refine lv_idiv hx hb dX9_digestTower_22 (by decide) ?_
        refine lv_iload hx hb dX9_digestTower_23 (lv_at hl 2 rfl) ?_
        refine lv_bipush (v := (20 : Int32)) hx hb dX9_digestTower_25 (by decide) ?_
        refine lv_irem hx hb dX9_digestTower_27 (by decide) ?_
        obtain ⟨r28, hc28, hf⟩ := bi_s hf
        have hPc := hP
        refine cRO (W.runV (As := [.int (l5 / (20 : Int32)), .int (l5 - l5 / (20 : Int32) * (20 : Int32))]) (rest := [.long ((31 : Int64) * l3)]) ⟨hx, hb, hml, hown, hts⟩ (c_X9_on l dC dI cI cZ a M (l5 / (20 : Int32)) (l5 - l5 / (20 : Int32) * (20 : Int32)) r28 hc28) (cwV 2 hts gX9_digestTower_X9_on rfl rfl rfl (by decide +kernel) ⟨Nat.le_of_ble_eq_true rfl, Nat.le_of_ble_eq_true rfl⟩) ⟨RO.blind, va_recv hK hP (ci := 9) (q0 := 0) rfl rfl, RO.pre hPc hK hNW⟩ rfl rfl hl.1 rfl (lv_room (Nat.le_of_ble_eq_true rfl)) dX9_digestTower_28 ⟨Nat.le_of_ble_eq_true rfl, Nat.le_of_ble_eq_true rfl⟩) ?_
        refine lv_i2l (v := r28.toInt64) hx hb dX9_digestTower_31 rfl ?_
        refine lv_ladd hx hb dX9_digestTower_32 ?_
        refine lv_lconst (v := (1 : Int64)) hx hb dX9_digestTower_33 (by decide) ?_
        refine lv_ladd hx hb dX9_digestTower_34 ?_
        refine lv_lstore_n (lv' := [(3, .long ((((31 : Int64) * l3) + (r28.toInt64)) + (1 : Int64))), (0, .ref (a 0)), (5, .int l5)]) hx hb dX9_digestTower_35 rfl hl (by decide) rfl (fun ls hl => ?_)
        refine lv_iinc (v := (l5 + (1 : Int32))) (lv' := [(5, .int (l5 + (1 : Int32))), (3, .long ((((31 : Int64) * l3) + (r28.toInt64)) + (1 : Int64))), (0, .ref (a 0))]) hx hb dX9_digestTower_36 hl (k := 2) rfl rfl (by decide) rfl (fun ls hl => ?_)
        refine lv_goto (tgt := 5) hx hb dX9_digestTower_39 (by decide) ?_
        exact ih kx42 hkx42 ((((31 : Int64) * l3) + (r28.toInt64)) + (1 : Int64)) (l5 + (1 : Int32)) hf _ (lv_sub hl [2, 1, 0] rfl)
  have hfX9_digestTower_L67 : ∀ (n : Nat) (kx95 : Int64 → Option (Int64)) (hkx95 : ∀ (l3 : Int64), kx95 l3 = some z → ∀ (ls : Array Slot), lv_has ls 6 [(0, .ref (a 0)), (3, .long l3)] → W p l e (headSpec wsX9_digestTower ({ frames := 4, cells := 0, slots := 0, locals := 94 } : Room)).room s m ([.ref (a 0), .long a1] : List Value).toArray below meth c s.heap [] 0 0 (MQ below (k2_QcV (.long z)) ([.ref (a 0), .long a1] : List Value).toArray s 0 0 (fun _ => False)) (F0 m 95 ls [])), ∀ (l3 : Int64) (l5 : Int32), fX9_digestTower_L67 M n kx95 l3 l5 = some z → ∀ (ls : Array Slot), lv_has ls 6 [(0, .ref (a 0)), (3, .long l3), (5, .int l5)] → W p l e (headSpec wsX9_digestTower ({ frames := 4, cells := 0, slots := 0, locals := 94 } : Room)).room s m ([.ref (a 0), .long a1] : List Value).toArray below meth c s.heap [] 0 0 (MQ below (k2_QcV (.long z)) ([.ref (a 0), .long a1] : List Value).toArray s 0 0 (fun _ => False)) (F0 m 67 ls []) := by
    intro n
    induction n with
    | zero =>
      intro kx95 hkx95 l3 l5 hf ls hl
      rw [fX9_digestTower_L67] at hf
      cases hf
    | succ n ih =>
      intro kx95 hkx95 l3 l5 hf ls hl
      rw [fX9_digestTower_L67] at hf
      refine lv_iload hx hb dX9_digestTower_67 (lv_at hl 2 rfl) ?_
      refine lv_iconst (v := (5 : Int32)) hx hb dX9_digestTower_69 (by decide) ?_
      refine lv_icmp_ge (tgt := 95) hx hb dX9_digestTower_70 (by decide) (fun c9 => ?_) (fun c9 => ?_)
      · have hf := it_t hf c9
        exact hkx95 l3 hf _ (lv_sub hl [0, 1] rfl)
      · have hf := it_f hf c9
        refine lv_ldc2 (v := (31 : Int64)) hx hb hown hw0 dX9_digestTower_73 ?_
        refine lv_lload_n hx hb dX9_digestTower_76 rfl (lv_at hl 1 rfl) ?_
        refine lv_lmul hx hb dX9_digestTower_77 ?_
        refine lv_aload_n hx hb dX9_digestTower_78 rfl (lv_at hl 0 rfl) ?_
        refine lv_iload hx hb dX9_digestTower_79 (lv_at hl 2 rfl) ?_
        obtain ⟨r81, hc81, hf⟩ := bi_s hf
        have hPc := hP
        refine cRO (W.runV (As := [.int l5]) (rest := [.long ((31 : Int64) * l3)]) ⟨hx, hb, hml, hown, hts⟩ (c_X9_place l dC dI cI cZ a M l5 r81 hc81) (cwV 1 hts gX9_digestTower_X9_place rfl rfl rfl (by decide +kernel) ⟨Nat.le_of_ble_eq_true rfl, Nat.le_of_ble_eq_true rfl⟩) ⟨RO.blind, va_recv hK hP (ci := 9) (q0 := 0) rfl rfl, RO.pre hPc hK hNW⟩ rfl rfl hl.1 rfl (lv_room (Nat.le_of_ble_eq_true rfl)) dX9_digestTower_81 ⟨Nat.le_of_ble_eq_true rfl, Nat.le_of_ble_eq_true rfl⟩) ?_
        refine lv_i2l (v := r81.toInt64) hx hb dX9_digestTower_84 rfl ?_
        refine lv_ladd hx hb dX9_digestTower_85 ?_
        refine lv_lconst (v := (1 : Int64)) hx hb dX9_digestTower_86 (by decide) ?_
        refine lv_ladd hx hb dX9_digestTower_87 ?_
        refine lv_lstore_n (lv' := [(3, .long ((((31 : Int64) * l3) + (r81.toInt64)) + (1 : Int64))), (0, .ref (a 0)), (5, .int l5)]) hx hb dX9_digestTower_88 rfl hl (by decide) rfl (fun ls hl => ?_)
        refine lv_iinc (v := (l5 + (1 : Int32))) (lv' := [(5, .int (l5 + (1 : Int32))), (3, .long ((((31 : Int64) * l3) + (r81.toInt64)) + (1 : Int64))), (0, .ref (a 0))]) hx hb dX9_digestTower_89 hl (k := 2) rfl rfl (by decide) rfl (fun ls hl => ?_)
        refine lv_goto (tgt := 67) hx hb dX9_digestTower_92 (by decide) ?_
        exact ih kx95 hkx95 ((((31 : Int64) * l3) + (r81.toInt64)) + (1 : Int64)) (l5 + (1 : Int32)) hf _ (lv_sub hl [2, 1, 0] rfl)
  have hl := lv_entry ([.ref (a 0), .long a1]) (n := 6) (Nat.le_of_ble_eq_true rfl)
  rw [lg_entry_eq]
  generalize (lg_sl ([.ref (a 0), .long a1]) ++ List.replicate (6 - (lg_sl ([.ref (a 0), .long a1])).length) Slot.unset).toArray = ls at hl ⊢
  have hl : lv_has ls 6 [(0, .ref (a 0)), (1, .long a1)] := hl
  unfold fX9_digestTower at hf
  refine lv_lload_n hx hb dX9_digestTower_0 rfl (lv_at hl 1 rfl) ?_
  refine lv_lstore_n (lv' := [(3, .long a1), (0, .ref (a 0)), (1, .long a1)]) hx hb dX9_digestTower_1 rfl hl (by decide) rfl (fun ls hl => ?_)
  refine lv_iconst (v := (0 : Int32)) hx hb dX9_digestTower_2 (by decide) ?_
  refine lv_istore (lv' := [(5, .int (0 : Int32)), (3, .long a1), (0, .ref (a 0)), (1, .long a1)]) hx hb dX9_digestTower_3 hl (by decide) rfl (fun ls hl => ?_)
  refine hfX9_digestTower_L5 5000 _ (fun l3 hf ls hl => ?_) a1 (0 : Int32) hf _ (lv_sub hl [2, 1, 0] rfl)
  refine lv_ldc2 (v := (31 : Int64)) hx hb hown hw0 dX9_digestTower_42 ?_
  refine lv_ldc2 (v := (31 : Int64)) hx hb hown hw0 dX9_digestTower_45 ?_
  refine lv_lload_n hx hb dX9_digestTower_48 rfl (lv_at hl 1 rfl) ?_
  refine lv_lmul hx hb dX9_digestTower_49 ?_
  refine lv_aload_n hx hb dX9_digestTower_50 rfl (lv_at hl 0 rfl) ?_
  obtain ⟨r51, hc51, hf⟩ := bi_s hf
  have hPc := hP
  refine cRO (W.runV (As := []) (rest := [.long ((31 : Int64) * l3), .long (31 : Int64)]) ⟨hx, hb, hml, hown, hts⟩ (c_X9_freeMany l dC dI cI cZ a M r51 hc51) (cwV 0 hts gX9_digestTower_X9_freeMany rfl rfl rfl (by decide +kernel) ⟨Nat.le_of_ble_eq_true rfl, Nat.le_of_ble_eq_true rfl⟩) ⟨RO.blind, va_recv hK hP (ci := 9) (q0 := 0) rfl rfl, RO.pre hPc hK hNW⟩ rfl rfl hl.1 rfl (lv_room (Nat.le_of_ble_eq_true rfl)) dX9_digestTower_51 ⟨Nat.le_of_ble_eq_true rfl, Nat.le_of_ble_eq_true rfl⟩) ?_
  refine lv_i2l (v := r51.toInt64) hx hb dX9_digestTower_54 rfl ?_
  refine lv_ladd hx hb dX9_digestTower_55 ?_
  refine lv_lmul hx hb dX9_digestTower_56 ?_
  refine lv_aload_n hx hb dX9_digestTower_57 rfl (lv_at hl 0 rfl) ?_
  obtain ⟨r58, hc58, hf⟩ := bi_s hf
  have hPc := hP
  refine cRO (W.runV (As := []) (rest := [.long ((31 : Int64) * (((31 : Int64) * l3) + (r51.toInt64)))]) ⟨hx, hb, hml, hown, hts⟩ (c_X9_freeMany l dC dI cI cZ a M r58 hc58) (cwV 0 hts gX9_digestTower_X9_freeMany rfl rfl rfl (by decide +kernel) ⟨Nat.le_of_ble_eq_true rfl, Nat.le_of_ble_eq_true rfl⟩) ⟨RO.blind, va_recv hK hP (ci := 9) (q0 := 0) rfl rfl, RO.pre hPc hK hNW⟩ rfl rfl hl.1 rfl (lv_room (Nat.le_of_ble_eq_true rfl)) dX9_digestTower_58 ⟨Nat.le_of_ble_eq_true rfl, Nat.le_of_ble_eq_true rfl⟩) ?_
  refine lv_i2l (v := r58.toInt64) hx hb dX9_digestTower_61 rfl ?_
  refine lv_ladd hx hb dX9_digestTower_62 ?_
  refine lv_lstore_n (lv' := [(3, .long (((31 : Int64) * (((31 : Int64) * l3) + (r51.toInt64))) + (r58.toInt64))), (0, .ref (a 0))]) hx hb dX9_digestTower_63 rfl hl (by decide) rfl (fun ls hl => ?_)
  refine lv_iconst (v := (1 : Int32)) hx hb dX9_digestTower_64 (by decide) ?_
  refine lv_istore (lv' := [(5, .int (1 : Int32)), (3, .long (((31 : Int64) * (((31 : Int64) * l3) + (r51.toInt64))) + (r58.toInt64))), (0, .ref (a 0))]) hx hb dX9_digestTower_65 hl (by decide) rfl (fun ls hl => ?_)
  refine hfX9_digestTower_L67 5000 _ (fun l3 hf ls hl => ?_) (((31 : Int64) * (((31 : Int64) * l3) + (r51.toInt64))) + (r58.toInt64)) (1 : Int32) hf _ (lv_sub hl [2, 1, 0] rfl)
  refine lv_ldc2 (v := (31 : Int64)) hx hb hown hw0 dX9_digestTower_95 ?_
  refine lv_ldc2 (v := (31 : Int64)) hx hb hown hw0 dX9_digestTower_98 ?_
  refine lv_lload_n hx hb dX9_digestTower_101 rfl (lv_at hl 1 rfl) ?_
  refine lv_lmul hx hb dX9_digestTower_102 ?_
  refine lv_aload_n hx hb dX9_digestTower_103 rfl (lv_at hl 0 rfl) ?_
  refine lv_iconst (v := (0 : Int32)) hx hb dX9_digestTower_104 (by decide) ?_
  obtain ⟨r105, hc105, hf⟩ := bi_s hf
  have hPc := hP
  refine cRO (W.runV (As := [.int (0 : Int32)]) (rest := [.long ((31 : Int64) * l3), .long (31 : Int64)]) ⟨hx, hb, hml, hown, hts⟩ (c_X9_gap l dC dI cI cZ a M (0 : Int32) r105 hc105) (cwV 1 hts gX9_digestTower_X9_gap rfl rfl rfl (by decide +kernel) ⟨Nat.le_of_ble_eq_true rfl, Nat.le_of_ble_eq_true rfl⟩) ⟨RO.blind, va_recv hK hP (ci := 9) (q0 := 0) rfl rfl, RO.pre hPc hK hNW⟩ rfl rfl hl.1 rfl (lv_room (Nat.le_of_ble_eq_true rfl)) dX9_digestTower_105 ⟨Nat.le_of_ble_eq_true rfl, Nat.le_of_ble_eq_true rfl⟩) ?_
  refine lv_i2l (v := r105.toInt64) hx hb dX9_digestTower_108 rfl ?_
  refine lv_ladd hx hb dX9_digestTower_109 ?_
  refine lv_lmul hx hb dX9_digestTower_110 ?_
  refine lv_aload_n hx hb dX9_digestTower_111 rfl (lv_at hl 0 rfl) ?_
  refine lv_iconst (v := (1 : Int32)) hx hb dX9_digestTower_112 (by decide) ?_
  obtain ⟨r113, hc113, hf⟩ := bi_s hf
  have hPc := hP
  refine cRO (W.runV (As := [.int (1 : Int32)]) (rest := [.long ((31 : Int64) * (((31 : Int64) * l3) + (r105.toInt64)))]) ⟨hx, hb, hml, hown, hts⟩ (c_X9_gap l dC dI cI cZ a M (1 : Int32) r113 hc113) (cwV 1 hts gX9_digestTower_X9_gap rfl rfl rfl (by decide +kernel) ⟨Nat.le_of_ble_eq_true rfl, Nat.le_of_ble_eq_true rfl⟩) ⟨RO.blind, va_recv hK hP (ci := 9) (q0 := 0) rfl rfl, RO.pre hPc hK hNW⟩ rfl rfl hl.1 rfl (lv_room (Nat.le_of_ble_eq_true rfl)) dX9_digestTower_113 ⟨Nat.le_of_ble_eq_true rfl, Nat.le_of_ble_eq_true rfl⟩) ?_
  refine lv_i2l (v := r113.toInt64) hx hb dX9_digestTower_116 rfl ?_
  refine lv_ladd hx hb dX9_digestTower_117 ?_
  refine lv_lstore_n (lv' := [(3, .long (((31 : Int64) * (((31 : Int64) * l3) + (r105.toInt64))) + (r113.toInt64))), (0, .ref (a 0))]) hx hb dX9_digestTower_118 rfl hl (by decide) rfl (fun ls hl => ?_)
  refine lv_ldc2 (v := (31 : Int64)) hx hb hown hw0 dX9_digestTower_119 ?_
  refine lv_ldc2 (v := (31 : Int64)) hx hb hown hw0 dX9_digestTower_122 ?_
  refine lv_lload_n hx hb dX9_digestTower_125 rfl (lv_at hl 0 rfl) ?_
  refine lv_lmul hx hb dX9_digestTower_126 ?_
  refine lv_aload_n hx hb dX9_digestTower_127 rfl (lv_at hl 1 rfl) ?_
  refine va_get (D := (dC, dI)) (ci := 9) (v := .ref (a 1)) (C := RX9) (T := TX9) (N := 13) hx hb hts hinX9 hown hK hP 0 rfl rfl 1 (by decide) hw2 (fun _ h9 => h9) rfl dX9_digestTower_128 ?_
  refine lv_iconst (v := (2 : Int32)) hx hb dX9_digestTower_131 (by decide) ?_
  obtain ⟨hi, hf⟩ := gd_s hf
  refine va_iald (D := (dC, dI)) (f := (M 1)) hx hb hK hP 1 0 rfl rfl (inb_in hi) dX9_digestTower_132 ?_
  refine lv_i2l (v := (M 1 (2 : Int32).toNatClampNeg).toInt64) hx hb dX9_digestTower_133 rfl ?_
  refine lv_ladd hx hb dX9_digestTower_134 ?_
  refine lv_lmul hx hb dX9_digestTower_135 ?_
  refine lv_aload_n hx hb dX9_digestTower_136 rfl (lv_at hl 1 rfl) ?_
  refine va_get (D := (dC, dI)) (ci := 9) (v := .ref (a 1)) (C := RX9) (T := TX9) (N := 13) hx hb hts hinX9 hown hK hP 0 rfl rfl 1 (by decide) hw2 (fun _ h9 => h9) rfl dX9_digestTower_137 ?_
  refine lv_iconst (v := (3 : Int32)) hx hb dX9_digestTower_140 (by decide) ?_
  obtain ⟨hi, hf⟩ := gd_s hf
  refine va_iald (D := (dC, dI)) (f := (M 1)) hx hb hK hP 1 0 rfl rfl (inb_in hi) dX9_digestTower_141 ?_
  refine lv_i2l (v := (M 1 (3 : Int32).toNatClampNeg).toInt64) hx hb dX9_digestTower_142 rfl ?_
  refine lv_ladd hx hb dX9_digestTower_143 ?_
  exact W.lret (v := (((31 : Int64) * (((31 : Int64) * (((31 : Int64) * (((31 : Int64) * l3) + (r105.toInt64))) + (r113.toInt64))) + ((M 1 (2 : Int32).toNatClampNeg).toInt64))) + ((M 1 (3 : Int32).toNatClampNeg).toInt64))) hx hb hr (fun t ht hW => ⟨congrArg (fun x => Outcome.returned (some (Value.long x))) (so_e hf), ht⟩) fl0 dX9_digestTower_144
set_option maxHeartbeats 4000000 in
set_option maxRecDepth 100000 in
theorem c_X9_digestKinds (l : Launch) (dC : Nat → ClassId) (dI : Nat → Nat → Nat) (cI cZ : ClassId) (a : Nat → Nat) (M : Mem) (a1 : Int64) (z : Int64) (hf : fX9_digestKinds M a1 = some z) : Met l yX9_digestKinds wsX9_digestKinds ({ frames := 4, cells := 0, slots := 0, locals := 89 } : Room) (va_Pc [.ref (a 0), .long a1] (RO (dC, dI) cI cZ (wX9 cI cZ a M))) (k2_QcV (.long z)) 0 0 (fun _ => False) := by
  refine Met.ofW (cc := cX9_digestKinds) (maxL := 6) (ret := (some .long)) (by decide) rfl ?_
  intro p e s m args below meth c s₁ B hml hv
  obtain ⟨rfl, hP, hK, hNW⟩ := hv
  have hx := B.exec
  have hb := B.bytes
  have hr := B.returns
  have hts := atoms_spec (ws := wsX9_digestKinds) B.pre
  have hown : s.vm.findClass RX9 = some m.cls := findClass_of_methodNamed B.named
  have hlocks := B.notSynchronized
  have hw0 := hts (.constantLong RX9 249 (31)) (by decide +kernel)
  have hinX9 : ∀ w ∈ u_ws RX9 TX9 13, w ∈ wsX9_digestKinds := by decide +kernel
  have hw2 := hts (.fieldLink RX9 7 "GlideShelvesModel" "s" "[I") (by decide +kernel)
  have hfX9_digestKinds_L5 : ∀ (n : Nat) (kx109 : Int64 → Option (Int64)) (hkx109 : ∀ (l3 : Int64), kx109 l3 = some z → ∀ (ls : Array Slot), lv_has ls 6 [(0, .ref (a 0)), (3, .long l3)] → W p l e (headSpec wsX9_digestKinds ({ frames := 4, cells := 0, slots := 0, locals := 89 } : Room)).room s m ([.ref (a 0), .long a1] : List Value).toArray below meth c s.heap [] 0 0 (MQ below (k2_QcV (.long z)) ([.ref (a 0), .long a1] : List Value).toArray s 0 0 (fun _ => False)) (F0 m 109 ls [])), ∀ (l3 : Int64) (l5 : Int32), fX9_digestKinds_L5 M n kx109 l3 l5 = some z → ∀ (ls : Array Slot), lv_has ls 6 [(0, .ref (a 0)), (3, .long l3), (5, .int l5)] → W p l e (headSpec wsX9_digestKinds ({ frames := 4, cells := 0, slots := 0, locals := 89 } : Room)).room s m ([.ref (a 0), .long a1] : List Value).toArray below meth c s.heap [] 0 0 (MQ below (k2_QcV (.long z)) ([.ref (a 0), .long a1] : List Value).toArray s 0 0 (fun _ => False)) (F0 m 5 ls []) := by
    intro n
    induction n with
    | zero =>
      intro kx109 hkx109 l3 l5 hf ls hl
      rw [fX9_digestKinds_L5] at hf
      cases hf
    | succ n ih =>
      intro kx109 hkx109 l3 l5 hf ls hl
      rw [fX9_digestKinds_L5] at hf
      refine lv_iload hx hb dX9_digestKinds_5 (lv_at hl 2 rfl) ?_
      refine lv_bipush (v := (10 : Int32)) hx hb dX9_digestKinds_7 (by decide) ?_
      refine lv_icmp_ge (tgt := 109) hx hb dX9_digestKinds_9 (by decide) (fun c9 => ?_) (fun c9 => ?_)
      · have hf := it_t hf c9
        exact hkx109 l3 hf _ (lv_sub hl [0, 1] rfl)
      · have hf := it_f hf c9
        refine lv_ldc2 (v := (31 : Int64)) hx hb hown hw0 dX9_digestKinds_12 ?_
        refine lv_ldc2 (v := (31 : Int64)) hx hb hown hw0 dX9_digestKinds_15 ?_
        refine lv_ldc2 (v := (31 : Int64)) hx hb hown hw0 dX9_digestKinds_18 ?_
        refine lv_lload_n hx hb dX9_digestKinds_21 rfl (lv_at hl 1 rfl) ?_
        refine lv_lmul hx hb dX9_digestKinds_22 ?_
        refine lv_aload_n hx hb dX9_digestKinds_23 rfl (lv_at hl 0 rfl) ?_
        refine va_get (D := (dC, dI)) (ci := 9) (v := .ref (a 1)) (C := RX9) (T := TX9) (N := 13) hx hb hts hinX9 hown hK hP 0 rfl rfl 1 (by decide) hw2 (fun _ h9 => h9) rfl dX9_digestKinds_24 ?_
        refine lv_sipush (v := (177 : Int32)) hx hb dX9_digestKinds_27 (by decide) ?_
        refine lv_iload hx hb dX9_digestKinds_30 (lv_at hl 2 rfl) ?_
        refine lv_iadd hx hb dX9_digestKinds_32 ?_
        obtain ⟨hi, hf⟩ := gd_s hf
        refine va_iald (D := (dC, dI)) (f := (M 1)) hx hb hK hP 1 0 rfl rfl (inb_in hi) dX9_digestKinds_33 ?_
        refine lv_i2l (v := (M 1 ((177 : Int32) + l5).toNatClampNeg).toInt64) hx hb dX9_digestKinds_34 rfl ?_
        refine lv_ladd hx hb dX9_digestKinds_35 ?_
        refine lv_lmul hx hb dX9_digestKinds_36 ?_
        refine lv_aload_n hx hb dX9_digestKinds_37 rfl (lv_at hl 0 rfl) ?_
        refine lv_iload hx hb dX9_digestKinds_38 (lv_at hl 2 rfl) ?_
        obtain ⟨r40, hc40, hf⟩ := bi_s hf
        have hPc := hP
        refine cRO (W.runV (As := [.int l5]) (rest := [.long ((31 : Int64) * (((31 : Int64) * l3) + ((M 1 ((177 : Int32) + l5).toNatClampNeg).toInt64))), .long (31 : Int64)]) ⟨hx, hb, hml, hown, hts⟩ (c_X9_stock l dC dI cI cZ a M l5 r40 hc40) (cwV 1 hts gX9_digestKinds_X9_stock rfl rfl rfl (by decide +kernel) ⟨Nat.le_of_ble_eq_true rfl, Nat.le_of_ble_eq_true rfl⟩) ⟨RO.blind, va_recv hK hP (ci := 9) (q0 := 0) rfl rfl, RO.pre hPc hK hNW⟩ rfl rfl hl.1 rfl (lv_room (Nat.le_of_ble_eq_true rfl)) dX9_digestKinds_40 ⟨Nat.le_of_ble_eq_true rfl, Nat.le_of_ble_eq_true rfl⟩) ?_
        refine lv_i2l (v := r40.toInt64) hx hb dX9_digestKinds_43 rfl ?_
        refine lv_ladd hx hb dX9_digestKinds_44 ?_
        refine lv_lmul hx hb dX9_digestKinds_45 ?_
        refine lv_aload_n hx hb dX9_digestKinds_46 rfl (lv_at hl 0 rfl) ?_
        refine va_get (D := (dC, dI)) (ci := 9) (v := .ref (a 1)) (C := RX9) (T := TX9) (N := 13) hx hb hts hinX9 hown hK hP 0 rfl rfl 1 (by decide) hw2 (fun _ h9 => h9) rfl dX9_digestKinds_47 ?_
        refine lv_sipush (v := (197 : Int32)) hx hb dX9_digestKinds_50 (by decide) ?_
        refine lv_iload hx hb dX9_digestKinds_53 (lv_at hl 2 rfl) ?_
        refine lv_iadd hx hb dX9_digestKinds_55 ?_
        obtain ⟨hi, hf⟩ := gd_s hf
        refine va_iald (D := (dC, dI)) (f := (M 1)) hx hb hK hP 1 0 rfl rfl (inb_in hi) dX9_digestKinds_56 ?_
        refine lv_i2l (v := (M 1 ((197 : Int32) + l5).toNatClampNeg).toInt64) hx hb dX9_digestKinds_57 rfl ?_
        refine lv_ladd hx hb dX9_digestKinds_58 ?_
        refine lv_lstore_n (lv' := [(3, .long (((31 : Int64) * (((31 : Int64) * (((31 : Int64) * l3) + ((M 1 ((177 : Int32) + l5).toNatClampNeg).toInt64))) + (r40.toInt64))) + ((M 1 ((197 : Int32) + l5).toNatClampNeg).toInt64))), (0, .ref (a 0)), (5, .int l5)]) hx hb dX9_digestKinds_59 rfl hl (by decide) rfl (fun ls hl => ?_)
        refine lv_ldc2 (v := (31 : Int64)) hx hb hown hw0 dX9_digestKinds_60 ?_
        refine lv_ldc2 (v := (31 : Int64)) hx hb hown hw0 dX9_digestKinds_63 ?_
        refine lv_ldc2 (v := (31 : Int64)) hx hb hown hw0 dX9_digestKinds_66 ?_
        refine lv_lload_n hx hb dX9_digestKinds_69 rfl (lv_at hl 0 rfl) ?_
        refine lv_lmul hx hb dX9_digestKinds_70 ?_
        refine lv_aload_n hx hb dX9_digestKinds_71 rfl (lv_at hl 1 rfl) ?_
        refine lv_iload hx hb dX9_digestKinds_72 (lv_at hl 2 rfl) ?_
        obtain ⟨r74, hc74, hf⟩ := bi_s hf
        have hPc := hP
        refine cRO (W.runV (As := [.int l5]) (rest := [.long ((31 : Int64) * (((31 : Int64) * (((31 : Int64) * (((31 : Int64) * l3) + ((M 1 ((177 : Int32) + l5).toNatClampNeg).toInt64))) + (r40.toInt64))) + ((M 1 ((197 : Int32) + l5).toNatClampNeg).toInt64))), .long (31 : Int64), .long (31 : Int64)]) ⟨hx, hb, hml, hown, hts⟩ (c_X9_having l dC dI cI cZ a M l5 r74 hc74) (cwV 1 hts gX9_digestKinds_X9_having rfl rfl rfl (by decide +kernel) ⟨Nat.le_of_ble_eq_true rfl, Nat.le_of_ble_eq_true rfl⟩) ⟨RO.blind, va_recv hK hP (ci := 9) (q0 := 0) rfl rfl, RO.pre hPc hK hNW⟩ rfl rfl hl.1 rfl (lv_room (Nat.le_of_ble_eq_true rfl)) dX9_digestKinds_74 ⟨Nat.le_of_ble_eq_true rfl, Nat.le_of_ble_eq_true rfl⟩) ?_
        refine lv_i2l (v := r74.toInt64) hx hb dX9_digestKinds_77 rfl ?_
        refine lv_ladd hx hb dX9_digestKinds_78 ?_
        refine lv_lmul hx hb dX9_digestKinds_79 ?_
        refine lv_aload_n hx hb dX9_digestKinds_80 rfl (lv_at hl 1 rfl) ?_
        refine va_get (D := (dC, dI)) (ci := 9) (v := .ref (a 1)) (C := RX9) (T := TX9) (N := 13) hx hb hts hinX9 hown hK hP 0 rfl rfl 1 (by decide) hw2 (fun _ h9 => h9) rfl dX9_digestKinds_81 ?_
        refine lv_sipush (v := (187 : Int32)) hx hb dX9_digestKinds_84 (by decide) ?_
        refine lv_iload hx hb dX9_digestKinds_87 (lv_at hl 2 rfl) ?_
        refine lv_iadd hx hb dX9_digestKinds_89 ?_
        obtain ⟨hi, hf⟩ := gd_s hf
        refine va_iald (D := (dC, dI)) (f := (M 1)) hx hb hK hP 1 0 rfl rfl (inb_in hi) dX9_digestKinds_90 ?_
        refine lv_i2l (v := (M 1 ((187 : Int32) + l5).toNatClampNeg).toInt64) hx hb dX9_digestKinds_91 rfl ?_
        refine lv_ladd hx hb dX9_digestKinds_92 ?_
        refine lv_lmul hx hb dX9_digestKinds_93 ?_
        refine lv_aload_n hx hb dX9_digestKinds_94 rfl (lv_at hl 1 rfl) ?_
        refine lv_iload hx hb dX9_digestKinds_95 (lv_at hl 2 rfl) ?_
        obtain ⟨r97, hc97, hf⟩ := bi_s hf
        have hPc := hP
        refine cRO (W.runV (As := [.int l5]) (rest := [.long ((31 : Int64) * (((31 : Int64) * (((31 : Int64) * (((31 : Int64) * (((31 : Int64) * (((31 : Int64) * l3) + ((M 1 ((177 : Int32) + l5).toNatClampNeg).toInt64))) + (r40.toInt64))) + ((M 1 ((197 : Int32) + l5).toNatClampNeg).toInt64))) + (r74.toInt64))) + ((M 1 ((187 : Int32) + l5).toNatClampNeg).toInt64)))]) ⟨hx, hb, hml, hown, hts⟩ (c_X9_missing l dC dI cI cZ a M l5 r97 hc97) (cwV 1 hts gX9_digestKinds_X9_missing rfl rfl rfl (by decide +kernel) ⟨Nat.le_of_ble_eq_true rfl, Nat.le_of_ble_eq_true rfl⟩) ⟨RO.blind, va_recv hK hP (ci := 9) (q0 := 0) rfl rfl, RO.pre hPc hK hNW⟩ rfl rfl hl.1 rfl (lv_room (Nat.le_of_ble_eq_true rfl)) dX9_digestKinds_97 ⟨Nat.le_of_ble_eq_true rfl, Nat.le_of_ble_eq_true rfl⟩) ?_
        refine lv_i2l (v := r97.toInt64) hx hb dX9_digestKinds_100 rfl ?_
        refine lv_ladd hx hb dX9_digestKinds_101 ?_
        refine lv_lstore_n (lv' := [(3, .long (((31 : Int64) * (((31 : Int64) * (((31 : Int64) * (((31 : Int64) * (((31 : Int64) * (((31 : Int64) * l3) + ((M 1 ((177 : Int32) + l5).toNatClampNeg).toInt64))) + (r40.toInt64))) + ((M 1 ((197 : Int32) + l5).toNatClampNeg).toInt64))) + (r74.toInt64))) + ((M 1 ((187 : Int32) + l5).toNatClampNeg).toInt64))) + (r97.toInt64))), (0, .ref (a 0)), (5, .int l5)]) hx hb dX9_digestKinds_102 rfl hl (by decide) rfl (fun ls hl => ?_)
        refine lv_iinc (v := (l5 + (1 : Int32))) (lv' := [(5, .int (l5 + (1 : Int32))), (3, .long (((31 : Int64) * (((31 : Int64) * (((31 : Int64) * (((31 : Int64) * (((31 : Int64) * (((31 : Int64) * l3) + ((M 1 ((177 : Int32) + l5).toNatClampNeg).toInt64))) + (r40.toInt64))) + ((M 1 ((197 : Int32) + l5).toNatClampNeg).toInt64))) + (r74.toInt64))) + ((M 1 ((187 : Int32) + l5).toNatClampNeg).toInt64))) + (r97.toInt64))), (0, .ref (a 0))]) hx hb dX9_digestKinds_103 hl (k := 2) rfl rfl (by decide) rfl (fun ls hl => ?_)
        refine lv_goto (tgt := 5) hx hb dX9_digestKinds_106 (by decide) ?_
        exact ih kx109 hkx109 (((31 : Int64) * (((31 : Int64) * (((31 : Int64) * (((31 : Int64) * (((31 : Int64) * (((31 : Int64) * l3) + ((M 1 ((177 : Int32) + l5).toNatClampNeg).toInt64))) + (r40.toInt64))) + ((M 1 ((197 : Int32) + l5).toNatClampNeg).toInt64))) + (r74.toInt64))) + ((M 1 ((187 : Int32) + l5).toNatClampNeg).toInt64))) + (r97.toInt64)) (l5 + (1 : Int32)) hf _ (lv_sub hl [2, 1, 0] rfl)
  have hl := lv_entry ([.ref (a 0), .long a1]) (n := 6) (Nat.le_of_ble_eq_true rfl)
  rw [lg_entry_eq]
  generalize (lg_sl ([.ref (a 0), .long a1]) ++ List.replicate (6 - (lg_sl ([.ref (a 0), .long a1])).length) Slot.unset).toArray = ls at hl ⊢
  have hl : lv_has ls 6 [(0, .ref (a 0)), (1, .long a1)] := hl
  unfold fX9_digestKinds at hf
  refine lv_lload_n hx hb dX9_digestKinds_0 rfl (lv_at hl 1 rfl) ?_
  refine lv_lstore_n (lv' := [(3, .long a1), (0, .ref (a 0)), (1, .long a1)]) hx hb dX9_digestKinds_1 rfl hl (by decide) rfl (fun ls hl => ?_)
  refine lv_iconst (v := (0 : Int32)) hx hb dX9_digestKinds_2 (by decide) ?_
  refine lv_istore (lv' := [(5, .int (0 : Int32)), (3, .long a1), (0, .ref (a 0)), (1, .long a1)]) hx hb dX9_digestKinds_3 hl (by decide) rfl (fun ls hl => ?_)
  refine hfX9_digestKinds_L5 5000 _ (fun l3 hf ls hl => ?_) a1 (0 : Int32) hf _ (lv_sub hl [2, 1, 0] rfl)
  refine lv_ldc2 (v := (31 : Int64)) hx hb hown hw0 dX9_digestKinds_109 ?_
  refine lv_ldc2 (v := (31 : Int64)) hx hb hown hw0 dX9_digestKinds_112 ?_
  refine lv_ldc2 (v := (31 : Int64)) hx hb hown hw0 dX9_digestKinds_115 ?_
  refine lv_lload_n hx hb dX9_digestKinds_118 rfl (lv_at hl 1 rfl) ?_
  refine lv_lmul hx hb dX9_digestKinds_119 ?_
  refine lv_aload_n hx hb dX9_digestKinds_120 rfl (lv_at hl 0 rfl) ?_
  obtain ⟨r121, hc121, hf⟩ := bi_s hf
  have hPc := hP
  refine cRO (W.runV (As := []) (rest := [.long ((31 : Int64) * l3), .long (31 : Int64), .long (31 : Int64)]) ⟨hx, hb, hml, hown, hts⟩ (c_X9_lacking l dC dI cI cZ a M r121 hc121) (cwV 0 hts gX9_digestKinds_X9_lacking rfl rfl rfl (by decide +kernel) ⟨Nat.le_of_ble_eq_true rfl, Nat.le_of_ble_eq_true rfl⟩) ⟨RO.blind, va_recv hK hP (ci := 9) (q0 := 0) rfl rfl, RO.pre hPc hK hNW⟩ rfl rfl hl.1 rfl (lv_room (Nat.le_of_ble_eq_true rfl)) dX9_digestKinds_121 ⟨Nat.le_of_ble_eq_true rfl, Nat.le_of_ble_eq_true rfl⟩) ?_
  refine lv_i2l (v := r121.toInt64) hx hb dX9_digestKinds_124 rfl ?_
  refine lv_ladd hx hb dX9_digestKinds_125 ?_
  refine lv_lmul hx hb dX9_digestKinds_126 ?_
  refine lv_aload_n hx hb dX9_digestKinds_127 rfl (lv_at hl 0 rfl) ?_
  refine lv_iconst (v := (0 : Int32)) hx hb dX9_digestKinds_128 (by decide) ?_
  obtain ⟨r129, hc129, hf⟩ := bi_s hf
  have hPc := hP
  refine cRO (W.runV (As := [.int (0 : Int32)]) (rest := [.long ((31 : Int64) * (((31 : Int64) * l3) + (r121.toInt64))), .long (31 : Int64)]) ⟨hx, hb, hml, hown, hts⟩ (c_X9_heavy l dC dI cI cZ a M (0 : Int32) r129 hc129) (cwV 1 hts gX9_digestKinds_X9_heavy rfl rfl rfl (by decide +kernel) ⟨Nat.le_of_ble_eq_true rfl, Nat.le_of_ble_eq_true rfl⟩) ⟨RO.blind, va_recv hK hP (ci := 9) (q0 := 0) rfl rfl, RO.pre hPc hK hNW⟩ rfl rfl hl.1 rfl (lv_room (Nat.le_of_ble_eq_true rfl)) dX9_digestKinds_129 ⟨Nat.le_of_ble_eq_true rfl, Nat.le_of_ble_eq_true rfl⟩) ?_
  refine lv_i2l (v := r129.toInt64) hx hb dX9_digestKinds_132 rfl ?_
  refine lv_ladd hx hb dX9_digestKinds_133 ?_
  refine lv_lmul hx hb dX9_digestKinds_134 ?_
  refine lv_aload_n hx hb dX9_digestKinds_135 rfl (lv_at hl 0 rfl) ?_
  refine lv_iconst (v := (1 : Int32)) hx hb dX9_digestKinds_136 (by decide) ?_
  obtain ⟨r137, hc137, hf⟩ := bi_s hf
  have hPc := hP
  refine cRO (W.runV (As := [.int (1 : Int32)]) (rest := [.long ((31 : Int64) * (((31 : Int64) * (((31 : Int64) * l3) + (r121.toInt64))) + (r129.toInt64)))]) ⟨hx, hb, hml, hown, hts⟩ (c_X9_heavy l dC dI cI cZ a M (1 : Int32) r137 hc137) (cwV 1 hts gX9_digestKinds_X9_heavy rfl rfl rfl (by decide +kernel) ⟨Nat.le_of_ble_eq_true rfl, Nat.le_of_ble_eq_true rfl⟩) ⟨RO.blind, va_recv hK hP (ci := 9) (q0 := 0) rfl rfl, RO.pre hPc hK hNW⟩ rfl rfl hl.1 rfl (lv_room (Nat.le_of_ble_eq_true rfl)) dX9_digestKinds_137 ⟨Nat.le_of_ble_eq_true rfl, Nat.le_of_ble_eq_true rfl⟩) ?_
  refine lv_i2l (v := r137.toInt64) hx hb dX9_digestKinds_140 rfl ?_
  refine lv_ladd hx hb dX9_digestKinds_141 ?_
  exact W.lret (v := (((31 : Int64) * (((31 : Int64) * (((31 : Int64) * l3) + (r121.toInt64))) + (r129.toInt64))) + (r137.toInt64))) hx hb hr (fun t ht hW => ⟨congrArg (fun x => Outcome.returned (some (Value.long x))) (so_e hf), ht⟩) fl0 dX9_digestKinds_142
