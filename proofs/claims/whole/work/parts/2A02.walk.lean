set_option maxHeartbeats 4000000 in
set_option maxRecDepth 100000 in
theorem c_X0_copyFrom (l : Launch) (dC : Nat → ClassId) (dI : Nat → Nat → Nat) (cI cZ : ClassId) (a : Nat → Nat) (sz : Nat) (M : Mem) (z : Mem) (hf : fX0_copyFrom M  = some z) : Met l yX0_copyFrom wsX0_copyFrom ({ frames := 1, cells := 0, slots := 0, locals := 60 } : Room) (va_Pc [.ref (a 0), .ref (a 5)] (WR (dC, dI) cI cZ (wX0_copyFrom cI cZ a M) sz)) (va_Qv (S := Unit) (fun _ => True) (fun _ t => WE (dC, dI) cI cZ (wX0_copyFrom cI cZ a (sr (sr (sr (sr M 1 (z 1)) 2 (z 2)) 3 (z 3)) 4 (z 4))) (va_A (wX0_copyFrom cI cZ a M) sz) t) (va_A (wX0_copyFrom cI cZ a M) sz)) 0 0 (va_A (wX0_copyFrom cI cZ a M) sz) := by
  refine Met.ofW (cc := cX0_copyFrom) (maxL := 2) (ret := none) (by decide) rfl ?_
  intro p e s m args below meth c s₁ B hml hv
  obtain ⟨rfl, hsz, hP, hK, hD0, hNW⟩ := hv
  have hx := B.exec
  have hb := B.bytes
  have hr := B.returns
  have hts := atoms_spec (ws := wsX0_copyFrom) B.pre
  have hown : s.vm.findClass RX0 = some m.cls := findClass_of_methodNamed B.named
  have hlocks := B.notSynchronized
  have hinX0 : ∀ w ∈ u_ws RX0 TX0 4, w ∈ wsX0_copyFrom := by decide +kernel
  have hw1 := hts (.fieldLink RX0 9 "GlideShelves$Goods" "weights" "[I") (by decide +kernel)
  have hw2 := hts (.methodLink RX0 24 arraycopyName) (by decide +kernel)
  have hw3 := hts (.native arraycopyName) (by decide +kernel)
  have hw4 := hts (.static arraycopyName) (by decide +kernel)
  have hw5 := hts (.initialized "java/lang/System") (by decide +kernel)
  have hw6 := hts (.fieldLink RX0 15 "GlideShelves$Goods" "leasts" "[I") (by decide +kernel)
  have hw7 := hts (.fieldLink RX0 18 "GlideShelves$Goods" "filledIn" "[I") (by decide +kernel)
  have hw8 := hts (.fieldLink RX0 21 "GlideShelves$Goods" "takenOut" "[I") (by decide +kernel)
  subst hsz
  have hD := hD0.self (sz := s.heap.size)
  generalize hAe : va_A (wX0_copyFrom cI cZ a M) s.heap.size = A at hD ⊢
  have hA : ∀ q : Nat, s.heap.size ≤ q → A q := fun q h => by rw [← hAe]; exact Or.inr h
  have hS : va_S A s.heap s.heap [] := va_S.rf
  have hl := lv_entry ([.ref (a 0), .ref (a 5)]) (n := 2) (Nat.le_of_ble_eq_true rfl)
  rw [lg_entry_eq]
  generalize (lg_sl ([.ref (a 0), .ref (a 5)]) ++ List.replicate (2 - (lg_sl ([.ref (a 0), .ref (a 5)])).length) Slot.unset).toArray = ls at hl ⊢
  have hl : lv_has ls 2 [(0, .ref (a 0)), (1, .ref (a 5))] := hl
  unfold fX0_copyFrom at hf
  suffices hgo : ∀ (H : Heap) (locs : List Loc), va_P (dC, dI) vwCl (wX0_copyFrom cI cZ a M) H → va_D A (wX0_copyFrom cI cZ a M) → va_S A s.heap H locs → W p l e (headSpec wsX0_copyFrom ({ frames := 1, cells := 0, slots := 0, locals := 60 } : Room)).room s m ([.ref (a 0), .ref (a 5)] : List Value).toArray below meth c H locs 0 0 (MQ below (va_Qv (S := Unit) (fun _ => True) (fun _ t => WE (dC, dI) cI cZ (wX0_copyFrom cI cZ a (sr (sr (sr (sr M 1 (z 1)) 2 (z 2)) 3 (z 3)) 4 (z 4))) A t) A) ([.ref (a 0), .ref (a 5)] : List Value).toArray s 0 0 A) (F0 m 0 ls []) from hgo _ _ hP hD hS
  intro H locs hP hD hS
  refine lv_aload_n hx hb dX0_copyFrom_0 rfl (lv_at hl 1 rfl) ?_
  refine va_get (D := (dC, dI)) (ci := 0) (v := .ref (a 6)) (C := RX0) (T := TX0) (N := 4) hx hb hts hinX0 hown hK hP 5 rfl rfl 0 (by decide) hw1 (fun _ h9 => h9) rfl dX0_copyFrom_1 ?_
  refine lv_iconst (v := (0 : Int32)) hx hb dX0_copyFrom_4 (by decide) ?_
  refine lv_aload_n hx hb dX0_copyFrom_5 rfl (lv_at hl 0 rfl) ?_
  refine va_get (D := (dC, dI)) (ci := 0) (v := .ref (a 1)) (C := RX0) (T := TX0) (N := 4) hx hb hts hinX0 hown hK hP 0 rfl rfl 0 (by decide) hw1 (fun _ h9 => h9) rfl dX0_copyFrom_6 ?_
  refine lv_iconst (v := (0 : Int32)) hx hb dX0_copyFrom_9 (by decide) ?_
  refine lv_bipush (v := (10 : Int32)) hx hb dX0_copyFrom_10 (by decide) ?_
  obtain ⟨hz, hf⟩ := gd_s hf
  obtain ⟨h1, h2, h3, h4, h5⟩ := cpk_s hz
  refine va_copyi (D := (dC, dI)) (f := (M 6)) (g := (M 1)) (ty := .int) hx hb (hml.trans hl.1.symm) hown hw2 hw3 hw4 hw5 hK hP hD hS 6 1 0 0 rfl rfl rfl rfl rfl h1 h2 h3 h4 h5 (fun _ _ => rfl) (Nat.le_of_ble_eq_true rfl) (by decide +kernel) dX0_copyFrom_12 (fun H locs hP hD hS => ?_)
  have hP : va_P (dC, dI) vwCl (wX0_copyFrom cI cZ a (sr M 1 (va_cpy (M 6) (M 1) (0 : Int32).toNatClampNeg (0 : Int32).toNatClampNeg (10 : Int32).toNatClampNeg))) H := hP
  have hD : va_D A (wX0_copyFrom cI cZ a (sr M 1 (va_cpy (M 6) (M 1) (0 : Int32).toNatClampNeg (0 : Int32).toNatClampNeg (10 : Int32).toNatClampNeg))) := hD
  refine lv_aload_n hx hb dX0_copyFrom_15 rfl (lv_at hl 1 rfl) ?_
  refine va_get (D := (dC, dI)) (ci := 0) (v := .ref (a 7)) (C := RX0) (T := TX0) (N := 4) hx hb hts hinX0 hown hK hP 5 rfl rfl 1 (by decide) hw6 (fun _ h9 => h9) rfl dX0_copyFrom_16 ?_
  refine lv_iconst (v := (0 : Int32)) hx hb dX0_copyFrom_19 (by decide) ?_
  refine lv_aload_n hx hb dX0_copyFrom_20 rfl (lv_at hl 0 rfl) ?_
  refine va_get (D := (dC, dI)) (ci := 0) (v := .ref (a 2)) (C := RX0) (T := TX0) (N := 4) hx hb hts hinX0 hown hK hP 0 rfl rfl 1 (by decide) hw6 (fun _ h9 => h9) rfl dX0_copyFrom_21 ?_
  refine lv_iconst (v := (0 : Int32)) hx hb dX0_copyFrom_24 (by decide) ?_
  refine lv_bipush (v := (10 : Int32)) hx hb dX0_copyFrom_25 (by decide) ?_
  obtain ⟨hz, hf⟩ := gd_s hf
  obtain ⟨h1, h2, h3, h4, h5⟩ := cpk_s hz
  refine va_copyi (D := (dC, dI)) (f := (M 7)) (g := (M 2)) (ty := .int) hx hb (hml.trans hl.1.symm) hown hw2 hw3 hw4 hw5 hK hP hD hS 7 2 0 0 rfl rfl rfl rfl rfl h1 h2 h3 h4 h5 (fun _ _ => rfl) (Nat.le_of_ble_eq_true rfl) (by decide +kernel) dX0_copyFrom_27 (fun H locs hP hD hS => ?_)
  have hP : va_P (dC, dI) vwCl (wX0_copyFrom cI cZ a (sr (sr M 1 (va_cpy (M 6) (M 1) (0 : Int32).toNatClampNeg (0 : Int32).toNatClampNeg (10 : Int32).toNatClampNeg)) 2 (va_cpy (M 7) (M 2) (0 : Int32).toNatClampNeg (0 : Int32).toNatClampNeg (10 : Int32).toNatClampNeg))) H := hP
  have hD : va_D A (wX0_copyFrom cI cZ a (sr (sr M 1 (va_cpy (M 6) (M 1) (0 : Int32).toNatClampNeg (0 : Int32).toNatClampNeg (10 : Int32).toNatClampNeg)) 2 (va_cpy (M 7) (M 2) (0 : Int32).toNatClampNeg (0 : Int32).toNatClampNeg (10 : Int32).toNatClampNeg))) := hD
  refine lv_aload_n hx hb dX0_copyFrom_30 rfl (lv_at hl 1 rfl) ?_
  refine va_get (D := (dC, dI)) (ci := 0) (v := .ref (a 8)) (C := RX0) (T := TX0) (N := 4) hx hb hts hinX0 hown hK hP 5 rfl rfl 2 (by decide) hw7 (fun _ h9 => h9) rfl dX0_copyFrom_31 ?_
  refine lv_iconst (v := (0 : Int32)) hx hb dX0_copyFrom_34 (by decide) ?_
  refine lv_aload_n hx hb dX0_copyFrom_35 rfl (lv_at hl 0 rfl) ?_
  refine va_get (D := (dC, dI)) (ci := 0) (v := .ref (a 3)) (C := RX0) (T := TX0) (N := 4) hx hb hts hinX0 hown hK hP 0 rfl rfl 2 (by decide) hw7 (fun _ h9 => h9) rfl dX0_copyFrom_36 ?_
  refine lv_iconst (v := (0 : Int32)) hx hb dX0_copyFrom_39 (by decide) ?_
  refine lv_bipush (v := (10 : Int32)) hx hb dX0_copyFrom_40 (by decide) ?_
  obtain ⟨hz, hf⟩ := gd_s hf
  obtain ⟨h1, h2, h3, h4, h5⟩ := cpk_s hz
  refine va_copyi (D := (dC, dI)) (f := (M 8)) (g := (M 3)) (ty := .int) hx hb (hml.trans hl.1.symm) hown hw2 hw3 hw4 hw5 hK hP hD hS 8 3 0 0 rfl rfl rfl rfl rfl h1 h2 h3 h4 h5 (fun _ _ => rfl) (Nat.le_of_ble_eq_true rfl) (by decide +kernel) dX0_copyFrom_42 (fun H locs hP hD hS => ?_)
  have hP : va_P (dC, dI) vwCl (wX0_copyFrom cI cZ a (sr (sr (sr M 1 (va_cpy (M 6) (M 1) (0 : Int32).toNatClampNeg (0 : Int32).toNatClampNeg (10 : Int32).toNatClampNeg)) 2 (va_cpy (M 7) (M 2) (0 : Int32).toNatClampNeg (0 : Int32).toNatClampNeg (10 : Int32).toNatClampNeg)) 3 (va_cpy (M 8) (M 3) (0 : Int32).toNatClampNeg (0 : Int32).toNatClampNeg (10 : Int32).toNatClampNeg))) H := hP
  have hD : va_D A (wX0_copyFrom cI cZ a (sr (sr (sr M 1 (va_cpy (M 6) (M 1) (0 : Int32).toNatClampNeg (0 : Int32).toNatClampNeg (10 : Int32).toNatClampNeg)) 2 (va_cpy (M 7) (M 2) (0 : Int32).toNatClampNeg (0 : Int32).toNatClampNeg (10 : Int32).toNatClampNeg)) 3 (va_cpy (M 8) (M 3) (0 : Int32).toNatClampNeg (0 : Int32).toNatClampNeg (10 : Int32).toNatClampNeg))) := hD
  refine lv_aload_n hx hb dX0_copyFrom_45 rfl (lv_at hl 1 rfl) ?_
  refine va_get (D := (dC, dI)) (ci := 0) (v := .ref (a 9)) (C := RX0) (T := TX0) (N := 4) hx hb hts hinX0 hown hK hP 5 rfl rfl 3 (by decide) hw8 (fun _ h9 => h9) rfl dX0_copyFrom_46 ?_
  refine lv_iconst (v := (0 : Int32)) hx hb dX0_copyFrom_49 (by decide) ?_
  refine lv_aload_n hx hb dX0_copyFrom_50 rfl (lv_at hl 0 rfl) ?_
  refine va_get (D := (dC, dI)) (ci := 0) (v := .ref (a 4)) (C := RX0) (T := TX0) (N := 4) hx hb hts hinX0 hown hK hP 0 rfl rfl 3 (by decide) hw8 (fun _ h9 => h9) rfl dX0_copyFrom_51 ?_
  refine lv_iconst (v := (0 : Int32)) hx hb dX0_copyFrom_54 (by decide) ?_
  refine lv_bipush (v := (10 : Int32)) hx hb dX0_copyFrom_55 (by decide) ?_
  obtain ⟨hz, hf⟩ := gd_s hf
  obtain ⟨h1, h2, h3, h4, h5⟩ := cpk_s hz
  refine va_copyi (D := (dC, dI)) (f := (M 9)) (g := (M 4)) (ty := .int) hx hb (hml.trans hl.1.symm) hown hw2 hw3 hw4 hw5 hK hP hD hS 9 4 0 0 rfl rfl rfl rfl rfl h1 h2 h3 h4 h5 (fun _ _ => rfl) (Nat.le_of_ble_eq_true rfl) (by decide +kernel) dX0_copyFrom_57 (fun H locs hP hD hS => ?_)
  have hP : va_P (dC, dI) vwCl (wX0_copyFrom cI cZ a (sr (sr (sr (sr M 1 (va_cpy (M 6) (M 1) (0 : Int32).toNatClampNeg (0 : Int32).toNatClampNeg (10 : Int32).toNatClampNeg)) 2 (va_cpy (M 7) (M 2) (0 : Int32).toNatClampNeg (0 : Int32).toNatClampNeg (10 : Int32).toNatClampNeg)) 3 (va_cpy (M 8) (M 3) (0 : Int32).toNatClampNeg (0 : Int32).toNatClampNeg (10 : Int32).toNatClampNeg)) 4 (va_cpy (M 9) (M 4) (0 : Int32).toNatClampNeg (0 : Int32).toNatClampNeg (10 : Int32).toNatClampNeg))) H := hP
  have hD : va_D A (wX0_copyFrom cI cZ a (sr (sr (sr (sr M 1 (va_cpy (M 6) (M 1) (0 : Int32).toNatClampNeg (0 : Int32).toNatClampNeg (10 : Int32).toNatClampNeg)) 2 (va_cpy (M 7) (M 2) (0 : Int32).toNatClampNeg (0 : Int32).toNatClampNeg (10 : Int32).toNatClampNeg)) 3 (va_cpy (M 8) (M 3) (0 : Int32).toNatClampNeg (0 : Int32).toNatClampNeg (10 : Int32).toNatClampNeg)) 4 (va_cpy (M 9) (M 4) (0 : Int32).toNatClampNeg (0 : Int32).toNatClampNeg (10 : Int32).toNatClampNeg))) := hD
  have e9 := so_e hf
  subst e9
  exact W.vret hx hb hr (fun t ht hW => ⟨⟨(), rfl, trivial, WE.mk hP hD ht⟩, hS.F ht⟩) hS.2.2 dX0_copyFrom_60
set_option maxHeartbeats 4000000 in
set_option maxRecDepth 100000 in
theorem c_X3_copyFrom (l : Launch) (dC : Nat → ClassId) (dI : Nat → Nat → Nat) (cI cZ : ClassId) (a : Nat → Nat) (sz : Nat) (M : Mem) (z : Mem) (hf : fX3_copyFrom M  = some z) : Met l yX3_copyFrom wsX3_copyFrom ({ frames := 1, cells := 0, slots := 0, locals := 60 } : Room) (va_Pc [.ref (a 0), .ref (a 2)] (WR (dC, dI) cI cZ (wX3_copyFrom cI cZ a M) sz)) (va_Qv (S := Unit) (fun _ => True) (fun _ t => WE (dC, dI) cI cZ (wX3_copyFrom cI cZ a (sr (sr M 0 (z 0)) 1 (z 1))) (va_A (wX3_copyFrom cI cZ a M) sz) t) (va_A (wX3_copyFrom cI cZ a M) sz)) 0 0 (va_A (wX3_copyFrom cI cZ a M) sz) := by
  refine Met.ofW (cc := cX3_copyFrom) (maxL := 2) (ret := none) (by decide) rfl ?_
  intro p e s m args below meth c s₁ B hml hv
  obtain ⟨rfl, hsz, hP, hK, hD0, hNW⟩ := hv
  have hx := B.exec
  have hb := B.bytes
  have hr := B.returns
  have hts := atoms_spec (ws := wsX3_copyFrom) B.pre
  have hown : s.vm.findClass RX3 = some m.cls := findClass_of_methodNamed B.named
  have hlocks := B.notSynchronized
  have hinX3 : ∀ w ∈ u_ws RX3 TX3 2, w ∈ wsX3_copyFrom := by decide +kernel
  have hw1 := hts (.fieldLink RX3 9 "GlideShelves$OrderBook" "count" "I") (by decide +kernel)
  have hw2 := hts (.fieldLink RX3 15 "GlideShelves$OrderBook" "wants" "[I") (by decide +kernel)
  have hw3 := hts (.methodLink RX3 19 arraycopyName) (by decide +kernel)
  have hw4 := hts (.native arraycopyName) (by decide +kernel)
  have hw5 := hts (.static arraycopyName) (by decide +kernel)
  have hw6 := hts (.initialized "java/lang/System") (by decide +kernel)
  subst hsz
  have hD := hD0.self (sz := s.heap.size)
  generalize hAe : va_A (wX3_copyFrom cI cZ a M) s.heap.size = A at hD ⊢
  have hA : ∀ q : Nat, s.heap.size ≤ q → A q := fun q h => by rw [← hAe]; exact Or.inr h
  have hS : va_S A s.heap s.heap [] := va_S.rf
  have hl := lv_entry ([.ref (a 0), .ref (a 2)]) (n := 2) (Nat.le_of_ble_eq_true rfl)
  rw [lg_entry_eq]
  generalize (lg_sl ([.ref (a 0), .ref (a 2)]) ++ List.replicate (2 - (lg_sl ([.ref (a 0), .ref (a 2)])).length) Slot.unset).toArray = ls at hl ⊢
  have hl : lv_has ls 2 [(0, .ref (a 0)), (1, .ref (a 2))] := hl
  unfold fX3_copyFrom at hf
  suffices hgo : ∀ (H : Heap) (locs : List Loc), va_P (dC, dI) vwCl (wX3_copyFrom cI cZ a M) H → va_D A (wX3_copyFrom cI cZ a M) → va_S A s.heap H locs → W p l e (headSpec wsX3_copyFrom ({ frames := 1, cells := 0, slots := 0, locals := 60 } : Room)).room s m ([.ref (a 0), .ref (a 2)] : List Value).toArray below meth c H locs 0 0 (MQ below (va_Qv (S := Unit) (fun _ => True) (fun _ t => WE (dC, dI) cI cZ (wX3_copyFrom cI cZ a (sr (sr M 0 (z 0)) 1 (z 1))) A t) A) ([.ref (a 0), .ref (a 2)] : List Value).toArray s 0 0 A) (F0 m 0 ls []) from hgo _ _ hP hD hS
  intro H locs hP hD hS
  refine lv_aload_n hx hb dX3_copyFrom_0 rfl (lv_at hl 0 rfl) ?_
  refine lv_aload_n hx hb dX3_copyFrom_1 rfl (lv_at hl 1 rfl) ?_
  refine va_get (D := (dC, dI)) (ci := 3) (v := .int (M 2 0)) (C := RX3) (T := TX3) (N := 2) hx hb hts hinX3 hown hK hP 2 rfl rfl 0 (by decide) hw1 (fun _ h9 => h9) rfl dX3_copyFrom_2 ?_
  refine va_put (D := (dC, dI)) (ci := 3) (v := .int (M 2 0)) (ty := .int) (C := RX3) (T := TX3) (N := 2) hx hb hts hinX3 tyX3 tyX3_ok nmX3 hown hK hP hD hS 0 rfl rfl 0 (by decide) hw1 (fun _ h9 => h9) rfl (by decide +kernel) rfl rfl (Nat.le_of_ble_eq_true rfl) dX3_copyFrom_5 (fun H locs hP hD hS => ?_)
  have hP : va_P (dC, dI) vwCl (wX3_copyFrom cI cZ a (sr M 0 (upd (M 0) 0 (M 2 0)))) H := hP
  have hD : va_D A (wX3_copyFrom cI cZ a (sr M 0 (upd (M 0) 0 (M 2 0)))) := hD
  refine lv_aload_n hx hb dX3_copyFrom_8 rfl (lv_at hl 1 rfl) ?_
  refine va_get (D := (dC, dI)) (ci := 3) (v := .ref (a 3)) (C := RX3) (T := TX3) (N := 2) hx hb hts hinX3 hown hK hP 2 rfl rfl 1 (by decide) hw2 (fun _ h9 => h9) rfl dX3_copyFrom_9 ?_
  refine lv_iconst (v := (0 : Int32)) hx hb dX3_copyFrom_12 (by decide) ?_
  refine lv_aload_n hx hb dX3_copyFrom_13 rfl (lv_at hl 0 rfl) ?_
  refine va_get (D := (dC, dI)) (ci := 3) (v := .ref (a 1)) (C := RX3) (T := TX3) (N := 2) hx hb hts hinX3 hown hK hP 0 rfl rfl 1 (by decide) hw2 (fun _ h9 => h9) rfl dX3_copyFrom_14 ?_
  refine lv_iconst (v := (0 : Int32)) hx hb dX3_copyFrom_17 (by decide) ?_
  refine lv_bipush (v := (80 : Int32)) hx hb dX3_copyFrom_18 (by decide) ?_
  obtain ⟨hz, hf⟩ := gd_s hf
  obtain ⟨h1, h2, h3, h4, h5⟩ := cpk_s hz
  refine va_copyi (D := (dC, dI)) (f := (M 3)) (g := (M 1)) (ty := .int) hx hb (hml.trans hl.1.symm) hown hw3 hw4 hw5 hw6 hK hP hD hS 3 1 0 0 rfl rfl rfl rfl rfl h1 h2 h3 h4 h5 (fun _ _ => rfl) (Nat.le_of_ble_eq_true rfl) (by decide +kernel) dX3_copyFrom_20 (fun H locs hP hD hS => ?_)
  have hP : va_P (dC, dI) vwCl (wX3_copyFrom cI cZ a (sr (sr M 0 (upd (M 0) 0 (M 2 0))) 1 (va_cpy (M 3) (M 1) (0 : Int32).toNatClampNeg (0 : Int32).toNatClampNeg (80 : Int32).toNatClampNeg))) H := hP
  have hD : va_D A (wX3_copyFrom cI cZ a (sr (sr M 0 (upd (M 0) 0 (M 2 0))) 1 (va_cpy (M 3) (M 1) (0 : Int32).toNatClampNeg (0 : Int32).toNatClampNeg (80 : Int32).toNatClampNeg))) := hD
  have e9 := so_e hf
  subst e9
  exact W.vret hx hb hr (fun t ht hW => ⟨⟨(), rfl, trivial, WE.mk hP hD ht⟩, hS.F ht⟩) hS.2.2 dX3_copyFrom_23
set_option maxHeartbeats 4000000 in
set_option maxRecDepth 100000 in
theorem c_X3_add (l : Launch) (dC : Nat → ClassId) (dI : Nat → Nat → Nat) (cI cZ : ClassId) (a : Nat → Nat) (sz : Nat) (M : Mem) (z : Int32 × Mem) (hf : fX3_add M  = some z) : Met l yX3_add wsX3_add ({ frames := 0, cells := 0, slots := 0, locals := 0 } : Room) (va_Pc [.ref (a 0), .ref (a 2)] (WR (dC, dI) cI cZ (wX3_add cI cZ a M) sz)) (va_Qi (S := Unit) (fun r _ => r = z.1) (fun _ t => WE (dC, dI) cI cZ (wX3_add cI cZ a (sr (sr M 0 (z.2 0)) 1 (z.2 1))) (va_A (wX3_add cI cZ a M) sz) t) (va_A (wX3_add cI cZ a M) sz)) 0 0 (va_A (wX3_add cI cZ a M) sz) := by
  refine Met.ofW (cc := cX3_add) (maxL := 4) (ret := (some .int)) (by decide) rfl ?_
  intro p e s m args below meth c s₁ B hml hv
  obtain ⟨rfl, hsz, hP, hK, hD0, hNW⟩ := hv
  have hx := B.exec
  have hb := B.bytes
  have hr := B.returns
  have hts := atoms_spec (ws := wsX3_add) B.pre
  have hown : s.vm.findClass RX3 = some m.cls := findClass_of_methodNamed B.named
  have hlocks := B.notSynchronized
  have hinX3 : ∀ w ∈ u_ws RX3 TX3 2, w ∈ wsX3_add := by decide +kernel
  have hw1 := hts (.fieldLink RX3 9 "GlideShelves$OrderBook" "count" "I") (by decide +kernel)
  have hw2 := hts (.fieldLink RX3 15 "GlideShelves$OrderBook" "wants" "[I") (by decide +kernel)
  subst hsz
  have hD := hD0.self (sz := s.heap.size)
  generalize hAe : va_A (wX3_add cI cZ a M) s.heap.size = A at hD ⊢
  have hA : ∀ q : Nat, s.heap.size ≤ q → A q := fun q h => by rw [← hAe]; exact Or.inr h
  have hS : va_S A s.heap s.heap [] := va_S.rf
  have hfX3_add_L7 : ∀ (n : Nat) (kx39 : Mem → Int32 → Option (Int32 × Mem)) (hkx39 : ∀ (N : Mem) (l2 : Int32), kx39 N l2 = some z → ∀ (ls : Array Slot), lv_has ls 4 [(0, .ref (a 0)), (2, .int l2)] → ∀ (H : Heap) (locs : List Loc), va_P (dC, dI) vwCl (wX3_add cI cZ a (sr (sr M 0 (N 0)) 1 (N 1))) H → va_D A (wX3_add cI cZ a (sr (sr M 0 (N 0)) 1 (N 1))) → va_S A s.heap H locs → W p l e (headSpec wsX3_add ({ frames := 0, cells := 0, slots := 0, locals := 0 } : Room)).room s m ([.ref (a 0), .ref (a 2)] : List Value).toArray below meth c H locs 0 0 (MQ below (va_Qi (S := Unit) (fun r _ => r = z.1) (fun _ t => WE (dC, dI) cI cZ (wX3_add cI cZ a (sr (sr M 0 (z.2 0)) 1 (z.2 1))) A t) A) ([.ref (a 0), .ref (a 2)] : List Value).toArray s 0 0 A) (F0 m 39 ls [])), ∀ (N : Mem) (l2 : Int32) (l3 : Int32), fX3_add_L7 M n kx39 N l2 l3 = some z → ∀ (ls : Array Slot), lv_has ls 4 [(0, .ref (a 0)), (1, .ref (a 2)), (2, .int l2), (3, .int l3)] → ∀ (H : Heap) (locs : List Loc), va_P (dC, dI) vwCl (wX3_add cI cZ a (sr (sr M 0 (N 0)) 1 (N 1))) H → va_D A (wX3_add cI cZ a (sr (sr M 0 (N 0)) 1 (N 1))) → va_S A s.heap H locs → W p l e (headSpec wsX3_add ({ frames := 0, cells := 0, slots := 0, locals := 0 } : Room)).room s m ([.ref (a 0), .ref (a 2)] : List Value).toArray below meth c H locs 0 0 (MQ below (va_Qi (S := Unit) (fun r _ => r = z.1) (fun _ t => WE (dC, dI) cI cZ (wX3_add cI cZ a (sr (sr M 0 (z.2 0)) 1 (z.2 1))) A t) A) ([.ref (a 0), .ref (a 2)] : List Value).toArray s 0 0 A) (F0 m 7 ls []) := by
    intro n
    induction n with
    | zero =>
      intro kx39 hkx39 N l2 l3 hf ls hl H locs hP hD hS
      rw [fX3_add_L7] at hf
      cases hf
    | succ n ih =>
      intro kx39 hkx39 N l2 l3 hf ls hl H locs hP hD hS
      rw [fX3_add_L7] at hf
      refine lv_iload_n hx hb dX3_add_7 rfl (lv_at hl 3 rfl) ?_
      refine lv_bipush (v := (10 : Int32)) hx hb dX3_add_8 (by decide) ?_
      refine lv_icmp_ge (tgt := 39) hx hb dX3_add_10 (by decide) (fun c9 => ?_) (fun c9 => ?_)
      · have hf := it_t hf c9
        exact hkx39 (sr (sr M 0 (N 0)) 1 (N 1)) l2 hf _ (lv_sub hl [0, 2] rfl) _ _ hP hD hS
      · have hf := it_f hf c9
        refine lv_iload_n hx hb dX3_add_13 rfl (lv_at hl 3 rfl) ?_
        refine lv_aload_n hx hb dX3_add_14 rfl (lv_at hl 1 rfl) ?_
        refine va_alen (v := (10 : Int32)) hx hb hK hP 2 0 rfl rfl rfl dX3_add_15 ?_
        refine lv_icmp_ge (tgt := 39) hx hb dX3_add_16 (by decide) (fun c9 => ?_) (fun c9 => ?_)
        · have hf := it_t hf c9
          exact hkx39 (sr (sr M 0 (N 0)) 1 (N 1)) l2 hf _ (lv_sub hl [0, 2] rfl) _ _ hP hD hS
        · have hf := it_f hf c9
          refine lv_aload_n hx hb dX3_add_19 rfl (lv_at hl 0 rfl) ?_
          refine va_get (D := (dC, dI)) (ci := 3) (v := .ref (a 1)) (C := RX3) (T := TX3) (N := 2) hx hb hts hinX3 hown hK hP 0 rfl rfl 1 (by decide) hw2 (fun _ h9 => h9) rfl dX3_add_20 ?_
          refine lv_iload_n hx hb dX3_add_23 rfl (lv_at hl 2 rfl) ?_
          refine lv_bipush (v := (10 : Int32)) hx hb dX3_add_24 (by decide) ?_
          refine lv_imul hx hb dX3_add_26 ?_
          refine lv_iload_n hx hb dX3_add_27 rfl (lv_at hl 3 rfl) ?_
          refine lv_iadd hx hb dX3_add_28 ?_
          refine lv_aload_n hx hb dX3_add_29 rfl (lv_at hl 1 rfl) ?_
          refine lv_iload_n hx hb dX3_add_30 rfl (lv_at hl 3 rfl) ?_
          obtain ⟨hi, hf⟩ := gd_s hf
          refine va_iald (D := (dC, dI)) (f := (M 2)) hx hb hK hP 2 0 rfl rfl (inb_in hi) dX3_add_31 ?_
          obtain ⟨hi, hf⟩ := gd_s hf
          refine va_iast (D := (dC, dI)) (f := (N 1)) hx hb hK hP hD hS 1 0 rfl rfl (inb_in hi) dX3_add_32 (fun H locs hP hD hS => ?_)
          have hP : va_P (dC, dI) vwCl (wX3_add cI cZ a (sr (sr M 0 (N 0)) 1 (upd (N 1) ((l2 * (10 : Int32)) + l3).toNatClampNeg (M 2 l3.toNatClampNeg)))) H := hP
          have hD : va_D A (wX3_add cI cZ a (sr (sr M 0 (N 0)) 1 (upd (N 1) ((l2 * (10 : Int32)) + l3).toNatClampNeg (M 2 l3.toNatClampNeg)))) := hD
          refine lv_iinc (v := (l3 + (1 : Int32))) (lv' := [(3, .int (l3 + (1 : Int32))), (0, .ref (a 0)), (1, .ref (a 2)), (2, .int l2)]) hx hb dX3_add_33 hl (k := 3) rfl rfl (by decide) rfl (fun ls hl => ?_)
          refine lv_goto (tgt := 7) hx hb dX3_add_36 (by decide) ?_
          exact ih kx39 hkx39 (sr (sr M 0 (N 0)) 1 (upd (N 1) ((l2 * (10 : Int32)) + l3).toNatClampNeg (M 2 l3.toNatClampNeg))) l2 (l3 + (1 : Int32)) hf _ (lv_sub hl [1, 2, 3, 0] rfl) _ _ hP hD hS
  have hl := lv_entry ([.ref (a 0), .ref (a 2)]) (n := 4) (Nat.le_of_ble_eq_true rfl)
  rw [lg_entry_eq]
  generalize (lg_sl ([.ref (a 0), .ref (a 2)]) ++ List.replicate (4 - (lg_sl ([.ref (a 0), .ref (a 2)])).length) Slot.unset).toArray = ls at hl ⊢
  have hl : lv_has ls 4 [(0, .ref (a 0)), (1, .ref (a 2))] := hl
  unfold fX3_add at hf
  suffices hgo : ∀ (H : Heap) (locs : List Loc), va_P (dC, dI) vwCl (wX3_add cI cZ a M) H → va_D A (wX3_add cI cZ a M) → va_S A s.heap H locs → W p l e (headSpec wsX3_add ({ frames := 0, cells := 0, slots := 0, locals := 0 } : Room)).room s m ([.ref (a 0), .ref (a 2)] : List Value).toArray below meth c H locs 0 0 (MQ below (va_Qi (S := Unit) (fun r _ => r = z.1) (fun _ t => WE (dC, dI) cI cZ (wX3_add cI cZ a (sr (sr M 0 (z.2 0)) 1 (z.2 1))) A t) A) ([.ref (a 0), .ref (a 2)] : List Value).toArray s 0 0 A) (F0 m 0 ls []) from hgo _ _ hP hD hS
  intro H locs hP hD hS
  refine lv_aload_n hx hb dX3_add_0 rfl (lv_at hl 0 rfl) ?_
  refine va_get (D := (dC, dI)) (ci := 3) (v := .int (M 0 0)) (C := RX3) (T := TX3) (N := 2) hx hb hts hinX3 hown hK hP 0 rfl rfl 0 (by decide) hw1 (fun _ h9 => h9) rfl dX3_add_1 ?_
  refine lv_istore_n (lv' := [(2, .int (M 0 0)), (0, .ref (a 0)), (1, .ref (a 2))]) hx hb dX3_add_4 rfl hl (by decide) rfl (fun ls hl => ?_)
  refine lv_iconst (v := (0 : Int32)) hx hb dX3_add_5 (by decide) ?_
  refine lv_istore_n (lv' := [(3, .int (0 : Int32)), (2, .int (M 0 0)), (0, .ref (a 0)), (1, .ref (a 2))]) hx hb dX3_add_6 rfl hl (by decide) rfl (fun ls hl => ?_)
  refine hfX3_add_L7 5000 _ (fun N l2 hf ls hl H locs hP hD hS => ?_) M (M 0 0) (0 : Int32) hf _ (lv_sub hl [2, 3, 1, 0] rfl) _ _ hP hD hS
  refine lv_aload_n hx hb dX3_add_39 rfl (lv_at hl 0 rfl) ?_
  refine lv_dup hx hb dX3_add_40 rfl ?_
  refine va_get (D := (dC, dI)) (ci := 3) (v := .int (N 0 0)) (C := RX3) (T := TX3) (N := 2) hx hb hts hinX3 hown hK hP 0 rfl rfl 0 (by decide) hw1 (fun _ h9 => h9) rfl dX3_add_41 ?_
  refine lv_iconst (v := (1 : Int32)) hx hb dX3_add_44 (by decide) ?_
  refine lv_iadd hx hb dX3_add_45 ?_
  refine va_put (D := (dC, dI)) (ci := 3) (v := .int ((N 0 0) + (1 : Int32))) (ty := .int) (C := RX3) (T := TX3) (N := 2) hx hb hts hinX3 tyX3 tyX3_ok nmX3 hown hK hP hD hS 0 rfl rfl 0 (by decide) hw1 (fun _ h9 => h9) rfl (by decide +kernel) rfl rfl (Nat.le_of_ble_eq_true rfl) dX3_add_46 (fun H locs hP hD hS => ?_)
  have hP : va_P (dC, dI) vwCl (wX3_add cI cZ a (sr (sr M 0 (upd (N 0) 0 ((N 0 0) + (1 : Int32)))) 1 (N 1))) H := hP
  have hD : va_D A (wX3_add cI cZ a (sr (sr M 0 (upd (N 0) 0 ((N 0 0) + (1 : Int32)))) 1 (N 1))) := hD
  refine lv_iload_n hx hb dX3_add_49 rfl (lv_at hl 1 rfl) ?_
  have e9 := so_e hf
  subst e9
  exact W.iret (v := l2) hx hb hr (fun t ht hW => ⟨⟨l2, (), rfl, rfl, WE.mk hP hD ht⟩, hS.F ht⟩) hS.2.2 dX3_add_50
set_option maxHeartbeats 4000000 in
set_option maxRecDepth 100000 in
theorem c_X3_remove (l : Launch) (dC : Nat → ClassId) (dI : Nat → Nat → Nat) (cI cZ : ClassId) (a : Nat → Nat) (sz : Nat) (M : Mem) (a1 : Int32) (z : Mem) (hf : fX3_remove M a1 = some z) : Met l yX3_remove wsX3_remove ({ frames := 1, cells := 0, slots := 0, locals := 60 } : Room) (va_Pc [.ref (a 0), .int a1] (WR (dC, dI) cI cZ (wX3 cI cZ a M) sz)) (va_Qv (S := Unit) (fun _ => True) (fun _ t => WE (dC, dI) cI cZ (wX3 cI cZ a (sr (sr M 0 (z 0)) 1 (z 1))) (va_A (wX3 cI cZ a M) sz) t) (va_A (wX3 cI cZ a M) sz)) 0 0 (va_A (wX3 cI cZ a M) sz) := by
  refine Met.ofW (cc := cX3_remove) (maxL := 3) (ret := none) (by decide) rfl ?_
  intro p e s m args below meth c s₁ B hml hv
  obtain ⟨rfl, hsz, hP, hK, hD0, hNW⟩ := hv
  have hx := B.exec
  have hb := B.bytes
  have hr := B.returns
  have hts := atoms_spec (ws := wsX3_remove) B.pre
  have hown : s.vm.findClass RX3 = some m.cls := findClass_of_methodNamed B.named
  have hlocks := B.notSynchronized
  have hinX3 : ∀ w ∈ u_ws RX3 TX3 2, w ∈ wsX3_remove := by decide +kernel
  have hw1 := hts (.fieldLink RX3 9 "GlideShelves$OrderBook" "count" "I") (by decide +kernel)
  have hw2 := hts (.fieldLink RX3 15 "GlideShelves$OrderBook" "wants" "[I") (by decide +kernel)
  have hw3 := hts (.methodLink RX3 19 arraycopyName) (by decide +kernel)
  have hw4 := hts (.native arraycopyName) (by decide +kernel)
  have hw5 := hts (.static arraycopyName) (by decide +kernel)
  have hw6 := hts (.initialized "java/lang/System") (by decide +kernel)
  subst hsz
  have hD := hD0.self (sz := s.heap.size)
  generalize hAe : va_A (wX3 cI cZ a M) s.heap.size = A at hD ⊢
  have hA : ∀ q : Nat, s.heap.size ≤ q → A q := fun q h => by rw [← hAe]; exact Or.inr h
  have hS : va_S A s.heap s.heap [] := va_S.rf
  have hfX3_remove_L4 : ∀ (n : Nat) (kx41 : Mem → Option (Mem)) (hkx41 : ∀ (N : Mem), kx41 N = some z → ∀ (ls : Array Slot), lv_has ls 3 [(0, .ref (a 0))] → ∀ (H : Heap) (locs : List Loc), va_P (dC, dI) vwCl (wX3 cI cZ a (sr (sr M 0 (N 0)) 1 (N 1))) H → va_D A (wX3 cI cZ a (sr (sr M 0 (N 0)) 1 (N 1))) → va_S A s.heap H locs → W p l e (headSpec wsX3_remove ({ frames := 1, cells := 0, slots := 0, locals := 60 } : Room)).room s m ([.ref (a 0), .int a1] : List Value).toArray below meth c H locs 0 0 (MQ below (va_Qv (S := Unit) (fun _ => True) (fun _ t => WE (dC, dI) cI cZ (wX3 cI cZ a (sr (sr M 0 (z 0)) 1 (z 1))) A t) A) ([.ref (a 0), .int a1] : List Value).toArray s 0 0 A) (F0 m 41 ls [])), ∀ (N : Mem) (l2 : Int32), fX3_remove_L4 M n kx41 N l2 = some z → ∀ (ls : Array Slot), lv_has ls 3 [(0, .ref (a 0)), (2, .int l2)] → ∀ (H : Heap) (locs : List Loc), va_P (dC, dI) vwCl (wX3 cI cZ a (sr (sr M 0 (N 0)) 1 (N 1))) H → va_D A (wX3 cI cZ a (sr (sr M 0 (N 0)) 1 (N 1))) → va_S A s.heap H locs → W p l e (headSpec wsX3_remove ({ frames := 1, cells := 0, slots := 0, locals := 60 } : Room)).room s m ([.ref (a 0), .int a1] : List Value).toArray below meth c H locs 0 0 (MQ below (va_Qv (S := Unit) (fun _ => True) (fun _ t => WE (dC, dI) cI cZ (wX3 cI cZ a (sr (sr M 0 (z 0)) 1 (z 1))) A t) A) ([.ref (a 0), .int a1] : List Value).toArray s 0 0 A) (F0 m 4 ls []) := by
    intro n
    induction n with
    | zero =>
      intro kx41 hkx41 N l2 hf ls hl H locs hP hD hS
      rw [fX3_remove_L4] at hf
      cases hf
    | succ n ih =>
      intro kx41 hkx41 N l2 hf ls hl H locs hP hD hS
      rw [fX3_remove_L4] at hf
      refine lv_iload_n hx hb dX3_remove_4 rfl (lv_at hl 1 rfl) ?_
      refine lv_aload_n hx hb dX3_remove_5 rfl (lv_at hl 0 rfl) ?_
      refine va_get (D := (dC, dI)) (ci := 3) (v := .int (N 0 0)) (C := RX3) (T := TX3) (N := 2) hx hb hts hinX3 hown hK hP 0 rfl rfl 0 (by decide) hw1 (fun _ h9 => h9) rfl dX3_remove_6 ?_
      refine lv_icmp_ge (tgt := 41) hx hb dX3_remove_9 (by decide) (fun c9 => ?_) (fun c9 => ?_)
      · have hf := it_t hf c9
        exact hkx41 (sr (sr M 0 (N 0)) 1 (N 1)) hf _ (lv_sub hl [0] rfl) _ _ hP hD hS
      · have hf := it_f hf c9
        refine lv_aload_n hx hb dX3_remove_12 rfl (lv_at hl 0 rfl) ?_
        refine va_get (D := (dC, dI)) (ci := 3) (v := .ref (a 1)) (C := RX3) (T := TX3) (N := 2) hx hb hts hinX3 hown hK hP 0 rfl rfl 1 (by decide) hw2 (fun _ h9 => h9) rfl dX3_remove_13 ?_
        refine lv_iload_n hx hb dX3_remove_16 rfl (lv_at hl 1 rfl) ?_
        refine lv_bipush (v := (10 : Int32)) hx hb dX3_remove_17 (by decide) ?_
        refine lv_imul hx hb dX3_remove_19 ?_
        refine lv_aload_n hx hb dX3_remove_20 rfl (lv_at hl 0 rfl) ?_
        refine va_get (D := (dC, dI)) (ci := 3) (v := .ref (a 1)) (C := RX3) (T := TX3) (N := 2) hx hb hts hinX3 hown hK hP 0 rfl rfl 1 (by decide) hw2 (fun _ h9 => h9) rfl dX3_remove_21 ?_
        refine lv_iload_n hx hb dX3_remove_24 rfl (lv_at hl 1 rfl) ?_
        refine lv_iconst (v := (1 : Int32)) hx hb dX3_remove_25 (by decide) ?_
        refine lv_isub hx hb dX3_remove_26 ?_
        refine lv_bipush (v := (10 : Int32)) hx hb dX3_remove_27 (by decide) ?_
        refine lv_imul hx hb dX3_remove_29 ?_
        refine lv_bipush (v := (10 : Int32)) hx hb dX3_remove_30 (by decide) ?_
        obtain ⟨hz, hf⟩ := gd_s hf
        obtain ⟨h1, h2, h3, h4, h5⟩ := cpk_s hz
        refine va_copyi (D := (dC, dI)) (f := (N 1)) (g := (N 1)) (ty := .int) hx hb (hml.trans hl.1.symm) hown hw3 hw4 hw5 hw6 hK hP hD hS 1 1 0 0 rfl rfl rfl rfl rfl h1 h2 h3 h4 h5 (fun _ _ => rfl) (Nat.le_of_ble_eq_true rfl) (by decide +kernel) dX3_remove_32 (fun H locs hP hD hS => ?_)
        have hP : va_P (dC, dI) vwCl (wX3 cI cZ a (sr (sr M 0 (N 0)) 1 (va_cpy (N 1) (N 1) (l2 * (10 : Int32)).toNatClampNeg ((l2 - (1 : Int32)) * (10 : Int32)).toNatClampNeg (10 : Int32).toNatClampNeg))) H := hP
        have hD : va_D A (wX3 cI cZ a (sr (sr M 0 (N 0)) 1 (va_cpy (N 1) (N 1) (l2 * (10 : Int32)).toNatClampNeg ((l2 - (1 : Int32)) * (10 : Int32)).toNatClampNeg (10 : Int32).toNatClampNeg))) := hD
        refine lv_iinc (v := (l2 + (1 : Int32))) (lv' := [(2, .int (l2 + (1 : Int32))), (0, .ref (a 0))]) hx hb dX3_remove_35 hl (k := 1) rfl rfl (by decide) rfl (fun ls hl => ?_)
        refine lv_goto (tgt := 4) hx hb dX3_remove_38 (by decide) ?_
        exact ih kx41 hkx41 (sr (sr M 0 (N 0)) 1 (va_cpy (N 1) (N 1) (l2 * (10 : Int32)).toNatClampNeg ((l2 - (1 : Int32)) * (10 : Int32)).toNatClampNeg (10 : Int32).toNatClampNeg)) (l2 + (1 : Int32)) hf _ (lv_sub hl [1, 0] rfl) _ _ hP hD hS
  have hl := lv_entry ([.ref (a 0), .int a1]) (n := 3) (Nat.le_of_ble_eq_true rfl)
  rw [lg_entry_eq]
  generalize (lg_sl ([.ref (a 0), .int a1]) ++ List.replicate (3 - (lg_sl ([.ref (a 0), .int a1])).length) Slot.unset).toArray = ls at hl ⊢
  have hl : lv_has ls 3 [(0, .ref (a 0)), (1, .int a1)] := hl
  unfold fX3_remove at hf
  suffices hgo : ∀ (H : Heap) (locs : List Loc), va_P (dC, dI) vwCl (wX3 cI cZ a M) H → va_D A (wX3 cI cZ a M) → va_S A s.heap H locs → W p l e (headSpec wsX3_remove ({ frames := 1, cells := 0, slots := 0, locals := 60 } : Room)).room s m ([.ref (a 0), .int a1] : List Value).toArray below meth c H locs 0 0 (MQ below (va_Qv (S := Unit) (fun _ => True) (fun _ t => WE (dC, dI) cI cZ (wX3 cI cZ a (sr (sr M 0 (z 0)) 1 (z 1))) A t) A) ([.ref (a 0), .int a1] : List Value).toArray s 0 0 A) (F0 m 0 ls []) from hgo _ _ hP hD hS
  intro H locs hP hD hS
  refine lv_iload_n hx hb dX3_remove_0 rfl (lv_at hl 1 rfl) ?_
  refine lv_iconst (v := (1 : Int32)) hx hb dX3_remove_1 (by decide) ?_
  refine lv_iadd hx hb dX3_remove_2 ?_
  refine lv_istore_n (lv' := [(2, .int (a1 + (1 : Int32))), (0, .ref (a 0)), (1, .int a1)]) hx hb dX3_remove_3 rfl hl (by decide) rfl (fun ls hl => ?_)
  refine hfX3_remove_L4 5000 _ (fun N hf ls hl H locs hP hD hS => ?_) M (a1 + (1 : Int32)) hf _ (lv_sub hl [1, 0] rfl) _ _ hP hD hS
  refine lv_aload_n hx hb dX3_remove_41 rfl (lv_at hl 0 rfl) ?_
  refine lv_dup hx hb dX3_remove_42 rfl ?_
  refine va_get (D := (dC, dI)) (ci := 3) (v := .int (N 0 0)) (C := RX3) (T := TX3) (N := 2) hx hb hts hinX3 hown hK hP 0 rfl rfl 0 (by decide) hw1 (fun _ h9 => h9) rfl dX3_remove_43 ?_
  refine lv_iconst (v := (1 : Int32)) hx hb dX3_remove_46 (by decide) ?_
  refine lv_isub hx hb dX3_remove_47 ?_
  refine va_put (D := (dC, dI)) (ci := 3) (v := .int ((N 0 0) - (1 : Int32))) (ty := .int) (C := RX3) (T := TX3) (N := 2) hx hb hts hinX3 tyX3 tyX3_ok nmX3 hown hK hP hD hS 0 rfl rfl 0 (by decide) hw1 (fun _ h9 => h9) rfl (by decide +kernel) rfl rfl (Nat.le_of_ble_eq_true rfl) dX3_remove_48 (fun H locs hP hD hS => ?_)
  have hP : va_P (dC, dI) vwCl (wX3 cI cZ a (sr (sr M 0 (upd (N 0) 0 ((N 0 0) - (1 : Int32)))) 1 (N 1))) H := hP
  have hD : va_D A (wX3 cI cZ a (sr (sr M 0 (upd (N 0) 0 ((N 0 0) - (1 : Int32)))) 1 (N 1))) := hD
  have e9 := so_e hf
  subst e9
  exact W.vret hx hb hr (fun t ht hW => ⟨⟨(), rfl, trivial, WE.mk hP hD ht⟩, hS.F ht⟩) hS.2.2 dX3_remove_51
set_option maxHeartbeats 4000000 in
set_option maxRecDepth 100000 in
theorem c_X3_wantedOf (l : Launch) (dC : Nat → ClassId) (dI : Nat → Nat → Nat) (cI cZ : ClassId) (a : Nat → Nat) (M : Mem) (a1 : Int32) (a2 : Int32) (z : Int32) (hf : fX3_wantedOf M a1 a2 = some z) : Met l yX3_wantedOf wsX3_wantedOf ({ frames := 0, cells := 0, slots := 0, locals := 0 } : Room) (va_Pc [.ref (a 0), .int a1, .int a2] (RO (dC, dI) cI cZ (wX3 cI cZ a M))) (k2_QcV (.int z)) 0 0 (fun _ => False) := by
  refine Met.ofW (cc := cX3_wantedOf) (maxL := 3) (ret := (some .int)) (by decide) rfl ?_
  intro p e s m args below meth c s₁ B hml hv
  obtain ⟨rfl, hP, hK, hNW⟩ := hv
  have hx := B.exec
  have hb := B.bytes
  have hr := B.returns
  have hts := atoms_spec (ws := wsX3_wantedOf) B.pre
  have hown : s.vm.findClass RX3 = some m.cls := findClass_of_methodNamed B.named
  have hlocks := B.notSynchronized
  have hinX3 : ∀ w ∈ u_ws RX3 TX3 2, w ∈ wsX3_wantedOf := by decide +kernel
  have hw1 := hts (.fieldLink RX3 15 "GlideShelves$OrderBook" "wants" "[I") (by decide +kernel)
  have hl := lv_entry ([.ref (a 0), .int a1, .int a2]) (n := 3) (Nat.le_of_ble_eq_true rfl)
  rw [lg_entry_eq]
  generalize (lg_sl ([.ref (a 0), .int a1, .int a2]) ++ List.replicate (3 - (lg_sl ([.ref (a 0), .int a1, .int a2])).length) Slot.unset).toArray = ls at hl ⊢
  have hl : lv_has ls 3 [(0, .ref (a 0)), (1, .int a1), (2, .int a2)] := hl
  unfold fX3_wantedOf at hf
  refine lv_aload_n hx hb dX3_wantedOf_0 rfl (lv_at hl 0 rfl) ?_
  refine va_get (D := (dC, dI)) (ci := 3) (v := .ref (a 1)) (C := RX3) (T := TX3) (N := 2) hx hb hts hinX3 hown hK hP 0 rfl rfl 1 (by decide) hw1 (fun _ h9 => h9) rfl dX3_wantedOf_1 ?_
  refine lv_iload_n hx hb dX3_wantedOf_4 rfl (lv_at hl 1 rfl) ?_
  refine lv_bipush (v := (10 : Int32)) hx hb dX3_wantedOf_5 (by decide) ?_
  refine lv_imul hx hb dX3_wantedOf_7 ?_
  refine lv_iload_n hx hb dX3_wantedOf_8 rfl (lv_at hl 2 rfl) ?_
  refine lv_iadd hx hb dX3_wantedOf_9 ?_
  obtain ⟨hi, hf⟩ := gd_s hf
  refine va_iald (D := (dC, dI)) (f := (M 1)) hx hb hK hP 1 0 rfl rfl (inb_in hi) dX3_wantedOf_10 ?_
  exact W.iret (v := (M 1 ((a1 * (10 : Int32)) + a2).toNatClampNeg)) hx hb hr (fun t ht hW => ⟨congrArg (fun x => Outcome.returned (some (Value.int x))) (so_e hf), ht⟩) fl0 dX3_wantedOf_11
set_option maxHeartbeats 4000000 in
set_option maxRecDepth 100000 in
theorem c_X3_sumOf (l : Launch) (dC : Nat → ClassId) (dI : Nat → Nat → Nat) (cI cZ : ClassId) (a : Nat → Nat) (M : Mem) (a1 : Int32) (z : Int32) (hf : fX3_sumOf M a1 = some z) : Met l yX3_sumOf wsX3_sumOf ({ frames := 1, cells := 0, slots := 0, locals := 22 } : Room) (va_Pc [.ref (a 0), .int a1] (RO (dC, dI) cI cZ (wX3 cI cZ a M))) (k2_QcV (.int z)) 0 0 (fun _ => False) := by
  refine Met.ofW (cc := cX3_sumOf) (maxL := 4) (ret := (some .int)) (by decide) rfl ?_
  intro p e s m args below meth c s₁ B hml hv
  obtain ⟨rfl, hP, hK, hNW⟩ := hv
  have hx := B.exec
  have hb := B.bytes
  have hr := B.returns
  have hts := atoms_spec (ws := wsX3_sumOf) B.pre
  have hown : s.vm.findClass RX3 = some m.cls := findClass_of_methodNamed B.named
  have hlocks := B.notSynchronized
  have hfX3_sumOf_L4 : ∀ (n : Nat) (kx25 : Int32 → Option (Int32)) (hkx25 : ∀ (l2 : Int32), kx25 l2 = some z → ∀ (ls : Array Slot), lv_has ls 4 [(2, .int l2)] → W p l e (headSpec wsX3_sumOf ({ frames := 1, cells := 0, slots := 0, locals := 22 } : Room)).room s m ([.ref (a 0), .int a1] : List Value).toArray below meth c s.heap [] 0 0 (MQ below (k2_QcV (.int z)) ([.ref (a 0), .int a1] : List Value).toArray s 0 0 (fun _ => False)) (F0 m 25 ls [])), ∀ (l1 : Int32) (l2 : Int32) (l3 : Int32), fX3_sumOf_L4 M n kx25 l1 l2 l3 = some z → ∀ (ls : Array Slot), lv_has ls 4 [(0, .ref (a 0)), (1, .int l1), (2, .int l2), (3, .int l3)] → W p l e (headSpec wsX3_sumOf ({ frames := 1, cells := 0, slots := 0, locals := 22 } : Room)).room s m ([.ref (a 0), .int a1] : List Value).toArray below meth c s.heap [] 0 0 (MQ below (k2_QcV (.int z)) ([.ref (a 0), .int a1] : List Value).toArray s 0 0 (fun _ => False)) (F0 m 4 ls []) := by
    intro n
    induction n with
    | zero =>
      intro kx25 hkx25 l1 l2 l3 hf ls hl
      rw [fX3_sumOf_L4] at hf
      cases hf
    | succ n ih =>
      intro kx25 hkx25 l1 l2 l3 hf ls hl
      rw [fX3_sumOf_L4] at hf
      refine lv_iload_n hx hb dX3_sumOf_4 rfl (lv_at hl 3 rfl) ?_
      refine lv_bipush (v := (10 : Int32)) hx hb dX3_sumOf_5 (by decide) ?_
      refine lv_icmp_ge (tgt := 25) hx hb dX3_sumOf_7 (by decide) (fun c9 => ?_) (fun c9 => ?_)
      · have hf := it_t hf c9
        exact hkx25 l2 hf _ (lv_sub hl [2] rfl)
      · have hf := it_f hf c9
        refine lv_iload_n hx hb dX3_sumOf_10 rfl (lv_at hl 2 rfl) ?_
        refine lv_aload_n hx hb dX3_sumOf_11 rfl (lv_at hl 0 rfl) ?_
        refine lv_iload_n hx hb dX3_sumOf_12 rfl (lv_at hl 1 rfl) ?_
        refine lv_iload_n hx hb dX3_sumOf_13 rfl (lv_at hl 3 rfl) ?_
        obtain ⟨r14, hc14, hf⟩ := bi_s hf
        have hPc := hP
        refine cRO (W.runV (As := [.int l1, .int l3]) (rest := [.int l2]) ⟨hx, hb, hml, hown, hts⟩ (c_X3_wantedOf l dC dI cI cZ a M l1 l3 r14 hc14) (cwV 2 hts gX3_sumOf_X3_wantedOf rfl rfl rfl (by decide +kernel) ⟨Nat.le_of_ble_eq_true rfl, Nat.le_of_ble_eq_true rfl⟩) ⟨RO.blind, va_recv hK hP (ci := 3) (q0 := 0) rfl rfl, RO.pre hPc hK hNW⟩ rfl rfl hl.1 rfl (lv_room (Nat.le_of_ble_eq_true rfl)) dX3_sumOf_14 ⟨Nat.le_of_ble_eq_true rfl, Nat.le_of_ble_eq_true rfl⟩) ?_
        refine lv_iadd hx hb dX3_sumOf_17 ?_
        refine lv_istore_n (lv' := [(2, .int (l2 + r14)), (0, .ref (a 0)), (1, .int l1), (3, .int l3)]) hx hb dX3_sumOf_18 rfl hl (by decide) rfl (fun ls hl => ?_)
        refine lv_iinc (v := (l3 + (1 : Int32))) (lv' := [(3, .int (l3 + (1 : Int32))), (2, .int (l2 + r14)), (0, .ref (a 0)), (1, .int l1)]) hx hb dX3_sumOf_19 hl (k := 3) rfl rfl (by decide) rfl (fun ls hl => ?_)
        refine lv_goto (tgt := 4) hx hb dX3_sumOf_22 (by decide) ?_
        exact ih kx25 hkx25 l1 (l2 + r14) (l3 + (1 : Int32)) hf _ (lv_sub hl [2, 3, 1, 0] rfl)
  have hl := lv_entry ([.ref (a 0), .int a1]) (n := 4) (Nat.le_of_ble_eq_true rfl)
  rw [lg_entry_eq]
  generalize (lg_sl ([.ref (a 0), .int a1]) ++ List.replicate (4 - (lg_sl ([.ref (a 0), .int a1])).length) Slot.unset).toArray = ls at hl ⊢
  have hl : lv_has ls 4 [(0, .ref (a 0)), (1, .int a1)] := hl
  unfold fX3_sumOf at hf
  refine lv_iconst (v := (0 : Int32)) hx hb dX3_sumOf_0 (by decide) ?_
  refine lv_istore_n (lv' := [(2, .int (0 : Int32)), (0, .ref (a 0)), (1, .int a1)]) hx hb dX3_sumOf_1 rfl hl (by decide) rfl (fun ls hl => ?_)
  refine lv_iconst (v := (0 : Int32)) hx hb dX3_sumOf_2 (by decide) ?_
  refine lv_istore_n (lv' := [(3, .int (0 : Int32)), (2, .int (0 : Int32)), (0, .ref (a 0)), (1, .int a1)]) hx hb dX3_sumOf_3 rfl hl (by decide) rfl (fun ls hl => ?_)
  refine hfX3_sumOf_L4 5000 _ (fun l2 hf ls hl => ?_) a1 (0 : Int32) (0 : Int32) hf _ (lv_sub hl [2, 3, 1, 0] rfl)
  refine lv_iload_n hx hb dX3_sumOf_25 rfl (lv_at hl 0 rfl) ?_
  exact W.iret (v := l2) hx hb hr (fun t ht hW => ⟨congrArg (fun x => Outcome.returned (some (Value.int x))) (so_e hf), ht⟩) fl0 dX3_sumOf_26
set_option maxHeartbeats 4000000 in
set_option maxRecDepth 100000 in
theorem c_X4_begin (l : Launch) (dC : Nat → ClassId) (dI : Nat → Nat → Nat) (cI cZ : ClassId) (a : Nat → Nat) (sz : Nat) (M : Mem) (z : Mem) (hf : fX4_begin M  = some z) : Met l yX4_begin wsX4_begin ({ frames := 0, cells := 0, slots := 0, locals := 0 } : Room) (va_Pc [.ref (a 0)] (WR (dC, dI) cI cZ (wX4 cI cZ a M) sz)) (va_Qv (S := Unit) (fun _ => True) (fun _ t => WE (dC, dI) cI cZ (wX4 cI cZ a (sr (sr M 0 (z 0)) 1 (z 1))) (va_A (wX4 cI cZ a M) sz) t) (va_A (wX4 cI cZ a M) sz)) 0 0 (va_A (wX4 cI cZ a M) sz) := by
  refine Met.ofW (cc := cX4_begin) (maxL := 2) (ret := none) (by decide) rfl ?_
  intro p e s m args below meth c s₁ B hml hv
  obtain ⟨rfl, hsz, hP, hK, hD0, hNW⟩ := hv
  have hx := B.exec
  have hb := B.bytes
  have hr := B.returns
  have hts := atoms_spec (ws := wsX4_begin) B.pre
  have hown : s.vm.findClass RX4 = some m.cls := findClass_of_methodNamed B.named
  have hlocks := B.notSynchronized
  have hinX4 : ∀ w ∈ u_ws RX4 TX4 3, w ∈ wsX4_begin := by decide +kernel
  have hw1 := hts (.fieldLink RX4 11 "GlideShelves$OrderReader" "stage" "I") (by decide +kernel)
  have hw2 := hts (.fieldLink RX4 15 "GlideShelves$OrderReader" "kind" "I") (by decide +kernel)
  have hw3 := hts (.fieldLink RX4 18 "GlideShelves$OrderReader" "numbers" "[I") (by decide +kernel)
  subst hsz
  have hD := hD0.self (sz := s.heap.size)
  generalize hAe : va_A (wX4 cI cZ a M) s.heap.size = A at hD ⊢
  have hA : ∀ q : Nat, s.heap.size ≤ q → A q := fun q h => by rw [← hAe]; exact Or.inr h
  have hS : va_S A s.heap s.heap [] := va_S.rf
  have hfX4_begin_L12 : ∀ (n : Nat) (kx31 : Mem → Option (Mem)) (hkx31 : ∀ (N : Mem), kx31 N = some z → ∀ (ls : Array Slot), lv_has ls 2 [] → ∀ (H : Heap) (locs : List Loc), va_P (dC, dI) vwCl (wX4 cI cZ a (sr (sr M 0 (N 0)) 1 (N 1))) H → va_D A (wX4 cI cZ a (sr (sr M 0 (N 0)) 1 (N 1))) → va_S A s.heap H locs → W p l e (headSpec wsX4_begin ({ frames := 0, cells := 0, slots := 0, locals := 0 } : Room)).room s m ([.ref (a 0)] : List Value).toArray below meth c H locs 0 0 (MQ below (va_Qv (S := Unit) (fun _ => True) (fun _ t => WE (dC, dI) cI cZ (wX4 cI cZ a (sr (sr M 0 (z 0)) 1 (z 1))) A t) A) ([.ref (a 0)] : List Value).toArray s 0 0 A) (F0 m 31 ls [])), ∀ (N : Mem) (l1 : Int32), fX4_begin_L12 M n kx31 N l1 = some z → ∀ (ls : Array Slot), lv_has ls 2 [(0, .ref (a 0)), (1, .int l1)] → ∀ (H : Heap) (locs : List Loc), va_P (dC, dI) vwCl (wX4 cI cZ a (sr (sr M 0 (N 0)) 1 (N 1))) H → va_D A (wX4 cI cZ a (sr (sr M 0 (N 0)) 1 (N 1))) → va_S A s.heap H locs → W p l e (headSpec wsX4_begin ({ frames := 0, cells := 0, slots := 0, locals := 0 } : Room)).room s m ([.ref (a 0)] : List Value).toArray below meth c H locs 0 0 (MQ below (va_Qv (S := Unit) (fun _ => True) (fun _ t => WE (dC, dI) cI cZ (wX4 cI cZ a (sr (sr M 0 (z 0)) 1 (z 1))) A t) A) ([.ref (a 0)] : List Value).toArray s 0 0 A) (F0 m 12 ls []) := by
    intro n
    induction n with
    | zero =>
      intro kx31 hkx31 N l1 hf ls hl H locs hP hD hS
      rw [fX4_begin_L12] at hf
      cases hf
    | succ n ih =>
      intro kx31 hkx31 N l1 hf ls hl H locs hP hD hS
      rw [fX4_begin_L12] at hf
      refine lv_iload_n hx hb dX4_begin_12 rfl (lv_at hl 1 rfl) ?_
      refine lv_bipush (v := (10 : Int32)) hx hb dX4_begin_13 (by decide) ?_
      refine lv_icmp_ge (tgt := 31) hx hb dX4_begin_15 (by decide) (fun c9 => ?_) (fun c9 => ?_)
      · have hf := it_t hf c9
        exact hkx31 (sr (sr M 0 (N 0)) 1 (N 1)) hf _ (lv_sub hl [] rfl) _ _ hP hD hS
      · have hf := it_f hf c9
        refine lv_aload_n hx hb dX4_begin_18 rfl (lv_at hl 0 rfl) ?_
        refine va_get (D := (dC, dI)) (ci := 4) (v := .ref (a 1)) (C := RX4) (T := TX4) (N := 3) hx hb hts hinX4 hown hK hP 0 rfl rfl 2 (by decide) hw3 (fun _ h9 => h9) rfl dX4_begin_19 ?_
        refine lv_iload_n hx hb dX4_begin_22 rfl (lv_at hl 1 rfl) ?_
        refine lv_iconst (v := (0 : Int32)) hx hb dX4_begin_23 (by decide) ?_
        obtain ⟨hi, hf⟩ := gd_s hf
        refine va_iast (D := (dC, dI)) (f := (N 1)) hx hb hK hP hD hS 1 0 rfl rfl (inb_in hi) dX4_begin_24 (fun H locs hP hD hS => ?_)
        have hP : va_P (dC, dI) vwCl (wX4 cI cZ a (sr (sr M 0 (N 0)) 1 (upd (N 1) l1.toNatClampNeg (0 : Int32)))) H := hP
        have hD : va_D A (wX4 cI cZ a (sr (sr M 0 (N 0)) 1 (upd (N 1) l1.toNatClampNeg (0 : Int32)))) := hD
        refine lv_iinc (v := (l1 + (1 : Int32))) (lv' := [(1, .int (l1 + (1 : Int32))), (0, .ref (a 0))]) hx hb dX4_begin_25 hl (k := 1) rfl rfl (by decide) rfl (fun ls hl => ?_)
        refine lv_goto (tgt := 12) hx hb dX4_begin_28 (by decide) ?_
        exact ih kx31 hkx31 (sr (sr M 0 (N 0)) 1 (upd (N 1) l1.toNatClampNeg (0 : Int32))) (l1 + (1 : Int32)) hf _ (lv_sub hl [1, 0] rfl) _ _ hP hD hS
  have hl := lv_entry ([.ref (a 0)]) (n := 2) (Nat.le_of_ble_eq_true rfl)
  rw [lg_entry_eq]
  generalize (lg_sl ([.ref (a 0)]) ++ List.replicate (2 - (lg_sl ([.ref (a 0)])).length) Slot.unset).toArray = ls at hl ⊢
  have hl : lv_has ls 2 [(0, .ref (a 0))] := hl
  unfold fX4_begin at hf
  suffices hgo : ∀ (H : Heap) (locs : List Loc), va_P (dC, dI) vwCl (wX4 cI cZ a M) H → va_D A (wX4 cI cZ a M) → va_S A s.heap H locs → W p l e (headSpec wsX4_begin ({ frames := 0, cells := 0, slots := 0, locals := 0 } : Room)).room s m ([.ref (a 0)] : List Value).toArray below meth c H locs 0 0 (MQ below (va_Qv (S := Unit) (fun _ => True) (fun _ t => WE (dC, dI) cI cZ (wX4 cI cZ a (sr (sr M 0 (z 0)) 1 (z 1))) A t) A) ([.ref (a 0)] : List Value).toArray s 0 0 A) (F0 m 0 ls []) from hgo _ _ hP hD hS
  intro H locs hP hD hS
  refine lv_aload_n hx hb dX4_begin_0 rfl (lv_at hl 0 rfl) ?_
  refine lv_iconst (v := (0 : Int32)) hx hb dX4_begin_1 (by decide) ?_
  refine va_put (D := (dC, dI)) (ci := 4) (v := .int (0 : Int32)) (ty := .int) (C := RX4) (T := TX4) (N := 3) hx hb hts hinX4 tyX4 tyX4_ok nmX4 hown hK hP hD hS 0 rfl rfl 0 (by decide) hw1 (fun _ h9 => h9) rfl (by decide +kernel) rfl rfl (Nat.le_of_ble_eq_true rfl) dX4_begin_2 (fun H locs hP hD hS => ?_)
  have hP : va_P (dC, dI) vwCl (wX4 cI cZ a (sr M 0 (upd (M 0) 0 (0 : Int32)))) H := hP
  have hD : va_D A (wX4 cI cZ a (sr M 0 (upd (M 0) 0 (0 : Int32)))) := hD
  refine lv_aload_n hx hb dX4_begin_5 rfl (lv_at hl 0 rfl) ?_
  refine lv_iconst (v := (-1 : Int32)) hx hb dX4_begin_6 (by decide) ?_
  refine va_put (D := (dC, dI)) (ci := 4) (v := .int (-1 : Int32)) (ty := .int) (C := RX4) (T := TX4) (N := 3) hx hb hts hinX4 tyX4 tyX4_ok nmX4 hown hK hP hD hS 0 rfl rfl 1 (by decide) hw2 (fun _ h9 => h9) rfl (by decide +kernel) rfl rfl (Nat.le_of_ble_eq_true rfl) dX4_begin_7 (fun H locs hP hD hS => ?_)
  have hP : va_P (dC, dI) vwCl (wX4 cI cZ a (sr M 0 (upd (upd (M 0) 0 (0 : Int32)) 1 (-1 : Int32)))) H := hP
  have hD : va_D A (wX4 cI cZ a (sr M 0 (upd (upd (M 0) 0 (0 : Int32)) 1 (-1 : Int32)))) := hD
  refine lv_iconst (v := (0 : Int32)) hx hb dX4_begin_10 (by decide) ?_
  refine lv_istore_n (lv' := [(1, .int (0 : Int32)), (0, .ref (a 0))]) hx hb dX4_begin_11 rfl hl (by decide) rfl (fun ls hl => ?_)
  refine hfX4_begin_L12 5000 _ (fun N hf ls hl H locs hP hD hS => ?_) (sr M 0 (upd (upd (M 0) 0 (0 : Int32)) 1 (-1 : Int32))) (0 : Int32) hf _ (lv_sub hl [1, 0] rfl) _ _ hP hD hS
  have e9 := so_e hf
  subst e9
  exact W.vret hx hb hr (fun t ht hW => ⟨⟨(), rfl, trivial, WE.mk hP hD ht⟩, hS.F ht⟩) hS.2.2 dX4_begin_31
set_option maxHeartbeats 4000000 in
set_option maxRecDepth 100000 in
theorem c_X4_isAtEnd (l : Launch) (dC : Nat → ClassId) (dI : Nat → Nat → Nat) (cI cZ : ClassId) (a : Nat → Nat) (M : Mem) (z : Int32) (hf : fX4_isAtEnd M  = some z) : Met l yX4_isAtEnd wsX4_isAtEnd ({ frames := 0, cells := 0, slots := 0, locals := 0 } : Room) (va_Pc [.ref (a 0)] (RO (dC, dI) cI cZ (wX4 cI cZ a M))) (k2_QcV (.int z)) 0 0 (fun _ => False) := by
  refine Met.ofW (cc := cX4_isAtEnd) (maxL := 1) (ret := (some .boolean)) (by decide) rfl ?_
  intro p e s m args below meth c s₁ B hml hv
  obtain ⟨rfl, hP, hK, hNW⟩ := hv
  have hx := B.exec
  have hb := B.bytes
  have hr := B.returns
  have hts := atoms_spec (ws := wsX4_isAtEnd) B.pre
  have hown : s.vm.findClass RX4 = some m.cls := findClass_of_methodNamed B.named
  have hlocks := B.notSynchronized
  have hinX4 : ∀ w ∈ u_ws RX4 TX4 3, w ∈ wsX4_isAtEnd := by decide +kernel
  have hw1 := hts (.fieldLink RX4 11 "GlideShelves$OrderReader" "stage" "I") (by decide +kernel)
  have hfX4_isAtEnd_B13 : ∀ (s0 : Int32), fX4_isAtEnd_B13 M  s0 = some z → ∀ (ls : Array Slot), lv_has ls 1 [] → W p l e (headSpec wsX4_isAtEnd ({ frames := 0, cells := 0, slots := 0, locals := 0 } : Room)).room s m ([.ref (a 0)] : List Value).toArray below meth c s.heap [] 0 0 (MQ below (k2_QcV (.int z)) ([.ref (a 0)] : List Value).toArray s 0 0 (fun _ => False)) (F0 m 13 ls [.int s0]) := by
    intro  s0 hf ls hl
    unfold fX4_isAtEnd_B13 at hf
    obtain ⟨hz, hf⟩ := gd_s hf
    exact W.zret (v := s0) hx hb hr (isb_nar hz) (fun t ht hW => ⟨congrArg (fun x => Outcome.returned (some (Value.int x))) (so_e hf), ht⟩) fl0 dX4_isAtEnd_13
  have hl := lv_entry ([.ref (a 0)]) (n := 1) (Nat.le_of_ble_eq_true rfl)
  rw [lg_entry_eq]
  generalize (lg_sl ([.ref (a 0)]) ++ List.replicate (1 - (lg_sl ([.ref (a 0)])).length) Slot.unset).toArray = ls at hl ⊢
  have hl : lv_has ls 1 [(0, .ref (a 0))] := hl
  unfold fX4_isAtEnd at hf
  refine lv_aload_n hx hb dX4_isAtEnd_0 rfl (lv_at hl 0 rfl) ?_
  refine va_get (D := (dC, dI)) (ci := 4) (v := .int (M 0 0)) (C := RX4) (T := TX4) (N := 3) hx hb hts hinX4 hown hK hP 0 rfl rfl 0 (by decide) hw1 (fun _ h9 => h9) rfl dX4_isAtEnd_1 ?_
  refine lv_iconst (v := (3 : Int32)) hx hb dX4_isAtEnd_4 (by decide) ?_
  refine lv_icmp_ne (tgt := 12) hx hb dX4_isAtEnd_5 (by decide) (fun c9 => ?_) (fun c9 => ?_)
  · have hf := it_t hf c9
    refine lv_iconst (v := (0 : Int32)) hx hb dX4_isAtEnd_12 (by decide) ?_
    exact hfX4_isAtEnd_B13  (0 : Int32) hf _ (lv_sub hl [] rfl)
  · have hf := it_n hf c9
    refine lv_iconst (v := (1 : Int32)) hx hb dX4_isAtEnd_8 (by decide) ?_
    refine lv_goto (tgt := 13) hx hb dX4_isAtEnd_9 (by decide) ?_
    exact hfX4_isAtEnd_B13  (1 : Int32) hf _ (lv_sub hl [] rfl)
set_option maxHeartbeats 4000000 in
set_option maxRecDepth 100000 in
theorem c_X4_readComma (l : Launch) (dC : Nat → ClassId) (dI : Nat → Nat → Nat) (cI cZ : ClassId) (a : Nat → Nat) (sz : Nat) (M : Mem) (z : Int32 × Mem) (hf : fX4_readComma M  = some z) : Met l yX4_readComma wsX4_readComma ({ frames := 0, cells := 0, slots := 0, locals := 0 } : Room) (va_Pc [.ref (a 0)] (WR (dC, dI) cI cZ (wX4 cI cZ a M) sz)) (va_Qi (S := Unit) (fun r _ => r = z.1) (fun _ t => WE (dC, dI) cI cZ (wX4 cI cZ a (sr M 0 (z.2 0))) (va_A (wX4 cI cZ a M) sz) t) (va_A (wX4 cI cZ a M) sz)) 0 0 (va_A (wX4 cI cZ a M) sz) := by
  refine Met.ofW (cc := cX4_readComma) (maxL := 1) (ret := (some .boolean)) (by decide) rfl ?_
  intro p e s m args below meth c s₁ B hml hv
  obtain ⟨rfl, hsz, hP, hK, hD0, hNW⟩ := hv
  have hx := B.exec
  have hb := B.bytes
  have hr := B.returns
  have hts := atoms_spec (ws := wsX4_readComma) B.pre
  have hown : s.vm.findClass RX4 = some m.cls := findClass_of_methodNamed B.named
  have hlocks := B.notSynchronized
  have hinX4 : ∀ w ∈ u_ws RX4 TX4 3, w ∈ wsX4_readComma := by decide +kernel
  have hw1 := hts (.fieldLink RX4 11 "GlideShelves$OrderReader" "stage" "I") (by decide +kernel)
  have hw2 := hts (.fieldLink RX4 15 "GlideShelves$OrderReader" "kind" "I") (by decide +kernel)
  subst hsz
  have hD := hD0.self (sz := s.heap.size)
  generalize hAe : va_A (wX4 cI cZ a M) s.heap.size = A at hD ⊢
  have hA : ∀ q : Nat, s.heap.size ≤ q → A q := fun q h => by rw [← hAe]; exact Or.inr h
  have hS : va_S A s.heap s.heap [] := va_S.rf
  have hfX4_readComma_B19 : ∀ (N : Mem) (s0 : Int32), fX4_readComma_B19 M  N s0 = some z → ∀ (ls : Array Slot), lv_has ls 1 [] → ∀ (H : Heap) (locs : List Loc), va_P (dC, dI) vwCl (wX4 cI cZ a (sr M 0 (N 0))) H → va_D A (wX4 cI cZ a (sr M 0 (N 0))) → va_S A s.heap H locs → W p l e (headSpec wsX4_readComma ({ frames := 0, cells := 0, slots := 0, locals := 0 } : Room)).room s m ([.ref (a 0)] : List Value).toArray below meth c H locs 0 0 (MQ below (va_Qi (S := Unit) (fun r _ => r = z.1) (fun _ t => WE (dC, dI) cI cZ (wX4 cI cZ a (sr M 0 (z.2 0))) A t) A) ([.ref (a 0)] : List Value).toArray s 0 0 A) (F0 m 19 ls [.int s0]) := by
    intro  N s0 hf ls hl H locs hP hD hS
    unfold fX4_readComma_B19 at hf
    obtain ⟨hz, hf⟩ := gd_s hf
    have e9 := so_e hf
    subst e9
    exact W.zret (v := s0) hx hb hr (isb_nar hz) (fun t ht hW => ⟨⟨s0, (), rfl, rfl, WE.mk hP hD ht⟩, hS.F ht⟩) hS.2.2 dX4_readComma_19
  have hl := lv_entry ([.ref (a 0)]) (n := 1) (Nat.le_of_ble_eq_true rfl)
  rw [lg_entry_eq]
  generalize (lg_sl ([.ref (a 0)]) ++ List.replicate (1 - (lg_sl ([.ref (a 0)])).length) Slot.unset).toArray = ls at hl ⊢
  have hl : lv_has ls 1 [(0, .ref (a 0))] := hl
  unfold fX4_readComma at hf
  suffices hgo : ∀ (H : Heap) (locs : List Loc), va_P (dC, dI) vwCl (wX4 cI cZ a M) H → va_D A (wX4 cI cZ a M) → va_S A s.heap H locs → W p l e (headSpec wsX4_readComma ({ frames := 0, cells := 0, slots := 0, locals := 0 } : Room)).room s m ([.ref (a 0)] : List Value).toArray below meth c H locs 0 0 (MQ below (va_Qi (S := Unit) (fun r _ => r = z.1) (fun _ t => WE (dC, dI) cI cZ (wX4 cI cZ a (sr M 0 (z.2 0))) A t) A) ([.ref (a 0)] : List Value).toArray s 0 0 A) (F0 m 0 ls []) from hgo _ _ hP hD hS
  intro H locs hP hD hS
  refine lv_aload_n hx hb dX4_readComma_0 rfl (lv_at hl 0 rfl) ?_
  refine lv_iconst (v := (0 : Int32)) hx hb dX4_readComma_1 (by decide) ?_
  refine va_put (D := (dC, dI)) (ci := 4) (v := .int (0 : Int32)) (ty := .int) (C := RX4) (T := TX4) (N := 3) hx hb hts hinX4 tyX4 tyX4_ok nmX4 hown hK hP hD hS 0 rfl rfl 0 (by decide) hw1 (fun _ h9 => h9) rfl (by decide +kernel) rfl rfl (Nat.le_of_ble_eq_true rfl) dX4_readComma_2 (fun H locs hP hD hS => ?_)
  have hP : va_P (dC, dI) vwCl (wX4 cI cZ a (sr M 0 (upd (M 0) 0 (0 : Int32)))) H := hP
  have hD : va_D A (wX4 cI cZ a (sr M 0 (upd (M 0) 0 (0 : Int32)))) := hD
  refine lv_aload_n hx hb dX4_readComma_5 rfl (lv_at hl 0 rfl) ?_
  refine va_get (D := (dC, dI)) (ci := 4) (v := .int (M 0 1)) (C := RX4) (T := TX4) (N := 3) hx hb hts hinX4 hown hK hP 0 rfl rfl 1 (by decide) hw2 (fun _ h9 => h9) rfl dX4_readComma_6 ?_
  refine lv_bipush (v := (9 : Int32)) hx hb dX4_readComma_9 (by decide) ?_
  refine lv_icmp_ge (tgt := 18) hx hb dX4_readComma_11 (by decide) (fun c9 => ?_) (fun c9 => ?_)
  · have hf := it_t hf c9
    refine lv_iconst (v := (0 : Int32)) hx hb dX4_readComma_18 (by decide) ?_
    exact hfX4_readComma_B19  (sr M 0 (upd (M 0) 0 (0 : Int32))) (0 : Int32) hf _ (lv_sub hl [] rfl) _ _ hP hD hS
  · have hf := it_f hf c9
    refine lv_iconst (v := (1 : Int32)) hx hb dX4_readComma_14 (by decide) ?_
    refine lv_goto (tgt := 19) hx hb dX4_readComma_15 (by decide) ?_
    exact hfX4_readComma_B19  (sr M 0 (upd (M 0) 0 (0 : Int32))) (1 : Int32) hf _ (lv_sub hl [] rfl) _ _ hP hD hS
set_option maxHeartbeats 4000000 in
set_option maxRecDepth 100000 in
theorem c_X4_readDigit (l : Launch) (dC : Nat → ClassId) (dI : Nat → Nat → Nat) (cI cZ : ClassId) (a : Nat → Nat) (sz : Nat) (M : Mem) (a1 : Int32) (z : Int32 × Mem) (hf : fX4_readDigit M a1 = some z) : Met l yX4_readDigit wsX4_readDigit ({ frames := 0, cells := 0, slots := 0, locals := 0 } : Room) (va_Pc [.ref (a 0), .int a1] (WR (dC, dI) cI cZ (wX4 cI cZ a M) sz)) (va_Qi (S := Unit) (fun r _ => r = z.1) (fun _ t => WE (dC, dI) cI cZ (wX4 cI cZ a (sr M 1 (z.2 1))) (va_A (wX4 cI cZ a M) sz) t) (va_A (wX4 cI cZ a M) sz)) 0 0 (va_A (wX4 cI cZ a M) sz) := by
  refine Met.ofW (cc := cX4_readDigit) (maxL := 3) (ret := (some .boolean)) (by decide) rfl ?_
  intro p e s m args below meth c s₁ B hml hv
  obtain ⟨rfl, hsz, hP, hK, hD0, hNW⟩ := hv
  have hx := B.exec
  have hb := B.bytes
  have hr := B.returns
  have hts := atoms_spec (ws := wsX4_readDigit) B.pre
  have hown : s.vm.findClass RX4 = some m.cls := findClass_of_methodNamed B.named
  have hlocks := B.notSynchronized
  have hinX4 : ∀ w ∈ u_ws RX4 TX4 3, w ∈ wsX4_readDigit := by decide +kernel
  have hw1 := hts (.fieldLink RX4 15 "GlideShelves$OrderReader" "kind" "I") (by decide +kernel)
  have hw2 := hts (.fieldLink RX4 18 "GlideShelves$OrderReader" "numbers" "[I") (by decide +kernel)
  subst hsz
  have hD := hD0.self (sz := s.heap.size)
  generalize hAe : va_A (wX4 cI cZ a M) s.heap.size = A at hD ⊢
  have hA : ∀ q : Nat, s.heap.size ≤ q → A q := fun q h => by rw [← hAe]; exact Or.inr h
  have hS : va_S A s.heap s.heap [] := va_S.rf
  have hfX4_readDigit_B31 : ∀ (N : Mem), fX4_readDigit_B31 M  N = some z → ∀ (ls : Array Slot), lv_has ls 3 [] → ∀ (H : Heap) (locs : List Loc), va_P (dC, dI) vwCl (wX4 cI cZ a (sr M 1 (N 1))) H → va_D A (wX4 cI cZ a (sr M 1 (N 1))) → va_S A s.heap H locs → W p l e (headSpec wsX4_readDigit ({ frames := 0, cells := 0, slots := 0, locals := 0 } : Room)).room s m ([.ref (a 0), .int a1] : List Value).toArray below meth c H locs 0 0 (MQ below (va_Qi (S := Unit) (fun r _ => r = z.1) (fun _ t => WE (dC, dI) cI cZ (wX4 cI cZ a (sr M 1 (z.2 1))) A t) A) ([.ref (a 0), .int a1] : List Value).toArray s 0 0 A) (F0 m 31 ls []) := by
    intro  N hf ls hl H locs hP hD hS
    unfold fX4_readDigit_B31 at hf
    refine lv_iconst (v := (0 : Int32)) hx hb dX4_readDigit_31 (by decide) ?_
    obtain ⟨hz, hf⟩ := gd_s hf
    have e9 := so_e hf
    subst e9
    exact W.zret (v := (0 : Int32)) hx hb hr (isb_nar hz) (fun t ht hW => ⟨⟨(0 : Int32), (), rfl, rfl, WE.mk hP hD ht⟩, hS.F ht⟩) hS.2.2 dX4_readDigit_32
  have hfX4_readDigit_B75 : ∀ (N : Mem) (s0 : Int32), fX4_readDigit_B75 M  N s0 = some z → ∀ (ls : Array Slot), lv_has ls 3 [] → ∀ (H : Heap) (locs : List Loc), va_P (dC, dI) vwCl (wX4 cI cZ a (sr M 1 (N 1))) H → va_D A (wX4 cI cZ a (sr M 1 (N 1))) → va_S A s.heap H locs → W p l e (headSpec wsX4_readDigit ({ frames := 0, cells := 0, slots := 0, locals := 0 } : Room)).room s m ([.ref (a 0), .int a1] : List Value).toArray below meth c H locs 0 0 (MQ below (va_Qi (S := Unit) (fun r _ => r = z.1) (fun _ t => WE (dC, dI) cI cZ (wX4 cI cZ a (sr M 1 (z.2 1))) A t) A) ([.ref (a 0), .int a1] : List Value).toArray s 0 0 A) (F0 m 75 ls [.int s0]) := by
    intro  N s0 hf ls hl H locs hP hD hS
    unfold fX4_readDigit_B75 at hf
    obtain ⟨hz, hf⟩ := gd_s hf
    have e9 := so_e hf
    subst e9
    exact W.zret (v := s0) hx hb hr (isb_nar hz) (fun t ht hW => ⟨⟨s0, (), rfl, rfl, WE.mk hP hD ht⟩, hS.F ht⟩) hS.2.2 dX4_readDigit_75
  have hl := lv_entry ([.ref (a 0), .int a1]) (n := 3) (Nat.le_of_ble_eq_true rfl)
  rw [lg_entry_eq]
  generalize (lg_sl ([.ref (a 0), .int a1]) ++ List.replicate (3 - (lg_sl ([.ref (a 0), .int a1])).length) Slot.unset).toArray = ls at hl ⊢
  have hl : lv_has ls 3 [(0, .ref (a 0)), (1, .int a1)] := hl
  unfold fX4_readDigit at hf
  suffices hgo : ∀ (H : Heap) (locs : List Loc), va_P (dC, dI) vwCl (wX4 cI cZ a M) H → va_D A (wX4 cI cZ a M) → va_S A s.heap H locs → W p l e (headSpec wsX4_readDigit ({ frames := 0, cells := 0, slots := 0, locals := 0 } : Room)).room s m ([.ref (a 0), .int a1] : List Value).toArray below meth c H locs 0 0 (MQ below (va_Qi (S := Unit) (fun r _ => r = z.1) (fun _ t => WE (dC, dI) cI cZ (wX4 cI cZ a (sr M 1 (z.2 1))) A t) A) ([.ref (a 0), .int a1] : List Value).toArray s 0 0 A) (F0 m 0 ls []) from hgo _ _ hP hD hS
  intro H locs hP hD hS
  refine lv_iload_n hx hb dX4_readDigit_0 rfl (lv_at hl 1 rfl) ?_
  refine lv_bipush (v := (48 : Int32)) hx hb dX4_readDigit_1 (by decide) ?_
  refine lv_isub hx hb dX4_readDigit_3 ?_
  refine lv_istore_n (lv' := [(2, .int (a1 - (48 : Int32))), (0, .ref (a 0)), (1, .int a1)]) hx hb dX4_readDigit_4 rfl hl (by decide) rfl (fun ls hl => ?_)
  refine lv_iload_n hx hb dX4_readDigit_5 rfl (lv_at hl 0 rfl) ?_
  refine lv_if_lt (tgt := 31) hx hb dX4_readDigit_6 (by decide) (fun c9 => ?_) (fun c9 => ?_)
  · have hf := it_t hf c9
    exact hfX4_readDigit_B31  M hf _ (lv_sub hl [] rfl) _ _ hP hD hS
  · have hf := it_f hf c9
    refine lv_iload_n hx hb dX4_readDigit_9 rfl (lv_at hl 0 rfl) ?_
    refine lv_bipush (v := (9 : Int32)) hx hb dX4_readDigit_10 (by decide) ?_
    refine lv_icmp_gt (tgt := 31) hx hb dX4_readDigit_12 (by decide) (fun c9 => ?_) (fun c9 => ?_)
    · have hf := it_t hf c9
      exact hfX4_readDigit_B31  M hf _ (lv_sub hl [] rfl) _ _ hP hD hS
    · have hf := it_f hf c9
      refine lv_aload_n hx hb dX4_readDigit_15 rfl (lv_at hl 1 rfl) ?_
      refine va_get (D := (dC, dI)) (ci := 4) (v := .int (M 0 1)) (C := RX4) (T := TX4) (N := 3) hx hb hts hinX4 hown hK hP 0 rfl rfl 1 (by decide) hw1 (fun _ h9 => h9) rfl dX4_readDigit_16 ?_
      refine lv_if_lt (tgt := 31) hx hb dX4_readDigit_19 (by decide) (fun c9 => ?_) (fun c9 => ?_)
      · have hf := it_t hf c9
        exact hfX4_readDigit_B31  M hf _ (lv_sub hl [] rfl) _ _ hP hD hS
      · have hf := it_f hf c9
        refine lv_aload_n hx hb dX4_readDigit_22 rfl (lv_at hl 1 rfl) ?_
        refine va_get (D := (dC, dI)) (ci := 4) (v := .int (M 0 1)) (C := RX4) (T := TX4) (N := 3) hx hb hts hinX4 hown hK hP 0 rfl rfl 1 (by decide) hw1 (fun _ h9 => h9) rfl dX4_readDigit_23 ?_
        refine lv_bipush (v := (10 : Int32)) hx hb dX4_readDigit_26 (by decide) ?_
        refine lv_icmp_lt (tgt := 33) hx hb dX4_readDigit_28 (by decide) (fun c9 => ?_) (fun c9 => ?_)
        · have hf := it_t hf c9
          refine lv_aload_n hx hb dX4_readDigit_33 rfl (lv_at hl 1 rfl) ?_
          refine va_get (D := (dC, dI)) (ci := 4) (v := .ref (a 1)) (C := RX4) (T := TX4) (N := 3) hx hb hts hinX4 hown hK hP 0 rfl rfl 2 (by decide) hw2 (fun _ h9 => h9) rfl dX4_readDigit_34 ?_
          refine lv_aload_n hx hb dX4_readDigit_37 rfl (lv_at hl 1 rfl) ?_
          refine va_get (D := (dC, dI)) (ci := 4) (v := .int (M 0 1)) (C := RX4) (T := TX4) (N := 3) hx hb hts hinX4 hown hK hP 0 rfl rfl 1 (by decide) hw1 (fun _ h9 => h9) rfl dX4_readDigit_38 ?_
          refine lv_aload_n hx hb dX4_readDigit_41 rfl (lv_at hl 1 rfl) ?_
          refine va_get (D := (dC, dI)) (ci := 4) (v := .ref (a 1)) (C := RX4) (T := TX4) (N := 3) hx hb hts hinX4 hown hK hP 0 rfl rfl 2 (by decide) hw2 (fun _ h9 => h9) rfl dX4_readDigit_42 ?_
          refine lv_aload_n hx hb dX4_readDigit_45 rfl (lv_at hl 1 rfl) ?_
          refine va_get (D := (dC, dI)) (ci := 4) (v := .int (M 0 1)) (C := RX4) (T := TX4) (N := 3) hx hb hts hinX4 hown hK hP 0 rfl rfl 1 (by decide) hw1 (fun _ h9 => h9) rfl dX4_readDigit_46 ?_
          obtain ⟨hi, hf⟩ := gd_s hf
          refine va_iald (D := (dC, dI)) (f := (M 1)) hx hb hK hP 1 0 rfl rfl (inb_in hi) dX4_readDigit_49 ?_
          refine lv_bipush (v := (10 : Int32)) hx hb dX4_readDigit_50 (by decide) ?_
          refine lv_imul hx hb dX4_readDigit_52 ?_
          refine lv_iload_n hx hb dX4_readDigit_53 rfl (lv_at hl 0 rfl) ?_
          refine lv_iadd hx hb dX4_readDigit_54 ?_
          obtain ⟨hi, hf⟩ := gd_s hf
          refine va_iast (D := (dC, dI)) (f := (M 1)) hx hb hK hP hD hS 1 0 rfl rfl (inb_in hi) dX4_readDigit_55 (fun H locs hP hD hS => ?_)
          have hP : va_P (dC, dI) vwCl (wX4 cI cZ a (sr M 1 (upd (M 1) (M 0 1).toNatClampNeg (((M 1 (M 0 1).toNatClampNeg) * (10 : Int32)) + (a1 - (48 : Int32)))))) H := hP
          have hD : va_D A (wX4 cI cZ a (sr M 1 (upd (M 1) (M 0 1).toNatClampNeg (((M 1 (M 0 1).toNatClampNeg) * (10 : Int32)) + (a1 - (48 : Int32)))))) := hD
          refine lv_aload_n hx hb dX4_readDigit_56 rfl (lv_at hl 1 rfl) ?_
          refine va_get (D := (dC, dI)) (ci := 4) (v := .ref (a 1)) (C := RX4) (T := TX4) (N := 3) hx hb hts hinX4 hown hK hP 0 rfl rfl 2 (by decide) hw2 (fun _ h9 => h9) rfl dX4_readDigit_57 ?_
          refine lv_aload_n hx hb dX4_readDigit_60 rfl (lv_at hl 1 rfl) ?_
          refine va_get (D := (dC, dI)) (ci := 4) (v := .int (M 0 1)) (C := RX4) (T := TX4) (N := 3) hx hb hts hinX4 hown hK hP 0 rfl rfl 1 (by decide) hw1 (fun _ h9 => h9) rfl dX4_readDigit_61 ?_
          obtain ⟨hi, hf⟩ := gd_s hf
          refine va_iald (D := (dC, dI)) (f := (upd (M 1) (M 0 1).toNatClampNeg (((M 1 (M 0 1).toNatClampNeg) * (10 : Int32)) + (a1 - (48 : Int32))))) hx hb hK hP 1 0 rfl rfl (inb_in hi) dX4_readDigit_64 ?_
          refine lv_bipush (v := (20 : Int32)) hx hb dX4_readDigit_65 (by decide) ?_
          refine lv_icmp_gt (tgt := 74) hx hb dX4_readDigit_67 (by decide) (fun c9 => ?_) (fun c9 => ?_)
          · have hf := it_t hf c9
            refine lv_iconst (v := (0 : Int32)) hx hb dX4_readDigit_74 (by decide) ?_
            exact hfX4_readDigit_B75  (sr M 1 (upd (M 1) (M 0 1).toNatClampNeg (((M 1 (M 0 1).toNatClampNeg) * (10 : Int32)) + (a1 - (48 : Int32))))) (0 : Int32) hf _ (lv_sub hl [] rfl) _ _ hP hD hS
          · have hf := it_f hf c9
            refine lv_iconst (v := (1 : Int32)) hx hb dX4_readDigit_70 (by decide) ?_
            refine lv_goto (tgt := 75) hx hb dX4_readDigit_71 (by decide) ?_
            exact hfX4_readDigit_B75  (sr M 1 (upd (M 1) (M 0 1).toNatClampNeg (((M 1 (M 0 1).toNatClampNeg) * (10 : Int32)) + (a1 - (48 : Int32))))) (1 : Int32) hf _ (lv_sub hl [] rfl) _ _ hP hD hS
        · have hf := it_f hf c9
          exact hfX4_readDigit_B31  M hf _ (lv_sub hl [] rfl) _ _ hP hD hS
set_option maxHeartbeats 4000000 in
set_option maxRecDepth 100000 in
theorem c_X4_readKind (l : Launch) (dC : Nat → ClassId) (dI : Nat → Nat → Nat) (cI cZ : ClassId) (a : Nat → Nat) (sz : Nat) (M : Mem) (a1 : Int32) (z : Int32 × Mem) (hf : fX4_readKind M a1 = some z) : Met l yX4_readKind wsX4_readKind ({ frames := 0, cells := 0, slots := 0, locals := 0 } : Room) (va_Pc [.ref (a 0), .int a1] (WR (dC, dI) cI cZ (wX4 cI cZ a M) sz)) (va_Qi (S := Unit) (fun r _ => r = z.1) (fun _ t => WE (dC, dI) cI cZ (wX4 cI cZ a (sr M 0 (z.2 0))) (va_A (wX4 cI cZ a M) sz) t) (va_A (wX4 cI cZ a M) sz)) 0 0 (va_A (wX4 cI cZ a M) sz) := by
  refine Met.ofW (cc := cX4_readKind) (maxL := 3) (ret := (some .boolean)) (by decide) rfl ?_
  intro p e s m args below meth c s₁ B hml hv
  obtain ⟨rfl, hsz, hP, hK, hD0, hNW⟩ := hv
  have hx := B.exec
  have hb := B.bytes
  have hr := B.returns
  have hts := atoms_spec (ws := wsX4_readKind) B.pre
  have hown : s.vm.findClass RX4 = some m.cls := findClass_of_methodNamed B.named
  have hlocks := B.notSynchronized
  have hinX4 : ∀ w ∈ u_ws RX4 TX4 3, w ∈ wsX4_readKind := by decide +kernel
  have hw1 := hts (.fieldLink RX4 15 "GlideShelves$OrderReader" "kind" "I") (by decide +kernel)
  have hw2 := hts (.fieldLink RX4 11 "GlideShelves$OrderReader" "stage" "I") (by decide +kernel)
  subst hsz
  have hD := hD0.self (sz := s.heap.size)
  generalize hAe : va_A (wX4 cI cZ a M) s.heap.size = A at hD ⊢
  have hA : ∀ q : Nat, s.heap.size ≤ q → A q := fun q h => by rw [← hAe]; exact Or.inr h
  have hS : va_S A s.heap s.heap [] := va_S.rf
  have hfX4_readKind_B23 : ∀ (N : Mem), fX4_readKind_B23 M  N = some z → ∀ (ls : Array Slot), lv_has ls 3 [] → ∀ (H : Heap) (locs : List Loc), va_P (dC, dI) vwCl (wX4 cI cZ a (sr M 0 (N 0))) H → va_D A (wX4 cI cZ a (sr M 0 (N 0))) → va_S A s.heap H locs → W p l e (headSpec wsX4_readKind ({ frames := 0, cells := 0, slots := 0, locals := 0 } : Room)).room s m ([.ref (a 0), .int a1] : List Value).toArray below meth c H locs 0 0 (MQ below (va_Qi (S := Unit) (fun r _ => r = z.1) (fun _ t => WE (dC, dI) cI cZ (wX4 cI cZ a (sr M 0 (z.2 0))) A t) A) ([.ref (a 0), .int a1] : List Value).toArray s 0 0 A) (F0 m 23 ls []) := by
    intro  N hf ls hl H locs hP hD hS
    unfold fX4_readKind_B23 at hf
    refine lv_iconst (v := (0 : Int32)) hx hb dX4_readKind_23 (by decide) ?_
    obtain ⟨hz, hf⟩ := gd_s hf
    have e9 := so_e hf
    subst e9
    exact W.zret (v := (0 : Int32)) hx hb hr (isb_nar hz) (fun t ht hW => ⟨⟨(0 : Int32), (), rfl, rfl, WE.mk hP hD ht⟩, hS.F ht⟩) hS.2.2 dX4_readKind_24
  have hl := lv_entry ([.ref (a 0), .int a1]) (n := 3) (Nat.le_of_ble_eq_true rfl)
  rw [lg_entry_eq]
  generalize (lg_sl ([.ref (a 0), .int a1]) ++ List.replicate (3 - (lg_sl ([.ref (a 0), .int a1])).length) Slot.unset).toArray = ls at hl ⊢
  have hl : lv_has ls 3 [(0, .ref (a 0)), (1, .int a1)] := hl
  unfold fX4_readKind at hf
  suffices hgo : ∀ (H : Heap) (locs : List Loc), va_P (dC, dI) vwCl (wX4 cI cZ a M) H → va_D A (wX4 cI cZ a M) → va_S A s.heap H locs → W p l e (headSpec wsX4_readKind ({ frames := 0, cells := 0, slots := 0, locals := 0 } : Room)).room s m ([.ref (a 0), .int a1] : List Value).toArray below meth c H locs 0 0 (MQ below (va_Qi (S := Unit) (fun r _ => r = z.1) (fun _ t => WE (dC, dI) cI cZ (wX4 cI cZ a (sr M 0 (z.2 0))) A t) A) ([.ref (a 0), .int a1] : List Value).toArray s 0 0 A) (F0 m 0 ls []) from hgo _ _ hP hD hS
  intro H locs hP hD hS
  refine lv_iload_n hx hb dX4_readKind_0 rfl (lv_at hl 1 rfl) ?_
  refine lv_bipush (v := (48 : Int32)) hx hb dX4_readKind_1 (by decide) ?_
  refine lv_isub hx hb dX4_readKind_3 ?_
  refine lv_istore_n (lv' := [(2, .int (a1 - (48 : Int32))), (0, .ref (a 0)), (1, .int a1)]) hx hb dX4_readKind_4 rfl hl (by decide) rfl (fun ls hl => ?_)
  refine lv_iload_n hx hb dX4_readKind_5 rfl (lv_at hl 0 rfl) ?_
  refine lv_aload_n hx hb dX4_readKind_6 rfl (lv_at hl 1 rfl) ?_
  refine va_get (D := (dC, dI)) (ci := 4) (v := .int (M 0 1)) (C := RX4) (T := TX4) (N := 3) hx hb hts hinX4 hown hK hP 0 rfl rfl 1 (by decide) hw1 (fun _ h9 => h9) rfl dX4_readKind_7 ?_
  refine lv_icmp_le (tgt := 23) hx hb dX4_readKind_10 (by decide) (fun c9 => ?_) (fun c9 => ?_)
  · have hf := it_t hf c9
    exact hfX4_readKind_B23  M hf _ (lv_sub hl [] rfl) _ _ hP hD hS
  · have hf := it_f hf c9
    refine lv_iload_n hx hb dX4_readKind_13 rfl (lv_at hl 0 rfl) ?_
    refine lv_if_lt (tgt := 23) hx hb dX4_readKind_14 (by decide) (fun c9 => ?_) (fun c9 => ?_)
    · have hf := it_t hf c9
      exact hfX4_readKind_B23  M hf _ (lv_sub hl [] rfl) _ _ hP hD hS
    · have hf := it_f hf c9
      refine lv_iload_n hx hb dX4_readKind_17 rfl (lv_at hl 0 rfl) ?_
      refine lv_bipush (v := (10 : Int32)) hx hb dX4_readKind_18 (by decide) ?_
      refine lv_icmp_lt (tgt := 25) hx hb dX4_readKind_20 (by decide) (fun c9 => ?_) (fun c9 => ?_)
      · have hf := it_t hf c9
        refine lv_aload_n hx hb dX4_readKind_25 rfl (lv_at hl 1 rfl) ?_
        refine lv_iload_n hx hb dX4_readKind_26 rfl (lv_at hl 0 rfl) ?_
        refine va_put (D := (dC, dI)) (ci := 4) (v := .int (a1 - (48 : Int32))) (ty := .int) (C := RX4) (T := TX4) (N := 3) hx hb hts hinX4 tyX4 tyX4_ok nmX4 hown hK hP hD hS 0 rfl rfl 1 (by decide) hw1 (fun _ h9 => h9) rfl (by decide +kernel) rfl rfl (Nat.le_of_ble_eq_true rfl) dX4_readKind_27 (fun H locs hP hD hS => ?_)
        have hP : va_P (dC, dI) vwCl (wX4 cI cZ a (sr M 0 (upd (M 0) 1 (a1 - (48 : Int32))))) H := hP
        have hD : va_D A (wX4 cI cZ a (sr M 0 (upd (M 0) 1 (a1 - (48 : Int32))))) := hD
        refine lv_aload_n hx hb dX4_readKind_30 rfl (lv_at hl 1 rfl) ?_
        refine lv_iconst (v := (1 : Int32)) hx hb dX4_readKind_31 (by decide) ?_
        refine va_put (D := (dC, dI)) (ci := 4) (v := .int (1 : Int32)) (ty := .int) (C := RX4) (T := TX4) (N := 3) hx hb hts hinX4 tyX4 tyX4_ok nmX4 hown hK hP hD hS 0 rfl rfl 0 (by decide) hw2 (fun _ h9 => h9) rfl (by decide +kernel) rfl rfl (Nat.le_of_ble_eq_true rfl) dX4_readKind_32 (fun H locs hP hD hS => ?_)
        have hP : va_P (dC, dI) vwCl (wX4 cI cZ a (sr M 0 (upd (upd (M 0) 1 (a1 - (48 : Int32))) 0 (1 : Int32)))) H := hP
        have hD : va_D A (wX4 cI cZ a (sr M 0 (upd (upd (M 0) 1 (a1 - (48 : Int32))) 0 (1 : Int32)))) := hD
        refine lv_iconst (v := (1 : Int32)) hx hb dX4_readKind_35 (by decide) ?_
        obtain ⟨hz, hf⟩ := gd_s hf
        have e9 := so_e hf
        subst e9
        exact W.zret (v := (1 : Int32)) hx hb hr (isb_nar hz) (fun t ht hW => ⟨⟨(1 : Int32), (), rfl, rfl, WE.mk hP hD ht⟩, hS.F ht⟩) hS.2.2 dX4_readKind_36
      · have hf := it_f hf c9
        exact hfX4_readKind_B23  M hf _ (lv_sub hl [] rfl) _ _ hP hD hS
set_option maxHeartbeats 4000000 in
set_option maxRecDepth 100000 in
theorem c_X4_read (l : Launch) (dC : Nat → ClassId) (dI : Nat → Nat → Nat) (cI cZ : ClassId) (a : Nat → Nat) (sz : Nat) (M : Mem) (a1 : Int32) (z : Int32 × Mem) (hf : fX4_read M a1 = some z) : Met l yX4_read wsX4_read ({ frames := 1, cells := 0, slots := 0, locals := 22 } : Room) (va_Pc [.ref (a 0), .int a1] (WR (dC, dI) cI cZ (wX4 cI cZ a M) sz)) (va_Qi (S := Unit) (fun r _ => r = z.1) (fun _ t => WE (dC, dI) cI cZ (wX4 cI cZ a (sr (sr M 0 (z.2 0)) 1 (z.2 1))) (va_A (wX4 cI cZ a M) sz) t) (va_A (wX4 cI cZ a M) sz)) 0 0 (va_A (wX4 cI cZ a M) sz) := by
  refine Met.ofW (cc := cX4_read) (maxL := 2) (ret := (some .boolean)) (by decide) rfl ?_
  intro p e s m args below meth c s₁ B hml hv
  obtain ⟨rfl, hsz, hP, hK, hD0, hNW⟩ := hv
  have hx := B.exec
  have hb := B.bytes
  have hr := B.returns
  have hts := atoms_spec (ws := wsX4_read) B.pre
  have hown : s.vm.findClass RX4 = some m.cls := findClass_of_methodNamed B.named
  have hlocks := B.notSynchronized
  have hinX4 : ∀ w ∈ u_ws RX4 TX4 3, w ∈ wsX4_read := by decide +kernel
  have hw1 := hts (.fieldLink RX4 11 "GlideShelves$OrderReader" "stage" "I") (by decide +kernel)
  subst hsz
  have hD := hD0.self (sz := s.heap.size)
  generalize hAe : va_A (wX4 cI cZ a M) s.heap.size = A at hD ⊢
  have hA : ∀ q : Nat, s.heap.size ≤ q → A q := fun q h => by rw [← hAe]; exact Or.inr h
  have hS : va_S A s.heap s.heap [] := va_S.rf
  have hfX4_read_B54 : ∀ (N : Mem) (s0 : Int32), fX4_read_B54 M  N s0 = some z → ∀ (ls : Array Slot), lv_has ls 2 [] → ∀ (H : Heap) (locs : List Loc), va_P (dC, dI) vwCl (wX4 cI cZ a (sr (sr M 0 (N 0)) 1 (N 1))) H → va_D A (wX4 cI cZ a (sr (sr M 0 (N 0)) 1 (N 1))) → va_S A s.heap H locs → W p l e (headSpec wsX4_read ({ frames := 1, cells := 0, slots := 0, locals := 22 } : Room)).room s m ([.ref (a 0), .int a1] : List Value).toArray below meth c H locs 0 0 (MQ below (va_Qi (S := Unit) (fun r _ => r = z.1) (fun _ t => WE (dC, dI) cI cZ (wX4 cI cZ a (sr (sr M 0 (z.2 0)) 1 (z.2 1))) A t) A) ([.ref (a 0), .int a1] : List Value).toArray s 0 0 A) (F0 m 54 ls [.int s0]) := by
    intro  N s0 hf ls hl H locs hP hD hS
    unfold fX4_read_B54 at hf
    obtain ⟨hz, hf⟩ := gd_s hf
    have e9 := so_e hf
    subst e9
    exact W.zret (v := s0) hx hb hr (isb_nar hz) (fun t ht hW => ⟨⟨s0, (), rfl, rfl, WE.mk hP hD ht⟩, hS.F ht⟩) hS.2.2 dX4_read_54
  have hfX4_read_B79 : ∀ (N : Mem) (s0 : Int32), fX4_read_B79 M  N s0 = some z → ∀ (ls : Array Slot), lv_has ls 2 [] → ∀ (H : Heap) (locs : List Loc), va_P (dC, dI) vwCl (wX4 cI cZ a (sr (sr M 0 (N 0)) 1 (N 1))) H → va_D A (wX4 cI cZ a (sr (sr M 0 (N 0)) 1 (N 1))) → va_S A s.heap H locs → W p l e (headSpec wsX4_read ({ frames := 1, cells := 0, slots := 0, locals := 22 } : Room)).room s m ([.ref (a 0), .int a1] : List Value).toArray below meth c H locs 0 0 (MQ below (va_Qi (S := Unit) (fun r _ => r = z.1) (fun _ t => WE (dC, dI) cI cZ (wX4 cI cZ a (sr (sr M 0 (z.2 0)) 1 (z.2 1))) A t) A) ([.ref (a 0), .int a1] : List Value).toArray s 0 0 A) (F0 m 79 ls [.int s0]) := by
    intro  N s0 hf ls hl H locs hP hD hS
    unfold fX4_read_B79 at hf
    obtain ⟨hz, hf⟩ := gd_s hf
    have e9 := so_e hf
    subst e9
    exact W.zret (v := s0) hx hb hr (isb_nar hz) (fun t ht hW => ⟨⟨s0, (), rfl, rfl, WE.mk hP hD ht⟩, hS.F ht⟩) hS.2.2 dX4_read_79
  have hfX4_read_B78 : ∀ (N : Mem), fX4_read_B78 M  N = some z → ∀ (ls : Array Slot), lv_has ls 2 [] → ∀ (H : Heap) (locs : List Loc), va_P (dC, dI) vwCl (wX4 cI cZ a (sr (sr M 0 (N 0)) 1 (N 1))) H → va_D A (wX4 cI cZ a (sr (sr M 0 (N 0)) 1 (N 1))) → va_S A s.heap H locs → W p l e (headSpec wsX4_read ({ frames := 1, cells := 0, slots := 0, locals := 22 } : Room)).room s m ([.ref (a 0), .int a1] : List Value).toArray below meth c H locs 0 0 (MQ below (va_Qi (S := Unit) (fun r _ => r = z.1) (fun _ t => WE (dC, dI) cI cZ (wX4 cI cZ a (sr (sr M 0 (z.2 0)) 1 (z.2 1))) A t) A) ([.ref (a 0), .int a1] : List Value).toArray s 0 0 A) (F0 m 78 ls []) := by
    intro  N hf ls hl H locs hP hD hS
    unfold fX4_read_B78 at hf
    refine lv_iconst (v := (0 : Int32)) hx hb dX4_read_78 (by decide) ?_
    exact hfX4_read_B79  (sr (sr M 0 (N 0)) 1 (N 1)) (0 : Int32) hf _ (lv_sub hl [] rfl) _ _ hP hD hS
  have hfX4_read_B98 : ∀ (N : Mem) (s0 : Int32), fX4_read_B98 M  N s0 = some z → ∀ (ls : Array Slot), lv_has ls 2 [] → ∀ (H : Heap) (locs : List Loc), va_P (dC, dI) vwCl (wX4 cI cZ a (sr (sr M 0 (N 0)) 1 (N 1))) H → va_D A (wX4 cI cZ a (sr (sr M 0 (N 0)) 1 (N 1))) → va_S A s.heap H locs → W p l e (headSpec wsX4_read ({ frames := 1, cells := 0, slots := 0, locals := 22 } : Room)).room s m ([.ref (a 0), .int a1] : List Value).toArray below meth c H locs 0 0 (MQ below (va_Qi (S := Unit) (fun r _ => r = z.1) (fun _ t => WE (dC, dI) cI cZ (wX4 cI cZ a (sr (sr M 0 (z.2 0)) 1 (z.2 1))) A t) A) ([.ref (a 0), .int a1] : List Value).toArray s 0 0 A) (F0 m 98 ls [.int s0]) := by
    intro  N s0 hf ls hl H locs hP hD hS
    unfold fX4_read_B98 at hf
    obtain ⟨hz, hf⟩ := gd_s hf
    have e9 := so_e hf
    subst e9
    exact W.zret (v := s0) hx hb hr (isb_nar hz) (fun t ht hW => ⟨⟨s0, (), rfl, rfl, WE.mk hP hD ht⟩, hS.F ht⟩) hS.2.2 dX4_read_98
  have hl := lv_entry ([.ref (a 0), .int a1]) (n := 2) (Nat.le_of_ble_eq_true rfl)
  rw [lg_entry_eq]
  generalize (lg_sl ([.ref (a 0), .int a1]) ++ List.replicate (2 - (lg_sl ([.ref (a 0), .int a1])).length) Slot.unset).toArray = ls at hl ⊢
  have hl : lv_has ls 2 [(0, .ref (a 0)), (1, .int a1)] := hl
  unfold fX4_read at hf
  suffices hgo : ∀ (H : Heap) (locs : List Loc), va_P (dC, dI) vwCl (wX4 cI cZ a M) H → va_D A (wX4 cI cZ a M) → va_S A s.heap H locs → W p l e (headSpec wsX4_read ({ frames := 1, cells := 0, slots := 0, locals := 22 } : Room)).room s m ([.ref (a 0), .int a1] : List Value).toArray below meth c H locs 0 0 (MQ below (va_Qi (S := Unit) (fun r _ => r = z.1) (fun _ t => WE (dC, dI) cI cZ (wX4 cI cZ a (sr (sr M 0 (z.2 0)) 1 (z.2 1))) A t) A) ([.ref (a 0), .int a1] : List Value).toArray s 0 0 A) (F0 m 0 ls []) from hgo _ _ hP hD hS
  intro H locs hP hD hS
  refine lv_aload_n hx hb dX4_read_0 rfl (lv_at hl 0 rfl) ?_
  refine va_get (D := (dC, dI)) (ci := 4) (v := .int (M 0 0)) (C := RX4) (T := TX4) (N := 3) hx hb hts hinX4 hown hK hP 0 rfl rfl 0 (by decide) hw1 (fun _ h9 => h9) rfl dX4_read_1 ?_
  by_cases c900 : (M 0 0) = (0 : Int32)
  · have hf := it_t hf c900
    refine lv_tableIn (off := 28) (tgt := 32) hx hb dX4_read_4 (by rw [c900]; decide) (by rw [c900]; decide) (by rw [c900]; rfl) (by decide) ?_
    refine lv_aload_n hx hb dX4_read_32 rfl (lv_at hl 0 rfl) ?_
    refine lv_iload_n hx hb dX4_read_33 rfl (lv_at hl 1 rfl) ?_
    obtain ⟨r34, hc34, hf⟩ := bi_s hf
    have hPc := hP
    have hDc := hD
    have hFc := va_free (wc := (wX4 cI cZ a M)) hD hS hA [0, 1] rfl
    refine va_calli (va_runV (As := [.int a1]) (rest := []) ⟨hx, hb, hml, hown, hts⟩ (c_X4_readKind l dC dI cI cZ a H.size M a1 r34 hc34) (cwV 1 hts gX4_read_X4_readKind rfl rfl rfl (by decide +kernel) ⟨Nat.le_of_ble_eq_true rfl, Nat.le_of_ble_eq_true rfl⟩) ⟨WR.blind, va_recv hK hP (ci := 4) (q0 := 0) rfl rfl, WR.pre hPc hK hDc hNW⟩ rfl rfl hl.1 rfl (lv_room (Nat.le_of_ble_eq_true rfl)) dX4_read_34 ⟨Nat.le_of_ble_eq_true rfl, Nat.le_of_ble_eq_true rfl⟩) hS (fun q _ h => hFc q h) hFc (fun rv u t H1 locs ht hvm hw hB hz1 hk1 hS => ?_)
    obtain ⟨hP1, hD1⟩ := hB
    rw [ht] at hP1
    subst hw
    have hP := hP1
    have hD := hD1.weaken (fun k q _ h => hFc q.1 h)
    have hP : va_P (dC, dI) vwCl (wX4 cI cZ a (sr M 0 (r34.2 0))) H1 := hP
    have hD : va_D A (wX4 cI cZ a (sr M 0 (r34.2 0))) := hD
    generalize H1 = H at hP hS ⊢
    obtain ⟨hz, hf⟩ := gd_s hf
    have e9 := so_e hf
    subst e9
    exact W.zret (v := r34.1) hx hb hr (isb_nar hz) (fun t ht hW => ⟨⟨r34.1, (), rfl, rfl, WE.mk hP hD ht⟩, hS.F ht⟩) hS.2.2 dX4_read_37
  have hf := it_f hf c900
  by_cases c901 : (M 0 0) = (1 : Int32)
  · have hf := it_t hf c901
    refine lv_tableIn (off := 34) (tgt := 38) hx hb dX4_read_4 (by rw [c901]; decide) (by rw [c901]; decide) (by rw [c901]; rfl) (by decide) ?_
    refine lv_aload_n hx hb dX4_read_38 rfl (lv_at hl 0 rfl) ?_
    refine lv_iconst (v := (2 : Int32)) hx hb dX4_read_39 (by decide) ?_
    refine va_put (D := (dC, dI)) (ci := 4) (v := .int (2 : Int32)) (ty := .int) (C := RX4) (T := TX4) (N := 3) hx hb hts hinX4 tyX4 tyX4_ok nmX4 hown hK hP hD hS 0 rfl rfl 0 (by decide) hw1 (fun _ h9 => h9) rfl (by decide +kernel) rfl rfl (Nat.le_of_ble_eq_true rfl) dX4_read_40 (fun H locs hP hD hS => ?_)
    have hP : va_P (dC, dI) vwCl (wX4 cI cZ a (sr M 0 (upd (M 0) 0 (2 : Int32)))) H := hP
    have hD : va_D A (wX4 cI cZ a (sr M 0 (upd (M 0) 0 (2 : Int32)))) := hD
    refine lv_iload_n hx hb dX4_read_43 rfl (lv_at hl 1 rfl) ?_
    refine lv_bipush (v := (42 : Int32)) hx hb dX4_read_44 (by decide) ?_
    refine lv_icmp_ne (tgt := 53) hx hb dX4_read_46 (by decide) (fun c9 => ?_) (fun c9 => ?_)
    · have hf := it_t hf c9
      refine lv_iconst (v := (0 : Int32)) hx hb dX4_read_53 (by decide) ?_
      exact hfX4_read_B54  (sr M 0 (upd (M 0) 0 (2 : Int32))) (0 : Int32) hf _ (lv_sub hl [] rfl) _ _ hP hD hS
    · have hf := it_n hf c9
      refine lv_iconst (v := (1 : Int32)) hx hb dX4_read_49 (by decide) ?_
      refine lv_goto (tgt := 54) hx hb dX4_read_50 (by decide) ?_
      exact hfX4_read_B54  (sr M 0 (upd (M 0) 0 (2 : Int32))) (1 : Int32) hf _ (lv_sub hl [] rfl) _ _ hP hD hS
  have hf := it_f hf c901
  by_cases c902 : (M 0 0) = (2 : Int32)
  · have hf := it_t hf c902
    refine lv_tableIn (off := 51) (tgt := 55) hx hb dX4_read_4 (by rw [c902]; decide) (by rw [c902]; decide) (by rw [c902]; rfl) (by decide) ?_
    refine lv_aload_n hx hb dX4_read_55 rfl (lv_at hl 0 rfl) ?_
    refine lv_iconst (v := (3 : Int32)) hx hb dX4_read_56 (by decide) ?_
    refine va_put (D := (dC, dI)) (ci := 4) (v := .int (3 : Int32)) (ty := .int) (C := RX4) (T := TX4) (N := 3) hx hb hts hinX4 tyX4 tyX4_ok nmX4 hown hK hP hD hS 0 rfl rfl 0 (by decide) hw1 (fun _ h9 => h9) rfl (by decide +kernel) rfl rfl (Nat.le_of_ble_eq_true rfl) dX4_read_57 (fun H locs hP hD hS => ?_)
    have hP : va_P (dC, dI) vwCl (wX4 cI cZ a (sr M 0 (upd (M 0) 0 (3 : Int32)))) H := hP
    have hD : va_D A (wX4 cI cZ a (sr M 0 (upd (M 0) 0 (3 : Int32)))) := hD
    refine lv_iload_n hx hb dX4_read_60 rfl (lv_at hl 1 rfl) ?_
    refine lv_bipush (v := (48 : Int32)) hx hb dX4_read_61 (by decide) ?_
    refine lv_icmp_eq (tgt := 78) hx hb dX4_read_63 (by decide) (fun c9 => ?_) (fun c9 => ?_)
    · have hf := it_t hf c9
      exact hfX4_read_B78  (sr M 0 (upd (M 0) 0 (3 : Int32))) hf _ (lv_sub hl [] rfl) _ _ hP hD hS
    · have hf := it_f hf c9
      refine lv_aload_n hx hb dX4_read_66 rfl (lv_at hl 0 rfl) ?_
      refine lv_iload_n hx hb dX4_read_67 rfl (lv_at hl 1 rfl) ?_
      obtain ⟨r68, hc68, hf⟩ := bi_s hf
      have hPc := hP
      have hDc := hD
      have hFc := va_free (wc := (wX4 cI cZ a (sr M 0 (upd (M 0) 0 (3 : Int32))))) hD hS hA [0, 1] rfl
      refine va_calli (va_runV (As := [.int a1]) (rest := []) ⟨hx, hb, hml, hown, hts⟩ (c_X4_readDigit l dC dI cI cZ a H.size (sr M 0 (upd (M 0) 0 (3 : Int32))) a1 r68 hc68) (cwV 1 hts gX4_read_X4_readDigit rfl rfl rfl (by decide +kernel) ⟨Nat.le_of_ble_eq_true rfl, Nat.le_of_ble_eq_true rfl⟩) ⟨WR.blind, va_recv hK hP (ci := 4) (q0 := 0) rfl rfl, WR.pre hPc hK hDc hNW⟩ rfl rfl hl.1 rfl (lv_room (Nat.le_of_ble_eq_true rfl)) dX4_read_68 ⟨Nat.le_of_ble_eq_true rfl, Nat.le_of_ble_eq_true rfl⟩) hS (fun q _ h => hFc q h) hFc (fun rv u t H1 locs ht hvm hw hB hz1 hk1 hS => ?_)
      obtain ⟨hP1, hD1⟩ := hB
      rw [ht] at hP1
      subst hw
      have hP := hP1
      have hD := hD1.weaken (fun k q _ h => hFc q.1 h)
      have hP : va_P (dC, dI) vwCl (wX4 cI cZ a (sr (sr M 0 (upd (M 0) 0 (3 : Int32))) 1 (r68.2 1))) H1 := hP
      have hD : va_D A (wX4 cI cZ a (sr (sr M 0 (upd (M 0) 0 (3 : Int32))) 1 (r68.2 1))) := hD
      generalize H1 = H at hP hS ⊢
      refine lv_if_eq (tgt := 78) hx hb dX4_read_71 (by decide) (fun c9 => ?_) (fun c9 => ?_)
      · have hf := it_t hf c9
        exact hfX4_read_B78  (sr (sr M 0 (upd (M 0) 0 (3 : Int32))) 1 (r68.2 1)) hf _ (lv_sub hl [] rfl) _ _ hP hD hS
      · have hf := it_f hf c9
        refine lv_iconst (v := (1 : Int32)) hx hb dX4_read_74 (by decide) ?_
        refine lv_goto (tgt := 79) hx hb dX4_read_75 (by decide) ?_
        exact hfX4_read_B79  (sr (sr M 0 (upd (M 0) 0 (3 : Int32))) 1 (r68.2 1)) (1 : Int32) hf _ (lv_sub hl [] rfl) _ _ hP hD hS
  have hf := it_f hf c902
  refine lv_tableOut (tgt := 80) hx hb dX4_read_4 (tab_out 3 (by decide) (fun k hk => by rcases (show k = 0 ∨ k = 1 ∨ k = 2 by omega) with rfl | rfl | rfl <;> assumption)) (by decide) ?_
  refine lv_iload_n hx hb dX4_read_80 rfl (lv_at hl 1 rfl) ?_
  refine lv_bipush (v := (44 : Int32)) hx hb dX4_read_81 (by decide) ?_
  refine lv_icmp_ne (tgt := 93) hx hb dX4_read_83 (by decide) (fun c9 => ?_) (fun c9 => ?_)
  · have hf := it_t hf c9
    refine lv_aload_n hx hb dX4_read_93 rfl (lv_at hl 0 rfl) ?_
    refine lv_iload_n hx hb dX4_read_94 rfl (lv_at hl 1 rfl) ?_
    obtain ⟨r95, hc95, hf⟩ := bi_s hf
    have hPc := hP
    have hDc := hD
    have hFc := va_free (wc := (wX4 cI cZ a M)) hD hS hA [0, 1] rfl
    refine va_calli (va_runV (As := [.int a1]) (rest := []) ⟨hx, hb, hml, hown, hts⟩ (c_X4_readDigit l dC dI cI cZ a H.size M a1 r95 hc95) (cwV 1 hts gX4_read_X4_readDigit rfl rfl rfl (by decide +kernel) ⟨Nat.le_of_ble_eq_true rfl, Nat.le_of_ble_eq_true rfl⟩) ⟨WR.blind, va_recv hK hP (ci := 4) (q0 := 0) rfl rfl, WR.pre hPc hK hDc hNW⟩ rfl rfl hl.1 rfl (lv_room (Nat.le_of_ble_eq_true rfl)) dX4_read_95 ⟨Nat.le_of_ble_eq_true rfl, Nat.le_of_ble_eq_true rfl⟩) hS (fun q _ h => hFc q h) hFc (fun rv u t H1 locs ht hvm hw hB hz1 hk1 hS => ?_)
    obtain ⟨hP1, hD1⟩ := hB
    rw [ht] at hP1
    subst hw
    have hP := hP1
    have hD := hD1.weaken (fun k q _ h => hFc q.1 h)
    have hP : va_P (dC, dI) vwCl (wX4 cI cZ a (sr M 1 (r95.2 1))) H1 := hP
    have hD : va_D A (wX4 cI cZ a (sr M 1 (r95.2 1))) := hD
    generalize H1 = H at hP hS ⊢
    exact hfX4_read_B98  (sr M 1 (r95.2 1)) r95.1 hf _ (lv_sub hl [] rfl) _ _ hP hD hS
  · have hf := it_n hf c9
    refine lv_aload_n hx hb dX4_read_86 rfl (lv_at hl 0 rfl) ?_
    obtain ⟨r87, hc87, hf⟩ := bi_s hf
    have hPc := hP
    have hDc := hD
    have hFc := va_free (wc := (wX4 cI cZ a M)) hD hS hA [0, 1] rfl
    refine va_calli (va_runV (As := []) (rest := []) ⟨hx, hb, hml, hown, hts⟩ (c_X4_readComma l dC dI cI cZ a H.size M r87 hc87) (cwV 0 hts gX4_read_X4_readComma rfl rfl rfl (by decide +kernel) ⟨Nat.le_of_ble_eq_true rfl, Nat.le_of_ble_eq_true rfl⟩) ⟨WR.blind, va_recv hK hP (ci := 4) (q0 := 0) rfl rfl, WR.pre hPc hK hDc hNW⟩ rfl rfl hl.1 rfl (lv_room (Nat.le_of_ble_eq_true rfl)) dX4_read_87 ⟨Nat.le_of_ble_eq_true rfl, Nat.le_of_ble_eq_true rfl⟩) hS (fun q _ h => hFc q h) hFc (fun rv u t H1 locs ht hvm hw hB hz1 hk1 hS => ?_)
    obtain ⟨hP1, hD1⟩ := hB
    rw [ht] at hP1
    subst hw
    have hP := hP1
    have hD := hD1.weaken (fun k q _ h => hFc q.1 h)
    have hP : va_P (dC, dI) vwCl (wX4 cI cZ a (sr M 0 (r87.2 0))) H1 := hP
    have hD : va_D A (wX4 cI cZ a (sr M 0 (r87.2 0))) := hD
    generalize H1 = H at hP hS ⊢
    refine lv_goto (tgt := 98) hx hb dX4_read_90 (by decide) ?_
    exact hfX4_read_B98  (sr M 0 (r87.2 0)) r87.1 hf _ (lv_sub hl [] rfl) _ _ hP hD hS
set_option maxHeartbeats 4000000 in
set_option maxRecDepth 100000 in
theorem c_X5_readAll (l : Launch) (dC : Nat → ClassId) (dI : Nat → Nat → Nat) (cI cZ : ClassId) (a : Nat → Nat) (sz : Nat) (M : Mem) (z : Int32 × Mem) (hf : fX5_readAll M  = some z) : Met l yX5_readAll wsX5_readAll ({ frames := 2, cells := 0, slots := 0, locals := 43 } : Room) (va_Pc [.ref (a 0)] (WR (dC, dI) cI cZ (wX5 cI cZ a M) sz)) (va_Qi (S := Unit) (fun r _ => r = z.1) (fun _ t => WE (dC, dI) cI cZ (wX5 cI cZ a (sr (sr M 2 (z.2 2)) 3 (z.2 3))) (va_A (wX5 cI cZ a M) sz) t) (va_A (wX5 cI cZ a M) sz)) 0 0 (va_A (wX5 cI cZ a M) sz) := by
  refine Met.ofW (cc := cX5_readAll) (maxL := 2) (ret := (some .int)) (by decide) rfl ?_
  intro p e s m args below meth c s₁ B hml hv
  obtain ⟨rfl, hsz, hP, hK, hD0, hNW⟩ := hv
  have hx := B.exec
  have hb := B.bytes
  have hr := B.returns
  have hts := atoms_spec (ws := wsX5_readAll) B.pre
  have hown : s.vm.findClass RX5 = some m.cls := findClass_of_methodNamed B.named
  have hlocks := B.notSynchronized
  have hinX5 : ∀ w ∈ u_ws RX5 TX5 3, w ∈ wsX5_readAll := by decide +kernel
  have hw1 := hts (.fieldLink RX5 22 "GlideShelves$OrderText" "reader" "LGlideShelves$OrderReader;") (by decide +kernel)
  have hw2 := hts (.initialized RX4) (by decide +kernel)
  have hw3 := hts (.instanceMethod yX4_begin) (by decide +kernel)
  have hw4 := hts (.selects RX4 yX4_begin yX4_begin) (by decide +kernel)
  have hw5 := hts (.fieldLink RX5 9 "GlideShelves$OrderText" "length" "I") (by decide +kernel)
  have hw6 := hts (.fieldLink RX5 15 "GlideShelves$OrderText" "codes" "[I") (by decide +kernel)
  have hw7 := hts (.instanceMethod yX4_read) (by decide +kernel)
  have hw8 := hts (.selects RX4 yX4_read yX4_read) (by decide +kernel)
  subst hsz
  have hD := hD0.self (sz := s.heap.size)
  generalize hAe : va_A (wX5 cI cZ a M) s.heap.size = A at hD ⊢
  have hA : ∀ q : Nat, s.heap.size ≤ q → A q := fun q h => by rw [← hAe]; exact Or.inr h
  have hS : va_S A s.heap s.heap [] := va_S.rf
  have hfX5_readAll_L9 : ∀ (n : Nat) (kx33 : Mem → Int32 → Option (Int32 × Mem)) (hkx33 : ∀ (N : Mem) (l1 : Int32), kx33 N l1 = some z → ∀ (ls : Array Slot), lv_has ls 2 [(1, .int l1)] → ∀ (H : Heap) (locs : List Loc), va_P (dC, dI) vwCl (wX5 cI cZ a (sr (sr M 2 (N 2)) 3 (N 3))) H → va_D A (wX5 cI cZ a (sr (sr M 2 (N 2)) 3 (N 3))) → va_S A s.heap H locs → W p l e (headSpec wsX5_readAll ({ frames := 2, cells := 0, slots := 0, locals := 43 } : Room)).room s m ([.ref (a 0)] : List Value).toArray below meth c H locs 0 0 (MQ below (va_Qi (S := Unit) (fun r _ => r = z.1) (fun _ t => WE (dC, dI) cI cZ (wX5 cI cZ a (sr (sr M 2 (z.2 2)) 3 (z.2 3))) A t) A) ([.ref (a 0)] : List Value).toArray s 0 0 A) (F0 m 33 ls [])) (kx41 : Mem → Option (Int32 × Mem)) (hkx41 : ∀ (N : Mem), kx41 N = some z → ∀ (ls : Array Slot), lv_has ls 2 [(0, .ref (a 0))] → ∀ (H : Heap) (locs : List Loc), va_P (dC, dI) vwCl (wX5 cI cZ a (sr (sr M 2 (N 2)) 3 (N 3))) H → va_D A (wX5 cI cZ a (sr (sr M 2 (N 2)) 3 (N 3))) → va_S A s.heap H locs → W p l e (headSpec wsX5_readAll ({ frames := 2, cells := 0, slots := 0, locals := 43 } : Room)).room s m ([.ref (a 0)] : List Value).toArray below meth c H locs 0 0 (MQ below (va_Qi (S := Unit) (fun r _ => r = z.1) (fun _ t => WE (dC, dI) cI cZ (wX5 cI cZ a (sr (sr M 2 (z.2 2)) 3 (z.2 3))) A t) A) ([.ref (a 0)] : List Value).toArray s 0 0 A) (F0 m 41 ls [])), ∀ (N : Mem) (l1 : Int32), fX5_readAll_L9 M n kx33 kx41 N l1 = some z → ∀ (ls : Array Slot), lv_has ls 2 [(0, .ref (a 0)), (1, .int l1)] → ∀ (H : Heap) (locs : List Loc), va_P (dC, dI) vwCl (wX5 cI cZ a (sr (sr M 2 (N 2)) 3 (N 3))) H → va_D A (wX5 cI cZ a (sr (sr M 2 (N 2)) 3 (N 3))) → va_S A s.heap H locs → W p l e (headSpec wsX5_readAll ({ frames := 2, cells := 0, slots := 0, locals := 43 } : Room)).room s m ([.ref (a 0)] : List Value).toArray below meth c H locs 0 0 (MQ below (va_Qi (S := Unit) (fun r _ => r = z.1) (fun _ t => WE (dC, dI) cI cZ (wX5 cI cZ a (sr (sr M 2 (z.2 2)) 3 (z.2 3))) A t) A) ([.ref (a 0)] : List Value).toArray s 0 0 A) (F0 m 9 ls []) := by
    intro n
    induction n with
    | zero =>
      intro kx33 hkx33 kx41 hkx41 N l1 hf ls hl H locs hP hD hS
      rw [fX5_readAll_L9] at hf
      cases hf
    | succ n ih =>
      intro kx33 hkx33 kx41 hkx41 N l1 hf ls hl H locs hP hD hS
      rw [fX5_readAll_L9] at hf
      refine lv_iload_n hx hb dX5_readAll_9 rfl (lv_at hl 1 rfl) ?_
      refine lv_aload_n hx hb dX5_readAll_10 rfl (lv_at hl 0 rfl) ?_
      refine va_get (D := (dC, dI)) (ci := 5) (v := .int (M 0 0)) (C := RX5) (T := TX5) (N := 3) hx hb hts hinX5 hown hK hP 0 rfl rfl 0 (by decide) hw5 (fun _ h9 => h9) rfl dX5_readAll_11 ?_
      refine lv_icmp_ge (tgt := 41) hx hb dX5_readAll_14 (by decide) (fun c9 => ?_) (fun c9 => ?_)
      · have hf := it_t hf c9
        exact hkx41 (sr (sr M 2 (N 2)) 3 (N 3)) hf _ (lv_sub hl [0] rfl) _ _ hP hD hS
      · have hf := it_f hf c9
        refine lv_aload_n hx hb dX5_readAll_17 rfl (lv_at hl 0 rfl) ?_
        refine va_get (D := (dC, dI)) (ci := 5) (v := .ref (a 2)) (C := RX5) (T := TX5) (N := 3) hx hb hts hinX5 hown hK hP 0 rfl rfl 2 (by decide) hw1 (fun _ h9 => h9) rfl dX5_readAll_18 ?_
        refine lv_aload_n hx hb dX5_readAll_21 rfl (lv_at hl 0 rfl) ?_
        refine va_get (D := (dC, dI)) (ci := 5) (v := .ref (a 1)) (C := RX5) (T := TX5) (N := 3) hx hb hts hinX5 hown hK hP 0 rfl rfl 1 (by decide) hw6 (fun _ h9 => h9) rfl dX5_readAll_22 ?_
        refine lv_iload_n hx hb dX5_readAll_25 rfl (lv_at hl 1 rfl) ?_
        obtain ⟨hi, hf⟩ := gd_s hf
        refine va_iald (D := (dC, dI)) (f := (M 1)) hx hb hK hP 1 0 rfl rfl (inb_in hi) dX5_readAll_26 ?_
        obtain ⟨r27, hc27, hf⟩ := bi_s hf
        have hPc := hP.sub (ws' := (wX4 cI cZ (ofs 2 a) (ofs 2 (sr (sr M 2 (N 2)) 3 (N 3))))) [2, 3] rfl
        have hDc := hD.sub (ws' := (wX4 cI cZ (ofs 2 a) (ofs 2 (sr (sr M 2 (N 2)) 3 (N 3))))) [2, 3] (by decide) rfl
        have hFc := va_free (wc := (wX4 cI cZ (ofs 2 a) (ofs 2 (sr (sr M 2 (N 2)) 3 (N 3))))) hD hS hA [2, 3] rfl
        refine va_calli (va_runVN (As := [.int (M 1 l1.toNatClampNeg)]) (rest := []) ⟨hx, hb, hml, hown, hts⟩ (c_X4_read l dC dI cI cZ (ofs 2 a) H.size (ofs 2 (sr (sr M 2 (N 2)) 3 (N 3))) (M 1 l1.toNatClampNeg) r27 hc27) ⟨va_cnB 1 hts gX5_readAll_X4_read_n29 rfl rfl rfl (nw94 hNW) hw2 (by decide +kernel) ⟨Nat.le_of_ble_eq_true rfl, Nat.le_of_ble_eq_true rfl⟩, hw7, hw8⟩ ⟨WR.blind, va_recv hK hP (ci := 4) (q0 := 2) rfl rfl, WR.pre hPc hK hDc hNW⟩ rfl rfl hl.1 rfl (lv_room (Nat.le_of_ble_eq_true rfl)) dX5_readAll_27 ⟨Nat.le_of_ble_eq_true rfl, Nat.le_of_ble_eq_true rfl⟩) hS (fun q _ h => hFc q h) hFc (fun rv u t H1 locs ht hvm hw hB hz1 hk1 hS => ?_)
        obtain ⟨hP1, hD1⟩ := hB
        rw [ht] at hP1
        subst hw
        obtain ⟨hP, hD⟩ := va_join (wr := [(a 0, .inr (5, [.int (M 0 0), .ref (a 1), .ref (a 2)])), (a 1, .inl (cI, 60, .inl (M 1)))]) (w1 := (wX4 cI cZ (ofs 2 a) (sr (sr (ofs 2 (sr (sr M 2 (N 2)) 3 (N 3))) 0 (r27.2 0)) 1 (r27.2 1)))) hP hD [2, 3] [0, 1] rfl rfl (by decide) (by decide) hk1 hFc hP1 hD1
        have hP := hP.sub (ws' := (wX5 cI cZ a (sr (sr M 2 (r27.2 0)) 3 (r27.2 1)))) [0, 1, 2, 3] rfl
        have hD := hD.sub (ws' := (wX5 cI cZ a (sr (sr M 2 (r27.2 0)) 3 (r27.2 1)))) [0, 1, 2, 3] (by decide) rfl
        generalize H1 = H at hP hS ⊢
        refine lv_if_ne (tgt := 35) hx hb dX5_readAll_30 (by decide) (fun c9 => ?_) (fun c9 => ?_)
        · have hf := it_t hf c9
          refine lv_iinc (v := (l1 + (1 : Int32))) (lv' := [(1, .int (l1 + (1 : Int32))), (0, .ref (a 0))]) hx hb dX5_readAll_35 hl (k := 1) rfl rfl (by decide) rfl (fun ls hl => ?_)
          refine lv_goto (tgt := 9) hx hb dX5_readAll_38 (by decide) ?_
          exact ih kx33 hkx33 kx41 hkx41 (sr (sr M 2 (r27.2 0)) 3 (r27.2 1)) (l1 + (1 : Int32)) hf _ (lv_sub hl [1, 0] rfl) _ _ hP hD hS
        · have hf := it_n hf c9
          exact hkx33 (sr (sr M 2 (r27.2 0)) 3 (r27.2 1)) l1 hf _ (lv_sub hl [1] rfl) _ _ hP hD hS
  have hl := lv_entry ([.ref (a 0)]) (n := 2) (Nat.le_of_ble_eq_true rfl)
  rw [lg_entry_eq]
  generalize (lg_sl ([.ref (a 0)]) ++ List.replicate (2 - (lg_sl ([.ref (a 0)])).length) Slot.unset).toArray = ls at hl ⊢
  have hl : lv_has ls 2 [(0, .ref (a 0))] := hl
  unfold fX5_readAll at hf
  suffices hgo : ∀ (H : Heap) (locs : List Loc), va_P (dC, dI) vwCl (wX5 cI cZ a M) H → va_D A (wX5 cI cZ a M) → va_S A s.heap H locs → W p l e (headSpec wsX5_readAll ({ frames := 2, cells := 0, slots := 0, locals := 43 } : Room)).room s m ([.ref (a 0)] : List Value).toArray below meth c H locs 0 0 (MQ below (va_Qi (S := Unit) (fun r _ => r = z.1) (fun _ t => WE (dC, dI) cI cZ (wX5 cI cZ a (sr (sr M 2 (z.2 2)) 3 (z.2 3))) A t) A) ([.ref (a 0)] : List Value).toArray s 0 0 A) (F0 m 0 ls []) from hgo _ _ hP hD hS
  intro H locs hP hD hS
  refine lv_aload_n hx hb dX5_readAll_0 rfl (lv_at hl 0 rfl) ?_
  refine va_get (D := (dC, dI)) (ci := 5) (v := .ref (a 2)) (C := RX5) (T := TX5) (N := 3) hx hb hts hinX5 hown hK hP 0 rfl rfl 2 (by decide) hw1 (fun _ h9 => h9) rfl dX5_readAll_1 ?_
  obtain ⟨r4, hc4, hf⟩ := bi_s hf
  have hPc := hP.sub (ws' := (wX4 cI cZ (ofs 2 a) (ofs 2 M))) [2, 3] rfl
  have hDc := hD.sub (ws' := (wX4 cI cZ (ofs 2 a) (ofs 2 M))) [2, 3] (by decide) rfl
  have hFc := va_free (wc := (wX4 cI cZ (ofs 2 a) (ofs 2 M))) hD hS hA [2, 3] rfl
  refine va_callv (va_runVN (As := []) (rest := []) ⟨hx, hb, hml, hown, hts⟩ (c_X4_begin l dC dI cI cZ (ofs 2 a) H.size (ofs 2 M) r4 hc4) ⟨va_cnB 0 hts gX5_readAll_X4_begin_n26 rfl rfl rfl (nw93 hNW) hw2 (by decide +kernel) ⟨Nat.le_of_ble_eq_true rfl, Nat.le_of_ble_eq_true rfl⟩, hw3, hw4⟩ ⟨WR.blind, va_recv hK hP (ci := 4) (q0 := 2) rfl rfl, WR.pre hPc hK hDc hNW⟩ rfl rfl hl.1 rfl (lv_room (Nat.le_of_ble_eq_true rfl)) dX5_readAll_4 ⟨Nat.le_of_ble_eq_true rfl, Nat.le_of_ble_eq_true rfl⟩) hS (fun q _ h => hFc q h) hFc (fun u t H1 locs ht hvm hw hB hz1 hk1 hS => ?_)
  obtain ⟨hP1, hD1⟩ := hB
  rw [ht] at hP1
  obtain ⟨hP, hD⟩ := va_join (wr := [(a 0, .inr (5, [.int (M 0 0), .ref (a 1), .ref (a 2)])), (a 1, .inl (cI, 60, .inl (M 1)))]) (w1 := (wX4 cI cZ (ofs 2 a) (sr (sr (ofs 2 M) 0 (r4 0)) 1 (r4 1)))) hP hD [2, 3] [0, 1] rfl rfl (by decide) (by decide) hk1 hFc hP1 hD1
  have hP := hP.sub (ws' := (wX5 cI cZ a (sr (sr M 2 (r4 0)) 3 (r4 1)))) [0, 1, 2, 3] rfl
  have hD := hD.sub (ws' := (wX5 cI cZ a (sr (sr M 2 (r4 0)) 3 (r4 1)))) [0, 1, 2, 3] (by decide) rfl
  generalize H1 = H at hP hS ⊢
  refine lv_iconst (v := (0 : Int32)) hx hb dX5_readAll_7 (by decide) ?_
  refine lv_istore_n (lv' := [(1, .int (0 : Int32)), (0, .ref (a 0))]) hx hb dX5_readAll_8 rfl hl (by decide) rfl (fun ls hl => ?_)
  refine hfX5_readAll_L9 5000 _ (fun N l1 hf ls hl H locs hP hD hS => ?_) _ (fun N hf ls hl H locs hP hD hS => ?_) (sr (sr M 2 (r4 0)) 3 (r4 1)) (0 : Int32) hf _ (lv_sub hl [1, 0] rfl) _ _ hP hD hS
  · refine lv_iload_n hx hb dX5_readAll_33 rfl (lv_at hl 0 rfl) ?_
    have e9 := so_e hf
    subst e9
    exact W.iret (v := l1) hx hb hr (fun t ht hW => ⟨⟨l1, (), rfl, rfl, WE.mk hP hD ht⟩, hS.F ht⟩) hS.2.2 dX5_readAll_34
  · refine lv_aload_n hx hb dX5_readAll_41 rfl (lv_at hl 0 rfl) ?_
    refine va_get (D := (dC, dI)) (ci := 5) (v := .int (M 0 0)) (C := RX5) (T := TX5) (N := 3) hx hb hts hinX5 hown hK hP 0 rfl rfl 0 (by decide) hw5 (fun _ h9 => h9) rfl dX5_readAll_42 ?_
    have e9 := so_e hf
    subst e9
    exact W.iret (v := (M 0 0)) hx hb hr (fun t ht hW => ⟨⟨(M 0 0), (), rfl, rfl, WE.mk hP hD ht⟩, hS.F ht⟩) hS.2.2 dX5_readAll_45
set_option maxHeartbeats 4000000 in
set_option maxRecDepth 100000 in
theorem c_X5_isOrder (l : Launch) (dC : Nat → ClassId) (dI : Nat → Nat → Nat) (cI cZ : ClassId) (a : Nat → Nat) (sz : Nat) (M : Mem) (z : Int32 × Mem) (hf : fX5_isOrder M  = some z) : Met l yX5_isOrder wsX5_isOrder ({ frames := 3, cells := 0, slots := 0, locals := 64 } : Room) (va_Pc [.ref (a 0)] (WR (dC, dI) cI cZ (wX5 cI cZ a M) sz)) (va_Qi (S := Unit) (fun r _ => r = z.1) (fun _ t => WE (dC, dI) cI cZ (wX5 cI cZ a (sr (sr M 2 (z.2 2)) 3 (z.2 3))) (va_A (wX5 cI cZ a M) sz) t) (va_A (wX5 cI cZ a M) sz)) 0 0 (va_A (wX5 cI cZ a M) sz) := by
  refine Met.ofW (cc := cX5_isOrder) (maxL := 1) (ret := (some .boolean)) (by decide) rfl ?_
  intro p e s m args below meth c s₁ B hml hv
  obtain ⟨rfl, hsz, hP, hK, hD0, hNW⟩ := hv
  have hx := B.exec
  have hb := B.bytes
  have hr := B.returns
  have hts := atoms_spec (ws := wsX5_isOrder) B.pre
  have hown : s.vm.findClass RX5 = some m.cls := findClass_of_methodNamed B.named
  have hlocks := B.notSynchronized
  have hinX5 : ∀ w ∈ u_ws RX5 TX5 3, w ∈ wsX5_isOrder := by decide +kernel
  have hw1 := hts (.fieldLink RX5 9 "GlideShelves$OrderText" "length" "I") (by decide +kernel)
  have hw2 := hts (.fieldLink RX5 22 "GlideShelves$OrderText" "reader" "LGlideShelves$OrderReader;") (by decide +kernel)
  have hw3 := hts (.initialized RX4) (by decide +kernel)
  have hw4 := hts (.instanceMethod yX4_isAtEnd) (by decide +kernel)
  have hw5 := hts (.selects RX4 yX4_isAtEnd yX4_isAtEnd) (by decide +kernel)
  subst hsz
  have hD := hD0.self (sz := s.heap.size)
  generalize hAe : va_A (wX5 cI cZ a M) s.heap.size = A at hD ⊢
  have hA : ∀ q : Nat, s.heap.size ≤ q → A q := fun q h => by rw [← hAe]; exact Or.inr h
  have hS : va_S A s.heap s.heap [] := va_S.rf
  have hfX5_isOrder_B26 : ∀ (N : Mem) (s0 : Int32), fX5_isOrder_B26 M  N s0 = some z → ∀ (ls : Array Slot), lv_has ls 1 [] → ∀ (H : Heap) (locs : List Loc), va_P (dC, dI) vwCl (wX5 cI cZ a (sr (sr M 2 (N 2)) 3 (N 3))) H → va_D A (wX5 cI cZ a (sr (sr M 2 (N 2)) 3 (N 3))) → va_S A s.heap H locs → W p l e (headSpec wsX5_isOrder ({ frames := 3, cells := 0, slots := 0, locals := 64 } : Room)).room s m ([.ref (a 0)] : List Value).toArray below meth c H locs 0 0 (MQ below (va_Qi (S := Unit) (fun r _ => r = z.1) (fun _ t => WE (dC, dI) cI cZ (wX5 cI cZ a (sr (sr M 2 (z.2 2)) 3 (z.2 3))) A t) A) ([.ref (a 0)] : List Value).toArray s 0 0 A) (F0 m 26 ls [.int s0]) := by
    intro  N s0 hf ls hl H locs hP hD hS
    unfold fX5_isOrder_B26 at hf
    obtain ⟨hz, hf⟩ := gd_s hf
    have e9 := so_e hf
    subst e9
    exact W.zret (v := s0) hx hb hr (isb_nar hz) (fun t ht hW => ⟨⟨s0, (), rfl, rfl, WE.mk hP hD ht⟩, hS.F ht⟩) hS.2.2 dX5_isOrder_26
  have hfX5_isOrder_B25 : ∀ (N : Mem), fX5_isOrder_B25 M  N = some z → ∀ (ls : Array Slot), lv_has ls 1 [] → ∀ (H : Heap) (locs : List Loc), va_P (dC, dI) vwCl (wX5 cI cZ a (sr (sr M 2 (N 2)) 3 (N 3))) H → va_D A (wX5 cI cZ a (sr (sr M 2 (N 2)) 3 (N 3))) → va_S A s.heap H locs → W p l e (headSpec wsX5_isOrder ({ frames := 3, cells := 0, slots := 0, locals := 64 } : Room)).room s m ([.ref (a 0)] : List Value).toArray below meth c H locs 0 0 (MQ below (va_Qi (S := Unit) (fun r _ => r = z.1) (fun _ t => WE (dC, dI) cI cZ (wX5 cI cZ a (sr (sr M 2 (z.2 2)) 3 (z.2 3))) A t) A) ([.ref (a 0)] : List Value).toArray s 0 0 A) (F0 m 25 ls []) := by
    intro  N hf ls hl H locs hP hD hS
    unfold fX5_isOrder_B25 at hf
    refine lv_iconst (v := (0 : Int32)) hx hb dX5_isOrder_25 (by decide) ?_
    exact hfX5_isOrder_B26  (sr (sr M 2 (N 2)) 3 (N 3)) (0 : Int32) hf _ (lv_sub hl [] rfl) _ _ hP hD hS
  have hl := lv_entry ([.ref (a 0)]) (n := 1) (Nat.le_of_ble_eq_true rfl)
  rw [lg_entry_eq]
  generalize (lg_sl ([.ref (a 0)]) ++ List.replicate (1 - (lg_sl ([.ref (a 0)])).length) Slot.unset).toArray = ls at hl ⊢
  have hl : lv_has ls 1 [(0, .ref (a 0))] := hl
  unfold fX5_isOrder at hf
  suffices hgo : ∀ (H : Heap) (locs : List Loc), va_P (dC, dI) vwCl (wX5 cI cZ a M) H → va_D A (wX5 cI cZ a M) → va_S A s.heap H locs → W p l e (headSpec wsX5_isOrder ({ frames := 3, cells := 0, slots := 0, locals := 64 } : Room)).room s m ([.ref (a 0)] : List Value).toArray below meth c H locs 0 0 (MQ below (va_Qi (S := Unit) (fun r _ => r = z.1) (fun _ t => WE (dC, dI) cI cZ (wX5 cI cZ a (sr (sr M 2 (z.2 2)) 3 (z.2 3))) A t) A) ([.ref (a 0)] : List Value).toArray s 0 0 A) (F0 m 0 ls []) from hgo _ _ hP hD hS
  intro H locs hP hD hS
  refine lv_aload_n hx hb dX5_isOrder_0 rfl (lv_at hl 0 rfl) ?_
  obtain ⟨r1, hc1, hf⟩ := bi_s hf
  have hPc := hP
  have hDc := hD
  have hFc := va_free (wc := (wX5 cI cZ a M)) hD hS hA [0, 1, 2, 3] rfl
  refine va_calli (va_runV (As := []) (rest := []) ⟨hx, hb, hml, hown, hts⟩ (c_X5_readAll l dC dI cI cZ a H.size M r1 hc1) (cwV 0 hts gX5_isOrder_X5_readAll rfl rfl rfl (by decide +kernel) ⟨Nat.le_of_ble_eq_true rfl, Nat.le_of_ble_eq_true rfl⟩) ⟨WR.blind, va_recv hK hP (ci := 5) (q0 := 0) rfl rfl, WR.pre hPc hK hDc hNW⟩ rfl rfl hl.1 rfl (lv_room (Nat.le_of_ble_eq_true rfl)) dX5_isOrder_1 ⟨Nat.le_of_ble_eq_true rfl, Nat.le_of_ble_eq_true rfl⟩) hS (fun q _ h => hFc q h) hFc (fun rv u t H1 locs ht hvm hw hB hz1 hk1 hS => ?_)
  obtain ⟨hP1, hD1⟩ := hB
  rw [ht] at hP1
  subst hw
  have hP := hP1
  have hD := hD1.weaken (fun k q _ h => hFc q.1 h)
  have hP : va_P (dC, dI) vwCl (wX5 cI cZ a (sr (sr M 2 (r1.2 2)) 3 (r1.2 3))) H1 := hP
  have hD : va_D A (wX5 cI cZ a (sr (sr M 2 (r1.2 2)) 3 (r1.2 3))) := hD
  generalize H1 = H at hP hS ⊢
  refine lv_aload_n hx hb dX5_isOrder_4 rfl (lv_at hl 0 rfl) ?_
  refine va_get (D := (dC, dI)) (ci := 5) (v := .int (M 0 0)) (C := RX5) (T := TX5) (N := 3) hx hb hts hinX5 hown hK hP 0 rfl rfl 0 (by decide) hw1 (fun _ h9 => h9) rfl dX5_isOrder_5 ?_
  refine lv_icmp_ne (tgt := 25) hx hb dX5_isOrder_8 (by decide) (fun c9 => ?_) (fun c9 => ?_)
  · have hf := it_t hf c9
    exact hfX5_isOrder_B25  (sr (sr M 2 (r1.2 2)) 3 (r1.2 3)) hf _ (lv_sub hl [] rfl) _ _ hP hD hS
  · have hf := it_n hf c9
    refine lv_aload_n hx hb dX5_isOrder_11 rfl (lv_at hl 0 rfl) ?_
    refine va_get (D := (dC, dI)) (ci := 5) (v := .ref (a 2)) (C := RX5) (T := TX5) (N := 3) hx hb hts hinX5 hown hK hP 0 rfl rfl 2 (by decide) hw2 (fun _ h9 => h9) rfl dX5_isOrder_12 ?_
    obtain ⟨r15, hc15, hf⟩ := bi_s hf
    have hPc := hP.sub (ws' := (wX4 cI cZ (ofs 2 a) (ofs 2 (sr (sr M 2 (r1.2 2)) 3 (r1.2 3))))) [2, 3] rfl
    refine cRO (va_Run.run (va_runVN (As := []) (rest := []) ⟨hx, hb, hml, hown, hts⟩ (c_X4_isAtEnd l dC dI cI cZ (ofs 2 a) (ofs 2 (sr (sr M 2 (r1.2 2)) 3 (r1.2 3))) r15 hc15) ⟨va_cnB 0 hts gX5_isOrder_X4_isAtEnd_n37 rfl rfl rfl (nw95 hNW) hw3 (by decide +kernel) ⟨Nat.le_of_ble_eq_true rfl, Nat.le_of_ble_eq_true rfl⟩, hw4, hw5⟩ ⟨RO.blind, va_recv hK hP (ci := 4) (q0 := 2) rfl rfl, RO.pre hPc hK hNW⟩ rfl rfl hl.1 rfl (lv_room (Nat.le_of_ble_eq_true rfl)) dX5_isOrder_15 ⟨Nat.le_of_ble_eq_true rfl, Nat.le_of_ble_eq_true rfl⟩)) ?_
    refine lv_if_eq (tgt := 25) hx hb dX5_isOrder_18 (by decide) (fun c9 => ?_) (fun c9 => ?_)
    · have hf := it_t hf c9
      exact hfX5_isOrder_B25  (sr (sr M 2 (r1.2 2)) 3 (r1.2 3)) hf _ (lv_sub hl [] rfl) _ _ hP hD hS
    · have hf := it_f hf c9
      refine lv_iconst (v := (1 : Int32)) hx hb dX5_isOrder_21 (by decide) ?_
      refine lv_goto (tgt := 26) hx hb dX5_isOrder_22 (by decide) ?_
      exact hfX5_isOrder_B26  (sr (sr M 2 (r1.2 2)) 3 (r1.2 3)) (1 : Int32) hf _ (lv_sub hl [] rfl) _ _ hP hD hS
set_option maxHeartbeats 4000000 in
set_option maxRecDepth 100000 in
theorem c_X6_copyFrom (l : Launch) (dC : Nat → ClassId) (dI : Nat → Nat → Nat) (cI cZ : ClassId) (a : Nat → Nat) (sz : Nat) (M : Mem) (z : Mem) (hf : fX6_copyFrom M  = some z) : Met l yX6_copyFrom wsX6_copyFrom ({ frames := 2, cells := 0, slots := 0, locals := 81 } : Room) (va_Pc [.ref (a 0), .ref (a 16)] (WR (dC, dI) cI cZ (wX6_copyFrom cI cZ a M) sz)) (va_Qv (S := Unit) (fun _ => True) (fun _ t => WE (dC, dI) cI cZ (wX6_copyFrom cI cZ a (sr (sr (sr (sr (sr (sr (sr (sr (sr (sr (sr (sr (sr (sr (sr M 0 (z 0)) 1 (z 1)) 2 (z 2)) 3 (z 3)) 4 (z 4)) 5 (z 5)) 6 (z 6)) 7 (z 7)) 8 (z 8)) 10 (z 10)) 11 (z 11)) 12 (z 12)) 13 (z 13)) 14 (z 14)) 15 (z 15))) (va_A (wX6_copyFrom cI cZ a M) sz) t) (va_A (wX6_copyFrom cI cZ a M) sz)) 0 0 (va_A (wX6_copyFrom cI cZ a M) sz) := by
  refine Met.ofW (cc := cX6_copyFrom) (maxL := 2) (ret := none) (by decide) rfl ?_
  intro p e s m args below meth c s₁ B hml hv
  obtain ⟨rfl, hsz, hP, hK, hD0, hNW⟩ := hv
  have hx := B.exec
  have hb := B.bytes
  have hr := B.returns
  have hts := atoms_spec (ws := wsX6_copyFrom) B.pre
  have hown : s.vm.findClass RX6 = some m.cls := findClass_of_methodNamed B.named
  have hlocks := B.notSynchronized
  have hinX6 : ∀ w ∈ u_ws RX6 TX6 5, w ∈ wsX6_copyFrom := by decide +kernel
  have hw1 := hts (.fieldLink RX6 12 "GlideShelves$State" "tower" "LGlideShelves$Tower;") (by decide +kernel)
  have hw2 := hts (.initialized RX7) (by decide +kernel)
  have hw3 := hts (.instanceMethod yX7_copyFrom) (by decide +kernel)
  have hw4 := hts (.selects RX7 yX7_copyFrom yX7_copyFrom) (by decide +kernel)
  have hw5 := hts (.fieldLink RX6 21 "GlideShelves$State" "lift" "LGlideShelves$Lift;") (by decide +kernel)
  have hw6 := hts (.initialized RX2) (by decide +kernel)
  have hw7 := hts (.instanceMethod yX2_copyFrom) (by decide +kernel)
  have hw8 := hts (.selects RX2 yX2_copyFrom yX2_copyFrom) (by decide +kernel)
  have hw9 := hts (.fieldLink RX6 28 "GlideShelves$State" "goods" "LGlideShelves$Goods;") (by decide +kernel)
  have hw10 := hts (.initialized RX0) (by decide +kernel)
  have hw11 := hts (.instanceMethod yX0_copyFrom) (by decide +kernel)
  have hw12 := hts (.selects RX0 yX0_copyFrom yX0_copyFrom) (by decide +kernel)
  have hw13 := hts (.fieldLink RX6 35 "GlideShelves$State" "book" "LGlideShelves$OrderBook;") (by decide +kernel)
  have hw14 := hts (.initialized RX3) (by decide +kernel)
  have hw15 := hts (.instanceMethod yX3_copyFrom) (by decide +kernel)
  have hw16 := hts (.selects RX3 yX3_copyFrom yX3_copyFrom) (by decide +kernel)
  have hw17 := hts (.fieldLink RX6 39 "GlideShelves$State" "servedOrders" "I") (by decide +kernel)
  subst hsz
  have hD := hD0.self (sz := s.heap.size)
  generalize hAe : va_A (wX6_copyFrom cI cZ a M) s.heap.size = A at hD ⊢
  have hA : ∀ q : Nat, s.heap.size ≤ q → A q := fun q h => by rw [← hAe]; exact Or.inr h
  have hS : va_S A s.heap s.heap [] := va_S.rf
  have hl := lv_entry ([.ref (a 0), .ref (a 16)]) (n := 2) (Nat.le_of_ble_eq_true rfl)
  rw [lg_entry_eq]
  generalize (lg_sl ([.ref (a 0), .ref (a 16)]) ++ List.replicate (2 - (lg_sl ([.ref (a 0), .ref (a 16)])).length) Slot.unset).toArray = ls at hl ⊢
  have hl : lv_has ls 2 [(0, .ref (a 0)), (1, .ref (a 16))] := hl
  unfold fX6_copyFrom at hf
  suffices hgo : ∀ (H : Heap) (locs : List Loc), va_P (dC, dI) vwCl (wX6_copyFrom cI cZ a M) H → va_D A (wX6_copyFrom cI cZ a M) → va_S A s.heap H locs → W p l e (headSpec wsX6_copyFrom ({ frames := 2, cells := 0, slots := 0, locals := 81 } : Room)).room s m ([.ref (a 0), .ref (a 16)] : List Value).toArray below meth c H locs 0 0 (MQ below (va_Qv (S := Unit) (fun _ => True) (fun _ t => WE (dC, dI) cI cZ (wX6_copyFrom cI cZ a (sr (sr (sr (sr (sr (sr (sr (sr (sr (sr (sr (sr (sr (sr (sr M 0 (z 0)) 1 (z 1)) 2 (z 2)) 3 (z 3)) 4 (z 4)) 5 (z 5)) 6 (z 6)) 7 (z 7)) 8 (z 8)) 10 (z 10)) 11 (z 11)) 12 (z 12)) 13 (z 13)) 14 (z 14)) 15 (z 15))) A t) A) ([.ref (a 0), .ref (a 16)] : List Value).toArray s 0 0 A) (F0 m 0 ls []) from hgo _ _ hP hD hS
  intro H locs hP hD hS
  refine lv_aload_n hx hb dX6_copyFrom_0 rfl (lv_at hl 0 rfl) ?_
  refine va_get (D := (dC, dI)) (ci := 6) (v := .ref (a 1)) (C := RX6) (T := TX6) (N := 5) hx hb hts hinX6 hown hK hP 0 rfl rfl 0 (by decide) hw1 (fun _ h9 => h9) rfl dX6_copyFrom_1 ?_
  refine lv_aload_n hx hb dX6_copyFrom_4 rfl (lv_at hl 1 rfl) ?_
  refine va_get (D := (dC, dI)) (ci := 6) (v := .ref (a 17)) (C := RX6) (T := TX6) (N := 5) hx hb hts hinX6 hown hK hP 16 rfl rfl 0 (by decide) hw1 (fun _ h9 => h9) rfl dX6_copyFrom_5 ?_
  obtain ⟨r8, hc8, hf⟩ := bi_s hf
  have hPc := hP.sub (ws' := (wX7_copyFrom cI cZ (pk [1, 2, 3, 4, 5, 17, 18, 19, 20, 21] a) (pk [1, 2, 3, 4, 5, 17, 18, 19, 20, 21] M))) [1, 2, 3, 4, 5, 17, 18, 19, 20, 21] rfl
  have hDc := hD.sub (ws' := (wX7_copyFrom cI cZ (pk [1, 2, 3, 4, 5, 17, 18, 19, 20, 21] a) (pk [1, 2, 3, 4, 5, 17, 18, 19, 20, 21] M))) [1, 2, 3, 4, 5, 17, 18, 19, 20, 21] (by decide) rfl
  have hFc := va_free (wc := (wX7_copyFrom cI cZ (pk [1, 2, 3, 4, 5, 17, 18, 19, 20, 21] a) (pk [1, 2, 3, 4, 5, 17, 18, 19, 20, 21] M))) hD hS hA [1, 2, 3, 4, 5, 17, 18, 19, 20, 21] rfl
  refine va_callv (va_runVN (As := [.ref (a 17)]) (rest := []) ⟨hx, hb, hml, hown, hts⟩ (c_X7_copyFrom l dC dI cI cZ (pk [1, 2, 3, 4, 5, 17, 18, 19, 20, 21] a) H.size (pk [1, 2, 3, 4, 5, 17, 18, 19, 20, 21] M) r8 hc8) ⟨va_cnB 1 hts gX6_copyFrom_X7_copyFrom_n43 rfl rfl rfl (nw105 hNW) hw2 (by decide +kernel) ⟨Nat.le_of_ble_eq_true rfl, Nat.le_of_ble_eq_true rfl⟩, hw3, hw4⟩ ⟨WR.blind, va_recv hK hP (ci := 7) (q0 := 1) rfl rfl, WR.pre hPc hK hDc hNW⟩ rfl rfl hl.1 rfl (lv_room (Nat.le_of_ble_eq_true rfl)) dX6_copyFrom_8 ⟨Nat.le_of_ble_eq_true rfl, Nat.le_of_ble_eq_true rfl⟩) hS (fun q _ h => hFc q h) hFc (fun u t H1 locs ht hvm hw hB hz1 hk1 hS => ?_)
  obtain ⟨hP1, hD1⟩ := hB
  rw [ht] at hP1
  obtain ⟨hP, hD⟩ := va_join (wr := [(a 0, .inr (6, [.ref (a 1), .ref (a 6), .ref (a 9), .ref (a 14), .int (M 0 4)])), (a 6, .inr (2, [.int (M 6 0), .int (M 6 1), .int (M 6 2), .int (M 6 3), .int (M 6 4), .ref (a 7), .ref (a 8)])), (a 7, .inl (cI, 8, .inl (M 7))), (a 8, .inl (cZ, 8, .inl (M 8))), (a 9, .inr (0, [.ref (a 10), .ref (a 11), .ref (a 12), .ref (a 13)])), (a 10, .inl (cI, 10, .inl (M 10))), (a 11, .inl (cI, 10, .inl (M 11))), (a 12, .inl (cI, 10, .inl (M 12))), (a 13, .inl (cI, 10, .inl (M 13))), (a 14, .inr (3, [.int (M 14 0), .ref (a 15)])), (a 15, .inl (cI, 80, .inl (M 15))), (a 16, .inr (6, [.ref (a 17), .ref (a 22), .ref (a 25), .ref (a 30), .int (M 16 4)])), (a 22, .inr (2, [.int (M 22 0), .int (M 22 1), .int (M 22 2), .int (M 22 3), .int (M 22 4), .ref (a 23), .ref (a 24)])), (a 23, .inl (cI, 8, .inl (M 23))), (a 24, .inl (cZ, 8, .inl (M 24))), (a 25, .inr (0, [.ref (a 26), .ref (a 27), .ref (a 28), .ref (a 29)])), (a 26, .inl (cI, 10, .inl (M 26))), (a 27, .inl (cI, 10, .inl (M 27))), (a 28, .inl (cI, 10, .inl (M 28))), (a 29, .inl (cI, 10, .inl (M 29))), (a 30, .inr (3, [.int (M 30 0), .ref (a 31)])), (a 31, .inl (cI, 80, .inl (M 31)))]) (w1 := (wX7_copyFrom cI cZ (pk [1, 2, 3, 4, 5, 17, 18, 19, 20, 21] a) (sr (sr (sr (sr (sr (pk [1, 2, 3, 4, 5, 17, 18, 19, 20, 21] M) 0 (r8 0)) 1 (r8 1)) 2 (r8 2)) 3 (r8 3)) 4 (r8 4)))) hP hD [1, 2, 3, 4, 5, 17, 18, 19, 20, 21] [0, 6, 7, 8, 9, 10, 11, 12, 13, 14, 15, 16, 22, 23, 24, 25, 26, 27, 28, 29, 30, 31] rfl rfl (by decide) (by decide) hk1 hFc hP1 hD1
  have hP := hP.sub (ws' := (wX6_copyFrom cI cZ a (sr (sr (sr (sr (sr M 1 (r8 0)) 2 (r8 1)) 3 (r8 2)) 4 (r8 3)) 5 (r8 4)))) [0, 22, 23, 24, 25, 26, 1, 2, 3, 4, 5, 6, 7, 8, 9, 10, 11, 27, 28, 29, 30, 31, 12, 13, 14, 15, 16, 17, 18, 19, 20, 21] rfl
  have hD := hD.sub (ws' := (wX6_copyFrom cI cZ a (sr (sr (sr (sr (sr M 1 (r8 0)) 2 (r8 1)) 3 (r8 2)) 4 (r8 3)) 5 (r8 4)))) [0, 22, 23, 24, 25, 26, 1, 2, 3, 4, 5, 6, 7, 8, 9, 10, 11, 27, 28, 29, 30, 31, 12, 13, 14, 15, 16, 17, 18, 19, 20, 21] (by decide) rfl
  generalize H1 = H at hP hS ⊢
  refine lv_aload_n hx hb dX6_copyFrom_11 rfl (lv_at hl 0 rfl) ?_
  refine va_get (D := (dC, dI)) (ci := 6) (v := .ref (a 6)) (C := RX6) (T := TX6) (N := 5) hx hb hts hinX6 hown hK hP 0 rfl rfl 1 (by decide) hw5 (fun _ h9 => h9) rfl dX6_copyFrom_12 ?_
  refine lv_aload_n hx hb dX6_copyFrom_15 rfl (lv_at hl 1 rfl) ?_
  refine va_get (D := (dC, dI)) (ci := 6) (v := .ref (a 22)) (C := RX6) (T := TX6) (N := 5) hx hb hts hinX6 hown hK hP 16 rfl rfl 1 (by decide) hw5 (fun _ h9 => h9) rfl dX6_copyFrom_16 ?_
  obtain ⟨r19, hc19, hf⟩ := bi_s hf
  have hPc := hP.sub (ws' := (wX2_copyFrom cI cZ (pk [6, 7, 8, 22, 23, 24] a) (pk [6, 7, 8, 22, 23, 24] (sr (sr (sr (sr (sr M 1 (r8 0)) 2 (r8 1)) 3 (r8 2)) 4 (r8 3)) 5 (r8 4))))) [6, 7, 8, 22, 23, 24] rfl
  have hDc := hD.sub (ws' := (wX2_copyFrom cI cZ (pk [6, 7, 8, 22, 23, 24] a) (pk [6, 7, 8, 22, 23, 24] (sr (sr (sr (sr (sr M 1 (r8 0)) 2 (r8 1)) 3 (r8 2)) 4 (r8 3)) 5 (r8 4))))) [6, 7, 8, 22, 23, 24] (by decide) rfl
  have hFc := va_free (wc := (wX2_copyFrom cI cZ (pk [6, 7, 8, 22, 23, 24] a) (pk [6, 7, 8, 22, 23, 24] (sr (sr (sr (sr (sr M 1 (r8 0)) 2 (r8 1)) 3 (r8 2)) 4 (r8 3)) 5 (r8 4))))) hD hS hA [6, 7, 8, 22, 23, 24] rfl
  refine va_callv (va_runVN (As := [.ref (a 22)]) (rest := []) ⟨hx, hb, hml, hown, hts⟩ (c_X2_copyFrom l dC dI cI cZ (pk [6, 7, 8, 22, 23, 24] a) H.size (pk [6, 7, 8, 22, 23, 24] (sr (sr (sr (sr (sr M 1 (r8 0)) 2 (r8 1)) 3 (r8 2)) 4 (r8 3)) 5 (r8 4))) r19 hc19) ⟨va_cnB 1 hts gX6_copyFrom_X2_copyFrom_n47 rfl rfl rfl (nw106 hNW) hw6 (by decide +kernel) ⟨Nat.le_of_ble_eq_true rfl, Nat.le_of_ble_eq_true rfl⟩, hw7, hw8⟩ ⟨WR.blind, va_recv hK hP (ci := 2) (q0 := 6) rfl rfl, WR.pre hPc hK hDc hNW⟩ rfl rfl hl.1 rfl (lv_room (Nat.le_of_ble_eq_true rfl)) dX6_copyFrom_19 ⟨Nat.le_of_ble_eq_true rfl, Nat.le_of_ble_eq_true rfl⟩) hS (fun q _ h => hFc q h) hFc (fun u t H1 locs ht hvm hw hB hz1 hk1 hS => ?_)
  obtain ⟨hP1, hD1⟩ := hB
  rw [ht] at hP1
  obtain ⟨hP, hD⟩ := va_join (wr := [(a 0, .inr (6, [.ref (a 1), .ref (a 6), .ref (a 9), .ref (a 14), .int (M 0 4)])), (a 1, .inr (7, [.int ((r8 0) 0), .int ((r8 0) 1), .ref (a 2), .ref (a 3), .ref (a 4), .ref (a 5)])), (a 2, .inl (cI, 12, .inl (r8 1))), (a 3, .inl (cI, 12, .inl (r8 2))), (a 4, .inl (cI, 12, .inl (r8 3))), (a 5, .inl (cI, 120, .inl (r8 4))), (a 9, .inr (0, [.ref (a 10), .ref (a 11), .ref (a 12), .ref (a 13)])), (a 10, .inl (cI, 10, .inl (M 10))), (a 11, .inl (cI, 10, .inl (M 11))), (a 12, .inl (cI, 10, .inl (M 12))), (a 13, .inl (cI, 10, .inl (M 13))), (a 14, .inr (3, [.int (M 14 0), .ref (a 15)])), (a 15, .inl (cI, 80, .inl (M 15))), (a 16, .inr (6, [.ref (a 17), .ref (a 22), .ref (a 25), .ref (a 30), .int (M 16 4)])), (a 17, .inr (7, [.int (M 17 0), .int (M 17 1), .ref (a 18), .ref (a 19), .ref (a 20), .ref (a 21)])), (a 18, .inl (cI, 12, .inl (M 18))), (a 19, .inl (cI, 12, .inl (M 19))), (a 20, .inl (cI, 12, .inl (M 20))), (a 21, .inl (cI, 120, .inl (M 21))), (a 25, .inr (0, [.ref (a 26), .ref (a 27), .ref (a 28), .ref (a 29)])), (a 26, .inl (cI, 10, .inl (M 26))), (a 27, .inl (cI, 10, .inl (M 27))), (a 28, .inl (cI, 10, .inl (M 28))), (a 29, .inl (cI, 10, .inl (M 29))), (a 30, .inr (3, [.int (M 30 0), .ref (a 31)])), (a 31, .inl (cI, 80, .inl (M 31)))]) (w1 := (wX2_copyFrom cI cZ (pk [6, 7, 8, 22, 23, 24] a) (sr (sr (sr (pk [6, 7, 8, 22, 23, 24] (sr (sr (sr (sr (sr M 1 (r8 0)) 2 (r8 1)) 3 (r8 2)) 4 (r8 3)) 5 (r8 4))) 0 (r19 0)) 1 (r19 1)) 2 (r19 2)))) hP hD [6, 7, 8, 22, 23, 24] [0, 1, 2, 3, 4, 5, 9, 10, 11, 12, 13, 14, 15, 16, 17, 18, 19, 20, 21, 25, 26, 27, 28, 29, 30, 31] rfl rfl (by decide) (by decide) hk1 hFc hP1 hD1
  have hP := hP.sub (ws' := (wX6_copyFrom cI cZ a (sr (sr (sr (sr (sr (sr (sr (sr M 1 (r8 0)) 2 (r8 1)) 3 (r8 2)) 4 (r8 3)) 5 (r8 4)) 6 (r19 0)) 7 (r19 1)) 8 (r19 2)))) [0, 1, 2, 3, 4, 5, 26, 27, 28, 6, 7, 8, 9, 10, 11, 12, 13, 14, 15, 16, 17, 18, 29, 30, 31, 19, 20, 21, 22, 23, 24, 25] rfl
  have hD := hD.sub (ws' := (wX6_copyFrom cI cZ a (sr (sr (sr (sr (sr (sr (sr (sr M 1 (r8 0)) 2 (r8 1)) 3 (r8 2)) 4 (r8 3)) 5 (r8 4)) 6 (r19 0)) 7 (r19 1)) 8 (r19 2)))) [0, 1, 2, 3, 4, 5, 26, 27, 28, 6, 7, 8, 9, 10, 11, 12, 13, 14, 15, 16, 17, 18, 29, 30, 31, 19, 20, 21, 22, 23, 24, 25] (by decide) rfl
  generalize H1 = H at hP hS ⊢
  refine lv_aload_n hx hb dX6_copyFrom_22 rfl (lv_at hl 0 rfl) ?_
  refine va_get (D := (dC, dI)) (ci := 6) (v := .ref (a 9)) (C := RX6) (T := TX6) (N := 5) hx hb hts hinX6 hown hK hP 0 rfl rfl 2 (by decide) hw9 (fun _ h9 => h9) rfl dX6_copyFrom_23 ?_
  refine lv_aload_n hx hb dX6_copyFrom_26 rfl (lv_at hl 1 rfl) ?_
  refine va_get (D := (dC, dI)) (ci := 6) (v := .ref (a 25)) (C := RX6) (T := TX6) (N := 5) hx hb hts hinX6 hown hK hP 16 rfl rfl 2 (by decide) hw9 (fun _ h9 => h9) rfl dX6_copyFrom_27 ?_
  obtain ⟨r30, hc30, hf⟩ := bi_s hf
  have hPc := hP.sub (ws' := (wX0_copyFrom cI cZ (pk [9, 10, 11, 12, 13, 25, 26, 27, 28, 29] a) (pk [9, 10, 11, 12, 13, 25, 26, 27, 28, 29] (sr (sr (sr (sr (sr (sr (sr (sr M 1 (r8 0)) 2 (r8 1)) 3 (r8 2)) 4 (r8 3)) 5 (r8 4)) 6 (r19 0)) 7 (r19 1)) 8 (r19 2))))) [9, 10, 11, 12, 13, 25, 26, 27, 28, 29] rfl
  have hDc := hD.sub (ws' := (wX0_copyFrom cI cZ (pk [9, 10, 11, 12, 13, 25, 26, 27, 28, 29] a) (pk [9, 10, 11, 12, 13, 25, 26, 27, 28, 29] (sr (sr (sr (sr (sr (sr (sr (sr M 1 (r8 0)) 2 (r8 1)) 3 (r8 2)) 4 (r8 3)) 5 (r8 4)) 6 (r19 0)) 7 (r19 1)) 8 (r19 2))))) [9, 10, 11, 12, 13, 25, 26, 27, 28, 29] (by decide) rfl
  have hFc := va_free (wc := (wX0_copyFrom cI cZ (pk [9, 10, 11, 12, 13, 25, 26, 27, 28, 29] a) (pk [9, 10, 11, 12, 13, 25, 26, 27, 28, 29] (sr (sr (sr (sr (sr (sr (sr (sr M 1 (r8 0)) 2 (r8 1)) 3 (r8 2)) 4 (r8 3)) 5 (r8 4)) 6 (r19 0)) 7 (r19 1)) 8 (r19 2))))) hD hS hA [9, 10, 11, 12, 13, 25, 26, 27, 28, 29] rfl
  refine va_callv (va_runVN (As := [.ref (a 25)]) (rest := []) ⟨hx, hb, hml, hown, hts⟩ (c_X0_copyFrom l dC dI cI cZ (pk [9, 10, 11, 12, 13, 25, 26, 27, 28, 29] a) H.size (pk [9, 10, 11, 12, 13, 25, 26, 27, 28, 29] (sr (sr (sr (sr (sr (sr (sr (sr M 1 (r8 0)) 2 (r8 1)) 3 (r8 2)) 4 (r8 3)) 5 (r8 4)) 6 (r19 0)) 7 (r19 1)) 8 (r19 2))) r30 hc30) ⟨va_cnB 1 hts gX6_copyFrom_X0_copyFrom_n50 rfl rfl rfl (nw107 hNW) hw10 (by decide +kernel) ⟨Nat.le_of_ble_eq_true rfl, Nat.le_of_ble_eq_true rfl⟩, hw11, hw12⟩ ⟨WR.blind, va_recv hK hP (ci := 0) (q0 := 9) rfl rfl, WR.pre hPc hK hDc hNW⟩ rfl rfl hl.1 rfl (lv_room (Nat.le_of_ble_eq_true rfl)) dX6_copyFrom_30 ⟨Nat.le_of_ble_eq_true rfl, Nat.le_of_ble_eq_true rfl⟩) hS (fun q _ h => hFc q h) hFc (fun u t H1 locs ht hvm hw hB hz1 hk1 hS => ?_)
  obtain ⟨hP1, hD1⟩ := hB
  rw [ht] at hP1
  obtain ⟨hP, hD⟩ := va_join (wr := [(a 0, .inr (6, [.ref (a 1), .ref (a 6), .ref (a 9), .ref (a 14), .int (M 0 4)])), (a 1, .inr (7, [.int ((r8 0) 0), .int ((r8 0) 1), .ref (a 2), .ref (a 3), .ref (a 4), .ref (a 5)])), (a 2, .inl (cI, 12, .inl (r8 1))), (a 3, .inl (cI, 12, .inl (r8 2))), (a 4, .inl (cI, 12, .inl (r8 3))), (a 5, .inl (cI, 120, .inl (r8 4))), (a 6, .inr (2, [.int ((r19 0) 0), .int ((r19 0) 1), .int ((r19 0) 2), .int ((r19 0) 3), .int ((r19 0) 4), .ref (a 7), .ref (a 8)])), (a 7, .inl (cI, 8, .inl (r19 1))), (a 8, .inl (cZ, 8, .inl (r19 2))), (a 14, .inr (3, [.int (M 14 0), .ref (a 15)])), (a 15, .inl (cI, 80, .inl (M 15))), (a 16, .inr (6, [.ref (a 17), .ref (a 22), .ref (a 25), .ref (a 30), .int (M 16 4)])), (a 17, .inr (7, [.int (M 17 0), .int (M 17 1), .ref (a 18), .ref (a 19), .ref (a 20), .ref (a 21)])), (a 18, .inl (cI, 12, .inl (M 18))), (a 19, .inl (cI, 12, .inl (M 19))), (a 20, .inl (cI, 12, .inl (M 20))), (a 21, .inl (cI, 120, .inl (M 21))), (a 22, .inr (2, [.int (M 22 0), .int (M 22 1), .int (M 22 2), .int (M 22 3), .int (M 22 4), .ref (a 23), .ref (a 24)])), (a 23, .inl (cI, 8, .inl (M 23))), (a 24, .inl (cZ, 8, .inl (M 24))), (a 30, .inr (3, [.int (M 30 0), .ref (a 31)])), (a 31, .inl (cI, 80, .inl (M 31)))]) (w1 := (wX0_copyFrom cI cZ (pk [9, 10, 11, 12, 13, 25, 26, 27, 28, 29] a) (sr (sr (sr (sr (pk [9, 10, 11, 12, 13, 25, 26, 27, 28, 29] (sr (sr (sr (sr (sr (sr (sr (sr M 1 (r8 0)) 2 (r8 1)) 3 (r8 2)) 4 (r8 3)) 5 (r8 4)) 6 (r19 0)) 7 (r19 1)) 8 (r19 2))) 1 (r30 1)) 2 (r30 2)) 3 (r30 3)) 4 (r30 4)))) hP hD [9, 10, 11, 12, 13, 25, 26, 27, 28, 29] [0, 1, 2, 3, 4, 5, 6, 7, 8, 14, 15, 16, 17, 18, 19, 20, 21, 22, 23, 24, 30, 31] rfl rfl (by decide) (by decide) hk1 hFc hP1 hD1
  have hP := hP.sub (ws' := (wX6_copyFrom cI cZ a (sr (sr (sr (sr (sr (sr (sr (sr (sr (sr (sr (sr M 1 (r8 0)) 2 (r8 1)) 3 (r8 2)) 4 (r8 3)) 5 (r8 4)) 6 (r19 0)) 7 (r19 1)) 8 (r19 2)) 10 (r30 1)) 11 (r30 2)) 12 (r30 3)) 13 (r30 4)))) [0, 1, 2, 3, 4, 5, 6, 7, 8, 22, 23, 24, 25, 26, 9, 10, 11, 12, 13, 14, 15, 16, 17, 18, 19, 27, 28, 29, 30, 31, 20, 21] rfl
  have hD := hD.sub (ws' := (wX6_copyFrom cI cZ a (sr (sr (sr (sr (sr (sr (sr (sr (sr (sr (sr (sr M 1 (r8 0)) 2 (r8 1)) 3 (r8 2)) 4 (r8 3)) 5 (r8 4)) 6 (r19 0)) 7 (r19 1)) 8 (r19 2)) 10 (r30 1)) 11 (r30 2)) 12 (r30 3)) 13 (r30 4)))) [0, 1, 2, 3, 4, 5, 6, 7, 8, 22, 23, 24, 25, 26, 9, 10, 11, 12, 13, 14, 15, 16, 17, 18, 19, 27, 28, 29, 30, 31, 20, 21] (by decide) rfl
  generalize H1 = H at hP hS ⊢
  refine lv_aload_n hx hb dX6_copyFrom_33 rfl (lv_at hl 0 rfl) ?_
  refine va_get (D := (dC, dI)) (ci := 6) (v := .ref (a 14)) (C := RX6) (T := TX6) (N := 5) hx hb hts hinX6 hown hK hP 0 rfl rfl 3 (by decide) hw13 (fun _ h9 => h9) rfl dX6_copyFrom_34 ?_
  refine lv_aload_n hx hb dX6_copyFrom_37 rfl (lv_at hl 1 rfl) ?_
  refine va_get (D := (dC, dI)) (ci := 6) (v := .ref (a 30)) (C := RX6) (T := TX6) (N := 5) hx hb hts hinX6 hown hK hP 16 rfl rfl 3 (by decide) hw13 (fun _ h9 => h9) rfl dX6_copyFrom_38 ?_
  obtain ⟨r41, hc41, hf⟩ := bi_s hf
  have hPc := hP.sub (ws' := (wX3_copyFrom cI cZ (pk [14, 15, 30, 31] a) (pk [14, 15, 30, 31] (sr (sr (sr (sr (sr (sr (sr (sr (sr (sr (sr (sr M 1 (r8 0)) 2 (r8 1)) 3 (r8 2)) 4 (r8 3)) 5 (r8 4)) 6 (r19 0)) 7 (r19 1)) 8 (r19 2)) 10 (r30 1)) 11 (r30 2)) 12 (r30 3)) 13 (r30 4))))) [14, 15, 30, 31] rfl
  have hDc := hD.sub (ws' := (wX3_copyFrom cI cZ (pk [14, 15, 30, 31] a) (pk [14, 15, 30, 31] (sr (sr (sr (sr (sr (sr (sr (sr (sr (sr (sr (sr M 1 (r8 0)) 2 (r8 1)) 3 (r8 2)) 4 (r8 3)) 5 (r8 4)) 6 (r19 0)) 7 (r19 1)) 8 (r19 2)) 10 (r30 1)) 11 (r30 2)) 12 (r30 3)) 13 (r30 4))))) [14, 15, 30, 31] (by decide) rfl
  have hFc := va_free (wc := (wX3_copyFrom cI cZ (pk [14, 15, 30, 31] a) (pk [14, 15, 30, 31] (sr (sr (sr (sr (sr (sr (sr (sr (sr (sr (sr (sr M 1 (r8 0)) 2 (r8 1)) 3 (r8 2)) 4 (r8 3)) 5 (r8 4)) 6 (r19 0)) 7 (r19 1)) 8 (r19 2)) 10 (r30 1)) 11 (r30 2)) 12 (r30 3)) 13 (r30 4))))) hD hS hA [14, 15, 30, 31] rfl
  refine va_callv (va_runVN (As := [.ref (a 30)]) (rest := []) ⟨hx, hb, hml, hown, hts⟩ (c_X3_copyFrom l dC dI cI cZ (pk [14, 15, 30, 31] a) H.size (pk [14, 15, 30, 31] (sr (sr (sr (sr (sr (sr (sr (sr (sr (sr (sr (sr M 1 (r8 0)) 2 (r8 1)) 3 (r8 2)) 4 (r8 3)) 5 (r8 4)) 6 (r19 0)) 7 (r19 1)) 8 (r19 2)) 10 (r30 1)) 11 (r30 2)) 12 (r30 3)) 13 (r30 4))) r41 hc41) ⟨va_cnB 1 hts gX6_copyFrom_X3_copyFrom_n53 rfl rfl rfl (nw108 hNW) hw14 (by decide +kernel) ⟨Nat.le_of_ble_eq_true rfl, Nat.le_of_ble_eq_true rfl⟩, hw15, hw16⟩ ⟨WR.blind, va_recv hK hP (ci := 3) (q0 := 14) rfl rfl, WR.pre hPc hK hDc hNW⟩ rfl rfl hl.1 rfl (lv_room (Nat.le_of_ble_eq_true rfl)) dX6_copyFrom_41 ⟨Nat.le_of_ble_eq_true rfl, Nat.le_of_ble_eq_true rfl⟩) hS (fun q _ h => hFc q h) hFc (fun u t H1 locs ht hvm hw hB hz1 hk1 hS => ?_)
  obtain ⟨hP1, hD1⟩ := hB
  rw [ht] at hP1
  obtain ⟨hP, hD⟩ := va_join (wr := [(a 0, .inr (6, [.ref (a 1), .ref (a 6), .ref (a 9), .ref (a 14), .int (M 0 4)])), (a 1, .inr (7, [.int ((r8 0) 0), .int ((r8 0) 1), .ref (a 2), .ref (a 3), .ref (a 4), .ref (a 5)])), (a 2, .inl (cI, 12, .inl (r8 1))), (a 3, .inl (cI, 12, .inl (r8 2))), (a 4, .inl (cI, 12, .inl (r8 3))), (a 5, .inl (cI, 120, .inl (r8 4))), (a 6, .inr (2, [.int ((r19 0) 0), .int ((r19 0) 1), .int ((r19 0) 2), .int ((r19 0) 3), .int ((r19 0) 4), .ref (a 7), .ref (a 8)])), (a 7, .inl (cI, 8, .inl (r19 1))), (a 8, .inl (cZ, 8, .inl (r19 2))), (a 9, .inr (0, [.ref (a 10), .ref (a 11), .ref (a 12), .ref (a 13)])), (a 10, .inl (cI, 10, .inl (r30 1))), (a 11, .inl (cI, 10, .inl (r30 2))), (a 12, .inl (cI, 10, .inl (r30 3))), (a 13, .inl (cI, 10, .inl (r30 4))), (a 16, .inr (6, [.ref (a 17), .ref (a 22), .ref (a 25), .ref (a 30), .int (M 16 4)])), (a 17, .inr (7, [.int (M 17 0), .int (M 17 1), .ref (a 18), .ref (a 19), .ref (a 20), .ref (a 21)])), (a 18, .inl (cI, 12, .inl (M 18))), (a 19, .inl (cI, 12, .inl (M 19))), (a 20, .inl (cI, 12, .inl (M 20))), (a 21, .inl (cI, 120, .inl (M 21))), (a 22, .inr (2, [.int (M 22 0), .int (M 22 1), .int (M 22 2), .int (M 22 3), .int (M 22 4), .ref (a 23), .ref (a 24)])), (a 23, .inl (cI, 8, .inl (M 23))), (a 24, .inl (cZ, 8, .inl (M 24))), (a 25, .inr (0, [.ref (a 26), .ref (a 27), .ref (a 28), .ref (a 29)])), (a 26, .inl (cI, 10, .inl (M 26))), (a 27, .inl (cI, 10, .inl (M 27))), (a 28, .inl (cI, 10, .inl (M 28))), (a 29, .inl (cI, 10, .inl (M 29)))]) (w1 := (wX3_copyFrom cI cZ (pk [14, 15, 30, 31] a) (sr (sr (pk [14, 15, 30, 31] (sr (sr (sr (sr (sr (sr (sr (sr (sr (sr (sr (sr M 1 (r8 0)) 2 (r8 1)) 3 (r8 2)) 4 (r8 3)) 5 (r8 4)) 6 (r19 0)) 7 (r19 1)) 8 (r19 2)) 10 (r30 1)) 11 (r30 2)) 12 (r30 3)) 13 (r30 4))) 0 (r41 0)) 1 (r41 1)))) hP hD [14, 15, 30, 31] [0, 1, 2, 3, 4, 5, 6, 7, 8, 9, 10, 11, 12, 13, 16, 17, 18, 19, 20, 21, 22, 23, 24, 25, 26, 27, 28, 29] rfl rfl (by decide) (by decide) hk1 hFc hP1 hD1
  have hP := hP.sub (ws' := (wX6_copyFrom cI cZ a (sr (sr (sr (sr (sr (sr (sr (sr (sr (sr (sr (sr (sr (sr M 1 (r8 0)) 2 (r8 1)) 3 (r8 2)) 4 (r8 3)) 5 (r8 4)) 6 (r19 0)) 7 (r19 1)) 8 (r19 2)) 10 (r30 1)) 11 (r30 2)) 12 (r30 3)) 13 (r30 4)) 14 (r41 0)) 15 (r41 1)))) [0, 1, 2, 3, 4, 5, 6, 7, 8, 9, 10, 11, 12, 13, 28, 29, 14, 15, 16, 17, 18, 19, 20, 21, 22, 23, 24, 25, 26, 27, 30, 31] rfl
  have hD := hD.sub (ws' := (wX6_copyFrom cI cZ a (sr (sr (sr (sr (sr (sr (sr (sr (sr (sr (sr (sr (sr (sr M 1 (r8 0)) 2 (r8 1)) 3 (r8 2)) 4 (r8 3)) 5 (r8 4)) 6 (r19 0)) 7 (r19 1)) 8 (r19 2)) 10 (r30 1)) 11 (r30 2)) 12 (r30 3)) 13 (r30 4)) 14 (r41 0)) 15 (r41 1)))) [0, 1, 2, 3, 4, 5, 6, 7, 8, 9, 10, 11, 12, 13, 28, 29, 14, 15, 16, 17, 18, 19, 20, 21, 22, 23, 24, 25, 26, 27, 30, 31] (by decide) rfl
  generalize H1 = H at hP hS ⊢
  refine lv_aload_n hx hb dX6_copyFrom_44 rfl (lv_at hl 0 rfl) ?_
  refine lv_aload_n hx hb dX6_copyFrom_45 rfl (lv_at hl 1 rfl) ?_
  refine va_get (D := (dC, dI)) (ci := 6) (v := .int (M 16 4)) (C := RX6) (T := TX6) (N := 5) hx hb hts hinX6 hown hK hP 16 rfl rfl 4 (by decide) hw17 (fun _ h9 => h9) rfl dX6_copyFrom_46 ?_
  refine va_put (D := (dC, dI)) (ci := 6) (v := .int (M 16 4)) (ty := .int) (C := RX6) (T := TX6) (N := 5) hx hb hts hinX6 tyX6 tyX6_ok nmX6 hown hK hP hD hS 0 rfl rfl 4 (by decide) hw17 (fun _ h9 => h9) rfl (by decide +kernel) rfl rfl (Nat.le_of_ble_eq_true rfl) dX6_copyFrom_49 (fun H locs hP hD hS => ?_)
  have hP : va_P (dC, dI) vwCl (wX6_copyFrom cI cZ a (sr (sr (sr (sr (sr (sr (sr (sr (sr (sr (sr (sr (sr (sr (sr M 0 (upd (M 0) 4 (M 16 4))) 1 (r8 0)) 2 (r8 1)) 3 (r8 2)) 4 (r8 3)) 5 (r8 4)) 6 (r19 0)) 7 (r19 1)) 8 (r19 2)) 10 (r30 1)) 11 (r30 2)) 12 (r30 3)) 13 (r30 4)) 14 (r41 0)) 15 (r41 1))) H := hP
  have hD : va_D A (wX6_copyFrom cI cZ a (sr (sr (sr (sr (sr (sr (sr (sr (sr (sr (sr (sr (sr (sr (sr M 0 (upd (M 0) 4 (M 16 4))) 1 (r8 0)) 2 (r8 1)) 3 (r8 2)) 4 (r8 3)) 5 (r8 4)) 6 (r19 0)) 7 (r19 1)) 8 (r19 2)) 10 (r30 1)) 11 (r30 2)) 12 (r30 3)) 13 (r30 4)) 14 (r41 0)) 15 (r41 1))) := hD
  have e9 := so_e hf
  subst e9
  exact W.vret hx hb hr (fun t ht hW => ⟨⟨(), rfl, trivial, WE.mk hP hD ht⟩, hS.F ht⟩) hS.2.2 dX6_copyFrom_52
