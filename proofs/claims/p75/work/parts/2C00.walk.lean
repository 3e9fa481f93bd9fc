set_option maxHeartbeats 4000000 in
set_option maxRecDepth 100000 in
theorem c_X7_init (l : Launch) (dC : Nat → ClassId) (dI : Nat → Nat → Nat) (cI cZ : ClassId) (a0 : Nat) (sz : Nat) (z : Mem) (hf : fX7_init = some z) : Met l yX7_init wsX7_init ({ frames := 1, cells := 4, slots := 156, locals := 12 } : Room) (va_Pc [.ref a0] (WR (dC, dI) cI cZ [(a0, .inr (7, [.int 0, .int 0, .null, .null, .null, .null]))] sz)) (va_Qv (S := Nat → Nat) (fun b => b 0 = a0) (fun b t => WE (dC, dI) cI cZ (wX7 cI cZ b z) (va_A [(a0, .inr (7, [.int 0, .int 0, .null, .null, .null, .null]))] sz) t) (va_A [(a0, .inr (7, [.int 0, .int 0, .null, .null, .null, .null]))] sz)) 4 156 (va_A [(a0, .inr (7, [.int 0, .int 0, .null, .null, .null, .null]))] sz) := by
  refine Met.ofW (cc := cX7_init) (maxL := 1) (ret := none) (by decide) rfl ?_
  intro p e s m args below meth c s₁ B hml hv
  obtain ⟨rfl, hsz, hP, hK, hD0, hNW⟩ := hv
  have hx := B.exec
  have hb := B.bytes
  have hr := B.returns
  have hts := atoms_spec (ws := wsX7_init) B.pre
  have hown : s.vm.findClass RX7 = some m.cls := findClass_of_methodNamed B.named
  have hlocks := B.notSynchronized
  have hin9 : meth.name = "<init>" := (name_of_methodNamed B.named B.method).1
  have hw0 := hts (.methodLink RX7 3 objectInit) (by decide +kernel)
  have hw1 := hts (.instanceMethod objectInit) (by decide +kernel)
  have hw2 := hts (.code objectInit ⟨#[0xb1]⟩ 1 none) (by decide +kernel)
  have hinX7 : ∀ w ∈ u_ws RX7 TX7 6, w ∈ wsX7_init := by decide +kernel
  have hw4 := hts (.fieldLink RX7 9 "GlideShelves$Tower" "count" "I") (by decide +kernel)
  have hw5 := hts (.fieldLink RX7 15 "GlideShelves$Tower" "window" "I") (by decide +kernel)
  have hw6 := hts (.arrayClass .int) (by decide +kernel)
  have hw7 := hts (.fieldLink RX7 18 "GlideShelves$Tower" "heights" "[I") (by decide +kernel)
  have hw8 := hts (.fieldLink RX7 22 "GlideShelves$Tower" "places" "[I") (by decide +kernel)
  have hw9 := hts (.fieldLink RX7 25 "GlideShelves$Tower" "uses" "[I") (by decide +kernel)
  have hw10 := hts (.fieldLink RX7 28 "GlideShelves$Tower" "things" "[I") (by decide +kernel)
  subst hsz
  have hD := hD0.self (sz := s.heap.size)
  generalize hAe : va_A [(a0, .inr (7, [.int 0, .int 0, .null, .null, .null, .null]))] s.heap.size = A at hD ⊢
  have hA : ∀ q : Nat, s.heap.size ≤ q → A q := fun q h => by rw [← hAe]; exact Or.inr h
  have hS : va_S A s.heap s.heap [] := va_S.rf
  have hl := lv_entry ([.ref a0]) (n := 1) (Nat.le_of_ble_eq_true rfl)
  rw [lg_entry_eq]
  generalize (lg_sl ([.ref a0]) ++ List.replicate (1 - (lg_sl ([.ref a0])).length) Slot.unset).toArray = ls at hl ⊢
  have hl : lv_has ls 1 [(0, .ref a0)] := hl
  unfold fX7_init at hf
  dsimp only at hf
  suffices hgo : ∀ (H : Heap) (locs : List Loc), va_P (dC, dI) vwCl [(a0, .inr (7, [.int 0, .int 0, .null, .null, .null, .null]))] H → va_D A [(a0, .inr (7, [.int 0, .int 0, .null, .null, .null, .null]))] → va_S A s.heap H locs → W p l e (headSpec wsX7_init ({ frames := 1, cells := 4, slots := 156, locals := 12 } : Room)).room s m ([.ref a0] : List Value).toArray below meth c H locs 0 0 (MQ below (va_Qv (S := Nat → Nat) (fun b => b 0 = a0) (fun b t => WE (dC, dI) cI cZ (wX7 cI cZ b z) A t) A) ([.ref a0] : List Value).toArray s 4 156 A) (F0 m 0 ls []) from hgo _ _ hP hD hS
  intro H locs hP hD hS
  refine lv_aload_n hx hb dX7_init_0 rfl (lv_at hl 0 rfl) ?_
  refine W.objInit hx hb hown hw0 hw1 hw2 rfl (by rw [hml]; exact hl.1) rfl dX7_init_1 (Nat.le_of_ble_eq_true rfl) (Nat.le_of_ble_eq_true rfl) ?_
  refine W.eq (g2 := F0 m 4 ls []) rfl ?_
  refine lv_aload_n hx hb dX7_init_4 rfl (lv_at hl 0 rfl) ?_
  refine lv_iconst (v := (0 : Int32)) hx hb dX7_init_5 (by decide) ?_
  refine va_put (D := (dC, dI)) (ci := 7) (v := .int (0 : Int32)) (ty := .int) (C := RX7) (T := TX7) (N := 6) hx hb hts hinX7 tyX7 tyX7_ok nmX7 hown hK hP hD hS 0 rfl rfl 0 (by decide) hw4 (fun _ h9 => h9) rfl (by decide +kernel) rfl rfl (Nat.le_of_ble_eq_true rfl) dX7_init_6 (fun H locs hP hD hS => ?_)
  have hP : va_P (dC, dI) vwCl [(a0, .inr (7, [.int (0 : Int32), .int 0, .null, .null, .null, .null]))] H := hP
  have hD : va_D A [(a0, .inr (7, [.int (0 : Int32), .int 0, .null, .null, .null, .null]))] := hD
  refine lv_aload_n hx hb dX7_init_9 rfl (lv_at hl 0 rfl) ?_
  refine lv_iconst (v := (-1 : Int32)) hx hb dX7_init_10 (by decide) ?_
  refine va_put (D := (dC, dI)) (ci := 7) (v := .int (-1 : Int32)) (ty := .int) (C := RX7) (T := TX7) (N := 6) hx hb hts hinX7 tyX7 tyX7_ok nmX7 hown hK hP hD hS 0 rfl rfl 1 (by decide) hw5 (fun _ h9 => h9) rfl (by decide +kernel) rfl rfl (Nat.le_of_ble_eq_true rfl) dX7_init_11 (fun H locs hP hD hS => ?_)
  have hP : va_P (dC, dI) vwCl [(a0, .inr (7, [.int (0 : Int32), .int (-1 : Int32), .null, .null, .null, .null]))] H := hP
  have hD : va_D A [(a0, .inr (7, [.int (0 : Int32), .int (-1 : Int32), .null, .null, .null, .null]))] := hD
  refine lv_aload_n hx hb dX7_init_14 rfl (lv_at hl 0 rfl) ?_
  refine lv_bipush (v := (12 : Int32)) hx hb dX7_init_15 (by decide) ?_
  refine newK (atype := .int) (ty := .int) 0 hx hb hw6 rfl hK rfl hP hD hS hA (fun _ => rfl) (N' := 12) (by decide) rfl (Nat.le_of_ble_eq_true rfl) (Nat.le_of_ble_eq_true rfl) (Nat.le_of_ble_eq_true rfl) dX7_init_17 (fun q17 H hP hD hS => ?_)
  have hP : va_P (dC, dI) vwCl [(a0, .inr (7, [.int (0 : Int32), .int (-1 : Int32), .null, .null, .null, .null])), (q17, .inl (cI, 12, .inl (fun _ => 0)))] H := hP
  have hD : va_D A [(a0, .inr (7, [.int (0 : Int32), .int (-1 : Int32), .null, .null, .null, .null])), (q17, .inl (cI, 12, .inl (fun _ => 0)))] := hD
  refine va_putF (D := (dC, dI)) (ci := 7) (v := .ref q17) (ty := (.array .int)) (C := RX7) (T := TX7) (N := 6) hx hb hts hinX7 tyX7 tyX7_ok nmX7 hown hK hP hD hS 0 rfl rfl 2 (by decide) hw7 (fun _ h9 => h9) rfl hin9 rfl (by decide +kernel) rfl rfl (Nat.le_of_ble_eq_true rfl) dX7_init_19 (fun H locs hP hD hS => ?_)
  have hP : va_P (dC, dI) vwCl [(a0, .inr (7, [.int (0 : Int32), .int (-1 : Int32), .ref q17, .null, .null, .null])), (q17, .inl (cI, 12, .inl (fun _ => 0)))] H := hP
  have hD : va_D A [(a0, .inr (7, [.int (0 : Int32), .int (-1 : Int32), .ref q17, .null, .null, .null])), (q17, .inl (cI, 12, .inl (fun _ => 0)))] := hD
  refine lv_aload_n hx hb dX7_init_22 rfl (lv_at hl 0 rfl) ?_
  refine lv_bipush (v := (12 : Int32)) hx hb dX7_init_23 (by decide) ?_
  refine newK (atype := .int) (ty := .int) 0 hx hb hw6 rfl hK rfl hP hD hS hA (fun _ => rfl) (N' := 12) (by decide) rfl (Nat.le_of_ble_eq_true rfl) (Nat.le_of_ble_eq_true rfl) (Nat.le_of_ble_eq_true rfl) dX7_init_25 (fun q25 H hP hD hS => ?_)
  have hP : va_P (dC, dI) vwCl [(a0, .inr (7, [.int (0 : Int32), .int (-1 : Int32), .ref q17, .null, .null, .null])), (q17, .inl (cI, 12, .inl (fun _ => 0))), (q25, .inl (cI, 12, .inl (fun _ => 0)))] H := hP
  have hD : va_D A [(a0, .inr (7, [.int (0 : Int32), .int (-1 : Int32), .ref q17, .null, .null, .null])), (q17, .inl (cI, 12, .inl (fun _ => 0))), (q25, .inl (cI, 12, .inl (fun _ => 0)))] := hD
  refine va_putF (D := (dC, dI)) (ci := 7) (v := .ref q25) (ty := (.array .int)) (C := RX7) (T := TX7) (N := 6) hx hb hts hinX7 tyX7 tyX7_ok nmX7 hown hK hP hD hS 0 rfl rfl 3 (by decide) hw8 (fun _ h9 => h9) rfl hin9 rfl (by decide +kernel) rfl rfl (Nat.le_of_ble_eq_true rfl) dX7_init_27 (fun H locs hP hD hS => ?_)
  have hP : va_P (dC, dI) vwCl [(a0, .inr (7, [.int (0 : Int32), .int (-1 : Int32), .ref q17, .ref q25, .null, .null])), (q17, .inl (cI, 12, .inl (fun _ => 0))), (q25, .inl (cI, 12, .inl (fun _ => 0)))] H := hP
  have hD : va_D A [(a0, .inr (7, [.int (0 : Int32), .int (-1 : Int32), .ref q17, .ref q25, .null, .null])), (q17, .inl (cI, 12, .inl (fun _ => 0))), (q25, .inl (cI, 12, .inl (fun _ => 0)))] := hD
  refine lv_aload_n hx hb dX7_init_30 rfl (lv_at hl 0 rfl) ?_
  refine lv_bipush (v := (12 : Int32)) hx hb dX7_init_31 (by decide) ?_
  refine newK (atype := .int) (ty := .int) 0 hx hb hw6 rfl hK rfl hP hD hS hA (fun _ => rfl) (N' := 12) (by decide) rfl (Nat.le_of_ble_eq_true rfl) (Nat.le_of_ble_eq_true rfl) (Nat.le_of_ble_eq_true rfl) dX7_init_33 (fun q33 H hP hD hS => ?_)
  have hP : va_P (dC, dI) vwCl [(a0, .inr (7, [.int (0 : Int32), .int (-1 : Int32), .ref q17, .ref q25, .null, .null])), (q17, .inl (cI, 12, .inl (fun _ => 0))), (q25, .inl (cI, 12, .inl (fun _ => 0))), (q33, .inl (cI, 12, .inl (fun _ => 0)))] H := hP
  have hD : va_D A [(a0, .inr (7, [.int (0 : Int32), .int (-1 : Int32), .ref q17, .ref q25, .null, .null])), (q17, .inl (cI, 12, .inl (fun _ => 0))), (q25, .inl (cI, 12, .inl (fun _ => 0))), (q33, .inl (cI, 12, .inl (fun _ => 0)))] := hD
  refine va_putF (D := (dC, dI)) (ci := 7) (v := .ref q33) (ty := (.array .int)) (C := RX7) (T := TX7) (N := 6) hx hb hts hinX7 tyX7 tyX7_ok nmX7 hown hK hP hD hS 0 rfl rfl 4 (by decide) hw9 (fun _ h9 => h9) rfl hin9 rfl (by decide +kernel) rfl rfl (Nat.le_of_ble_eq_true rfl) dX7_init_35 (fun H locs hP hD hS => ?_)
  have hP : va_P (dC, dI) vwCl [(a0, .inr (7, [.int (0 : Int32), .int (-1 : Int32), .ref q17, .ref q25, .ref q33, .null])), (q17, .inl (cI, 12, .inl (fun _ => 0))), (q25, .inl (cI, 12, .inl (fun _ => 0))), (q33, .inl (cI, 12, .inl (fun _ => 0)))] H := hP
  have hD : va_D A [(a0, .inr (7, [.int (0 : Int32), .int (-1 : Int32), .ref q17, .ref q25, .ref q33, .null])), (q17, .inl (cI, 12, .inl (fun _ => 0))), (q25, .inl (cI, 12, .inl (fun _ => 0))), (q33, .inl (cI, 12, .inl (fun _ => 0)))] := hD
  refine lv_aload_n hx hb dX7_init_38 rfl (lv_at hl 0 rfl) ?_
  refine lv_bipush (v := (120 : Int32)) hx hb dX7_init_39 (by decide) ?_
  refine newK (atype := .int) (ty := .int) 0 hx hb hw6 rfl hK rfl hP hD hS hA (fun _ => rfl) (N' := 120) (by decide) rfl (Nat.le_of_ble_eq_true rfl) (Nat.le_of_ble_eq_true rfl) (Nat.le_of_ble_eq_true rfl) dX7_init_41 (fun q41 H hP hD hS => ?_)
  have hP : va_P (dC, dI) vwCl [(a0, .inr (7, [.int (0 : Int32), .int (-1 : Int32), .ref q17, .ref q25, .ref q33, .null])), (q17, .inl (cI, 12, .inl (fun _ => 0))), (q25, .inl (cI, 12, .inl (fun _ => 0))), (q33, .inl (cI, 12, .inl (fun _ => 0))), (q41, .inl (cI, 120, .inl (fun _ => 0)))] H := hP
  have hD : va_D A [(a0, .inr (7, [.int (0 : Int32), .int (-1 : Int32), .ref q17, .ref q25, .ref q33, .null])), (q17, .inl (cI, 12, .inl (fun _ => 0))), (q25, .inl (cI, 12, .inl (fun _ => 0))), (q33, .inl (cI, 12, .inl (fun _ => 0))), (q41, .inl (cI, 120, .inl (fun _ => 0)))] := hD
  refine va_putF (D := (dC, dI)) (ci := 7) (v := .ref q41) (ty := (.array .int)) (C := RX7) (T := TX7) (N := 6) hx hb hts hinX7 tyX7 tyX7_ok nmX7 hown hK hP hD hS 0 rfl rfl 5 (by decide) hw10 (fun _ h9 => h9) rfl hin9 rfl (by decide +kernel) rfl rfl (Nat.le_of_ble_eq_true rfl) dX7_init_43 (fun H locs hP hD hS => ?_)
  have hP : va_P (dC, dI) vwCl [(a0, .inr (7, [.int (0 : Int32), .int (-1 : Int32), .ref q17, .ref q25, .ref q33, .ref q41])), (q17, .inl (cI, 12, .inl (fun _ => 0))), (q25, .inl (cI, 12, .inl (fun _ => 0))), (q33, .inl (cI, 12, .inl (fun _ => 0))), (q41, .inl (cI, 120, .inl (fun _ => 0)))] H := hP
  have hD : va_D A [(a0, .inr (7, [.int (0 : Int32), .int (-1 : Int32), .ref q17, .ref q25, .ref q33, .ref q41])), (q17, .inl (cI, 12, .inl (fun _ => 0))), (q25, .inl (cI, 12, .inl (fun _ => 0))), (q33, .inl (cI, 12, .inl (fun _ => 0))), (q41, .inl (cI, 120, .inl (fun _ => 0)))] := hD
  have hP := hP.sub (ws' := wX7 cI cZ (adr [a0, q17, q25, q33, q41]) (sr m00 0 (upd (upd (m00 0) 0 (0 : Int32)) 1 (-1 : Int32)))) [0, 1, 2, 3, 4] rfl
  have hD := hD.sub (ws' := wX7 cI cZ (adr [a0, q17, q25, q33, q41]) (sr m00 0 (upd (upd (m00 0) 0 (0 : Int32)) 1 (-1 : Int32)))) [0, 1, 2, 3, 4] (by decide) rfl
  have hl : lv_has ls 1 [(0, .ref ((adr [a0, q17, q25, q33, q41]) 0))] := hl
  have ha0 : (adr [a0, q17, q25, q33, q41]) 0 = a0 := rfl
  generalize (adr [a0, q17, q25, q33, q41]) = a at hP hD hl ha0
  have e9 := so_e hf
  subst e9
  exact W.vret hx hb hr (fun t ht hW => ⟨⟨a, rfl, ha0, WE.mk hP hD ht⟩, hS.F ht⟩) hS.2.2 dX7_init_46
set_option maxHeartbeats 4000000 in
set_option maxRecDepth 100000 in
theorem c_X2_init (l : Launch) (dC : Nat → ClassId) (dI : Nat → Nat → Nat) (cI cZ : ClassId) (a0 : Nat) (sz : Nat) (z : Mem) (hf : fX2_init = some z) : Met l yX2_init wsX2_init ({ frames := 1, cells := 2, slots := 16, locals := 12 } : Room) (va_Pc [.ref a0] (WR (dC, dI) cI cZ [(a0, .inr (2, [.int 0, .int 0, .int 0, .int 0, .int 0, .null, .null]))] sz)) (va_Qv (S := Nat → Nat) (fun b => b 0 = a0) (fun b t => WE (dC, dI) cI cZ (wX2 cI cZ b z) (va_A [(a0, .inr (2, [.int 0, .int 0, .int 0, .int 0, .int 0, .null, .null]))] sz) t) (va_A [(a0, .inr (2, [.int 0, .int 0, .int 0, .int 0, .int 0, .null, .null]))] sz)) 2 16 (va_A [(a0, .inr (2, [.int 0, .int 0, .int 0, .int 0, .int 0, .null, .null]))] sz) := by
  refine Met.ofW (cc := cX2_init) (maxL := 1) (ret := none) (by decide) rfl ?_
  intro p e s m args below meth c s₁ B hml hv
  obtain ⟨rfl, hsz, hP, hK, hD0, hNW⟩ := hv
  have hx := B.exec
  have hb := B.bytes
  have hr := B.returns
  have hts := atoms_spec (ws := wsX2_init) B.pre
  have hown : s.vm.findClass RX2 = some m.cls := findClass_of_methodNamed B.named
  have hlocks := B.notSynchronized
  have hin9 : meth.name = "<init>" := (name_of_methodNamed B.named B.method).1
  have hw0 := hts (.methodLink RX2 3 objectInit) (by decide +kernel)
  have hw1 := hts (.instanceMethod objectInit) (by decide +kernel)
  have hw2 := hts (.code objectInit ⟨#[0xb1]⟩ 1 none) (by decide +kernel)
  have hinX2 : ∀ w ∈ u_ws RX2 TX2 7, w ∈ wsX2_init := by decide +kernel
  have hw4 := hts (.fieldLink RX2 9 "GlideShelves$Lift" "slot" "I") (by decide +kernel)
  have hw5 := hts (.fieldLink RX2 15 "GlideShelves$Lift" "keepsPlaces" "Z") (by decide +kernel)
  have hw6 := hts (.fieldLink RX2 19 "GlideShelves$Lift" "allTicks" "I") (by decide +kernel)
  have hw7 := hts (.fieldLink RX2 22 "GlideShelves$Lift" "allFetches" "I") (by decide +kernel)
  have hw8 := hts (.fieldLink RX2 25 "GlideShelves$Lift" "remembered" "I") (by decide +kernel)
  have hw9 := hts (.arrayClass .int) (by decide +kernel)
  have hw10 := hts (.fieldLink RX2 28 "GlideShelves$Lift" "tripSums" "[I") (by decide +kernel)
  have hw11 := hts (.arrayClass .boolean) (by decide +kernel)
  have hw12 := hts (.fieldLink RX2 32 "GlideShelves$Lift" "tripBrought" "[Z") (by decide +kernel)
  subst hsz
  have hD := hD0.self (sz := s.heap.size)
  generalize hAe : va_A [(a0, .inr (2, [.int 0, .int 0, .int 0, .int 0, .int 0, .null, .null]))] s.heap.size = A at hD ⊢
  have hA : ∀ q : Nat, s.heap.size ≤ q → A q := fun q h => by rw [← hAe]; exact Or.inr h
  have hS : va_S A s.heap s.heap [] := va_S.rf
  have hl := lv_entry ([.ref a0]) (n := 1) (Nat.le_of_ble_eq_true rfl)
  rw [lg_entry_eq]
  generalize (lg_sl ([.ref a0]) ++ List.replicate (1 - (lg_sl ([.ref a0])).length) Slot.unset).toArray = ls at hl ⊢
  have hl : lv_has ls 1 [(0, .ref a0)] := hl
  unfold fX2_init at hf
  dsimp only at hf
  suffices hgo : ∀ (H : Heap) (locs : List Loc), va_P (dC, dI) vwCl [(a0, .inr (2, [.int 0, .int 0, .int 0, .int 0, .int 0, .null, .null]))] H → va_D A [(a0, .inr (2, [.int 0, .int 0, .int 0, .int 0, .int 0, .null, .null]))] → va_S A s.heap H locs → W p l e (headSpec wsX2_init ({ frames := 1, cells := 2, slots := 16, locals := 12 } : Room)).room s m ([.ref a0] : List Value).toArray below meth c H locs 0 0 (MQ below (va_Qv (S := Nat → Nat) (fun b => b 0 = a0) (fun b t => WE (dC, dI) cI cZ (wX2 cI cZ b z) A t) A) ([.ref a0] : List Value).toArray s 2 16 A) (F0 m 0 ls []) from hgo _ _ hP hD hS
  intro H locs hP hD hS
  refine lv_aload_n hx hb dX2_init_0 rfl (lv_at hl 0 rfl) ?_
  refine W.objInit hx hb hown hw0 hw1 hw2 rfl (by rw [hml]; exact hl.1) rfl dX2_init_1 (Nat.le_of_ble_eq_true rfl) (Nat.le_of_ble_eq_true rfl) ?_
  refine W.eq (g2 := F0 m 4 ls []) rfl ?_
  refine lv_aload_n hx hb dX2_init_4 rfl (lv_at hl 0 rfl) ?_
  refine lv_iconst (v := (0 : Int32)) hx hb dX2_init_5 (by decide) ?_
  refine va_put (D := (dC, dI)) (ci := 2) (v := .int (0 : Int32)) (ty := .int) (C := RX2) (T := TX2) (N := 7) hx hb hts hinX2 tyX2 tyX2_ok nmX2 hown hK hP hD hS 0 rfl rfl 0 (by decide) hw4 (fun _ h9 => h9) rfl (by decide +kernel) rfl rfl (Nat.le_of_ble_eq_true rfl) dX2_init_6 (fun H locs hP hD hS => ?_)
  have hP : va_P (dC, dI) vwCl [(a0, .inr (2, [.int (0 : Int32), .int 0, .int 0, .int 0, .int 0, .null, .null]))] H := hP
  have hD : va_D A [(a0, .inr (2, [.int (0 : Int32), .int 0, .int 0, .int 0, .int 0, .null, .null]))] := hD
  refine lv_aload_n hx hb dX2_init_9 rfl (lv_at hl 0 rfl) ?_
  refine lv_iconst (v := (1 : Int32)) hx hb dX2_init_10 (by decide) ?_
  refine va_put (D := (dC, dI)) (ci := 2) (v := .int (1 : Int32)) (ty := .boolean) (C := RX2) (T := TX2) (N := 7) hx hb hts hinX2 tyX2 tyX2_ok nmX2 hown hK hP hD hS 0 rfl rfl 1 (by decide) hw5 (fun _ h9 => h9) rfl (by decide +kernel) rfl rfl (Nat.le_of_ble_eq_true rfl) dX2_init_11 (fun H locs hP hD hS => ?_)
  have hP : va_P (dC, dI) vwCl [(a0, .inr (2, [.int (0 : Int32), .int (1 : Int32), .int 0, .int 0, .int 0, .null, .null]))] H := hP
  have hD : va_D A [(a0, .inr (2, [.int (0 : Int32), .int (1 : Int32), .int 0, .int 0, .int 0, .null, .null]))] := hD
  refine lv_aload_n hx hb dX2_init_14 rfl (lv_at hl 0 rfl) ?_
  refine lv_iconst (v := (0 : Int32)) hx hb dX2_init_15 (by decide) ?_
  refine va_put (D := (dC, dI)) (ci := 2) (v := .int (0 : Int32)) (ty := .int) (C := RX2) (T := TX2) (N := 7) hx hb hts hinX2 tyX2 tyX2_ok nmX2 hown hK hP hD hS 0 rfl rfl 2 (by decide) hw6 (fun _ h9 => h9) rfl (by decide +kernel) rfl rfl (Nat.le_of_ble_eq_true rfl) dX2_init_16 (fun H locs hP hD hS => ?_)
  have hP : va_P (dC, dI) vwCl [(a0, .inr (2, [.int (0 : Int32), .int (1 : Int32), .int (0 : Int32), .int 0, .int 0, .null, .null]))] H := hP
  have hD : va_D A [(a0, .inr (2, [.int (0 : Int32), .int (1 : Int32), .int (0 : Int32), .int 0, .int 0, .null, .null]))] := hD
  refine lv_aload_n hx hb dX2_init_19 rfl (lv_at hl 0 rfl) ?_
  refine lv_iconst (v := (0 : Int32)) hx hb dX2_init_20 (by decide) ?_
  refine va_put (D := (dC, dI)) (ci := 2) (v := .int (0 : Int32)) (ty := .int) (C := RX2) (T := TX2) (N := 7) hx hb hts hinX2 tyX2 tyX2_ok nmX2 hown hK hP hD hS 0 rfl rfl 3 (by decide) hw7 (fun _ h9 => h9) rfl (by decide +kernel) rfl rfl (Nat.le_of_ble_eq_true rfl) dX2_init_21 (fun H locs hP hD hS => ?_)
  have hP : va_P (dC, dI) vwCl [(a0, .inr (2, [.int (0 : Int32), .int (1 : Int32), .int (0 : Int32), .int (0 : Int32), .int 0, .null, .null]))] H := hP
  have hD : va_D A [(a0, .inr (2, [.int (0 : Int32), .int (1 : Int32), .int (0 : Int32), .int (0 : Int32), .int 0, .null, .null]))] := hD
  refine lv_aload_n hx hb dX2_init_24 rfl (lv_at hl 0 rfl) ?_
  refine lv_iconst (v := (0 : Int32)) hx hb dX2_init_25 (by decide) ?_
  refine va_put (D := (dC, dI)) (ci := 2) (v := .int (0 : Int32)) (ty := .int) (C := RX2) (T := TX2) (N := 7) hx hb hts hinX2 tyX2 tyX2_ok nmX2 hown hK hP hD hS 0 rfl rfl 4 (by decide) hw8 (fun _ h9 => h9) rfl (by decide +kernel) rfl rfl (Nat.le_of_ble_eq_true rfl) dX2_init_26 (fun H locs hP hD hS => ?_)
  have hP : va_P (dC, dI) vwCl [(a0, .inr (2, [.int (0 : Int32), .int (1 : Int32), .int (0 : Int32), .int (0 : Int32), .int (0 : Int32), .null, .null]))] H := hP
  have hD : va_D A [(a0, .inr (2, [.int (0 : Int32), .int (1 : Int32), .int (0 : Int32), .int (0 : Int32), .int (0 : Int32), .null, .null]))] := hD
  refine lv_aload_n hx hb dX2_init_29 rfl (lv_at hl 0 rfl) ?_
  refine lv_bipush (v := (8 : Int32)) hx hb dX2_init_30 (by decide) ?_
  refine newK (atype := .int) (ty := .int) 0 hx hb hw9 rfl hK rfl hP hD hS hA (fun _ => rfl) (N' := 8) (by decide) rfl (Nat.le_of_ble_eq_true rfl) (Nat.le_of_ble_eq_true rfl) (Nat.le_of_ble_eq_true rfl) dX2_init_32 (fun q32 H hP hD hS => ?_)
  have hP : va_P (dC, dI) vwCl [(a0, .inr (2, [.int (0 : Int32), .int (1 : Int32), .int (0 : Int32), .int (0 : Int32), .int (0 : Int32), .null, .null])), (q32, .inl (cI, 8, .inl (fun _ => 0)))] H := hP
  have hD : va_D A [(a0, .inr (2, [.int (0 : Int32), .int (1 : Int32), .int (0 : Int32), .int (0 : Int32), .int (0 : Int32), .null, .null])), (q32, .inl (cI, 8, .inl (fun _ => 0)))] := hD
  refine va_putF (D := (dC, dI)) (ci := 2) (v := .ref q32) (ty := (.array .int)) (C := RX2) (T := TX2) (N := 7) hx hb hts hinX2 tyX2 tyX2_ok nmX2 hown hK hP hD hS 0 rfl rfl 5 (by decide) hw10 (fun _ h9 => h9) rfl hin9 rfl (by decide +kernel) rfl rfl (Nat.le_of_ble_eq_true rfl) dX2_init_34 (fun H locs hP hD hS => ?_)
  have hP : va_P (dC, dI) vwCl [(a0, .inr (2, [.int (0 : Int32), .int (1 : Int32), .int (0 : Int32), .int (0 : Int32), .int (0 : Int32), .ref q32, .null])), (q32, .inl (cI, 8, .inl (fun _ => 0)))] H := hP
  have hD : va_D A [(a0, .inr (2, [.int (0 : Int32), .int (1 : Int32), .int (0 : Int32), .int (0 : Int32), .int (0 : Int32), .ref q32, .null])), (q32, .inl (cI, 8, .inl (fun _ => 0)))] := hD
  refine lv_aload_n hx hb dX2_init_37 rfl (lv_at hl 0 rfl) ?_
  refine lv_bipush (v := (8 : Int32)) hx hb dX2_init_38 (by decide) ?_
  refine newK (atype := .boolean) (ty := .boolean) 1 hx hb hw11 rfl hK rfl hP hD hS hA (fun _ => rfl) (N' := 8) (by decide) rfl (Nat.le_of_ble_eq_true rfl) (Nat.le_of_ble_eq_true rfl) (Nat.le_of_ble_eq_true rfl) dX2_init_40 (fun q40 H hP hD hS => ?_)
  have hP : va_P (dC, dI) vwCl [(a0, .inr (2, [.int (0 : Int32), .int (1 : Int32), .int (0 : Int32), .int (0 : Int32), .int (0 : Int32), .ref q32, .null])), (q32, .inl (cI, 8, .inl (fun _ => 0))), (q40, .inl (cZ, 8, .inl (fun _ => 0)))] H := hP
  have hD : va_D A [(a0, .inr (2, [.int (0 : Int32), .int (1 : Int32), .int (0 : Int32), .int (0 : Int32), .int (0 : Int32), .ref q32, .null])), (q32, .inl (cI, 8, .inl (fun _ => 0))), (q40, .inl (cZ, 8, .inl (fun _ => 0)))] := hD
  refine va_putF (D := (dC, dI)) (ci := 2) (v := .ref q40) (ty := (.array .boolean)) (C := RX2) (T := TX2) (N := 7) hx hb hts hinX2 tyX2 tyX2_ok nmX2 hown hK hP hD hS 0 rfl rfl 6 (by decide) hw12 (fun _ h9 => h9) rfl hin9 rfl (by decide +kernel) rfl rfl (Nat.le_of_ble_eq_true rfl) dX2_init_42 (fun H locs hP hD hS => ?_)
  have hP : va_P (dC, dI) vwCl [(a0, .inr (2, [.int (0 : Int32), .int (1 : Int32), .int (0 : Int32), .int (0 : Int32), .int (0 : Int32), .ref q32, .ref q40])), (q32, .inl (cI, 8, .inl (fun _ => 0))), (q40, .inl (cZ, 8, .inl (fun _ => 0)))] H := hP
  have hD : va_D A [(a0, .inr (2, [.int (0 : Int32), .int (1 : Int32), .int (0 : Int32), .int (0 : Int32), .int (0 : Int32), .ref q32, .ref q40])), (q32, .inl (cI, 8, .inl (fun _ => 0))), (q40, .inl (cZ, 8, .inl (fun _ => 0)))] := hD
  have hP := hP.sub (ws' := wX2 cI cZ (adr [a0, q32, q40]) (sr m00 0 (upd (upd (upd (upd (upd (m00 0) 0 (0 : Int32)) 1 (1 : Int32)) 2 (0 : Int32)) 3 (0 : Int32)) 4 (0 : Int32)))) [0, 1, 2] rfl
  have hD := hD.sub (ws' := wX2 cI cZ (adr [a0, q32, q40]) (sr m00 0 (upd (upd (upd (upd (upd (m00 0) 0 (0 : Int32)) 1 (1 : Int32)) 2 (0 : Int32)) 3 (0 : Int32)) 4 (0 : Int32)))) [0, 1, 2] (by decide) rfl
  have hl : lv_has ls 1 [(0, .ref ((adr [a0, q32, q40]) 0))] := hl
  have ha0 : (adr [a0, q32, q40]) 0 = a0 := rfl
  generalize (adr [a0, q32, q40]) = a at hP hD hl ha0
  have e9 := so_e hf
  subst e9
  exact W.vret hx hb hr (fun t ht hW => ⟨⟨a, rfl, ha0, WE.mk hP hD ht⟩, hS.F ht⟩) hS.2.2 dX2_init_45
set_option maxHeartbeats 4000000 in
set_option maxRecDepth 100000 in
theorem c_X0_init (l : Launch) (dC : Nat → ClassId) (dI : Nat → Nat → Nat) (cI cZ : ClassId) (a0 : Nat) (sz : Nat) (z : Mem) (hf : fX0_init = some z) : Met l yX0_init wsX0_init ({ frames := 1, cells := 4, slots := 40, locals := 12 } : Room) (va_Pc [.ref a0] (WR (dC, dI) cI cZ [(a0, .inr (0, [.null, .null, .null, .null]))] sz)) (va_Qv (S := Nat → Nat) (fun b => b 0 = a0) (fun b t => WE (dC, dI) cI cZ (wX0 cI cZ b z) (va_A [(a0, .inr (0, [.null, .null, .null, .null]))] sz) t) (va_A [(a0, .inr (0, [.null, .null, .null, .null]))] sz)) 4 40 (va_A [(a0, .inr (0, [.null, .null, .null, .null]))] sz) := by
  refine Met.ofW (cc := cX0_init) (maxL := 2) (ret := none) (by decide) rfl ?_
  intro p e s m args below meth c s₁ B hml hv
  obtain ⟨rfl, hsz, hP, hK, hD0, hNW⟩ := hv
  have hx := B.exec
  have hb := B.bytes
  have hr := B.returns
  have hts := atoms_spec (ws := wsX0_init) B.pre
  have hown : s.vm.findClass RX0 = some m.cls := findClass_of_methodNamed B.named
  have hlocks := B.notSynchronized
  have hin9 : meth.name = "<init>" := (name_of_methodNamed B.named B.method).1
  have hw0 := hts (.methodLink RX0 3 objectInit) (by decide +kernel)
  have hw1 := hts (.instanceMethod objectInit) (by decide +kernel)
  have hw2 := hts (.code objectInit ⟨#[0xb1]⟩ 1 none) (by decide +kernel)
  have hw3 := hts (.arrayClass .int) (by decide +kernel)
  have hinX0 : ∀ w ∈ u_ws RX0 TX0 4, w ∈ wsX0_init := by decide +kernel
  have hw5 := hts (.fieldLink RX0 9 "GlideShelves$Goods" "weights" "[I") (by decide +kernel)
  have hw6 := hts (.fieldLink RX0 15 "GlideShelves$Goods" "leasts" "[I") (by decide +kernel)
  have hw7 := hts (.fieldLink RX0 18 "GlideShelves$Goods" "filledIn" "[I") (by decide +kernel)
  have hw8 := hts (.fieldLink RX0 21 "GlideShelves$Goods" "takenOut" "[I") (by decide +kernel)
  subst hsz
  have hD := hD0.self (sz := s.heap.size)
  generalize hAe : va_A [(a0, .inr (0, [.null, .null, .null, .null]))] s.heap.size = A at hD ⊢
  have hA : ∀ q : Nat, s.heap.size ≤ q → A q := fun q h => by rw [← hAe]; exact Or.inr h
  have hS : va_S A s.heap s.heap [] := va_S.rf
  have hl := lv_entry ([.ref a0]) (n := 2) (Nat.le_of_ble_eq_true rfl)
  rw [lg_entry_eq]
  generalize (lg_sl ([.ref a0]) ++ List.replicate (2 - (lg_sl ([.ref a0])).length) Slot.unset).toArray = ls at hl ⊢
  have hl : lv_has ls 2 [(0, .ref a0)] := hl
  unfold fX0_init at hf
  dsimp only at hf
  suffices hgo : ∀ (H : Heap) (locs : List Loc), va_P (dC, dI) vwCl [(a0, .inr (0, [.null, .null, .null, .null]))] H → va_D A [(a0, .inr (0, [.null, .null, .null, .null]))] → va_S A s.heap H locs → W p l e (headSpec wsX0_init ({ frames := 1, cells := 4, slots := 40, locals := 12 } : Room)).room s m ([.ref a0] : List Value).toArray below meth c H locs 0 0 (MQ below (va_Qv (S := Nat → Nat) (fun b => b 0 = a0) (fun b t => WE (dC, dI) cI cZ (wX0 cI cZ b z) A t) A) ([.ref a0] : List Value).toArray s 4 40 A) (F0 m 0 ls []) from hgo _ _ hP hD hS
  intro H locs hP hD hS
  refine lv_aload_n hx hb dX0_init_0 rfl (lv_at hl 0 rfl) ?_
  refine W.objInit hx hb hown hw0 hw1 hw2 rfl (by rw [hml]; exact hl.1) rfl dX0_init_1 (Nat.le_of_ble_eq_true rfl) (Nat.le_of_ble_eq_true rfl) ?_
  refine W.eq (g2 := F0 m 4 ls []) rfl ?_
  refine lv_aload_n hx hb dX0_init_4 rfl (lv_at hl 0 rfl) ?_
  refine lv_bipush (v := (10 : Int32)) hx hb dX0_init_5 (by decide) ?_
  refine newK (atype := .int) (ty := .int) 0 hx hb hw3 rfl hK rfl hP hD hS hA (fun _ => rfl) (N' := 10) (by decide) rfl (Nat.le_of_ble_eq_true rfl) (Nat.le_of_ble_eq_true rfl) (Nat.le_of_ble_eq_true rfl) dX0_init_7 (fun q7 H hP hD hS => ?_)
  have hP : va_P (dC, dI) vwCl [(a0, .inr (0, [.null, .null, .null, .null])), (q7, .inl (cI, 10, .inl (fun _ => 0)))] H := hP
  have hD : va_D A [(a0, .inr (0, [.null, .null, .null, .null])), (q7, .inl (cI, 10, .inl (fun _ => 0)))] := hD
  refine va_putF (D := (dC, dI)) (ci := 0) (v := .ref q7) (ty := (.array .int)) (C := RX0) (T := TX0) (N := 4) hx hb hts hinX0 tyX0 tyX0_ok nmX0 hown hK hP hD hS 0 rfl rfl 0 (by decide) hw5 (fun _ h9 => h9) rfl hin9 rfl (by decide +kernel) rfl rfl (Nat.le_of_ble_eq_true rfl) dX0_init_9 (fun H locs hP hD hS => ?_)
  have hP : va_P (dC, dI) vwCl [(a0, .inr (0, [.ref q7, .null, .null, .null])), (q7, .inl (cI, 10, .inl (fun _ => 0)))] H := hP
  have hD : va_D A [(a0, .inr (0, [.ref q7, .null, .null, .null])), (q7, .inl (cI, 10, .inl (fun _ => 0)))] := hD
  refine lv_aload_n hx hb dX0_init_12 rfl (lv_at hl 0 rfl) ?_
  refine lv_bipush (v := (10 : Int32)) hx hb dX0_init_13 (by decide) ?_
  refine newK (atype := .int) (ty := .int) 0 hx hb hw3 rfl hK rfl hP hD hS hA (fun _ => rfl) (N' := 10) (by decide) rfl (Nat.le_of_ble_eq_true rfl) (Nat.le_of_ble_eq_true rfl) (Nat.le_of_ble_eq_true rfl) dX0_init_15 (fun q15 H hP hD hS => ?_)
  have hP : va_P (dC, dI) vwCl [(a0, .inr (0, [.ref q7, .null, .null, .null])), (q7, .inl (cI, 10, .inl (fun _ => 0))), (q15, .inl (cI, 10, .inl (fun _ => 0)))] H := hP
  have hD : va_D A [(a0, .inr (0, [.ref q7, .null, .null, .null])), (q7, .inl (cI, 10, .inl (fun _ => 0))), (q15, .inl (cI, 10, .inl (fun _ => 0)))] := hD
  refine va_putF (D := (dC, dI)) (ci := 0) (v := .ref q15) (ty := (.array .int)) (C := RX0) (T := TX0) (N := 4) hx hb hts hinX0 tyX0 tyX0_ok nmX0 hown hK hP hD hS 0 rfl rfl 1 (by decide) hw6 (fun _ h9 => h9) rfl hin9 rfl (by decide +kernel) rfl rfl (Nat.le_of_ble_eq_true rfl) dX0_init_17 (fun H locs hP hD hS => ?_)
  have hP : va_P (dC, dI) vwCl [(a0, .inr (0, [.ref q7, .ref q15, .null, .null])), (q7, .inl (cI, 10, .inl (fun _ => 0))), (q15, .inl (cI, 10, .inl (fun _ => 0)))] H := hP
  have hD : va_D A [(a0, .inr (0, [.ref q7, .ref q15, .null, .null])), (q7, .inl (cI, 10, .inl (fun _ => 0))), (q15, .inl (cI, 10, .inl (fun _ => 0)))] := hD
  refine lv_aload_n hx hb dX0_init_20 rfl (lv_at hl 0 rfl) ?_
  refine lv_bipush (v := (10 : Int32)) hx hb dX0_init_21 (by decide) ?_
  refine newK (atype := .int) (ty := .int) 0 hx hb hw3 rfl hK rfl hP hD hS hA (fun _ => rfl) (N' := 10) (by decide) rfl (Nat.le_of_ble_eq_true rfl) (Nat.le_of_ble_eq_true rfl) (Nat.le_of_ble_eq_true rfl) dX0_init_23 (fun q23 H hP hD hS => ?_)
  have hP : va_P (dC, dI) vwCl [(a0, .inr (0, [.ref q7, .ref q15, .null, .null])), (q7, .inl (cI, 10, .inl (fun _ => 0))), (q15, .inl (cI, 10, .inl (fun _ => 0))), (q23, .inl (cI, 10, .inl (fun _ => 0)))] H := hP
  have hD : va_D A [(a0, .inr (0, [.ref q7, .ref q15, .null, .null])), (q7, .inl (cI, 10, .inl (fun _ => 0))), (q15, .inl (cI, 10, .inl (fun _ => 0))), (q23, .inl (cI, 10, .inl (fun _ => 0)))] := hD
  refine va_putF (D := (dC, dI)) (ci := 0) (v := .ref q23) (ty := (.array .int)) (C := RX0) (T := TX0) (N := 4) hx hb hts hinX0 tyX0 tyX0_ok nmX0 hown hK hP hD hS 0 rfl rfl 2 (by decide) hw7 (fun _ h9 => h9) rfl hin9 rfl (by decide +kernel) rfl rfl (Nat.le_of_ble_eq_true rfl) dX0_init_25 (fun H locs hP hD hS => ?_)
  have hP : va_P (dC, dI) vwCl [(a0, .inr (0, [.ref q7, .ref q15, .ref q23, .null])), (q7, .inl (cI, 10, .inl (fun _ => 0))), (q15, .inl (cI, 10, .inl (fun _ => 0))), (q23, .inl (cI, 10, .inl (fun _ => 0)))] H := hP
  have hD : va_D A [(a0, .inr (0, [.ref q7, .ref q15, .ref q23, .null])), (q7, .inl (cI, 10, .inl (fun _ => 0))), (q15, .inl (cI, 10, .inl (fun _ => 0))), (q23, .inl (cI, 10, .inl (fun _ => 0)))] := hD
  refine lv_aload_n hx hb dX0_init_28 rfl (lv_at hl 0 rfl) ?_
  refine lv_bipush (v := (10 : Int32)) hx hb dX0_init_29 (by decide) ?_
  refine newK (atype := .int) (ty := .int) 0 hx hb hw3 rfl hK rfl hP hD hS hA (fun _ => rfl) (N' := 10) (by decide) rfl (Nat.le_of_ble_eq_true rfl) (Nat.le_of_ble_eq_true rfl) (Nat.le_of_ble_eq_true rfl) dX0_init_31 (fun q31 H hP hD hS => ?_)
  have hP : va_P (dC, dI) vwCl [(a0, .inr (0, [.ref q7, .ref q15, .ref q23, .null])), (q7, .inl (cI, 10, .inl (fun _ => 0))), (q15, .inl (cI, 10, .inl (fun _ => 0))), (q23, .inl (cI, 10, .inl (fun _ => 0))), (q31, .inl (cI, 10, .inl (fun _ => 0)))] H := hP
  have hD : va_D A [(a0, .inr (0, [.ref q7, .ref q15, .ref q23, .null])), (q7, .inl (cI, 10, .inl (fun _ => 0))), (q15, .inl (cI, 10, .inl (fun _ => 0))), (q23, .inl (cI, 10, .inl (fun _ => 0))), (q31, .inl (cI, 10, .inl (fun _ => 0)))] := hD
  refine va_putF (D := (dC, dI)) (ci := 0) (v := .ref q31) (ty := (.array .int)) (C := RX0) (T := TX0) (N := 4) hx hb hts hinX0 tyX0 tyX0_ok nmX0 hown hK hP hD hS 0 rfl rfl 3 (by decide) hw8 (fun _ h9 => h9) rfl hin9 rfl (by decide +kernel) rfl rfl (Nat.le_of_ble_eq_true rfl) dX0_init_33 (fun H locs hP hD hS => ?_)
  have hP : va_P (dC, dI) vwCl [(a0, .inr (0, [.ref q7, .ref q15, .ref q23, .ref q31])), (q7, .inl (cI, 10, .inl (fun _ => 0))), (q15, .inl (cI, 10, .inl (fun _ => 0))), (q23, .inl (cI, 10, .inl (fun _ => 0))), (q31, .inl (cI, 10, .inl (fun _ => 0)))] H := hP
  have hD : va_D A [(a0, .inr (0, [.ref q7, .ref q15, .ref q23, .ref q31])), (q7, .inl (cI, 10, .inl (fun _ => 0))), (q15, .inl (cI, 10, .inl (fun _ => 0))), (q23, .inl (cI, 10, .inl (fun _ => 0))), (q31, .inl (cI, 10, .inl (fun _ => 0)))] := hD
  have hP := hP.sub (ws' := wX0 cI cZ (adr [a0, q7, q15, q23, q31]) m00) [0, 1, 2, 3, 4] rfl
  have hD := hD.sub (ws' := wX0 cI cZ (adr [a0, q7, q15, q23, q31]) m00) [0, 1, 2, 3, 4] (by decide) rfl
  have hl : lv_has ls 2 [(0, .ref ((adr [a0, q7, q15, q23, q31]) 0))] := hl
  have ha0 : (adr [a0, q7, q15, q23, q31]) 0 = a0 := rfl
  generalize (adr [a0, q7, q15, q23, q31]) = a at hP hD hl ha0
  have hfX0_init_L38 : ∀ (n : Nat) (kx57 : Mem → Option (Mem)) (hkx57 : ∀ (N : Mem), kx57 N = some z → ∀ (ls : Array Slot), lv_has ls 2 [] → ∀ (H : Heap) (locs : List Loc), va_P (dC, dI) vwCl (wX0 cI cZ a (sr (sr (sr (sr (sr m00 1 (N 1)) 2 (N 2)) 3 (N 3)) 4 (N 4)) 0 (N 0))) H → va_D A (wX0 cI cZ a (sr (sr (sr (sr (sr m00 1 (N 1)) 2 (N 2)) 3 (N 3)) 4 (N 4)) 0 (N 0))) → va_S A s.heap H locs → W p l e (headSpec wsX0_init ({ frames := 1, cells := 4, slots := 40, locals := 12 } : Room)).room s m ([.ref a0] : List Value).toArray below meth c H locs 4 40 (MQ below (va_Qv (S := Nat → Nat) (fun b => b 0 = a0) (fun b t => WE (dC, dI) cI cZ (wX0 cI cZ b z) A t) A) ([.ref a0] : List Value).toArray s 4 40 A) (F0 m 57 ls [])), ∀ (N : Mem) (l1 : Int32), fX0_init_L38 m00 n kx57 N l1 = some z → ∀ (ls : Array Slot), lv_has ls 2 [(0, .ref (a 0)), (1, .int l1)] → ∀ (H : Heap) (locs : List Loc), va_P (dC, dI) vwCl (wX0 cI cZ a (sr (sr (sr (sr (sr m00 1 (N 1)) 2 (N 2)) 3 (N 3)) 4 (N 4)) 0 (N 0))) H → va_D A (wX0 cI cZ a (sr (sr (sr (sr (sr m00 1 (N 1)) 2 (N 2)) 3 (N 3)) 4 (N 4)) 0 (N 0))) → va_S A s.heap H locs → W p l e (headSpec wsX0_init ({ frames := 1, cells := 4, slots := 40, locals := 12 } : Room)).room s m ([.ref a0] : List Value).toArray below meth c H locs 4 40 (MQ below (va_Qv (S := Nat → Nat) (fun b => b 0 = a0) (fun b t => WE (dC, dI) cI cZ (wX0 cI cZ b z) A t) A) ([.ref a0] : List Value).toArray s 4 40 A) (F0 m 38 ls []) := by
    intro n
    induction n with
    | zero =>
      intro kx57 hkx57 N l1 hf ls hl H locs hP hD hS
      rw [fX0_init_L38] at hf
      cases hf
    | succ n ih =>
      intro kx57 hkx57 N l1 hf ls hl H locs hP hD hS
      rw [fX0_init_L38] at hf
      refine lv_iload_n hx hb dX0_init_38 rfl (lv_at hl 1 rfl) ?_
      refine lv_bipush (v := (10 : Int32)) hx hb dX0_init_39 (by decide) ?_
      refine lv_icmp_ge (tgt := 57) hx hb dX0_init_41 (by decide) (fun c9 => ?_) (fun c9 => ?_)
      · have hf := it_t hf c9
        exact hkx57 (sr (sr (sr (sr (sr m00 1 (N 1)) 2 (N 2)) 3 (N 3)) 4 (N 4)) 0 (N 0)) hf _ (lv_sub hl [] rfl) _ _ hP hD hS
      · have hf := it_f hf c9
        refine lv_aload_n hx hb dX0_init_44 rfl (lv_at hl 0 rfl) ?_
        refine va_get (D := (dC, dI)) (ci := 0) (v := .ref (a 1)) (C := RX0) (T := TX0) (N := 4) hx hb hts hinX0 hown hK hP 0 rfl rfl 0 (by decide) hw5 (fun _ h9 => h9) rfl dX0_init_45 ?_
        refine lv_iload_n hx hb dX0_init_48 rfl (lv_at hl 1 rfl) ?_
        refine lv_iconst (v := (1 : Int32)) hx hb dX0_init_49 (by decide) ?_
        obtain ⟨hi, hf⟩ := gd_s hf
        refine va_iast (D := (dC, dI)) (f := (N 1)) hx hb hK hP hD hS 1 0 rfl rfl (inb_in hi) dX0_init_50 (fun H locs hP hD hS => ?_)
        have hP : va_P (dC, dI) vwCl (wX0 cI cZ a (sr (sr (sr (sr (sr m00 1 (upd (N 1) l1.toNatClampNeg (1 : Int32))) 2 (N 2)) 3 (N 3)) 4 (N 4)) 0 (N 0))) H := hP
        have hD : va_D A (wX0 cI cZ a (sr (sr (sr (sr (sr m00 1 (upd (N 1) l1.toNatClampNeg (1 : Int32))) 2 (N 2)) 3 (N 3)) 4 (N 4)) 0 (N 0))) := hD
        refine lv_iinc (v := (l1 + (1 : Int32))) (lv' := [(1, .int (l1 + (1 : Int32))), (0, .ref (a 0))]) hx hb dX0_init_51 hl (k := 1) rfl rfl (by decide) rfl (fun ls hl => ?_)
        refine lv_goto (tgt := 38) hx hb dX0_init_54 (by decide) ?_
        exact ih kx57 hkx57 (sr (sr (sr (sr (sr m00 1 (upd (N 1) l1.toNatClampNeg (1 : Int32))) 2 (N 2)) 3 (N 3)) 4 (N 4)) 0 (N 0)) (l1 + (1 : Int32)) hf _ (lv_sub hl [1, 0] rfl) _ _ hP hD hS
  refine lv_iconst (v := (0 : Int32)) hx hb dX0_init_36 (by decide) ?_
  refine lv_istore_n (lv' := [(1, .int (0 : Int32)), (0, .ref (a 0))]) hx hb dX0_init_37 rfl hl (by decide) rfl (fun ls hl => ?_)
  refine hfX0_init_L38 5000 _ (fun N hf ls hl H locs hP hD hS => ?_) m00 (0 : Int32) hf _ (lv_sub hl [1, 0] rfl) _ _ hP hD hS
  have e9 := so_e hf
  subst e9
  exact W.vret hx hb hr (fun t ht hW => ⟨⟨a, rfl, ha0, WE.mk hP hD ht⟩, hS.F ht⟩) hS.2.2 dX0_init_57
set_option maxHeartbeats 4000000 in
set_option maxRecDepth 100000 in
theorem c_X3_init (l : Launch) (dC : Nat → ClassId) (dI : Nat → Nat → Nat) (cI cZ : ClassId) (a0 : Nat) (sz : Nat) (z : Mem) (hf : fX3_init = some z) : Met l yX3_init wsX3_init ({ frames := 1, cells := 1, slots := 80, locals := 12 } : Room) (va_Pc [.ref a0] (WR (dC, dI) cI cZ [(a0, .inr (3, [.int 0, .null]))] sz)) (va_Qv (S := Nat → Nat) (fun b => b 0 = a0) (fun b t => WE (dC, dI) cI cZ (wX3 cI cZ b z) (va_A [(a0, .inr (3, [.int 0, .null]))] sz) t) (va_A [(a0, .inr (3, [.int 0, .null]))] sz)) 1 80 (va_A [(a0, .inr (3, [.int 0, .null]))] sz) := by
  refine Met.ofW (cc := cX3_init) (maxL := 1) (ret := none) (by decide) rfl ?_
  intro p e s m args below meth c s₁ B hml hv
  obtain ⟨rfl, hsz, hP, hK, hD0, hNW⟩ := hv
  have hx := B.exec
  have hb := B.bytes
  have hr := B.returns
  have hts := atoms_spec (ws := wsX3_init) B.pre
  have hown : s.vm.findClass RX3 = some m.cls := findClass_of_methodNamed B.named
  have hlocks := B.notSynchronized
  have hin9 : meth.name = "<init>" := (name_of_methodNamed B.named B.method).1
  have hw0 := hts (.methodLink RX3 3 objectInit) (by decide +kernel)
  have hw1 := hts (.instanceMethod objectInit) (by decide +kernel)
  have hw2 := hts (.code objectInit ⟨#[0xb1]⟩ 1 none) (by decide +kernel)
  have hinX3 : ∀ w ∈ u_ws RX3 TX3 2, w ∈ wsX3_init := by decide +kernel
  have hw4 := hts (.fieldLink RX3 9 "GlideShelves$OrderBook" "count" "I") (by decide +kernel)
  have hw5 := hts (.arrayClass .int) (by decide +kernel)
  have hw6 := hts (.fieldLink RX3 15 "GlideShelves$OrderBook" "wants" "[I") (by decide +kernel)
  subst hsz
  have hD := hD0.self (sz := s.heap.size)
  generalize hAe : va_A [(a0, .inr (3, [.int 0, .null]))] s.heap.size = A at hD ⊢
  have hA : ∀ q : Nat, s.heap.size ≤ q → A q := fun q h => by rw [← hAe]; exact Or.inr h
  have hS : va_S A s.heap s.heap [] := va_S.rf
  have hl := lv_entry ([.ref a0]) (n := 1) (Nat.le_of_ble_eq_true rfl)
  rw [lg_entry_eq]
  generalize (lg_sl ([.ref a0]) ++ List.replicate (1 - (lg_sl ([.ref a0])).length) Slot.unset).toArray = ls at hl ⊢
  have hl : lv_has ls 1 [(0, .ref a0)] := hl
  unfold fX3_init at hf
  dsimp only at hf
  suffices hgo : ∀ (H : Heap) (locs : List Loc), va_P (dC, dI) vwCl [(a0, .inr (3, [.int 0, .null]))] H → va_D A [(a0, .inr (3, [.int 0, .null]))] → va_S A s.heap H locs → W p l e (headSpec wsX3_init ({ frames := 1, cells := 1, slots := 80, locals := 12 } : Room)).room s m ([.ref a0] : List Value).toArray below meth c H locs 0 0 (MQ below (va_Qv (S := Nat → Nat) (fun b => b 0 = a0) (fun b t => WE (dC, dI) cI cZ (wX3 cI cZ b z) A t) A) ([.ref a0] : List Value).toArray s 1 80 A) (F0 m 0 ls []) from hgo _ _ hP hD hS
  intro H locs hP hD hS
  refine lv_aload_n hx hb dX3_init_0 rfl (lv_at hl 0 rfl) ?_
  refine W.objInit hx hb hown hw0 hw1 hw2 rfl (by rw [hml]; exact hl.1) rfl dX3_init_1 (Nat.le_of_ble_eq_true rfl) (Nat.le_of_ble_eq_true rfl) ?_
  refine W.eq (g2 := F0 m 4 ls []) rfl ?_
  refine lv_aload_n hx hb dX3_init_4 rfl (lv_at hl 0 rfl) ?_
  refine lv_iconst (v := (0 : Int32)) hx hb dX3_init_5 (by decide) ?_
  refine va_put (D := (dC, dI)) (ci := 3) (v := .int (0 : Int32)) (ty := .int) (C := RX3) (T := TX3) (N := 2) hx hb hts hinX3 tyX3 tyX3_ok nmX3 hown hK hP hD hS 0 rfl rfl 0 (by decide) hw4 (fun _ h9 => h9) rfl (by decide +kernel) rfl rfl (Nat.le_of_ble_eq_true rfl) dX3_init_6 (fun H locs hP hD hS => ?_)
  have hP : va_P (dC, dI) vwCl [(a0, .inr (3, [.int (0 : Int32), .null]))] H := hP
  have hD : va_D A [(a0, .inr (3, [.int (0 : Int32), .null]))] := hD
  refine lv_aload_n hx hb dX3_init_9 rfl (lv_at hl 0 rfl) ?_
  refine lv_bipush (v := (80 : Int32)) hx hb dX3_init_10 (by decide) ?_
  refine newK (atype := .int) (ty := .int) 0 hx hb hw5 rfl hK rfl hP hD hS hA (fun _ => rfl) (N' := 80) (by decide) rfl (Nat.le_of_ble_eq_true rfl) (Nat.le_of_ble_eq_true rfl) (Nat.le_of_ble_eq_true rfl) dX3_init_12 (fun q12 H hP hD hS => ?_)
  have hP : va_P (dC, dI) vwCl [(a0, .inr (3, [.int (0 : Int32), .null])), (q12, .inl (cI, 80, .inl (fun _ => 0)))] H := hP
  have hD : va_D A [(a0, .inr (3, [.int (0 : Int32), .null])), (q12, .inl (cI, 80, .inl (fun _ => 0)))] := hD
  refine va_putF (D := (dC, dI)) (ci := 3) (v := .ref q12) (ty := (.array .int)) (C := RX3) (T := TX3) (N := 2) hx hb hts hinX3 tyX3 tyX3_ok nmX3 hown hK hP hD hS 0 rfl rfl 1 (by decide) hw6 (fun _ h9 => h9) rfl hin9 rfl (by decide +kernel) rfl rfl (Nat.le_of_ble_eq_true rfl) dX3_init_14 (fun H locs hP hD hS => ?_)
  have hP : va_P (dC, dI) vwCl [(a0, .inr (3, [.int (0 : Int32), .ref q12])), (q12, .inl (cI, 80, .inl (fun _ => 0)))] H := hP
  have hD : va_D A [(a0, .inr (3, [.int (0 : Int32), .ref q12])), (q12, .inl (cI, 80, .inl (fun _ => 0)))] := hD
  have hP := hP.sub (ws' := wX3 cI cZ (adr [a0, q12]) (sr m00 0 (upd (m00 0) 0 (0 : Int32)))) [0, 1] rfl
  have hD := hD.sub (ws' := wX3 cI cZ (adr [a0, q12]) (sr m00 0 (upd (m00 0) 0 (0 : Int32)))) [0, 1] (by decide) rfl
  have hl : lv_has ls 1 [(0, .ref ((adr [a0, q12]) 0))] := hl
  have ha0 : (adr [a0, q12]) 0 = a0 := rfl
  generalize (adr [a0, q12]) = a at hP hD hl ha0
  have e9 := so_e hf
  subst e9
  exact W.vret hx hb hr (fun t ht hW => ⟨⟨a, rfl, ha0, WE.mk hP hD ht⟩, hS.F ht⟩) hS.2.2 dX3_init_17
set_option maxHeartbeats 4000000 in
set_option maxRecDepth 100000 in
theorem c_X4_init (l : Launch) (dC : Nat → ClassId) (dI : Nat → Nat → Nat) (cI cZ : ClassId) (a0 : Nat) (sz : Nat) (z : Mem) (hf : fX4_init = some z) : Met l yX4_init wsX4_init ({ frames := 1, cells := 1, slots := 10, locals := 12 } : Room) (va_Pc [.ref a0] (WR (dC, dI) cI cZ [(a0, .inr (4, [.int 0, .int 0, .null]))] sz)) (va_Qv (S := Nat → Nat) (fun b => b 0 = a0) (fun b t => WE (dC, dI) cI cZ (wX4 cI cZ b z) (va_A [(a0, .inr (4, [.int 0, .int 0, .null]))] sz) t) (va_A [(a0, .inr (4, [.int 0, .int 0, .null]))] sz)) 1 10 (va_A [(a0, .inr (4, [.int 0, .int 0, .null]))] sz) := by
  refine Met.ofW (cc := cX4_init) (maxL := 1) (ret := none) (by decide) rfl ?_
  intro p e s m args below meth c s₁ B hml hv
  obtain ⟨rfl, hsz, hP, hK, hD0, hNW⟩ := hv
  have hx := B.exec
  have hb := B.bytes
  have hr := B.returns
  have hts := atoms_spec (ws := wsX4_init) B.pre
  have hown : s.vm.findClass RX4 = some m.cls := findClass_of_methodNamed B.named
  have hlocks := B.notSynchronized
  have hin9 : meth.name = "<init>" := (name_of_methodNamed B.named B.method).1
  have hw0 := hts (.methodLink RX4 3 objectInit) (by decide +kernel)
  have hw1 := hts (.instanceMethod objectInit) (by decide +kernel)
  have hw2 := hts (.code objectInit ⟨#[0xb1]⟩ 1 none) (by decide +kernel)
  have hinX4 : ∀ w ∈ u_ws RX4 TX4 3, w ∈ wsX4_init := by decide +kernel
  have hw4 := hts (.fieldLink RX4 11 "GlideShelves$OrderReader" "stage" "I") (by decide +kernel)
  have hw5 := hts (.fieldLink RX4 15 "GlideShelves$OrderReader" "kind" "I") (by decide +kernel)
  have hw6 := hts (.arrayClass .int) (by decide +kernel)
  have hw7 := hts (.fieldLink RX4 18 "GlideShelves$OrderReader" "numbers" "[I") (by decide +kernel)
  subst hsz
  have hD := hD0.self (sz := s.heap.size)
  generalize hAe : va_A [(a0, .inr (4, [.int 0, .int 0, .null]))] s.heap.size = A at hD ⊢
  have hA : ∀ q : Nat, s.heap.size ≤ q → A q := fun q h => by rw [← hAe]; exact Or.inr h
  have hS : va_S A s.heap s.heap [] := va_S.rf
  have hl := lv_entry ([.ref a0]) (n := 1) (Nat.le_of_ble_eq_true rfl)
  rw [lg_entry_eq]
  generalize (lg_sl ([.ref a0]) ++ List.replicate (1 - (lg_sl ([.ref a0])).length) Slot.unset).toArray = ls at hl ⊢
  have hl : lv_has ls 1 [(0, .ref a0)] := hl
  unfold fX4_init at hf
  dsimp only at hf
  suffices hgo : ∀ (H : Heap) (locs : List Loc), va_P (dC, dI) vwCl [(a0, .inr (4, [.int 0, .int 0, .null]))] H → va_D A [(a0, .inr (4, [.int 0, .int 0, .null]))] → va_S A s.heap H locs → W p l e (headSpec wsX4_init ({ frames := 1, cells := 1, slots := 10, locals := 12 } : Room)).room s m ([.ref a0] : List Value).toArray below meth c H locs 0 0 (MQ below (va_Qv (S := Nat → Nat) (fun b => b 0 = a0) (fun b t => WE (dC, dI) cI cZ (wX4 cI cZ b z) A t) A) ([.ref a0] : List Value).toArray s 1 10 A) (F0 m 0 ls []) from hgo _ _ hP hD hS
  intro H locs hP hD hS
  refine lv_aload_n hx hb dX4_init_0 rfl (lv_at hl 0 rfl) ?_
  refine W.objInit hx hb hown hw0 hw1 hw2 rfl (by rw [hml]; exact hl.1) rfl dX4_init_1 (Nat.le_of_ble_eq_true rfl) (Nat.le_of_ble_eq_true rfl) ?_
  refine W.eq (g2 := F0 m 4 ls []) rfl ?_
  refine lv_aload_n hx hb dX4_init_4 rfl (lv_at hl 0 rfl) ?_
  refine lv_iconst (v := (0 : Int32)) hx hb dX4_init_5 (by decide) ?_
  refine va_put (D := (dC, dI)) (ci := 4) (v := .int (0 : Int32)) (ty := .int) (C := RX4) (T := TX4) (N := 3) hx hb hts hinX4 tyX4 tyX4_ok nmX4 hown hK hP hD hS 0 rfl rfl 0 (by decide) hw4 (fun _ h9 => h9) rfl (by decide +kernel) rfl rfl (Nat.le_of_ble_eq_true rfl) dX4_init_6 (fun H locs hP hD hS => ?_)
  have hP : va_P (dC, dI) vwCl [(a0, .inr (4, [.int (0 : Int32), .int 0, .null]))] H := hP
  have hD : va_D A [(a0, .inr (4, [.int (0 : Int32), .int 0, .null]))] := hD
  refine lv_aload_n hx hb dX4_init_9 rfl (lv_at hl 0 rfl) ?_
  refine lv_iconst (v := (-1 : Int32)) hx hb dX4_init_10 (by decide) ?_
  refine va_put (D := (dC, dI)) (ci := 4) (v := .int (-1 : Int32)) (ty := .int) (C := RX4) (T := TX4) (N := 3) hx hb hts hinX4 tyX4 tyX4_ok nmX4 hown hK hP hD hS 0 rfl rfl 1 (by decide) hw5 (fun _ h9 => h9) rfl (by decide +kernel) rfl rfl (Nat.le_of_ble_eq_true rfl) dX4_init_11 (fun H locs hP hD hS => ?_)
  have hP : va_P (dC, dI) vwCl [(a0, .inr (4, [.int (0 : Int32), .int (-1 : Int32), .null]))] H := hP
  have hD : va_D A [(a0, .inr (4, [.int (0 : Int32), .int (-1 : Int32), .null]))] := hD
  refine lv_aload_n hx hb dX4_init_14 rfl (lv_at hl 0 rfl) ?_
  refine lv_bipush (v := (10 : Int32)) hx hb dX4_init_15 (by decide) ?_
  refine newK (atype := .int) (ty := .int) 0 hx hb hw6 rfl hK rfl hP hD hS hA (fun _ => rfl) (N' := 10) (by decide) rfl (Nat.le_of_ble_eq_true rfl) (Nat.le_of_ble_eq_true rfl) (Nat.le_of_ble_eq_true rfl) dX4_init_17 (fun q17 H hP hD hS => ?_)
  have hP : va_P (dC, dI) vwCl [(a0, .inr (4, [.int (0 : Int32), .int (-1 : Int32), .null])), (q17, .inl (cI, 10, .inl (fun _ => 0)))] H := hP
  have hD : va_D A [(a0, .inr (4, [.int (0 : Int32), .int (-1 : Int32), .null])), (q17, .inl (cI, 10, .inl (fun _ => 0)))] := hD
  refine va_putF (D := (dC, dI)) (ci := 4) (v := .ref q17) (ty := (.array .int)) (C := RX4) (T := TX4) (N := 3) hx hb hts hinX4 tyX4 tyX4_ok nmX4 hown hK hP hD hS 0 rfl rfl 2 (by decide) hw7 (fun _ h9 => h9) rfl hin9 rfl (by decide +kernel) rfl rfl (Nat.le_of_ble_eq_true rfl) dX4_init_19 (fun H locs hP hD hS => ?_)
  have hP : va_P (dC, dI) vwCl [(a0, .inr (4, [.int (0 : Int32), .int (-1 : Int32), .ref q17])), (q17, .inl (cI, 10, .inl (fun _ => 0)))] H := hP
  have hD : va_D A [(a0, .inr (4, [.int (0 : Int32), .int (-1 : Int32), .ref q17])), (q17, .inl (cI, 10, .inl (fun _ => 0)))] := hD
  have hP := hP.sub (ws' := wX4 cI cZ (adr [a0, q17]) (sr m00 0 (upd (upd (m00 0) 0 (0 : Int32)) 1 (-1 : Int32)))) [0, 1] rfl
  have hD := hD.sub (ws' := wX4 cI cZ (adr [a0, q17]) (sr m00 0 (upd (upd (m00 0) 0 (0 : Int32)) 1 (-1 : Int32)))) [0, 1] (by decide) rfl
  have hl : lv_has ls 1 [(0, .ref ((adr [a0, q17]) 0))] := hl
  have ha0 : (adr [a0, q17]) 0 = a0 := rfl
  generalize (adr [a0, q17]) = a at hP hD hl ha0
  have e9 := so_e hf
  subst e9
  exact W.vret hx hb hr (fun t ht hW => ⟨⟨a, rfl, ha0, WE.mk hP hD ht⟩, hS.F ht⟩) hS.2.2 dX4_init_22
set_option maxHeartbeats 4000000 in
set_option maxRecDepth 100000 in
theorem c_X5_init (l : Launch) (dC : Nat → ClassId) (dI : Nat → Nat → Nat) (cI cZ : ClassId) (a0 : Nat) (sz : Nat) (z : Mem) (hf : fX5_init = some z) : Met l yX5_init wsX5_init ({ frames := 2, cells := 3, slots := 73, locals := 32 } : Room) (va_Pc [.ref a0] (WR (dC, dI) cI cZ [(a0, .inr (5, [.int 0, .null, .null]))] sz)) (va_Qv (S := Nat → Nat) (fun b => b 0 = a0) (fun b t => WE (dC, dI) cI cZ (wX5 cI cZ b z) (va_A [(a0, .inr (5, [.int 0, .null, .null]))] sz) t) (va_A [(a0, .inr (5, [.int 0, .null, .null]))] sz)) 3 73 (va_A [(a0, .inr (5, [.int 0, .null, .null]))] sz) := by
  refine Met.ofW (cc := cX5_init) (maxL := 1) (ret := none) (by decide) rfl ?_
  intro p e s m args below meth c s₁ B hml hv
  obtain ⟨rfl, hsz, hP, hK, hD0, hNW⟩ := hv
  have hx := B.exec
  have hb := B.bytes
  have hr := B.returns
  have hts := atoms_spec (ws := wsX5_init) B.pre
  have hown : s.vm.findClass RX5 = some m.cls := findClass_of_methodNamed B.named
  have hlocks := B.notSynchronized
  have hin9 : meth.name = "<init>" := (name_of_methodNamed B.named B.method).1
  have hw0 := hts (.methodLink RX5 3 objectInit) (by decide +kernel)
  have hw1 := hts (.instanceMethod objectInit) (by decide +kernel)
  have hw2 := hts (.code objectInit ⟨#[0xb1]⟩ 1 none) (by decide +kernel)
  have hinX5 : ∀ w ∈ u_ws RX5 TX5 3, w ∈ wsX5_init := by decide +kernel
  have hw4 := hts (.fieldLink RX5 9 "GlideShelves$OrderText" "length" "I") (by decide +kernel)
  have hw5 := hts (.arrayClass .int) (by decide +kernel)
  have hw6 := hts (.fieldLink RX5 15 "GlideShelves$OrderText" "codes" "[I") (by decide +kernel)
  have hinX4 : ∀ w ∈ u_ws RX4 TX4 3, w ∈ wsX5_init := by decide +kernel
  have hw8 := hts (.classLink RX5 19 RX4) (by decide +kernel)
  have hw9 := hts (.instantiable RX4 3) (by decide +kernel)
  have hw10 := hts (.initialized RX4) (by decide +kernel)
  have hw11 := hts (.instanceMethod yX4_init) (by decide +kernel)
  have hw12 := hts (.fieldLink RX5 22 "GlideShelves$OrderText" "reader" "LGlideShelves$OrderReader;") (by decide +kernel)
  subst hsz
  have hD := hD0.self (sz := s.heap.size)
  generalize hAe : va_A [(a0, .inr (5, [.int 0, .null, .null]))] s.heap.size = A at hD ⊢
  have hA : ∀ q : Nat, s.heap.size ≤ q → A q := fun q h => by rw [← hAe]; exact Or.inr h
  have hS : va_S A s.heap s.heap [] := va_S.rf
  have hl := lv_entry ([.ref a0]) (n := 1) (Nat.le_of_ble_eq_true rfl)
  rw [lg_entry_eq]
  generalize (lg_sl ([.ref a0]) ++ List.replicate (1 - (lg_sl ([.ref a0])).length) Slot.unset).toArray = ls at hl ⊢
  have hl : lv_has ls 1 [(0, .ref a0)] := hl
  unfold fX5_init at hf
  dsimp only at hf
  suffices hgo : ∀ (H : Heap) (locs : List Loc), va_P (dC, dI) vwCl [(a0, .inr (5, [.int 0, .null, .null]))] H → va_D A [(a0, .inr (5, [.int 0, .null, .null]))] → va_S A s.heap H locs → W p l e (headSpec wsX5_init ({ frames := 2, cells := 3, slots := 73, locals := 32 } : Room)).room s m ([.ref a0] : List Value).toArray below meth c H locs 0 0 (MQ below (va_Qv (S := Nat → Nat) (fun b => b 0 = a0) (fun b t => WE (dC, dI) cI cZ (wX5 cI cZ b z) A t) A) ([.ref a0] : List Value).toArray s 3 73 A) (F0 m 0 ls []) from hgo _ _ hP hD hS
  intro H locs hP hD hS
  refine lv_aload_n hx hb dX5_init_0 rfl (lv_at hl 0 rfl) ?_
  refine W.objInit hx hb hown hw0 hw1 hw2 rfl (by rw [hml]; exact hl.1) rfl dX5_init_1 (Nat.le_of_ble_eq_true rfl) (Nat.le_of_ble_eq_true rfl) ?_
  refine W.eq (g2 := F0 m 4 ls []) rfl ?_
  refine lv_aload_n hx hb dX5_init_4 rfl (lv_at hl 0 rfl) ?_
  refine lv_iconst (v := (0 : Int32)) hx hb dX5_init_5 (by decide) ?_
  refine va_put (D := (dC, dI)) (ci := 5) (v := .int (0 : Int32)) (ty := .int) (C := RX5) (T := TX5) (N := 3) hx hb hts hinX5 tyX5 tyX5_ok nmX5 hown hK hP hD hS 0 rfl rfl 0 (by decide) hw4 (fun _ h9 => h9) rfl (by decide +kernel) rfl rfl (Nat.le_of_ble_eq_true rfl) dX5_init_6 (fun H locs hP hD hS => ?_)
  have hP : va_P (dC, dI) vwCl [(a0, .inr (5, [.int (0 : Int32), .null, .null]))] H := hP
  have hD : va_D A [(a0, .inr (5, [.int (0 : Int32), .null, .null]))] := hD
  refine lv_aload_n hx hb dX5_init_9 rfl (lv_at hl 0 rfl) ?_
  refine lv_bipush (v := (60 : Int32)) hx hb dX5_init_10 (by decide) ?_
  refine newK (atype := .int) (ty := .int) 0 hx hb hw5 rfl hK rfl hP hD hS hA (fun _ => rfl) (N' := 60) (by decide) rfl (Nat.le_of_ble_eq_true rfl) (Nat.le_of_ble_eq_true rfl) (Nat.le_of_ble_eq_true rfl) dX5_init_12 (fun q12 H hP hD hS => ?_)
  have hP : va_P (dC, dI) vwCl [(a0, .inr (5, [.int (0 : Int32), .null, .null])), (q12, .inl (cI, 60, .inl (fun _ => 0)))] H := hP
  have hD : va_D A [(a0, .inr (5, [.int (0 : Int32), .null, .null])), (q12, .inl (cI, 60, .inl (fun _ => 0)))] := hD
  refine va_putF (D := (dC, dI)) (ci := 5) (v := .ref q12) (ty := (.array .int)) (C := RX5) (T := TX5) (N := 3) hx hb hts hinX5 tyX5 tyX5_ok nmX5 hown hK hP hD hS 0 rfl rfl 1 (by decide) hw6 (fun _ h9 => h9) rfl hin9 rfl (by decide +kernel) rfl rfl (Nat.le_of_ble_eq_true rfl) dX5_init_14 (fun H locs hP hD hS => ?_)
  have hP : va_P (dC, dI) vwCl [(a0, .inr (5, [.int (0 : Int32), .ref q12, .null])), (q12, .inl (cI, 60, .inl (fun _ => 0)))] H := hP
  have hD : va_D A [(a0, .inr (5, [.int (0 : Int32), .ref q12, .null])), (q12, .inl (cI, 60, .inl (fun _ => 0)))] := hD
  refine lv_aload_n hx hb dX5_init_17 rfl (lv_at hl 0 rfl) ?_
  refine va_new (ci := 4) (fs := [.int 0, .int 0, .null]) (C := RX4) (T := TX4) (N := 3) hx hb hts hinX4 tyX4 tyX4_ok hown hw8 hw9 hw10 hK hP hD hS hA rfl (fun j hj => by rcases (show j = 0 ∨ j = 1 ∨ j = 2 by omega) with rfl | rfl | rfl <;> rfl) (Nat.le_of_ble_eq_true rfl) (Nat.le_of_ble_eq_true rfl) dX5_init_18 (fun q18 H hP hD hS => ?_)
  have hP : va_P (dC, dI) vwCl [(a0, .inr (5, [.int (0 : Int32), .ref q12, .null])), (q12, .inl (cI, 60, .inl (fun _ => 0))), (q18, .inr (4, [.int 0, .int 0, .null]))] H := hP
  have hD : va_D A [(a0, .inr (5, [.int (0 : Int32), .ref q12, .null])), (q12, .inl (cI, 60, .inl (fun _ => 0))), (q18, .inr (4, [.int 0, .int 0, .null]))] := hD
  refine lv_dup hx hb dX5_init_21 rfl ?_
  obtain ⟨z22, hc22, hf⟩ := bi_s hf
  have hPc := hP.sub (ws' := [(q18, .inr (4, [.int 0, .int 0, .null]))]) [2] rfl
  have hDc := hD.sub (ws' := [(q18, .inr (4, [.int 0, .int 0, .null]))]) [2] (by decide) rfl
  have hFc := va_free (wc := [(q18, .inr (4, [.int 0, .int 0, .null]))]) hD hS hA [2] rfl
  refine va_callv (va_runIN (As := []) (rest := [.ref q18, .ref a0]) ⟨hx, hb, hml, hown, hts⟩ (c_X4_init l dC dI cI cZ q18 H.size z22 hc22) ⟨va_cnB 0 hts gX5_init_X4_init_n21 rfl rfl rfl (nw74 hNW) hw10 (by decide +kernel) ⟨Nat.le_of_ble_eq_true rfl, Nat.le_of_ble_eq_true rfl⟩, rfl, hw11⟩ ⟨WR.blind, WR.pre hPc hK hDc hNW⟩ rfl rfl hl.1 rfl (lv_room (Nat.le_of_ble_eq_true rfl)) dX5_init_22 ⟨Nat.le_of_ble_eq_true rfl, Nat.le_of_ble_eq_true rfl⟩) hS (fun q _ h => hFc q h) hFc (fun b22 t H1 locs ht hvm hb22 hB hz1 hk1 hS => ?_)
  obtain ⟨hP1, hD1⟩ := hB
  rw [ht] at hP1
  try dsimp only at hb22
  obtain ⟨hPj, hDj⟩ := va_join (wr := [(a0, .inr (5, [.int (0 : Int32), .ref q12, .null])), (q12, .inl (cI, 60, .inl (fun _ => 0)))]) (w1 := (wX4 cI cZ b22 z22)) hP hD [2] [0, 1] rfl rfl (by decide) (by decide) hk1 hFc hP1 hD1
  subst hb22
  generalize H1 = H at hPj hS ⊢
  have hP : va_P (dC, dI) vwCl [(a0, .inr (5, [.int (0 : Int32), .ref q12, .null])), (q12, .inl (cI, 60, .inl (fun _ => 0))), ((b22 0), .inr (4, [.int (z22 0 0), .int (z22 0 1), .ref (b22 1)])), ((b22 1), .inl (cI, 10, .inl (z22 1)))] H := hPj
  have hD : va_D A [(a0, .inr (5, [.int (0 : Int32), .ref q12, .null])), (q12, .inl (cI, 60, .inl (fun _ => 0))), ((b22 0), .inr (4, [.int (z22 0 0), .int (z22 0 1), .ref (b22 1)])), ((b22 1), .inl (cI, 10, .inl (z22 1)))] := hDj
  refine va_putF (D := (dC, dI)) (ci := 5) (v := .ref (b22 0)) (ty := (.object "GlideShelves$OrderReader")) (C := RX5) (T := TX5) (N := 3) hx hb hts hinX5 tyX5 tyX5_ok nmX5 hown hK hP hD hS 0 rfl rfl 2 (by decide) hw12 (fun _ h9 => h9) rfl hin9 rfl (by decide +kernel) rfl rfl (Nat.le_of_ble_eq_true rfl) dX5_init_25 (fun H locs hP hD hS => ?_)
  have hP : va_P (dC, dI) vwCl [(a0, .inr (5, [.int (0 : Int32), .ref q12, .ref (b22 0)])), (q12, .inl (cI, 60, .inl (fun _ => 0))), ((b22 0), .inr (4, [.int (z22 0 0), .int (z22 0 1), .ref (b22 1)])), ((b22 1), .inl (cI, 10, .inl (z22 1)))] H := hP
  have hD : va_D A [(a0, .inr (5, [.int (0 : Int32), .ref q12, .ref (b22 0)])), (q12, .inl (cI, 60, .inl (fun _ => 0))), ((b22 0), .inr (4, [.int (z22 0 0), .int (z22 0 1), .ref (b22 1)])), ((b22 1), .inl (cI, 10, .inl (z22 1)))] := hD
  have hP := hP.sub (ws' := wX5 cI cZ (adr [a0, q12, (b22 0), (b22 1)]) (sr (sr (sr m00 2 (z22 0)) 3 (z22 1)) 0 (upd (m00 0) 0 (0 : Int32)))) [0, 1, 2, 3] rfl
  have hD := hD.sub (ws' := wX5 cI cZ (adr [a0, q12, (b22 0), (b22 1)]) (sr (sr (sr m00 2 (z22 0)) 3 (z22 1)) 0 (upd (m00 0) 0 (0 : Int32)))) [0, 1, 2, 3] (by decide) rfl
  have hl : lv_has ls 1 [(0, .ref ((adr [a0, q12, (b22 0), (b22 1)]) 0))] := hl
  have ha0 : (adr [a0, q12, (b22 0), (b22 1)]) 0 = a0 := rfl
  generalize (adr [a0, q12, (b22 0), (b22 1)]) = a at hP hD hl ha0
  have e9 := so_e hf
  subst e9
  exact W.vret hx hb hr (fun t ht hW => ⟨⟨a, rfl, ha0, WE.mk hP hD ht⟩, hS.F ht⟩) hS.2.2 dX5_init_28
