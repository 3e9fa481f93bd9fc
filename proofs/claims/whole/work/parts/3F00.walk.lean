set_option maxHeartbeats 4000000 in
set_option maxRecDepth 100000 in
theorem n_X8_append (l : Launch) (dC : Nat → ClassId) (dI : Nat → Nat → Nat) (cI cZ cS : ClassId) (f g : Nat → Option Nat) (a : Nat → Nat) (sz : Nat) (M : Mem) (a1 : Int32) (z1 : Int32) (z2 : Mem) (hf : fX8_append M a1 = some (Sum.inr z1, z2)) : Met l yX8_append wsX8_append ({ frames := 0, cells := 0, slots := 0, locals := 0 } : Room) (va_Pc [.ref (a 0), .int a1] (WR8 (dC, dI) cI cZ cS (wX8 cI cZ cS f g a M) sz)) (va_Qi (S := Unit) (fun r _ => r = z1) (fun _ t => WE (dC, dI) cI cZ (wX8 cI cZ cS f g a (sr (sr M 36 (z2 36)) 37 (z2 37))) (va_A (wX8 cI cZ cS f g a M) sz) t) (va_A (wX8 cI cZ cS f g a M) sz)) 0 0 (va_A (wX8 cI cZ cS f g a M) sz) := by
  refine Met.ofW (cc := cX8_append) (maxL := 2) (ret := (some .int)) (by decide) rfl ?_
  intro p e s m args below meth c s₁ B hml hv
  obtain ⟨rfl, hsz, hP, hK, hD0, hNW⟩ := hv
  have hx := B.exec
  have hb := B.bytes
  have hr := B.returns
  have hts := atoms_spec (ws := wsX8_append) B.pre
  have hown : s.vm.findClass RX8 = some m.cls := findClass_of_methodNamed B.named
  have hlocks := B.notSynchronized
  have hK2 : va_K (dC, dI) vwCl [(cI, .int), (cZ, .boolean)] s := hK.sub (tys' := [(cI, .int), (cZ, .boolean)]) [0, 1] rfl
  have hinX8 : ∀ w ∈ u_ws RX8 TX8 6, w ∈ wsX8_append := by decide +kernel
  have hw1 := hts (.fieldLink RX8 29 "GlideShelves" "buffer" "LGlideShelves$OrderText;") (by decide +kernel)
  have hinX5 : ∀ w ∈ u_ws RX5 TX5 3, w ∈ wsX8_append := by decide +kernel
  subst hsz
  have hD := hD0.self (sz := s.heap.size)
  generalize hAe : va_A (wX8 cI cZ cS f g a M) s.heap.size = A at hD ⊢
  have hA : ∀ q : Nat, s.heap.size ≤ q → A q := fun q h => by rw [← hAe]; exact Or.inr h
  have hS : va_S A s.heap s.heap [] := va_S.rf
  have hfX8_append_B12 : ∀ (N : Mem), fX8_append_B12 M  N = some (Sum.inr z1, z2) → ∀ (ls : Array Slot), lv_has ls 2 [] → ∀ (H : Heap) (locs : List Loc), va_P (dC, dI) vwCl (wX8 cI cZ cS f g a (sr (sr M 36 (N 36)) 37 (N 37))) H → va_D A (wX8 cI cZ cS f g a (sr (sr M 36 (N 36)) 37 (N 37))) → va_S A s.heap H locs → W p l e (headSpec wsX8_append ({ frames := 0, cells := 0, slots := 0, locals := 0 } : Room)).room s m ([.ref (a 0), .int a1] : List Value).toArray below meth c H locs 0 0 (MQ below (va_Qi (S := Unit) (fun r _ => r = z1) (fun _ t => WE (dC, dI) cI cZ (wX8 cI cZ cS f g a (sr (sr M 36 (z2 36)) 37 (z2 37))) A t) A) ([.ref (a 0), .int a1] : List Value).toArray s 0 0 A) (F0 m 12 ls []) := by
    intro  N hf ls hl H locs hP hD hS
    unfold fX8_append_B12 at hf
    have e9 := so_e hf
    cases e9
  have hl := lv_entry ([.ref (a 0), .int a1]) (n := 2) (Nat.le_of_ble_eq_true rfl)
  rw [lg_entry_eq]
  generalize (lg_sl ([.ref (a 0), .int a1]) ++ List.replicate (2 - (lg_sl ([.ref (a 0), .int a1])).length) Slot.unset).toArray = ls at hl ⊢
  have hl : lv_has ls 2 [(0, .ref (a 0)), (1, .int a1)] := hl
  unfold fX8_append at hf
  suffices hgo : ∀ (H : Heap) (locs : List Loc), va_P (dC, dI) vwCl (wX8 cI cZ cS f g a M) H → va_D A (wX8 cI cZ cS f g a M) → va_S A s.heap H locs → W p l e (headSpec wsX8_append ({ frames := 0, cells := 0, slots := 0, locals := 0 } : Room)).room s m ([.ref (a 0), .int a1] : List Value).toArray below meth c H locs 0 0 (MQ below (va_Qi (S := Unit) (fun r _ => r = z1) (fun _ t => WE (dC, dI) cI cZ (wX8 cI cZ cS f g a (sr (sr M 36 (z2 36)) 37 (z2 37))) A t) A) ([.ref (a 0), .int a1] : List Value).toArray s 0 0 A) (F0 m 0 ls []) from hgo _ _ hP hD hS
  intro H locs hP hD hS
  refine lv_iload_n hx hb dX8_append_0 rfl (lv_at hl 1 rfl) ?_
  refine lv_bipush (v := (33 : Int32)) hx hb dX8_append_1 (by decide) ?_
  refine lv_icmp_lt (tgt := 12) hx hb dX8_append_3 (by decide) (fun c9 => ?_) (fun c9 => ?_)
  · have hf := it_t hf c9
    exact hfX8_append_B12  M hf _ (lv_sub hl [] rfl) _ _ hP hD hS
  · have hf := it_f hf c9
    refine lv_iload_n hx hb dX8_append_6 rfl (lv_at hl 1 rfl) ?_
    refine lv_bipush (v := (126 : Int32)) hx hb dX8_append_7 (by decide) ?_
    refine lv_icmp_le (tgt := 22) hx hb dX8_append_9 (by decide) (fun c9 => ?_) (fun c9 => ?_)
    · have hf := it_t hf c9
      refine lv_aload_n hx hb dX8_append_22 rfl (lv_at hl 0 rfl) ?_
      refine va_get (D := (dC, dI)) (ci := 8) (v := .ref (a 36)) (C := RX8) (T := TX8) (N := 6) hx hb hts hinX8 hown hK hP 0 rfl rfl 3 (by decide) hw1 (fun _ h9 => h9) rfl dX8_append_23 ?_
      refine va_getN (D := (dC, dI)) (ci := 5) (v := .int (M 36 0)) (C := RX5) (T := TX5) (N := 3) hx hb hts hinX5 hown hK hP 36 rfl rfl 0 (by decide) (nw8 hNW) (fun _ h9 => h9) rfl dX8_append_26 ?_
      refine lv_bipush (v := (60 : Int32)) hx hb dX8_append_29 (by decide) ?_
      refine lv_icmp_lt (tgt := 44) hx hb dX8_append_31 (by decide) (fun c9 => ?_) (fun c9 => ?_)
      · have hf := it_t hf c9
        refine lv_aload_n hx hb dX8_append_44 rfl (lv_at hl 0 rfl) ?_
        refine va_get (D := (dC, dI)) (ci := 8) (v := .ref (a 36)) (C := RX8) (T := TX8) (N := 6) hx hb hts hinX8 hown hK hP 0 rfl rfl 3 (by decide) hw1 (fun _ h9 => h9) rfl dX8_append_45 ?_
        refine va_getN (D := (dC, dI)) (ci := 5) (v := .ref (a 37)) (C := RX5) (T := TX5) (N := 3) hx hb hts hinX5 hown hK hP 36 rfl rfl 1 (by decide) (nw12 hNW) (fun _ h9 => h9) rfl dX8_append_48 ?_
        refine lv_aload_n hx hb dX8_append_51 rfl (lv_at hl 0 rfl) ?_
        refine va_get (D := (dC, dI)) (ci := 8) (v := .ref (a 36)) (C := RX8) (T := TX8) (N := 6) hx hb hts hinX8 hown hK hP 0 rfl rfl 3 (by decide) hw1 (fun _ h9 => h9) rfl dX8_append_52 ?_
        refine va_getN (D := (dC, dI)) (ci := 5) (v := .int (M 36 0)) (C := RX5) (T := TX5) (N := 3) hx hb hts hinX5 hown hK hP 36 rfl rfl 0 (by decide) (nw8 hNW) (fun _ h9 => h9) rfl dX8_append_55 ?_
        refine lv_iload_n hx hb dX8_append_58 rfl (lv_at hl 1 rfl) ?_
        obtain ⟨hi, hf⟩ := gd_s hf
        refine va_iast (D := (dC, dI)) (f := (M 37)) hx hb hK hP hD hS 37 0 rfl rfl (inb_in hi) dX8_append_59 (fun H locs hP hD hS => ?_)
        have hP : va_P (dC, dI) vwCl (wX8 cI cZ cS f g a (sr M 37 (upd (M 37) (M 36 0).toNatClampNeg a1))) H := hP
        have hD : va_D A (wX8 cI cZ cS f g a (sr M 37 (upd (M 37) (M 36 0).toNatClampNeg a1))) := hD
        refine lv_aload_n hx hb dX8_append_60 rfl (lv_at hl 0 rfl) ?_
        refine va_get (D := (dC, dI)) (ci := 8) (v := .ref (a 36)) (C := RX8) (T := TX8) (N := 6) hx hb hts hinX8 hown hK hP 0 rfl rfl 3 (by decide) hw1 (fun _ h9 => h9) rfl dX8_append_61 ?_
        refine lv_dup hx hb dX8_append_64 rfl ?_
        refine va_getN (D := (dC, dI)) (ci := 5) (v := .int (M 36 0)) (C := RX5) (T := TX5) (N := 3) hx hb hts hinX5 hown hK hP 36 rfl rfl 0 (by decide) (nw8 hNW) (fun _ h9 => h9) rfl dX8_append_65 ?_
        refine lv_iconst (v := (1 : Int32)) hx hb dX8_append_68 (by decide) ?_
        refine lv_iadd hx hb dX8_append_69 ?_
        refine va_putN (D := (dC, dI)) (ci := 5) (v := .int ((M 36 0) + (1 : Int32))) (ty := .int) (C := RX5) (T := TX5) (N := 3) hx hb hts hinX5 tyX5 tyX5_ok nmX5 hown hK hP hD hS 36 rfl rfl 0 (by decide) (nw8 hNW) (fun _ h9 => h9) rfl (by decide +kernel) rfl rfl (Nat.le_of_ble_eq_true rfl) dX8_append_70 (fun H locs hP hD hS => ?_)
        have hP : va_P (dC, dI) vwCl (wX8 cI cZ cS f g a (sr (sr M 36 (upd (M 36) 0 ((M 36 0) + (1 : Int32)))) 37 (upd (M 37) (M 36 0).toNatClampNeg a1))) H := hP
        have hD : va_D A (wX8 cI cZ cS f g a (sr (sr M 36 (upd (M 36) 0 ((M 36 0) + (1 : Int32)))) 37 (upd (M 37) (M 36 0).toNatClampNeg a1))) := hD
        refine lv_aload_n hx hb dX8_append_73 rfl (lv_at hl 0 rfl) ?_
        refine va_get (D := (dC, dI)) (ci := 8) (v := .ref (a 36)) (C := RX8) (T := TX8) (N := 6) hx hb hts hinX8 hown hK hP 0 rfl rfl 3 (by decide) hw1 (fun _ h9 => h9) rfl dX8_append_74 ?_
        refine va_getN (D := (dC, dI)) (ci := 5) (v := .int ((M 36 0) + (1 : Int32))) (C := RX5) (T := TX5) (N := 3) hx hb hts hinX5 hown hK hP 36 rfl rfl 0 (by decide) (nw8 hNW) (fun _ h9 => h9) rfl dX8_append_77 ?_
        have e9 := so_e hf
        cases e9
        exact W.iret hx hb hr (fun t ht hW => ⟨⟨_, (), rfl, rfl, WE.mk hP hD ht⟩, hS.F ht⟩) hS.2.2 dX8_append_80
      · have hf := it_f hf c9
        have e9 := so_e hf
        cases e9
    · have hf := it_f hf c9
      exact hfX8_append_B12  M hf _ (lv_sub hl [] rfl) _ _ hP hD hS
set_option maxHeartbeats 4000000 in
set_option maxRecDepth 100000 in
theorem t_X8_append (l : Launch) (hst : l.stackTraces = false) (dC : Nat → ClassId) (dI : Nat → Nat → Nat) (cI cZ cS : ClassId) (f g : Nat → Option Nat) (a : Nat → Nat) (sz : Nat) (M : Mem) (a1 : Int32) (E : String) (z2 : Mem) (hf : fX8_append M a1 = some (Sum.inl E, z2)) : vx_Met l yX8_append wsX8_append ({ frames := 6, cells := 1, slots := 6, locals := 110 } : Room) (va_Pc [.ref (a 0), .int a1] (T8 (dC, dI) cI cZ cS (wX8 cI cZ cS f g a M) sz)) (fun _ _ _ _ => False) (vx_X (S := Unit) (fun _ => True) (fun E' _ t => E' = E ∧ WE (dC, dI) cI cZ (wX8 cI cZ cS f g a (sr (sr M 36 (z2 36)) 37 (z2 37))) (va_A (wX8 cI cZ cS f g a M) sz) t) (va_A (wX8 cI cZ cS f g a M) sz)) 1 6 (va_A (wX8 cI cZ cS f g a M) sz) := by
  refine vx_ofW (cc := cX8_append) (maxL := 2) (ret := (some .int)) (by decide) rfl ?_
  intro p e s m args below meth c s₁ B hml htab hv
  obtain ⟨rfl, hsz, hP, hK, hD0, hNW, hEX⟩ := hv
  have hx := B.exec
  have hb := B.bytes
  have hr := B.returns
  have hts := atoms_spec (ws := wsX8_append) B.pre
  have hown : s.vm.findClass RX8 = some m.cls := findClass_of_methodNamed B.named
  have hlocks := B.notSynchronized
  have hK2 : va_K (dC, dI) vwCl [(cI, .int), (cZ, .boolean)] s := hK.sub (tys' := [(cI, .int), (cZ, .boolean)]) [0, 1] rfl
  have hw0 := hts (.classLink RX8 174 "java/lang/IllegalArgumentException") (by decide +kernel)
  have hw1 := hts (.initialized "java/lang/IllegalArgumentException") (by decide +kernel)
  have hsuf178 : ∀ w ∈ (vx_atS RX8 178 "java/lang/IllegalArgumentException" ["java/lang/RuntimeException", "java/lang/Exception"]).filter goodWord, w.before _ s = true := fun w h => hts w (List.mem_cons_of_mem _ (List.mem_append_left _ (List.mem_append_right _ h)))
  have hinX8 : ∀ w ∈ u_ws RX8 TX8 6, w ∈ wsX8_append := by decide +kernel
  have hw4 := hts (.fieldLink RX8 29 "GlideShelves" "buffer" "LGlideShelves$OrderText;") (by decide +kernel)
  have hinX5 : ∀ w ∈ u_ws RX5 TX5 3, w ∈ wsX8_append := by decide +kernel
  have hw6 := hts (.classLink RX8 54 "java/lang/IllegalStateException") (by decide +kernel)
  have hw7 := hts (.initialized "java/lang/IllegalStateException") (by decide +kernel)
  have hsuf58 : ∀ w ∈ (vx_atS RX8 58 "java/lang/IllegalStateException" ["java/lang/RuntimeException", "java/lang/Exception"]).filter goodWord, w.before _ s = true := fun w h => hts w (List.mem_cons_of_mem _ (List.mem_append_right _ h))
  subst hsz
  have hD := hD0.self (sz := s.heap.size)
  generalize hAe : va_A (wX8 cI cZ cS f g a M) s.heap.size = A at hD hEX ⊢
  have hA : ∀ q : Nat, s.heap.size ≤ q → A q := fun q h => by rw [← hAe]; exact Or.inr h
  have hS : va_S A s.heap s.heap [] := va_S.rf
  have hfX8_append_B12 : ∀ (N : Mem), fX8_append_B12 M  N = some (Sum.inl E, z2) → ∀ (ls : Array Slot), lv_has ls 2 [] → ∀ (H : Heap) (locs : List Loc), va_P (dC, dI) vwCl (wX8 cI cZ cS f g a (sr (sr M 36 (N 36)) 37 (N 37))) H → va_D A (wX8 cI cZ cS f g a (sr (sr M 36 (N 36)) 37 (N 37))) → va_S A s.heap H locs → W p l e (headSpec wsX8_append ({ frames := 6, cells := 1, slots := 6, locals := 110 } : Room)).room s m ([.ref (a 0), .int a1] : List Value).toArray below meth c H locs 0 0 (vx_MQ below (fun _ _ _ _ => False) (vx_X (S := Unit) (fun _ => True) (fun E' _ t => E' = E ∧ WE (dC, dI) cI cZ (wX8 cI cZ cS f g a (sr (sr M 36 (z2 36)) 37 (z2 37))) A t) A) ([.ref (a 0), .int a1] : List Value).toArray s 1 6 A) (F0 m 12 ls []) := by
    intro  N hf ls hl H locs hP hD hS
    unfold fX8_append_B12 at hf
    have e9 := so_e hf
    cases e9
    obtain ⟨sa, hsa⟩ := hEX.2.2 (RX8, 242, "the code is not 33 to 126") (List.mem_of_getElem? (i := 12) rfl)
    exact vx_throwS (cls := "java/lang/IllegalArgumentException") (text := "the code is not 33 to 126") (names := ["java/lang/RuntimeException", "java/lang/Exception"]) (ik := 174) (is := 242) (ic := 178) (sa := sa) hx hb hst hown (by decide +kernel) (by decide +kernel) hw0 hw1 hsa (hat_178 hsuf178 hNW) (by decide +kernel) hEX.1 hEX.2.1 hS (hl.1.trans hml.symm) dX8_append_12 dX8_append_15 dX8_append_16 dX8_append_18 dX8_append_21 (fun x h => (htab x h).elim) (by decide) (by decide) (Nat.le_of_ble_eq_true rfl) (Nat.le_of_ble_eq_true rfl) hlocks (fun t hal hz hk => ⟨(), trivial, ⟨rfl, WE.th hP hD hz hk⟩, S_ext hS hz hk⟩) hS.2.2 (Nat.le_of_ble_eq_true rfl) (Nat.le_of_ble_eq_true rfl)
  have hl := lv_entry ([.ref (a 0), .int a1]) (n := 2) (Nat.le_of_ble_eq_true rfl)
  rw [lg_entry_eq]
  generalize (lg_sl ([.ref (a 0), .int a1]) ++ List.replicate (2 - (lg_sl ([.ref (a 0), .int a1])).length) Slot.unset).toArray = ls at hl ⊢
  have hl : lv_has ls 2 [(0, .ref (a 0)), (1, .int a1)] := hl
  unfold fX8_append at hf
  suffices hgo : ∀ (H : Heap) (locs : List Loc), va_P (dC, dI) vwCl (wX8 cI cZ cS f g a M) H → va_D A (wX8 cI cZ cS f g a M) → va_S A s.heap H locs → W p l e (headSpec wsX8_append ({ frames := 6, cells := 1, slots := 6, locals := 110 } : Room)).room s m ([.ref (a 0), .int a1] : List Value).toArray below meth c H locs 0 0 (vx_MQ below (fun _ _ _ _ => False) (vx_X (S := Unit) (fun _ => True) (fun E' _ t => E' = E ∧ WE (dC, dI) cI cZ (wX8 cI cZ cS f g a (sr (sr M 36 (z2 36)) 37 (z2 37))) A t) A) ([.ref (a 0), .int a1] : List Value).toArray s 1 6 A) (F0 m 0 ls []) from hgo _ _ hP hD hS
  intro H locs hP hD hS
  refine lv_iload_n hx hb dX8_append_0 rfl (lv_at hl 1 rfl) ?_
  refine lv_bipush (v := (33 : Int32)) hx hb dX8_append_1 (by decide) ?_
  refine lv_icmp_lt (tgt := 12) hx hb dX8_append_3 (by decide) (fun c9 => ?_) (fun c9 => ?_)
  · have hf := it_t hf c9
    exact hfX8_append_B12  M hf _ (lv_sub hl [] rfl) _ _ hP hD hS
  · have hf := it_f hf c9
    refine lv_iload_n hx hb dX8_append_6 rfl (lv_at hl 1 rfl) ?_
    refine lv_bipush (v := (126 : Int32)) hx hb dX8_append_7 (by decide) ?_
    refine lv_icmp_le (tgt := 22) hx hb dX8_append_9 (by decide) (fun c9 => ?_) (fun c9 => ?_)
    · have hf := it_t hf c9
      refine lv_aload_n hx hb dX8_append_22 rfl (lv_at hl 0 rfl) ?_
      refine va_get (D := (dC, dI)) (ci := 8) (v := .ref (a 36)) (C := RX8) (T := TX8) (N := 6) hx hb hts hinX8 hown hK hP 0 rfl rfl 3 (by decide) hw4 (fun _ h9 => h9) rfl dX8_append_23 ?_
      refine va_getN (D := (dC, dI)) (ci := 5) (v := .int (M 36 0)) (C := RX5) (T := TX5) (N := 3) hx hb hts hinX5 hown hK hP 36 rfl rfl 0 (by decide) (nw8 hNW) (fun _ h9 => h9) rfl dX8_append_26 ?_
      refine lv_bipush (v := (60 : Int32)) hx hb dX8_append_29 (by decide) ?_
      refine lv_icmp_lt (tgt := 44) hx hb dX8_append_31 (by decide) (fun c9 => ?_) (fun c9 => ?_)
      · have hf := it_t hf c9
        refine lv_aload_n hx hb dX8_append_44 rfl (lv_at hl 0 rfl) ?_
        refine va_get (D := (dC, dI)) (ci := 8) (v := .ref (a 36)) (C := RX8) (T := TX8) (N := 6) hx hb hts hinX8 hown hK hP 0 rfl rfl 3 (by decide) hw4 (fun _ h9 => h9) rfl dX8_append_45 ?_
        refine va_getN (D := (dC, dI)) (ci := 5) (v := .ref (a 37)) (C := RX5) (T := TX5) (N := 3) hx hb hts hinX5 hown hK hP 36 rfl rfl 1 (by decide) (nw12 hNW) (fun _ h9 => h9) rfl dX8_append_48 ?_
        refine lv_aload_n hx hb dX8_append_51 rfl (lv_at hl 0 rfl) ?_
        refine va_get (D := (dC, dI)) (ci := 8) (v := .ref (a 36)) (C := RX8) (T := TX8) (N := 6) hx hb hts hinX8 hown hK hP 0 rfl rfl 3 (by decide) hw4 (fun _ h9 => h9) rfl dX8_append_52 ?_
        refine va_getN (D := (dC, dI)) (ci := 5) (v := .int (M 36 0)) (C := RX5) (T := TX5) (N := 3) hx hb hts hinX5 hown hK hP 36 rfl rfl 0 (by decide) (nw8 hNW) (fun _ h9 => h9) rfl dX8_append_55 ?_
        refine lv_iload_n hx hb dX8_append_58 rfl (lv_at hl 1 rfl) ?_
        obtain ⟨hi, hf⟩ := gd_s hf
        refine va_iast (D := (dC, dI)) (f := (M 37)) hx hb hK hP hD hS 37 0 rfl rfl (inb_in hi) dX8_append_59 (fun H locs hP hD hS => ?_)
        have hP : va_P (dC, dI) vwCl (wX8 cI cZ cS f g a (sr M 37 (upd (M 37) (M 36 0).toNatClampNeg a1))) H := hP
        have hD : va_D A (wX8 cI cZ cS f g a (sr M 37 (upd (M 37) (M 36 0).toNatClampNeg a1))) := hD
        refine lv_aload_n hx hb dX8_append_60 rfl (lv_at hl 0 rfl) ?_
        refine va_get (D := (dC, dI)) (ci := 8) (v := .ref (a 36)) (C := RX8) (T := TX8) (N := 6) hx hb hts hinX8 hown hK hP 0 rfl rfl 3 (by decide) hw4 (fun _ h9 => h9) rfl dX8_append_61 ?_
        refine lv_dup hx hb dX8_append_64 rfl ?_
        refine va_getN (D := (dC, dI)) (ci := 5) (v := .int (M 36 0)) (C := RX5) (T := TX5) (N := 3) hx hb hts hinX5 hown hK hP 36 rfl rfl 0 (by decide) (nw8 hNW) (fun _ h9 => h9) rfl dX8_append_65 ?_
        refine lv_iconst (v := (1 : Int32)) hx hb dX8_append_68 (by decide) ?_
        refine lv_iadd hx hb dX8_append_69 ?_
        refine va_putN (D := (dC, dI)) (ci := 5) (v := .int ((M 36 0) + (1 : Int32))) (ty := .int) (C := RX5) (T := TX5) (N := 3) hx hb hts hinX5 tyX5 tyX5_ok nmX5 hown hK hP hD hS 36 rfl rfl 0 (by decide) (nw8 hNW) (fun _ h9 => h9) rfl (by decide +kernel) rfl rfl (Nat.le_of_ble_eq_true rfl) dX8_append_70 (fun H locs hP hD hS => ?_)
        have hP : va_P (dC, dI) vwCl (wX8 cI cZ cS f g a (sr (sr M 36 (upd (M 36) 0 ((M 36 0) + (1 : Int32)))) 37 (upd (M 37) (M 36 0).toNatClampNeg a1))) H := hP
        have hD : va_D A (wX8 cI cZ cS f g a (sr (sr M 36 (upd (M 36) 0 ((M 36 0) + (1 : Int32)))) 37 (upd (M 37) (M 36 0).toNatClampNeg a1))) := hD
        refine lv_aload_n hx hb dX8_append_73 rfl (lv_at hl 0 rfl) ?_
        refine va_get (D := (dC, dI)) (ci := 8) (v := .ref (a 36)) (C := RX8) (T := TX8) (N := 6) hx hb hts hinX8 hown hK hP 0 rfl rfl 3 (by decide) hw4 (fun _ h9 => h9) rfl dX8_append_74 ?_
        refine va_getN (D := (dC, dI)) (ci := 5) (v := .int ((M 36 0) + (1 : Int32))) (C := RX5) (T := TX5) (N := 3) hx hb hts hinX5 hown hK hP 36 rfl rfl 0 (by decide) (nw8 hNW) (fun _ h9 => h9) rfl dX8_append_77 ?_
        have e9 := so_e hf
        cases e9
      · have hf := it_f hf c9
        have e9 := so_e hf
        cases e9
        obtain ⟨sa, hsa⟩ := hEX.2.2 (RX8, 244, "the buffer has 60 characters") (List.mem_of_getElem? (i := 13) rfl)
        exact vx_throwS (cls := "java/lang/IllegalStateException") (text := "the buffer has 60 characters") (names := ["java/lang/RuntimeException", "java/lang/Exception"]) (ik := 54) (is := 244) (ic := 58) (sa := sa) hx hb hst hown (by decide +kernel) (by decide +kernel) hw6 hw7 hsa (hat_58 hsuf58 hNW) (by decide +kernel) hEX.1 hEX.2.1 hS (hl.1.trans hml.symm) dX8_append_34 dX8_append_37 dX8_append_38 dX8_append_40 dX8_append_43 (fun x h => (htab x h).elim) (by decide) (by decide) (Nat.le_of_ble_eq_true rfl) (Nat.le_of_ble_eq_true rfl) hlocks (fun t hal hz hk => ⟨(), trivial, ⟨rfl, WE.th hP hD hz hk⟩, S_ext hS hz hk⟩) hS.2.2 (Nat.le_of_ble_eq_true rfl) (Nat.le_of_ble_eq_true rfl)
    · have hf := it_f hf c9
      exact hfX8_append_B12  M hf _ (lv_sub hl [] rfl) _ _ hP hD hS
set_option maxHeartbeats 4000000 in
set_option maxRecDepth 100000 in
theorem c_X8_clearBuffer (l : Launch) (dC : Nat → ClassId) (dI : Nat → Nat → Nat) (cI cZ cS : ClassId) (f g : Nat → Option Nat) (a : Nat → Nat) (sz : Nat) (M : Mem) (z : Int32 × Mem) (hf : fX8_clearBuffer M  = some z) : Met l yX8_clearBuffer wsX8_clearBuffer ({ frames := 0, cells := 0, slots := 0, locals := 0 } : Room) (va_Pc [.ref (a 0)] (WR8 (dC, dI) cI cZ cS (wX8 cI cZ cS f g a M) sz)) (va_Qi (S := Unit) (fun r _ => r = z.1) (fun _ t => WE (dC, dI) cI cZ (wX8 cI cZ cS f g a (sr M 36 (z.2 36))) (va_A (wX8 cI cZ cS f g a M) sz) t) (va_A (wX8 cI cZ cS f g a M) sz)) 0 0 (va_A (wX8 cI cZ cS f g a M) sz) := by
  refine Met.ofW (cc := cX8_clearBuffer) (maxL := 2) (ret := (some .int)) (by decide) rfl ?_
  intro p e s m args below meth c s₁ B hml hv
  obtain ⟨rfl, hsz, hP, hK, hD0, hNW⟩ := hv
  have hK2 : va_K (dC, dI) vwCl [(cI, .int), (cZ, .boolean)] s := hK.sub (tys' := [(cI, .int), (cZ, .boolean)]) [0, 1] rfl
  have hx := B.exec
  have hb := B.bytes
  have hr := B.returns
  have hts := atoms_spec (ws := wsX8_clearBuffer) B.pre
  have hown : s.vm.findClass RX8 = some m.cls := findClass_of_methodNamed B.named
  have hlocks := B.notSynchronized
  have hinX8 : ∀ w ∈ u_ws RX8 TX8 6, w ∈ wsX8_clearBuffer := by decide +kernel
  have hw1 := hts (.fieldLink RX8 29 "GlideShelves" "buffer" "LGlideShelves$OrderText;") (by decide +kernel)
  have hinX5 : ∀ w ∈ u_ws RX5 TX5 3, w ∈ wsX8_clearBuffer := by decide +kernel
  subst hsz
  have hD := hD0.self (sz := s.heap.size)
  generalize hAe : va_A (wX8 cI cZ cS f g a M) s.heap.size = A at hD ⊢
  have hA : ∀ q : Nat, s.heap.size ≤ q → A q := fun q h => by rw [← hAe]; exact Or.inr h
  have hS : va_S A s.heap s.heap [] := va_S.rf
  have hl := lv_entry ([.ref (a 0)]) (n := 2) (Nat.le_of_ble_eq_true rfl)
  rw [lg_entry_eq]
  generalize (lg_sl ([.ref (a 0)]) ++ List.replicate (2 - (lg_sl ([.ref (a 0)])).length) Slot.unset).toArray = ls at hl ⊢
  have hl : lv_has ls 2 [(0, .ref (a 0))] := hl
  unfold fX8_clearBuffer at hf
  suffices hgo : ∀ (H : Heap) (locs : List Loc), va_P (dC, dI) vwCl (wX8 cI cZ cS f g a M) H → va_D A (wX8 cI cZ cS f g a M) → va_S A s.heap H locs → W p l e (headSpec wsX8_clearBuffer ({ frames := 0, cells := 0, slots := 0, locals := 0 } : Room)).room s m ([.ref (a 0)] : List Value).toArray below meth c H locs 0 0 (MQ below (va_Qi (S := Unit) (fun r _ => r = z.1) (fun _ t => WE (dC, dI) cI cZ (wX8 cI cZ cS f g a (sr M 36 (z.2 36))) A t) A) ([.ref (a 0)] : List Value).toArray s 0 0 A) (F0 m 0 ls []) from hgo _ _ hP hD hS
  intro H locs hP hD hS
  refine lv_aload_n hx hb dX8_clearBuffer_0 rfl (lv_at hl 0 rfl) ?_
  refine va_get (D := (dC, dI)) (ci := 8) (v := .ref (a 36)) (C := RX8) (T := TX8) (N := 6) hx hb hts hinX8 hown hK hP 0 rfl rfl 3 (by decide) hw1 (fun _ h9 => h9) rfl dX8_clearBuffer_1 ?_
  refine va_getN (D := (dC, dI)) (ci := 5) (v := .int (M 36 0)) (C := RX5) (T := TX5) (N := 3) hx hb hts hinX5 hown hK hP 36 rfl rfl 0 (by decide) (nw8 hNW) (fun _ h9 => h9) rfl dX8_clearBuffer_4 ?_
  refine lv_istore_n (lv' := [(1, .int (M 36 0)), (0, .ref (a 0))]) hx hb dX8_clearBuffer_7 rfl hl (by decide) rfl (fun ls hl => ?_)
  refine lv_aload_n hx hb dX8_clearBuffer_8 rfl (lv_at hl 1 rfl) ?_
  refine va_get (D := (dC, dI)) (ci := 8) (v := .ref (a 36)) (C := RX8) (T := TX8) (N := 6) hx hb hts hinX8 hown hK hP 0 rfl rfl 3 (by decide) hw1 (fun _ h9 => h9) rfl dX8_clearBuffer_9 ?_
  refine lv_iconst (v := (0 : Int32)) hx hb dX8_clearBuffer_12 (by decide) ?_
  refine va_putN (D := (dC, dI)) (ci := 5) (v := .int (0 : Int32)) (ty := .int) (C := RX5) (T := TX5) (N := 3) hx hb hts hinX5 tyX5 tyX5_ok nmX5 hown hK hP hD hS 36 rfl rfl 0 (by decide) (nw8 hNW) (fun _ h9 => h9) rfl (by decide +kernel) rfl rfl (Nat.le_of_ble_eq_true rfl) dX8_clearBuffer_13 (fun H locs hP hD hS => ?_)
  have hP : va_P (dC, dI) vwCl (wX8 cI cZ cS f g a (sr M 36 (upd (M 36) 0 (0 : Int32)))) H := hP
  have hD : va_D A (wX8 cI cZ cS f g a (sr M 36 (upd (M 36) 0 (0 : Int32)))) := hD
  refine lv_iload_n hx hb dX8_clearBuffer_16 rfl (lv_at hl 0 rfl) ?_
  have e9 := so_e hf
  subst e9
  exact W.iret (v := (M 36 0)) hx hb hr (fun t ht hW => ⟨⟨(M 36 0), (), rfl, rfl, WE.mk hP hD ht⟩, hS.F ht⟩) hS.2.2 dX8_clearBuffer_17
set_option maxHeartbeats 4000000 in
set_option maxRecDepth 100000 in
theorem c_X8_firstError (l : Launch) (dC : Nat → ClassId) (dI : Nat → Nat → Nat) (cI cZ cS : ClassId) (f g : Nat → Option Nat) (a : Nat → Nat) (sz : Nat) (M : Mem) (z : Int32 × Mem) (hf : fX8_firstError M  = some z) : Met l yX8_firstError wsX8_firstError ({ frames := 3, cells := 0, slots := 0, locals := 64 } : Room) (va_Pc [.ref (a 0)] (WR8 (dC, dI) cI cZ cS (wX8 cI cZ cS f g a M) sz)) (va_Qi (S := Unit) (fun r _ => r = z.1) (fun _ t => WE (dC, dI) cI cZ (wX8 cI cZ cS f g a (sr (sr M 38 (z.2 38)) 39 (z.2 39))) (va_A (wX8 cI cZ cS f g a M) sz) t) (va_A (wX8 cI cZ cS f g a M) sz)) 0 0 (va_A (wX8 cI cZ cS f g a M) sz) := by
  refine Met.ofW (cc := cX8_firstError) (maxL := 1) (ret := (some .int)) (by decide) rfl ?_
  intro p e s m args below meth c s₁ B hml hv
  obtain ⟨rfl, hsz, hP, hK, hD0, hNW⟩ := hv
  have hK2 : va_K (dC, dI) vwCl [(cI, .int), (cZ, .boolean)] s := hK.sub (tys' := [(cI, .int), (cZ, .boolean)]) [0, 1] rfl
  have hx := B.exec
  have hb := B.bytes
  have hr := B.returns
  have hts := atoms_spec (ws := wsX8_firstError) B.pre
  have hown : s.vm.findClass RX8 = some m.cls := findClass_of_methodNamed B.named
  have hlocks := B.notSynchronized
  have hinX8 : ∀ w ∈ u_ws RX8 TX8 6, w ∈ wsX8_firstError := by decide +kernel
  have hw1 := hts (.fieldLink RX8 29 "GlideShelves" "buffer" "LGlideShelves$OrderText;") (by decide +kernel)
  have hw2 := hts (.initialized RX5) (by decide +kernel)
  have hw3 := hts (.instanceMethod yX5_readAll) (by decide +kernel)
  have hw4 := hts (.selects RX5 yX5_readAll yX5_readAll) (by decide +kernel)
  subst hsz
  have hD := hD0.self (sz := s.heap.size)
  generalize hAe : va_A (wX8 cI cZ cS f g a M) s.heap.size = A at hD ⊢
  have hA : ∀ q : Nat, s.heap.size ≤ q → A q := fun q h => by rw [← hAe]; exact Or.inr h
  have hS : va_S A s.heap s.heap [] := va_S.rf
  have hl := lv_entry ([.ref (a 0)]) (n := 1) (Nat.le_of_ble_eq_true rfl)
  rw [lg_entry_eq]
  generalize (lg_sl ([.ref (a 0)]) ++ List.replicate (1 - (lg_sl ([.ref (a 0)])).length) Slot.unset).toArray = ls at hl ⊢
  have hl : lv_has ls 1 [(0, .ref (a 0))] := hl
  unfold fX8_firstError at hf
  suffices hgo : ∀ (H : Heap) (locs : List Loc), va_P (dC, dI) vwCl (wX8 cI cZ cS f g a M) H → va_D A (wX8 cI cZ cS f g a M) → va_S A s.heap H locs → W p l e (headSpec wsX8_firstError ({ frames := 3, cells := 0, slots := 0, locals := 64 } : Room)).room s m ([.ref (a 0)] : List Value).toArray below meth c H locs 0 0 (MQ below (va_Qi (S := Unit) (fun r _ => r = z.1) (fun _ t => WE (dC, dI) cI cZ (wX8 cI cZ cS f g a (sr (sr M 38 (z.2 38)) 39 (z.2 39))) A t) A) ([.ref (a 0)] : List Value).toArray s 0 0 A) (F0 m 0 ls []) from hgo _ _ hP hD hS
  intro H locs hP hD hS
  refine lv_aload_n hx hb dX8_firstError_0 rfl (lv_at hl 0 rfl) ?_
  refine va_get (D := (dC, dI)) (ci := 8) (v := .ref (a 36)) (C := RX8) (T := TX8) (N := 6) hx hb hts hinX8 hown hK hP 0 rfl rfl 3 (by decide) hw1 (fun _ h9 => h9) rfl dX8_firstError_1 ?_
  obtain ⟨r4, hc4, hf⟩ := bi_s hf
  have hPc := hP.sub (ws' := (wX5 cI cZ (ofs 36 a) (ofs 36 M))) [36, 37, 38, 39] rfl
  have hDc := hD.sub (ws' := (wX5 cI cZ (ofs 36 a) (ofs 36 M))) [36, 37, 38, 39] (by decide) rfl
  have hFc := va_free (wc := (wX5 cI cZ (ofs 36 a) (ofs 36 M))) hD hS hA [36, 37, 38, 39] rfl
  refine va_calli (va_runVN (As := []) (rest := []) ⟨hx, hb, hml, hown, hts⟩ (c_X5_readAll l dC dI cI cZ (ofs 36 a) H.size (ofs 36 M) r4 hc4) ⟨va_cnB 0 hts gX8_firstError_X5_readAll_n249 rfl rfl rfl (nw59 hNW) hw2 (by decide +kernel) ⟨Nat.le_of_ble_eq_true rfl, Nat.le_of_ble_eq_true rfl⟩, hw3, hw4⟩ ⟨WR.blind, va_recv hK hP (ci := 5) (q0 := 36) rfl rfl, WR.pre hPc hK2 hDc hNW⟩ rfl rfl hl.1 rfl (lv_room (Nat.le_of_ble_eq_true rfl)) dX8_firstError_4 ⟨Nat.le_of_ble_eq_true rfl, Nat.le_of_ble_eq_true rfl⟩) hS (fun q _ h => hFc q h) hFc (fun rv u t H1 locs ht hvm hw hB hz1 hk1 hS => ?_)
  obtain ⟨hP1, hD1⟩ := hB
  rw [ht] at hP1
  subst hw
  obtain ⟨hP, hD⟩ := va_join (wr := [(a 0, .inr (8, [.ref (a 1), .ref (a 17), .ref (a 33), .ref (a 36), .ref (a 40), .ref (a 41)])), (a 1, .inr (6, [.ref (a 2), .ref (a 7), .ref (a 10), .ref (a 15), .int (M 1 4)])), (a 2, .inr (7, [.int (M 2 0), .int (M 2 1), .ref (a 3), .ref (a 4), .ref (a 5), .ref (a 6)])), (a 3, .inl (cI, 12, .inl (M 3))), (a 4, .inl (cI, 12, .inl (M 4))), (a 5, .inl (cI, 12, .inl (M 5))), (a 6, .inl (cI, 120, .inl (M 6))), (a 7, .inr (2, [.int (M 7 0), .int (M 7 1), .int (M 7 2), .int (M 7 3), .int (M 7 4), .ref (a 8), .ref (a 9)])), (a 8, .inl (cI, 8, .inl (M 8))), (a 9, .inl (cZ, 8, .inl (M 9))), (a 10, .inr (0, [.ref (a 11), .ref (a 12), .ref (a 13), .ref (a 14)])), (a 11, .inl (cI, 10, .inl (M 11))), (a 12, .inl (cI, 10, .inl (M 12))), (a 13, .inl (cI, 10, .inl (M 13))), (a 14, .inl (cI, 10, .inl (M 14))), (a 15, .inr (3, [.int (M 15 0), .ref (a 16)])), (a 16, .inl (cI, 80, .inl (M 16))), (a 17, .inr (6, [.ref (a 18), .ref (a 23), .ref (a 26), .ref (a 31), .int (M 17 4)])), (a 18, .inr (7, [.int (M 18 0), .int (M 18 1), .ref (a 19), .ref (a 20), .ref (a 21), .ref (a 22)])), (a 19, .inl (cI, 12, .inl (M 19))), (a 20, .inl (cI, 12, .inl (M 20))), (a 21, .inl (cI, 12, .inl (M 21))), (a 22, .inl (cI, 120, .inl (M 22))), (a 23, .inr (2, [.int (M 23 0), .int (M 23 1), .int (M 23 2), .int (M 23 3), .int (M 23 4), .ref (a 24), .ref (a 25)])), (a 24, .inl (cI, 8, .inl (M 24))), (a 25, .inl (cZ, 8, .inl (M 25))), (a 26, .inr (0, [.ref (a 27), .ref (a 28), .ref (a 29), .ref (a 30)])), (a 27, .inl (cI, 10, .inl (M 27))), (a 28, .inl (cI, 10, .inl (M 28))), (a 29, .inl (cI, 10, .inl (M 29))), (a 30, .inl (cI, 10, .inl (M 30))), (a 31, .inr (3, [.int (M 31 0), .ref (a 32)])), (a 32, .inl (cI, 80, .inl (M 32))), (a 33, .inr (1, [.int (M 33 0), .ref (a 34), .ref (a 35)])), (a 34, .inl (cS, 6, .inr (.inr (.inr (.inr f))))), (a 35, .inl (cS, 2, .inr (.inr (.inr (.inr g))))), (a 40, .inl (cI, 12, .inl (M 40))), (a 41, .inl (cI, 10, .inl (M 41)))]) (w1 := (wX5 cI cZ (ofs 36 a) (sr (sr (ofs 36 M) 2 (r4.2 2)) 3 (r4.2 3)))) hP hD [36, 37, 38, 39] [0, 1, 2, 3, 4, 5, 6, 7, 8, 9, 10, 11, 12, 13, 14, 15, 16, 17, 18, 19, 20, 21, 22, 23, 24, 25, 26, 27, 28, 29, 30, 31, 32, 33, 34, 35, 40, 41] rfl rfl (by decide) (by decide) hk1 hFc hP1 hD1
  have hP := hP.sub (ws' := (wX8 cI cZ cS f g a (sr (sr M 38 (r4.2 2)) 39 (r4.2 3)))) [0, 1, 2, 3, 4, 5, 6, 7, 8, 9, 10, 11, 12, 13, 14, 15, 16, 17, 18, 19, 20, 21, 22, 23, 24, 25, 26, 27, 28, 29, 30, 31, 32, 33, 34, 35, 38, 39, 40, 41, 36, 37] rfl
  have hD := hD.sub (ws' := (wX8 cI cZ cS f g a (sr (sr M 38 (r4.2 2)) 39 (r4.2 3)))) [0, 1, 2, 3, 4, 5, 6, 7, 8, 9, 10, 11, 12, 13, 14, 15, 16, 17, 18, 19, 20, 21, 22, 23, 24, 25, 26, 27, 28, 29, 30, 31, 32, 33, 34, 35, 38, 39, 40, 41, 36, 37] (by decide) rfl
  generalize H1 = H at hP hS ⊢
  have e9 := so_e hf
  subst e9
  exact W.iret (v := r4.1) hx hb hr (fun t ht hW => ⟨⟨r4.1, (), rfl, rfl, WE.mk hP hD ht⟩, hS.F ht⟩) hS.2.2 dX8_firstError_7
set_option maxHeartbeats 4000000 in
set_option maxRecDepth 100000 in
theorem c_X8_savedStates (l : Launch) (dC : Nat → ClassId) (dI : Nat → Nat → Nat) (cI cZ cS : ClassId) (f g : Nat → Option Nat) (a : Nat → Nat) (M : Mem) (z : Int32) (hf : fX8_savedStates M  = some z) : Met l yX8_savedStates wsX8_savedStates ({ frames := 0, cells := 0, slots := 0, locals := 0 } : Room) (va_Pc [.ref (a 0)] (RO8 (dC, dI) cI cZ cS (wX8 cI cZ cS f g a M))) (k2_QcV (.int z)) 0 0 (fun _ => False) := by
  refine Met.ofW (cc := cX8_savedStates) (maxL := 1) (ret := (some .int)) (by decide) rfl ?_
  intro p e s m args below meth c s₁ B hml hv
  obtain ⟨rfl, hP, hK, hNW⟩ := hv
  have hK2 : va_K (dC, dI) vwCl [(cI, .int), (cZ, .boolean)] s := hK.sub (tys' := [(cI, .int), (cZ, .boolean)]) [0, 1] rfl
  have hx := B.exec
  have hb := B.bytes
  have hr := B.returns
  have hts := atoms_spec (ws := wsX8_savedStates) B.pre
  have hown : s.vm.findClass RX8 = some m.cls := findClass_of_methodNamed B.named
  have hlocks := B.notSynchronized
  have hinX8 : ∀ w ∈ u_ws RX8 TX8 6, w ∈ wsX8_savedStates := by decide +kernel
  have hw1 := hts (.fieldLink RX8 22 "GlideShelves" "history" "LGlideShelves$History;") (by decide +kernel)
  have hinX1 : ∀ w ∈ u_ws RX1 TX1 3, w ∈ wsX8_savedStates := by decide +kernel
  have hl := lv_entry ([.ref (a 0)]) (n := 1) (Nat.le_of_ble_eq_true rfl)
  rw [lg_entry_eq]
  generalize (lg_sl ([.ref (a 0)]) ++ List.replicate (1 - (lg_sl ([.ref (a 0)])).length) Slot.unset).toArray = ls at hl ⊢
  have hl : lv_has ls 1 [(0, .ref (a 0))] := hl
  unfold fX8_savedStates at hf
  refine lv_aload_n hx hb dX8_savedStates_0 rfl (lv_at hl 0 rfl) ?_
  refine va_get (D := (dC, dI)) (ci := 8) (v := .ref (a 33)) (C := RX8) (T := TX8) (N := 6) hx hb hts hinX8 hown hK hP 0 rfl rfl 2 (by decide) hw1 (fun _ h9 => h9) rfl dX8_savedStates_1 ?_
  refine va_getN (D := (dC, dI)) (ci := 1) (v := .int (M 33 0)) (C := RX1) (T := TX1) (N := 3) hx hb hts hinX1 hown hK hP 33 rfl rfl 0 (by decide) (nw14 hNW) (fun _ h9 => h9) rfl dX8_savedStates_4 ?_
  exact W.iret (v := (M 33 0)) hx hb hr (fun t ht hW => ⟨congrArg (fun x => Outcome.returned (some (Value.int x))) (so_e hf), ht⟩) fl0 dX8_savedStates_7
set_option maxHeartbeats 4000000 in
set_option maxRecDepth 100000 in
theorem c_X8_shelves (l : Launch) (dC : Nat → ClassId) (dI : Nat → Nat → Nat) (cI cZ cS : ClassId) (f g : Nat → Option Nat) (a : Nat → Nat) (M : Mem) (z : Int32) (hf : fX8_shelves M  = some z) : Met l yX8_shelves wsX8_shelves ({ frames := 0, cells := 0, slots := 0, locals := 0 } : Room) (va_Pc [.ref (a 0)] (RO8 (dC, dI) cI cZ cS (wX8 cI cZ cS f g a M))) (k2_QcV (.int z)) 0 0 (fun _ => False) := by
  refine Met.ofW (cc := cX8_shelves) (maxL := 1) (ret := (some .int)) (by decide) rfl ?_
  intro p e s m args below meth c s₁ B hml hv
  obtain ⟨rfl, hP, hK, hNW⟩ := hv
  have hK2 : va_K (dC, dI) vwCl [(cI, .int), (cZ, .boolean)] s := hK.sub (tys' := [(cI, .int), (cZ, .boolean)]) [0, 1] rfl
  have hx := B.exec
  have hb := B.bytes
  have hr := B.returns
  have hts := atoms_spec (ws := wsX8_shelves) B.pre
  have hown : s.vm.findClass RX8 = some m.cls := findClass_of_methodNamed B.named
  have hlocks := B.notSynchronized
  have hinX8 : ∀ w ∈ u_ws RX8 TX8 6, w ∈ wsX8_shelves := by decide +kernel
  have hw1 := hts (.fieldLink RX8 12 "GlideShelves" "now" "LGlideShelves$State;") (by decide +kernel)
  have hinX6 : ∀ w ∈ u_ws RX6 TX6 5, w ∈ wsX8_shelves := by decide +kernel
  have hinX7 : ∀ w ∈ u_ws RX7 TX7 6, w ∈ wsX8_shelves := by decide +kernel
  have hl := lv_entry ([.ref (a 0)]) (n := 1) (Nat.le_of_ble_eq_true rfl)
  rw [lg_entry_eq]
  generalize (lg_sl ([.ref (a 0)]) ++ List.replicate (1 - (lg_sl ([.ref (a 0)])).length) Slot.unset).toArray = ls at hl ⊢
  have hl : lv_has ls 1 [(0, .ref (a 0))] := hl
  unfold fX8_shelves at hf
  refine lv_aload_n hx hb dX8_shelves_0 rfl (lv_at hl 0 rfl) ?_
  refine va_get (D := (dC, dI)) (ci := 8) (v := .ref (a 1)) (C := RX8) (T := TX8) (N := 6) hx hb hts hinX8 hown hK hP 0 rfl rfl 0 (by decide) hw1 (fun _ h9 => h9) rfl dX8_shelves_1 ?_
  refine va_getN (D := (dC, dI)) (ci := 6) (v := .ref (a 2)) (C := RX6) (T := TX6) (N := 5) hx hb hts hinX6 hown hK hP 1 rfl rfl 0 (by decide) (nw24 hNW) (fun _ h9 => h9) rfl dX8_shelves_4 ?_
  refine va_getN (D := (dC, dI)) (ci := 7) (v := .int (M 2 0)) (C := RX7) (T := TX7) (N := 6) hx hb hts hinX7 hown hK hP 2 rfl rfl 0 (by decide) (nw25 hNW) (fun _ h9 => h9) rfl dX8_shelves_7 ?_
  exact W.iret (v := (M 2 0)) hx hb hr (fun t ht hW => ⟨congrArg (fun x => Outcome.returned (some (Value.int x))) (so_e hf), ht⟩) fl0 dX8_shelves_10
set_option maxHeartbeats 4000000 in
set_option maxRecDepth 100000 in
theorem n_X8_requireShelf (l : Launch) (dC : Nat → ClassId) (dI : Nat → Nat → Nat) (cI cZ cS : ClassId) (f g : Nat → Option Nat) (a : Nat → Nat) (M : Mem) (a1 : Int32) (hf : fX8_requireShelf M a1 = some (Sum.inr ())) : Met l yX8_requireShelf wsX8_requireShelf ({ frames := 0, cells := 0, slots := 0, locals := 0 } : Room) (va_Pc [.ref (a 0), .int a1] (RO8 (dC, dI) cI cZ cS (wX8 cI cZ cS f g a M))) (va_Sv (fun _ => True)) 0 0 (fun _ => False) := by
  refine Met.ofW (cc := cX8_requireShelf) (maxL := 2) (ret := none) (by decide) rfl ?_
  intro p e s m args below meth c s₁ B hml hv
  obtain ⟨rfl, hP, hK, hNW⟩ := hv
  have hx := B.exec
  have hb := B.bytes
  have hr := B.returns
  have hts := atoms_spec (ws := wsX8_requireShelf) B.pre
  have hown : s.vm.findClass RX8 = some m.cls := findClass_of_methodNamed B.named
  have hlocks := B.notSynchronized
  have hK2 : va_K (dC, dI) vwCl [(cI, .int), (cZ, .boolean)] s := hK.sub (tys' := [(cI, .int), (cZ, .boolean)]) [0, 1] rfl
  have hinX8 : ∀ w ∈ u_ws RX8 TX8 6, w ∈ wsX8_requireShelf := by decide +kernel
  have hw1 := hts (.fieldLink RX8 12 "GlideShelves" "now" "LGlideShelves$State;") (by decide +kernel)
  have hinX6 : ∀ w ∈ u_ws RX6 TX6 5, w ∈ wsX8_requireShelf := by decide +kernel
  have hinX7 : ∀ w ∈ u_ws RX7 TX7 6, w ∈ wsX8_requireShelf := by decide +kernel
  have hfX8_requireShelf_B18 : ∀ (_ : Unit), fX8_requireShelf_B18 M  () = some (Sum.inr ()) → ∀ (ls : Array Slot), lv_has ls 2 [] → W p l e (headSpec wsX8_requireShelf ({ frames := 0, cells := 0, slots := 0, locals := 0 } : Room)).room s m ([.ref (a 0), .int a1] : List Value).toArray below meth c s.heap [] 0 0 (MQ below (va_Sv (fun _ => True)) ([.ref (a 0), .int a1] : List Value).toArray s 0 0 (fun _ => False)) (F0 m 18 ls []) := by
    intro  _ hf ls hl
    unfold fX8_requireShelf_B18 at hf
    have e9 := so_e hf
    cases e9
  have hl := lv_entry ([.ref (a 0), .int a1]) (n := 2) (Nat.le_of_ble_eq_true rfl)
  rw [lg_entry_eq]
  generalize (lg_sl ([.ref (a 0), .int a1]) ++ List.replicate (2 - (lg_sl ([.ref (a 0), .int a1])).length) Slot.unset).toArray = ls at hl ⊢
  have hl : lv_has ls 2 [(0, .ref (a 0)), (1, .int a1)] := hl
  unfold fX8_requireShelf at hf
  refine lv_iload_n hx hb dX8_requireShelf_0 rfl (lv_at hl 1 rfl) ?_
  refine lv_if_lt (tgt := 18) hx hb dX8_requireShelf_1 (by decide) (fun c9 => ?_) (fun c9 => ?_)
  · have hf := it_t hf c9
    exact hfX8_requireShelf_B18  () hf _ (lv_sub hl [] rfl)
  · have hf := it_f hf c9
    refine lv_iload_n hx hb dX8_requireShelf_4 rfl (lv_at hl 1 rfl) ?_
    refine lv_aload_n hx hb dX8_requireShelf_5 rfl (lv_at hl 0 rfl) ?_
    refine va_get (D := (dC, dI)) (ci := 8) (v := .ref (a 1)) (C := RX8) (T := TX8) (N := 6) hx hb hts hinX8 hown hK hP 0 rfl rfl 0 (by decide) hw1 (fun _ h9 => h9) rfl dX8_requireShelf_6 ?_
    refine va_getN (D := (dC, dI)) (ci := 6) (v := .ref (a 2)) (C := RX6) (T := TX6) (N := 5) hx hb hts hinX6 hown hK hP 1 rfl rfl 0 (by decide) (nw24 hNW) (fun _ h9 => h9) rfl dX8_requireShelf_9 ?_
    refine va_getN (D := (dC, dI)) (ci := 7) (v := .int (M 2 0)) (C := RX7) (T := TX7) (N := 6) hx hb hts hinX7 hown hK hP 2 rfl rfl 0 (by decide) (nw25 hNW) (fun _ h9 => h9) rfl dX8_requireShelf_12 ?_
    refine lv_icmp_lt (tgt := 29) hx hb dX8_requireShelf_15 (by decide) (fun c9 => ?_) (fun c9 => ?_)
    · have hf := it_t hf c9
      have e9 := so_e hf
      cases e9
      exact W.vret hx hb hr (fun t ht hW => ⟨rfl, trivial, ht⟩) fl0 dX8_requireShelf_29
    · have hf := it_f hf c9
      exact hfX8_requireShelf_B18  () hf _ (lv_sub hl [] rfl)
set_option maxHeartbeats 4000000 in
set_option maxRecDepth 100000 in
theorem n_X8_heightOf (l : Launch) (dC : Nat → ClassId) (dI : Nat → Nat → Nat) (cI cZ cS : ClassId) (f g : Nat → Option Nat) (a : Nat → Nat) (M : Mem) (a1 : Int32) (z1 : Int32) (hf : fX8_heightOf M a1 = some (Sum.inr z1)) : Met l yX8_heightOf wsX8_heightOf ({ frames := 1, cells := 0, slots := 0, locals := 21 } : Room) (va_Pc [.ref (a 0), .int a1] (RO8 (dC, dI) cI cZ cS (wX8 cI cZ cS f g a M))) (k2_QcV (.int z1)) 0 0 (fun _ => False) := by
  refine Met.ofW (cc := cX8_heightOf) (maxL := 2) (ret := (some .int)) (by decide) rfl ?_
  intro p e s m args below meth c s₁ B hml hv
  obtain ⟨rfl, hP, hK, hNW⟩ := hv
  have hx := B.exec
  have hb := B.bytes
  have hr := B.returns
  have hts := atoms_spec (ws := wsX8_heightOf) B.pre
  have hown : s.vm.findClass RX8 = some m.cls := findClass_of_methodNamed B.named
  have hlocks := B.notSynchronized
  have hK2 : va_K (dC, dI) vwCl [(cI, .int), (cZ, .boolean)] s := hK.sub (tys' := [(cI, .int), (cZ, .boolean)]) [0, 1] rfl
  have hinX8 : ∀ w ∈ u_ws RX8 TX8 6, w ∈ wsX8_heightOf := by decide +kernel
  have hw1 := hts (.fieldLink RX8 12 "GlideShelves" "now" "LGlideShelves$State;") (by decide +kernel)
  have hinX6 : ∀ w ∈ u_ws RX6 TX6 5, w ∈ wsX8_heightOf := by decide +kernel
  have hinX7 : ∀ w ∈ u_ws RX7 TX7 6, w ∈ wsX8_heightOf := by decide +kernel
  have hl := lv_entry ([.ref (a 0), .int a1]) (n := 2) (Nat.le_of_ble_eq_true rfl)
  rw [lg_entry_eq]
  generalize (lg_sl ([.ref (a 0), .int a1]) ++ List.replicate (2 - (lg_sl ([.ref (a 0), .int a1])).length) Slot.unset).toArray = ls at hl ⊢
  have hl : lv_has ls 2 [(0, .ref (a 0)), (1, .int a1)] := hl
  unfold fX8_heightOf at hf
  refine lv_aload_n hx hb dX8_heightOf_0 rfl (lv_at hl 0 rfl) ?_
  refine lv_iload_n hx hb dX8_heightOf_1 rfl (lv_at hl 1 rfl) ?_
  obtain ⟨r2, hc2, hf⟩ := bi_s hf
  rcases r2 with E9 | r2
  · have e9 := so_e hf
    cases e9
  have hf := sel_r hf
  refine cROv (W.runV (As := [.int a1]) (rest := []) ⟨hx, hb, hml, hown, hts⟩ (n_X8_requireShelf l dC dI cI cZ cS f g a M a1  hc2) (cwV 1 hts gX8_heightOf_X8_requireShelf rfl rfl rfl (by decide +kernel) ⟨Nat.le_of_ble_eq_true rfl, Nat.le_of_ble_eq_true rfl⟩) ⟨RO8.blind, va_recv hK hP (ci := 8) (q0 := 0) rfl rfl, RO8.pre hP hK hNW⟩ rfl rfl hl.1 rfl (lv_room (Nat.le_of_ble_eq_true rfl)) dX8_heightOf_2 ⟨Nat.le_of_ble_eq_true rfl, Nat.le_of_ble_eq_true rfl⟩) ?_
  refine lv_aload_n hx hb dX8_heightOf_5 rfl (lv_at hl 0 rfl) ?_
  refine va_get (D := (dC, dI)) (ci := 8) (v := .ref (a 1)) (C := RX8) (T := TX8) (N := 6) hx hb hts hinX8 hown hK hP 0 rfl rfl 0 (by decide) hw1 (fun _ h9 => h9) rfl dX8_heightOf_6 ?_
  refine va_getN (D := (dC, dI)) (ci := 6) (v := .ref (a 2)) (C := RX6) (T := TX6) (N := 5) hx hb hts hinX6 hown hK hP 1 rfl rfl 0 (by decide) (nw24 hNW) (fun _ h9 => h9) rfl dX8_heightOf_9 ?_
  refine va_getN (D := (dC, dI)) (ci := 7) (v := .ref (a 3)) (C := RX7) (T := TX7) (N := 6) hx hb hts hinX7 hown hK hP 2 rfl rfl 2 (by decide) (nw27 hNW) (fun _ h9 => h9) rfl dX8_heightOf_12 ?_
  refine lv_iload_n hx hb dX8_heightOf_15 rfl (lv_at hl 1 rfl) ?_
  obtain ⟨hi, hf⟩ := gd_s hf
  refine va_iald (D := (dC, dI)) (f := (M 3)) hx hb hK hP 3 0 rfl rfl (inb_in hi) dX8_heightOf_16 ?_
  have e9 := so_e hf
  cases e9
  exact W.iret hx hb hr (fun t ht hW => ⟨rfl, ht⟩) fl0 dX8_heightOf_17
set_option maxHeartbeats 4000000 in
set_option maxRecDepth 100000 in
theorem t_X8_requireShelf (l : Launch) (hst : l.stackTraces = false) (dC : Nat → ClassId) (dI : Nat → Nat → Nat) (cI cZ cS : ClassId) (f g : Nat → Option Nat) (a : Nat → Nat) (sz : Nat) (M : Mem) (a1 : Int32) (E : String) (hf : fX8_requireShelf M a1 = some (Sum.inl E)) : vx_Met l yX8_requireShelf wsX8_requireShelf ({ frames := 6, cells := 1, slots := 6, locals := 110 } : Room) (va_Pc [.ref (a 0), .int a1] (T8 (dC, dI) cI cZ cS (wX8 cI cZ cS f g a M) sz)) (fun _ _ _ _ => False) (vx_X (S := Unit) (fun _ => True) (fun E' _ t => E' = E ∧ WE (dC, dI) cI cZ (wX8 cI cZ cS f g a M) (va_A (wX8 cI cZ cS f g a M) sz) t) (va_A (wX8 cI cZ cS f g a M) sz)) 1 6 (va_A (wX8 cI cZ cS f g a M) sz) := by
  refine vx_ofW (cc := cX8_requireShelf) (maxL := 2) (ret := none) (by decide) rfl ?_
  intro p e s m args below meth c s₁ B hml htab hv
  obtain ⟨rfl, hsz, hP, hK, hD0, hNW, hEX⟩ := hv
  have hx := B.exec
  have hb := B.bytes
  have hr := B.returns
  have hts := atoms_spec (ws := wsX8_requireShelf) B.pre
  have hown : s.vm.findClass RX8 = some m.cls := findClass_of_methodNamed B.named
  have hlocks := B.notSynchronized
  have hK2 : va_K (dC, dI) vwCl [(cI, .int), (cZ, .boolean)] s := hK.sub (tys' := [(cI, .int), (cZ, .boolean)]) [0, 1] rfl
  have hw0 := hts (.classLink RX8 418 "java/lang/IndexOutOfBoundsException") (by decide +kernel)
  have hw1 := hts (.initialized "java/lang/IndexOutOfBoundsException") (by decide +kernel)
  have hsuf422 : ∀ w ∈ (vx_atS RX8 422 "java/lang/IndexOutOfBoundsException" ["java/lang/RuntimeException", "java/lang/Exception"]).filter goodWord, w.before _ s = true := fun w h => hts w (List.mem_cons_of_mem _ (List.mem_append_right _ h))
  have hinX8 : ∀ w ∈ u_ws RX8 TX8 6, w ∈ wsX8_requireShelf := by decide +kernel
  have hw4 := hts (.fieldLink RX8 12 "GlideShelves" "now" "LGlideShelves$State;") (by decide +kernel)
  have hinX6 : ∀ w ∈ u_ws RX6 TX6 5, w ∈ wsX8_requireShelf := by decide +kernel
  have hinX7 : ∀ w ∈ u_ws RX7 TX7 6, w ∈ wsX8_requireShelf := by decide +kernel
  subst hsz
  have hD := hD0.self (sz := s.heap.size)
  generalize hAe : va_A (wX8 cI cZ cS f g a M) s.heap.size = A at hD hEX ⊢
  have hA : ∀ q : Nat, s.heap.size ≤ q → A q := fun q h => by rw [← hAe]; exact Or.inr h
  have hS : va_S A s.heap s.heap [] := va_S.rf
  have hfX8_requireShelf_B18 : ∀ (_ : Unit), fX8_requireShelf_B18 M  () = some (Sum.inl E) → ∀ (ls : Array Slot), lv_has ls 2 [] → W p l e (headSpec wsX8_requireShelf ({ frames := 6, cells := 1, slots := 6, locals := 110 } : Room)).room s m ([.ref (a 0), .int a1] : List Value).toArray below meth c s.heap [] 0 0 (vx_MQ below (fun _ _ _ _ => False) (vx_X (S := Unit) (fun _ => True) (fun E' _ t => E' = E ∧ WE (dC, dI) cI cZ (wX8 cI cZ cS f g a M) A t) A) ([.ref (a 0), .int a1] : List Value).toArray s 1 6 A) (F0 m 18 ls []) := by
    intro  _ hf ls hl
    unfold fX8_requireShelf_B18 at hf
    have e9 := so_e hf
    cases e9
    obtain ⟨sa, hsa⟩ := hEX.2.2 (RX8, 420, "there is no such shelf") (List.mem_of_getElem? (i := 22) rfl)
    exact vx_throwSW (cls := "java/lang/IndexOutOfBoundsException") (text := "there is no such shelf") (names := ["java/lang/RuntimeException", "java/lang/Exception"]) (ik := 418) (is := 420) (ic := 422) (sa := sa) hx hb hst hown (by decide +kernel) (by decide +kernel) hw0 hw1 hsa (hat_422 hsuf422 hNW) (by decide +kernel) hEX.1 hEX.2.1 hS (hl.1.trans hml.symm) dX8_requireShelf_18 dX8_requireShelf_21 dX8_requireShelf_22 dX8_requireShelf_25 dX8_requireShelf_28 (fun x h => (htab x h).elim) (by decide) (by decide) (Nat.le_of_ble_eq_true rfl) (Nat.le_of_ble_eq_true rfl) hlocks (fun t hal hz hk => ⟨(), trivial, ⟨rfl, WE.th hP hD hz hk⟩, S_ext hS hz hk⟩) hS.2.2 (Nat.le_of_ble_eq_true rfl) (Nat.le_of_ble_eq_true rfl)
  have hl := lv_entry ([.ref (a 0), .int a1]) (n := 2) (Nat.le_of_ble_eq_true rfl)
  rw [lg_entry_eq]
  generalize (lg_sl ([.ref (a 0), .int a1]) ++ List.replicate (2 - (lg_sl ([.ref (a 0), .int a1])).length) Slot.unset).toArray = ls at hl ⊢
  have hl : lv_has ls 2 [(0, .ref (a 0)), (1, .int a1)] := hl
  unfold fX8_requireShelf at hf
  refine lv_iload_n hx hb dX8_requireShelf_0 rfl (lv_at hl 1 rfl) ?_
  refine lv_if_lt (tgt := 18) hx hb dX8_requireShelf_1 (by decide) (fun c9 => ?_) (fun c9 => ?_)
  · have hf := it_t hf c9
    exact hfX8_requireShelf_B18  () hf _ (lv_sub hl [] rfl)
  · have hf := it_f hf c9
    refine lv_iload_n hx hb dX8_requireShelf_4 rfl (lv_at hl 1 rfl) ?_
    refine lv_aload_n hx hb dX8_requireShelf_5 rfl (lv_at hl 0 rfl) ?_
    refine va_get (D := (dC, dI)) (ci := 8) (v := .ref (a 1)) (C := RX8) (T := TX8) (N := 6) hx hb hts hinX8 hown hK hP 0 rfl rfl 0 (by decide) hw4 (fun _ h9 => h9) rfl dX8_requireShelf_6 ?_
    refine va_getN (D := (dC, dI)) (ci := 6) (v := .ref (a 2)) (C := RX6) (T := TX6) (N := 5) hx hb hts hinX6 hown hK hP 1 rfl rfl 0 (by decide) (nw24 hNW) (fun _ h9 => h9) rfl dX8_requireShelf_9 ?_
    refine va_getN (D := (dC, dI)) (ci := 7) (v := .int (M 2 0)) (C := RX7) (T := TX7) (N := 6) hx hb hts hinX7 hown hK hP 2 rfl rfl 0 (by decide) (nw25 hNW) (fun _ h9 => h9) rfl dX8_requireShelf_12 ?_
    refine lv_icmp_lt (tgt := 29) hx hb dX8_requireShelf_15 (by decide) (fun c9 => ?_) (fun c9 => ?_)
    · have hf := it_t hf c9
      have e9 := so_e hf
      cases e9
    · have hf := it_f hf c9
      exact hfX8_requireShelf_B18  () hf _ (lv_sub hl [] rfl)
set_option maxHeartbeats 4000000 in
set_option maxRecDepth 100000 in
theorem t_X8_heightOf (l : Launch) (hst : l.stackTraces = false) (dC : Nat → ClassId) (dI : Nat → Nat → Nat) (cI cZ cS : ClassId) (f g : Nat → Option Nat) (a : Nat → Nat) (sz : Nat) (M : Mem) (a1 : Int32) (E : String) (hf : fX8_heightOf M a1 = some (Sum.inl E)) : vx_Met l yX8_heightOf wsX8_heightOf ({ frames := 7, cells := 1, slots := 6, locals := 131 } : Room) (va_Pc [.ref (a 0), .int a1] (T8 (dC, dI) cI cZ cS (wX8 cI cZ cS f g a M) sz)) (fun _ _ _ _ => False) (vx_X (S := Unit) (fun _ => True) (fun E' _ t => E' = E ∧ WE (dC, dI) cI cZ (wX8 cI cZ cS f g a M) (va_A (wX8 cI cZ cS f g a M) sz) t) (va_A (wX8 cI cZ cS f g a M) sz)) 1 6 (va_A (wX8 cI cZ cS f g a M) sz) := by
  refine vx_ofW (cc := cX8_heightOf) (maxL := 2) (ret := (some .int)) (by decide) rfl ?_
  intro p e s m args below meth c s₁ B hml htab hv
  obtain ⟨rfl, hsz, hP, hK, hD0, hNW, hEX⟩ := hv
  have hx := B.exec
  have hb := B.bytes
  have hr := B.returns
  have hts := atoms_spec (ws := wsX8_heightOf) B.pre
  have hown : s.vm.findClass RX8 = some m.cls := findClass_of_methodNamed B.named
  have hlocks := B.notSynchronized
  have hK2 : va_K (dC, dI) vwCl [(cI, .int), (cZ, .boolean)] s := hK.sub (tys' := [(cI, .int), (cZ, .boolean)]) [0, 1] rfl
  have hinX8 : ∀ w ∈ u_ws RX8 TX8 6, w ∈ wsX8_heightOf := by decide +kernel
  have hw1 := hts (.fieldLink RX8 12 "GlideShelves" "now" "LGlideShelves$State;") (by decide +kernel)
  have hinX6 : ∀ w ∈ u_ws RX6 TX6 5, w ∈ wsX8_heightOf := by decide +kernel
  have hinX7 : ∀ w ∈ u_ws RX7 TX7 6, w ∈ wsX8_heightOf := by decide +kernel
  subst hsz
  have hD := hD0.self (sz := s.heap.size)
  generalize hAe : va_A (wX8 cI cZ cS f g a M) s.heap.size = A at hD hEX ⊢
  have hA : ∀ q : Nat, s.heap.size ≤ q → A q := fun q h => by rw [← hAe]; exact Or.inr h
  have hS : va_S A s.heap s.heap [] := va_S.rf
  have hl := lv_entry ([.ref (a 0), .int a1]) (n := 2) (Nat.le_of_ble_eq_true rfl)
  rw [lg_entry_eq]
  generalize (lg_sl ([.ref (a 0), .int a1]) ++ List.replicate (2 - (lg_sl ([.ref (a 0), .int a1])).length) Slot.unset).toArray = ls at hl ⊢
  have hl : lv_has ls 2 [(0, .ref (a 0)), (1, .int a1)] := hl
  unfold fX8_heightOf at hf
  refine lv_aload_n hx hb dX8_heightOf_0 rfl (lv_at hl 0 rfl) ?_
  refine lv_iload_n hx hb dX8_heightOf_1 rfl (lv_at hl 1 rfl) ?_
  obtain ⟨r2, hc2, hf⟩ := bi_s hf
  rcases r2 with E9 | r2
  · have e9 := so_e hf
    cases e9
    have hFc := va_free (wc := (wX8 cI cZ cS f g a M)) hD hS hA [0, 1, 2, 3, 4, 5, 6, 7, 8, 9, 10, 11, 12, 13, 14, 15, 16, 17, 18, 19, 20, 21, 22, 23, 24, 25, 26, 27, 28, 29, 30, 31, 32, 33, 34, 35, 36, 37, 38, 39, 40, 41] rfl
    refine vx_thr (vx_runV (As := [.int a1]) (rest := []) ⟨hx, hb, hml, hown, hts⟩ (t_X8_requireShelf l hst dC dI cI cZ cS f g a _ M a1 _ hc2) (cwV 1 hts gX8_heightOf_X8_requireShelf rfl rfl rfl (by decide +kernel) ⟨Nat.le_of_ble_eq_true rfl, Nat.le_of_ble_eq_true rfl⟩) ⟨T8.blind, va_recv hK hP (ci := 8) (q0 := 0) rfl rfl, T8.pre hP hK hD hNW (hEX.at hS hFc)⟩ rfl rfl hl.1 rfl (lv_room (Nat.le_of_ble_eq_true rfl)) dX8_heightOf_2 ⟨Nat.le_of_ble_eq_true rfl, Nat.le_of_ble_eq_true rfl⟩) hS (fun q _ h => hFc q h) hFc (fun ce q9 t H1 locs1 ht hal hP1 hD1 hz1 hS1 hce hcv hcl => ?_)
    exact vx_out (fun x h => (htab x h).elim) hlocks hce hcv hcl (fun t ht hal => ⟨(), trivial, ⟨rfl, WE.mk hP1 (hD1.weaken (fun k q _ h => hFc q.1 h)) ht⟩, hS1.F ht⟩) hS1.2.2 (Nat.le_of_ble_eq_true rfl) (Nat.le_of_ble_eq_true rfl)
  have hf := sel_r hf
  refine cROv (W.runV (As := [.int a1]) (rest := []) ⟨hx, hb, hml, hown, hts⟩ (n_X8_requireShelf l dC dI cI cZ cS f g a M a1  hc2) (cwV 1 hts gX8_heightOf_X8_requireShelf rfl rfl rfl (by decide +kernel) ⟨Nat.le_of_ble_eq_true rfl, Nat.le_of_ble_eq_true rfl⟩) ⟨RO8.blind, va_recv hK hP (ci := 8) (q0 := 0) rfl rfl, RO8.pre hP hK hNW⟩ rfl rfl hl.1 rfl (lv_room (Nat.le_of_ble_eq_true rfl)) dX8_heightOf_2 ⟨Nat.le_of_ble_eq_true rfl, Nat.le_of_ble_eq_true rfl⟩) ?_
  refine lv_aload_n hx hb dX8_heightOf_5 rfl (lv_at hl 0 rfl) ?_
  refine va_get (D := (dC, dI)) (ci := 8) (v := .ref (a 1)) (C := RX8) (T := TX8) (N := 6) hx hb hts hinX8 hown hK hP 0 rfl rfl 0 (by decide) hw1 (fun _ h9 => h9) rfl dX8_heightOf_6 ?_
  refine va_getN (D := (dC, dI)) (ci := 6) (v := .ref (a 2)) (C := RX6) (T := TX6) (N := 5) hx hb hts hinX6 hown hK hP 1 rfl rfl 0 (by decide) (nw24 hNW) (fun _ h9 => h9) rfl dX8_heightOf_9 ?_
  refine va_getN (D := (dC, dI)) (ci := 7) (v := .ref (a 3)) (C := RX7) (T := TX7) (N := 6) hx hb hts hinX7 hown hK hP 2 rfl rfl 2 (by decide) (nw27 hNW) (fun _ h9 => h9) rfl dX8_heightOf_12 ?_
  refine lv_iload_n hx hb dX8_heightOf_15 rfl (lv_at hl 1 rfl) ?_
  obtain ⟨hi, hf⟩ := gd_s hf
  refine va_iald (D := (dC, dI)) (f := (M 3)) hx hb hK hP 3 0 rfl rfl (inb_in hi) dX8_heightOf_16 ?_
  have e9 := so_e hf
  cases e9
set_option maxHeartbeats 4000000 in
set_option maxRecDepth 100000 in
theorem n_X8_sideOf (l : Launch) (dC : Nat → ClassId) (dI : Nat → Nat → Nat) (cI cZ cS : ClassId) (f g : Nat → Option Nat) (a : Nat → Nat) (M : Mem) (a1 : Int32) (z1 : Int32) (hf : fX8_sideOf M a1 = some (Sum.inr z1)) : Met l yX8_sideOf wsX8_sideOf ({ frames := 1, cells := 0, slots := 0, locals := 21 } : Room) (va_Pc [.ref (a 0), .int a1] (RO8 (dC, dI) cI cZ cS (wX8 cI cZ cS f g a M))) (k2_QcV (.int z1)) 0 0 (fun _ => False) := by
  refine Met.ofW (cc := cX8_sideOf) (maxL := 2) (ret := (some .int)) (by decide) rfl ?_
  intro p e s m args below meth c s₁ B hml hv
  obtain ⟨rfl, hP, hK, hNW⟩ := hv
  have hx := B.exec
  have hb := B.bytes
  have hr := B.returns
  have hts := atoms_spec (ws := wsX8_sideOf) B.pre
  have hown : s.vm.findClass RX8 = some m.cls := findClass_of_methodNamed B.named
  have hlocks := B.notSynchronized
  have hK2 : va_K (dC, dI) vwCl [(cI, .int), (cZ, .boolean)] s := hK.sub (tys' := [(cI, .int), (cZ, .boolean)]) [0, 1] rfl
  have hinX8 : ∀ w ∈ u_ws RX8 TX8 6, w ∈ wsX8_sideOf := by decide +kernel
  have hw1 := hts (.fieldLink RX8 12 "GlideShelves" "now" "LGlideShelves$State;") (by decide +kernel)
  have hinX6 : ∀ w ∈ u_ws RX6 TX6 5, w ∈ wsX8_sideOf := by decide +kernel
  have hinX7 : ∀ w ∈ u_ws RX7 TX7 6, w ∈ wsX8_sideOf := by decide +kernel
  have hl := lv_entry ([.ref (a 0), .int a1]) (n := 2) (Nat.le_of_ble_eq_true rfl)
  rw [lg_entry_eq]
  generalize (lg_sl ([.ref (a 0), .int a1]) ++ List.replicate (2 - (lg_sl ([.ref (a 0), .int a1])).length) Slot.unset).toArray = ls at hl ⊢
  have hl : lv_has ls 2 [(0, .ref (a 0)), (1, .int a1)] := hl
  unfold fX8_sideOf at hf
  refine lv_aload_n hx hb dX8_sideOf_0 rfl (lv_at hl 0 rfl) ?_
  refine lv_iload_n hx hb dX8_sideOf_1 rfl (lv_at hl 1 rfl) ?_
  obtain ⟨r2, hc2, hf⟩ := bi_s hf
  rcases r2 with E9 | r2
  · have e9 := so_e hf
    cases e9
  have hf := sel_r hf
  refine cROv (W.runV (As := [.int a1]) (rest := []) ⟨hx, hb, hml, hown, hts⟩ (n_X8_requireShelf l dC dI cI cZ cS f g a M a1  hc2) (cwV 1 hts gX8_sideOf_X8_requireShelf rfl rfl rfl (by decide +kernel) ⟨Nat.le_of_ble_eq_true rfl, Nat.le_of_ble_eq_true rfl⟩) ⟨RO8.blind, va_recv hK hP (ci := 8) (q0 := 0) rfl rfl, RO8.pre hP hK hNW⟩ rfl rfl hl.1 rfl (lv_room (Nat.le_of_ble_eq_true rfl)) dX8_sideOf_2 ⟨Nat.le_of_ble_eq_true rfl, Nat.le_of_ble_eq_true rfl⟩) ?_
  refine lv_aload_n hx hb dX8_sideOf_5 rfl (lv_at hl 0 rfl) ?_
  refine va_get (D := (dC, dI)) (ci := 8) (v := .ref (a 1)) (C := RX8) (T := TX8) (N := 6) hx hb hts hinX8 hown hK hP 0 rfl rfl 0 (by decide) hw1 (fun _ h9 => h9) rfl dX8_sideOf_6 ?_
  refine va_getN (D := (dC, dI)) (ci := 6) (v := .ref (a 2)) (C := RX6) (T := TX6) (N := 5) hx hb hts hinX6 hown hK hP 1 rfl rfl 0 (by decide) (nw24 hNW) (fun _ h9 => h9) rfl dX8_sideOf_9 ?_
  refine va_getN (D := (dC, dI)) (ci := 7) (v := .ref (a 4)) (C := RX7) (T := TX7) (N := 6) hx hb hts hinX7 hown hK hP 2 rfl rfl 3 (by decide) (nw15 hNW) (fun _ h9 => h9) rfl dX8_sideOf_12 ?_
  refine lv_iload_n hx hb dX8_sideOf_15 rfl (lv_at hl 1 rfl) ?_
  obtain ⟨hi, hf⟩ := gd_s hf
  refine va_iald (D := (dC, dI)) (f := (M 4)) hx hb hK hP 4 0 rfl rfl (inb_in hi) dX8_sideOf_16 ?_
  refine lv_bipush (v := (20 : Int32)) hx hb dX8_sideOf_17 (by decide) ?_
  refine lv_idiv hx hb dX8_sideOf_19 (by decide) ?_
  have e9 := so_e hf
  cases e9
  exact W.iret hx hb hr (fun t ht hW => ⟨rfl, ht⟩) fl0 dX8_sideOf_20
set_option maxHeartbeats 4000000 in
set_option maxRecDepth 100000 in
theorem t_X8_sideOf (l : Launch) (hst : l.stackTraces = false) (dC : Nat → ClassId) (dI : Nat → Nat → Nat) (cI cZ cS : ClassId) (f g : Nat → Option Nat) (a : Nat → Nat) (sz : Nat) (M : Mem) (a1 : Int32) (E : String) (hf : fX8_sideOf M a1 = some (Sum.inl E)) : vx_Met l yX8_sideOf wsX8_sideOf ({ frames := 7, cells := 1, slots := 6, locals := 131 } : Room) (va_Pc [.ref (a 0), .int a1] (T8 (dC, dI) cI cZ cS (wX8 cI cZ cS f g a M) sz)) (fun _ _ _ _ => False) (vx_X (S := Unit) (fun _ => True) (fun E' _ t => E' = E ∧ WE (dC, dI) cI cZ (wX8 cI cZ cS f g a M) (va_A (wX8 cI cZ cS f g a M) sz) t) (va_A (wX8 cI cZ cS f g a M) sz)) 1 6 (va_A (wX8 cI cZ cS f g a M) sz) := by
  refine vx_ofW (cc := cX8_sideOf) (maxL := 2) (ret := (some .int)) (by decide) rfl ?_
  intro p e s m args below meth c s₁ B hml htab hv
  obtain ⟨rfl, hsz, hP, hK, hD0, hNW, hEX⟩ := hv
  have hx := B.exec
  have hb := B.bytes
  have hr := B.returns
  have hts := atoms_spec (ws := wsX8_sideOf) B.pre
  have hown : s.vm.findClass RX8 = some m.cls := findClass_of_methodNamed B.named
  have hlocks := B.notSynchronized
  have hK2 : va_K (dC, dI) vwCl [(cI, .int), (cZ, .boolean)] s := hK.sub (tys' := [(cI, .int), (cZ, .boolean)]) [0, 1] rfl
  have hinX8 : ∀ w ∈ u_ws RX8 TX8 6, w ∈ wsX8_sideOf := by decide +kernel
  have hw1 := hts (.fieldLink RX8 12 "GlideShelves" "now" "LGlideShelves$State;") (by decide +kernel)
  have hinX6 : ∀ w ∈ u_ws RX6 TX6 5, w ∈ wsX8_sideOf := by decide +kernel
  have hinX7 : ∀ w ∈ u_ws RX7 TX7 6, w ∈ wsX8_sideOf := by decide +kernel
  subst hsz
  have hD := hD0.self (sz := s.heap.size)
  generalize hAe : va_A (wX8 cI cZ cS f g a M) s.heap.size = A at hD hEX ⊢
  have hA : ∀ q : Nat, s.heap.size ≤ q → A q := fun q h => by rw [← hAe]; exact Or.inr h
  have hS : va_S A s.heap s.heap [] := va_S.rf
  have hl := lv_entry ([.ref (a 0), .int a1]) (n := 2) (Nat.le_of_ble_eq_true rfl)
  rw [lg_entry_eq]
  generalize (lg_sl ([.ref (a 0), .int a1]) ++ List.replicate (2 - (lg_sl ([.ref (a 0), .int a1])).length) Slot.unset).toArray = ls at hl ⊢
  have hl : lv_has ls 2 [(0, .ref (a 0)), (1, .int a1)] := hl
  unfold fX8_sideOf at hf
  refine lv_aload_n hx hb dX8_sideOf_0 rfl (lv_at hl 0 rfl) ?_
  refine lv_iload_n hx hb dX8_sideOf_1 rfl (lv_at hl 1 rfl) ?_
  obtain ⟨r2, hc2, hf⟩ := bi_s hf
  rcases r2 with E9 | r2
  · have e9 := so_e hf
    cases e9
    have hFc := va_free (wc := (wX8 cI cZ cS f g a M)) hD hS hA [0, 1, 2, 3, 4, 5, 6, 7, 8, 9, 10, 11, 12, 13, 14, 15, 16, 17, 18, 19, 20, 21, 22, 23, 24, 25, 26, 27, 28, 29, 30, 31, 32, 33, 34, 35, 36, 37, 38, 39, 40, 41] rfl
    refine vx_thr (vx_runV (As := [.int a1]) (rest := []) ⟨hx, hb, hml, hown, hts⟩ (t_X8_requireShelf l hst dC dI cI cZ cS f g a _ M a1 _ hc2) (cwV 1 hts gX8_sideOf_X8_requireShelf rfl rfl rfl (by decide +kernel) ⟨Nat.le_of_ble_eq_true rfl, Nat.le_of_ble_eq_true rfl⟩) ⟨T8.blind, va_recv hK hP (ci := 8) (q0 := 0) rfl rfl, T8.pre hP hK hD hNW (hEX.at hS hFc)⟩ rfl rfl hl.1 rfl (lv_room (Nat.le_of_ble_eq_true rfl)) dX8_sideOf_2 ⟨Nat.le_of_ble_eq_true rfl, Nat.le_of_ble_eq_true rfl⟩) hS (fun q _ h => hFc q h) hFc (fun ce q9 t H1 locs1 ht hal hP1 hD1 hz1 hS1 hce hcv hcl => ?_)
    exact vx_out (fun x h => (htab x h).elim) hlocks hce hcv hcl (fun t ht hal => ⟨(), trivial, ⟨rfl, WE.mk hP1 (hD1.weaken (fun k q _ h => hFc q.1 h)) ht⟩, hS1.F ht⟩) hS1.2.2 (Nat.le_of_ble_eq_true rfl) (Nat.le_of_ble_eq_true rfl)
  have hf := sel_r hf
  refine cROv (W.runV (As := [.int a1]) (rest := []) ⟨hx, hb, hml, hown, hts⟩ (n_X8_requireShelf l dC dI cI cZ cS f g a M a1  hc2) (cwV 1 hts gX8_sideOf_X8_requireShelf rfl rfl rfl (by decide +kernel) ⟨Nat.le_of_ble_eq_true rfl, Nat.le_of_ble_eq_true rfl⟩) ⟨RO8.blind, va_recv hK hP (ci := 8) (q0 := 0) rfl rfl, RO8.pre hP hK hNW⟩ rfl rfl hl.1 rfl (lv_room (Nat.le_of_ble_eq_true rfl)) dX8_sideOf_2 ⟨Nat.le_of_ble_eq_true rfl, Nat.le_of_ble_eq_true rfl⟩) ?_
  refine lv_aload_n hx hb dX8_sideOf_5 rfl (lv_at hl 0 rfl) ?_
  refine va_get (D := (dC, dI)) (ci := 8) (v := .ref (a 1)) (C := RX8) (T := TX8) (N := 6) hx hb hts hinX8 hown hK hP 0 rfl rfl 0 (by decide) hw1 (fun _ h9 => h9) rfl dX8_sideOf_6 ?_
  refine va_getN (D := (dC, dI)) (ci := 6) (v := .ref (a 2)) (C := RX6) (T := TX6) (N := 5) hx hb hts hinX6 hown hK hP 1 rfl rfl 0 (by decide) (nw24 hNW) (fun _ h9 => h9) rfl dX8_sideOf_9 ?_
  refine va_getN (D := (dC, dI)) (ci := 7) (v := .ref (a 4)) (C := RX7) (T := TX7) (N := 6) hx hb hts hinX7 hown hK hP 2 rfl rfl 3 (by decide) (nw15 hNW) (fun _ h9 => h9) rfl dX8_sideOf_12 ?_
  refine lv_iload_n hx hb dX8_sideOf_15 rfl (lv_at hl 1 rfl) ?_
  obtain ⟨hi, hf⟩ := gd_s hf
  refine va_iald (D := (dC, dI)) (f := (M 4)) hx hb hK hP 4 0 rfl rfl (inb_in hi) dX8_sideOf_16 ?_
  refine lv_bipush (v := (20 : Int32)) hx hb dX8_sideOf_17 (by decide) ?_
  refine lv_idiv hx hb dX8_sideOf_19 (by decide) ?_
  have e9 := so_e hf
  cases e9
set_option maxHeartbeats 4000000 in
set_option maxRecDepth 100000 in
theorem n_X8_slotOf (l : Launch) (dC : Nat → ClassId) (dI : Nat → Nat → Nat) (cI cZ cS : ClassId) (f g : Nat → Option Nat) (a : Nat → Nat) (M : Mem) (a1 : Int32) (z1 : Int32) (hf : fX8_slotOf M a1 = some (Sum.inr z1)) : Met l yX8_slotOf wsX8_slotOf ({ frames := 1, cells := 0, slots := 0, locals := 21 } : Room) (va_Pc [.ref (a 0), .int a1] (RO8 (dC, dI) cI cZ cS (wX8 cI cZ cS f g a M))) (k2_QcV (.int z1)) 0 0 (fun _ => False) := by
  refine Met.ofW (cc := cX8_slotOf) (maxL := 2) (ret := (some .int)) (by decide) rfl ?_
  intro p e s m args below meth c s₁ B hml hv
  obtain ⟨rfl, hP, hK, hNW⟩ := hv
  have hx := B.exec
  have hb := B.bytes
  have hr := B.returns
  have hts := atoms_spec (ws := wsX8_slotOf) B.pre
  have hown : s.vm.findClass RX8 = some m.cls := findClass_of_methodNamed B.named
  have hlocks := B.notSynchronized
  have hK2 : va_K (dC, dI) vwCl [(cI, .int), (cZ, .boolean)] s := hK.sub (tys' := [(cI, .int), (cZ, .boolean)]) [0, 1] rfl
  have hinX8 : ∀ w ∈ u_ws RX8 TX8 6, w ∈ wsX8_slotOf := by decide +kernel
  have hw1 := hts (.fieldLink RX8 12 "GlideShelves" "now" "LGlideShelves$State;") (by decide +kernel)
  have hinX6 : ∀ w ∈ u_ws RX6 TX6 5, w ∈ wsX8_slotOf := by decide +kernel
  have hinX7 : ∀ w ∈ u_ws RX7 TX7 6, w ∈ wsX8_slotOf := by decide +kernel
  have hl := lv_entry ([.ref (a 0), .int a1]) (n := 2) (Nat.le_of_ble_eq_true rfl)
  rw [lg_entry_eq]
  generalize (lg_sl ([.ref (a 0), .int a1]) ++ List.replicate (2 - (lg_sl ([.ref (a 0), .int a1])).length) Slot.unset).toArray = ls at hl ⊢
  have hl : lv_has ls 2 [(0, .ref (a 0)), (1, .int a1)] := hl
  unfold fX8_slotOf at hf
  refine lv_aload_n hx hb dX8_slotOf_0 rfl (lv_at hl 0 rfl) ?_
  refine lv_iload_n hx hb dX8_slotOf_1 rfl (lv_at hl 1 rfl) ?_
  obtain ⟨r2, hc2, hf⟩ := bi_s hf
  rcases r2 with E9 | r2
  · have e9 := so_e hf
    cases e9
  have hf := sel_r hf
  refine cROv (W.runV (As := [.int a1]) (rest := []) ⟨hx, hb, hml, hown, hts⟩ (n_X8_requireShelf l dC dI cI cZ cS f g a M a1  hc2) (cwV 1 hts gX8_slotOf_X8_requireShelf rfl rfl rfl (by decide +kernel) ⟨Nat.le_of_ble_eq_true rfl, Nat.le_of_ble_eq_true rfl⟩) ⟨RO8.blind, va_recv hK hP (ci := 8) (q0 := 0) rfl rfl, RO8.pre hP hK hNW⟩ rfl rfl hl.1 rfl (lv_room (Nat.le_of_ble_eq_true rfl)) dX8_slotOf_2 ⟨Nat.le_of_ble_eq_true rfl, Nat.le_of_ble_eq_true rfl⟩) ?_
  refine lv_aload_n hx hb dX8_slotOf_5 rfl (lv_at hl 0 rfl) ?_
  refine va_get (D := (dC, dI)) (ci := 8) (v := .ref (a 1)) (C := RX8) (T := TX8) (N := 6) hx hb hts hinX8 hown hK hP 0 rfl rfl 0 (by decide) hw1 (fun _ h9 => h9) rfl dX8_slotOf_6 ?_
  refine va_getN (D := (dC, dI)) (ci := 6) (v := .ref (a 2)) (C := RX6) (T := TX6) (N := 5) hx hb hts hinX6 hown hK hP 1 rfl rfl 0 (by decide) (nw24 hNW) (fun _ h9 => h9) rfl dX8_slotOf_9 ?_
  refine va_getN (D := (dC, dI)) (ci := 7) (v := .ref (a 4)) (C := RX7) (T := TX7) (N := 6) hx hb hts hinX7 hown hK hP 2 rfl rfl 3 (by decide) (nw15 hNW) (fun _ h9 => h9) rfl dX8_slotOf_12 ?_
  refine lv_iload_n hx hb dX8_slotOf_15 rfl (lv_at hl 1 rfl) ?_
  obtain ⟨hi, hf⟩ := gd_s hf
  refine va_iald (D := (dC, dI)) (f := (M 4)) hx hb hK hP 4 0 rfl rfl (inb_in hi) dX8_slotOf_16 ?_
  refine lv_bipush (v := (20 : Int32)) hx hb dX8_slotOf_17 (by decide) ?_
  refine lv_irem hx hb dX8_slotOf_19 (by decide) ?_
  have e9 := so_e hf
  cases e9
  exact W.iret hx hb hr (fun t ht hW => ⟨rfl, ht⟩) fl0 dX8_slotOf_20
set_option maxHeartbeats 4000000 in
set_option maxRecDepth 100000 in
theorem t_X8_slotOf (l : Launch) (hst : l.stackTraces = false) (dC : Nat → ClassId) (dI : Nat → Nat → Nat) (cI cZ cS : ClassId) (f g : Nat → Option Nat) (a : Nat → Nat) (sz : Nat) (M : Mem) (a1 : Int32) (E : String) (hf : fX8_slotOf M a1 = some (Sum.inl E)) : vx_Met l yX8_slotOf wsX8_slotOf ({ frames := 7, cells := 1, slots := 6, locals := 131 } : Room) (va_Pc [.ref (a 0), .int a1] (T8 (dC, dI) cI cZ cS (wX8 cI cZ cS f g a M) sz)) (fun _ _ _ _ => False) (vx_X (S := Unit) (fun _ => True) (fun E' _ t => E' = E ∧ WE (dC, dI) cI cZ (wX8 cI cZ cS f g a M) (va_A (wX8 cI cZ cS f g a M) sz) t) (va_A (wX8 cI cZ cS f g a M) sz)) 1 6 (va_A (wX8 cI cZ cS f g a M) sz) := by
  refine vx_ofW (cc := cX8_slotOf) (maxL := 2) (ret := (some .int)) (by decide) rfl ?_
  intro p e s m args below meth c s₁ B hml htab hv
  obtain ⟨rfl, hsz, hP, hK, hD0, hNW, hEX⟩ := hv
  have hx := B.exec
  have hb := B.bytes
  have hr := B.returns
  have hts := atoms_spec (ws := wsX8_slotOf) B.pre
  have hown : s.vm.findClass RX8 = some m.cls := findClass_of_methodNamed B.named
  have hlocks := B.notSynchronized
  have hK2 : va_K (dC, dI) vwCl [(cI, .int), (cZ, .boolean)] s := hK.sub (tys' := [(cI, .int), (cZ, .boolean)]) [0, 1] rfl
  have hinX8 : ∀ w ∈ u_ws RX8 TX8 6, w ∈ wsX8_slotOf := by decide +kernel
  have hw1 := hts (.fieldLink RX8 12 "GlideShelves" "now" "LGlideShelves$State;") (by decide +kernel)
  have hinX6 : ∀ w ∈ u_ws RX6 TX6 5, w ∈ wsX8_slotOf := by decide +kernel
  have hinX7 : ∀ w ∈ u_ws RX7 TX7 6, w ∈ wsX8_slotOf := by decide +kernel
  subst hsz
  have hD := hD0.self (sz := s.heap.size)
  generalize hAe : va_A (wX8 cI cZ cS f g a M) s.heap.size = A at hD hEX ⊢
  have hA : ∀ q : Nat, s.heap.size ≤ q → A q := fun q h => by rw [← hAe]; exact Or.inr h
  have hS : va_S A s.heap s.heap [] := va_S.rf
  have hl := lv_entry ([.ref (a 0), .int a1]) (n := 2) (Nat.le_of_ble_eq_true rfl)
  rw [lg_entry_eq]
  generalize (lg_sl ([.ref (a 0), .int a1]) ++ List.replicate (2 - (lg_sl ([.ref (a 0), .int a1])).length) Slot.unset).toArray = ls at hl ⊢
  have hl : lv_has ls 2 [(0, .ref (a 0)), (1, .int a1)] := hl
  unfold fX8_slotOf at hf
  refine lv_aload_n hx hb dX8_slotOf_0 rfl (lv_at hl 0 rfl) ?_
  refine lv_iload_n hx hb dX8_slotOf_1 rfl (lv_at hl 1 rfl) ?_
  obtain ⟨r2, hc2, hf⟩ := bi_s hf
  rcases r2 with E9 | r2
  · have e9 := so_e hf
    cases e9
    have hFc := va_free (wc := (wX8 cI cZ cS f g a M)) hD hS hA [0, 1, 2, 3, 4, 5, 6, 7, 8, 9, 10, 11, 12, 13, 14, 15, 16, 17, 18, 19, 20, 21, 22, 23, 24, 25, 26, 27, 28, 29, 30, 31, 32, 33, 34, 35, 36, 37, 38, 39, 40, 41] rfl
    refine vx_thr (vx_runV (As := [.int a1]) (rest := []) ⟨hx, hb, hml, hown, hts⟩ (t_X8_requireShelf l hst dC dI cI cZ cS f g a _ M a1 _ hc2) (cwV 1 hts gX8_slotOf_X8_requireShelf rfl rfl rfl (by decide +kernel) ⟨Nat.le_of_ble_eq_true rfl, Nat.le_of_ble_eq_true rfl⟩) ⟨T8.blind, va_recv hK hP (ci := 8) (q0 := 0) rfl rfl, T8.pre hP hK hD hNW (hEX.at hS hFc)⟩ rfl rfl hl.1 rfl (lv_room (Nat.le_of_ble_eq_true rfl)) dX8_slotOf_2 ⟨Nat.le_of_ble_eq_true rfl, Nat.le_of_ble_eq_true rfl⟩) hS (fun q _ h => hFc q h) hFc (fun ce q9 t H1 locs1 ht hal hP1 hD1 hz1 hS1 hce hcv hcl => ?_)
    exact vx_out (fun x h => (htab x h).elim) hlocks hce hcv hcl (fun t ht hal => ⟨(), trivial, ⟨rfl, WE.mk hP1 (hD1.weaken (fun k q _ h => hFc q.1 h)) ht⟩, hS1.F ht⟩) hS1.2.2 (Nat.le_of_ble_eq_true rfl) (Nat.le_of_ble_eq_true rfl)
  have hf := sel_r hf
  refine cROv (W.runV (As := [.int a1]) (rest := []) ⟨hx, hb, hml, hown, hts⟩ (n_X8_requireShelf l dC dI cI cZ cS f g a M a1  hc2) (cwV 1 hts gX8_slotOf_X8_requireShelf rfl rfl rfl (by decide +kernel) ⟨Nat.le_of_ble_eq_true rfl, Nat.le_of_ble_eq_true rfl⟩) ⟨RO8.blind, va_recv hK hP (ci := 8) (q0 := 0) rfl rfl, RO8.pre hP hK hNW⟩ rfl rfl hl.1 rfl (lv_room (Nat.le_of_ble_eq_true rfl)) dX8_slotOf_2 ⟨Nat.le_of_ble_eq_true rfl, Nat.le_of_ble_eq_true rfl⟩) ?_
  refine lv_aload_n hx hb dX8_slotOf_5 rfl (lv_at hl 0 rfl) ?_
  refine va_get (D := (dC, dI)) (ci := 8) (v := .ref (a 1)) (C := RX8) (T := TX8) (N := 6) hx hb hts hinX8 hown hK hP 0 rfl rfl 0 (by decide) hw1 (fun _ h9 => h9) rfl dX8_slotOf_6 ?_
  refine va_getN (D := (dC, dI)) (ci := 6) (v := .ref (a 2)) (C := RX6) (T := TX6) (N := 5) hx hb hts hinX6 hown hK hP 1 rfl rfl 0 (by decide) (nw24 hNW) (fun _ h9 => h9) rfl dX8_slotOf_9 ?_
  refine va_getN (D := (dC, dI)) (ci := 7) (v := .ref (a 4)) (C := RX7) (T := TX7) (N := 6) hx hb hts hinX7 hown hK hP 2 rfl rfl 3 (by decide) (nw15 hNW) (fun _ h9 => h9) rfl dX8_slotOf_12 ?_
  refine lv_iload_n hx hb dX8_slotOf_15 rfl (lv_at hl 1 rfl) ?_
  obtain ⟨hi, hf⟩ := gd_s hf
  refine va_iald (D := (dC, dI)) (f := (M 4)) hx hb hK hP 4 0 rfl rfl (inb_in hi) dX8_slotOf_16 ?_
  refine lv_bipush (v := (20 : Int32)) hx hb dX8_slotOf_17 (by decide) ?_
  refine lv_irem hx hb dX8_slotOf_19 (by decide) ?_
  have e9 := so_e hf
  cases e9
set_option maxHeartbeats 4000000 in
set_option maxRecDepth 100000 in
theorem n_X8_isAtWindow (l : Launch) (dC : Nat → ClassId) (dI : Nat → Nat → Nat) (cI cZ cS : ClassId) (f g : Nat → Option Nat) (a : Nat → Nat) (M : Mem) (a1 : Int32) (z1 : Int32) (hf : fX8_isAtWindow M a1 = some (Sum.inr z1)) : Met l yX8_isAtWindow wsX8_isAtWindow ({ frames := 1, cells := 0, slots := 0, locals := 21 } : Room) (va_Pc [.ref (a 0), .int a1] (RO8 (dC, dI) cI cZ cS (wX8 cI cZ cS f g a M))) (k2_QcV (.int z1)) 0 0 (fun _ => False) := by
  refine Met.ofW (cc := cX8_isAtWindow) (maxL := 2) (ret := (some .boolean)) (by decide) rfl ?_
  intro p e s m args below meth c s₁ B hml hv
  obtain ⟨rfl, hP, hK, hNW⟩ := hv
  have hx := B.exec
  have hb := B.bytes
  have hr := B.returns
  have hts := atoms_spec (ws := wsX8_isAtWindow) B.pre
  have hown : s.vm.findClass RX8 = some m.cls := findClass_of_methodNamed B.named
  have hlocks := B.notSynchronized
  have hK2 : va_K (dC, dI) vwCl [(cI, .int), (cZ, .boolean)] s := hK.sub (tys' := [(cI, .int), (cZ, .boolean)]) [0, 1] rfl
  have hinX8 : ∀ w ∈ u_ws RX8 TX8 6, w ∈ wsX8_isAtWindow := by decide +kernel
  have hw1 := hts (.fieldLink RX8 12 "GlideShelves" "now" "LGlideShelves$State;") (by decide +kernel)
  have hinX6 : ∀ w ∈ u_ws RX6 TX6 5, w ∈ wsX8_isAtWindow := by decide +kernel
  have hinX7 : ∀ w ∈ u_ws RX7 TX7 6, w ∈ wsX8_isAtWindow := by decide +kernel
  have hfX8_isAtWindow_B24 : ∀ (s0 : Int32), fX8_isAtWindow_B24 M  s0 = some (Sum.inr z1) → ∀ (ls : Array Slot), lv_has ls 2 [] → W p l e (headSpec wsX8_isAtWindow ({ frames := 1, cells := 0, slots := 0, locals := 21 } : Room)).room s m ([.ref (a 0), .int a1] : List Value).toArray below meth c s.heap [] 0 0 (MQ below (k2_QcV (.int z1)) ([.ref (a 0), .int a1] : List Value).toArray s 0 0 (fun _ => False)) (F0 m 24 ls [.int s0]) := by
    intro  s0 hf ls hl
    unfold fX8_isAtWindow_B24 at hf
    obtain ⟨hz, hf⟩ := gd_s hf
    have e9 := so_e hf
    cases e9
    exact W.zret hx hb hr (isb_nar hz) (fun t ht hW => ⟨rfl, ht⟩) fl0 dX8_isAtWindow_24
  have hl := lv_entry ([.ref (a 0), .int a1]) (n := 2) (Nat.le_of_ble_eq_true rfl)
  rw [lg_entry_eq]
  generalize (lg_sl ([.ref (a 0), .int a1]) ++ List.replicate (2 - (lg_sl ([.ref (a 0), .int a1])).length) Slot.unset).toArray = ls at hl ⊢
  have hl : lv_has ls 2 [(0, .ref (a 0)), (1, .int a1)] := hl
  unfold fX8_isAtWindow at hf
  refine lv_aload_n hx hb dX8_isAtWindow_0 rfl (lv_at hl 0 rfl) ?_
  refine lv_iload_n hx hb dX8_isAtWindow_1 rfl (lv_at hl 1 rfl) ?_
  obtain ⟨r2, hc2, hf⟩ := bi_s hf
  rcases r2 with E9 | r2
  · have e9 := so_e hf
    cases e9
  have hf := sel_r hf
  refine cROv (W.runV (As := [.int a1]) (rest := []) ⟨hx, hb, hml, hown, hts⟩ (n_X8_requireShelf l dC dI cI cZ cS f g a M a1  hc2) (cwV 1 hts gX8_isAtWindow_X8_requireShelf rfl rfl rfl (by decide +kernel) ⟨Nat.le_of_ble_eq_true rfl, Nat.le_of_ble_eq_true rfl⟩) ⟨RO8.blind, va_recv hK hP (ci := 8) (q0 := 0) rfl rfl, RO8.pre hP hK hNW⟩ rfl rfl hl.1 rfl (lv_room (Nat.le_of_ble_eq_true rfl)) dX8_isAtWindow_2 ⟨Nat.le_of_ble_eq_true rfl, Nat.le_of_ble_eq_true rfl⟩) ?_
  refine lv_iload_n hx hb dX8_isAtWindow_5 rfl (lv_at hl 1 rfl) ?_
  refine lv_aload_n hx hb dX8_isAtWindow_6 rfl (lv_at hl 0 rfl) ?_
  refine va_get (D := (dC, dI)) (ci := 8) (v := .ref (a 1)) (C := RX8) (T := TX8) (N := 6) hx hb hts hinX8 hown hK hP 0 rfl rfl 0 (by decide) hw1 (fun _ h9 => h9) rfl dX8_isAtWindow_7 ?_
  refine va_getN (D := (dC, dI)) (ci := 6) (v := .ref (a 2)) (C := RX6) (T := TX6) (N := 5) hx hb hts hinX6 hown hK hP 1 rfl rfl 0 (by decide) (nw24 hNW) (fun _ h9 => h9) rfl dX8_isAtWindow_10 ?_
  refine va_getN (D := (dC, dI)) (ci := 7) (v := .int (M 2 1)) (C := RX7) (T := TX7) (N := 6) hx hb hts hinX7 hown hK hP 2 rfl rfl 1 (by decide) (nw26 hNW) (fun _ h9 => h9) rfl dX8_isAtWindow_13 ?_
  refine lv_icmp_ne (tgt := 23) hx hb dX8_isAtWindow_16 (by decide) (fun c9 => ?_) (fun c9 => ?_)
  · have hf := it_t hf c9
    refine lv_iconst (v := (0 : Int32)) hx hb dX8_isAtWindow_23 (by decide) ?_
    exact hfX8_isAtWindow_B24  (0 : Int32) hf _ (lv_sub hl [] rfl)
  · have hf := it_n hf c9
    refine lv_iconst (v := (1 : Int32)) hx hb dX8_isAtWindow_19 (by decide) ?_
    refine lv_goto (tgt := 24) hx hb dX8_isAtWindow_20 (by decide) ?_
    exact hfX8_isAtWindow_B24  (1 : Int32) hf _ (lv_sub hl [] rfl)
set_option maxHeartbeats 4000000 in
set_option maxRecDepth 100000 in
theorem t_X8_isAtWindow (l : Launch) (hst : l.stackTraces = false) (dC : Nat → ClassId) (dI : Nat → Nat → Nat) (cI cZ cS : ClassId) (f g : Nat → Option Nat) (a : Nat → Nat) (sz : Nat) (M : Mem) (a1 : Int32) (E : String) (hf : fX8_isAtWindow M a1 = some (Sum.inl E)) : vx_Met l yX8_isAtWindow wsX8_isAtWindow ({ frames := 7, cells := 1, slots := 6, locals := 131 } : Room) (va_Pc [.ref (a 0), .int a1] (T8 (dC, dI) cI cZ cS (wX8 cI cZ cS f g a M) sz)) (fun _ _ _ _ => False) (vx_X (S := Unit) (fun _ => True) (fun E' _ t => E' = E ∧ WE (dC, dI) cI cZ (wX8 cI cZ cS f g a M) (va_A (wX8 cI cZ cS f g a M) sz) t) (va_A (wX8 cI cZ cS f g a M) sz)) 1 6 (va_A (wX8 cI cZ cS f g a M) sz) := by
  refine vx_ofW (cc := cX8_isAtWindow) (maxL := 2) (ret := (some .boolean)) (by decide) rfl ?_
  intro p e s m args below meth c s₁ B hml htab hv
  obtain ⟨rfl, hsz, hP, hK, hD0, hNW, hEX⟩ := hv
  have hx := B.exec
  have hb := B.bytes
  have hr := B.returns
  have hts := atoms_spec (ws := wsX8_isAtWindow) B.pre
  have hown : s.vm.findClass RX8 = some m.cls := findClass_of_methodNamed B.named
  have hlocks := B.notSynchronized
  have hK2 : va_K (dC, dI) vwCl [(cI, .int), (cZ, .boolean)] s := hK.sub (tys' := [(cI, .int), (cZ, .boolean)]) [0, 1] rfl
  have hinX8 : ∀ w ∈ u_ws RX8 TX8 6, w ∈ wsX8_isAtWindow := by decide +kernel
  have hw1 := hts (.fieldLink RX8 12 "GlideShelves" "now" "LGlideShelves$State;") (by decide +kernel)
  have hinX6 : ∀ w ∈ u_ws RX6 TX6 5, w ∈ wsX8_isAtWindow := by decide +kernel
  have hinX7 : ∀ w ∈ u_ws RX7 TX7 6, w ∈ wsX8_isAtWindow := by decide +kernel
  subst hsz
  have hD := hD0.self (sz := s.heap.size)
  generalize hAe : va_A (wX8 cI cZ cS f g a M) s.heap.size = A at hD hEX ⊢
  have hA : ∀ q : Nat, s.heap.size ≤ q → A q := fun q h => by rw [← hAe]; exact Or.inr h
  have hS : va_S A s.heap s.heap [] := va_S.rf
  have hfX8_isAtWindow_B24 : ∀ (s0 : Int32), fX8_isAtWindow_B24 M  s0 = some (Sum.inl E) → ∀ (ls : Array Slot), lv_has ls 2 [] → W p l e (headSpec wsX8_isAtWindow ({ frames := 7, cells := 1, slots := 6, locals := 131 } : Room)).room s m ([.ref (a 0), .int a1] : List Value).toArray below meth c s.heap [] 0 0 (vx_MQ below (fun _ _ _ _ => False) (vx_X (S := Unit) (fun _ => True) (fun E' _ t => E' = E ∧ WE (dC, dI) cI cZ (wX8 cI cZ cS f g a M) A t) A) ([.ref (a 0), .int a1] : List Value).toArray s 1 6 A) (F0 m 24 ls [.int s0]) := by
    intro  s0 hf ls hl
    unfold fX8_isAtWindow_B24 at hf
    obtain ⟨hz, hf⟩ := gd_s hf
    have e9 := so_e hf
    cases e9
  have hl := lv_entry ([.ref (a 0), .int a1]) (n := 2) (Nat.le_of_ble_eq_true rfl)
  rw [lg_entry_eq]
  generalize (lg_sl ([.ref (a 0), .int a1]) ++ List.replicate (2 - (lg_sl ([.ref (a 0), .int a1])).length) Slot.unset).toArray = ls at hl ⊢
  have hl : lv_has ls 2 [(0, .ref (a 0)), (1, .int a1)] := hl
  unfold fX8_isAtWindow at hf
  refine lv_aload_n hx hb dX8_isAtWindow_0 rfl (lv_at hl 0 rfl) ?_
  refine lv_iload_n hx hb dX8_isAtWindow_1 rfl (lv_at hl 1 rfl) ?_
  obtain ⟨r2, hc2, hf⟩ := bi_s hf
  rcases r2 with E9 | r2
  · have e9 := so_e hf
    cases e9
    have hFc := va_free (wc := (wX8 cI cZ cS f g a M)) hD hS hA [0, 1, 2, 3, 4, 5, 6, 7, 8, 9, 10, 11, 12, 13, 14, 15, 16, 17, 18, 19, 20, 21, 22, 23, 24, 25, 26, 27, 28, 29, 30, 31, 32, 33, 34, 35, 36, 37, 38, 39, 40, 41] rfl
    refine vx_thr (vx_runV (As := [.int a1]) (rest := []) ⟨hx, hb, hml, hown, hts⟩ (t_X8_requireShelf l hst dC dI cI cZ cS f g a _ M a1 _ hc2) (cwV 1 hts gX8_isAtWindow_X8_requireShelf rfl rfl rfl (by decide +kernel) ⟨Nat.le_of_ble_eq_true rfl, Nat.le_of_ble_eq_true rfl⟩) ⟨T8.blind, va_recv hK hP (ci := 8) (q0 := 0) rfl rfl, T8.pre hP hK hD hNW (hEX.at hS hFc)⟩ rfl rfl hl.1 rfl (lv_room (Nat.le_of_ble_eq_true rfl)) dX8_isAtWindow_2 ⟨Nat.le_of_ble_eq_true rfl, Nat.le_of_ble_eq_true rfl⟩) hS (fun q _ h => hFc q h) hFc (fun ce q9 t H1 locs1 ht hal hP1 hD1 hz1 hS1 hce hcv hcl => ?_)
    exact vx_out (fun x h => (htab x h).elim) hlocks hce hcv hcl (fun t ht hal => ⟨(), trivial, ⟨rfl, WE.mk hP1 (hD1.weaken (fun k q _ h => hFc q.1 h)) ht⟩, hS1.F ht⟩) hS1.2.2 (Nat.le_of_ble_eq_true rfl) (Nat.le_of_ble_eq_true rfl)
  have hf := sel_r hf
  refine cROv (W.runV (As := [.int a1]) (rest := []) ⟨hx, hb, hml, hown, hts⟩ (n_X8_requireShelf l dC dI cI cZ cS f g a M a1  hc2) (cwV 1 hts gX8_isAtWindow_X8_requireShelf rfl rfl rfl (by decide +kernel) ⟨Nat.le_of_ble_eq_true rfl, Nat.le_of_ble_eq_true rfl⟩) ⟨RO8.blind, va_recv hK hP (ci := 8) (q0 := 0) rfl rfl, RO8.pre hP hK hNW⟩ rfl rfl hl.1 rfl (lv_room (Nat.le_of_ble_eq_true rfl)) dX8_isAtWindow_2 ⟨Nat.le_of_ble_eq_true rfl, Nat.le_of_ble_eq_true rfl⟩) ?_
  refine lv_iload_n hx hb dX8_isAtWindow_5 rfl (lv_at hl 1 rfl) ?_
  refine lv_aload_n hx hb dX8_isAtWindow_6 rfl (lv_at hl 0 rfl) ?_
  refine va_get (D := (dC, dI)) (ci := 8) (v := .ref (a 1)) (C := RX8) (T := TX8) (N := 6) hx hb hts hinX8 hown hK hP 0 rfl rfl 0 (by decide) hw1 (fun _ h9 => h9) rfl dX8_isAtWindow_7 ?_
  refine va_getN (D := (dC, dI)) (ci := 6) (v := .ref (a 2)) (C := RX6) (T := TX6) (N := 5) hx hb hts hinX6 hown hK hP 1 rfl rfl 0 (by decide) (nw24 hNW) (fun _ h9 => h9) rfl dX8_isAtWindow_10 ?_
  refine va_getN (D := (dC, dI)) (ci := 7) (v := .int (M 2 1)) (C := RX7) (T := TX7) (N := 6) hx hb hts hinX7 hown hK hP 2 rfl rfl 1 (by decide) (nw26 hNW) (fun _ h9 => h9) rfl dX8_isAtWindow_13 ?_
  refine lv_icmp_ne (tgt := 23) hx hb dX8_isAtWindow_16 (by decide) (fun c9 => ?_) (fun c9 => ?_)
  · have hf := it_t hf c9
    refine lv_iconst (v := (0 : Int32)) hx hb dX8_isAtWindow_23 (by decide) ?_
    exact hfX8_isAtWindow_B24  (0 : Int32) hf _ (lv_sub hl [] rfl)
  · have hf := it_n hf c9
    refine lv_iconst (v := (1 : Int32)) hx hb dX8_isAtWindow_19 (by decide) ?_
    refine lv_goto (tgt := 24) hx hb dX8_isAtWindow_20 (by decide) ?_
    exact hfX8_isAtWindow_B24  (1 : Int32) hf _ (lv_sub hl [] rfl)
set_option maxHeartbeats 4000000 in
set_option maxRecDepth 100000 in
theorem n_X8_requireKind (l : Launch) (dC : Nat → ClassId) (dI : Nat → Nat → Nat) (cI cZ cS : ClassId) (f g : Nat → Option Nat) (a : Nat → Nat) (M : Mem) (a1 : Int32) (hf : fX8_requireKind M a1 = some (Sum.inr ())) : Met l yX8_requireKind wsX8_requireKind ({ frames := 0, cells := 0, slots := 0, locals := 0 } : Room) (va_Pc [.ref (a 0), .int a1] (RO8 (dC, dI) cI cZ cS (wX8 cI cZ cS f g a M))) (va_Sv (fun _ => True)) 0 0 (fun _ => False) := by
  refine Met.ofW (cc := cX8_requireKind) (maxL := 2) (ret := none) (by decide) rfl ?_
  intro p e s m args below meth c s₁ B hml hv
  obtain ⟨rfl, hP, hK, hNW⟩ := hv
  have hx := B.exec
  have hb := B.bytes
  have hr := B.returns
  have hts := atoms_spec (ws := wsX8_requireKind) B.pre
  have hown : s.vm.findClass RX8 = some m.cls := findClass_of_methodNamed B.named
  have hlocks := B.notSynchronized
  have hK2 : va_K (dC, dI) vwCl [(cI, .int), (cZ, .boolean)] s := hK.sub (tys' := [(cI, .int), (cZ, .boolean)]) [0, 1] rfl
  have hfX8_requireKind_B10 : ∀ (_ : Unit), fX8_requireKind_B10 M  () = some (Sum.inr ()) → ∀ (ls : Array Slot), lv_has ls 2 [] → W p l e (headSpec wsX8_requireKind ({ frames := 0, cells := 0, slots := 0, locals := 0 } : Room)).room s m ([.ref (a 0), .int a1] : List Value).toArray below meth c s.heap [] 0 0 (MQ below (va_Sv (fun _ => True)) ([.ref (a 0), .int a1] : List Value).toArray s 0 0 (fun _ => False)) (F0 m 10 ls []) := by
    intro  _ hf ls hl
    unfold fX8_requireKind_B10 at hf
    have e9 := so_e hf
    cases e9
  have hl := lv_entry ([.ref (a 0), .int a1]) (n := 2) (Nat.le_of_ble_eq_true rfl)
  rw [lg_entry_eq]
  generalize (lg_sl ([.ref (a 0), .int a1]) ++ List.replicate (2 - (lg_sl ([.ref (a 0), .int a1])).length) Slot.unset).toArray = ls at hl ⊢
  have hl : lv_has ls 2 [(0, .ref (a 0)), (1, .int a1)] := hl
  unfold fX8_requireKind at hf
  refine lv_iload_n hx hb dX8_requireKind_0 rfl (lv_at hl 1 rfl) ?_
  refine lv_if_lt (tgt := 10) hx hb dX8_requireKind_1 (by decide) (fun c9 => ?_) (fun c9 => ?_)
  · have hf := it_t hf c9
    exact hfX8_requireKind_B10  () hf _ (lv_sub hl [] rfl)
  · have hf := it_f hf c9
    refine lv_iload_n hx hb dX8_requireKind_4 rfl (lv_at hl 1 rfl) ?_
    refine lv_bipush (v := (10 : Int32)) hx hb dX8_requireKind_5 (by decide) ?_
    refine lv_icmp_lt (tgt := 21) hx hb dX8_requireKind_7 (by decide) (fun c9 => ?_) (fun c9 => ?_)
    · have hf := it_t hf c9
      have e9 := so_e hf
      cases e9
      exact W.vret hx hb hr (fun t ht hW => ⟨rfl, trivial, ht⟩) fl0 dX8_requireKind_21
    · have hf := it_f hf c9
      exact hfX8_requireKind_B10  () hf _ (lv_sub hl [] rfl)
set_option maxHeartbeats 4000000 in
set_option maxRecDepth 100000 in
theorem n_X8_thingsIn (l : Launch) (dC : Nat → ClassId) (dI : Nat → Nat → Nat) (cI cZ cS : ClassId) (f g : Nat → Option Nat) (a : Nat → Nat) (M : Mem) (a1 : Int32) (a2 : Int32) (z1 : Int32) (hf : fX8_thingsIn M a1 a2 = some (Sum.inr z1)) : Met l yX8_thingsIn wsX8_thingsIn ({ frames := 1, cells := 0, slots := 0, locals := 22 } : Room) (va_Pc [.ref (a 0), .int a1, .int a2] (RO8 (dC, dI) cI cZ cS (wX8 cI cZ cS f g a M))) (k2_QcV (.int z1)) 0 0 (fun _ => False) := by
  refine Met.ofW (cc := cX8_thingsIn) (maxL := 3) (ret := (some .int)) (by decide) rfl ?_
  intro p e s m args below meth c s₁ B hml hv
  obtain ⟨rfl, hP, hK, hNW⟩ := hv
  have hx := B.exec
  have hb := B.bytes
  have hr := B.returns
  have hts := atoms_spec (ws := wsX8_thingsIn) B.pre
  have hown : s.vm.findClass RX8 = some m.cls := findClass_of_methodNamed B.named
  have hlocks := B.notSynchronized
  have hK2 : va_K (dC, dI) vwCl [(cI, .int), (cZ, .boolean)] s := hK.sub (tys' := [(cI, .int), (cZ, .boolean)]) [0, 1] rfl
  have hinX8 : ∀ w ∈ u_ws RX8 TX8 6, w ∈ wsX8_thingsIn := by decide +kernel
  have hw1 := hts (.fieldLink RX8 12 "GlideShelves" "now" "LGlideShelves$State;") (by decide +kernel)
  have hinX6 : ∀ w ∈ u_ws RX6 TX6 5, w ∈ wsX8_thingsIn := by decide +kernel
  have hw3 := hts (.initialized RX7) (by decide +kernel)
  have hw4 := hts (.instanceMethod yX7_countIn) (by decide +kernel)
  have hw5 := hts (.selects RX7 yX7_countIn yX7_countIn) (by decide +kernel)
  have hl := lv_entry ([.ref (a 0), .int a1, .int a2]) (n := 3) (Nat.le_of_ble_eq_true rfl)
  rw [lg_entry_eq]
  generalize (lg_sl ([.ref (a 0), .int a1, .int a2]) ++ List.replicate (3 - (lg_sl ([.ref (a 0), .int a1, .int a2])).length) Slot.unset).toArray = ls at hl ⊢
  have hl : lv_has ls 3 [(0, .ref (a 0)), (1, .int a1), (2, .int a2)] := hl
  unfold fX8_thingsIn at hf
  refine lv_aload_n hx hb dX8_thingsIn_0 rfl (lv_at hl 0 rfl) ?_
  refine lv_iload_n hx hb dX8_thingsIn_1 rfl (lv_at hl 1 rfl) ?_
  obtain ⟨r2, hc2, hf⟩ := bi_s hf
  rcases r2 with E9 | r2
  · have e9 := so_e hf
    cases e9
  have hf := sel_r hf
  refine cROv (W.runV (As := [.int a1]) (rest := []) ⟨hx, hb, hml, hown, hts⟩ (n_X8_requireShelf l dC dI cI cZ cS f g a M a1  hc2) (cwV 1 hts gX8_thingsIn_X8_requireShelf rfl rfl rfl (by decide +kernel) ⟨Nat.le_of_ble_eq_true rfl, Nat.le_of_ble_eq_true rfl⟩) ⟨RO8.blind, va_recv hK hP (ci := 8) (q0 := 0) rfl rfl, RO8.pre hP hK hNW⟩ rfl rfl hl.1 rfl (lv_room (Nat.le_of_ble_eq_true rfl)) dX8_thingsIn_2 ⟨Nat.le_of_ble_eq_true rfl, Nat.le_of_ble_eq_true rfl⟩) ?_
  refine lv_aload_n hx hb dX8_thingsIn_5 rfl (lv_at hl 0 rfl) ?_
  refine lv_iload_n hx hb dX8_thingsIn_6 rfl (lv_at hl 2 rfl) ?_
  obtain ⟨r7, hc7, hf⟩ := bi_s hf
  rcases r7 with E9 | r7
  · have e9 := so_e hf
    cases e9
  have hf := sel_r hf
  refine cROv (W.runV (As := [.int a2]) (rest := []) ⟨hx, hb, hml, hown, hts⟩ (n_X8_requireKind l dC dI cI cZ cS f g a M a2  hc7) (cwV 1 hts gX8_thingsIn_X8_requireKind rfl rfl rfl (by decide +kernel) ⟨Nat.le_of_ble_eq_true rfl, Nat.le_of_ble_eq_true rfl⟩) ⟨RO8.blind, va_recv hK hP (ci := 8) (q0 := 0) rfl rfl, RO8.pre hP hK hNW⟩ rfl rfl hl.1 rfl (lv_room (Nat.le_of_ble_eq_true rfl)) dX8_thingsIn_7 ⟨Nat.le_of_ble_eq_true rfl, Nat.le_of_ble_eq_true rfl⟩) ?_
  refine lv_aload_n hx hb dX8_thingsIn_10 rfl (lv_at hl 0 rfl) ?_
  refine va_get (D := (dC, dI)) (ci := 8) (v := .ref (a 1)) (C := RX8) (T := TX8) (N := 6) hx hb hts hinX8 hown hK hP 0 rfl rfl 0 (by decide) hw1 (fun _ h9 => h9) rfl dX8_thingsIn_11 ?_
  refine va_getN (D := (dC, dI)) (ci := 6) (v := .ref (a 2)) (C := RX6) (T := TX6) (N := 5) hx hb hts hinX6 hown hK hP 1 rfl rfl 0 (by decide) (nw24 hNW) (fun _ h9 => h9) rfl dX8_thingsIn_14 ?_
  refine lv_iload_n hx hb dX8_thingsIn_17 rfl (lv_at hl 1 rfl) ?_
  refine lv_iload_n hx hb dX8_thingsIn_18 rfl (lv_at hl 2 rfl) ?_
  obtain ⟨r19, hc19, hf⟩ := bi_s hf
  have hPc := hP.sub (ws' := (wX7 cI cZ (ofs 2 a) (ofs 2 M))) [2, 3, 4, 5, 6] rfl
  refine cRO (va_Run.run (va_runVN (As := [.int a1, .int a2]) (rest := []) ⟨hx, hb, hml, hown, hts⟩ (c_X7_countIn l dC dI cI cZ (ofs 2 a) (ofs 2 M) a1 a2 r19 hc19) ⟨va_cnB 2 hts gX8_thingsIn_X7_countIn_n162 rfl rfl rfl (nw50 hNW) hw3 (by decide +kernel) ⟨Nat.le_of_ble_eq_true rfl, Nat.le_of_ble_eq_true rfl⟩, hw4, hw5⟩ ⟨RO.blind, va_recv hK hP (ci := 7) (q0 := 2) rfl rfl, RO.pre hPc hK2 hNW⟩ rfl rfl hl.1 rfl (lv_room (Nat.le_of_ble_eq_true rfl)) dX8_thingsIn_19 ⟨Nat.le_of_ble_eq_true rfl, Nat.le_of_ble_eq_true rfl⟩)) ?_
  have e9 := so_e hf
  cases e9
  exact W.iret hx hb hr (fun t ht hW => ⟨rfl, ht⟩) fl0 dX8_thingsIn_22
set_option maxHeartbeats 4000000 in
set_option maxRecDepth 100000 in
theorem t_X8_requireKind (l : Launch) (hst : l.stackTraces = false) (dC : Nat → ClassId) (dI : Nat → Nat → Nat) (cI cZ cS : ClassId) (f g : Nat → Option Nat) (a : Nat → Nat) (sz : Nat) (M : Mem) (a1 : Int32) (E : String) (hf : fX8_requireKind M a1 = some (Sum.inl E)) : vx_Met l yX8_requireKind wsX8_requireKind ({ frames := 6, cells := 1, slots := 6, locals := 110 } : Room) (va_Pc [.ref (a 0), .int a1] (T8 (dC, dI) cI cZ cS (wX8 cI cZ cS f g a M) sz)) (fun _ _ _ _ => False) (vx_X (S := Unit) (fun _ => True) (fun E' _ t => E' = E ∧ WE (dC, dI) cI cZ (wX8 cI cZ cS f g a M) (va_A (wX8 cI cZ cS f g a M) sz) t) (va_A (wX8 cI cZ cS f g a M) sz)) 1 6 (va_A (wX8 cI cZ cS f g a M) sz) := by
  refine vx_ofW (cc := cX8_requireKind) (maxL := 2) (ret := none) (by decide) rfl ?_
  intro p e s m args below meth c s₁ B hml htab hv
  obtain ⟨rfl, hsz, hP, hK, hD0, hNW, hEX⟩ := hv
  have hx := B.exec
  have hb := B.bytes
  have hr := B.returns
  have hts := atoms_spec (ws := wsX8_requireKind) B.pre
  have hown : s.vm.findClass RX8 = some m.cls := findClass_of_methodNamed B.named
  have hlocks := B.notSynchronized
  have hK2 : va_K (dC, dI) vwCl [(cI, .int), (cZ, .boolean)] s := hK.sub (tys' := [(cI, .int), (cZ, .boolean)]) [0, 1] rfl
  have hw0 := hts (.classLink RX8 418 "java/lang/IndexOutOfBoundsException") (by decide +kernel)
  have hw1 := hts (.initialized "java/lang/IndexOutOfBoundsException") (by decide +kernel)
  have hsuf422 : ∀ w ∈ (vx_atS RX8 422 "java/lang/IndexOutOfBoundsException" ["java/lang/RuntimeException", "java/lang/Exception"]).filter goodWord, w.before _ s = true := fun w h => hts w (List.mem_cons_of_mem _ (List.mem_append_right _ h))
  subst hsz
  have hD := hD0.self (sz := s.heap.size)
  generalize hAe : va_A (wX8 cI cZ cS f g a M) s.heap.size = A at hD hEX ⊢
  have hA : ∀ q : Nat, s.heap.size ≤ q → A q := fun q h => by rw [← hAe]; exact Or.inr h
  have hS : va_S A s.heap s.heap [] := va_S.rf
  have hfX8_requireKind_B10 : ∀ (_ : Unit), fX8_requireKind_B10 M  () = some (Sum.inl E) → ∀ (ls : Array Slot), lv_has ls 2 [] → W p l e (headSpec wsX8_requireKind ({ frames := 6, cells := 1, slots := 6, locals := 110 } : Room)).room s m ([.ref (a 0), .int a1] : List Value).toArray below meth c s.heap [] 0 0 (vx_MQ below (fun _ _ _ _ => False) (vx_X (S := Unit) (fun _ => True) (fun E' _ t => E' = E ∧ WE (dC, dI) cI cZ (wX8 cI cZ cS f g a M) A t) A) ([.ref (a 0), .int a1] : List Value).toArray s 1 6 A) (F0 m 10 ls []) := by
    intro  _ hf ls hl
    unfold fX8_requireKind_B10 at hf
    have e9 := so_e hf
    cases e9
    obtain ⟨sa, hsa⟩ := hEX.2.2 (RX8, 427, "there is no such kind") (List.mem_of_getElem? (i := 25) rfl)
    exact vx_throwSW (cls := "java/lang/IndexOutOfBoundsException") (text := "there is no such kind") (names := ["java/lang/RuntimeException", "java/lang/Exception"]) (ik := 418) (is := 427) (ic := 422) (sa := sa) hx hb hst hown (by decide +kernel) (by decide +kernel) hw0 hw1 hsa (hat_422 hsuf422 hNW) (by decide +kernel) hEX.1 hEX.2.1 hS (hl.1.trans hml.symm) dX8_requireKind_10 dX8_requireKind_13 dX8_requireKind_14 dX8_requireKind_17 dX8_requireKind_20 (fun x h => (htab x h).elim) (by decide) (by decide) (Nat.le_of_ble_eq_true rfl) (Nat.le_of_ble_eq_true rfl) hlocks (fun t hal hz hk => ⟨(), trivial, ⟨rfl, WE.th hP hD hz hk⟩, S_ext hS hz hk⟩) hS.2.2 (Nat.le_of_ble_eq_true rfl) (Nat.le_of_ble_eq_true rfl)
  have hl := lv_entry ([.ref (a 0), .int a1]) (n := 2) (Nat.le_of_ble_eq_true rfl)
  rw [lg_entry_eq]
  generalize (lg_sl ([.ref (a 0), .int a1]) ++ List.replicate (2 - (lg_sl ([.ref (a 0), .int a1])).length) Slot.unset).toArray = ls at hl ⊢
  have hl : lv_has ls 2 [(0, .ref (a 0)), (1, .int a1)] := hl
  unfold fX8_requireKind at hf
  refine lv_iload_n hx hb dX8_requireKind_0 rfl (lv_at hl 1 rfl) ?_
  refine lv_if_lt (tgt := 10) hx hb dX8_requireKind_1 (by decide) (fun c9 => ?_) (fun c9 => ?_)
  · have hf := it_t hf c9
    exact hfX8_requireKind_B10  () hf _ (lv_sub hl [] rfl)
  · have hf := it_f hf c9
    refine lv_iload_n hx hb dX8_requireKind_4 rfl (lv_at hl 1 rfl) ?_
    refine lv_bipush (v := (10 : Int32)) hx hb dX8_requireKind_5 (by decide) ?_
    refine lv_icmp_lt (tgt := 21) hx hb dX8_requireKind_7 (by decide) (fun c9 => ?_) (fun c9 => ?_)
    · have hf := it_t hf c9
      have e9 := so_e hf
      cases e9
    · have hf := it_f hf c9
      exact hfX8_requireKind_B10  () hf _ (lv_sub hl [] rfl)
set_option maxHeartbeats 4000000 in
set_option maxRecDepth 100000 in
theorem t_X8_thingsIn (l : Launch) (hst : l.stackTraces = false) (dC : Nat → ClassId) (dI : Nat → Nat → Nat) (cI cZ cS : ClassId) (f g : Nat → Option Nat) (a : Nat → Nat) (sz : Nat) (M : Mem) (a1 : Int32) (a2 : Int32) (E : String) (hf : fX8_thingsIn M a1 a2 = some (Sum.inl E)) : vx_Met l yX8_thingsIn wsX8_thingsIn ({ frames := 7, cells := 1, slots := 6, locals := 131 } : Room) (va_Pc [.ref (a 0), .int a1, .int a2] (T8 (dC, dI) cI cZ cS (wX8 cI cZ cS f g a M) sz)) (fun _ _ _ _ => False) (vx_X (S := Unit) (fun _ => True) (fun E' _ t => E' = E ∧ WE (dC, dI) cI cZ (wX8 cI cZ cS f g a M) (va_A (wX8 cI cZ cS f g a M) sz) t) (va_A (wX8 cI cZ cS f g a M) sz)) 1 6 (va_A (wX8 cI cZ cS f g a M) sz) := by
  refine vx_ofW (cc := cX8_thingsIn) (maxL := 3) (ret := (some .int)) (by decide) rfl ?_
  intro p e s m args below meth c s₁ B hml htab hv
  obtain ⟨rfl, hsz, hP, hK, hD0, hNW, hEX⟩ := hv
  have hx := B.exec
  have hb := B.bytes
  have hr := B.returns
  have hts := atoms_spec (ws := wsX8_thingsIn) B.pre
  have hown : s.vm.findClass RX8 = some m.cls := findClass_of_methodNamed B.named
  have hlocks := B.notSynchronized
  have hK2 : va_K (dC, dI) vwCl [(cI, .int), (cZ, .boolean)] s := hK.sub (tys' := [(cI, .int), (cZ, .boolean)]) [0, 1] rfl
  have hinX8 : ∀ w ∈ u_ws RX8 TX8 6, w ∈ wsX8_thingsIn := by decide +kernel
  have hw1 := hts (.fieldLink RX8 12 "GlideShelves" "now" "LGlideShelves$State;") (by decide +kernel)
  have hinX6 : ∀ w ∈ u_ws RX6 TX6 5, w ∈ wsX8_thingsIn := by decide +kernel
  have hw3 := hts (.initialized RX7) (by decide +kernel)
  have hw4 := hts (.instanceMethod yX7_countIn) (by decide +kernel)
  have hw5 := hts (.selects RX7 yX7_countIn yX7_countIn) (by decide +kernel)
  subst hsz
  have hD := hD0.self (sz := s.heap.size)
  generalize hAe : va_A (wX8 cI cZ cS f g a M) s.heap.size = A at hD hEX ⊢
  have hA : ∀ q : Nat, s.heap.size ≤ q → A q := fun q h => by rw [← hAe]; exact Or.inr h
  have hS : va_S A s.heap s.heap [] := va_S.rf
  have hl := lv_entry ([.ref (a 0), .int a1, .int a2]) (n := 3) (Nat.le_of_ble_eq_true rfl)
  rw [lg_entry_eq]
  generalize (lg_sl ([.ref (a 0), .int a1, .int a2]) ++ List.replicate (3 - (lg_sl ([.ref (a 0), .int a1, .int a2])).length) Slot.unset).toArray = ls at hl ⊢
  have hl : lv_has ls 3 [(0, .ref (a 0)), (1, .int a1), (2, .int a2)] := hl
  unfold fX8_thingsIn at hf
  refine lv_aload_n hx hb dX8_thingsIn_0 rfl (lv_at hl 0 rfl) ?_
  refine lv_iload_n hx hb dX8_thingsIn_1 rfl (lv_at hl 1 rfl) ?_
  obtain ⟨r2, hc2, hf⟩ := bi_s hf
  rcases r2 with E9 | r2
  · have e9 := so_e hf
    cases e9
    have hFc := va_free (wc := (wX8 cI cZ cS f g a M)) hD hS hA [0, 1, 2, 3, 4, 5, 6, 7, 8, 9, 10, 11, 12, 13, 14, 15, 16, 17, 18, 19, 20, 21, 22, 23, 24, 25, 26, 27, 28, 29, 30, 31, 32, 33, 34, 35, 36, 37, 38, 39, 40, 41] rfl
    refine vx_thr (vx_runV (As := [.int a1]) (rest := []) ⟨hx, hb, hml, hown, hts⟩ (t_X8_requireShelf l hst dC dI cI cZ cS f g a _ M a1 _ hc2) (cwV 1 hts gX8_thingsIn_X8_requireShelf rfl rfl rfl (by decide +kernel) ⟨Nat.le_of_ble_eq_true rfl, Nat.le_of_ble_eq_true rfl⟩) ⟨T8.blind, va_recv hK hP (ci := 8) (q0 := 0) rfl rfl, T8.pre hP hK hD hNW (hEX.at hS hFc)⟩ rfl rfl hl.1 rfl (lv_room (Nat.le_of_ble_eq_true rfl)) dX8_thingsIn_2 ⟨Nat.le_of_ble_eq_true rfl, Nat.le_of_ble_eq_true rfl⟩) hS (fun q _ h => hFc q h) hFc (fun ce q9 t H1 locs1 ht hal hP1 hD1 hz1 hS1 hce hcv hcl => ?_)
    exact vx_out (fun x h => (htab x h).elim) hlocks hce hcv hcl (fun t ht hal => ⟨(), trivial, ⟨rfl, WE.mk hP1 (hD1.weaken (fun k q _ h => hFc q.1 h)) ht⟩, hS1.F ht⟩) hS1.2.2 (Nat.le_of_ble_eq_true rfl) (Nat.le_of_ble_eq_true rfl)
  have hf := sel_r hf
  refine cROv (W.runV (As := [.int a1]) (rest := []) ⟨hx, hb, hml, hown, hts⟩ (n_X8_requireShelf l dC dI cI cZ cS f g a M a1  hc2) (cwV 1 hts gX8_thingsIn_X8_requireShelf rfl rfl rfl (by decide +kernel) ⟨Nat.le_of_ble_eq_true rfl, Nat.le_of_ble_eq_true rfl⟩) ⟨RO8.blind, va_recv hK hP (ci := 8) (q0 := 0) rfl rfl, RO8.pre hP hK hNW⟩ rfl rfl hl.1 rfl (lv_room (Nat.le_of_ble_eq_true rfl)) dX8_thingsIn_2 ⟨Nat.le_of_ble_eq_true rfl, Nat.le_of_ble_eq_true rfl⟩) ?_
  refine lv_aload_n hx hb dX8_thingsIn_5 rfl (lv_at hl 0 rfl) ?_
  refine lv_iload_n hx hb dX8_thingsIn_6 rfl (lv_at hl 2 rfl) ?_
  obtain ⟨r7, hc7, hf⟩ := bi_s hf
  rcases r7 with E9 | r7
  · have e9 := so_e hf
    cases e9
    have hFc := va_free (wc := (wX8 cI cZ cS f g a M)) hD hS hA [0, 1, 2, 3, 4, 5, 6, 7, 8, 9, 10, 11, 12, 13, 14, 15, 16, 17, 18, 19, 20, 21, 22, 23, 24, 25, 26, 27, 28, 29, 30, 31, 32, 33, 34, 35, 36, 37, 38, 39, 40, 41] rfl
    refine vx_thr (vx_runV (As := [.int a2]) (rest := []) ⟨hx, hb, hml, hown, hts⟩ (t_X8_requireKind l hst dC dI cI cZ cS f g a _ M a2 _ hc7) (cwV 1 hts gX8_thingsIn_X8_requireKind rfl rfl rfl (by decide +kernel) ⟨Nat.le_of_ble_eq_true rfl, Nat.le_of_ble_eq_true rfl⟩) ⟨T8.blind, va_recv hK hP (ci := 8) (q0 := 0) rfl rfl, T8.pre hP hK hD hNW (hEX.at hS hFc)⟩ rfl rfl hl.1 rfl (lv_room (Nat.le_of_ble_eq_true rfl)) dX8_thingsIn_7 ⟨Nat.le_of_ble_eq_true rfl, Nat.le_of_ble_eq_true rfl⟩) hS (fun q _ h => hFc q h) hFc (fun ce q9 t H1 locs1 ht hal hP1 hD1 hz1 hS1 hce hcv hcl => ?_)
    exact vx_out (fun x h => (htab x h).elim) hlocks hce hcv hcl (fun t ht hal => ⟨(), trivial, ⟨rfl, WE.mk hP1 (hD1.weaken (fun k q _ h => hFc q.1 h)) ht⟩, hS1.F ht⟩) hS1.2.2 (Nat.le_of_ble_eq_true rfl) (Nat.le_of_ble_eq_true rfl)
  have hf := sel_r hf
  refine cROv (W.runV (As := [.int a2]) (rest := []) ⟨hx, hb, hml, hown, hts⟩ (n_X8_requireKind l dC dI cI cZ cS f g a M a2  hc7) (cwV 1 hts gX8_thingsIn_X8_requireKind rfl rfl rfl (by decide +kernel) ⟨Nat.le_of_ble_eq_true rfl, Nat.le_of_ble_eq_true rfl⟩) ⟨RO8.blind, va_recv hK hP (ci := 8) (q0 := 0) rfl rfl, RO8.pre hP hK hNW⟩ rfl rfl hl.1 rfl (lv_room (Nat.le_of_ble_eq_true rfl)) dX8_thingsIn_7 ⟨Nat.le_of_ble_eq_true rfl, Nat.le_of_ble_eq_true rfl⟩) ?_
  refine lv_aload_n hx hb dX8_thingsIn_10 rfl (lv_at hl 0 rfl) ?_
  refine va_get (D := (dC, dI)) (ci := 8) (v := .ref (a 1)) (C := RX8) (T := TX8) (N := 6) hx hb hts hinX8 hown hK hP 0 rfl rfl 0 (by decide) hw1 (fun _ h9 => h9) rfl dX8_thingsIn_11 ?_
  refine va_getN (D := (dC, dI)) (ci := 6) (v := .ref (a 2)) (C := RX6) (T := TX6) (N := 5) hx hb hts hinX6 hown hK hP 1 rfl rfl 0 (by decide) (nw24 hNW) (fun _ h9 => h9) rfl dX8_thingsIn_14 ?_
  refine lv_iload_n hx hb dX8_thingsIn_17 rfl (lv_at hl 1 rfl) ?_
  refine lv_iload_n hx hb dX8_thingsIn_18 rfl (lv_at hl 2 rfl) ?_
  obtain ⟨r19, hc19, hf⟩ := bi_s hf
  have hPc := hP.sub (ws' := (wX7 cI cZ (ofs 2 a) (ofs 2 M))) [2, 3, 4, 5, 6] rfl
  refine cRO (va_Run.run (va_runVN (As := [.int a1, .int a2]) (rest := []) ⟨hx, hb, hml, hown, hts⟩ (c_X7_countIn l dC dI cI cZ (ofs 2 a) (ofs 2 M) a1 a2 r19 hc19) ⟨va_cnB 2 hts gX8_thingsIn_X7_countIn_n162 rfl rfl rfl (nw50 hNW) hw3 (by decide +kernel) ⟨Nat.le_of_ble_eq_true rfl, Nat.le_of_ble_eq_true rfl⟩, hw4, hw5⟩ ⟨RO.blind, va_recv hK hP (ci := 7) (q0 := 2) rfl rfl, RO.pre hPc hK2 hNW⟩ rfl rfl hl.1 rfl (lv_room (Nat.le_of_ble_eq_true rfl)) dX8_thingsIn_19 ⟨Nat.le_of_ble_eq_true rfl, Nat.le_of_ble_eq_true rfl⟩)) ?_
  have e9 := so_e hf
  cases e9
set_option maxHeartbeats 4000000 in
set_option maxRecDepth 100000 in
theorem n_X8_weightOf (l : Launch) (dC : Nat → ClassId) (dI : Nat → Nat → Nat) (cI cZ cS : ClassId) (f g : Nat → Option Nat) (a : Nat → Nat) (M : Mem) (a1 : Int32) (z1 : Int32) (hf : fX8_weightOf M a1 = some (Sum.inr z1)) : Met l yX8_weightOf wsX8_weightOf ({ frames := 2, cells := 0, slots := 0, locals := 45 } : Room) (va_Pc [.ref (a 0), .int a1] (RO8 (dC, dI) cI cZ cS (wX8 cI cZ cS f g a M))) (k2_QcV (.int z1)) 0 0 (fun _ => False) := by
  refine Met.ofW (cc := cX8_weightOf) (maxL := 2) (ret := (some .int)) (by decide) rfl ?_
  intro p e s m args below meth c s₁ B hml hv
  obtain ⟨rfl, hP, hK, hNW⟩ := hv
  have hx := B.exec
  have hb := B.bytes
  have hr := B.returns
  have hts := atoms_spec (ws := wsX8_weightOf) B.pre
  have hown : s.vm.findClass RX8 = some m.cls := findClass_of_methodNamed B.named
  have hlocks := B.notSynchronized
  have hK2 : va_K (dC, dI) vwCl [(cI, .int), (cZ, .boolean)] s := hK.sub (tys' := [(cI, .int), (cZ, .boolean)]) [0, 1] rfl
  have hinX8 : ∀ w ∈ u_ws RX8 TX8 6, w ∈ wsX8_weightOf := by decide +kernel
  have hw1 := hts (.fieldLink RX8 12 "GlideShelves" "now" "LGlideShelves$State;") (by decide +kernel)
  have hw2 := hts (.initialized RX6) (by decide +kernel)
  have hw3 := hts (.instanceMethod yX6_weighShelf) (by decide +kernel)
  have hw4 := hts (.selects RX6 yX6_weighShelf yX6_weighShelf) (by decide +kernel)
  have hl := lv_entry ([.ref (a 0), .int a1]) (n := 2) (Nat.le_of_ble_eq_true rfl)
  rw [lg_entry_eq]
  generalize (lg_sl ([.ref (a 0), .int a1]) ++ List.replicate (2 - (lg_sl ([.ref (a 0), .int a1])).length) Slot.unset).toArray = ls at hl ⊢
  have hl : lv_has ls 2 [(0, .ref (a 0)), (1, .int a1)] := hl
  unfold fX8_weightOf at hf
  refine lv_aload_n hx hb dX8_weightOf_0 rfl (lv_at hl 0 rfl) ?_
  refine lv_iload_n hx hb dX8_weightOf_1 rfl (lv_at hl 1 rfl) ?_
  obtain ⟨r2, hc2, hf⟩ := bi_s hf
  rcases r2 with E9 | r2
  · have e9 := so_e hf
    cases e9
  have hf := sel_r hf
  refine cROv (W.runV (As := [.int a1]) (rest := []) ⟨hx, hb, hml, hown, hts⟩ (n_X8_requireShelf l dC dI cI cZ cS f g a M a1  hc2) (cwV 1 hts gX8_weightOf_X8_requireShelf rfl rfl rfl (by decide +kernel) ⟨Nat.le_of_ble_eq_true rfl, Nat.le_of_ble_eq_true rfl⟩) ⟨RO8.blind, va_recv hK hP (ci := 8) (q0 := 0) rfl rfl, RO8.pre hP hK hNW⟩ rfl rfl hl.1 rfl (lv_room (Nat.le_of_ble_eq_true rfl)) dX8_weightOf_2 ⟨Nat.le_of_ble_eq_true rfl, Nat.le_of_ble_eq_true rfl⟩) ?_
  refine lv_aload_n hx hb dX8_weightOf_5 rfl (lv_at hl 0 rfl) ?_
  refine va_get (D := (dC, dI)) (ci := 8) (v := .ref (a 1)) (C := RX8) (T := TX8) (N := 6) hx hb hts hinX8 hown hK hP 0 rfl rfl 0 (by decide) hw1 (fun _ h9 => h9) rfl dX8_weightOf_6 ?_
  refine lv_iload_n hx hb dX8_weightOf_9 rfl (lv_at hl 1 rfl) ?_
  obtain ⟨r10, hc10, hf⟩ := bi_s hf
  have hPc := hP.sub (ws' := (wX6 cI cZ (ofs 1 a) (ofs 1 M))) [1, 2, 3, 4, 5, 6, 7, 8, 9, 10, 11, 12, 13, 14, 15, 16] rfl
  refine cRO (va_Run.run (va_runVN (As := [.int a1]) (rest := []) ⟨hx, hb, hml, hown, hts⟩ (c_X6_weighShelf l dC dI cI cZ (ofs 1 a) (ofs 1 M) a1 r10 hc10) ⟨va_cnB 1 hts gX8_weightOf_X6_weighShelf_n141 rfl rfl rfl (nw48 hNW) hw2 (by decide +kernel) ⟨Nat.le_of_ble_eq_true rfl, Nat.le_of_ble_eq_true rfl⟩, hw3, hw4⟩ ⟨RO.blind, va_recv hK hP (ci := 6) (q0 := 1) rfl rfl, RO.pre hPc hK2 hNW⟩ rfl rfl hl.1 rfl (lv_room (Nat.le_of_ble_eq_true rfl)) dX8_weightOf_10 ⟨Nat.le_of_ble_eq_true rfl, Nat.le_of_ble_eq_true rfl⟩)) ?_
  have e9 := so_e hf
  cases e9
  exact W.iret hx hb hr (fun t ht hW => ⟨rfl, ht⟩) fl0 dX8_weightOf_13
set_option maxHeartbeats 4000000 in
set_option maxRecDepth 100000 in
theorem t_X8_weightOf (l : Launch) (hst : l.stackTraces = false) (dC : Nat → ClassId) (dI : Nat → Nat → Nat) (cI cZ cS : ClassId) (f g : Nat → Option Nat) (a : Nat → Nat) (sz : Nat) (M : Mem) (a1 : Int32) (E : String) (hf : fX8_weightOf M a1 = some (Sum.inl E)) : vx_Met l yX8_weightOf wsX8_weightOf ({ frames := 7, cells := 1, slots := 6, locals := 131 } : Room) (va_Pc [.ref (a 0), .int a1] (T8 (dC, dI) cI cZ cS (wX8 cI cZ cS f g a M) sz)) (fun _ _ _ _ => False) (vx_X (S := Unit) (fun _ => True) (fun E' _ t => E' = E ∧ WE (dC, dI) cI cZ (wX8 cI cZ cS f g a M) (va_A (wX8 cI cZ cS f g a M) sz) t) (va_A (wX8 cI cZ cS f g a M) sz)) 1 6 (va_A (wX8 cI cZ cS f g a M) sz) := by
  refine vx_ofW (cc := cX8_weightOf) (maxL := 2) (ret := (some .int)) (by decide) rfl ?_
  intro p e s m args below meth c s₁ B hml htab hv
  obtain ⟨rfl, hsz, hP, hK, hD0, hNW, hEX⟩ := hv
  have hx := B.exec
  have hb := B.bytes
  have hr := B.returns
  have hts := atoms_spec (ws := wsX8_weightOf) B.pre
  have hown : s.vm.findClass RX8 = some m.cls := findClass_of_methodNamed B.named
  have hlocks := B.notSynchronized
  have hK2 : va_K (dC, dI) vwCl [(cI, .int), (cZ, .boolean)] s := hK.sub (tys' := [(cI, .int), (cZ, .boolean)]) [0, 1] rfl
  have hinX8 : ∀ w ∈ u_ws RX8 TX8 6, w ∈ wsX8_weightOf := by decide +kernel
  have hw1 := hts (.fieldLink RX8 12 "GlideShelves" "now" "LGlideShelves$State;") (by decide +kernel)
  have hw2 := hts (.initialized RX6) (by decide +kernel)
  have hw3 := hts (.instanceMethod yX6_weighShelf) (by decide +kernel)
  have hw4 := hts (.selects RX6 yX6_weighShelf yX6_weighShelf) (by decide +kernel)
  subst hsz
  have hD := hD0.self (sz := s.heap.size)
  generalize hAe : va_A (wX8 cI cZ cS f g a M) s.heap.size = A at hD hEX ⊢
  have hA : ∀ q : Nat, s.heap.size ≤ q → A q := fun q h => by rw [← hAe]; exact Or.inr h
  have hS : va_S A s.heap s.heap [] := va_S.rf
  have hl := lv_entry ([.ref (a 0), .int a1]) (n := 2) (Nat.le_of_ble_eq_true rfl)
  rw [lg_entry_eq]
  generalize (lg_sl ([.ref (a 0), .int a1]) ++ List.replicate (2 - (lg_sl ([.ref (a 0), .int a1])).length) Slot.unset).toArray = ls at hl ⊢
  have hl : lv_has ls 2 [(0, .ref (a 0)), (1, .int a1)] := hl
  unfold fX8_weightOf at hf
  refine lv_aload_n hx hb dX8_weightOf_0 rfl (lv_at hl 0 rfl) ?_
  refine lv_iload_n hx hb dX8_weightOf_1 rfl (lv_at hl 1 rfl) ?_
  obtain ⟨r2, hc2, hf⟩ := bi_s hf
  rcases r2 with E9 | r2
  · have e9 := so_e hf
    cases e9
    have hFc := va_free (wc := (wX8 cI cZ cS f g a M)) hD hS hA [0, 1, 2, 3, 4, 5, 6, 7, 8, 9, 10, 11, 12, 13, 14, 15, 16, 17, 18, 19, 20, 21, 22, 23, 24, 25, 26, 27, 28, 29, 30, 31, 32, 33, 34, 35, 36, 37, 38, 39, 40, 41] rfl
    refine vx_thr (vx_runV (As := [.int a1]) (rest := []) ⟨hx, hb, hml, hown, hts⟩ (t_X8_requireShelf l hst dC dI cI cZ cS f g a _ M a1 _ hc2) (cwV 1 hts gX8_weightOf_X8_requireShelf rfl rfl rfl (by decide +kernel) ⟨Nat.le_of_ble_eq_true rfl, Nat.le_of_ble_eq_true rfl⟩) ⟨T8.blind, va_recv hK hP (ci := 8) (q0 := 0) rfl rfl, T8.pre hP hK hD hNW (hEX.at hS hFc)⟩ rfl rfl hl.1 rfl (lv_room (Nat.le_of_ble_eq_true rfl)) dX8_weightOf_2 ⟨Nat.le_of_ble_eq_true rfl, Nat.le_of_ble_eq_true rfl⟩) hS (fun q _ h => hFc q h) hFc (fun ce q9 t H1 locs1 ht hal hP1 hD1 hz1 hS1 hce hcv hcl => ?_)
    exact vx_out (fun x h => (htab x h).elim) hlocks hce hcv hcl (fun t ht hal => ⟨(), trivial, ⟨rfl, WE.mk hP1 (hD1.weaken (fun k q _ h => hFc q.1 h)) ht⟩, hS1.F ht⟩) hS1.2.2 (Nat.le_of_ble_eq_true rfl) (Nat.le_of_ble_eq_true rfl)
  have hf := sel_r hf
  refine cROv (W.runV (As := [.int a1]) (rest := []) ⟨hx, hb, hml, hown, hts⟩ (n_X8_requireShelf l dC dI cI cZ cS f g a M a1  hc2) (cwV 1 hts gX8_weightOf_X8_requireShelf rfl rfl rfl (by decide +kernel) ⟨Nat.le_of_ble_eq_true rfl, Nat.le_of_ble_eq_true rfl⟩) ⟨RO8.blind, va_recv hK hP (ci := 8) (q0 := 0) rfl rfl, RO8.pre hP hK hNW⟩ rfl rfl hl.1 rfl (lv_room (Nat.le_of_ble_eq_true rfl)) dX8_weightOf_2 ⟨Nat.le_of_ble_eq_true rfl, Nat.le_of_ble_eq_true rfl⟩) ?_
  refine lv_aload_n hx hb dX8_weightOf_5 rfl (lv_at hl 0 rfl) ?_
  refine va_get (D := (dC, dI)) (ci := 8) (v := .ref (a 1)) (C := RX8) (T := TX8) (N := 6) hx hb hts hinX8 hown hK hP 0 rfl rfl 0 (by decide) hw1 (fun _ h9 => h9) rfl dX8_weightOf_6 ?_
  refine lv_iload_n hx hb dX8_weightOf_9 rfl (lv_at hl 1 rfl) ?_
  obtain ⟨r10, hc10, hf⟩ := bi_s hf
  have hPc := hP.sub (ws' := (wX6 cI cZ (ofs 1 a) (ofs 1 M))) [1, 2, 3, 4, 5, 6, 7, 8, 9, 10, 11, 12, 13, 14, 15, 16] rfl
  refine cRO (va_Run.run (va_runVN (As := [.int a1]) (rest := []) ⟨hx, hb, hml, hown, hts⟩ (c_X6_weighShelf l dC dI cI cZ (ofs 1 a) (ofs 1 M) a1 r10 hc10) ⟨va_cnB 1 hts gX8_weightOf_X6_weighShelf_n141 rfl rfl rfl (nw48 hNW) hw2 (by decide +kernel) ⟨Nat.le_of_ble_eq_true rfl, Nat.le_of_ble_eq_true rfl⟩, hw3, hw4⟩ ⟨RO.blind, va_recv hK hP (ci := 6) (q0 := 1) rfl rfl, RO.pre hPc hK2 hNW⟩ rfl rfl hl.1 rfl (lv_room (Nat.le_of_ble_eq_true rfl)) dX8_weightOf_10 ⟨Nat.le_of_ble_eq_true rfl, Nat.le_of_ble_eq_true rfl⟩)) ?_
  have e9 := so_e hf
  cases e9
set_option maxHeartbeats 4000000 in
set_option maxRecDepth 100000 in
theorem n_X8_fetchesOf (l : Launch) (dC : Nat → ClassId) (dI : Nat → Nat → Nat) (cI cZ cS : ClassId) (f g : Nat → Option Nat) (a : Nat → Nat) (M : Mem) (a1 : Int32) (z1 : Int32) (hf : fX8_fetchesOf M a1 = some (Sum.inr z1)) : Met l yX8_fetchesOf wsX8_fetchesOf ({ frames := 1, cells := 0, slots := 0, locals := 21 } : Room) (va_Pc [.ref (a 0), .int a1] (RO8 (dC, dI) cI cZ cS (wX8 cI cZ cS f g a M))) (k2_QcV (.int z1)) 0 0 (fun _ => False) := by
  refine Met.ofW (cc := cX8_fetchesOf) (maxL := 2) (ret := (some .int)) (by decide) rfl ?_
  intro p e s m args below meth c s₁ B hml hv
  obtain ⟨rfl, hP, hK, hNW⟩ := hv
  have hx := B.exec
  have hb := B.bytes
  have hr := B.returns
  have hts := atoms_spec (ws := wsX8_fetchesOf) B.pre
  have hown : s.vm.findClass RX8 = some m.cls := findClass_of_methodNamed B.named
  have hlocks := B.notSynchronized
  have hK2 : va_K (dC, dI) vwCl [(cI, .int), (cZ, .boolean)] s := hK.sub (tys' := [(cI, .int), (cZ, .boolean)]) [0, 1] rfl
  have hinX8 : ∀ w ∈ u_ws RX8 TX8 6, w ∈ wsX8_fetchesOf := by decide +kernel
  have hw1 := hts (.fieldLink RX8 12 "GlideShelves" "now" "LGlideShelves$State;") (by decide +kernel)
  have hinX6 : ∀ w ∈ u_ws RX6 TX6 5, w ∈ wsX8_fetchesOf := by decide +kernel
  have hinX7 : ∀ w ∈ u_ws RX7 TX7 6, w ∈ wsX8_fetchesOf := by decide +kernel
  have hl := lv_entry ([.ref (a 0), .int a1]) (n := 2) (Nat.le_of_ble_eq_true rfl)
  rw [lg_entry_eq]
  generalize (lg_sl ([.ref (a 0), .int a1]) ++ List.replicate (2 - (lg_sl ([.ref (a 0), .int a1])).length) Slot.unset).toArray = ls at hl ⊢
  have hl : lv_has ls 2 [(0, .ref (a 0)), (1, .int a1)] := hl
  unfold fX8_fetchesOf at hf
  refine lv_aload_n hx hb dX8_fetchesOf_0 rfl (lv_at hl 0 rfl) ?_
  refine lv_iload_n hx hb dX8_fetchesOf_1 rfl (lv_at hl 1 rfl) ?_
  obtain ⟨r2, hc2, hf⟩ := bi_s hf
  rcases r2 with E9 | r2
  · have e9 := so_e hf
    cases e9
  have hf := sel_r hf
  refine cROv (W.runV (As := [.int a1]) (rest := []) ⟨hx, hb, hml, hown, hts⟩ (n_X8_requireShelf l dC dI cI cZ cS f g a M a1  hc2) (cwV 1 hts gX8_fetchesOf_X8_requireShelf rfl rfl rfl (by decide +kernel) ⟨Nat.le_of_ble_eq_true rfl, Nat.le_of_ble_eq_true rfl⟩) ⟨RO8.blind, va_recv hK hP (ci := 8) (q0 := 0) rfl rfl, RO8.pre hP hK hNW⟩ rfl rfl hl.1 rfl (lv_room (Nat.le_of_ble_eq_true rfl)) dX8_fetchesOf_2 ⟨Nat.le_of_ble_eq_true rfl, Nat.le_of_ble_eq_true rfl⟩) ?_
  refine lv_aload_n hx hb dX8_fetchesOf_5 rfl (lv_at hl 0 rfl) ?_
  refine va_get (D := (dC, dI)) (ci := 8) (v := .ref (a 1)) (C := RX8) (T := TX8) (N := 6) hx hb hts hinX8 hown hK hP 0 rfl rfl 0 (by decide) hw1 (fun _ h9 => h9) rfl dX8_fetchesOf_6 ?_
  refine va_getN (D := (dC, dI)) (ci := 6) (v := .ref (a 2)) (C := RX6) (T := TX6) (N := 5) hx hb hts hinX6 hown hK hP 1 rfl rfl 0 (by decide) (nw24 hNW) (fun _ h9 => h9) rfl dX8_fetchesOf_9 ?_
  refine va_getN (D := (dC, dI)) (ci := 7) (v := .ref (a 5)) (C := RX7) (T := TX7) (N := 6) hx hb hts hinX7 hown hK hP 2 rfl rfl 4 (by decide) (nw16 hNW) (fun _ h9 => h9) rfl dX8_fetchesOf_12 ?_
  refine lv_iload_n hx hb dX8_fetchesOf_15 rfl (lv_at hl 1 rfl) ?_
  obtain ⟨hi, hf⟩ := gd_s hf
  refine va_iald (D := (dC, dI)) (f := (M 5)) hx hb hK hP 5 0 rfl rfl (inb_in hi) dX8_fetchesOf_16 ?_
  have e9 := so_e hf
  cases e9
  exact W.iret hx hb hr (fun t ht hW => ⟨rfl, ht⟩) fl0 dX8_fetchesOf_17
set_option maxHeartbeats 4000000 in
set_option maxRecDepth 100000 in
theorem t_X8_fetchesOf (l : Launch) (hst : l.stackTraces = false) (dC : Nat → ClassId) (dI : Nat → Nat → Nat) (cI cZ cS : ClassId) (f g : Nat → Option Nat) (a : Nat → Nat) (sz : Nat) (M : Mem) (a1 : Int32) (E : String) (hf : fX8_fetchesOf M a1 = some (Sum.inl E)) : vx_Met l yX8_fetchesOf wsX8_fetchesOf ({ frames := 7, cells := 1, slots := 6, locals := 131 } : Room) (va_Pc [.ref (a 0), .int a1] (T8 (dC, dI) cI cZ cS (wX8 cI cZ cS f g a M) sz)) (fun _ _ _ _ => False) (vx_X (S := Unit) (fun _ => True) (fun E' _ t => E' = E ∧ WE (dC, dI) cI cZ (wX8 cI cZ cS f g a M) (va_A (wX8 cI cZ cS f g a M) sz) t) (va_A (wX8 cI cZ cS f g a M) sz)) 1 6 (va_A (wX8 cI cZ cS f g a M) sz) := by
  refine vx_ofW (cc := cX8_fetchesOf) (maxL := 2) (ret := (some .int)) (by decide) rfl ?_
  intro p e s m args below meth c s₁ B hml htab hv
  obtain ⟨rfl, hsz, hP, hK, hD0, hNW, hEX⟩ := hv
  have hx := B.exec
  have hb := B.bytes
  have hr := B.returns
  have hts := atoms_spec (ws := wsX8_fetchesOf) B.pre
  have hown : s.vm.findClass RX8 = some m.cls := findClass_of_methodNamed B.named
  have hlocks := B.notSynchronized
  have hK2 : va_K (dC, dI) vwCl [(cI, .int), (cZ, .boolean)] s := hK.sub (tys' := [(cI, .int), (cZ, .boolean)]) [0, 1] rfl
  have hinX8 : ∀ w ∈ u_ws RX8 TX8 6, w ∈ wsX8_fetchesOf := by decide +kernel
  have hw1 := hts (.fieldLink RX8 12 "GlideShelves" "now" "LGlideShelves$State;") (by decide +kernel)
  have hinX6 : ∀ w ∈ u_ws RX6 TX6 5, w ∈ wsX8_fetchesOf := by decide +kernel
  have hinX7 : ∀ w ∈ u_ws RX7 TX7 6, w ∈ wsX8_fetchesOf := by decide +kernel
  subst hsz
  have hD := hD0.self (sz := s.heap.size)
  generalize hAe : va_A (wX8 cI cZ cS f g a M) s.heap.size = A at hD hEX ⊢
  have hA : ∀ q : Nat, s.heap.size ≤ q → A q := fun q h => by rw [← hAe]; exact Or.inr h
  have hS : va_S A s.heap s.heap [] := va_S.rf
  have hl := lv_entry ([.ref (a 0), .int a1]) (n := 2) (Nat.le_of_ble_eq_true rfl)
  rw [lg_entry_eq]
  generalize (lg_sl ([.ref (a 0), .int a1]) ++ List.replicate (2 - (lg_sl ([.ref (a 0), .int a1])).length) Slot.unset).toArray = ls at hl ⊢
  have hl : lv_has ls 2 [(0, .ref (a 0)), (1, .int a1)] := hl
  unfold fX8_fetchesOf at hf
  refine lv_aload_n hx hb dX8_fetchesOf_0 rfl (lv_at hl 0 rfl) ?_
  refine lv_iload_n hx hb dX8_fetchesOf_1 rfl (lv_at hl 1 rfl) ?_
  obtain ⟨r2, hc2, hf⟩ := bi_s hf
  rcases r2 with E9 | r2
  · have e9 := so_e hf
    cases e9
    have hFc := va_free (wc := (wX8 cI cZ cS f g a M)) hD hS hA [0, 1, 2, 3, 4, 5, 6, 7, 8, 9, 10, 11, 12, 13, 14, 15, 16, 17, 18, 19, 20, 21, 22, 23, 24, 25, 26, 27, 28, 29, 30, 31, 32, 33, 34, 35, 36, 37, 38, 39, 40, 41] rfl
    refine vx_thr (vx_runV (As := [.int a1]) (rest := []) ⟨hx, hb, hml, hown, hts⟩ (t_X8_requireShelf l hst dC dI cI cZ cS f g a _ M a1 _ hc2) (cwV 1 hts gX8_fetchesOf_X8_requireShelf rfl rfl rfl (by decide +kernel) ⟨Nat.le_of_ble_eq_true rfl, Nat.le_of_ble_eq_true rfl⟩) ⟨T8.blind, va_recv hK hP (ci := 8) (q0 := 0) rfl rfl, T8.pre hP hK hD hNW (hEX.at hS hFc)⟩ rfl rfl hl.1 rfl (lv_room (Nat.le_of_ble_eq_true rfl)) dX8_fetchesOf_2 ⟨Nat.le_of_ble_eq_true rfl, Nat.le_of_ble_eq_true rfl⟩) hS (fun q _ h => hFc q h) hFc (fun ce q9 t H1 locs1 ht hal hP1 hD1 hz1 hS1 hce hcv hcl => ?_)
    exact vx_out (fun x h => (htab x h).elim) hlocks hce hcv hcl (fun t ht hal => ⟨(), trivial, ⟨rfl, WE.mk hP1 (hD1.weaken (fun k q _ h => hFc q.1 h)) ht⟩, hS1.F ht⟩) hS1.2.2 (Nat.le_of_ble_eq_true rfl) (Nat.le_of_ble_eq_true rfl)
  have hf := sel_r hf
  refine cROv (W.runV (As := [.int a1]) (rest := []) ⟨hx, hb, hml, hown, hts⟩ (n_X8_requireShelf l dC dI cI cZ cS f g a M a1  hc2) (cwV 1 hts gX8_fetchesOf_X8_requireShelf rfl rfl rfl (by decide +kernel) ⟨Nat.le_of_ble_eq_true rfl, Nat.le_of_ble_eq_true rfl⟩) ⟨RO8.blind, va_recv hK hP (ci := 8) (q0 := 0) rfl rfl, RO8.pre hP hK hNW⟩ rfl rfl hl.1 rfl (lv_room (Nat.le_of_ble_eq_true rfl)) dX8_fetchesOf_2 ⟨Nat.le_of_ble_eq_true rfl, Nat.le_of_ble_eq_true rfl⟩) ?_
  refine lv_aload_n hx hb dX8_fetchesOf_5 rfl (lv_at hl 0 rfl) ?_
  refine va_get (D := (dC, dI)) (ci := 8) (v := .ref (a 1)) (C := RX8) (T := TX8) (N := 6) hx hb hts hinX8 hown hK hP 0 rfl rfl 0 (by decide) hw1 (fun _ h9 => h9) rfl dX8_fetchesOf_6 ?_
  refine va_getN (D := (dC, dI)) (ci := 6) (v := .ref (a 2)) (C := RX6) (T := TX6) (N := 5) hx hb hts hinX6 hown hK hP 1 rfl rfl 0 (by decide) (nw24 hNW) (fun _ h9 => h9) rfl dX8_fetchesOf_9 ?_
  refine va_getN (D := (dC, dI)) (ci := 7) (v := .ref (a 5)) (C := RX7) (T := TX7) (N := 6) hx hb hts hinX7 hown hK hP 2 rfl rfl 4 (by decide) (nw16 hNW) (fun _ h9 => h9) rfl dX8_fetchesOf_12 ?_
  refine lv_iload_n hx hb dX8_fetchesOf_15 rfl (lv_at hl 1 rfl) ?_
  obtain ⟨hi, hf⟩ := gd_s hf
  refine va_iald (D := (dC, dI)) (f := (M 5)) hx hb hK hP 5 0 rfl rfl (inb_in hi) dX8_fetchesOf_16 ?_
  have e9 := so_e hf
  cases e9
set_option maxHeartbeats 4000000 in
set_option maxRecDepth 100000 in
theorem n_X8_requireShelfAtWindow (l : Launch) (dC : Nat → ClassId) (dI : Nat → Nat → Nat) (cI cZ cS : ClassId) (f g : Nat → Option Nat) (a : Nat → Nat) (M : Mem) (hf : fX8_requireShelfAtWindow M  = some (Sum.inr ())) : Met l yX8_requireShelfAtWindow wsX8_requireShelfAtWindow ({ frames := 0, cells := 0, slots := 0, locals := 0 } : Room) (va_Pc [.ref (a 0)] (RO8 (dC, dI) cI cZ cS (wX8 cI cZ cS f g a M))) (va_Sv (fun _ => True)) 0 0 (fun _ => False) := by
  refine Met.ofW (cc := cX8_requireShelfAtWindow) (maxL := 1) (ret := none) (by decide) rfl ?_
  intro p e s m args below meth c s₁ B hml hv
  obtain ⟨rfl, hP, hK, hNW⟩ := hv
  have hx := B.exec
  have hb := B.bytes
  have hr := B.returns
  have hts := atoms_spec (ws := wsX8_requireShelfAtWindow) B.pre
  have hown : s.vm.findClass RX8 = some m.cls := findClass_of_methodNamed B.named
  have hlocks := B.notSynchronized
  have hK2 : va_K (dC, dI) vwCl [(cI, .int), (cZ, .boolean)] s := hK.sub (tys' := [(cI, .int), (cZ, .boolean)]) [0, 1] rfl
  have hinX8 : ∀ w ∈ u_ws RX8 TX8 6, w ∈ wsX8_requireShelfAtWindow := by decide +kernel
  have hw1 := hts (.fieldLink RX8 12 "GlideShelves" "now" "LGlideShelves$State;") (by decide +kernel)
  have hinX6 : ∀ w ∈ u_ws RX6 TX6 5, w ∈ wsX8_requireShelfAtWindow := by decide +kernel
  have hinX7 : ∀ w ∈ u_ws RX7 TX7 6, w ∈ wsX8_requireShelfAtWindow := by decide +kernel
  have hfX8_requireShelfAtWindow_B36 : ∀ (_ : Unit), fX8_requireShelfAtWindow_B36 M  () = some (Sum.inr ()) → ∀ (ls : Array Slot), lv_has ls 1 [] → W p l e (headSpec wsX8_requireShelfAtWindow ({ frames := 0, cells := 0, slots := 0, locals := 0 } : Room)).room s m ([.ref (a 0)] : List Value).toArray below meth c s.heap [] 0 0 (MQ below (va_Sv (fun _ => True)) ([.ref (a 0)] : List Value).toArray s 0 0 (fun _ => False)) (F0 m 36 ls []) := by
    intro  _ hf ls hl
    unfold fX8_requireShelfAtWindow_B36 at hf
    have e9 := so_e hf
    cases e9
  have hl := lv_entry ([.ref (a 0)]) (n := 1) (Nat.le_of_ble_eq_true rfl)
  rw [lg_entry_eq]
  generalize (lg_sl ([.ref (a 0)]) ++ List.replicate (1 - (lg_sl ([.ref (a 0)])).length) Slot.unset).toArray = ls at hl ⊢
  have hl : lv_has ls 1 [(0, .ref (a 0))] := hl
  unfold fX8_requireShelfAtWindow at hf
  refine lv_aload_n hx hb dX8_requireShelfAtWindow_0 rfl (lv_at hl 0 rfl) ?_
  refine va_get (D := (dC, dI)) (ci := 8) (v := .ref (a 1)) (C := RX8) (T := TX8) (N := 6) hx hb hts hinX8 hown hK hP 0 rfl rfl 0 (by decide) hw1 (fun _ h9 => h9) rfl dX8_requireShelfAtWindow_1 ?_
  refine va_getN (D := (dC, dI)) (ci := 6) (v := .ref (a 2)) (C := RX6) (T := TX6) (N := 5) hx hb hts hinX6 hown hK hP 1 rfl rfl 0 (by decide) (nw24 hNW) (fun _ h9 => h9) rfl dX8_requireShelfAtWindow_4 ?_
  refine va_getN (D := (dC, dI)) (ci := 7) (v := .int (M 2 1)) (C := RX7) (T := TX7) (N := 6) hx hb hts hinX7 hown hK hP 2 rfl rfl 1 (by decide) (nw26 hNW) (fun _ h9 => h9) rfl dX8_requireShelfAtWindow_7 ?_
  refine lv_if_lt (tgt := 36) hx hb dX8_requireShelfAtWindow_10 (by decide) (fun c9 => ?_) (fun c9 => ?_)
  · have hf := it_t hf c9
    exact hfX8_requireShelfAtWindow_B36  () hf _ (lv_sub hl [] rfl)
  · have hf := it_f hf c9
    refine lv_aload_n hx hb dX8_requireShelfAtWindow_13 rfl (lv_at hl 0 rfl) ?_
    refine va_get (D := (dC, dI)) (ci := 8) (v := .ref (a 1)) (C := RX8) (T := TX8) (N := 6) hx hb hts hinX8 hown hK hP 0 rfl rfl 0 (by decide) hw1 (fun _ h9 => h9) rfl dX8_requireShelfAtWindow_14 ?_
    refine va_getN (D := (dC, dI)) (ci := 6) (v := .ref (a 2)) (C := RX6) (T := TX6) (N := 5) hx hb hts hinX6 hown hK hP 1 rfl rfl 0 (by decide) (nw24 hNW) (fun _ h9 => h9) rfl dX8_requireShelfAtWindow_17 ?_
    refine va_getN (D := (dC, dI)) (ci := 7) (v := .int (M 2 1)) (C := RX7) (T := TX7) (N := 6) hx hb hts hinX7 hown hK hP 2 rfl rfl 1 (by decide) (nw26 hNW) (fun _ h9 => h9) rfl dX8_requireShelfAtWindow_20 ?_
    refine lv_aload_n hx hb dX8_requireShelfAtWindow_23 rfl (lv_at hl 0 rfl) ?_
    refine va_get (D := (dC, dI)) (ci := 8) (v := .ref (a 1)) (C := RX8) (T := TX8) (N := 6) hx hb hts hinX8 hown hK hP 0 rfl rfl 0 (by decide) hw1 (fun _ h9 => h9) rfl dX8_requireShelfAtWindow_24 ?_
    refine va_getN (D := (dC, dI)) (ci := 6) (v := .ref (a 2)) (C := RX6) (T := TX6) (N := 5) hx hb hts hinX6 hown hK hP 1 rfl rfl 0 (by decide) (nw24 hNW) (fun _ h9 => h9) rfl dX8_requireShelfAtWindow_27 ?_
    refine va_getN (D := (dC, dI)) (ci := 7) (v := .int (M 2 0)) (C := RX7) (T := TX7) (N := 6) hx hb hts hinX7 hown hK hP 2 rfl rfl 0 (by decide) (nw25 hNW) (fun _ h9 => h9) rfl dX8_requireShelfAtWindow_30 ?_
    refine lv_icmp_lt (tgt := 47) hx hb dX8_requireShelfAtWindow_33 (by decide) (fun c9 => ?_) (fun c9 => ?_)
    · have hf := it_t hf c9
      have e9 := so_e hf
      cases e9
      exact W.vret hx hb hr (fun t ht hW => ⟨rfl, trivial, ht⟩) fl0 dX8_requireShelfAtWindow_47
    · have hf := it_f hf c9
      exact hfX8_requireShelfAtWindow_B36  () hf _ (lv_sub hl [] rfl)
set_option maxHeartbeats 4000000 in
set_option maxRecDepth 100000 in
theorem n_X8_atWindow (l : Launch) (dC : Nat → ClassId) (dI : Nat → Nat → Nat) (cI cZ cS : ClassId) (f g : Nat → Option Nat) (a : Nat → Nat) (M : Mem) (z1 : Int32) (hf : fX8_atWindow M  = some (Sum.inr z1)) : Met l yX8_atWindow wsX8_atWindow ({ frames := 1, cells := 0, slots := 0, locals := 20 } : Room) (va_Pc [.ref (a 0)] (RO8 (dC, dI) cI cZ cS (wX8 cI cZ cS f g a M))) (k2_QcV (.int z1)) 0 0 (fun _ => False) := by
  refine Met.ofW (cc := cX8_atWindow) (maxL := 1) (ret := (some .int)) (by decide) rfl ?_
  intro p e s m args below meth c s₁ B hml hv
  obtain ⟨rfl, hP, hK, hNW⟩ := hv
  have hx := B.exec
  have hb := B.bytes
  have hr := B.returns
  have hts := atoms_spec (ws := wsX8_atWindow) B.pre
  have hown : s.vm.findClass RX8 = some m.cls := findClass_of_methodNamed B.named
  have hlocks := B.notSynchronized
  have hK2 : va_K (dC, dI) vwCl [(cI, .int), (cZ, .boolean)] s := hK.sub (tys' := [(cI, .int), (cZ, .boolean)]) [0, 1] rfl
  have hinX8 : ∀ w ∈ u_ws RX8 TX8 6, w ∈ wsX8_atWindow := by decide +kernel
  have hw1 := hts (.fieldLink RX8 12 "GlideShelves" "now" "LGlideShelves$State;") (by decide +kernel)
  have hinX6 : ∀ w ∈ u_ws RX6 TX6 5, w ∈ wsX8_atWindow := by decide +kernel
  have hinX7 : ∀ w ∈ u_ws RX7 TX7 6, w ∈ wsX8_atWindow := by decide +kernel
  have hl := lv_entry ([.ref (a 0)]) (n := 1) (Nat.le_of_ble_eq_true rfl)
  rw [lg_entry_eq]
  generalize (lg_sl ([.ref (a 0)]) ++ List.replicate (1 - (lg_sl ([.ref (a 0)])).length) Slot.unset).toArray = ls at hl ⊢
  have hl : lv_has ls 1 [(0, .ref (a 0))] := hl
  unfold fX8_atWindow at hf
  refine lv_aload_n hx hb dX8_atWindow_0 rfl (lv_at hl 0 rfl) ?_
  obtain ⟨r1, hc1, hf⟩ := bi_s hf
  rcases r1 with E9 | r1
  · have e9 := so_e hf
    cases e9
  have hf := sel_r hf
  refine cROv (W.runV (As := []) (rest := []) ⟨hx, hb, hml, hown, hts⟩ (n_X8_requireShelfAtWindow l dC dI cI cZ cS f g a M  hc1) (cwV 0 hts gX8_atWindow_X8_requireShelfAtWindow rfl rfl rfl (by decide +kernel) ⟨Nat.le_of_ble_eq_true rfl, Nat.le_of_ble_eq_true rfl⟩) ⟨RO8.blind, va_recv hK hP (ci := 8) (q0 := 0) rfl rfl, RO8.pre hP hK hNW⟩ rfl rfl hl.1 rfl (lv_room (Nat.le_of_ble_eq_true rfl)) dX8_atWindow_1 ⟨Nat.le_of_ble_eq_true rfl, Nat.le_of_ble_eq_true rfl⟩) ?_
  refine lv_aload_n hx hb dX8_atWindow_4 rfl (lv_at hl 0 rfl) ?_
  refine va_get (D := (dC, dI)) (ci := 8) (v := .ref (a 1)) (C := RX8) (T := TX8) (N := 6) hx hb hts hinX8 hown hK hP 0 rfl rfl 0 (by decide) hw1 (fun _ h9 => h9) rfl dX8_atWindow_5 ?_
  refine va_getN (D := (dC, dI)) (ci := 6) (v := .ref (a 2)) (C := RX6) (T := TX6) (N := 5) hx hb hts hinX6 hown hK hP 1 rfl rfl 0 (by decide) (nw24 hNW) (fun _ h9 => h9) rfl dX8_atWindow_8 ?_
  refine va_getN (D := (dC, dI)) (ci := 7) (v := .int (M 2 1)) (C := RX7) (T := TX7) (N := 6) hx hb hts hinX7 hown hK hP 2 rfl rfl 1 (by decide) (nw26 hNW) (fun _ h9 => h9) rfl dX8_atWindow_11 ?_
  have e9 := so_e hf
  cases e9
  exact W.iret hx hb hr (fun t ht hW => ⟨rfl, ht⟩) fl0 dX8_atWindow_14
