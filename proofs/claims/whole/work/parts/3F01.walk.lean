set_option maxHeartbeats 4000000 in
set_option maxRecDepth 100000 in
theorem t_X8_requireShelfAtWindow (l : Launch) (hst : l.stackTraces = false) (dC : Nat → ClassId) (dI : Nat → Nat → Nat) (cI cZ cS : ClassId) (f g : Nat → Option Nat) (a : Nat → Nat) (sz : Nat) (M : Mem) (E : String) (hf : fX8_requireShelfAtWindow M  = some (Sum.inl E)) : vx_Met l yX8_requireShelfAtWindow wsX8_requireShelfAtWindow ({ frames := 6, cells := 1, slots := 6, locals := 110 } : Room) (va_Pc [.ref (a 0)] (T8 (dC, dI) cI cZ cS (wX8 cI cZ cS f g a M) sz)) (fun _ _ _ _ => False) (vx_X (S := Unit) (fun _ => True) (fun E' _ t => E' = E ∧ WE (dC, dI) cI cZ (wX8 cI cZ cS f g a M) (va_A (wX8 cI cZ cS f g a M) sz) t) (va_A (wX8 cI cZ cS f g a M) sz)) 1 6 (va_A (wX8 cI cZ cS f g a M) sz) := by
  refine vx_ofW (cc := cX8_requireShelfAtWindow) (maxL := 1) (ret := none) (by decide) rfl ?_
  intro p e s m args below meth c s₁ B hml htab hv
  obtain ⟨rfl, hsz, hP, hK, hD0, hNW, hEX⟩ := hv
  have hx := B.exec
  have hb := B.bytes
  have hr := B.returns
  have hts := atoms_spec (ws := wsX8_requireShelfAtWindow) B.pre
  have hown : s.vm.findClass RX8 = some m.cls := findClass_of_methodNamed B.named
  have hlocks := B.notSynchronized
  have hK2 : va_K (dC, dI) vwCl [(cI, .int), (cZ, .boolean)] s := hK.sub (tys' := [(cI, .int), (cZ, .boolean)]) [0, 1] rfl
  have hinX8 : ∀ w ∈ u_ws RX8 TX8 6, w ∈ wsX8_requireShelfAtWindow := by decide +kernel
  have hw1 := hts (.fieldLink RX8 12 "GlideShelves" "now" "LGlideShelves$State;") (by decide +kernel)
  have hinX6 : ∀ w ∈ u_ws RX6 TX6 5, w ∈ wsX8_requireShelfAtWindow := by decide +kernel
  have hinX7 : ∀ w ∈ u_ws RX7 TX7 6, w ∈ wsX8_requireShelfAtWindow := by decide +kernel
  have hw4 := hts (.classLink RX8 54 "java/lang/IllegalStateException") (by decide +kernel)
  have hw5 := hts (.initialized "java/lang/IllegalStateException") (by decide +kernel)
  have hsuf58 : ∀ w ∈ (vx_atS RX8 58 "java/lang/IllegalStateException" ["java/lang/RuntimeException", "java/lang/Exception"]).filter goodWord, w.before _ s = true := fun w h => hts w (List.mem_cons_of_mem _ (List.mem_append_right _ h))
  subst hsz
  have hD := hD0.self (sz := s.heap.size)
  generalize hAe : va_A (wX8 cI cZ cS f g a M) s.heap.size = A at hD hEX ⊢
  have hA : ∀ q : Nat, s.heap.size ≤ q → A q := fun q h => by rw [← hAe]; exact Or.inr h
  have hS : va_S A s.heap s.heap [] := va_S.rf
  have hfX8_requireShelfAtWindow_B36 : ∀ (_ : Unit), fX8_requireShelfAtWindow_B36 M  () = some (Sum.inl E) → ∀ (ls : Array Slot), lv_has ls 1 [] → W p l e (headSpec wsX8_requireShelfAtWindow ({ frames := 6, cells := 1, slots := 6, locals := 110 } : Room)).room s m ([.ref (a 0)] : List Value).toArray below meth c s.heap [] 0 0 (vx_MQ below (fun _ _ _ _ => False) (vx_X (S := Unit) (fun _ => True) (fun E' _ t => E' = E ∧ WE (dC, dI) cI cZ (wX8 cI cZ cS f g a M) A t) A) ([.ref (a 0)] : List Value).toArray s 1 6 A) (F0 m 36 ls []) := by
    intro  _ hf ls hl
    unfold fX8_requireShelfAtWindow_B36 at hf
    have e9 := so_e hf
    cases e9
    obtain ⟨sa, hsa⟩ := hEX.2.2 (RX8, 435, "no shelf is at the window") (List.mem_of_getElem? (i := 29) rfl)
    exact vx_throwSW (cls := "java/lang/IllegalStateException") (text := "no shelf is at the window") (names := ["java/lang/RuntimeException", "java/lang/Exception"]) (ik := 54) (is := 435) (ic := 58) (sa := sa) hx hb hst hown (by decide +kernel) (by decide +kernel) hw4 hw5 hsa (hat_58 hsuf58 hNW) (by decide +kernel) hEX.1 hEX.2.1 hS (hl.1.trans hml.symm) dX8_requireShelfAtWindow_36 dX8_requireShelfAtWindow_39 dX8_requireShelfAtWindow_40 dX8_requireShelfAtWindow_43 dX8_requireShelfAtWindow_46 (fun x h => (htab x h).elim) (by decide) (by decide) (Nat.le_of_ble_eq_true rfl) (Nat.le_of_ble_eq_true rfl) hlocks (fun t hal hz hk => ⟨(), trivial, ⟨rfl, WE.th hP hD hz hk⟩, S_ext hS hz hk⟩) hS.2.2 (Nat.le_of_ble_eq_true rfl) (Nat.le_of_ble_eq_true rfl)
  have hl := lv_entry ([.ref (a 0)]) (n := 1) (Nat.le_of_ble_eq_true rfl)
  rw [lg_entry_eq]
  generalize (lg_sl ([.ref (a 0)]) ++ List.replicate (1 - (lg_sl ([.ref (a 0)])).length) Slot.unset).toArray = ls at hl ⊢
  have hl : lv_has ls 1 [(0, .ref (a 0))] := hl
  unfold fX8_requireShelfAtWindow at hf
  refine lv_aload_n hx hb dX8_requireShelfAtWindow_0 rfl (lv_at hl 0 rfl) ?_
  refine va_get (D := (dC, dI)) (ci := 8) (v := .ref (a 1)) (C := RX8) (T := TX8) (N := 6) hx hb hts hinX8 hown hK hP 0 rfl rfl 0 (by decide) hw1 (fun _ h9 => h9) rfl dX8_requireShelfAtWindow_1 ?_
  refine va_getN (D := (dC, dI)) (ci := 6) (v := .ref (a 2)) (C := RX6) (T := TX6) (N := 5) hx hb hts hinX6 hown hK hP 1 rfl rfl 0 (by decide) (nw24 hNW) (fun _ h9 => h9) rfl dX8_requireShelfAtWindow_4 ?_
  refine va_getN (D := (dC, dI)) (ci := 7) (v := .int (M 2 1)) (C := RX7) (T := TX7) (N := 6) hx hb hts hinX7 hown hK hP 2 rfl rfl 1 (by decide) (nw26 hNW) (fun _ h9 => h9) rfl dX8_requireShelfAtWindow_7 ?_
  refine lv_if_lt (tgt := 36) hx hb dX8_requireShelfAtWindow_10 (by decide) (fun c9 => ?_) (fun c9 => ?_)
  · have hf := it_t hf c9
    exact hfX8_requireShelfAtWindow_B36  () hf _ (lv_sub hl [] rfl)
  · have hf := it_f hf c9
    refine lv_aload_n hx hb dX8_requireShelfAtWindow_13 rfl (lv_at hl 0 rfl) ?_
    refine va_get (D := (dC, dI)) (ci := 8) (v := .ref (a 1)) (C := RX8) (T := TX8) (N := 6) hx hb hts hinX8 hown hK hP 0 rfl rfl 0 (by decide) hw1 (fun _ h9 => h9) rfl dX8_requireShelfAtWindow_14 ?_
    refine va_getN (D := (dC, dI)) (ci := 6) (v := .ref (a 2)) (C := RX6) (T := TX6) (N := 5) hx hb hts hinX6 hown hK hP 1 rfl rfl 0 (by decide) (nw24 hNW) (fun _ h9 => h9) rfl dX8_requireShelfAtWindow_17 ?_
    refine va_getN (D := (dC, dI)) (ci := 7) (v := .int (M 2 1)) (C := RX7) (T := TX7) (N := 6) hx hb hts hinX7 hown hK hP 2 rfl rfl 1 (by decide) (nw26 hNW) (fun _ h9 => h9) rfl dX8_requireShelfAtWindow_20 ?_
    refine lv_aload_n hx hb dX8_requireShelfAtWindow_23 rfl (lv_at hl 0 rfl) ?_
    refine va_get (D := (dC, dI)) (ci := 8) (v := .ref (a 1)) (C := RX8) (T := TX8) (N := 6) hx hb hts hinX8 hown hK hP 0 rfl rfl 0 (by decide) hw1 (fun _ h9 => h9) rfl dX8_requireShelfAtWindow_24 ?_
    refine va_getN (D := (dC, dI)) (ci := 6) (v := .ref (a 2)) (C := RX6) (T := TX6) (N := 5) hx hb hts hinX6 hown hK hP 1 rfl rfl 0 (by decide) (nw24 hNW) (fun _ h9 => h9) rfl dX8_requireShelfAtWindow_27 ?_
    refine va_getN (D := (dC, dI)) (ci := 7) (v := .int (M 2 0)) (C := RX7) (T := TX7) (N := 6) hx hb hts hinX7 hown hK hP 2 rfl rfl 0 (by decide) (nw25 hNW) (fun _ h9 => h9) rfl dX8_requireShelfAtWindow_30 ?_
    refine lv_icmp_lt (tgt := 47) hx hb dX8_requireShelfAtWindow_33 (by decide) (fun c9 => ?_) (fun c9 => ?_)
    · have hf := it_t hf c9
      have e9 := so_e hf
      cases e9
    · have hf := it_f hf c9
      exact hfX8_requireShelfAtWindow_B36  () hf _ (lv_sub hl [] rfl)
set_option maxHeartbeats 4000000 in
set_option maxRecDepth 100000 in
theorem t_X8_atWindow (l : Launch) (hst : l.stackTraces = false) (dC : Nat → ClassId) (dI : Nat → Nat → Nat) (cI cZ cS : ClassId) (f g : Nat → Option Nat) (a : Nat → Nat) (sz : Nat) (M : Mem) (E : String) (hf : fX8_atWindow M  = some (Sum.inl E)) : vx_Met l yX8_atWindow wsX8_atWindow ({ frames := 7, cells := 1, slots := 6, locals := 130 } : Room) (va_Pc [.ref (a 0)] (T8 (dC, dI) cI cZ cS (wX8 cI cZ cS f g a M) sz)) (fun _ _ _ _ => False) (vx_X (S := Unit) (fun _ => True) (fun E' _ t => E' = E ∧ WE (dC, dI) cI cZ (wX8 cI cZ cS f g a M) (va_A (wX8 cI cZ cS f g a M) sz) t) (va_A (wX8 cI cZ cS f g a M) sz)) 1 6 (va_A (wX8 cI cZ cS f g a M) sz) := by
  refine vx_ofW (cc := cX8_atWindow) (maxL := 1) (ret := (some .int)) (by decide) rfl ?_
  intro p e s m args below meth c s₁ B hml htab hv
  obtain ⟨rfl, hsz, hP, hK, hD0, hNW, hEX⟩ := hv
  have hx := B.exec
  have hb := B.bytes
  have hr := B.returns
  have hts := atoms_spec (ws := wsX8_atWindow) B.pre
  have hown : s.vm.findClass RX8 = some m.cls := findClass_of_methodNamed B.named
  have hlocks := B.notSynchronized
  have hK2 : va_K (dC, dI) vwCl [(cI, .int), (cZ, .boolean)] s := hK.sub (tys' := [(cI, .int), (cZ, .boolean)]) [0, 1] rfl
  have hinX8 : ∀ w ∈ u_ws RX8 TX8 6, w ∈ wsX8_atWindow := by decide +kernel
  have hw1 := hts (.fieldLink RX8 12 "GlideShelves" "now" "LGlideShelves$State;") (by decide +kernel)
  have hinX6 : ∀ w ∈ u_ws RX6 TX6 5, w ∈ wsX8_atWindow := by decide +kernel
  have hinX7 : ∀ w ∈ u_ws RX7 TX7 6, w ∈ wsX8_atWindow := by decide +kernel
  subst hsz
  have hD := hD0.self (sz := s.heap.size)
  generalize hAe : va_A (wX8 cI cZ cS f g a M) s.heap.size = A at hD hEX ⊢
  have hA : ∀ q : Nat, s.heap.size ≤ q → A q := fun q h => by rw [← hAe]; exact Or.inr h
  have hS : va_S A s.heap s.heap [] := va_S.rf
  have hl := lv_entry ([.ref (a 0)]) (n := 1) (Nat.le_of_ble_eq_true rfl)
  rw [lg_entry_eq]
  generalize (lg_sl ([.ref (a 0)]) ++ List.replicate (1 - (lg_sl ([.ref (a 0)])).length) Slot.unset).toArray = ls at hl ⊢
  have hl : lv_has ls 1 [(0, .ref (a 0))] := hl
  unfold fX8_atWindow at hf
  refine lv_aload_n hx hb dX8_atWindow_0 rfl (lv_at hl 0 rfl) ?_
  obtain ⟨r1, hc1, hf⟩ := bi_s hf
  rcases r1 with E9 | r1
  · have e9 := so_e hf
    cases e9
    have hFc := va_free (wc := (wX8 cI cZ cS f g a M)) hD hS hA [0, 1, 2, 3, 4, 5, 6, 7, 8, 9, 10, 11, 12, 13, 14, 15, 16, 17, 18, 19, 20, 21, 22, 23, 24, 25, 26, 27, 28, 29, 30, 31, 32, 33, 34, 35, 36, 37, 38, 39, 40, 41] rfl
    refine vx_thr (vx_runV (As := []) (rest := []) ⟨hx, hb, hml, hown, hts⟩ (t_X8_requireShelfAtWindow l hst dC dI cI cZ cS f g a _ M _ hc1) (cwV 0 hts gX8_atWindow_X8_requireShelfAtWindow rfl rfl rfl (by decide +kernel) ⟨Nat.le_of_ble_eq_true rfl, Nat.le_of_ble_eq_true rfl⟩) ⟨T8.blind, va_recv hK hP (ci := 8) (q0 := 0) rfl rfl, T8.pre hP hK hD hNW (hEX.at hS hFc)⟩ rfl rfl hl.1 rfl (lv_room (Nat.le_of_ble_eq_true rfl)) dX8_atWindow_1 ⟨Nat.le_of_ble_eq_true rfl, Nat.le_of_ble_eq_true rfl⟩) hS (fun q _ h => hFc q h) hFc (fun ce q9 t H1 locs1 ht hal hP1 hD1 hz1 hS1 hce hcv hcl => ?_)
    exact vx_out (fun x h => (htab x h).elim) hlocks hce hcv hcl (fun t ht hal => ⟨(), trivial, ⟨rfl, WE.mk hP1 (hD1.weaken (fun k q _ h => hFc q.1 h)) ht⟩, hS1.F ht⟩) hS1.2.2 (Nat.le_of_ble_eq_true rfl) (Nat.le_of_ble_eq_true rfl)
  have hf := sel_r hf
  refine cROv (W.runV (As := []) (rest := []) ⟨hx, hb, hml, hown, hts⟩ (n_X8_requireShelfAtWindow l dC dI cI cZ cS f g a M  hc1) (cwV 0 hts gX8_atWindow_X8_requireShelfAtWindow rfl rfl rfl (by decide +kernel) ⟨Nat.le_of_ble_eq_true rfl, Nat.le_of_ble_eq_true rfl⟩) ⟨RO8.blind, va_recv hK hP (ci := 8) (q0 := 0) rfl rfl, RO8.pre hP hK hNW⟩ rfl rfl hl.1 rfl (lv_room (Nat.le_of_ble_eq_true rfl)) dX8_atWindow_1 ⟨Nat.le_of_ble_eq_true rfl, Nat.le_of_ble_eq_true rfl⟩) ?_
  refine lv_aload_n hx hb dX8_atWindow_4 rfl (lv_at hl 0 rfl) ?_
  refine va_get (D := (dC, dI)) (ci := 8) (v := .ref (a 1)) (C := RX8) (T := TX8) (N := 6) hx hb hts hinX8 hown hK hP 0 rfl rfl 0 (by decide) hw1 (fun _ h9 => h9) rfl dX8_atWindow_5 ?_
  refine va_getN (D := (dC, dI)) (ci := 6) (v := .ref (a 2)) (C := RX6) (T := TX6) (N := 5) hx hb hts hinX6 hown hK hP 1 rfl rfl 0 (by decide) (nw24 hNW) (fun _ h9 => h9) rfl dX8_atWindow_8 ?_
  refine va_getN (D := (dC, dI)) (ci := 7) (v := .int (M 2 1)) (C := RX7) (T := TX7) (N := 6) hx hb hts hinX7 hown hK hP 2 rfl rfl 1 (by decide) (nw26 hNW) (fun _ h9 => h9) rfl dX8_atWindow_11 ?_
  have e9 := so_e hf
  cases e9
set_option maxHeartbeats 4000000 in
set_option maxRecDepth 100000 in
theorem n_X8_requireSide (l : Launch) (dC : Nat → ClassId) (dI : Nat → Nat → Nat) (cI cZ cS : ClassId) (f g : Nat → Option Nat) (a : Nat → Nat) (M : Mem) (a1 : Int32) (hf : fX8_requireSide M a1 = some (Sum.inr ())) : Met l yX8_requireSide wsX8_requireSide ({ frames := 0, cells := 0, slots := 0, locals := 0 } : Room) (va_Pc [.ref (a 0), .int a1] (RO8 (dC, dI) cI cZ cS (wX8 cI cZ cS f g a M))) (va_Sv (fun _ => True)) 0 0 (fun _ => False) := by
  refine Met.ofW (cc := cX8_requireSide) (maxL := 2) (ret := none) (by decide) rfl ?_
  intro p e s m args below meth c s₁ B hml hv
  obtain ⟨rfl, hP, hK, hNW⟩ := hv
  have hx := B.exec
  have hb := B.bytes
  have hr := B.returns
  have hts := atoms_spec (ws := wsX8_requireSide) B.pre
  have hown : s.vm.findClass RX8 = some m.cls := findClass_of_methodNamed B.named
  have hlocks := B.notSynchronized
  have hK2 : va_K (dC, dI) vwCl [(cI, .int), (cZ, .boolean)] s := hK.sub (tys' := [(cI, .int), (cZ, .boolean)]) [0, 1] rfl
  have hfX8_requireSide_B9 : ∀ (_ : Unit), fX8_requireSide_B9 M  () = some (Sum.inr ()) → ∀ (ls : Array Slot), lv_has ls 2 [] → W p l e (headSpec wsX8_requireSide ({ frames := 0, cells := 0, slots := 0, locals := 0 } : Room)).room s m ([.ref (a 0), .int a1] : List Value).toArray below meth c s.heap [] 0 0 (MQ below (va_Sv (fun _ => True)) ([.ref (a 0), .int a1] : List Value).toArray s 0 0 (fun _ => False)) (F0 m 9 ls []) := by
    intro  _ hf ls hl
    unfold fX8_requireSide_B9 at hf
    have e9 := so_e hf
    cases e9
  have hl := lv_entry ([.ref (a 0), .int a1]) (n := 2) (Nat.le_of_ble_eq_true rfl)
  rw [lg_entry_eq]
  generalize (lg_sl ([.ref (a 0), .int a1]) ++ List.replicate (2 - (lg_sl ([.ref (a 0), .int a1])).length) Slot.unset).toArray = ls at hl ⊢
  have hl : lv_has ls 2 [(0, .ref (a 0)), (1, .int a1)] := hl
  unfold fX8_requireSide at hf
  refine lv_iload_n hx hb dX8_requireSide_0 rfl (lv_at hl 1 rfl) ?_
  refine lv_if_lt (tgt := 9) hx hb dX8_requireSide_1 (by decide) (fun c9 => ?_) (fun c9 => ?_)
  · have hf := it_t hf c9
    exact hfX8_requireSide_B9  () hf _ (lv_sub hl [] rfl)
  · have hf := it_f hf c9
    refine lv_iload_n hx hb dX8_requireSide_4 rfl (lv_at hl 1 rfl) ?_
    refine lv_iconst (v := (2 : Int32)) hx hb dX8_requireSide_5 (by decide) ?_
    refine lv_icmp_lt (tgt := 20) hx hb dX8_requireSide_6 (by decide) (fun c9 => ?_) (fun c9 => ?_)
    · have hf := it_t hf c9
      have e9 := so_e hf
      cases e9
      exact W.vret hx hb hr (fun t ht hW => ⟨rfl, trivial, ht⟩) fl0 dX8_requireSide_20
    · have hf := it_f hf c9
      exact hfX8_requireSide_B9  () hf _ (lv_sub hl [] rfl)
set_option maxHeartbeats 4000000 in
set_option maxRecDepth 100000 in
theorem n_X8_requireSlot (l : Launch) (dC : Nat → ClassId) (dI : Nat → Nat → Nat) (cI cZ cS : ClassId) (f g : Nat → Option Nat) (a : Nat → Nat) (M : Mem) (a1 : Int32) (a2 : Int32) (hf : fX8_requireSlot M a1 a2 = some (Sum.inr ())) : Met l yX8_requireSlot wsX8_requireSlot ({ frames := 1, cells := 0, slots := 0, locals := 21 } : Room) (va_Pc [.ref (a 0), .int a1, .int a2] (RO8 (dC, dI) cI cZ cS (wX8 cI cZ cS f g a M))) (va_Sv (fun _ => True)) 0 0 (fun _ => False) := by
  refine Met.ofW (cc := cX8_requireSlot) (maxL := 3) (ret := none) (by decide) rfl ?_
  intro p e s m args below meth c s₁ B hml hv
  obtain ⟨rfl, hP, hK, hNW⟩ := hv
  have hx := B.exec
  have hb := B.bytes
  have hr := B.returns
  have hts := atoms_spec (ws := wsX8_requireSlot) B.pre
  have hown : s.vm.findClass RX8 = some m.cls := findClass_of_methodNamed B.named
  have hlocks := B.notSynchronized
  have hK2 : va_K (dC, dI) vwCl [(cI, .int), (cZ, .boolean)] s := hK.sub (tys' := [(cI, .int), (cZ, .boolean)]) [0, 1] rfl
  have hfX8_requireSlot_B15 : ∀ (_ : Unit), fX8_requireSlot_B15 M  () = some (Sum.inr ()) → ∀ (ls : Array Slot), lv_has ls 3 [] → W p l e (headSpec wsX8_requireSlot ({ frames := 1, cells := 0, slots := 0, locals := 21 } : Room)).room s m ([.ref (a 0), .int a1, .int a2] : List Value).toArray below meth c s.heap [] 0 0 (MQ below (va_Sv (fun _ => True)) ([.ref (a 0), .int a1, .int a2] : List Value).toArray s 0 0 (fun _ => False)) (F0 m 15 ls []) := by
    intro  _ hf ls hl
    unfold fX8_requireSlot_B15 at hf
    have e9 := so_e hf
    cases e9
  have hl := lv_entry ([.ref (a 0), .int a1, .int a2]) (n := 3) (Nat.le_of_ble_eq_true rfl)
  rw [lg_entry_eq]
  generalize (lg_sl ([.ref (a 0), .int a1, .int a2]) ++ List.replicate (3 - (lg_sl ([.ref (a 0), .int a1, .int a2])).length) Slot.unset).toArray = ls at hl ⊢
  have hl : lv_has ls 3 [(0, .ref (a 0)), (1, .int a1), (2, .int a2)] := hl
  unfold fX8_requireSlot at hf
  refine lv_aload_n hx hb dX8_requireSlot_0 rfl (lv_at hl 0 rfl) ?_
  refine lv_iload_n hx hb dX8_requireSlot_1 rfl (lv_at hl 1 rfl) ?_
  obtain ⟨r2, hc2, hf⟩ := bi_s hf
  rcases r2 with E9 | r2
  · have e9 := so_e hf
    cases e9
  have hf := sel_r hf
  refine cROv (W.runV (As := [.int a1]) (rest := []) ⟨hx, hb, hml, hown, hts⟩ (n_X8_requireSide l dC dI cI cZ cS f g a M a1  hc2) (cwV 1 hts gX8_requireSlot_X8_requireSide rfl rfl rfl (by decide +kernel) ⟨Nat.le_of_ble_eq_true rfl, Nat.le_of_ble_eq_true rfl⟩) ⟨RO8.blind, va_recv hK hP (ci := 8) (q0 := 0) rfl rfl, RO8.pre hP hK hNW⟩ rfl rfl hl.1 rfl (lv_room (Nat.le_of_ble_eq_true rfl)) dX8_requireSlot_2 ⟨Nat.le_of_ble_eq_true rfl, Nat.le_of_ble_eq_true rfl⟩) ?_
  refine lv_iload_n hx hb dX8_requireSlot_5 rfl (lv_at hl 2 rfl) ?_
  refine lv_if_lt (tgt := 15) hx hb dX8_requireSlot_6 (by decide) (fun c9 => ?_) (fun c9 => ?_)
  · have hf := it_t hf c9
    exact hfX8_requireSlot_B15  () hf _ (lv_sub hl [] rfl)
  · have hf := it_f hf c9
    refine lv_iload_n hx hb dX8_requireSlot_9 rfl (lv_at hl 2 rfl) ?_
    refine lv_bipush (v := (20 : Int32)) hx hb dX8_requireSlot_10 (by decide) ?_
    refine lv_icmp_lt (tgt := 26) hx hb dX8_requireSlot_12 (by decide) (fun c9 => ?_) (fun c9 => ?_)
    · have hf := it_t hf c9
      have e9 := so_e hf
      cases e9
      exact W.vret hx hb hr (fun t ht hW => ⟨rfl, trivial, ht⟩) fl0 dX8_requireSlot_26
    · have hf := it_f hf c9
      exact hfX8_requireSlot_B15  () hf _ (lv_sub hl [] rfl)
set_option maxHeartbeats 4000000 in
set_option maxRecDepth 100000 in
theorem n_X8_isFree (l : Launch) (dC : Nat → ClassId) (dI : Nat → Nat → Nat) (cI cZ cS : ClassId) (f g : Nat → Option Nat) (a : Nat → Nat) (M : Mem) (a1 : Int32) (a2 : Int32) (z1 : Int32) (hf : fX8_isFree M a1 a2 = some (Sum.inr z1)) : Met l yX8_isFree wsX8_isFree ({ frames := 2, cells := 0, slots := 0, locals := 43 } : Room) (va_Pc [.ref (a 0), .int a1, .int a2] (RO8 (dC, dI) cI cZ cS (wX8 cI cZ cS f g a M))) (k2_QcV (.int z1)) 0 0 (fun _ => False) := by
  refine Met.ofW (cc := cX8_isFree) (maxL := 3) (ret := (some .boolean)) (by decide) rfl ?_
  intro p e s m args below meth c s₁ B hml hv
  obtain ⟨rfl, hP, hK, hNW⟩ := hv
  have hx := B.exec
  have hb := B.bytes
  have hr := B.returns
  have hts := atoms_spec (ws := wsX8_isFree) B.pre
  have hown : s.vm.findClass RX8 = some m.cls := findClass_of_methodNamed B.named
  have hlocks := B.notSynchronized
  have hK2 : va_K (dC, dI) vwCl [(cI, .int), (cZ, .boolean)] s := hK.sub (tys' := [(cI, .int), (cZ, .boolean)]) [0, 1] rfl
  have hinX8 : ∀ w ∈ u_ws RX8 TX8 6, w ∈ wsX8_isFree := by decide +kernel
  have hw1 := hts (.fieldLink RX8 12 "GlideShelves" "now" "LGlideShelves$State;") (by decide +kernel)
  have hinX6 : ∀ w ∈ u_ws RX6 TX6 5, w ∈ wsX8_isFree := by decide +kernel
  have hw3 := hts (.initialized RX7) (by decide +kernel)
  have hw4 := hts (.instanceMethod yX7_holderOf) (by decide +kernel)
  have hw5 := hts (.selects RX7 yX7_holderOf yX7_holderOf) (by decide +kernel)
  have hfX8_isFree_B31 : ∀ (s0 : Int32), fX8_isFree_B31 M  s0 = some (Sum.inr z1) → ∀ (ls : Array Slot), lv_has ls 3 [] → W p l e (headSpec wsX8_isFree ({ frames := 2, cells := 0, slots := 0, locals := 43 } : Room)).room s m ([.ref (a 0), .int a1, .int a2] : List Value).toArray below meth c s.heap [] 0 0 (MQ below (k2_QcV (.int z1)) ([.ref (a 0), .int a1, .int a2] : List Value).toArray s 0 0 (fun _ => False)) (F0 m 31 ls [.int s0]) := by
    intro  s0 hf ls hl
    unfold fX8_isFree_B31 at hf
    obtain ⟨hz, hf⟩ := gd_s hf
    have e9 := so_e hf
    cases e9
    exact W.zret hx hb hr (isb_nar hz) (fun t ht hW => ⟨rfl, ht⟩) fl0 dX8_isFree_31
  have hl := lv_entry ([.ref (a 0), .int a1, .int a2]) (n := 3) (Nat.le_of_ble_eq_true rfl)
  rw [lg_entry_eq]
  generalize (lg_sl ([.ref (a 0), .int a1, .int a2]) ++ List.replicate (3 - (lg_sl ([.ref (a 0), .int a1, .int a2])).length) Slot.unset).toArray = ls at hl ⊢
  have hl : lv_has ls 3 [(0, .ref (a 0)), (1, .int a1), (2, .int a2)] := hl
  unfold fX8_isFree at hf
  refine lv_aload_n hx hb dX8_isFree_0 rfl (lv_at hl 0 rfl) ?_
  refine lv_iload_n hx hb dX8_isFree_1 rfl (lv_at hl 1 rfl) ?_
  refine lv_iload_n hx hb dX8_isFree_2 rfl (lv_at hl 2 rfl) ?_
  obtain ⟨r3, hc3, hf⟩ := bi_s hf
  rcases r3 with E9 | r3
  · have e9 := so_e hf
    cases e9
  have hf := sel_r hf
  refine cROv (W.runV (As := [.int a1, .int a2]) (rest := []) ⟨hx, hb, hml, hown, hts⟩ (n_X8_requireSlot l dC dI cI cZ cS f g a M a1 a2  hc3) (cwV 2 hts gX8_isFree_X8_requireSlot rfl rfl rfl (by decide +kernel) ⟨Nat.le_of_ble_eq_true rfl, Nat.le_of_ble_eq_true rfl⟩) ⟨RO8.blind, va_recv hK hP (ci := 8) (q0 := 0) rfl rfl, RO8.pre hP hK hNW⟩ rfl rfl hl.1 rfl (lv_room (Nat.le_of_ble_eq_true rfl)) dX8_isFree_3 ⟨Nat.le_of_ble_eq_true rfl, Nat.le_of_ble_eq_true rfl⟩) ?_
  refine lv_aload_n hx hb dX8_isFree_6 rfl (lv_at hl 0 rfl) ?_
  refine va_get (D := (dC, dI)) (ci := 8) (v := .ref (a 1)) (C := RX8) (T := TX8) (N := 6) hx hb hts hinX8 hown hK hP 0 rfl rfl 0 (by decide) hw1 (fun _ h9 => h9) rfl dX8_isFree_7 ?_
  refine va_getN (D := (dC, dI)) (ci := 6) (v := .ref (a 2)) (C := RX6) (T := TX6) (N := 5) hx hb hts hinX6 hown hK hP 1 rfl rfl 0 (by decide) (nw24 hNW) (fun _ h9 => h9) rfl dX8_isFree_10 ?_
  refine lv_iload_n hx hb dX8_isFree_13 rfl (lv_at hl 1 rfl) ?_
  refine lv_bipush (v := (20 : Int32)) hx hb dX8_isFree_14 (by decide) ?_
  refine lv_imul hx hb dX8_isFree_16 ?_
  refine lv_iload_n hx hb dX8_isFree_17 rfl (lv_at hl 2 rfl) ?_
  refine lv_iadd hx hb dX8_isFree_18 ?_
  obtain ⟨r19, hc19, hf⟩ := bi_s hf
  have hPc := hP.sub (ws' := (wX7 cI cZ (ofs 2 a) (ofs 2 M))) [2, 3, 4, 5, 6] rfl
  refine cRO (va_Run.run (va_runVN (As := [.int ((a1 * (20 : Int32)) + a2)]) (rest := []) ⟨hx, hb, hml, hown, hts⟩ (c_X7_holderOf l dC dI cI cZ (ofs 2 a) (ofs 2 M) ((a1 * (20 : Int32)) + a2) r19 hc19) ⟨va_cnB 1 hts gX8_isFree_X7_holderOf_n281 rfl rfl rfl (nw64 hNW) hw3 (by decide +kernel) ⟨Nat.le_of_ble_eq_true rfl, Nat.le_of_ble_eq_true rfl⟩, hw4, hw5⟩ ⟨RO.blind, va_recv hK hP (ci := 7) (q0 := 2) rfl rfl, RO.pre hPc hK2 hNW⟩ rfl rfl hl.1 rfl (lv_room (Nat.le_of_ble_eq_true rfl)) dX8_isFree_19 ⟨Nat.le_of_ble_eq_true rfl, Nat.le_of_ble_eq_true rfl⟩)) ?_
  refine lv_iconst (v := (-1 : Int32)) hx hb dX8_isFree_22 (by decide) ?_
  refine lv_icmp_ne (tgt := 30) hx hb dX8_isFree_23 (by decide) (fun c9 => ?_) (fun c9 => ?_)
  · have hf := it_t hf c9
    refine lv_iconst (v := (0 : Int32)) hx hb dX8_isFree_30 (by decide) ?_
    exact hfX8_isFree_B31  (0 : Int32) hf _ (lv_sub hl [] rfl)
  · have hf := it_n hf c9
    refine lv_iconst (v := (1 : Int32)) hx hb dX8_isFree_26 (by decide) ?_
    refine lv_goto (tgt := 31) hx hb dX8_isFree_27 (by decide) ?_
    exact hfX8_isFree_B31  (1 : Int32) hf _ (lv_sub hl [] rfl)
set_option maxHeartbeats 4000000 in
set_option maxRecDepth 100000 in
theorem t_X8_requireSide (l : Launch) (hst : l.stackTraces = false) (dC : Nat → ClassId) (dI : Nat → Nat → Nat) (cI cZ cS : ClassId) (f g : Nat → Option Nat) (a : Nat → Nat) (sz : Nat) (M : Mem) (a1 : Int32) (E : String) (hf : fX8_requireSide M a1 = some (Sum.inl E)) : vx_Met l yX8_requireSide wsX8_requireSide ({ frames := 6, cells := 1, slots := 6, locals := 110 } : Room) (va_Pc [.ref (a 0), .int a1] (T8 (dC, dI) cI cZ cS (wX8 cI cZ cS f g a M) sz)) (fun _ _ _ _ => False) (vx_X (S := Unit) (fun _ => True) (fun E' _ t => E' = E ∧ WE (dC, dI) cI cZ (wX8 cI cZ cS f g a M) (va_A (wX8 cI cZ cS f g a M) sz) t) (va_A (wX8 cI cZ cS f g a M) sz)) 1 6 (va_A (wX8 cI cZ cS f g a M) sz) := by
  refine vx_ofW (cc := cX8_requireSide) (maxL := 2) (ret := none) (by decide) rfl ?_
  intro p e s m args below meth c s₁ B hml htab hv
  obtain ⟨rfl, hsz, hP, hK, hD0, hNW, hEX⟩ := hv
  have hx := B.exec
  have hb := B.bytes
  have hr := B.returns
  have hts := atoms_spec (ws := wsX8_requireSide) B.pre
  have hown : s.vm.findClass RX8 = some m.cls := findClass_of_methodNamed B.named
  have hlocks := B.notSynchronized
  have hK2 : va_K (dC, dI) vwCl [(cI, .int), (cZ, .boolean)] s := hK.sub (tys' := [(cI, .int), (cZ, .boolean)]) [0, 1] rfl
  have hw0 := hts (.classLink RX8 418 "java/lang/IndexOutOfBoundsException") (by decide +kernel)
  have hw1 := hts (.initialized "java/lang/IndexOutOfBoundsException") (by decide +kernel)
  have hsuf422 : ∀ w ∈ (vx_atS RX8 422 "java/lang/IndexOutOfBoundsException" ["java/lang/RuntimeException", "java/lang/Exception"]).filter goodWord, w.before _ s = true := fun w h => hts w (List.mem_cons_of_mem _ (List.mem_append_right _ h))
  subst hsz
  have hD := hD0.self (sz := s.heap.size)
  generalize hAe : va_A (wX8 cI cZ cS f g a M) s.heap.size = A at hD hEX ⊢
  have hA : ∀ q : Nat, s.heap.size ≤ q → A q := fun q h => by rw [← hAe]; exact Or.inr h
  have hS : va_S A s.heap s.heap [] := va_S.rf
  have hfX8_requireSide_B9 : ∀ (_ : Unit), fX8_requireSide_B9 M  () = some (Sum.inl E) → ∀ (ls : Array Slot), lv_has ls 2 [] → W p l e (headSpec wsX8_requireSide ({ frames := 6, cells := 1, slots := 6, locals := 110 } : Room)).room s m ([.ref (a 0), .int a1] : List Value).toArray below meth c s.heap [] 0 0 (vx_MQ below (fun _ _ _ _ => False) (vx_X (S := Unit) (fun _ => True) (fun E' _ t => E' = E ∧ WE (dC, dI) cI cZ (wX8 cI cZ cS f g a M) A t) A) ([.ref (a 0), .int a1] : List Value).toArray s 1 6 A) (F0 m 9 ls []) := by
    intro  _ hf ls hl
    unfold fX8_requireSide_B9 at hf
    have e9 := so_e hf
    cases e9
    obtain ⟨sa, hsa⟩ := hEX.2.2 (RX8, 423, "there is no such side") (List.mem_of_getElem? (i := 23) rfl)
    exact vx_throwSW (cls := "java/lang/IndexOutOfBoundsException") (text := "there is no such side") (names := ["java/lang/RuntimeException", "java/lang/Exception"]) (ik := 418) (is := 423) (ic := 422) (sa := sa) hx hb hst hown (by decide +kernel) (by decide +kernel) hw0 hw1 hsa (hat_422 hsuf422 hNW) (by decide +kernel) hEX.1 hEX.2.1 hS (hl.1.trans hml.symm) dX8_requireSide_9 dX8_requireSide_12 dX8_requireSide_13 dX8_requireSide_16 dX8_requireSide_19 (fun x h => (htab x h).elim) (by decide) (by decide) (Nat.le_of_ble_eq_true rfl) (Nat.le_of_ble_eq_true rfl) hlocks (fun t hal hz hk => ⟨(), trivial, ⟨rfl, WE.th hP hD hz hk⟩, S_ext hS hz hk⟩) hS.2.2 (Nat.le_of_ble_eq_true rfl) (Nat.le_of_ble_eq_true rfl)
  have hl := lv_entry ([.ref (a 0), .int a1]) (n := 2) (Nat.le_of_ble_eq_true rfl)
  rw [lg_entry_eq]
  generalize (lg_sl ([.ref (a 0), .int a1]) ++ List.replicate (2 - (lg_sl ([.ref (a 0), .int a1])).length) Slot.unset).toArray = ls at hl ⊢
  have hl : lv_has ls 2 [(0, .ref (a 0)), (1, .int a1)] := hl
  unfold fX8_requireSide at hf
  refine lv_iload_n hx hb dX8_requireSide_0 rfl (lv_at hl 1 rfl) ?_
  refine lv_if_lt (tgt := 9) hx hb dX8_requireSide_1 (by decide) (fun c9 => ?_) (fun c9 => ?_)
  · have hf := it_t hf c9
    exact hfX8_requireSide_B9  () hf _ (lv_sub hl [] rfl)
  · have hf := it_f hf c9
    refine lv_iload_n hx hb dX8_requireSide_4 rfl (lv_at hl 1 rfl) ?_
    refine lv_iconst (v := (2 : Int32)) hx hb dX8_requireSide_5 (by decide) ?_
    refine lv_icmp_lt (tgt := 20) hx hb dX8_requireSide_6 (by decide) (fun c9 => ?_) (fun c9 => ?_)
    · have hf := it_t hf c9
      have e9 := so_e hf
      cases e9
    · have hf := it_f hf c9
      exact hfX8_requireSide_B9  () hf _ (lv_sub hl [] rfl)
set_option maxHeartbeats 4000000 in
set_option maxRecDepth 100000 in
theorem t_X8_requireSlot (l : Launch) (hst : l.stackTraces = false) (dC : Nat → ClassId) (dI : Nat → Nat → Nat) (cI cZ cS : ClassId) (f g : Nat → Option Nat) (a : Nat → Nat) (sz : Nat) (M : Mem) (a1 : Int32) (a2 : Int32) (E : String) (hf : fX8_requireSlot M a1 a2 = some (Sum.inl E)) : vx_Met l yX8_requireSlot wsX8_requireSlot ({ frames := 7, cells := 1, slots := 6, locals := 131 } : Room) (va_Pc [.ref (a 0), .int a1, .int a2] (T8 (dC, dI) cI cZ cS (wX8 cI cZ cS f g a M) sz)) (fun _ _ _ _ => False) (vx_X (S := Unit) (fun _ => True) (fun E' _ t => E' = E ∧ WE (dC, dI) cI cZ (wX8 cI cZ cS f g a M) (va_A (wX8 cI cZ cS f g a M) sz) t) (va_A (wX8 cI cZ cS f g a M) sz)) 1 6 (va_A (wX8 cI cZ cS f g a M) sz) := by
  refine vx_ofW (cc := cX8_requireSlot) (maxL := 3) (ret := none) (by decide) rfl ?_
  intro p e s m args below meth c s₁ B hml htab hv
  obtain ⟨rfl, hsz, hP, hK, hD0, hNW, hEX⟩ := hv
  have hx := B.exec
  have hb := B.bytes
  have hr := B.returns
  have hts := atoms_spec (ws := wsX8_requireSlot) B.pre
  have hown : s.vm.findClass RX8 = some m.cls := findClass_of_methodNamed B.named
  have hlocks := B.notSynchronized
  have hK2 : va_K (dC, dI) vwCl [(cI, .int), (cZ, .boolean)] s := hK.sub (tys' := [(cI, .int), (cZ, .boolean)]) [0, 1] rfl
  have hw0 := hts (.classLink RX8 418 "java/lang/IndexOutOfBoundsException") (by decide +kernel)
  have hw1 := hts (.initialized "java/lang/IndexOutOfBoundsException") (by decide +kernel)
  have hsuf422 : ∀ w ∈ (vx_atS RX8 422 "java/lang/IndexOutOfBoundsException" ["java/lang/RuntimeException", "java/lang/Exception"]).filter goodWord, w.before _ s = true := fun w h => hts w (List.mem_cons_of_mem _ (List.mem_append_right _ h))
  subst hsz
  have hD := hD0.self (sz := s.heap.size)
  generalize hAe : va_A (wX8 cI cZ cS f g a M) s.heap.size = A at hD hEX ⊢
  have hA : ∀ q : Nat, s.heap.size ≤ q → A q := fun q h => by rw [← hAe]; exact Or.inr h
  have hS : va_S A s.heap s.heap [] := va_S.rf
  have hfX8_requireSlot_B15 : ∀ (_ : Unit), fX8_requireSlot_B15 M  () = some (Sum.inl E) → ∀ (ls : Array Slot), lv_has ls 3 [] → W p l e (headSpec wsX8_requireSlot ({ frames := 7, cells := 1, slots := 6, locals := 131 } : Room)).room s m ([.ref (a 0), .int a1, .int a2] : List Value).toArray below meth c s.heap [] 0 0 (vx_MQ below (fun _ _ _ _ => False) (vx_X (S := Unit) (fun _ => True) (fun E' _ t => E' = E ∧ WE (dC, dI) cI cZ (wX8 cI cZ cS f g a M) A t) A) ([.ref (a 0), .int a1, .int a2] : List Value).toArray s 1 6 A) (F0 m 15 ls []) := by
    intro  _ hf ls hl
    unfold fX8_requireSlot_B15 at hf
    have e9 := so_e hf
    cases e9
    obtain ⟨sa, hsa⟩ := hEX.2.2 (RX8, 425, "there is no such slot") (List.mem_of_getElem? (i := 24) rfl)
    exact vx_throwSW (cls := "java/lang/IndexOutOfBoundsException") (text := "there is no such slot") (names := ["java/lang/RuntimeException", "java/lang/Exception"]) (ik := 418) (is := 425) (ic := 422) (sa := sa) hx hb hst hown (by decide +kernel) (by decide +kernel) hw0 hw1 hsa (hat_422 hsuf422 hNW) (by decide +kernel) hEX.1 hEX.2.1 hS (hl.1.trans hml.symm) dX8_requireSlot_15 dX8_requireSlot_18 dX8_requireSlot_19 dX8_requireSlot_22 dX8_requireSlot_25 (fun x h => (htab x h).elim) (by decide) (by decide) (Nat.le_of_ble_eq_true rfl) (Nat.le_of_ble_eq_true rfl) hlocks (fun t hal hz hk => ⟨(), trivial, ⟨rfl, WE.th hP hD hz hk⟩, S_ext hS hz hk⟩) hS.2.2 (Nat.le_of_ble_eq_true rfl) (Nat.le_of_ble_eq_true rfl)
  have hl := lv_entry ([.ref (a 0), .int a1, .int a2]) (n := 3) (Nat.le_of_ble_eq_true rfl)
  rw [lg_entry_eq]
  generalize (lg_sl ([.ref (a 0), .int a1, .int a2]) ++ List.replicate (3 - (lg_sl ([.ref (a 0), .int a1, .int a2])).length) Slot.unset).toArray = ls at hl ⊢
  have hl : lv_has ls 3 [(0, .ref (a 0)), (1, .int a1), (2, .int a2)] := hl
  unfold fX8_requireSlot at hf
  refine lv_aload_n hx hb dX8_requireSlot_0 rfl (lv_at hl 0 rfl) ?_
  refine lv_iload_n hx hb dX8_requireSlot_1 rfl (lv_at hl 1 rfl) ?_
  obtain ⟨r2, hc2, hf⟩ := bi_s hf
  rcases r2 with E9 | r2
  · have e9 := so_e hf
    cases e9
    have hFc := va_free (wc := (wX8 cI cZ cS f g a M)) hD hS hA [0, 1, 2, 3, 4, 5, 6, 7, 8, 9, 10, 11, 12, 13, 14, 15, 16, 17, 18, 19, 20, 21, 22, 23, 24, 25, 26, 27, 28, 29, 30, 31, 32, 33, 34, 35, 36, 37, 38, 39, 40, 41] rfl
    refine vx_thr (vx_runV (As := [.int a1]) (rest := []) ⟨hx, hb, hml, hown, hts⟩ (t_X8_requireSide l hst dC dI cI cZ cS f g a _ M a1 _ hc2) (cwV 1 hts gX8_requireSlot_X8_requireSide rfl rfl rfl (by decide +kernel) ⟨Nat.le_of_ble_eq_true rfl, Nat.le_of_ble_eq_true rfl⟩) ⟨T8.blind, va_recv hK hP (ci := 8) (q0 := 0) rfl rfl, T8.pre hP hK hD hNW (hEX.at hS hFc)⟩ rfl rfl hl.1 rfl (lv_room (Nat.le_of_ble_eq_true rfl)) dX8_requireSlot_2 ⟨Nat.le_of_ble_eq_true rfl, Nat.le_of_ble_eq_true rfl⟩) hS (fun q _ h => hFc q h) hFc (fun ce q9 t H1 locs1 ht hal hP1 hD1 hz1 hS1 hce hcv hcl => ?_)
    exact vx_out (fun x h => (htab x h).elim) hlocks hce hcv hcl (fun t ht hal => ⟨(), trivial, ⟨rfl, WE.mk hP1 (hD1.weaken (fun k q _ h => hFc q.1 h)) ht⟩, hS1.F ht⟩) hS1.2.2 (Nat.le_of_ble_eq_true rfl) (Nat.le_of_ble_eq_true rfl)
  have hf := sel_r hf
  refine cROv (W.runV (As := [.int a1]) (rest := []) ⟨hx, hb, hml, hown, hts⟩ (n_X8_requireSide l dC dI cI cZ cS f g a M a1  hc2) (cwV 1 hts gX8_requireSlot_X8_requireSide rfl rfl rfl (by decide +kernel) ⟨Nat.le_of_ble_eq_true rfl, Nat.le_of_ble_eq_true rfl⟩) ⟨RO8.blind, va_recv hK hP (ci := 8) (q0 := 0) rfl rfl, RO8.pre hP hK hNW⟩ rfl rfl hl.1 rfl (lv_room (Nat.le_of_ble_eq_true rfl)) dX8_requireSlot_2 ⟨Nat.le_of_ble_eq_true rfl, Nat.le_of_ble_eq_true rfl⟩) ?_
  refine lv_iload_n hx hb dX8_requireSlot_5 rfl (lv_at hl 2 rfl) ?_
  refine lv_if_lt (tgt := 15) hx hb dX8_requireSlot_6 (by decide) (fun c9 => ?_) (fun c9 => ?_)
  · have hf := it_t hf c9
    exact hfX8_requireSlot_B15  () hf _ (lv_sub hl [] rfl)
  · have hf := it_f hf c9
    refine lv_iload_n hx hb dX8_requireSlot_9 rfl (lv_at hl 2 rfl) ?_
    refine lv_bipush (v := (20 : Int32)) hx hb dX8_requireSlot_10 (by decide) ?_
    refine lv_icmp_lt (tgt := 26) hx hb dX8_requireSlot_12 (by decide) (fun c9 => ?_) (fun c9 => ?_)
    · have hf := it_t hf c9
      have e9 := so_e hf
      cases e9
    · have hf := it_f hf c9
      exact hfX8_requireSlot_B15  () hf _ (lv_sub hl [] rfl)
set_option maxHeartbeats 4000000 in
set_option maxRecDepth 100000 in
theorem t_X8_isFree (l : Launch) (hst : l.stackTraces = false) (dC : Nat → ClassId) (dI : Nat → Nat → Nat) (cI cZ cS : ClassId) (f g : Nat → Option Nat) (a : Nat → Nat) (sz : Nat) (M : Mem) (a1 : Int32) (a2 : Int32) (E : String) (hf : fX8_isFree M a1 a2 = some (Sum.inl E)) : vx_Met l yX8_isFree wsX8_isFree ({ frames := 8, cells := 1, slots := 6, locals := 153 } : Room) (va_Pc [.ref (a 0), .int a1, .int a2] (T8 (dC, dI) cI cZ cS (wX8 cI cZ cS f g a M) sz)) (fun _ _ _ _ => False) (vx_X (S := Unit) (fun _ => True) (fun E' _ t => E' = E ∧ WE (dC, dI) cI cZ (wX8 cI cZ cS f g a M) (va_A (wX8 cI cZ cS f g a M) sz) t) (va_A (wX8 cI cZ cS f g a M) sz)) 1 6 (va_A (wX8 cI cZ cS f g a M) sz) := by
  refine vx_ofW (cc := cX8_isFree) (maxL := 3) (ret := (some .boolean)) (by decide) rfl ?_
  intro p e s m args below meth c s₁ B hml htab hv
  obtain ⟨rfl, hsz, hP, hK, hD0, hNW, hEX⟩ := hv
  have hx := B.exec
  have hb := B.bytes
  have hr := B.returns
  have hts := atoms_spec (ws := wsX8_isFree) B.pre
  have hown : s.vm.findClass RX8 = some m.cls := findClass_of_methodNamed B.named
  have hlocks := B.notSynchronized
  have hK2 : va_K (dC, dI) vwCl [(cI, .int), (cZ, .boolean)] s := hK.sub (tys' := [(cI, .int), (cZ, .boolean)]) [0, 1] rfl
  have hinX8 : ∀ w ∈ u_ws RX8 TX8 6, w ∈ wsX8_isFree := by decide +kernel
  have hw1 := hts (.fieldLink RX8 12 "GlideShelves" "now" "LGlideShelves$State;") (by decide +kernel)
  have hinX6 : ∀ w ∈ u_ws RX6 TX6 5, w ∈ wsX8_isFree := by decide +kernel
  have hw3 := hts (.initialized RX7) (by decide +kernel)
  have hw4 := hts (.instanceMethod yX7_holderOf) (by decide +kernel)
  have hw5 := hts (.selects RX7 yX7_holderOf yX7_holderOf) (by decide +kernel)
  subst hsz
  have hD := hD0.self (sz := s.heap.size)
  generalize hAe : va_A (wX8 cI cZ cS f g a M) s.heap.size = A at hD hEX ⊢
  have hA : ∀ q : Nat, s.heap.size ≤ q → A q := fun q h => by rw [← hAe]; exact Or.inr h
  have hS : va_S A s.heap s.heap [] := va_S.rf
  have hfX8_isFree_B31 : ∀ (s0 : Int32), fX8_isFree_B31 M  s0 = some (Sum.inl E) → ∀ (ls : Array Slot), lv_has ls 3 [] → W p l e (headSpec wsX8_isFree ({ frames := 8, cells := 1, slots := 6, locals := 153 } : Room)).room s m ([.ref (a 0), .int a1, .int a2] : List Value).toArray below meth c s.heap [] 0 0 (vx_MQ below (fun _ _ _ _ => False) (vx_X (S := Unit) (fun _ => True) (fun E' _ t => E' = E ∧ WE (dC, dI) cI cZ (wX8 cI cZ cS f g a M) A t) A) ([.ref (a 0), .int a1, .int a2] : List Value).toArray s 1 6 A) (F0 m 31 ls [.int s0]) := by
    intro  s0 hf ls hl
    unfold fX8_isFree_B31 at hf
    obtain ⟨hz, hf⟩ := gd_s hf
    have e9 := so_e hf
    cases e9
  have hl := lv_entry ([.ref (a 0), .int a1, .int a2]) (n := 3) (Nat.le_of_ble_eq_true rfl)
  rw [lg_entry_eq]
  generalize (lg_sl ([.ref (a 0), .int a1, .int a2]) ++ List.replicate (3 - (lg_sl ([.ref (a 0), .int a1, .int a2])).length) Slot.unset).toArray = ls at hl ⊢
  have hl : lv_has ls 3 [(0, .ref (a 0)), (1, .int a1), (2, .int a2)] := hl
  unfold fX8_isFree at hf
  refine lv_aload_n hx hb dX8_isFree_0 rfl (lv_at hl 0 rfl) ?_
  refine lv_iload_n hx hb dX8_isFree_1 rfl (lv_at hl 1 rfl) ?_
  refine lv_iload_n hx hb dX8_isFree_2 rfl (lv_at hl 2 rfl) ?_
  obtain ⟨r3, hc3, hf⟩ := bi_s hf
  rcases r3 with E9 | r3
  · have e9 := so_e hf
    cases e9
    have hFc := va_free (wc := (wX8 cI cZ cS f g a M)) hD hS hA [0, 1, 2, 3, 4, 5, 6, 7, 8, 9, 10, 11, 12, 13, 14, 15, 16, 17, 18, 19, 20, 21, 22, 23, 24, 25, 26, 27, 28, 29, 30, 31, 32, 33, 34, 35, 36, 37, 38, 39, 40, 41] rfl
    refine vx_thr (vx_runV (As := [.int a1, .int a2]) (rest := []) ⟨hx, hb, hml, hown, hts⟩ (t_X8_requireSlot l hst dC dI cI cZ cS f g a _ M a1 a2 _ hc3) (cwV 2 hts gX8_isFree_X8_requireSlot rfl rfl rfl (by decide +kernel) ⟨Nat.le_of_ble_eq_true rfl, Nat.le_of_ble_eq_true rfl⟩) ⟨T8.blind, va_recv hK hP (ci := 8) (q0 := 0) rfl rfl, T8.pre hP hK hD hNW (hEX.at hS hFc)⟩ rfl rfl hl.1 rfl (lv_room (Nat.le_of_ble_eq_true rfl)) dX8_isFree_3 ⟨Nat.le_of_ble_eq_true rfl, Nat.le_of_ble_eq_true rfl⟩) hS (fun q _ h => hFc q h) hFc (fun ce q9 t H1 locs1 ht hal hP1 hD1 hz1 hS1 hce hcv hcl => ?_)
    exact vx_out (fun x h => (htab x h).elim) hlocks hce hcv hcl (fun t ht hal => ⟨(), trivial, ⟨rfl, WE.mk hP1 (hD1.weaken (fun k q _ h => hFc q.1 h)) ht⟩, hS1.F ht⟩) hS1.2.2 (Nat.le_of_ble_eq_true rfl) (Nat.le_of_ble_eq_true rfl)
  have hf := sel_r hf
  refine cROv (W.runV (As := [.int a1, .int a2]) (rest := []) ⟨hx, hb, hml, hown, hts⟩ (n_X8_requireSlot l dC dI cI cZ cS f g a M a1 a2  hc3) (cwV 2 hts gX8_isFree_X8_requireSlot rfl rfl rfl (by decide +kernel) ⟨Nat.le_of_ble_eq_true rfl, Nat.le_of_ble_eq_true rfl⟩) ⟨RO8.blind, va_recv hK hP (ci := 8) (q0 := 0) rfl rfl, RO8.pre hP hK hNW⟩ rfl rfl hl.1 rfl (lv_room (Nat.le_of_ble_eq_true rfl)) dX8_isFree_3 ⟨Nat.le_of_ble_eq_true rfl, Nat.le_of_ble_eq_true rfl⟩) ?_
  refine lv_aload_n hx hb dX8_isFree_6 rfl (lv_at hl 0 rfl) ?_
  refine va_get (D := (dC, dI)) (ci := 8) (v := .ref (a 1)) (C := RX8) (T := TX8) (N := 6) hx hb hts hinX8 hown hK hP 0 rfl rfl 0 (by decide) hw1 (fun _ h9 => h9) rfl dX8_isFree_7 ?_
  refine va_getN (D := (dC, dI)) (ci := 6) (v := .ref (a 2)) (C := RX6) (T := TX6) (N := 5) hx hb hts hinX6 hown hK hP 1 rfl rfl 0 (by decide) (nw24 hNW) (fun _ h9 => h9) rfl dX8_isFree_10 ?_
  refine lv_iload_n hx hb dX8_isFree_13 rfl (lv_at hl 1 rfl) ?_
  refine lv_bipush (v := (20 : Int32)) hx hb dX8_isFree_14 (by decide) ?_
  refine lv_imul hx hb dX8_isFree_16 ?_
  refine lv_iload_n hx hb dX8_isFree_17 rfl (lv_at hl 2 rfl) ?_
  refine lv_iadd hx hb dX8_isFree_18 ?_
  obtain ⟨r19, hc19, hf⟩ := bi_s hf
  have hPc := hP.sub (ws' := (wX7 cI cZ (ofs 2 a) (ofs 2 M))) [2, 3, 4, 5, 6] rfl
  refine cRO (va_Run.run (va_runVN (As := [.int ((a1 * (20 : Int32)) + a2)]) (rest := []) ⟨hx, hb, hml, hown, hts⟩ (c_X7_holderOf l dC dI cI cZ (ofs 2 a) (ofs 2 M) ((a1 * (20 : Int32)) + a2) r19 hc19) ⟨va_cnB 1 hts gX8_isFree_X7_holderOf_n281 rfl rfl rfl (nw64 hNW) hw3 (by decide +kernel) ⟨Nat.le_of_ble_eq_true rfl, Nat.le_of_ble_eq_true rfl⟩, hw4, hw5⟩ ⟨RO.blind, va_recv hK hP (ci := 7) (q0 := 2) rfl rfl, RO.pre hPc hK2 hNW⟩ rfl rfl hl.1 rfl (lv_room (Nat.le_of_ble_eq_true rfl)) dX8_isFree_19 ⟨Nat.le_of_ble_eq_true rfl, Nat.le_of_ble_eq_true rfl⟩)) ?_
  refine lv_iconst (v := (-1 : Int32)) hx hb dX8_isFree_22 (by decide) ?_
  refine lv_icmp_ne (tgt := 30) hx hb dX8_isFree_23 (by decide) (fun c9 => ?_) (fun c9 => ?_)
  · have hf := it_t hf c9
    refine lv_iconst (v := (0 : Int32)) hx hb dX8_isFree_30 (by decide) ?_
    exact hfX8_isFree_B31  (0 : Int32) hf _ (lv_sub hl [] rfl)
  · have hf := it_n hf c9
    refine lv_iconst (v := (1 : Int32)) hx hb dX8_isFree_26 (by decide) ?_
    refine lv_goto (tgt := 31) hx hb dX8_isFree_27 (by decide) ?_
    exact hfX8_isFree_B31  (1 : Int32) hf _ (lv_sub hl [] rfl)
set_option maxHeartbeats 4000000 in
set_option maxRecDepth 100000 in
theorem n_X8_shelfAt (l : Launch) (dC : Nat → ClassId) (dI : Nat → Nat → Nat) (cI cZ cS : ClassId) (f g : Nat → Option Nat) (a : Nat → Nat) (M : Mem) (a1 : Int32) (a2 : Int32) (z1 : Int32) (hf : fX8_shelfAt M a1 a2 = some (Sum.inr z1)) : Met l yX8_shelfAt wsX8_shelfAt ({ frames := 2, cells := 0, slots := 0, locals := 43 } : Room) (va_Pc [.ref (a 0), .int a1, .int a2] (RO8 (dC, dI) cI cZ cS (wX8 cI cZ cS f g a M))) (k2_QcV (.int z1)) 0 0 (fun _ => False) := by
  refine Met.ofW (cc := cX8_shelfAt) (maxL := 4) (ret := (some .int)) (by decide) rfl ?_
  intro p e s m args below meth c s₁ B hml hv
  obtain ⟨rfl, hP, hK, hNW⟩ := hv
  have hx := B.exec
  have hb := B.bytes
  have hr := B.returns
  have hts := atoms_spec (ws := wsX8_shelfAt) B.pre
  have hown : s.vm.findClass RX8 = some m.cls := findClass_of_methodNamed B.named
  have hlocks := B.notSynchronized
  have hK2 : va_K (dC, dI) vwCl [(cI, .int), (cZ, .boolean)] s := hK.sub (tys' := [(cI, .int), (cZ, .boolean)]) [0, 1] rfl
  have hinX8 : ∀ w ∈ u_ws RX8 TX8 6, w ∈ wsX8_shelfAt := by decide +kernel
  have hw1 := hts (.fieldLink RX8 12 "GlideShelves" "now" "LGlideShelves$State;") (by decide +kernel)
  have hinX6 : ∀ w ∈ u_ws RX6 TX6 5, w ∈ wsX8_shelfAt := by decide +kernel
  have hw3 := hts (.initialized RX7) (by decide +kernel)
  have hw4 := hts (.instanceMethod yX7_holderOf) (by decide +kernel)
  have hw5 := hts (.selects RX7 yX7_holderOf yX7_holderOf) (by decide +kernel)
  have hl := lv_entry ([.ref (a 0), .int a1, .int a2]) (n := 4) (Nat.le_of_ble_eq_true rfl)
  rw [lg_entry_eq]
  generalize (lg_sl ([.ref (a 0), .int a1, .int a2]) ++ List.replicate (4 - (lg_sl ([.ref (a 0), .int a1, .int a2])).length) Slot.unset).toArray = ls at hl ⊢
  have hl : lv_has ls 4 [(0, .ref (a 0)), (1, .int a1), (2, .int a2)] := hl
  unfold fX8_shelfAt at hf
  refine lv_aload_n hx hb dX8_shelfAt_0 rfl (lv_at hl 0 rfl) ?_
  refine lv_iload_n hx hb dX8_shelfAt_1 rfl (lv_at hl 1 rfl) ?_
  refine lv_iload_n hx hb dX8_shelfAt_2 rfl (lv_at hl 2 rfl) ?_
  obtain ⟨r3, hc3, hf⟩ := bi_s hf
  rcases r3 with E9 | r3
  · have e9 := so_e hf
    cases e9
  have hf := sel_r hf
  refine cROv (W.runV (As := [.int a1, .int a2]) (rest := []) ⟨hx, hb, hml, hown, hts⟩ (n_X8_requireSlot l dC dI cI cZ cS f g a M a1 a2  hc3) (cwV 2 hts gX8_shelfAt_X8_requireSlot rfl rfl rfl (by decide +kernel) ⟨Nat.le_of_ble_eq_true rfl, Nat.le_of_ble_eq_true rfl⟩) ⟨RO8.blind, va_recv hK hP (ci := 8) (q0 := 0) rfl rfl, RO8.pre hP hK hNW⟩ rfl rfl hl.1 rfl (lv_room (Nat.le_of_ble_eq_true rfl)) dX8_shelfAt_3 ⟨Nat.le_of_ble_eq_true rfl, Nat.le_of_ble_eq_true rfl⟩) ?_
  refine lv_aload_n hx hb dX8_shelfAt_6 rfl (lv_at hl 0 rfl) ?_
  refine va_get (D := (dC, dI)) (ci := 8) (v := .ref (a 1)) (C := RX8) (T := TX8) (N := 6) hx hb hts hinX8 hown hK hP 0 rfl rfl 0 (by decide) hw1 (fun _ h9 => h9) rfl dX8_shelfAt_7 ?_
  refine va_getN (D := (dC, dI)) (ci := 6) (v := .ref (a 2)) (C := RX6) (T := TX6) (N := 5) hx hb hts hinX6 hown hK hP 1 rfl rfl 0 (by decide) (nw24 hNW) (fun _ h9 => h9) rfl dX8_shelfAt_10 ?_
  refine lv_iload_n hx hb dX8_shelfAt_13 rfl (lv_at hl 1 rfl) ?_
  refine lv_bipush (v := (20 : Int32)) hx hb dX8_shelfAt_14 (by decide) ?_
  refine lv_imul hx hb dX8_shelfAt_16 ?_
  refine lv_iload_n hx hb dX8_shelfAt_17 rfl (lv_at hl 2 rfl) ?_
  refine lv_iadd hx hb dX8_shelfAt_18 ?_
  obtain ⟨r19, hc19, hf⟩ := bi_s hf
  have hPc := hP.sub (ws' := (wX7 cI cZ (ofs 2 a) (ofs 2 M))) [2, 3, 4, 5, 6] rfl
  refine cRO (va_Run.run (va_runVN (As := [.int ((a1 * (20 : Int32)) + a2)]) (rest := []) ⟨hx, hb, hml, hown, hts⟩ (c_X7_holderOf l dC dI cI cZ (ofs 2 a) (ofs 2 M) ((a1 * (20 : Int32)) + a2) r19 hc19) ⟨va_cnB 1 hts gX8_shelfAt_X7_holderOf_n281 rfl rfl rfl (nw64 hNW) hw3 (by decide +kernel) ⟨Nat.le_of_ble_eq_true rfl, Nat.le_of_ble_eq_true rfl⟩, hw4, hw5⟩ ⟨RO.blind, va_recv hK hP (ci := 7) (q0 := 2) rfl rfl, RO.pre hPc hK2 hNW⟩ rfl rfl hl.1 rfl (lv_room (Nat.le_of_ble_eq_true rfl)) dX8_shelfAt_19 ⟨Nat.le_of_ble_eq_true rfl, Nat.le_of_ble_eq_true rfl⟩)) ?_
  refine lv_istore_n (lv' := [(3, .int r19), (0, .ref (a 0)), (1, .int a1), (2, .int a2)]) hx hb dX8_shelfAt_22 rfl hl (by decide) rfl (fun ls hl => ?_)
  refine lv_iload_n hx hb dX8_shelfAt_23 rfl (lv_at hl 0 rfl) ?_
  refine lv_iconst (v := (-1 : Int32)) hx hb dX8_shelfAt_24 (by decide) ?_
  refine lv_icmp_ne (tgt := 39) hx hb dX8_shelfAt_25 (by decide) (fun c9 => ?_) (fun c9 => ?_)
  · have hf := it_t hf c9
    refine lv_iload_n hx hb dX8_shelfAt_39 rfl (lv_at hl 0 rfl) ?_
    have e9 := so_e hf
    cases e9
    exact W.iret hx hb hr (fun t ht hW => ⟨rfl, ht⟩) fl0 dX8_shelfAt_40
  · have hf := it_n hf c9
    have e9 := so_e hf
    cases e9
set_option maxHeartbeats 4000000 in
set_option maxRecDepth 100000 in
theorem t_X8_shelfAt (l : Launch) (hst : l.stackTraces = false) (dC : Nat → ClassId) (dI : Nat → Nat → Nat) (cI cZ cS : ClassId) (f g : Nat → Option Nat) (a : Nat → Nat) (sz : Nat) (M : Mem) (a1 : Int32) (a2 : Int32) (E : String) (hf : fX8_shelfAt M a1 a2 = some (Sum.inl E)) : vx_Met l yX8_shelfAt wsX8_shelfAt ({ frames := 8, cells := 1, slots := 6, locals := 153 } : Room) (va_Pc [.ref (a 0), .int a1, .int a2] (T8 (dC, dI) cI cZ cS (wX8 cI cZ cS f g a M) sz)) (fun _ _ _ _ => False) (vx_X (S := Unit) (fun _ => True) (fun E' _ t => E' = E ∧ WE (dC, dI) cI cZ (wX8 cI cZ cS f g a M) (va_A (wX8 cI cZ cS f g a M) sz) t) (va_A (wX8 cI cZ cS f g a M) sz)) 1 6 (va_A (wX8 cI cZ cS f g a M) sz) := by
  refine vx_ofW (cc := cX8_shelfAt) (maxL := 4) (ret := (some .int)) (by decide) rfl ?_
  intro p e s m args below meth c s₁ B hml htab hv
  obtain ⟨rfl, hsz, hP, hK, hD0, hNW, hEX⟩ := hv
  have hx := B.exec
  have hb := B.bytes
  have hr := B.returns
  have hts := atoms_spec (ws := wsX8_shelfAt) B.pre
  have hown : s.vm.findClass RX8 = some m.cls := findClass_of_methodNamed B.named
  have hlocks := B.notSynchronized
  have hK2 : va_K (dC, dI) vwCl [(cI, .int), (cZ, .boolean)] s := hK.sub (tys' := [(cI, .int), (cZ, .boolean)]) [0, 1] rfl
  have hinX8 : ∀ w ∈ u_ws RX8 TX8 6, w ∈ wsX8_shelfAt := by decide +kernel
  have hw1 := hts (.fieldLink RX8 12 "GlideShelves" "now" "LGlideShelves$State;") (by decide +kernel)
  have hinX6 : ∀ w ∈ u_ws RX6 TX6 5, w ∈ wsX8_shelfAt := by decide +kernel
  have hw3 := hts (.initialized RX7) (by decide +kernel)
  have hw4 := hts (.instanceMethod yX7_holderOf) (by decide +kernel)
  have hw5 := hts (.selects RX7 yX7_holderOf yX7_holderOf) (by decide +kernel)
  have hw6 := hts (.classLink RX8 54 "java/lang/IllegalStateException") (by decide +kernel)
  have hw7 := hts (.initialized "java/lang/IllegalStateException") (by decide +kernel)
  have hsuf58 : ∀ w ∈ (vx_atS RX8 58 "java/lang/IllegalStateException" ["java/lang/RuntimeException", "java/lang/Exception"]).filter goodWord, w.before _ s = true := fun w h => hts w (List.mem_cons_of_mem _ (List.mem_append_left _ (List.mem_append_right _ h)))
  subst hsz
  have hD := hD0.self (sz := s.heap.size)
  generalize hAe : va_A (wX8 cI cZ cS f g a M) s.heap.size = A at hD hEX ⊢
  have hA : ∀ q : Nat, s.heap.size ≤ q → A q := fun q h => by rw [← hAe]; exact Or.inr h
  have hS : va_S A s.heap s.heap [] := va_S.rf
  have hl := lv_entry ([.ref (a 0), .int a1, .int a2]) (n := 4) (Nat.le_of_ble_eq_true rfl)
  rw [lg_entry_eq]
  generalize (lg_sl ([.ref (a 0), .int a1, .int a2]) ++ List.replicate (4 - (lg_sl ([.ref (a 0), .int a1, .int a2])).length) Slot.unset).toArray = ls at hl ⊢
  have hl : lv_has ls 4 [(0, .ref (a 0)), (1, .int a1), (2, .int a2)] := hl
  unfold fX8_shelfAt at hf
  refine lv_aload_n hx hb dX8_shelfAt_0 rfl (lv_at hl 0 rfl) ?_
  refine lv_iload_n hx hb dX8_shelfAt_1 rfl (lv_at hl 1 rfl) ?_
  refine lv_iload_n hx hb dX8_shelfAt_2 rfl (lv_at hl 2 rfl) ?_
  obtain ⟨r3, hc3, hf⟩ := bi_s hf
  rcases r3 with E9 | r3
  · have e9 := so_e hf
    cases e9
    have hFc := va_free (wc := (wX8 cI cZ cS f g a M)) hD hS hA [0, 1, 2, 3, 4, 5, 6, 7, 8, 9, 10, 11, 12, 13, 14, 15, 16, 17, 18, 19, 20, 21, 22, 23, 24, 25, 26, 27, 28, 29, 30, 31, 32, 33, 34, 35, 36, 37, 38, 39, 40, 41] rfl
    refine vx_thr (vx_runV (As := [.int a1, .int a2]) (rest := []) ⟨hx, hb, hml, hown, hts⟩ (t_X8_requireSlot l hst dC dI cI cZ cS f g a _ M a1 a2 _ hc3) (cwV 2 hts gX8_shelfAt_X8_requireSlot rfl rfl rfl (by decide +kernel) ⟨Nat.le_of_ble_eq_true rfl, Nat.le_of_ble_eq_true rfl⟩) ⟨T8.blind, va_recv hK hP (ci := 8) (q0 := 0) rfl rfl, T8.pre hP hK hD hNW (hEX.at hS hFc)⟩ rfl rfl hl.1 rfl (lv_room (Nat.le_of_ble_eq_true rfl)) dX8_shelfAt_3 ⟨Nat.le_of_ble_eq_true rfl, Nat.le_of_ble_eq_true rfl⟩) hS (fun q _ h => hFc q h) hFc (fun ce q9 t H1 locs1 ht hal hP1 hD1 hz1 hS1 hce hcv hcl => ?_)
    exact vx_out (fun x h => (htab x h).elim) hlocks hce hcv hcl (fun t ht hal => ⟨(), trivial, ⟨rfl, WE.mk hP1 (hD1.weaken (fun k q _ h => hFc q.1 h)) ht⟩, hS1.F ht⟩) hS1.2.2 (Nat.le_of_ble_eq_true rfl) (Nat.le_of_ble_eq_true rfl)
  have hf := sel_r hf
  refine cROv (W.runV (As := [.int a1, .int a2]) (rest := []) ⟨hx, hb, hml, hown, hts⟩ (n_X8_requireSlot l dC dI cI cZ cS f g a M a1 a2  hc3) (cwV 2 hts gX8_shelfAt_X8_requireSlot rfl rfl rfl (by decide +kernel) ⟨Nat.le_of_ble_eq_true rfl, Nat.le_of_ble_eq_true rfl⟩) ⟨RO8.blind, va_recv hK hP (ci := 8) (q0 := 0) rfl rfl, RO8.pre hP hK hNW⟩ rfl rfl hl.1 rfl (lv_room (Nat.le_of_ble_eq_true rfl)) dX8_shelfAt_3 ⟨Nat.le_of_ble_eq_true rfl, Nat.le_of_ble_eq_true rfl⟩) ?_
  refine lv_aload_n hx hb dX8_shelfAt_6 rfl (lv_at hl 0 rfl) ?_
  refine va_get (D := (dC, dI)) (ci := 8) (v := .ref (a 1)) (C := RX8) (T := TX8) (N := 6) hx hb hts hinX8 hown hK hP 0 rfl rfl 0 (by decide) hw1 (fun _ h9 => h9) rfl dX8_shelfAt_7 ?_
  refine va_getN (D := (dC, dI)) (ci := 6) (v := .ref (a 2)) (C := RX6) (T := TX6) (N := 5) hx hb hts hinX6 hown hK hP 1 rfl rfl 0 (by decide) (nw24 hNW) (fun _ h9 => h9) rfl dX8_shelfAt_10 ?_
  refine lv_iload_n hx hb dX8_shelfAt_13 rfl (lv_at hl 1 rfl) ?_
  refine lv_bipush (v := (20 : Int32)) hx hb dX8_shelfAt_14 (by decide) ?_
  refine lv_imul hx hb dX8_shelfAt_16 ?_
  refine lv_iload_n hx hb dX8_shelfAt_17 rfl (lv_at hl 2 rfl) ?_
  refine lv_iadd hx hb dX8_shelfAt_18 ?_
  obtain ⟨r19, hc19, hf⟩ := bi_s hf
  have hPc := hP.sub (ws' := (wX7 cI cZ (ofs 2 a) (ofs 2 M))) [2, 3, 4, 5, 6] rfl
  refine cRO (va_Run.run (va_runVN (As := [.int ((a1 * (20 : Int32)) + a2)]) (rest := []) ⟨hx, hb, hml, hown, hts⟩ (c_X7_holderOf l dC dI cI cZ (ofs 2 a) (ofs 2 M) ((a1 * (20 : Int32)) + a2) r19 hc19) ⟨va_cnB 1 hts gX8_shelfAt_X7_holderOf_n281 rfl rfl rfl (nw64 hNW) hw3 (by decide +kernel) ⟨Nat.le_of_ble_eq_true rfl, Nat.le_of_ble_eq_true rfl⟩, hw4, hw5⟩ ⟨RO.blind, va_recv hK hP (ci := 7) (q0 := 2) rfl rfl, RO.pre hPc hK2 hNW⟩ rfl rfl hl.1 rfl (lv_room (Nat.le_of_ble_eq_true rfl)) dX8_shelfAt_19 ⟨Nat.le_of_ble_eq_true rfl, Nat.le_of_ble_eq_true rfl⟩)) ?_
  refine lv_istore_n (lv' := [(3, .int r19), (0, .ref (a 0)), (1, .int a1), (2, .int a2)]) hx hb dX8_shelfAt_22 rfl hl (by decide) rfl (fun ls hl => ?_)
  refine lv_iload_n hx hb dX8_shelfAt_23 rfl (lv_at hl 0 rfl) ?_
  refine lv_iconst (v := (-1 : Int32)) hx hb dX8_shelfAt_24 (by decide) ?_
  refine lv_icmp_ne (tgt := 39) hx hb dX8_shelfAt_25 (by decide) (fun c9 => ?_) (fun c9 => ?_)
  · have hf := it_t hf c9
    refine lv_iload_n hx hb dX8_shelfAt_39 rfl (lv_at hl 0 rfl) ?_
    have e9 := so_e hf
    cases e9
  · have hf := it_n hf c9
    have e9 := so_e hf
    cases e9
    obtain ⟨sa, hsa⟩ := hEX.2.2 (RX8, 284, "the slot is free") (List.mem_of_getElem? (i := 16) rfl)
    exact vx_throwSW (cls := "java/lang/IllegalStateException") (text := "the slot is free") (names := ["java/lang/RuntimeException", "java/lang/Exception"]) (ik := 54) (is := 284) (ic := 58) (sa := sa) hx hb hst hown (by decide +kernel) (by decide +kernel) hw6 hw7 hsa (hat_58 hsuf58 hNW) (by decide +kernel) hEX.1 hEX.2.1 hS (hl.1.trans hml.symm) dX8_shelfAt_28 dX8_shelfAt_31 dX8_shelfAt_32 dX8_shelfAt_35 dX8_shelfAt_38 (fun x h => (htab x h).elim) (by decide) (by decide) (Nat.le_of_ble_eq_true rfl) (Nat.le_of_ble_eq_true rfl) hlocks (fun t hal hz hk => ⟨(), trivial, ⟨rfl, WE.th hP hD hz hk⟩, S_ext hS hz hk⟩) hS.2.2 (Nat.le_of_ble_eq_true rfl) (Nat.le_of_ble_eq_true rfl)
set_option maxHeartbeats 4000000 in
set_option maxRecDepth 100000 in
theorem c_X8_freeBySlots (l : Launch) (dC : Nat → ClassId) (dI : Nat → Nat → Nat) (cI cZ cS : ClassId) (f g : Nat → Option Nat) (a : Nat → Nat) (M : Mem) (z : Int32) (hf : fX8_freeBySlots M  = some z) : Met l yX8_freeBySlots wsX8_freeBySlots ({ frames := 3, cells := 0, slots := 0, locals := 68 } : Room) (va_Pc [.ref (a 0)] (RO8 (dC, dI) cI cZ cS (wX8 cI cZ cS f g a M))) (k2_QcV (.int z)) 0 0 (fun _ => False) := by
  refine Met.ofW (cc := cX8_freeBySlots) (maxL := 1) (ret := (some .int)) (by decide) rfl ?_
  intro p e s m args below meth c s₁ B hml hv
  obtain ⟨rfl, hP, hK, hNW⟩ := hv
  have hK2 : va_K (dC, dI) vwCl [(cI, .int), (cZ, .boolean)] s := hK.sub (tys' := [(cI, .int), (cZ, .boolean)]) [0, 1] rfl
  have hx := B.exec
  have hb := B.bytes
  have hr := B.returns
  have hts := atoms_spec (ws := wsX8_freeBySlots) B.pre
  have hown : s.vm.findClass RX8 = some m.cls := findClass_of_methodNamed B.named
  have hlocks := B.notSynchronized
  have hinX8 : ∀ w ∈ u_ws RX8 TX8 6, w ∈ wsX8_freeBySlots := by decide +kernel
  have hw1 := hts (.fieldLink RX8 12 "GlideShelves" "now" "LGlideShelves$State;") (by decide +kernel)
  have hinX6 : ∀ w ∈ u_ws RX6 TX6 5, w ∈ wsX8_freeBySlots := by decide +kernel
  have hw3 := hts (.initialized RX7) (by decide +kernel)
  have hw4 := hts (.instanceMethod yX7_countFree) (by decide +kernel)
  have hw5 := hts (.selects RX7 yX7_countFree yX7_countFree) (by decide +kernel)
  have hl := lv_entry ([.ref (a 0)]) (n := 1) (Nat.le_of_ble_eq_true rfl)
  rw [lg_entry_eq]
  generalize (lg_sl ([.ref (a 0)]) ++ List.replicate (1 - (lg_sl ([.ref (a 0)])).length) Slot.unset).toArray = ls at hl ⊢
  have hl : lv_has ls 1 [(0, .ref (a 0))] := hl
  unfold fX8_freeBySlots at hf
  refine lv_aload_n hx hb dX8_freeBySlots_0 rfl (lv_at hl 0 rfl) ?_
  refine va_get (D := (dC, dI)) (ci := 8) (v := .ref (a 1)) (C := RX8) (T := TX8) (N := 6) hx hb hts hinX8 hown hK hP 0 rfl rfl 0 (by decide) hw1 (fun _ h9 => h9) rfl dX8_freeBySlots_1 ?_
  refine va_getN (D := (dC, dI)) (ci := 6) (v := .ref (a 2)) (C := RX6) (T := TX6) (N := 5) hx hb hts hinX6 hown hK hP 1 rfl rfl 0 (by decide) (nw24 hNW) (fun _ h9 => h9) rfl dX8_freeBySlots_4 ?_
  refine lv_iconst (v := (0 : Int32)) hx hb dX8_freeBySlots_7 (by decide) ?_
  obtain ⟨r8, hc8, hf⟩ := bi_s hf
  have hPc := hP.sub (ws' := (wX7 cI cZ (ofs 2 a) (ofs 2 M))) [2, 3, 4, 5, 6] rfl
  refine cRO (va_Run.run (va_runVN (As := [.int (0 : Int32)]) (rest := []) ⟨hx, hb, hml, hown, hts⟩ (c_X7_countFree l dC dI cI cZ (ofs 2 a) (ofs 2 M) (0 : Int32) r8 hc8) ⟨va_cnB 1 hts gX8_freeBySlots_X7_countFree_n286 rfl rfl rfl (nw65 hNW) hw3 (by decide +kernel) ⟨Nat.le_of_ble_eq_true rfl, Nat.le_of_ble_eq_true rfl⟩, hw4, hw5⟩ ⟨RO.blind, va_recv hK hP (ci := 7) (q0 := 2) rfl rfl, RO.pre hPc hK2 hNW⟩ rfl rfl hl.1 rfl (lv_room (Nat.le_of_ble_eq_true rfl)) dX8_freeBySlots_8 ⟨Nat.le_of_ble_eq_true rfl, Nat.le_of_ble_eq_true rfl⟩)) ?_
  refine lv_aload_n hx hb dX8_freeBySlots_11 rfl (lv_at hl 0 rfl) ?_
  refine va_get (D := (dC, dI)) (ci := 8) (v := .ref (a 1)) (C := RX8) (T := TX8) (N := 6) hx hb hts hinX8 hown hK hP 0 rfl rfl 0 (by decide) hw1 (fun _ h9 => h9) rfl dX8_freeBySlots_12 ?_
  refine va_getN (D := (dC, dI)) (ci := 6) (v := .ref (a 2)) (C := RX6) (T := TX6) (N := 5) hx hb hts hinX6 hown hK hP 1 rfl rfl 0 (by decide) (nw24 hNW) (fun _ h9 => h9) rfl dX8_freeBySlots_15 ?_
  refine lv_iconst (v := (1 : Int32)) hx hb dX8_freeBySlots_18 (by decide) ?_
  obtain ⟨r19, hc19, hf⟩ := bi_s hf
  have hPc := hP.sub (ws' := (wX7 cI cZ (ofs 2 a) (ofs 2 M))) [2, 3, 4, 5, 6] rfl
  refine cRO (va_Run.run (va_runVN (As := [.int (1 : Int32)]) (rest := [.int r8]) ⟨hx, hb, hml, hown, hts⟩ (c_X7_countFree l dC dI cI cZ (ofs 2 a) (ofs 2 M) (1 : Int32) r19 hc19) ⟨va_cnB 1 hts gX8_freeBySlots_X7_countFree_n286 rfl rfl rfl (nw65 hNW) hw3 (by decide +kernel) ⟨Nat.le_of_ble_eq_true rfl, Nat.le_of_ble_eq_true rfl⟩, hw4, hw5⟩ ⟨RO.blind, va_recv hK hP (ci := 7) (q0 := 2) rfl rfl, RO.pre hPc hK2 hNW⟩ rfl rfl hl.1 rfl (lv_room (Nat.le_of_ble_eq_true rfl)) dX8_freeBySlots_19 ⟨Nat.le_of_ble_eq_true rfl, Nat.le_of_ble_eq_true rfl⟩)) ?_
  refine lv_iadd hx hb dX8_freeBySlots_22 ?_
  exact W.iret (v := (r8 + r19)) hx hb hr (fun t ht hW => ⟨congrArg (fun x => Outcome.returned (some (Value.int x))) (so_e hf), ht⟩) fl0 dX8_freeBySlots_23
set_option maxHeartbeats 4000000 in
set_option maxRecDepth 100000 in
theorem c_X8_freeByHeights (l : Launch) (dC : Nat → ClassId) (dI : Nat → Nat → Nat) (cI cZ cS : ClassId) (f g : Nat → Option Nat) (a : Nat → Nat) (M : Mem) (z : Int32) (hf : fX8_freeByHeights M  = some z) : Met l yX8_freeByHeights wsX8_freeByHeights ({ frames := 1, cells := 0, slots := 0, locals := 22 } : Room) (va_Pc [.ref (a 0)] (RO8 (dC, dI) cI cZ cS (wX8 cI cZ cS f g a M))) (k2_QcV (.int z)) 0 0 (fun _ => False) := by
  refine Met.ofW (cc := cX8_freeByHeights) (maxL := 1) (ret := (some .int)) (by decide) rfl ?_
  intro p e s m args below meth c s₁ B hml hv
  obtain ⟨rfl, hP, hK, hNW⟩ := hv
  have hK2 : va_K (dC, dI) vwCl [(cI, .int), (cZ, .boolean)] s := hK.sub (tys' := [(cI, .int), (cZ, .boolean)]) [0, 1] rfl
  have hx := B.exec
  have hb := B.bytes
  have hr := B.returns
  have hts := atoms_spec (ws := wsX8_freeByHeights) B.pre
  have hown : s.vm.findClass RX8 = some m.cls := findClass_of_methodNamed B.named
  have hlocks := B.notSynchronized
  have hinX8 : ∀ w ∈ u_ws RX8 TX8 6, w ∈ wsX8_freeByHeights := by decide +kernel
  have hw1 := hts (.fieldLink RX8 12 "GlideShelves" "now" "LGlideShelves$State;") (by decide +kernel)
  have hinX6 : ∀ w ∈ u_ws RX6 TX6 5, w ∈ wsX8_freeByHeights := by decide +kernel
  have hw3 := hts (.initialized RX7) (by decide +kernel)
  have hw4 := hts (.instanceMethod yX7_sumOfHeights) (by decide +kernel)
  have hw5 := hts (.selects RX7 yX7_sumOfHeights yX7_sumOfHeights) (by decide +kernel)
  have hl := lv_entry ([.ref (a 0)]) (n := 1) (Nat.le_of_ble_eq_true rfl)
  rw [lg_entry_eq]
  generalize (lg_sl ([.ref (a 0)]) ++ List.replicate (1 - (lg_sl ([.ref (a 0)])).length) Slot.unset).toArray = ls at hl ⊢
  have hl : lv_has ls 1 [(0, .ref (a 0))] := hl
  unfold fX8_freeByHeights at hf
  refine lv_bipush (v := (40 : Int32)) hx hb dX8_freeByHeights_0 (by decide) ?_
  refine lv_aload_n hx hb dX8_freeByHeights_2 rfl (lv_at hl 0 rfl) ?_
  refine va_get (D := (dC, dI)) (ci := 8) (v := .ref (a 1)) (C := RX8) (T := TX8) (N := 6) hx hb hts hinX8 hown hK hP 0 rfl rfl 0 (by decide) hw1 (fun _ h9 => h9) rfl dX8_freeByHeights_3 ?_
  refine va_getN (D := (dC, dI)) (ci := 6) (v := .ref (a 2)) (C := RX6) (T := TX6) (N := 5) hx hb hts hinX6 hown hK hP 1 rfl rfl 0 (by decide) (nw24 hNW) (fun _ h9 => h9) rfl dX8_freeByHeights_6 ?_
  obtain ⟨r9, hc9, hf⟩ := bi_s hf
  have hPc := hP.sub (ws' := (wX7 cI cZ (ofs 2 a) (ofs 2 M))) [2, 3, 4, 5, 6] rfl
  refine cRO (va_Run.run (va_runVN (As := []) (rest := [.int (40 : Int32)]) ⟨hx, hb, hml, hown, hts⟩ (c_X7_sumOfHeights l dC dI cI cZ (ofs 2 a) (ofs 2 M) r9 hc9) ⟨va_cnB 0 hts gX8_freeByHeights_X7_sumOfHeights_n289 rfl rfl rfl (nw66 hNW) hw3 (by decide +kernel) ⟨Nat.le_of_ble_eq_true rfl, Nat.le_of_ble_eq_true rfl⟩, hw4, hw5⟩ ⟨RO.blind, va_recv hK hP (ci := 7) (q0 := 2) rfl rfl, RO.pre hPc hK2 hNW⟩ rfl rfl hl.1 rfl (lv_room (Nat.le_of_ble_eq_true rfl)) dX8_freeByHeights_9 ⟨Nat.le_of_ble_eq_true rfl, Nat.le_of_ble_eq_true rfl⟩)) ?_
  refine lv_isub hx hb dX8_freeByHeights_12 ?_
  exact W.iret (v := ((40 : Int32) - r9)) hx hb hr (fun t ht hW => ⟨congrArg (fun x => Outcome.returned (some (Value.int x))) (so_e hf), ht⟩) fl0 dX8_freeByHeights_13
set_option maxHeartbeats 4000000 in
set_option maxRecDepth 100000 in
theorem n_X8_requireHeight (l : Launch) (dC : Nat → ClassId) (dI : Nat → Nat → Nat) (cI cZ cS : ClassId) (f g : Nat → Option Nat) (a : Nat → Nat) (M : Mem) (a1 : Int32) (hf : fX8_requireHeight M a1 = some (Sum.inr ())) : Met l yX8_requireHeight wsX8_requireHeight ({ frames := 0, cells := 0, slots := 0, locals := 0 } : Room) (va_Pc [.ref (a 0), .int a1] (RO8 (dC, dI) cI cZ cS (wX8 cI cZ cS f g a M))) (va_Sv (fun _ => True)) 0 0 (fun _ => False) := by
  refine Met.ofW (cc := cX8_requireHeight) (maxL := 2) (ret := none) (by decide) rfl ?_
  intro p e s m args below meth c s₁ B hml hv
  obtain ⟨rfl, hP, hK, hNW⟩ := hv
  have hx := B.exec
  have hb := B.bytes
  have hr := B.returns
  have hts := atoms_spec (ws := wsX8_requireHeight) B.pre
  have hown : s.vm.findClass RX8 = some m.cls := findClass_of_methodNamed B.named
  have hlocks := B.notSynchronized
  have hK2 : va_K (dC, dI) vwCl [(cI, .int), (cZ, .boolean)] s := hK.sub (tys' := [(cI, .int), (cZ, .boolean)]) [0, 1] rfl
  have hfX8_requireHeight_B10 : ∀ (_ : Unit), fX8_requireHeight_B10 M  () = some (Sum.inr ()) → ∀ (ls : Array Slot), lv_has ls 2 [] → W p l e (headSpec wsX8_requireHeight ({ frames := 0, cells := 0, slots := 0, locals := 0 } : Room)).room s m ([.ref (a 0), .int a1] : List Value).toArray below meth c s.heap [] 0 0 (MQ below (va_Sv (fun _ => True)) ([.ref (a 0), .int a1] : List Value).toArray s 0 0 (fun _ => False)) (F0 m 10 ls []) := by
    intro  _ hf ls hl
    unfold fX8_requireHeight_B10 at hf
    have e9 := so_e hf
    cases e9
  have hl := lv_entry ([.ref (a 0), .int a1]) (n := 2) (Nat.le_of_ble_eq_true rfl)
  rw [lg_entry_eq]
  generalize (lg_sl ([.ref (a 0), .int a1]) ++ List.replicate (2 - (lg_sl ([.ref (a 0), .int a1])).length) Slot.unset).toArray = ls at hl ⊢
  have hl : lv_has ls 2 [(0, .ref (a 0)), (1, .int a1)] := hl
  unfold fX8_requireHeight at hf
  refine lv_iload_n hx hb dX8_requireHeight_0 rfl (lv_at hl 1 rfl) ?_
  refine lv_iconst (v := (1 : Int32)) hx hb dX8_requireHeight_1 (by decide) ?_
  refine lv_icmp_lt (tgt := 10) hx hb dX8_requireHeight_2 (by decide) (fun c9 => ?_) (fun c9 => ?_)
  · have hf := it_t hf c9
    exact hfX8_requireHeight_B10  () hf _ (lv_sub hl [] rfl)
  · have hf := it_f hf c9
    refine lv_iload_n hx hb dX8_requireHeight_5 rfl (lv_at hl 1 rfl) ?_
    refine lv_iconst (v := (4 : Int32)) hx hb dX8_requireHeight_6 (by decide) ?_
    refine lv_icmp_le (tgt := 21) hx hb dX8_requireHeight_7 (by decide) (fun c9 => ?_) (fun c9 => ?_)
    · have hf := it_t hf c9
      have e9 := so_e hf
      cases e9
      exact W.vret hx hb hr (fun t ht hW => ⟨rfl, trivial, ht⟩) fl0 dX8_requireHeight_21
    · have hf := it_f hf c9
      exact hfX8_requireHeight_B10  () hf _ (lv_sub hl [] rfl)
set_option maxHeartbeats 4000000 in
set_option maxRecDepth 100000 in
theorem n_X8_firstPlace (l : Launch) (dC : Nat → ClassId) (dI : Nat → Nat → Nat) (cI cZ cS : ClassId) (f g : Nat → Option Nat) (a : Nat → Nat) (M : Mem) (a1 : Int32) (z1 : Int32) (hf : fX8_firstPlace M a1 = some (Sum.inr z1)) : Met l yX8_firstPlace wsX8_firstPlace ({ frames := 3, cells := 0, slots := 0, locals := 66 } : Room) (va_Pc [.ref (a 0), .int a1] (RO8 (dC, dI) cI cZ cS (wX8 cI cZ cS f g a M))) (k2_QcV (.int z1)) 0 0 (fun _ => False) := by
  refine Met.ofW (cc := cX8_firstPlace) (maxL := 3) (ret := (some .int)) (by decide) rfl ?_
  intro p e s m args below meth c s₁ B hml hv
  obtain ⟨rfl, hP, hK, hNW⟩ := hv
  have hx := B.exec
  have hb := B.bytes
  have hr := B.returns
  have hts := atoms_spec (ws := wsX8_firstPlace) B.pre
  have hown : s.vm.findClass RX8 = some m.cls := findClass_of_methodNamed B.named
  have hlocks := B.notSynchronized
  have hK2 : va_K (dC, dI) vwCl [(cI, .int), (cZ, .boolean)] s := hK.sub (tys' := [(cI, .int), (cZ, .boolean)]) [0, 1] rfl
  have hinX8 : ∀ w ∈ u_ws RX8 TX8 6, w ∈ wsX8_firstPlace := by decide +kernel
  have hw1 := hts (.fieldLink RX8 12 "GlideShelves" "now" "LGlideShelves$State;") (by decide +kernel)
  have hinX6 : ∀ w ∈ u_ws RX6 TX6 5, w ∈ wsX8_firstPlace := by decide +kernel
  have hw3 := hts (.initialized RX7) (by decide +kernel)
  have hw4 := hts (.instanceMethod yX7_firstFree) (by decide +kernel)
  have hw5 := hts (.selects RX7 yX7_firstFree yX7_firstFree) (by decide +kernel)
  have hl := lv_entry ([.ref (a 0), .int a1]) (n := 3) (Nat.le_of_ble_eq_true rfl)
  rw [lg_entry_eq]
  generalize (lg_sl ([.ref (a 0), .int a1]) ++ List.replicate (3 - (lg_sl ([.ref (a 0), .int a1])).length) Slot.unset).toArray = ls at hl ⊢
  have hl : lv_has ls 3 [(0, .ref (a 0)), (1, .int a1)] := hl
  unfold fX8_firstPlace at hf
  refine lv_aload_n hx hb dX8_firstPlace_0 rfl (lv_at hl 0 rfl) ?_
  refine lv_iload_n hx hb dX8_firstPlace_1 rfl (lv_at hl 1 rfl) ?_
  obtain ⟨r2, hc2, hf⟩ := bi_s hf
  rcases r2 with E9 | r2
  · have e9 := so_e hf
    cases e9
  have hf := sel_r hf
  refine cROv (W.runV (As := [.int a1]) (rest := []) ⟨hx, hb, hml, hown, hts⟩ (n_X8_requireHeight l dC dI cI cZ cS f g a M a1  hc2) (cwV 1 hts gX8_firstPlace_X8_requireHeight rfl rfl rfl (by decide +kernel) ⟨Nat.le_of_ble_eq_true rfl, Nat.le_of_ble_eq_true rfl⟩) ⟨RO8.blind, va_recv hK hP (ci := 8) (q0 := 0) rfl rfl, RO8.pre hP hK hNW⟩ rfl rfl hl.1 rfl (lv_room (Nat.le_of_ble_eq_true rfl)) dX8_firstPlace_2 ⟨Nat.le_of_ble_eq_true rfl, Nat.le_of_ble_eq_true rfl⟩) ?_
  refine lv_aload_n hx hb dX8_firstPlace_5 rfl (lv_at hl 0 rfl) ?_
  refine va_get (D := (dC, dI)) (ci := 8) (v := .ref (a 1)) (C := RX8) (T := TX8) (N := 6) hx hb hts hinX8 hown hK hP 0 rfl rfl 0 (by decide) hw1 (fun _ h9 => h9) rfl dX8_firstPlace_6 ?_
  refine va_getN (D := (dC, dI)) (ci := 6) (v := .ref (a 2)) (C := RX6) (T := TX6) (N := 5) hx hb hts hinX6 hown hK hP 1 rfl rfl 0 (by decide) (nw24 hNW) (fun _ h9 => h9) rfl dX8_firstPlace_9 ?_
  refine lv_iload_n hx hb dX8_firstPlace_12 rfl (lv_at hl 1 rfl) ?_
  obtain ⟨r13, hc13, hf⟩ := bi_s hf
  have hPc := hP.sub (ws' := (wX7 cI cZ (ofs 2 a) (ofs 2 M))) [2, 3, 4, 5, 6] rfl
  refine cRO (va_Run.run (va_runVN (As := [.int a1]) (rest := []) ⟨hx, hb, hml, hown, hts⟩ (c_X7_firstFree l dC dI cI cZ (ofs 2 a) (ofs 2 M) a1 r13 hc13) ⟨va_cnB 1 hts gX8_firstPlace_X7_firstFree_n64 rfl rfl rfl (nw84 hNW) hw3 (by decide +kernel) ⟨Nat.le_of_ble_eq_true rfl, Nat.le_of_ble_eq_true rfl⟩, hw4, hw5⟩ ⟨RO.blind, va_recv hK hP (ci := 7) (q0 := 2) rfl rfl, RO.pre hPc hK2 hNW⟩ rfl rfl hl.1 rfl (lv_room (Nat.le_of_ble_eq_true rfl)) dX8_firstPlace_13 ⟨Nat.le_of_ble_eq_true rfl, Nat.le_of_ble_eq_true rfl⟩)) ?_
  refine lv_istore_n (lv' := [(2, .int r13), (0, .ref (a 0)), (1, .int a1)]) hx hb dX8_firstPlace_16 rfl hl (by decide) rfl (fun ls hl => ?_)
  refine lv_iload_n hx hb dX8_firstPlace_17 rfl (lv_at hl 0 rfl) ?_
  refine lv_iconst (v := (-1 : Int32)) hx hb dX8_firstPlace_18 (by decide) ?_
  refine lv_icmp_ne (tgt := 32) hx hb dX8_firstPlace_19 (by decide) (fun c9 => ?_) (fun c9 => ?_)
  · have hf := it_t hf c9
    refine lv_iload_n hx hb dX8_firstPlace_32 rfl (lv_at hl 0 rfl) ?_
    have e9 := so_e hf
    cases e9
    exact W.iret hx hb hr (fun t ht hW => ⟨rfl, ht⟩) fl0 dX8_firstPlace_33
  · have hf := it_n hf c9
    have e9 := so_e hf
    cases e9
set_option maxHeartbeats 4000000 in
set_option maxRecDepth 100000 in
theorem t_X8_requireHeight (l : Launch) (hst : l.stackTraces = false) (dC : Nat → ClassId) (dI : Nat → Nat → Nat) (cI cZ cS : ClassId) (f g : Nat → Option Nat) (a : Nat → Nat) (sz : Nat) (M : Mem) (a1 : Int32) (E : String) (hf : fX8_requireHeight M a1 = some (Sum.inl E)) : vx_Met l yX8_requireHeight wsX8_requireHeight ({ frames := 6, cells := 1, slots := 6, locals := 110 } : Room) (va_Pc [.ref (a 0), .int a1] (T8 (dC, dI) cI cZ cS (wX8 cI cZ cS f g a M) sz)) (fun _ _ _ _ => False) (vx_X (S := Unit) (fun _ => True) (fun E' _ t => E' = E ∧ WE (dC, dI) cI cZ (wX8 cI cZ cS f g a M) (va_A (wX8 cI cZ cS f g a M) sz) t) (va_A (wX8 cI cZ cS f g a M) sz)) 1 6 (va_A (wX8 cI cZ cS f g a M) sz) := by
  refine vx_ofW (cc := cX8_requireHeight) (maxL := 2) (ret := none) (by decide) rfl ?_
  intro p e s m args below meth c s₁ B hml htab hv
  obtain ⟨rfl, hsz, hP, hK, hD0, hNW, hEX⟩ := hv
  have hx := B.exec
  have hb := B.bytes
  have hr := B.returns
  have hts := atoms_spec (ws := wsX8_requireHeight) B.pre
  have hown : s.vm.findClass RX8 = some m.cls := findClass_of_methodNamed B.named
  have hlocks := B.notSynchronized
  have hK2 : va_K (dC, dI) vwCl [(cI, .int), (cZ, .boolean)] s := hK.sub (tys' := [(cI, .int), (cZ, .boolean)]) [0, 1] rfl
  have hw0 := hts (.classLink RX8 174 "java/lang/IllegalArgumentException") (by decide +kernel)
  have hw1 := hts (.initialized "java/lang/IllegalArgumentException") (by decide +kernel)
  have hsuf178 : ∀ w ∈ (vx_atS RX8 178 "java/lang/IllegalArgumentException" ["java/lang/RuntimeException", "java/lang/Exception"]).filter goodWord, w.before _ s = true := fun w h => hts w (List.mem_cons_of_mem _ (List.mem_append_right _ h))
  subst hsz
  have hD := hD0.self (sz := s.heap.size)
  generalize hAe : va_A (wX8 cI cZ cS f g a M) s.heap.size = A at hD hEX ⊢
  have hA : ∀ q : Nat, s.heap.size ≤ q → A q := fun q h => by rw [← hAe]; exact Or.inr h
  have hS : va_S A s.heap s.heap [] := va_S.rf
  have hfX8_requireHeight_B10 : ∀ (_ : Unit), fX8_requireHeight_B10 M  () = some (Sum.inl E) → ∀ (ls : Array Slot), lv_has ls 2 [] → W p l e (headSpec wsX8_requireHeight ({ frames := 6, cells := 1, slots := 6, locals := 110 } : Room)).room s m ([.ref (a 0), .int a1] : List Value).toArray below meth c s.heap [] 0 0 (vx_MQ below (fun _ _ _ _ => False) (vx_X (S := Unit) (fun _ => True) (fun E' _ t => E' = E ∧ WE (dC, dI) cI cZ (wX8 cI cZ cS f g a M) A t) A) ([.ref (a 0), .int a1] : List Value).toArray s 1 6 A) (F0 m 10 ls []) := by
    intro  _ hf ls hl
    unfold fX8_requireHeight_B10 at hf
    have e9 := so_e hf
    cases e9
    obtain ⟨sa, hsa⟩ := hEX.2.2 (RX8, 412, "the height is not 1 to 4") (List.mem_of_getElem? (i := 19) rfl)
    exact vx_throwSW (cls := "java/lang/IllegalArgumentException") (text := "the height is not 1 to 4") (names := ["java/lang/RuntimeException", "java/lang/Exception"]) (ik := 174) (is := 412) (ic := 178) (sa := sa) hx hb hst hown (by decide +kernel) (by decide +kernel) hw0 hw1 hsa (hat_178 hsuf178 hNW) (by decide +kernel) hEX.1 hEX.2.1 hS (hl.1.trans hml.symm) dX8_requireHeight_10 dX8_requireHeight_13 dX8_requireHeight_14 dX8_requireHeight_17 dX8_requireHeight_20 (fun x h => (htab x h).elim) (by decide) (by decide) (Nat.le_of_ble_eq_true rfl) (Nat.le_of_ble_eq_true rfl) hlocks (fun t hal hz hk => ⟨(), trivial, ⟨rfl, WE.th hP hD hz hk⟩, S_ext hS hz hk⟩) hS.2.2 (Nat.le_of_ble_eq_true rfl) (Nat.le_of_ble_eq_true rfl)
  have hl := lv_entry ([.ref (a 0), .int a1]) (n := 2) (Nat.le_of_ble_eq_true rfl)
  rw [lg_entry_eq]
  generalize (lg_sl ([.ref (a 0), .int a1]) ++ List.replicate (2 - (lg_sl ([.ref (a 0), .int a1])).length) Slot.unset).toArray = ls at hl ⊢
  have hl : lv_has ls 2 [(0, .ref (a 0)), (1, .int a1)] := hl
  unfold fX8_requireHeight at hf
  refine lv_iload_n hx hb dX8_requireHeight_0 rfl (lv_at hl 1 rfl) ?_
  refine lv_iconst (v := (1 : Int32)) hx hb dX8_requireHeight_1 (by decide) ?_
  refine lv_icmp_lt (tgt := 10) hx hb dX8_requireHeight_2 (by decide) (fun c9 => ?_) (fun c9 => ?_)
  · have hf := it_t hf c9
    exact hfX8_requireHeight_B10  () hf _ (lv_sub hl [] rfl)
  · have hf := it_f hf c9
    refine lv_iload_n hx hb dX8_requireHeight_5 rfl (lv_at hl 1 rfl) ?_
    refine lv_iconst (v := (4 : Int32)) hx hb dX8_requireHeight_6 (by decide) ?_
    refine lv_icmp_le (tgt := 21) hx hb dX8_requireHeight_7 (by decide) (fun c9 => ?_) (fun c9 => ?_)
    · have hf := it_t hf c9
      have e9 := so_e hf
      cases e9
    · have hf := it_f hf c9
      exact hfX8_requireHeight_B10  () hf _ (lv_sub hl [] rfl)
set_option maxHeartbeats 4000000 in
set_option maxRecDepth 100000 in
theorem t_X8_firstPlace (l : Launch) (hst : l.stackTraces = false) (dC : Nat → ClassId) (dI : Nat → Nat → Nat) (cI cZ cS : ClassId) (f g : Nat → Option Nat) (a : Nat → Nat) (sz : Nat) (M : Mem) (a1 : Int32) (E : String) (hf : fX8_firstPlace M a1 = some (Sum.inl E)) : vx_Met l yX8_firstPlace wsX8_firstPlace ({ frames := 7, cells := 1, slots := 6, locals := 131 } : Room) (va_Pc [.ref (a 0), .int a1] (T8 (dC, dI) cI cZ cS (wX8 cI cZ cS f g a M) sz)) (fun _ _ _ _ => False) (vx_X (S := Unit) (fun _ => True) (fun E' _ t => E' = E ∧ WE (dC, dI) cI cZ (wX8 cI cZ cS f g a M) (va_A (wX8 cI cZ cS f g a M) sz) t) (va_A (wX8 cI cZ cS f g a M) sz)) 1 6 (va_A (wX8 cI cZ cS f g a M) sz) := by
  refine vx_ofW (cc := cX8_firstPlace) (maxL := 3) (ret := (some .int)) (by decide) rfl ?_
  intro p e s m args below meth c s₁ B hml htab hv
  obtain ⟨rfl, hsz, hP, hK, hD0, hNW, hEX⟩ := hv
  have hx := B.exec
  have hb := B.bytes
  have hr := B.returns
  have hts := atoms_spec (ws := wsX8_firstPlace) B.pre
  have hown : s.vm.findClass RX8 = some m.cls := findClass_of_methodNamed B.named
  have hlocks := B.notSynchronized
  have hK2 : va_K (dC, dI) vwCl [(cI, .int), (cZ, .boolean)] s := hK.sub (tys' := [(cI, .int), (cZ, .boolean)]) [0, 1] rfl
  have hinX8 : ∀ w ∈ u_ws RX8 TX8 6, w ∈ wsX8_firstPlace := by decide +kernel
  have hw1 := hts (.fieldLink RX8 12 "GlideShelves" "now" "LGlideShelves$State;") (by decide +kernel)
  have hinX6 : ∀ w ∈ u_ws RX6 TX6 5, w ∈ wsX8_firstPlace := by decide +kernel
  have hw3 := hts (.initialized RX7) (by decide +kernel)
  have hw4 := hts (.instanceMethod yX7_firstFree) (by decide +kernel)
  have hw5 := hts (.selects RX7 yX7_firstFree yX7_firstFree) (by decide +kernel)
  have hw6 := hts (.classLink RX8 54 "java/lang/IllegalStateException") (by decide +kernel)
  have hw7 := hts (.initialized "java/lang/IllegalStateException") (by decide +kernel)
  have hsuf58 : ∀ w ∈ (vx_atS RX8 58 "java/lang/IllegalStateException" ["java/lang/RuntimeException", "java/lang/Exception"]).filter goodWord, w.before _ s = true := fun w h => hts w (List.mem_cons_of_mem _ (List.mem_append_left _ (List.mem_append_right _ h)))
  subst hsz
  have hD := hD0.self (sz := s.heap.size)
  generalize hAe : va_A (wX8 cI cZ cS f g a M) s.heap.size = A at hD hEX ⊢
  have hA : ∀ q : Nat, s.heap.size ≤ q → A q := fun q h => by rw [← hAe]; exact Or.inr h
  have hS : va_S A s.heap s.heap [] := va_S.rf
  have hl := lv_entry ([.ref (a 0), .int a1]) (n := 3) (Nat.le_of_ble_eq_true rfl)
  rw [lg_entry_eq]
  generalize (lg_sl ([.ref (a 0), .int a1]) ++ List.replicate (3 - (lg_sl ([.ref (a 0), .int a1])).length) Slot.unset).toArray = ls at hl ⊢
  have hl : lv_has ls 3 [(0, .ref (a 0)), (1, .int a1)] := hl
  unfold fX8_firstPlace at hf
  refine lv_aload_n hx hb dX8_firstPlace_0 rfl (lv_at hl 0 rfl) ?_
  refine lv_iload_n hx hb dX8_firstPlace_1 rfl (lv_at hl 1 rfl) ?_
  obtain ⟨r2, hc2, hf⟩ := bi_s hf
  rcases r2 with E9 | r2
  · have e9 := so_e hf
    cases e9
    have hFc := va_free (wc := (wX8 cI cZ cS f g a M)) hD hS hA [0, 1, 2, 3, 4, 5, 6, 7, 8, 9, 10, 11, 12, 13, 14, 15, 16, 17, 18, 19, 20, 21, 22, 23, 24, 25, 26, 27, 28, 29, 30, 31, 32, 33, 34, 35, 36, 37, 38, 39, 40, 41] rfl
    refine vx_thr (vx_runV (As := [.int a1]) (rest := []) ⟨hx, hb, hml, hown, hts⟩ (t_X8_requireHeight l hst dC dI cI cZ cS f g a _ M a1 _ hc2) (cwV 1 hts gX8_firstPlace_X8_requireHeight rfl rfl rfl (by decide +kernel) ⟨Nat.le_of_ble_eq_true rfl, Nat.le_of_ble_eq_true rfl⟩) ⟨T8.blind, va_recv hK hP (ci := 8) (q0 := 0) rfl rfl, T8.pre hP hK hD hNW (hEX.at hS hFc)⟩ rfl rfl hl.1 rfl (lv_room (Nat.le_of_ble_eq_true rfl)) dX8_firstPlace_2 ⟨Nat.le_of_ble_eq_true rfl, Nat.le_of_ble_eq_true rfl⟩) hS (fun q _ h => hFc q h) hFc (fun ce q9 t H1 locs1 ht hal hP1 hD1 hz1 hS1 hce hcv hcl => ?_)
    exact vx_out (fun x h => (htab x h).elim) hlocks hce hcv hcl (fun t ht hal => ⟨(), trivial, ⟨rfl, WE.mk hP1 (hD1.weaken (fun k q _ h => hFc q.1 h)) ht⟩, hS1.F ht⟩) hS1.2.2 (Nat.le_of_ble_eq_true rfl) (Nat.le_of_ble_eq_true rfl)
  have hf := sel_r hf
  refine cROv (W.runV (As := [.int a1]) (rest := []) ⟨hx, hb, hml, hown, hts⟩ (n_X8_requireHeight l dC dI cI cZ cS f g a M a1  hc2) (cwV 1 hts gX8_firstPlace_X8_requireHeight rfl rfl rfl (by decide +kernel) ⟨Nat.le_of_ble_eq_true rfl, Nat.le_of_ble_eq_true rfl⟩) ⟨RO8.blind, va_recv hK hP (ci := 8) (q0 := 0) rfl rfl, RO8.pre hP hK hNW⟩ rfl rfl hl.1 rfl (lv_room (Nat.le_of_ble_eq_true rfl)) dX8_firstPlace_2 ⟨Nat.le_of_ble_eq_true rfl, Nat.le_of_ble_eq_true rfl⟩) ?_
  refine lv_aload_n hx hb dX8_firstPlace_5 rfl (lv_at hl 0 rfl) ?_
  refine va_get (D := (dC, dI)) (ci := 8) (v := .ref (a 1)) (C := RX8) (T := TX8) (N := 6) hx hb hts hinX8 hown hK hP 0 rfl rfl 0 (by decide) hw1 (fun _ h9 => h9) rfl dX8_firstPlace_6 ?_
  refine va_getN (D := (dC, dI)) (ci := 6) (v := .ref (a 2)) (C := RX6) (T := TX6) (N := 5) hx hb hts hinX6 hown hK hP 1 rfl rfl 0 (by decide) (nw24 hNW) (fun _ h9 => h9) rfl dX8_firstPlace_9 ?_
  refine lv_iload_n hx hb dX8_firstPlace_12 rfl (lv_at hl 1 rfl) ?_
  obtain ⟨r13, hc13, hf⟩ := bi_s hf
  have hPc := hP.sub (ws' := (wX7 cI cZ (ofs 2 a) (ofs 2 M))) [2, 3, 4, 5, 6] rfl
  refine cRO (va_Run.run (va_runVN (As := [.int a1]) (rest := []) ⟨hx, hb, hml, hown, hts⟩ (c_X7_firstFree l dC dI cI cZ (ofs 2 a) (ofs 2 M) a1 r13 hc13) ⟨va_cnB 1 hts gX8_firstPlace_X7_firstFree_n64 rfl rfl rfl (nw84 hNW) hw3 (by decide +kernel) ⟨Nat.le_of_ble_eq_true rfl, Nat.le_of_ble_eq_true rfl⟩, hw4, hw5⟩ ⟨RO.blind, va_recv hK hP (ci := 7) (q0 := 2) rfl rfl, RO.pre hPc hK2 hNW⟩ rfl rfl hl.1 rfl (lv_room (Nat.le_of_ble_eq_true rfl)) dX8_firstPlace_13 ⟨Nat.le_of_ble_eq_true rfl, Nat.le_of_ble_eq_true rfl⟩)) ?_
  refine lv_istore_n (lv' := [(2, .int r13), (0, .ref (a 0)), (1, .int a1)]) hx hb dX8_firstPlace_16 rfl hl (by decide) rfl (fun ls hl => ?_)
  refine lv_iload_n hx hb dX8_firstPlace_17 rfl (lv_at hl 0 rfl) ?_
  refine lv_iconst (v := (-1 : Int32)) hx hb dX8_firstPlace_18 (by decide) ?_
  refine lv_icmp_ne (tgt := 32) hx hb dX8_firstPlace_19 (by decide) (fun c9 => ?_) (fun c9 => ?_)
  · have hf := it_t hf c9
    refine lv_iload_n hx hb dX8_firstPlace_32 rfl (lv_at hl 0 rfl) ?_
    have e9 := so_e hf
    cases e9
  · have hf := it_n hf c9
    have e9 := so_e hf
    cases e9
    obtain ⟨sa, hsa⟩ := hEX.2.2 (RX8, 68, "no place fits") (List.mem_of_getElem? (i := 1) rfl)
    exact vx_throwS (cls := "java/lang/IllegalStateException") (text := "no place fits") (names := ["java/lang/RuntimeException", "java/lang/Exception"]) (ik := 54) (is := 68) (ic := 58) (sa := sa) hx hb hst hown (by decide +kernel) (by decide +kernel) hw6 hw7 hsa (hat_58 hsuf58 hNW) (by decide +kernel) hEX.1 hEX.2.1 hS (hl.1.trans hml.symm) dX8_firstPlace_22 dX8_firstPlace_25 dX8_firstPlace_26 dX8_firstPlace_28 dX8_firstPlace_31 (fun x h => (htab x h).elim) (by decide) (by decide) (Nat.le_of_ble_eq_true rfl) (Nat.le_of_ble_eq_true rfl) hlocks (fun t hal hz hk => ⟨(), trivial, ⟨rfl, WE.th hP hD hz hk⟩, S_ext hS hz hk⟩) hS.2.2 (Nat.le_of_ble_eq_true rfl) (Nat.le_of_ble_eq_true rfl)
set_option maxHeartbeats 4000000 in
set_option maxRecDepth 100000 in
theorem n_X8_longestGap (l : Launch) (dC : Nat → ClassId) (dI : Nat → Nat → Nat) (cI cZ cS : ClassId) (f g : Nat → Option Nat) (a : Nat → Nat) (M : Mem) (a1 : Int32) (z1 : Int32) (hf : fX8_longestGap M a1 = some (Sum.inr z1)) : Met l yX8_longestGap wsX8_longestGap ({ frames := 3, cells := 0, slots := 0, locals := 69 } : Room) (va_Pc [.ref (a 0), .int a1] (RO8 (dC, dI) cI cZ cS (wX8 cI cZ cS f g a M))) (k2_QcV (.int z1)) 0 0 (fun _ => False) := by
  refine Met.ofW (cc := cX8_longestGap) (maxL := 2) (ret := (some .int)) (by decide) rfl ?_
  intro p e s m args below meth c s₁ B hml hv
  obtain ⟨rfl, hP, hK, hNW⟩ := hv
  have hx := B.exec
  have hb := B.bytes
  have hr := B.returns
  have hts := atoms_spec (ws := wsX8_longestGap) B.pre
  have hown : s.vm.findClass RX8 = some m.cls := findClass_of_methodNamed B.named
  have hlocks := B.notSynchronized
  have hK2 : va_K (dC, dI) vwCl [(cI, .int), (cZ, .boolean)] s := hK.sub (tys' := [(cI, .int), (cZ, .boolean)]) [0, 1] rfl
  have hinX8 : ∀ w ∈ u_ws RX8 TX8 6, w ∈ wsX8_longestGap := by decide +kernel
  have hw1 := hts (.fieldLink RX8 12 "GlideShelves" "now" "LGlideShelves$State;") (by decide +kernel)
  have hinX6 : ∀ w ∈ u_ws RX6 TX6 5, w ∈ wsX8_longestGap := by decide +kernel
  have hw3 := hts (.initialized RX7) (by decide +kernel)
  have hw4 := hts (.instanceMethod yX7_longestFree) (by decide +kernel)
  have hw5 := hts (.selects RX7 yX7_longestFree yX7_longestFree) (by decide +kernel)
  have hl := lv_entry ([.ref (a 0), .int a1]) (n := 2) (Nat.le_of_ble_eq_true rfl)
  rw [lg_entry_eq]
  generalize (lg_sl ([.ref (a 0), .int a1]) ++ List.replicate (2 - (lg_sl ([.ref (a 0), .int a1])).length) Slot.unset).toArray = ls at hl ⊢
  have hl : lv_has ls 2 [(0, .ref (a 0)), (1, .int a1)] := hl
  unfold fX8_longestGap at hf
  refine lv_aload_n hx hb dX8_longestGap_0 rfl (lv_at hl 0 rfl) ?_
  refine lv_iload_n hx hb dX8_longestGap_1 rfl (lv_at hl 1 rfl) ?_
  obtain ⟨r2, hc2, hf⟩ := bi_s hf
  rcases r2 with E9 | r2
  · have e9 := so_e hf
    cases e9
  have hf := sel_r hf
  refine cROv (W.runV (As := [.int a1]) (rest := []) ⟨hx, hb, hml, hown, hts⟩ (n_X8_requireSide l dC dI cI cZ cS f g a M a1  hc2) (cwV 1 hts gX8_longestGap_X8_requireSide rfl rfl rfl (by decide +kernel) ⟨Nat.le_of_ble_eq_true rfl, Nat.le_of_ble_eq_true rfl⟩) ⟨RO8.blind, va_recv hK hP (ci := 8) (q0 := 0) rfl rfl, RO8.pre hP hK hNW⟩ rfl rfl hl.1 rfl (lv_room (Nat.le_of_ble_eq_true rfl)) dX8_longestGap_2 ⟨Nat.le_of_ble_eq_true rfl, Nat.le_of_ble_eq_true rfl⟩) ?_
  refine lv_aload_n hx hb dX8_longestGap_5 rfl (lv_at hl 0 rfl) ?_
  refine va_get (D := (dC, dI)) (ci := 8) (v := .ref (a 1)) (C := RX8) (T := TX8) (N := 6) hx hb hts hinX8 hown hK hP 0 rfl rfl 0 (by decide) hw1 (fun _ h9 => h9) rfl dX8_longestGap_6 ?_
  refine va_getN (D := (dC, dI)) (ci := 6) (v := .ref (a 2)) (C := RX6) (T := TX6) (N := 5) hx hb hts hinX6 hown hK hP 1 rfl rfl 0 (by decide) (nw24 hNW) (fun _ h9 => h9) rfl dX8_longestGap_9 ?_
  refine lv_iload_n hx hb dX8_longestGap_12 rfl (lv_at hl 1 rfl) ?_
  obtain ⟨r13, hc13, hf⟩ := bi_s hf
  have hPc := hP.sub (ws' := (wX7 cI cZ (ofs 2 a) (ofs 2 M))) [2, 3, 4, 5, 6] rfl
  refine cRO (va_Run.run (va_runVN (As := [.int a1]) (rest := []) ⟨hx, hb, hml, hown, hts⟩ (c_X7_longestFree l dC dI cI cZ (ofs 2 a) (ofs 2 M) a1 r13 hc13) ⟨va_cnB 1 hts gX8_longestGap_X7_longestFree_n295 rfl rfl rfl (nw67 hNW) hw3 (by decide +kernel) ⟨Nat.le_of_ble_eq_true rfl, Nat.le_of_ble_eq_true rfl⟩, hw4, hw5⟩ ⟨RO.blind, va_recv hK hP (ci := 7) (q0 := 2) rfl rfl, RO.pre hPc hK2 hNW⟩ rfl rfl hl.1 rfl (lv_room (Nat.le_of_ble_eq_true rfl)) dX8_longestGap_13 ⟨Nat.le_of_ble_eq_true rfl, Nat.le_of_ble_eq_true rfl⟩)) ?_
  have e9 := so_e hf
  cases e9
  exact W.iret hx hb hr (fun t ht hW => ⟨rfl, ht⟩) fl0 dX8_longestGap_16
set_option maxHeartbeats 4000000 in
set_option maxRecDepth 100000 in
theorem t_X8_longestGap (l : Launch) (hst : l.stackTraces = false) (dC : Nat → ClassId) (dI : Nat → Nat → Nat) (cI cZ cS : ClassId) (f g : Nat → Option Nat) (a : Nat → Nat) (sz : Nat) (M : Mem) (a1 : Int32) (E : String) (hf : fX8_longestGap M a1 = some (Sum.inl E)) : vx_Met l yX8_longestGap wsX8_longestGap ({ frames := 7, cells := 1, slots := 6, locals := 131 } : Room) (va_Pc [.ref (a 0), .int a1] (T8 (dC, dI) cI cZ cS (wX8 cI cZ cS f g a M) sz)) (fun _ _ _ _ => False) (vx_X (S := Unit) (fun _ => True) (fun E' _ t => E' = E ∧ WE (dC, dI) cI cZ (wX8 cI cZ cS f g a M) (va_A (wX8 cI cZ cS f g a M) sz) t) (va_A (wX8 cI cZ cS f g a M) sz)) 1 6 (va_A (wX8 cI cZ cS f g a M) sz) := by
  refine vx_ofW (cc := cX8_longestGap) (maxL := 2) (ret := (some .int)) (by decide) rfl ?_
  intro p e s m args below meth c s₁ B hml htab hv
  obtain ⟨rfl, hsz, hP, hK, hD0, hNW, hEX⟩ := hv
  have hx := B.exec
  have hb := B.bytes
  have hr := B.returns
  have hts := atoms_spec (ws := wsX8_longestGap) B.pre
  have hown : s.vm.findClass RX8 = some m.cls := findClass_of_methodNamed B.named
  have hlocks := B.notSynchronized
  have hK2 : va_K (dC, dI) vwCl [(cI, .int), (cZ, .boolean)] s := hK.sub (tys' := [(cI, .int), (cZ, .boolean)]) [0, 1] rfl
  have hinX8 : ∀ w ∈ u_ws RX8 TX8 6, w ∈ wsX8_longestGap := by decide +kernel
  have hw1 := hts (.fieldLink RX8 12 "GlideShelves" "now" "LGlideShelves$State;") (by decide +kernel)
  have hinX6 : ∀ w ∈ u_ws RX6 TX6 5, w ∈ wsX8_longestGap := by decide +kernel
  have hw3 := hts (.initialized RX7) (by decide +kernel)
  have hw4 := hts (.instanceMethod yX7_longestFree) (by decide +kernel)
  have hw5 := hts (.selects RX7 yX7_longestFree yX7_longestFree) (by decide +kernel)
  subst hsz
  have hD := hD0.self (sz := s.heap.size)
  generalize hAe : va_A (wX8 cI cZ cS f g a M) s.heap.size = A at hD hEX ⊢
  have hA : ∀ q : Nat, s.heap.size ≤ q → A q := fun q h => by rw [← hAe]; exact Or.inr h
  have hS : va_S A s.heap s.heap [] := va_S.rf
  have hl := lv_entry ([.ref (a 0), .int a1]) (n := 2) (Nat.le_of_ble_eq_true rfl)
  rw [lg_entry_eq]
  generalize (lg_sl ([.ref (a 0), .int a1]) ++ List.replicate (2 - (lg_sl ([.ref (a 0), .int a1])).length) Slot.unset).toArray = ls at hl ⊢
  have hl : lv_has ls 2 [(0, .ref (a 0)), (1, .int a1)] := hl
  unfold fX8_longestGap at hf
  refine lv_aload_n hx hb dX8_longestGap_0 rfl (lv_at hl 0 rfl) ?_
  refine lv_iload_n hx hb dX8_longestGap_1 rfl (lv_at hl 1 rfl) ?_
  obtain ⟨r2, hc2, hf⟩ := bi_s hf
  rcases r2 with E9 | r2
  · have e9 := so_e hf
    cases e9
    have hFc := va_free (wc := (wX8 cI cZ cS f g a M)) hD hS hA [0, 1, 2, 3, 4, 5, 6, 7, 8, 9, 10, 11, 12, 13, 14, 15, 16, 17, 18, 19, 20, 21, 22, 23, 24, 25, 26, 27, 28, 29, 30, 31, 32, 33, 34, 35, 36, 37, 38, 39, 40, 41] rfl
    refine vx_thr (vx_runV (As := [.int a1]) (rest := []) ⟨hx, hb, hml, hown, hts⟩ (t_X8_requireSide l hst dC dI cI cZ cS f g a _ M a1 _ hc2) (cwV 1 hts gX8_longestGap_X8_requireSide rfl rfl rfl (by decide +kernel) ⟨Nat.le_of_ble_eq_true rfl, Nat.le_of_ble_eq_true rfl⟩) ⟨T8.blind, va_recv hK hP (ci := 8) (q0 := 0) rfl rfl, T8.pre hP hK hD hNW (hEX.at hS hFc)⟩ rfl rfl hl.1 rfl (lv_room (Nat.le_of_ble_eq_true rfl)) dX8_longestGap_2 ⟨Nat.le_of_ble_eq_true rfl, Nat.le_of_ble_eq_true rfl⟩) hS (fun q _ h => hFc q h) hFc (fun ce q9 t H1 locs1 ht hal hP1 hD1 hz1 hS1 hce hcv hcl => ?_)
    exact vx_out (fun x h => (htab x h).elim) hlocks hce hcv hcl (fun t ht hal => ⟨(), trivial, ⟨rfl, WE.mk hP1 (hD1.weaken (fun k q _ h => hFc q.1 h)) ht⟩, hS1.F ht⟩) hS1.2.2 (Nat.le_of_ble_eq_true rfl) (Nat.le_of_ble_eq_true rfl)
  have hf := sel_r hf
  refine cROv (W.runV (As := [.int a1]) (rest := []) ⟨hx, hb, hml, hown, hts⟩ (n_X8_requireSide l dC dI cI cZ cS f g a M a1  hc2) (cwV 1 hts gX8_longestGap_X8_requireSide rfl rfl rfl (by decide +kernel) ⟨Nat.le_of_ble_eq_true rfl, Nat.le_of_ble_eq_true rfl⟩) ⟨RO8.blind, va_recv hK hP (ci := 8) (q0 := 0) rfl rfl, RO8.pre hP hK hNW⟩ rfl rfl hl.1 rfl (lv_room (Nat.le_of_ble_eq_true rfl)) dX8_longestGap_2 ⟨Nat.le_of_ble_eq_true rfl, Nat.le_of_ble_eq_true rfl⟩) ?_
  refine lv_aload_n hx hb dX8_longestGap_5 rfl (lv_at hl 0 rfl) ?_
  refine va_get (D := (dC, dI)) (ci := 8) (v := .ref (a 1)) (C := RX8) (T := TX8) (N := 6) hx hb hts hinX8 hown hK hP 0 rfl rfl 0 (by decide) hw1 (fun _ h9 => h9) rfl dX8_longestGap_6 ?_
  refine va_getN (D := (dC, dI)) (ci := 6) (v := .ref (a 2)) (C := RX6) (T := TX6) (N := 5) hx hb hts hinX6 hown hK hP 1 rfl rfl 0 (by decide) (nw24 hNW) (fun _ h9 => h9) rfl dX8_longestGap_9 ?_
  refine lv_iload_n hx hb dX8_longestGap_12 rfl (lv_at hl 1 rfl) ?_
  obtain ⟨r13, hc13, hf⟩ := bi_s hf
  have hPc := hP.sub (ws' := (wX7 cI cZ (ofs 2 a) (ofs 2 M))) [2, 3, 4, 5, 6] rfl
  refine cRO (va_Run.run (va_runVN (As := [.int a1]) (rest := []) ⟨hx, hb, hml, hown, hts⟩ (c_X7_longestFree l dC dI cI cZ (ofs 2 a) (ofs 2 M) a1 r13 hc13) ⟨va_cnB 1 hts gX8_longestGap_X7_longestFree_n295 rfl rfl rfl (nw67 hNW) hw3 (by decide +kernel) ⟨Nat.le_of_ble_eq_true rfl, Nat.le_of_ble_eq_true rfl⟩, hw4, hw5⟩ ⟨RO.blind, va_recv hK hP (ci := 7) (q0 := 2) rfl rfl, RO.pre hPc hK2 hNW⟩ rfl rfl hl.1 rfl (lv_room (Nat.le_of_ble_eq_true rfl)) dX8_longestGap_13 ⟨Nat.le_of_ble_eq_true rfl, Nat.le_of_ble_eq_true rfl⟩)) ?_
  have e9 := so_e hf
  cases e9
set_option maxHeartbeats 4000000 in
set_option maxRecDepth 100000 in
theorem c_X8_lift (l : Launch) (dC : Nat → ClassId) (dI : Nat → Nat → Nat) (cI cZ cS : ClassId) (f g : Nat → Option Nat) (a : Nat → Nat) (M : Mem) (z : Int32) (hf : fX8_lift M  = some z) : Met l yX8_lift wsX8_lift ({ frames := 0, cells := 0, slots := 0, locals := 0 } : Room) (va_Pc [.ref (a 0)] (RO8 (dC, dI) cI cZ cS (wX8 cI cZ cS f g a M))) (k2_QcV (.int z)) 0 0 (fun _ => False) := by
  refine Met.ofW (cc := cX8_lift) (maxL := 1) (ret := (some .int)) (by decide) rfl ?_
  intro p e s m args below meth c s₁ B hml hv
  obtain ⟨rfl, hP, hK, hNW⟩ := hv
  have hK2 : va_K (dC, dI) vwCl [(cI, .int), (cZ, .boolean)] s := hK.sub (tys' := [(cI, .int), (cZ, .boolean)]) [0, 1] rfl
  have hx := B.exec
  have hb := B.bytes
  have hr := B.returns
  have hts := atoms_spec (ws := wsX8_lift) B.pre
  have hown : s.vm.findClass RX8 = some m.cls := findClass_of_methodNamed B.named
  have hlocks := B.notSynchronized
  have hinX8 : ∀ w ∈ u_ws RX8 TX8 6, w ∈ wsX8_lift := by decide +kernel
  have hw1 := hts (.fieldLink RX8 12 "GlideShelves" "now" "LGlideShelves$State;") (by decide +kernel)
  have hinX6 : ∀ w ∈ u_ws RX6 TX6 5, w ∈ wsX8_lift := by decide +kernel
  have hinX2 : ∀ w ∈ u_ws RX2 TX2 7, w ∈ wsX8_lift := by decide +kernel
  have hl := lv_entry ([.ref (a 0)]) (n := 1) (Nat.le_of_ble_eq_true rfl)
  rw [lg_entry_eq]
  generalize (lg_sl ([.ref (a 0)]) ++ List.replicate (1 - (lg_sl ([.ref (a 0)])).length) Slot.unset).toArray = ls at hl ⊢
  have hl : lv_has ls 1 [(0, .ref (a 0))] := hl
  unfold fX8_lift at hf
  refine lv_aload_n hx hb dX8_lift_0 rfl (lv_at hl 0 rfl) ?_
  refine va_get (D := (dC, dI)) (ci := 8) (v := .ref (a 1)) (C := RX8) (T := TX8) (N := 6) hx hb hts hinX8 hown hK hP 0 rfl rfl 0 (by decide) hw1 (fun _ h9 => h9) rfl dX8_lift_1 ?_
  refine va_getN (D := (dC, dI)) (ci := 6) (v := .ref (a 7)) (C := RX6) (T := TX6) (N := 5) hx hb hts hinX6 hown hK hP 1 rfl rfl 1 (by decide) (nw10 hNW) (fun _ h9 => h9) rfl dX8_lift_4 ?_
  refine va_getN (D := (dC, dI)) (ci := 2) (v := .int (M 7 0)) (C := RX2) (T := TX2) (N := 7) hx hb hts hinX2 hown hK hP 7 rfl rfl 0 (by decide) (nw17 hNW) (fun _ h9 => h9) rfl dX8_lift_7 ?_
  exact W.iret (v := (M 7 0)) hx hb hr (fun t ht hW => ⟨congrArg (fun x => Outcome.returned (some (Value.int x))) (so_e hf), ht⟩) fl0 dX8_lift_10
set_option maxHeartbeats 4000000 in
set_option maxRecDepth 100000 in
theorem c_X8_isKeptPlace (l : Launch) (dC : Nat → ClassId) (dI : Nat → Nat → Nat) (cI cZ cS : ClassId) (f g : Nat → Option Nat) (a : Nat → Nat) (M : Mem) (z : Int32) (hf : fX8_isKeptPlace M  = some z) : Met l yX8_isKeptPlace wsX8_isKeptPlace ({ frames := 0, cells := 0, slots := 0, locals := 0 } : Room) (va_Pc [.ref (a 0)] (RO8 (dC, dI) cI cZ cS (wX8 cI cZ cS f g a M))) (k2_QcV (.int z)) 0 0 (fun _ => False) := by
  refine Met.ofW (cc := cX8_isKeptPlace) (maxL := 1) (ret := (some .boolean)) (by decide) rfl ?_
  intro p e s m args below meth c s₁ B hml hv
  obtain ⟨rfl, hP, hK, hNW⟩ := hv
  have hK2 : va_K (dC, dI) vwCl [(cI, .int), (cZ, .boolean)] s := hK.sub (tys' := [(cI, .int), (cZ, .boolean)]) [0, 1] rfl
  have hx := B.exec
  have hb := B.bytes
  have hr := B.returns
  have hts := atoms_spec (ws := wsX8_isKeptPlace) B.pre
  have hown : s.vm.findClass RX8 = some m.cls := findClass_of_methodNamed B.named
  have hlocks := B.notSynchronized
  have hinX8 : ∀ w ∈ u_ws RX8 TX8 6, w ∈ wsX8_isKeptPlace := by decide +kernel
  have hw1 := hts (.fieldLink RX8 12 "GlideShelves" "now" "LGlideShelves$State;") (by decide +kernel)
  have hinX6 : ∀ w ∈ u_ws RX6 TX6 5, w ∈ wsX8_isKeptPlace := by decide +kernel
  have hinX2 : ∀ w ∈ u_ws RX2 TX2 7, w ∈ wsX8_isKeptPlace := by decide +kernel
  have hl := lv_entry ([.ref (a 0)]) (n := 1) (Nat.le_of_ble_eq_true rfl)
  rw [lg_entry_eq]
  generalize (lg_sl ([.ref (a 0)]) ++ List.replicate (1 - (lg_sl ([.ref (a 0)])).length) Slot.unset).toArray = ls at hl ⊢
  have hl : lv_has ls 1 [(0, .ref (a 0))] := hl
  unfold fX8_isKeptPlace at hf
  refine lv_aload_n hx hb dX8_isKeptPlace_0 rfl (lv_at hl 0 rfl) ?_
  refine va_get (D := (dC, dI)) (ci := 8) (v := .ref (a 1)) (C := RX8) (T := TX8) (N := 6) hx hb hts hinX8 hown hK hP 0 rfl rfl 0 (by decide) hw1 (fun _ h9 => h9) rfl dX8_isKeptPlace_1 ?_
  refine va_getN (D := (dC, dI)) (ci := 6) (v := .ref (a 7)) (C := RX6) (T := TX6) (N := 5) hx hb hts hinX6 hown hK hP 1 rfl rfl 1 (by decide) (nw10 hNW) (fun _ h9 => h9) rfl dX8_isKeptPlace_4 ?_
  refine va_getN (D := (dC, dI)) (ci := 2) (v := .int (M 7 1)) (C := RX2) (T := TX2) (N := 7) hx hb hts hinX2 hown hK hP 7 rfl rfl 1 (by decide) (nw11 hNW) (fun _ h9 => h9) rfl dX8_isKeptPlace_7 ?_
  obtain ⟨hz, hf⟩ := gd_s hf
  exact W.zret (v := (M 7 1)) hx hb hr (isb_nar hz) (fun t ht hW => ⟨congrArg (fun x => Outcome.returned (some (Value.int x))) (so_e hf), ht⟩) fl0 dX8_isKeptPlace_10
set_option maxHeartbeats 4000000 in
set_option maxRecDepth 100000 in
theorem n_X8_requireEmptyWindow (l : Launch) (dC : Nat → ClassId) (dI : Nat → Nat → Nat) (cI cZ cS : ClassId) (f g : Nat → Option Nat) (a : Nat → Nat) (M : Mem) (hf : fX8_requireEmptyWindow M  = some (Sum.inr ())) : Met l yX8_requireEmptyWindow wsX8_requireEmptyWindow ({ frames := 0, cells := 0, slots := 0, locals := 0 } : Room) (va_Pc [.ref (a 0)] (RO8 (dC, dI) cI cZ cS (wX8 cI cZ cS f g a M))) (va_Sv (fun _ => True)) 0 0 (fun _ => False) := by
  refine Met.ofW (cc := cX8_requireEmptyWindow) (maxL := 1) (ret := none) (by decide) rfl ?_
  intro p e s m args below meth c s₁ B hml hv
  obtain ⟨rfl, hP, hK, hNW⟩ := hv
  have hx := B.exec
  have hb := B.bytes
  have hr := B.returns
  have hts := atoms_spec (ws := wsX8_requireEmptyWindow) B.pre
  have hown : s.vm.findClass RX8 = some m.cls := findClass_of_methodNamed B.named
  have hlocks := B.notSynchronized
  have hK2 : va_K (dC, dI) vwCl [(cI, .int), (cZ, .boolean)] s := hK.sub (tys' := [(cI, .int), (cZ, .boolean)]) [0, 1] rfl
  have hinX8 : ∀ w ∈ u_ws RX8 TX8 6, w ∈ wsX8_requireEmptyWindow := by decide +kernel
  have hw1 := hts (.fieldLink RX8 12 "GlideShelves" "now" "LGlideShelves$State;") (by decide +kernel)
  have hinX6 : ∀ w ∈ u_ws RX6 TX6 5, w ∈ wsX8_requireEmptyWindow := by decide +kernel
  have hinX7 : ∀ w ∈ u_ws RX7 TX7 6, w ∈ wsX8_requireEmptyWindow := by decide +kernel
  have hl := lv_entry ([.ref (a 0)]) (n := 1) (Nat.le_of_ble_eq_true rfl)
  rw [lg_entry_eq]
  generalize (lg_sl ([.ref (a 0)]) ++ List.replicate (1 - (lg_sl ([.ref (a 0)])).length) Slot.unset).toArray = ls at hl ⊢
  have hl : lv_has ls 1 [(0, .ref (a 0))] := hl
  unfold fX8_requireEmptyWindow at hf
  refine lv_aload_n hx hb dX8_requireEmptyWindow_0 rfl (lv_at hl 0 rfl) ?_
  refine va_get (D := (dC, dI)) (ci := 8) (v := .ref (a 1)) (C := RX8) (T := TX8) (N := 6) hx hb hts hinX8 hown hK hP 0 rfl rfl 0 (by decide) hw1 (fun _ h9 => h9) rfl dX8_requireEmptyWindow_1 ?_
  refine va_getN (D := (dC, dI)) (ci := 6) (v := .ref (a 2)) (C := RX6) (T := TX6) (N := 5) hx hb hts hinX6 hown hK hP 1 rfl rfl 0 (by decide) (nw24 hNW) (fun _ h9 => h9) rfl dX8_requireEmptyWindow_4 ?_
  refine va_getN (D := (dC, dI)) (ci := 7) (v := .int (M 2 1)) (C := RX7) (T := TX7) (N := 6) hx hb hts hinX7 hown hK hP 2 rfl rfl 1 (by decide) (nw26 hNW) (fun _ h9 => h9) rfl dX8_requireEmptyWindow_7 ?_
  refine lv_iconst (v := (-1 : Int32)) hx hb dX8_requireEmptyWindow_10 (by decide) ?_
  refine lv_icmp_eq (tgt := 25) hx hb dX8_requireEmptyWindow_11 (by decide) (fun c9 => ?_) (fun c9 => ?_)
  · have hf := it_t hf c9
    have e9 := so_e hf
    cases e9
    exact W.vret hx hb hr (fun t ht hW => ⟨rfl, trivial, ht⟩) fl0 dX8_requireEmptyWindow_25
  · have hf := it_f hf c9
    have e9 := so_e hf
    cases e9
set_option maxHeartbeats 4000000 in
set_option maxRecDepth 100000 in
theorem n_X8_requirePackable (l : Launch) (dC : Nat → ClassId) (dI : Nat → Nat → Nat) (cI cZ cS : ClassId) (f g : Nat → Option Nat) (a : Nat → Nat) (sz : Nat) (M : Mem) (z2 : Mem) (hf : fX8_requirePackable M  = some (Sum.inr (), z2)) : Met l yX8_requirePackable wsX8_requirePackable ({ frames := 3, cells := 0, slots := 0, locals := 72 } : Room) (va_Pc [.ref (a 0)] (WR8 (dC, dI) cI cZ cS (wX8 cI cZ cS f g a M) sz)) (va_Qv (S := Unit) (fun _ => True) (fun _ t => WE (dC, dI) cI cZ (wX8 cI cZ cS f g a (sr M 40 (z2 40))) (va_A (wX8 cI cZ cS f g a M) sz) t) (va_A (wX8 cI cZ cS f g a M) sz)) 0 0 (va_A (wX8 cI cZ cS f g a M) sz) := by
  refine Met.ofW (cc := cX8_requirePackable) (maxL := 1) (ret := none) (by decide) rfl ?_
  intro p e s m args below meth c s₁ B hml hv
  obtain ⟨rfl, hsz, hP, hK, hD0, hNW⟩ := hv
  have hx := B.exec
  have hb := B.bytes
  have hr := B.returns
  have hts := atoms_spec (ws := wsX8_requirePackable) B.pre
  have hown : s.vm.findClass RX8 = some m.cls := findClass_of_methodNamed B.named
  have hlocks := B.notSynchronized
  have hK2 : va_K (dC, dI) vwCl [(cI, .int), (cZ, .boolean)] s := hK.sub (tys' := [(cI, .int), (cZ, .boolean)]) [0, 1] rfl
  have hinX8 : ∀ w ∈ u_ws RX8 TX8 6, w ∈ wsX8_requirePackable := by decide +kernel
  have hw1 := hts (.fieldLink RX8 12 "GlideShelves" "now" "LGlideShelves$State;") (by decide +kernel)
  have hinX6 : ∀ w ∈ u_ws RX6 TX6 5, w ∈ wsX8_requirePackable := by decide +kernel
  have hw3 := hts (.fieldLink RX8 33 "GlideShelves" "packedPlaces" "[I") (by decide +kernel)
  have hw4 := hts (.initialized RX7) (by decide +kernel)
  have hw5 := hts (.instanceMethod yX7_findPacked) (by decide +kernel)
  have hw6 := hts (.selects RX7 yX7_findPacked yX7_findPacked) (by decide +kernel)
  subst hsz
  have hD := hD0.self (sz := s.heap.size)
  generalize hAe : va_A (wX8 cI cZ cS f g a M) s.heap.size = A at hD ⊢
  have hA : ∀ q : Nat, s.heap.size ≤ q → A q := fun q h => by rw [← hAe]; exact Or.inr h
  have hS : va_S A s.heap s.heap [] := va_S.rf
  have hl := lv_entry ([.ref (a 0)]) (n := 1) (Nat.le_of_ble_eq_true rfl)
  rw [lg_entry_eq]
  generalize (lg_sl ([.ref (a 0)]) ++ List.replicate (1 - (lg_sl ([.ref (a 0)])).length) Slot.unset).toArray = ls at hl ⊢
  have hl : lv_has ls 1 [(0, .ref (a 0))] := hl
  unfold fX8_requirePackable at hf
  suffices hgo : ∀ (H : Heap) (locs : List Loc), va_P (dC, dI) vwCl (wX8 cI cZ cS f g a M) H → va_D A (wX8 cI cZ cS f g a M) → va_S A s.heap H locs → W p l e (headSpec wsX8_requirePackable ({ frames := 3, cells := 0, slots := 0, locals := 72 } : Room)).room s m ([.ref (a 0)] : List Value).toArray below meth c H locs 0 0 (MQ below (va_Qv (S := Unit) (fun _ => True) (fun _ t => WE (dC, dI) cI cZ (wX8 cI cZ cS f g a (sr M 40 (z2 40))) A t) A) ([.ref (a 0)] : List Value).toArray s 0 0 A) (F0 m 0 ls []) from hgo _ _ hP hD hS
  intro H locs hP hD hS
  refine lv_aload_n hx hb dX8_requirePackable_0 rfl (lv_at hl 0 rfl) ?_
  obtain ⟨r1, hc1, hf⟩ := bi_s hf
  rcases r1 with E9 | r1
  · have e9 := so_e hf
    cases e9
  have hf := sel_r hf
  refine cROv (W.runV (As := []) (rest := []) ⟨hx, hb, hml, hown, hts⟩ (n_X8_requireEmptyWindow l dC dI cI cZ cS f g a M  hc1) (cwV 0 hts gX8_requirePackable_X8_requireEmptyWindow rfl rfl rfl (by decide +kernel) ⟨Nat.le_of_ble_eq_true rfl, Nat.le_of_ble_eq_true rfl⟩) ⟨RO8.blind, va_recv hK hP (ci := 8) (q0 := 0) rfl rfl, RO8.pre hP hK hNW⟩ rfl rfl hl.1 rfl (lv_room (Nat.le_of_ble_eq_true rfl)) dX8_requirePackable_1 ⟨Nat.le_of_ble_eq_true rfl, Nat.le_of_ble_eq_true rfl⟩) ?_
  refine lv_aload_n hx hb dX8_requirePackable_4 rfl (lv_at hl 0 rfl) ?_
  refine va_get (D := (dC, dI)) (ci := 8) (v := .ref (a 1)) (C := RX8) (T := TX8) (N := 6) hx hb hts hinX8 hown hK hP 0 rfl rfl 0 (by decide) hw1 (fun _ h9 => h9) rfl dX8_requirePackable_5 ?_
  refine va_getN (D := (dC, dI)) (ci := 6) (v := .ref (a 2)) (C := RX6) (T := TX6) (N := 5) hx hb hts hinX6 hown hK hP 1 rfl rfl 0 (by decide) (nw24 hNW) (fun _ h9 => h9) rfl dX8_requirePackable_8 ?_
  refine lv_aload_n hx hb dX8_requirePackable_11 rfl (lv_at hl 0 rfl) ?_
  refine va_get (D := (dC, dI)) (ci := 8) (v := .ref (a 40)) (C := RX8) (T := TX8) (N := 6) hx hb hts hinX8 hown hK hP 0 rfl rfl 4 (by decide) hw3 (fun _ h9 => h9) rfl dX8_requirePackable_12 ?_
  obtain ⟨r15, hc15, hf⟩ := bi_s hf
  have hPc := hP.sub (ws' := (wX7_findPacked cI cZ (pk [2, 3, 4, 5, 6, 40] a) (pk [2, 3, 4, 5, 6, 40] M))) [2, 3, 4, 5, 6, 40] rfl
  have hDc := hD.sub (ws' := (wX7_findPacked cI cZ (pk [2, 3, 4, 5, 6, 40] a) (pk [2, 3, 4, 5, 6, 40] M))) [2, 3, 4, 5, 6, 40] (by decide) rfl
  have hFc := va_free (wc := (wX7_findPacked cI cZ (pk [2, 3, 4, 5, 6, 40] a) (pk [2, 3, 4, 5, 6, 40] M))) hD hS hA [2, 3, 4, 5, 6, 40] rfl
  refine va_calli (va_runVN (As := [.ref (a 40)]) (rest := []) ⟨hx, hb, hml, hown, hts⟩ (c_X7_findPacked l dC dI cI cZ (pk [2, 3, 4, 5, 6, 40] a) H.size (pk [2, 3, 4, 5, 6, 40] M) r15 hc15) ⟨va_cnB 1 hts gX8_requirePackable_X7_findPacked_n441 rfl rfl rfl (nw81 hNW) hw4 (by decide +kernel) ⟨Nat.le_of_ble_eq_true rfl, Nat.le_of_ble_eq_true rfl⟩, hw5, hw6⟩ ⟨WR.blind, va_recv hK hP (ci := 7) (q0 := 2) rfl rfl, WR.pre hPc hK2 hDc hNW⟩ rfl rfl hl.1 rfl (lv_room (Nat.le_of_ble_eq_true rfl)) dX8_requirePackable_15 ⟨Nat.le_of_ble_eq_true rfl, Nat.le_of_ble_eq_true rfl⟩) hS (fun q _ h => hFc q h) hFc (fun rv u t H1 locs ht hvm hw hB hz1 hk1 hS => ?_)
  obtain ⟨hP1, hD1⟩ := hB
  rw [ht] at hP1
  subst hw
  obtain ⟨hP, hD⟩ := va_join (wr := [(a 0, .inr (8, [.ref (a 1), .ref (a 17), .ref (a 33), .ref (a 36), .ref (a 40), .ref (a 41)])), (a 1, .inr (6, [.ref (a 2), .ref (a 7), .ref (a 10), .ref (a 15), .int (M 1 4)])), (a 7, .inr (2, [.int (M 7 0), .int (M 7 1), .int (M 7 2), .int (M 7 3), .int (M 7 4), .ref (a 8), .ref (a 9)])), (a 8, .inl (cI, 8, .inl (M 8))), (a 9, .inl (cZ, 8, .inl (M 9))), (a 10, .inr (0, [.ref (a 11), .ref (a 12), .ref (a 13), .ref (a 14)])), (a 11, .inl (cI, 10, .inl (M 11))), (a 12, .inl (cI, 10, .inl (M 12))), (a 13, .inl (cI, 10, .inl (M 13))), (a 14, .inl (cI, 10, .inl (M 14))), (a 15, .inr (3, [.int (M 15 0), .ref (a 16)])), (a 16, .inl (cI, 80, .inl (M 16))), (a 17, .inr (6, [.ref (a 18), .ref (a 23), .ref (a 26), .ref (a 31), .int (M 17 4)])), (a 18, .inr (7, [.int (M 18 0), .int (M 18 1), .ref (a 19), .ref (a 20), .ref (a 21), .ref (a 22)])), (a 19, .inl (cI, 12, .inl (M 19))), (a 20, .inl (cI, 12, .inl (M 20))), (a 21, .inl (cI, 12, .inl (M 21))), (a 22, .inl (cI, 120, .inl (M 22))), (a 23, .inr (2, [.int (M 23 0), .int (M 23 1), .int (M 23 2), .int (M 23 3), .int (M 23 4), .ref (a 24), .ref (a 25)])), (a 24, .inl (cI, 8, .inl (M 24))), (a 25, .inl (cZ, 8, .inl (M 25))), (a 26, .inr (0, [.ref (a 27), .ref (a 28), .ref (a 29), .ref (a 30)])), (a 27, .inl (cI, 10, .inl (M 27))), (a 28, .inl (cI, 10, .inl (M 28))), (a 29, .inl (cI, 10, .inl (M 29))), (a 30, .inl (cI, 10, .inl (M 30))), (a 31, .inr (3, [.int (M 31 0), .ref (a 32)])), (a 32, .inl (cI, 80, .inl (M 32))), (a 33, .inr (1, [.int (M 33 0), .ref (a 34), .ref (a 35)])), (a 34, .inl (cS, 6, .inr (.inr (.inr (.inr f))))), (a 35, .inl (cS, 2, .inr (.inr (.inr (.inr g))))), (a 36, .inr (5, [.int (M 36 0), .ref (a 37), .ref (a 38)])), (a 37, .inl (cI, 60, .inl (M 37))), (a 38, .inr (4, [.int (M 38 0), .int (M 38 1), .ref (a 39)])), (a 39, .inl (cI, 10, .inl (M 39))), (a 41, .inl (cI, 10, .inl (M 41)))]) (w1 := (wX7_findPacked cI cZ (pk [2, 3, 4, 5, 6, 40] a) (sr (pk [2, 3, 4, 5, 6, 40] M) 5 (r15.2 5)))) hP hD [2, 3, 4, 5, 6, 40] [0, 1, 7, 8, 9, 10, 11, 12, 13, 14, 15, 16, 17, 18, 19, 20, 21, 22, 23, 24, 25, 26, 27, 28, 29, 30, 31, 32, 33, 34, 35, 36, 37, 38, 39, 41] rfl rfl (by decide) (by decide) hk1 hFc hP1 hD1
  have hP := hP.sub (ws' := (wX8 cI cZ cS f g a (sr M 40 (r15.2 5)))) [0, 1, 36, 37, 38, 39, 40, 2, 3, 4, 5, 6, 7, 8, 9, 10, 11, 12, 13, 14, 15, 16, 17, 18, 19, 20, 21, 22, 23, 24, 25, 26, 27, 28, 29, 30, 31, 32, 33, 34, 41, 35] rfl
  have hD := hD.sub (ws' := (wX8 cI cZ cS f g a (sr M 40 (r15.2 5)))) [0, 1, 36, 37, 38, 39, 40, 2, 3, 4, 5, 6, 7, 8, 9, 10, 11, 12, 13, 14, 15, 16, 17, 18, 19, 20, 21, 22, 23, 24, 25, 26, 27, 28, 29, 30, 31, 32, 33, 34, 41, 35] (by decide) rfl
  generalize H1 = H at hP hS ⊢
  refine lv_if_ne (tgt := 32) hx hb dX8_requirePackable_18 (by decide) (fun c9 => ?_) (fun c9 => ?_)
  · have hf := it_t hf c9
    have e9 := so_e hf
    cases e9
    exact W.vret hx hb hr (fun t ht hW => ⟨⟨(), rfl, trivial, WE.mk hP hD ht⟩, hS.F ht⟩) hS.2.2 dX8_requirePackable_32
  · have hf := it_n hf c9
    have e9 := so_e hf
    cases e9
set_option maxHeartbeats 4000000 in
set_option maxRecDepth 100000 in
theorem n_X8_wouldPack (l : Launch) (dC : Nat → ClassId) (dI : Nat → Nat → Nat) (cI cZ cS : ClassId) (f g : Nat → Option Nat) (a : Nat → Nat) (sz : Nat) (M : Mem) (z1 : Int32) (z2 : Mem) (hf : fX8_wouldPack M  = some (Sum.inr z1, z2)) : Met l yX8_wouldPack wsX8_wouldPack ({ frames := 4, cells := 0, slots := 0, locals := 92 } : Room) (va_Pc [.ref (a 0)] (WR8 (dC, dI) cI cZ cS (wX8 cI cZ cS f g a M) sz)) (va_Qi (S := Unit) (fun r _ => r = z1) (fun _ t => WE (dC, dI) cI cZ (wX8 cI cZ cS f g a (sr M 40 (z2 40))) (va_A (wX8 cI cZ cS f g a M) sz) t) (va_A (wX8 cI cZ cS f g a M) sz)) 0 0 (va_A (wX8 cI cZ cS f g a M) sz) := by
  refine Met.ofW (cc := cX8_wouldPack) (maxL := 1) (ret := (some .int)) (by decide) rfl ?_
  intro p e s m args below meth c s₁ B hml hv
  obtain ⟨rfl, hsz, hP, hK, hD0, hNW⟩ := hv
  have hx := B.exec
  have hb := B.bytes
  have hr := B.returns
  have hts := atoms_spec (ws := wsX8_wouldPack) B.pre
  have hown : s.vm.findClass RX8 = some m.cls := findClass_of_methodNamed B.named
  have hlocks := B.notSynchronized
  have hK2 : va_K (dC, dI) vwCl [(cI, .int), (cZ, .boolean)] s := hK.sub (tys' := [(cI, .int), (cZ, .boolean)]) [0, 1] rfl
  have hinX8 : ∀ w ∈ u_ws RX8 TX8 6, w ∈ wsX8_wouldPack := by decide +kernel
  have hw1 := hts (.fieldLink RX8 12 "GlideShelves" "now" "LGlideShelves$State;") (by decide +kernel)
  have hinX6 : ∀ w ∈ u_ws RX6 TX6 5, w ∈ wsX8_wouldPack := by decide +kernel
  have hw3 := hts (.fieldLink RX8 33 "GlideShelves" "packedPlaces" "[I") (by decide +kernel)
  have hw4 := hts (.initialized RX7) (by decide +kernel)
  have hw5 := hts (.instanceMethod yX7_countMoved) (by decide +kernel)
  have hw6 := hts (.selects RX7 yX7_countMoved yX7_countMoved) (by decide +kernel)
  subst hsz
  have hD := hD0.self (sz := s.heap.size)
  generalize hAe : va_A (wX8 cI cZ cS f g a M) s.heap.size = A at hD ⊢
  have hA : ∀ q : Nat, s.heap.size ≤ q → A q := fun q h => by rw [← hAe]; exact Or.inr h
  have hS : va_S A s.heap s.heap [] := va_S.rf
  have hl := lv_entry ([.ref (a 0)]) (n := 1) (Nat.le_of_ble_eq_true rfl)
  rw [lg_entry_eq]
  generalize (lg_sl ([.ref (a 0)]) ++ List.replicate (1 - (lg_sl ([.ref (a 0)])).length) Slot.unset).toArray = ls at hl ⊢
  have hl : lv_has ls 1 [(0, .ref (a 0))] := hl
  unfold fX8_wouldPack at hf
  suffices hgo : ∀ (H : Heap) (locs : List Loc), va_P (dC, dI) vwCl (wX8 cI cZ cS f g a M) H → va_D A (wX8 cI cZ cS f g a M) → va_S A s.heap H locs → W p l e (headSpec wsX8_wouldPack ({ frames := 4, cells := 0, slots := 0, locals := 92 } : Room)).room s m ([.ref (a 0)] : List Value).toArray below meth c H locs 0 0 (MQ below (va_Qi (S := Unit) (fun r _ => r = z1) (fun _ t => WE (dC, dI) cI cZ (wX8 cI cZ cS f g a (sr M 40 (z2 40))) A t) A) ([.ref (a 0)] : List Value).toArray s 0 0 A) (F0 m 0 ls []) from hgo _ _ hP hD hS
  intro H locs hP hD hS
  refine lv_aload_n hx hb dX8_wouldPack_0 rfl (lv_at hl 0 rfl) ?_
  obtain ⟨⟨r1, N1⟩, hc1, hf⟩ := bi_s hf
  rcases r1 with E9 | r1
  · have e9 := so_e hf
    cases e9
  have hf := sel_r hf
  have hFc := va_free (wc := (wX8 cI cZ cS f g a M)) hD hS hA [0, 1, 2, 3, 4, 5, 6, 7, 8, 9, 10, 11, 12, 13, 14, 15, 16, 17, 18, 19, 20, 21, 22, 23, 24, 25, 26, 27, 28, 29, 30, 31, 32, 33, 34, 35, 36, 37, 38, 39, 40, 41] rfl
  refine va_callv (va_runV (As := []) (rest := []) ⟨hx, hb, hml, hown, hts⟩ (n_X8_requirePackable l dC dI cI cZ cS f g a H.size M  N1 hc1) (cwV 0 hts gX8_wouldPack_X8_requirePackable rfl rfl rfl (by decide +kernel) ⟨Nat.le_of_ble_eq_true rfl, Nat.le_of_ble_eq_true rfl⟩) ⟨WR8.blind, va_recv hK hP (ci := 8) (q0 := 0) rfl rfl, WR8.pre hP hK hD hNW⟩ rfl rfl hl.1 rfl (lv_room (Nat.le_of_ble_eq_true rfl)) dX8_wouldPack_1 ⟨Nat.le_of_ble_eq_true rfl, Nat.le_of_ble_eq_true rfl⟩) hS (fun q _ h => hFc q h) hFc (fun u t H1 locs ht hvm hw hB hz1 hk1 hS => ?_)
  obtain ⟨hP1, hD1⟩ := hB
  rw [ht] at hP1
  have hP := hP1
  have hD := hD1.weaken (fun k q _ h => hFc q.1 h)
  have hP : va_P (dC, dI) vwCl (wX8 cI cZ cS f g a (sr M 40 (N1 40))) H1 := hP
  have hD : va_D A (wX8 cI cZ cS f g a (sr M 40 (N1 40))) := hD
  generalize H1 = H at hP hS ⊢
  refine lv_aload_n hx hb dX8_wouldPack_4 rfl (lv_at hl 0 rfl) ?_
  refine va_get (D := (dC, dI)) (ci := 8) (v := .ref (a 1)) (C := RX8) (T := TX8) (N := 6) hx hb hts hinX8 hown hK hP 0 rfl rfl 0 (by decide) hw1 (fun _ h9 => h9) rfl dX8_wouldPack_5 ?_
  refine va_getN (D := (dC, dI)) (ci := 6) (v := .ref (a 2)) (C := RX6) (T := TX6) (N := 5) hx hb hts hinX6 hown hK hP 1 rfl rfl 0 (by decide) (nw24 hNW) (fun _ h9 => h9) rfl dX8_wouldPack_8 ?_
  refine lv_aload_n hx hb dX8_wouldPack_11 rfl (lv_at hl 0 rfl) ?_
  refine va_get (D := (dC, dI)) (ci := 8) (v := .ref (a 40)) (C := RX8) (T := TX8) (N := 6) hx hb hts hinX8 hown hK hP 0 rfl rfl 4 (by decide) hw3 (fun _ h9 => h9) rfl dX8_wouldPack_12 ?_
  obtain ⟨r15, hc15, hf⟩ := bi_s hf
  have hPc := hP.sub (ws' := (wX7_countMoved cI cZ (pk [2, 3, 4, 5, 6, 40] a) (pk [2, 3, 4, 5, 6, 40] (sr M 40 (N1 40))))) [2, 3, 4, 5, 6, 40] rfl
  refine cRO (va_Run.run (va_runVN (As := [.ref (a 40)]) (rest := []) ⟨hx, hb, hml, hown, hts⟩ (c_X7_countMoved l dC dI cI cZ (pk [2, 3, 4, 5, 6, 40] a) (pk [2, 3, 4, 5, 6, 40] (sr M 40 (N1 40))) r15 hc15) ⟨va_cnB 1 hts gX8_wouldPack_X7_countMoved_n127 rfl rfl rfl (nw46 hNW) hw4 (by decide +kernel) ⟨Nat.le_of_ble_eq_true rfl, Nat.le_of_ble_eq_true rfl⟩, hw5, hw6⟩ ⟨RO.blind, va_recv hK hP (ci := 7) (q0 := 2) rfl rfl, RO.pre hPc hK2 hNW⟩ rfl rfl hl.1 rfl (lv_room (Nat.le_of_ble_eq_true rfl)) dX8_wouldPack_15 ⟨Nat.le_of_ble_eq_true rfl, Nat.le_of_ble_eq_true rfl⟩)) ?_
  have e9 := so_e hf
  cases e9
  exact W.iret hx hb hr (fun t ht hW => ⟨⟨_, (), rfl, rfl, WE.mk hP hD ht⟩, hS.F ht⟩) hS.2.2 dX8_wouldPack_18
set_option maxHeartbeats 4000000 in
set_option maxRecDepth 100000 in
theorem t_X8_requireEmptyWindow (l : Launch) (hst : l.stackTraces = false) (dC : Nat → ClassId) (dI : Nat → Nat → Nat) (cI cZ cS : ClassId) (f g : Nat → Option Nat) (a : Nat → Nat) (sz : Nat) (M : Mem) (E : String) (hf : fX8_requireEmptyWindow M  = some (Sum.inl E)) : vx_Met l yX8_requireEmptyWindow wsX8_requireEmptyWindow ({ frames := 6, cells := 1, slots := 6, locals := 110 } : Room) (va_Pc [.ref (a 0)] (T8 (dC, dI) cI cZ cS (wX8 cI cZ cS f g a M) sz)) (fun _ _ _ _ => False) (vx_X (S := Unit) (fun _ => True) (fun E' _ t => E' = E ∧ WE (dC, dI) cI cZ (wX8 cI cZ cS f g a M) (va_A (wX8 cI cZ cS f g a M) sz) t) (va_A (wX8 cI cZ cS f g a M) sz)) 1 6 (va_A (wX8 cI cZ cS f g a M) sz) := by
  refine vx_ofW (cc := cX8_requireEmptyWindow) (maxL := 1) (ret := none) (by decide) rfl ?_
  intro p e s m args below meth c s₁ B hml htab hv
  obtain ⟨rfl, hsz, hP, hK, hD0, hNW, hEX⟩ := hv
  have hx := B.exec
  have hb := B.bytes
  have hr := B.returns
  have hts := atoms_spec (ws := wsX8_requireEmptyWindow) B.pre
  have hown : s.vm.findClass RX8 = some m.cls := findClass_of_methodNamed B.named
  have hlocks := B.notSynchronized
  have hK2 : va_K (dC, dI) vwCl [(cI, .int), (cZ, .boolean)] s := hK.sub (tys' := [(cI, .int), (cZ, .boolean)]) [0, 1] rfl
  have hinX8 : ∀ w ∈ u_ws RX8 TX8 6, w ∈ wsX8_requireEmptyWindow := by decide +kernel
  have hw1 := hts (.fieldLink RX8 12 "GlideShelves" "now" "LGlideShelves$State;") (by decide +kernel)
  have hinX6 : ∀ w ∈ u_ws RX6 TX6 5, w ∈ wsX8_requireEmptyWindow := by decide +kernel
  have hinX7 : ∀ w ∈ u_ws RX7 TX7 6, w ∈ wsX8_requireEmptyWindow := by decide +kernel
  have hw4 := hts (.classLink RX8 54 "java/lang/IllegalStateException") (by decide +kernel)
  have hw5 := hts (.initialized "java/lang/IllegalStateException") (by decide +kernel)
  have hsuf58 : ∀ w ∈ (vx_atS RX8 58 "java/lang/IllegalStateException" ["java/lang/RuntimeException", "java/lang/Exception"]).filter goodWord, w.before _ s = true := fun w h => hts w (List.mem_cons_of_mem _ (List.mem_append_right _ h))
  subst hsz
  have hD := hD0.self (sz := s.heap.size)
  generalize hAe : va_A (wX8 cI cZ cS f g a M) s.heap.size = A at hD hEX ⊢
  have hA : ∀ q : Nat, s.heap.size ≤ q → A q := fun q h => by rw [← hAe]; exact Or.inr h
  have hS : va_S A s.heap s.heap [] := va_S.rf
  have hl := lv_entry ([.ref (a 0)]) (n := 1) (Nat.le_of_ble_eq_true rfl)
  rw [lg_entry_eq]
  generalize (lg_sl ([.ref (a 0)]) ++ List.replicate (1 - (lg_sl ([.ref (a 0)])).length) Slot.unset).toArray = ls at hl ⊢
  have hl : lv_has ls 1 [(0, .ref (a 0))] := hl
  unfold fX8_requireEmptyWindow at hf
  refine lv_aload_n hx hb dX8_requireEmptyWindow_0 rfl (lv_at hl 0 rfl) ?_
  refine va_get (D := (dC, dI)) (ci := 8) (v := .ref (a 1)) (C := RX8) (T := TX8) (N := 6) hx hb hts hinX8 hown hK hP 0 rfl rfl 0 (by decide) hw1 (fun _ h9 => h9) rfl dX8_requireEmptyWindow_1 ?_
  refine va_getN (D := (dC, dI)) (ci := 6) (v := .ref (a 2)) (C := RX6) (T := TX6) (N := 5) hx hb hts hinX6 hown hK hP 1 rfl rfl 0 (by decide) (nw24 hNW) (fun _ h9 => h9) rfl dX8_requireEmptyWindow_4 ?_
  refine va_getN (D := (dC, dI)) (ci := 7) (v := .int (M 2 1)) (C := RX7) (T := TX7) (N := 6) hx hb hts hinX7 hown hK hP 2 rfl rfl 1 (by decide) (nw26 hNW) (fun _ h9 => h9) rfl dX8_requireEmptyWindow_7 ?_
  refine lv_iconst (v := (-1 : Int32)) hx hb dX8_requireEmptyWindow_10 (by decide) ?_
  refine lv_icmp_eq (tgt := 25) hx hb dX8_requireEmptyWindow_11 (by decide) (fun c9 => ?_) (fun c9 => ?_)
  · have hf := it_t hf c9
    have e9 := so_e hf
    cases e9
  · have hf := it_f hf c9
    have e9 := so_e hf
    cases e9
    obtain ⟨sa, hsa⟩ := hEX.2.2 (RX8, 433, "a shelf is at the window") (List.mem_of_getElem? (i := 28) rfl)
    exact vx_throwSW (cls := "java/lang/IllegalStateException") (text := "a shelf is at the window") (names := ["java/lang/RuntimeException", "java/lang/Exception"]) (ik := 54) (is := 433) (ic := 58) (sa := sa) hx hb hst hown (by decide +kernel) (by decide +kernel) hw4 hw5 hsa (hat_58 hsuf58 hNW) (by decide +kernel) hEX.1 hEX.2.1 hS (hl.1.trans hml.symm) dX8_requireEmptyWindow_14 dX8_requireEmptyWindow_17 dX8_requireEmptyWindow_18 dX8_requireEmptyWindow_21 dX8_requireEmptyWindow_24 (fun x h => (htab x h).elim) (by decide) (by decide) (Nat.le_of_ble_eq_true rfl) (Nat.le_of_ble_eq_true rfl) hlocks (fun t hal hz hk => ⟨(), trivial, ⟨rfl, WE.th hP hD hz hk⟩, S_ext hS hz hk⟩) hS.2.2 (Nat.le_of_ble_eq_true rfl) (Nat.le_of_ble_eq_true rfl)
set_option maxHeartbeats 4000000 in
set_option maxRecDepth 100000 in
theorem t_X8_requirePackable (l : Launch) (hst : l.stackTraces = false) (dC : Nat → ClassId) (dI : Nat → Nat → Nat) (cI cZ cS : ClassId) (f g : Nat → Option Nat) (a : Nat → Nat) (sz : Nat) (M : Mem) (E : String) (z2 : Mem) (hf : fX8_requirePackable M  = some (Sum.inl E, z2)) : vx_Met l yX8_requirePackable wsX8_requirePackable ({ frames := 7, cells := 1, slots := 6, locals := 130 } : Room) (va_Pc [.ref (a 0)] (T8 (dC, dI) cI cZ cS (wX8 cI cZ cS f g a M) sz)) (fun _ _ _ _ => False) (vx_X (S := Unit) (fun _ => True) (fun E' _ t => E' = E ∧ WE (dC, dI) cI cZ (wX8 cI cZ cS f g a (sr M 40 (z2 40))) (va_A (wX8 cI cZ cS f g a M) sz) t) (va_A (wX8 cI cZ cS f g a M) sz)) 1 6 (va_A (wX8 cI cZ cS f g a M) sz) := by
  refine vx_ofW (cc := cX8_requirePackable) (maxL := 1) (ret := none) (by decide) rfl ?_
  intro p e s m args below meth c s₁ B hml htab hv
  obtain ⟨rfl, hsz, hP, hK, hD0, hNW, hEX⟩ := hv
  have hx := B.exec
  have hb := B.bytes
  have hr := B.returns
  have hts := atoms_spec (ws := wsX8_requirePackable) B.pre
  have hown : s.vm.findClass RX8 = some m.cls := findClass_of_methodNamed B.named
  have hlocks := B.notSynchronized
  have hK2 : va_K (dC, dI) vwCl [(cI, .int), (cZ, .boolean)] s := hK.sub (tys' := [(cI, .int), (cZ, .boolean)]) [0, 1] rfl
  have hinX8 : ∀ w ∈ u_ws RX8 TX8 6, w ∈ wsX8_requirePackable := by decide +kernel
  have hw1 := hts (.fieldLink RX8 12 "GlideShelves" "now" "LGlideShelves$State;") (by decide +kernel)
  have hinX6 : ∀ w ∈ u_ws RX6 TX6 5, w ∈ wsX8_requirePackable := by decide +kernel
  have hw3 := hts (.fieldLink RX8 33 "GlideShelves" "packedPlaces" "[I") (by decide +kernel)
  have hw4 := hts (.initialized RX7) (by decide +kernel)
  have hw5 := hts (.instanceMethod yX7_findPacked) (by decide +kernel)
  have hw6 := hts (.selects RX7 yX7_findPacked yX7_findPacked) (by decide +kernel)
  have hw7 := hts (.classLink RX8 54 "java/lang/IllegalStateException") (by decide +kernel)
  have hw8 := hts (.initialized "java/lang/IllegalStateException") (by decide +kernel)
  have hsuf58 : ∀ w ∈ (vx_atS RX8 58 "java/lang/IllegalStateException" ["java/lang/RuntimeException", "java/lang/Exception"]).filter goodWord, w.before _ s = true := fun w h => hts w (List.mem_cons_of_mem _ (List.mem_append_right _ h))
  subst hsz
  have hD := hD0.self (sz := s.heap.size)
  generalize hAe : va_A (wX8 cI cZ cS f g a M) s.heap.size = A at hD hEX ⊢
  have hA : ∀ q : Nat, s.heap.size ≤ q → A q := fun q h => by rw [← hAe]; exact Or.inr h
  have hS : va_S A s.heap s.heap [] := va_S.rf
  have hl := lv_entry ([.ref (a 0)]) (n := 1) (Nat.le_of_ble_eq_true rfl)
  rw [lg_entry_eq]
  generalize (lg_sl ([.ref (a 0)]) ++ List.replicate (1 - (lg_sl ([.ref (a 0)])).length) Slot.unset).toArray = ls at hl ⊢
  have hl : lv_has ls 1 [(0, .ref (a 0))] := hl
  unfold fX8_requirePackable at hf
  suffices hgo : ∀ (H : Heap) (locs : List Loc), va_P (dC, dI) vwCl (wX8 cI cZ cS f g a M) H → va_D A (wX8 cI cZ cS f g a M) → va_S A s.heap H locs → W p l e (headSpec wsX8_requirePackable ({ frames := 7, cells := 1, slots := 6, locals := 130 } : Room)).room s m ([.ref (a 0)] : List Value).toArray below meth c H locs 0 0 (vx_MQ below (fun _ _ _ _ => False) (vx_X (S := Unit) (fun _ => True) (fun E' _ t => E' = E ∧ WE (dC, dI) cI cZ (wX8 cI cZ cS f g a (sr M 40 (z2 40))) A t) A) ([.ref (a 0)] : List Value).toArray s 1 6 A) (F0 m 0 ls []) from hgo _ _ hP hD hS
  intro H locs hP hD hS
  refine lv_aload_n hx hb dX8_requirePackable_0 rfl (lv_at hl 0 rfl) ?_
  obtain ⟨r1, hc1, hf⟩ := bi_s hf
  rcases r1 with E9 | r1
  · have e9 := so_e hf
    cases e9
    have hFc := va_free (wc := (wX8 cI cZ cS f g a M)) hD hS hA [0, 1, 2, 3, 4, 5, 6, 7, 8, 9, 10, 11, 12, 13, 14, 15, 16, 17, 18, 19, 20, 21, 22, 23, 24, 25, 26, 27, 28, 29, 30, 31, 32, 33, 34, 35, 36, 37, 38, 39, 40, 41] rfl
    refine vx_thr (vx_runV (As := []) (rest := []) ⟨hx, hb, hml, hown, hts⟩ (t_X8_requireEmptyWindow l hst dC dI cI cZ cS f g a _ M _ hc1) (cwV 0 hts gX8_requirePackable_X8_requireEmptyWindow rfl rfl rfl (by decide +kernel) ⟨Nat.le_of_ble_eq_true rfl, Nat.le_of_ble_eq_true rfl⟩) ⟨T8.blind, va_recv hK hP (ci := 8) (q0 := 0) rfl rfl, T8.pre hP hK hD hNW (hEX.at hS hFc)⟩ rfl rfl hl.1 rfl (lv_room (Nat.le_of_ble_eq_true rfl)) dX8_requirePackable_1 ⟨Nat.le_of_ble_eq_true rfl, Nat.le_of_ble_eq_true rfl⟩) hS (fun q _ h => hFc q h) hFc (fun ce q9 t H1 locs1 ht hal hP1 hD1 hz1 hS1 hce hcv hcl => ?_)
    exact vx_out (fun x h => (htab x h).elim) hlocks hce hcv hcl (fun t ht hal => ⟨(), trivial, ⟨rfl, WE.mk hP1 (hD1.weaken (fun k q _ h => hFc q.1 h)) ht⟩, hS1.F ht⟩) hS1.2.2 (Nat.le_of_ble_eq_true rfl) (Nat.le_of_ble_eq_true rfl)
  have hf := sel_r hf
  refine cROv (W.runV (As := []) (rest := []) ⟨hx, hb, hml, hown, hts⟩ (n_X8_requireEmptyWindow l dC dI cI cZ cS f g a M  hc1) (cwV 0 hts gX8_requirePackable_X8_requireEmptyWindow rfl rfl rfl (by decide +kernel) ⟨Nat.le_of_ble_eq_true rfl, Nat.le_of_ble_eq_true rfl⟩) ⟨RO8.blind, va_recv hK hP (ci := 8) (q0 := 0) rfl rfl, RO8.pre hP hK hNW⟩ rfl rfl hl.1 rfl (lv_room (Nat.le_of_ble_eq_true rfl)) dX8_requirePackable_1 ⟨Nat.le_of_ble_eq_true rfl, Nat.le_of_ble_eq_true rfl⟩) ?_
  refine lv_aload_n hx hb dX8_requirePackable_4 rfl (lv_at hl 0 rfl) ?_
  refine va_get (D := (dC, dI)) (ci := 8) (v := .ref (a 1)) (C := RX8) (T := TX8) (N := 6) hx hb hts hinX8 hown hK hP 0 rfl rfl 0 (by decide) hw1 (fun _ h9 => h9) rfl dX8_requirePackable_5 ?_
  refine va_getN (D := (dC, dI)) (ci := 6) (v := .ref (a 2)) (C := RX6) (T := TX6) (N := 5) hx hb hts hinX6 hown hK hP 1 rfl rfl 0 (by decide) (nw24 hNW) (fun _ h9 => h9) rfl dX8_requirePackable_8 ?_
  refine lv_aload_n hx hb dX8_requirePackable_11 rfl (lv_at hl 0 rfl) ?_
  refine va_get (D := (dC, dI)) (ci := 8) (v := .ref (a 40)) (C := RX8) (T := TX8) (N := 6) hx hb hts hinX8 hown hK hP 0 rfl rfl 4 (by decide) hw3 (fun _ h9 => h9) rfl dX8_requirePackable_12 ?_
  obtain ⟨r15, hc15, hf⟩ := bi_s hf
  have hPc := hP.sub (ws' := (wX7_findPacked cI cZ (pk [2, 3, 4, 5, 6, 40] a) (pk [2, 3, 4, 5, 6, 40] M))) [2, 3, 4, 5, 6, 40] rfl
  have hDc := hD.sub (ws' := (wX7_findPacked cI cZ (pk [2, 3, 4, 5, 6, 40] a) (pk [2, 3, 4, 5, 6, 40] M))) [2, 3, 4, 5, 6, 40] (by decide) rfl
  have hFc := va_free (wc := (wX7_findPacked cI cZ (pk [2, 3, 4, 5, 6, 40] a) (pk [2, 3, 4, 5, 6, 40] M))) hD hS hA [2, 3, 4, 5, 6, 40] rfl
  refine va_calli (va_runVN (As := [.ref (a 40)]) (rest := []) ⟨hx, hb, hml, hown, hts⟩ (c_X7_findPacked l dC dI cI cZ (pk [2, 3, 4, 5, 6, 40] a) H.size (pk [2, 3, 4, 5, 6, 40] M) r15 hc15) ⟨va_cnB 1 hts gX8_requirePackable_X7_findPacked_n441 rfl rfl rfl (nw81 hNW) hw4 (by decide +kernel) ⟨Nat.le_of_ble_eq_true rfl, Nat.le_of_ble_eq_true rfl⟩, hw5, hw6⟩ ⟨WR.blind, va_recv hK hP (ci := 7) (q0 := 2) rfl rfl, WR.pre hPc hK2 hDc hNW⟩ rfl rfl hl.1 rfl (lv_room (Nat.le_of_ble_eq_true rfl)) dX8_requirePackable_15 ⟨Nat.le_of_ble_eq_true rfl, Nat.le_of_ble_eq_true rfl⟩) hS (fun q _ h => hFc q h) hFc (fun rv u t H1 locs ht hvm hw hB hz1 hk1 hS => ?_)
  obtain ⟨hP1, hD1⟩ := hB
  rw [ht] at hP1
  subst hw
  obtain ⟨hP, hD⟩ := va_join (wr := [(a 0, .inr (8, [.ref (a 1), .ref (a 17), .ref (a 33), .ref (a 36), .ref (a 40), .ref (a 41)])), (a 1, .inr (6, [.ref (a 2), .ref (a 7), .ref (a 10), .ref (a 15), .int (M 1 4)])), (a 7, .inr (2, [.int (M 7 0), .int (M 7 1), .int (M 7 2), .int (M 7 3), .int (M 7 4), .ref (a 8), .ref (a 9)])), (a 8, .inl (cI, 8, .inl (M 8))), (a 9, .inl (cZ, 8, .inl (M 9))), (a 10, .inr (0, [.ref (a 11), .ref (a 12), .ref (a 13), .ref (a 14)])), (a 11, .inl (cI, 10, .inl (M 11))), (a 12, .inl (cI, 10, .inl (M 12))), (a 13, .inl (cI, 10, .inl (M 13))), (a 14, .inl (cI, 10, .inl (M 14))), (a 15, .inr (3, [.int (M 15 0), .ref (a 16)])), (a 16, .inl (cI, 80, .inl (M 16))), (a 17, .inr (6, [.ref (a 18), .ref (a 23), .ref (a 26), .ref (a 31), .int (M 17 4)])), (a 18, .inr (7, [.int (M 18 0), .int (M 18 1), .ref (a 19), .ref (a 20), .ref (a 21), .ref (a 22)])), (a 19, .inl (cI, 12, .inl (M 19))), (a 20, .inl (cI, 12, .inl (M 20))), (a 21, .inl (cI, 12, .inl (M 21))), (a 22, .inl (cI, 120, .inl (M 22))), (a 23, .inr (2, [.int (M 23 0), .int (M 23 1), .int (M 23 2), .int (M 23 3), .int (M 23 4), .ref (a 24), .ref (a 25)])), (a 24, .inl (cI, 8, .inl (M 24))), (a 25, .inl (cZ, 8, .inl (M 25))), (a 26, .inr (0, [.ref (a 27), .ref (a 28), .ref (a 29), .ref (a 30)])), (a 27, .inl (cI, 10, .inl (M 27))), (a 28, .inl (cI, 10, .inl (M 28))), (a 29, .inl (cI, 10, .inl (M 29))), (a 30, .inl (cI, 10, .inl (M 30))), (a 31, .inr (3, [.int (M 31 0), .ref (a 32)])), (a 32, .inl (cI, 80, .inl (M 32))), (a 33, .inr (1, [.int (M 33 0), .ref (a 34), .ref (a 35)])), (a 34, .inl (cS, 6, .inr (.inr (.inr (.inr f))))), (a 35, .inl (cS, 2, .inr (.inr (.inr (.inr g))))), (a 36, .inr (5, [.int (M 36 0), .ref (a 37), .ref (a 38)])), (a 37, .inl (cI, 60, .inl (M 37))), (a 38, .inr (4, [.int (M 38 0), .int (M 38 1), .ref (a 39)])), (a 39, .inl (cI, 10, .inl (M 39))), (a 41, .inl (cI, 10, .inl (M 41)))]) (w1 := (wX7_findPacked cI cZ (pk [2, 3, 4, 5, 6, 40] a) (sr (pk [2, 3, 4, 5, 6, 40] M) 5 (r15.2 5)))) hP hD [2, 3, 4, 5, 6, 40] [0, 1, 7, 8, 9, 10, 11, 12, 13, 14, 15, 16, 17, 18, 19, 20, 21, 22, 23, 24, 25, 26, 27, 28, 29, 30, 31, 32, 33, 34, 35, 36, 37, 38, 39, 41] rfl rfl (by decide) (by decide) hk1 hFc hP1 hD1
  have hP := hP.sub (ws' := (wX8 cI cZ cS f g a (sr M 40 (r15.2 5)))) [0, 1, 36, 37, 38, 39, 40, 2, 3, 4, 5, 6, 7, 8, 9, 10, 11, 12, 13, 14, 15, 16, 17, 18, 19, 20, 21, 22, 23, 24, 25, 26, 27, 28, 29, 30, 31, 32, 33, 34, 41, 35] rfl
  have hD := hD.sub (ws' := (wX8 cI cZ cS f g a (sr M 40 (r15.2 5)))) [0, 1, 36, 37, 38, 39, 40, 2, 3, 4, 5, 6, 7, 8, 9, 10, 11, 12, 13, 14, 15, 16, 17, 18, 19, 20, 21, 22, 23, 24, 25, 26, 27, 28, 29, 30, 31, 32, 33, 34, 41, 35] (by decide) rfl
  generalize H1 = H at hP hS ⊢
  refine lv_if_ne (tgt := 32) hx hb dX8_requirePackable_18 (by decide) (fun c9 => ?_) (fun c9 => ?_)
  · have hf := it_t hf c9
    have e9 := so_e hf
    cases e9
  · have hf := it_n hf c9
    have e9 := so_e hf
    cases e9
    obtain ⟨sa, hsa⟩ := hEX.2.2 (RX8, 445, "some shelf would not fit") (List.mem_of_getElem? (i := 32) rfl)
    exact vx_throwSW (cls := "java/lang/IllegalStateException") (text := "some shelf would not fit") (names := ["java/lang/RuntimeException", "java/lang/Exception"]) (ik := 54) (is := 445) (ic := 58) (sa := sa) hx hb hst hown (by decide +kernel) (by decide +kernel) hw7 hw8 hsa (hat_58 hsuf58 hNW) (by decide +kernel) hEX.1 hEX.2.1 hS (hl.1.trans hml.symm) dX8_requirePackable_21 dX8_requirePackable_24 dX8_requirePackable_25 dX8_requirePackable_28 dX8_requirePackable_31 (fun x h => (htab x h).elim) (by decide) (by decide) (Nat.le_of_ble_eq_true rfl) (Nat.le_of_ble_eq_true rfl) hlocks (fun t hal hz hk => ⟨(), trivial, ⟨rfl, WE.th hP hD hz hk⟩, S_ext hS hz hk⟩) hS.2.2 (Nat.le_of_ble_eq_true rfl) (Nat.le_of_ble_eq_true rfl)
