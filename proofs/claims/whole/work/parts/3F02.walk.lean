set_option maxHeartbeats 4000000 in
set_option maxRecDepth 100000 in
theorem t_X8_wouldPack (l : Launch) (hst : l.stackTraces = false) (dC : Nat → ClassId) (dI : Nat → Nat → Nat) (cI cZ cS : ClassId) (f g : Nat → Option Nat) (a : Nat → Nat) (sz : Nat) (M : Mem) (E : String) (z2 : Mem) (hf : fX8_wouldPack M  = some (Sum.inl E, z2)) : vx_Met l yX8_wouldPack wsX8_wouldPack ({ frames := 8, cells := 1, slots := 6, locals := 150 } : Room) (va_Pc [.ref (a 0)] (T8 (dC, dI) cI cZ cS (wX8 cI cZ cS f g a M) sz)) (fun _ _ _ _ => False) (vx_X (S := Unit) (fun _ => True) (fun E' _ t => E' = E ∧ WE (dC, dI) cI cZ (wX8 cI cZ cS f g a (sr M 40 (z2 40))) (va_A (wX8 cI cZ cS f g a M) sz) t) (va_A (wX8 cI cZ cS f g a M) sz)) 1 6 (va_A (wX8 cI cZ cS f g a M) sz) := by
  refine vx_ofW (cc := cX8_wouldPack) (maxL := 1) (ret := (some .int)) (by decide) rfl ?_
  intro p e s m args below meth c s₁ B hml htab hv
  obtain ⟨rfl, hsz, hP, hK, hD0, hNW, hEX⟩ := hv
  have hx := B.exec
  have hb := B.bytes
  have hr := B.returns
  have hts := atoms_spec (ws := wsX8_wouldPack) B.pre
  have hown : s.vm.findClass RX8 = some m.cls := findClass_of_methodNamed B.named
  have hlocks := B.notSynchronized
  have hK2 : va_K (dC, dI) vwCl [(cI, .int), (cZ, .boolean)] s := hK.sub (tys' := [(cI, .int), (cZ, .boolean)]) [0, 1] rfl
  have hinX8 : ∀ w ∈ u_ws RX8 TX8 6, w ∈ wsX8_wouldPack := by decide +kernel
  have hw1 := hts (.fieldLink RX8 12 "GlideShelves" "now" "LGlideShelves$State;") (by decide +kernel)
  have hinX6 : ∀ w ∈ u_ws RX6 TX6 5, w ∈ wsX8_wouldPack := by decide +kernel
  have hw3 := hts (.fieldLink RX8 33 "GlideShelves" "packedPlaces" "[I") (by decide +kernel)
  have hw4 := hts (.initialized RX7) (by decide +kernel)
  have hw5 := hts (.instanceMethod yX7_countMoved) (by decide +kernel)
  have hw6 := hts (.selects RX7 yX7_countMoved yX7_countMoved) (by decide +kernel)
  subst hsz
  have hD := hD0.self (sz := s.heap.size)
  generalize hAe : va_A (wX8 cI cZ cS f g a M) s.heap.size = A at hD hEX ⊢
  have hA : ∀ q : Nat, s.heap.size ≤ q → A q := fun q h => by rw [← hAe]; exact Or.inr h
  have hS : va_S A s.heap s.heap [] := va_S.rf
  have hl := lv_entry ([.ref (a 0)]) (n := 1) (Nat.le_of_ble_eq_true rfl)
  rw [lg_entry_eq]
  generalize (lg_sl ([.ref (a 0)]) ++ List.replicate (1 - (lg_sl ([.ref (a 0)])).length) Slot.unset).toArray = ls at hl ⊢
  have hl : lv_has ls 1 [(0, .ref (a 0))] := hl
  unfold fX8_wouldPack at hf
  suffices hgo : ∀ (H : Heap) (locs : List Loc), va_P (dC, dI) vwCl (wX8 cI cZ cS f g a M) H → va_D A (wX8 cI cZ cS f g a M) → va_S A s.heap H locs → W p l e (headSpec wsX8_wouldPack ({ frames := 8, cells := 1, slots := 6, locals := 150 } : Room)).room s m ([.ref (a 0)] : List Value).toArray below meth c H locs 0 0 (vx_MQ below (fun _ _ _ _ => False) (vx_X (S := Unit) (fun _ => True) (fun E' _ t => E' = E ∧ WE (dC, dI) cI cZ (wX8 cI cZ cS f g a (sr M 40 (z2 40))) A t) A) ([.ref (a 0)] : List Value).toArray s 1 6 A) (F0 m 0 ls []) from hgo _ _ hP hD hS
  intro H locs hP hD hS
  refine lv_aload_n hx hb dX8_wouldPack_0 rfl (lv_at hl 0 rfl) ?_
  obtain ⟨⟨r1, N1⟩, hc1, hf⟩ := bi_s hf
  rcases r1 with E9 | r1
  · have e9 := so_e hf
    cases e9
    have hFc := va_free (wc := (wX8 cI cZ cS f g a M)) hD hS hA [0, 1, 2, 3, 4, 5, 6, 7, 8, 9, 10, 11, 12, 13, 14, 15, 16, 17, 18, 19, 20, 21, 22, 23, 24, 25, 26, 27, 28, 29, 30, 31, 32, 33, 34, 35, 36, 37, 38, 39, 40, 41] rfl
    refine vx_thr (vx_runV (As := []) (rest := []) ⟨hx, hb, hml, hown, hts⟩ (t_X8_requirePackable l hst dC dI cI cZ cS f g a _ M _ _ hc1) (cwV 0 hts gX8_wouldPack_X8_requirePackable rfl rfl rfl (by decide +kernel) ⟨Nat.le_of_ble_eq_true rfl, Nat.le_of_ble_eq_true rfl⟩) ⟨T8.blind, va_recv hK hP (ci := 8) (q0 := 0) rfl rfl, T8.pre hP hK hD hNW (hEX.at hS hFc)⟩ rfl rfl hl.1 rfl (lv_room (Nat.le_of_ble_eq_true rfl)) dX8_wouldPack_1 ⟨Nat.le_of_ble_eq_true rfl, Nat.le_of_ble_eq_true rfl⟩) hS (fun q _ h => hFc q h) hFc (fun ce q9 t H1 locs1 ht hal hP1 hD1 hz1 hS1 hce hcv hcl => ?_)
    exact vx_out (fun x h => (htab x h).elim) hlocks hce hcv hcl (fun t ht hal => ⟨(), trivial, ⟨rfl, WE.mk hP1 (hD1.weaken (fun k q _ h => hFc q.1 h)) ht⟩, hS1.F ht⟩) hS1.2.2 (Nat.le_of_ble_eq_true rfl) (Nat.le_of_ble_eq_true rfl)
  have hf := sel_r hf
  have hFc := va_free (wc := (wX8 cI cZ cS f g a M)) hD hS hA [0, 1, 2, 3, 4, 5, 6, 7, 8, 9, 10, 11, 12, 13, 14, 15, 16, 17, 18, 19, 20, 21, 22, 23, 24, 25, 26, 27, 28, 29, 30, 31, 32, 33, 34, 35, 36, 37, 38, 39, 40, 41] rfl
  refine va_callv (va_runV (As := []) (rest := []) ⟨hx, hb, hml, hown, hts⟩ (n_X8_requirePackable l dC dI cI cZ cS f g a H.size M  N1 hc1) (cwV 0 hts gX8_wouldPack_X8_requirePackable rfl rfl rfl (by decide +kernel) ⟨Nat.le_of_ble_eq_true rfl, Nat.le_of_ble_eq_true rfl⟩) ⟨WR8.blind, va_recv hK hP (ci := 8) (q0 := 0) rfl rfl, WR8.pre hP hK hD hNW⟩ rfl rfl hl.1 rfl (lv_room (Nat.le_of_ble_eq_true rfl)) dX8_wouldPack_1 ⟨Nat.le_of_ble_eq_true rfl, Nat.le_of_ble_eq_true rfl⟩) hS (fun q _ h => hFc q h) hFc (fun u t H1 locs ht hvm hw hB hz1 hk1 hS => ?_)
  obtain ⟨hP1, hD1⟩ := hB
  rw [ht] at hP1
  have hP := hP1
  have hD := hD1.weaken (fun k q _ h => hFc q.1 h)
  have hP : va_P (dC, dI) vwCl (wX8 cI cZ cS f g a (sr M 40 (N1 40))) H1 := hP
  have hD : va_D A (wX8 cI cZ cS f g a (sr M 40 (N1 40))) := hD
  generalize H1 = H at hP hS ⊢
  refine lv_aload_n hx hb dX8_wouldPack_4 rfl (lv_at hl 0 rfl) ?_
  refine va_get (D := (dC, dI)) (ci := 8) (v := .ref (a 1)) (C := RX8) (T := TX8) (N := 6) hx hb hts hinX8 hown hK hP 0 rfl rfl 0 (by decide) hw1 (fun _ h9 => h9) rfl dX8_wouldPack_5 ?_
  refine va_getN (D := (dC, dI)) (ci := 6) (v := .ref (a 2)) (C := RX6) (T := TX6) (N := 5) hx hb hts hinX6 hown hK hP 1 rfl rfl 0 (by decide) (nw24 hNW) (fun _ h9 => h9) rfl dX8_wouldPack_8 ?_
  refine lv_aload_n hx hb dX8_wouldPack_11 rfl (lv_at hl 0 rfl) ?_
  refine va_get (D := (dC, dI)) (ci := 8) (v := .ref (a 40)) (C := RX8) (T := TX8) (N := 6) hx hb hts hinX8 hown hK hP 0 rfl rfl 4 (by decide) hw3 (fun _ h9 => h9) rfl dX8_wouldPack_12 ?_
  obtain ⟨r15, hc15, hf⟩ := bi_s hf
  have hPc := hP.sub (ws' := (wX7_countMoved cI cZ (pk [2, 3, 4, 5, 6, 40] a) (pk [2, 3, 4, 5, 6, 40] (sr M 40 (N1 40))))) [2, 3, 4, 5, 6, 40] rfl
  refine cRO (va_Run.run (va_runVN (As := [.ref (a 40)]) (rest := []) ⟨hx, hb, hml, hown, hts⟩ (c_X7_countMoved l dC dI cI cZ (pk [2, 3, 4, 5, 6, 40] a) (pk [2, 3, 4, 5, 6, 40] (sr M 40 (N1 40))) r15 hc15) ⟨va_cnB 1 hts gX8_wouldPack_X7_countMoved_n127 rfl rfl rfl (nw46 hNW) hw4 (by decide +kernel) ⟨Nat.le_of_ble_eq_true rfl, Nat.le_of_ble_eq_true rfl⟩, hw5, hw6⟩ ⟨RO.blind, va_recv hK hP (ci := 7) (q0 := 2) rfl rfl, RO.pre hPc hK2 hNW⟩ rfl rfl hl.1 rfl (lv_room (Nat.le_of_ble_eq_true rfl)) dX8_wouldPack_15 ⟨Nat.le_of_ble_eq_true rfl, Nat.le_of_ble_eq_true rfl⟩)) ?_
  have e9 := so_e hf
  cases e9
set_option maxHeartbeats 4000000 in
set_option maxRecDepth 100000 in
theorem n_X8_sideWeight (l : Launch) (dC : Nat → ClassId) (dI : Nat → Nat → Nat) (cI cZ cS : ClassId) (f g : Nat → Option Nat) (a : Nat → Nat) (M : Mem) (a1 : Int32) (z1 : Int32) (hf : fX8_sideWeight M a1 = some (Sum.inr z1)) : Met l yX8_sideWeight wsX8_sideWeight ({ frames := 3, cells := 0, slots := 0, locals := 68 } : Room) (va_Pc [.ref (a 0), .int a1] (RO8 (dC, dI) cI cZ cS (wX8 cI cZ cS f g a M))) (k2_QcV (.int z1)) 0 0 (fun _ => False) := by
  refine Met.ofW (cc := cX8_sideWeight) (maxL := 2) (ret := (some .int)) (by decide) rfl ?_
  intro p e s m args below meth c s₁ B hml hv
  obtain ⟨rfl, hP, hK, hNW⟩ := hv
  have hx := B.exec
  have hb := B.bytes
  have hr := B.returns
  have hts := atoms_spec (ws := wsX8_sideWeight) B.pre
  have hown : s.vm.findClass RX8 = some m.cls := findClass_of_methodNamed B.named
  have hlocks := B.notSynchronized
  have hK2 : va_K (dC, dI) vwCl [(cI, .int), (cZ, .boolean)] s := hK.sub (tys' := [(cI, .int), (cZ, .boolean)]) [0, 1] rfl
  have hinX8 : ∀ w ∈ u_ws RX8 TX8 6, w ∈ wsX8_sideWeight := by decide +kernel
  have hw1 := hts (.fieldLink RX8 12 "GlideShelves" "now" "LGlideShelves$State;") (by decide +kernel)
  have hw2 := hts (.initialized RX6) (by decide +kernel)
  have hw3 := hts (.instanceMethod yX6_weighSide) (by decide +kernel)
  have hw4 := hts (.selects RX6 yX6_weighSide yX6_weighSide) (by decide +kernel)
  have hl := lv_entry ([.ref (a 0), .int a1]) (n := 2) (Nat.le_of_ble_eq_true rfl)
  rw [lg_entry_eq]
  generalize (lg_sl ([.ref (a 0), .int a1]) ++ List.replicate (2 - (lg_sl ([.ref (a 0), .int a1])).length) Slot.unset).toArray = ls at hl ⊢
  have hl : lv_has ls 2 [(0, .ref (a 0)), (1, .int a1)] := hl
  unfold fX8_sideWeight at hf
  refine lv_aload_n hx hb dX8_sideWeight_0 rfl (lv_at hl 0 rfl) ?_
  refine lv_iload_n hx hb dX8_sideWeight_1 rfl (lv_at hl 1 rfl) ?_
  obtain ⟨r2, hc2, hf⟩ := bi_s hf
  rcases r2 with E9 | r2
  · have e9 := so_e hf
    cases e9
  have hf := sel_r hf
  refine cROv (W.runV (As := [.int a1]) (rest := []) ⟨hx, hb, hml, hown, hts⟩ (n_X8_requireSide l dC dI cI cZ cS f g a M a1  hc2) (cwV 1 hts gX8_sideWeight_X8_requireSide rfl rfl rfl (by decide +kernel) ⟨Nat.le_of_ble_eq_true rfl, Nat.le_of_ble_eq_true rfl⟩) ⟨RO8.blind, va_recv hK hP (ci := 8) (q0 := 0) rfl rfl, RO8.pre hP hK hNW⟩ rfl rfl hl.1 rfl (lv_room (Nat.le_of_ble_eq_true rfl)) dX8_sideWeight_2 ⟨Nat.le_of_ble_eq_true rfl, Nat.le_of_ble_eq_true rfl⟩) ?_
  refine lv_aload_n hx hb dX8_sideWeight_5 rfl (lv_at hl 0 rfl) ?_
  refine va_get (D := (dC, dI)) (ci := 8) (v := .ref (a 1)) (C := RX8) (T := TX8) (N := 6) hx hb hts hinX8 hown hK hP 0 rfl rfl 0 (by decide) hw1 (fun _ h9 => h9) rfl dX8_sideWeight_6 ?_
  refine lv_iload_n hx hb dX8_sideWeight_9 rfl (lv_at hl 1 rfl) ?_
  obtain ⟨r10, hc10, hf⟩ := bi_s hf
  have hPc := hP.sub (ws' := (wX6 cI cZ (ofs 1 a) (ofs 1 M))) [1, 2, 3, 4, 5, 6, 7, 8, 9, 10, 11, 12, 13, 14, 15, 16] rfl
  refine cRO (va_Run.run (va_runVN (As := [.int a1]) (rest := []) ⟨hx, hb, hml, hown, hts⟩ (c_X6_weighSide l dC dI cI cZ (ofs 1 a) (ofs 1 M) a1 r10 hc10) ⟨va_cnB 1 hts gX8_sideWeight_X6_weighSide_n301 rfl rfl rfl (nw68 hNW) hw2 (by decide +kernel) ⟨Nat.le_of_ble_eq_true rfl, Nat.le_of_ble_eq_true rfl⟩, hw3, hw4⟩ ⟨RO.blind, va_recv hK hP (ci := 6) (q0 := 1) rfl rfl, RO.pre hPc hK2 hNW⟩ rfl rfl hl.1 rfl (lv_room (Nat.le_of_ble_eq_true rfl)) dX8_sideWeight_10 ⟨Nat.le_of_ble_eq_true rfl, Nat.le_of_ble_eq_true rfl⟩)) ?_
  have e9 := so_e hf
  cases e9
  exact W.iret hx hb hr (fun t ht hW => ⟨rfl, ht⟩) fl0 dX8_sideWeight_13
set_option maxHeartbeats 4000000 in
set_option maxRecDepth 100000 in
theorem t_X8_sideWeight (l : Launch) (hst : l.stackTraces = false) (dC : Nat → ClassId) (dI : Nat → Nat → Nat) (cI cZ cS : ClassId) (f g : Nat → Option Nat) (a : Nat → Nat) (sz : Nat) (M : Mem) (a1 : Int32) (E : String) (hf : fX8_sideWeight M a1 = some (Sum.inl E)) : vx_Met l yX8_sideWeight wsX8_sideWeight ({ frames := 7, cells := 1, slots := 6, locals := 131 } : Room) (va_Pc [.ref (a 0), .int a1] (T8 (dC, dI) cI cZ cS (wX8 cI cZ cS f g a M) sz)) (fun _ _ _ _ => False) (vx_X (S := Unit) (fun _ => True) (fun E' _ t => E' = E ∧ WE (dC, dI) cI cZ (wX8 cI cZ cS f g a M) (va_A (wX8 cI cZ cS f g a M) sz) t) (va_A (wX8 cI cZ cS f g a M) sz)) 1 6 (va_A (wX8 cI cZ cS f g a M) sz) := by
  refine vx_ofW (cc := cX8_sideWeight) (maxL := 2) (ret := (some .int)) (by decide) rfl ?_
  intro p e s m args below meth c s₁ B hml htab hv
  obtain ⟨rfl, hsz, hP, hK, hD0, hNW, hEX⟩ := hv
  have hx := B.exec
  have hb := B.bytes
  have hr := B.returns
  have hts := atoms_spec (ws := wsX8_sideWeight) B.pre
  have hown : s.vm.findClass RX8 = some m.cls := findClass_of_methodNamed B.named
  have hlocks := B.notSynchronized
  have hK2 : va_K (dC, dI) vwCl [(cI, .int), (cZ, .boolean)] s := hK.sub (tys' := [(cI, .int), (cZ, .boolean)]) [0, 1] rfl
  have hinX8 : ∀ w ∈ u_ws RX8 TX8 6, w ∈ wsX8_sideWeight := by decide +kernel
  have hw1 := hts (.fieldLink RX8 12 "GlideShelves" "now" "LGlideShelves$State;") (by decide +kernel)
  have hw2 := hts (.initialized RX6) (by decide +kernel)
  have hw3 := hts (.instanceMethod yX6_weighSide) (by decide +kernel)
  have hw4 := hts (.selects RX6 yX6_weighSide yX6_weighSide) (by decide +kernel)
  subst hsz
  have hD := hD0.self (sz := s.heap.size)
  generalize hAe : va_A (wX8 cI cZ cS f g a M) s.heap.size = A at hD hEX ⊢
  have hA : ∀ q : Nat, s.heap.size ≤ q → A q := fun q h => by rw [← hAe]; exact Or.inr h
  have hS : va_S A s.heap s.heap [] := va_S.rf
  have hl := lv_entry ([.ref (a 0), .int a1]) (n := 2) (Nat.le_of_ble_eq_true rfl)
  rw [lg_entry_eq]
  generalize (lg_sl ([.ref (a 0), .int a1]) ++ List.replicate (2 - (lg_sl ([.ref (a 0), .int a1])).length) Slot.unset).toArray = ls at hl ⊢
  have hl : lv_has ls 2 [(0, .ref (a 0)), (1, .int a1)] := hl
  unfold fX8_sideWeight at hf
  refine lv_aload_n hx hb dX8_sideWeight_0 rfl (lv_at hl 0 rfl) ?_
  refine lv_iload_n hx hb dX8_sideWeight_1 rfl (lv_at hl 1 rfl) ?_
  obtain ⟨r2, hc2, hf⟩ := bi_s hf
  rcases r2 with E9 | r2
  · have e9 := so_e hf
    cases e9
    have hFc := va_free (wc := (wX8 cI cZ cS f g a M)) hD hS hA [0, 1, 2, 3, 4, 5, 6, 7, 8, 9, 10, 11, 12, 13, 14, 15, 16, 17, 18, 19, 20, 21, 22, 23, 24, 25, 26, 27, 28, 29, 30, 31, 32, 33, 34, 35, 36, 37, 38, 39, 40, 41] rfl
    refine vx_thr (vx_runV (As := [.int a1]) (rest := []) ⟨hx, hb, hml, hown, hts⟩ (t_X8_requireSide l hst dC dI cI cZ cS f g a _ M a1 _ hc2) (cwV 1 hts gX8_sideWeight_X8_requireSide rfl rfl rfl (by decide +kernel) ⟨Nat.le_of_ble_eq_true rfl, Nat.le_of_ble_eq_true rfl⟩) ⟨T8.blind, va_recv hK hP (ci := 8) (q0 := 0) rfl rfl, T8.pre hP hK hD hNW (hEX.at hS hFc)⟩ rfl rfl hl.1 rfl (lv_room (Nat.le_of_ble_eq_true rfl)) dX8_sideWeight_2 ⟨Nat.le_of_ble_eq_true rfl, Nat.le_of_ble_eq_true rfl⟩) hS (fun q _ h => hFc q h) hFc (fun ce q9 t H1 locs1 ht hal hP1 hD1 hz1 hS1 hce hcv hcl => ?_)
    exact vx_out (fun x h => (htab x h).elim) hlocks hce hcv hcl (fun t ht hal => ⟨(), trivial, ⟨rfl, WE.mk hP1 (hD1.weaken (fun k q _ h => hFc q.1 h)) ht⟩, hS1.F ht⟩) hS1.2.2 (Nat.le_of_ble_eq_true rfl) (Nat.le_of_ble_eq_true rfl)
  have hf := sel_r hf
  refine cROv (W.runV (As := [.int a1]) (rest := []) ⟨hx, hb, hml, hown, hts⟩ (n_X8_requireSide l dC dI cI cZ cS f g a M a1  hc2) (cwV 1 hts gX8_sideWeight_X8_requireSide rfl rfl rfl (by decide +kernel) ⟨Nat.le_of_ble_eq_true rfl, Nat.le_of_ble_eq_true rfl⟩) ⟨RO8.blind, va_recv hK hP (ci := 8) (q0 := 0) rfl rfl, RO8.pre hP hK hNW⟩ rfl rfl hl.1 rfl (lv_room (Nat.le_of_ble_eq_true rfl)) dX8_sideWeight_2 ⟨Nat.le_of_ble_eq_true rfl, Nat.le_of_ble_eq_true rfl⟩) ?_
  refine lv_aload_n hx hb dX8_sideWeight_5 rfl (lv_at hl 0 rfl) ?_
  refine va_get (D := (dC, dI)) (ci := 8) (v := .ref (a 1)) (C := RX8) (T := TX8) (N := 6) hx hb hts hinX8 hown hK hP 0 rfl rfl 0 (by decide) hw1 (fun _ h9 => h9) rfl dX8_sideWeight_6 ?_
  refine lv_iload_n hx hb dX8_sideWeight_9 rfl (lv_at hl 1 rfl) ?_
  obtain ⟨r10, hc10, hf⟩ := bi_s hf
  have hPc := hP.sub (ws' := (wX6 cI cZ (ofs 1 a) (ofs 1 M))) [1, 2, 3, 4, 5, 6, 7, 8, 9, 10, 11, 12, 13, 14, 15, 16] rfl
  refine cRO (va_Run.run (va_runVN (As := [.int a1]) (rest := []) ⟨hx, hb, hml, hown, hts⟩ (c_X6_weighSide l dC dI cI cZ (ofs 1 a) (ofs 1 M) a1 r10 hc10) ⟨va_cnB 1 hts gX8_sideWeight_X6_weighSide_n301 rfl rfl rfl (nw68 hNW) hw2 (by decide +kernel) ⟨Nat.le_of_ble_eq_true rfl, Nat.le_of_ble_eq_true rfl⟩, hw3, hw4⟩ ⟨RO.blind, va_recv hK hP (ci := 6) (q0 := 1) rfl rfl, RO.pre hPc hK2 hNW⟩ rfl rfl hl.1 rfl (lv_room (Nat.le_of_ble_eq_true rfl)) dX8_sideWeight_10 ⟨Nat.le_of_ble_eq_true rfl, Nat.le_of_ble_eq_true rfl⟩)) ?_
  have e9 := so_e hf
  cases e9
set_option maxHeartbeats 4000000 in
set_option maxRecDepth 100000 in
theorem c_X8_trips (l : Launch) (dC : Nat → ClassId) (dI : Nat → Nat → Nat) (cI cZ cS : ClassId) (f g : Nat → Option Nat) (a : Nat → Nat) (M : Mem) (z : Int32) (hf : fX8_trips M  = some z) : Met l yX8_trips wsX8_trips ({ frames := 0, cells := 0, slots := 0, locals := 0 } : Room) (va_Pc [.ref (a 0)] (RO8 (dC, dI) cI cZ cS (wX8 cI cZ cS f g a M))) (k2_QcV (.int z)) 0 0 (fun _ => False) := by
  refine Met.ofW (cc := cX8_trips) (maxL := 1) (ret := (some .int)) (by decide) rfl ?_
  intro p e s m args below meth c s₁ B hml hv
  obtain ⟨rfl, hP, hK, hNW⟩ := hv
  have hK2 : va_K (dC, dI) vwCl [(cI, .int), (cZ, .boolean)] s := hK.sub (tys' := [(cI, .int), (cZ, .boolean)]) [0, 1] rfl
  have hx := B.exec
  have hb := B.bytes
  have hr := B.returns
  have hts := atoms_spec (ws := wsX8_trips) B.pre
  have hown : s.vm.findClass RX8 = some m.cls := findClass_of_methodNamed B.named
  have hlocks := B.notSynchronized
  have hinX8 : ∀ w ∈ u_ws RX8 TX8 6, w ∈ wsX8_trips := by decide +kernel
  have hw1 := hts (.fieldLink RX8 12 "GlideShelves" "now" "LGlideShelves$State;") (by decide +kernel)
  have hinX6 : ∀ w ∈ u_ws RX6 TX6 5, w ∈ wsX8_trips := by decide +kernel
  have hinX2 : ∀ w ∈ u_ws RX2 TX2 7, w ∈ wsX8_trips := by decide +kernel
  have hl := lv_entry ([.ref (a 0)]) (n := 1) (Nat.le_of_ble_eq_true rfl)
  rw [lg_entry_eq]
  generalize (lg_sl ([.ref (a 0)]) ++ List.replicate (1 - (lg_sl ([.ref (a 0)])).length) Slot.unset).toArray = ls at hl ⊢
  have hl : lv_has ls 1 [(0, .ref (a 0))] := hl
  unfold fX8_trips at hf
  refine lv_aload_n hx hb dX8_trips_0 rfl (lv_at hl 0 rfl) ?_
  refine va_get (D := (dC, dI)) (ci := 8) (v := .ref (a 1)) (C := RX8) (T := TX8) (N := 6) hx hb hts hinX8 hown hK hP 0 rfl rfl 0 (by decide) hw1 (fun _ h9 => h9) rfl dX8_trips_1 ?_
  refine va_getN (D := (dC, dI)) (ci := 6) (v := .ref (a 7)) (C := RX6) (T := TX6) (N := 5) hx hb hts hinX6 hown hK hP 1 rfl rfl 1 (by decide) (nw10 hNW) (fun _ h9 => h9) rfl dX8_trips_4 ?_
  refine va_getN (D := (dC, dI)) (ci := 2) (v := .int (M 7 4)) (C := RX2) (T := TX2) (N := 7) hx hb hts hinX2 hown hK hP 7 rfl rfl 4 (by decide) (nw18 hNW) (fun _ h9 => h9) rfl dX8_trips_7 ?_
  exact W.iret (v := (M 7 4)) hx hb hr (fun t ht hW => ⟨congrArg (fun x => Outcome.returned (some (Value.int x))) (so_e hf), ht⟩) fl0 dX8_trips_10
set_option maxHeartbeats 4000000 in
set_option maxRecDepth 100000 in
theorem n_X8_requireTrip (l : Launch) (dC : Nat → ClassId) (dI : Nat → Nat → Nat) (cI cZ cS : ClassId) (f g : Nat → Option Nat) (a : Nat → Nat) (M : Mem) (a1 : Int32) (hf : fX8_requireTrip M a1 = some (Sum.inr ())) : Met l yX8_requireTrip wsX8_requireTrip ({ frames := 0, cells := 0, slots := 0, locals := 0 } : Room) (va_Pc [.ref (a 0), .int a1] (RO8 (dC, dI) cI cZ cS (wX8 cI cZ cS f g a M))) (va_Sv (fun _ => True)) 0 0 (fun _ => False) := by
  refine Met.ofW (cc := cX8_requireTrip) (maxL := 2) (ret := none) (by decide) rfl ?_
  intro p e s m args below meth c s₁ B hml hv
  obtain ⟨rfl, hP, hK, hNW⟩ := hv
  have hx := B.exec
  have hb := B.bytes
  have hr := B.returns
  have hts := atoms_spec (ws := wsX8_requireTrip) B.pre
  have hown : s.vm.findClass RX8 = some m.cls := findClass_of_methodNamed B.named
  have hlocks := B.notSynchronized
  have hK2 : va_K (dC, dI) vwCl [(cI, .int), (cZ, .boolean)] s := hK.sub (tys' := [(cI, .int), (cZ, .boolean)]) [0, 1] rfl
  have hinX8 : ∀ w ∈ u_ws RX8 TX8 6, w ∈ wsX8_requireTrip := by decide +kernel
  have hw1 := hts (.fieldLink RX8 12 "GlideShelves" "now" "LGlideShelves$State;") (by decide +kernel)
  have hinX6 : ∀ w ∈ u_ws RX6 TX6 5, w ∈ wsX8_requireTrip := by decide +kernel
  have hinX2 : ∀ w ∈ u_ws RX2 TX2 7, w ∈ wsX8_requireTrip := by decide +kernel
  have hfX8_requireTrip_B18 : ∀ (_ : Unit), fX8_requireTrip_B18 M  () = some (Sum.inr ()) → ∀ (ls : Array Slot), lv_has ls 2 [] → W p l e (headSpec wsX8_requireTrip ({ frames := 0, cells := 0, slots := 0, locals := 0 } : Room)).room s m ([.ref (a 0), .int a1] : List Value).toArray below meth c s.heap [] 0 0 (MQ below (va_Sv (fun _ => True)) ([.ref (a 0), .int a1] : List Value).toArray s 0 0 (fun _ => False)) (F0 m 18 ls []) := by
    intro  _ hf ls hl
    unfold fX8_requireTrip_B18 at hf
    have e9 := so_e hf
    cases e9
  have hl := lv_entry ([.ref (a 0), .int a1]) (n := 2) (Nat.le_of_ble_eq_true rfl)
  rw [lg_entry_eq]
  generalize (lg_sl ([.ref (a 0), .int a1]) ++ List.replicate (2 - (lg_sl ([.ref (a 0), .int a1])).length) Slot.unset).toArray = ls at hl ⊢
  have hl : lv_has ls 2 [(0, .ref (a 0)), (1, .int a1)] := hl
  unfold fX8_requireTrip at hf
  refine lv_iload_n hx hb dX8_requireTrip_0 rfl (lv_at hl 1 rfl) ?_
  refine lv_if_lt (tgt := 18) hx hb dX8_requireTrip_1 (by decide) (fun c9 => ?_) (fun c9 => ?_)
  · have hf := it_t hf c9
    exact hfX8_requireTrip_B18  () hf _ (lv_sub hl [] rfl)
  · have hf := it_f hf c9
    refine lv_iload_n hx hb dX8_requireTrip_4 rfl (lv_at hl 1 rfl) ?_
    refine lv_aload_n hx hb dX8_requireTrip_5 rfl (lv_at hl 0 rfl) ?_
    refine va_get (D := (dC, dI)) (ci := 8) (v := .ref (a 1)) (C := RX8) (T := TX8) (N := 6) hx hb hts hinX8 hown hK hP 0 rfl rfl 0 (by decide) hw1 (fun _ h9 => h9) rfl dX8_requireTrip_6 ?_
    refine va_getN (D := (dC, dI)) (ci := 6) (v := .ref (a 7)) (C := RX6) (T := TX6) (N := 5) hx hb hts hinX6 hown hK hP 1 rfl rfl 1 (by decide) (nw10 hNW) (fun _ h9 => h9) rfl dX8_requireTrip_9 ?_
    refine va_getN (D := (dC, dI)) (ci := 2) (v := .int (M 7 4)) (C := RX2) (T := TX2) (N := 7) hx hb hts hinX2 hown hK hP 7 rfl rfl 4 (by decide) (nw18 hNW) (fun _ h9 => h9) rfl dX8_requireTrip_12 ?_
    refine lv_icmp_lt (tgt := 29) hx hb dX8_requireTrip_15 (by decide) (fun c9 => ?_) (fun c9 => ?_)
    · have hf := it_t hf c9
      have e9 := so_e hf
      cases e9
      exact W.vret hx hb hr (fun t ht hW => ⟨rfl, trivial, ht⟩) fl0 dX8_requireTrip_29
    · have hf := it_f hf c9
      exact hfX8_requireTrip_B18  () hf _ (lv_sub hl [] rfl)
set_option maxHeartbeats 4000000 in
set_option maxRecDepth 100000 in
theorem n_X8_tripTicks (l : Launch) (dC : Nat → ClassId) (dI : Nat → Nat → Nat) (cI cZ cS : ClassId) (f g : Nat → Option Nat) (a : Nat → Nat) (M : Mem) (a1 : Int32) (z1 : Int32) (hf : fX8_tripTicks M a1 = some (Sum.inr z1)) : Met l yX8_tripTicks wsX8_tripTicks ({ frames := 1, cells := 0, slots := 0, locals := 21 } : Room) (va_Pc [.ref (a 0), .int a1] (RO8 (dC, dI) cI cZ cS (wX8 cI cZ cS f g a M))) (k2_QcV (.int z1)) 0 0 (fun _ => False) := by
  refine Met.ofW (cc := cX8_tripTicks) (maxL := 2) (ret := (some .int)) (by decide) rfl ?_
  intro p e s m args below meth c s₁ B hml hv
  obtain ⟨rfl, hP, hK, hNW⟩ := hv
  have hx := B.exec
  have hb := B.bytes
  have hr := B.returns
  have hts := atoms_spec (ws := wsX8_tripTicks) B.pre
  have hown : s.vm.findClass RX8 = some m.cls := findClass_of_methodNamed B.named
  have hlocks := B.notSynchronized
  have hK2 : va_K (dC, dI) vwCl [(cI, .int), (cZ, .boolean)] s := hK.sub (tys' := [(cI, .int), (cZ, .boolean)]) [0, 1] rfl
  have hinX8 : ∀ w ∈ u_ws RX8 TX8 6, w ∈ wsX8_tripTicks := by decide +kernel
  have hw1 := hts (.fieldLink RX8 12 "GlideShelves" "now" "LGlideShelves$State;") (by decide +kernel)
  have hinX6 : ∀ w ∈ u_ws RX6 TX6 5, w ∈ wsX8_tripTicks := by decide +kernel
  have hinX2 : ∀ w ∈ u_ws RX2 TX2 7, w ∈ wsX8_tripTicks := by decide +kernel
  have hl := lv_entry ([.ref (a 0), .int a1]) (n := 2) (Nat.le_of_ble_eq_true rfl)
  rw [lg_entry_eq]
  generalize (lg_sl ([.ref (a 0), .int a1]) ++ List.replicate (2 - (lg_sl ([.ref (a 0), .int a1])).length) Slot.unset).toArray = ls at hl ⊢
  have hl : lv_has ls 2 [(0, .ref (a 0)), (1, .int a1)] := hl
  unfold fX8_tripTicks at hf
  refine lv_aload_n hx hb dX8_tripTicks_0 rfl (lv_at hl 0 rfl) ?_
  refine lv_iload_n hx hb dX8_tripTicks_1 rfl (lv_at hl 1 rfl) ?_
  obtain ⟨r2, hc2, hf⟩ := bi_s hf
  rcases r2 with E9 | r2
  · have e9 := so_e hf
    cases e9
  have hf := sel_r hf
  refine cROv (W.runV (As := [.int a1]) (rest := []) ⟨hx, hb, hml, hown, hts⟩ (n_X8_requireTrip l dC dI cI cZ cS f g a M a1  hc2) (cwV 1 hts gX8_tripTicks_X8_requireTrip rfl rfl rfl (by decide +kernel) ⟨Nat.le_of_ble_eq_true rfl, Nat.le_of_ble_eq_true rfl⟩) ⟨RO8.blind, va_recv hK hP (ci := 8) (q0 := 0) rfl rfl, RO8.pre hP hK hNW⟩ rfl rfl hl.1 rfl (lv_room (Nat.le_of_ble_eq_true rfl)) dX8_tripTicks_2 ⟨Nat.le_of_ble_eq_true rfl, Nat.le_of_ble_eq_true rfl⟩) ?_
  refine lv_aload_n hx hb dX8_tripTicks_5 rfl (lv_at hl 0 rfl) ?_
  refine va_get (D := (dC, dI)) (ci := 8) (v := .ref (a 1)) (C := RX8) (T := TX8) (N := 6) hx hb hts hinX8 hown hK hP 0 rfl rfl 0 (by decide) hw1 (fun _ h9 => h9) rfl dX8_tripTicks_6 ?_
  refine va_getN (D := (dC, dI)) (ci := 6) (v := .ref (a 7)) (C := RX6) (T := TX6) (N := 5) hx hb hts hinX6 hown hK hP 1 rfl rfl 1 (by decide) (nw10 hNW) (fun _ h9 => h9) rfl dX8_tripTicks_9 ?_
  refine va_getN (D := (dC, dI)) (ci := 2) (v := .ref (a 8)) (C := RX2) (T := TX2) (N := 7) hx hb hts hinX2 hown hK hP 7 rfl rfl 5 (by decide) (nw19 hNW) (fun _ h9 => h9) rfl dX8_tripTicks_12 ?_
  refine lv_iload_n hx hb dX8_tripTicks_15 rfl (lv_at hl 1 rfl) ?_
  obtain ⟨hi, hf⟩ := gd_s hf
  refine va_iald (D := (dC, dI)) (f := (M 8)) hx hb hK hP 8 0 rfl rfl (inb_in hi) dX8_tripTicks_16 ?_
  have e9 := so_e hf
  cases e9
  exact W.iret hx hb hr (fun t ht hW => ⟨rfl, ht⟩) fl0 dX8_tripTicks_17
set_option maxHeartbeats 4000000 in
set_option maxRecDepth 100000 in
theorem t_X8_requireTrip (l : Launch) (hst : l.stackTraces = false) (dC : Nat → ClassId) (dI : Nat → Nat → Nat) (cI cZ cS : ClassId) (f g : Nat → Option Nat) (a : Nat → Nat) (sz : Nat) (M : Mem) (a1 : Int32) (E : String) (hf : fX8_requireTrip M a1 = some (Sum.inl E)) : vx_Met l yX8_requireTrip wsX8_requireTrip ({ frames := 6, cells := 1, slots := 6, locals := 110 } : Room) (va_Pc [.ref (a 0), .int a1] (T8 (dC, dI) cI cZ cS (wX8 cI cZ cS f g a M) sz)) (fun _ _ _ _ => False) (vx_X (S := Unit) (fun _ => True) (fun E' _ t => E' = E ∧ WE (dC, dI) cI cZ (wX8 cI cZ cS f g a M) (va_A (wX8 cI cZ cS f g a M) sz) t) (va_A (wX8 cI cZ cS f g a M) sz)) 1 6 (va_A (wX8 cI cZ cS f g a M) sz) := by
  refine vx_ofW (cc := cX8_requireTrip) (maxL := 2) (ret := none) (by decide) rfl ?_
  intro p e s m args below meth c s₁ B hml htab hv
  obtain ⟨rfl, hsz, hP, hK, hD0, hNW, hEX⟩ := hv
  have hx := B.exec
  have hb := B.bytes
  have hr := B.returns
  have hts := atoms_spec (ws := wsX8_requireTrip) B.pre
  have hown : s.vm.findClass RX8 = some m.cls := findClass_of_methodNamed B.named
  have hlocks := B.notSynchronized
  have hK2 : va_K (dC, dI) vwCl [(cI, .int), (cZ, .boolean)] s := hK.sub (tys' := [(cI, .int), (cZ, .boolean)]) [0, 1] rfl
  have hw0 := hts (.classLink RX8 418 "java/lang/IndexOutOfBoundsException") (by decide +kernel)
  have hw1 := hts (.initialized "java/lang/IndexOutOfBoundsException") (by decide +kernel)
  have hsuf422 : ∀ w ∈ (vx_atS RX8 422 "java/lang/IndexOutOfBoundsException" ["java/lang/RuntimeException", "java/lang/Exception"]).filter goodWord, w.before _ s = true := fun w h => hts w (List.mem_cons_of_mem _ (List.mem_append_right _ h))
  have hinX8 : ∀ w ∈ u_ws RX8 TX8 6, w ∈ wsX8_requireTrip := by decide +kernel
  have hw4 := hts (.fieldLink RX8 12 "GlideShelves" "now" "LGlideShelves$State;") (by decide +kernel)
  have hinX6 : ∀ w ∈ u_ws RX6 TX6 5, w ∈ wsX8_requireTrip := by decide +kernel
  have hinX2 : ∀ w ∈ u_ws RX2 TX2 7, w ∈ wsX8_requireTrip := by decide +kernel
  subst hsz
  have hD := hD0.self (sz := s.heap.size)
  generalize hAe : va_A (wX8 cI cZ cS f g a M) s.heap.size = A at hD hEX ⊢
  have hA : ∀ q : Nat, s.heap.size ≤ q → A q := fun q h => by rw [← hAe]; exact Or.inr h
  have hS : va_S A s.heap s.heap [] := va_S.rf
  have hfX8_requireTrip_B18 : ∀ (_ : Unit), fX8_requireTrip_B18 M  () = some (Sum.inl E) → ∀ (ls : Array Slot), lv_has ls 2 [] → W p l e (headSpec wsX8_requireTrip ({ frames := 6, cells := 1, slots := 6, locals := 110 } : Room)).room s m ([.ref (a 0), .int a1] : List Value).toArray below meth c s.heap [] 0 0 (vx_MQ below (fun _ _ _ _ => False) (vx_X (S := Unit) (fun _ => True) (fun E' _ t => E' = E ∧ WE (dC, dI) cI cZ (wX8 cI cZ cS f g a M) A t) A) ([.ref (a 0), .int a1] : List Value).toArray s 1 6 A) (F0 m 18 ls []) := by
    intro  _ hf ls hl
    unfold fX8_requireTrip_B18 at hf
    have e9 := so_e hf
    cases e9
    obtain ⟨sa, hsa⟩ := hEX.2.2 (RX8, 431, "no such trip is remembered") (List.mem_of_getElem? (i := 27) rfl)
    exact vx_throwSW (cls := "java/lang/IndexOutOfBoundsException") (text := "no such trip is remembered") (names := ["java/lang/RuntimeException", "java/lang/Exception"]) (ik := 418) (is := 431) (ic := 422) (sa := sa) hx hb hst hown (by decide +kernel) (by decide +kernel) hw0 hw1 hsa (hat_422 hsuf422 hNW) (by decide +kernel) hEX.1 hEX.2.1 hS (hl.1.trans hml.symm) dX8_requireTrip_18 dX8_requireTrip_21 dX8_requireTrip_22 dX8_requireTrip_25 dX8_requireTrip_28 (fun x h => (htab x h).elim) (by decide) (by decide) (Nat.le_of_ble_eq_true rfl) (Nat.le_of_ble_eq_true rfl) hlocks (fun t hal hz hk => ⟨(), trivial, ⟨rfl, WE.th hP hD hz hk⟩, S_ext hS hz hk⟩) hS.2.2 (Nat.le_of_ble_eq_true rfl) (Nat.le_of_ble_eq_true rfl)
  have hl := lv_entry ([.ref (a 0), .int a1]) (n := 2) (Nat.le_of_ble_eq_true rfl)
  rw [lg_entry_eq]
  generalize (lg_sl ([.ref (a 0), .int a1]) ++ List.replicate (2 - (lg_sl ([.ref (a 0), .int a1])).length) Slot.unset).toArray = ls at hl ⊢
  have hl : lv_has ls 2 [(0, .ref (a 0)), (1, .int a1)] := hl
  unfold fX8_requireTrip at hf
  refine lv_iload_n hx hb dX8_requireTrip_0 rfl (lv_at hl 1 rfl) ?_
  refine lv_if_lt (tgt := 18) hx hb dX8_requireTrip_1 (by decide) (fun c9 => ?_) (fun c9 => ?_)
  · have hf := it_t hf c9
    exact hfX8_requireTrip_B18  () hf _ (lv_sub hl [] rfl)
  · have hf := it_f hf c9
    refine lv_iload_n hx hb dX8_requireTrip_4 rfl (lv_at hl 1 rfl) ?_
    refine lv_aload_n hx hb dX8_requireTrip_5 rfl (lv_at hl 0 rfl) ?_
    refine va_get (D := (dC, dI)) (ci := 8) (v := .ref (a 1)) (C := RX8) (T := TX8) (N := 6) hx hb hts hinX8 hown hK hP 0 rfl rfl 0 (by decide) hw4 (fun _ h9 => h9) rfl dX8_requireTrip_6 ?_
    refine va_getN (D := (dC, dI)) (ci := 6) (v := .ref (a 7)) (C := RX6) (T := TX6) (N := 5) hx hb hts hinX6 hown hK hP 1 rfl rfl 1 (by decide) (nw10 hNW) (fun _ h9 => h9) rfl dX8_requireTrip_9 ?_
    refine va_getN (D := (dC, dI)) (ci := 2) (v := .int (M 7 4)) (C := RX2) (T := TX2) (N := 7) hx hb hts hinX2 hown hK hP 7 rfl rfl 4 (by decide) (nw18 hNW) (fun _ h9 => h9) rfl dX8_requireTrip_12 ?_
    refine lv_icmp_lt (tgt := 29) hx hb dX8_requireTrip_15 (by decide) (fun c9 => ?_) (fun c9 => ?_)
    · have hf := it_t hf c9
      have e9 := so_e hf
      cases e9
    · have hf := it_f hf c9
      exact hfX8_requireTrip_B18  () hf _ (lv_sub hl [] rfl)
set_option maxHeartbeats 4000000 in
set_option maxRecDepth 100000 in
theorem t_X8_tripTicks (l : Launch) (hst : l.stackTraces = false) (dC : Nat → ClassId) (dI : Nat → Nat → Nat) (cI cZ cS : ClassId) (f g : Nat → Option Nat) (a : Nat → Nat) (sz : Nat) (M : Mem) (a1 : Int32) (E : String) (hf : fX8_tripTicks M a1 = some (Sum.inl E)) : vx_Met l yX8_tripTicks wsX8_tripTicks ({ frames := 7, cells := 1, slots := 6, locals := 131 } : Room) (va_Pc [.ref (a 0), .int a1] (T8 (dC, dI) cI cZ cS (wX8 cI cZ cS f g a M) sz)) (fun _ _ _ _ => False) (vx_X (S := Unit) (fun _ => True) (fun E' _ t => E' = E ∧ WE (dC, dI) cI cZ (wX8 cI cZ cS f g a M) (va_A (wX8 cI cZ cS f g a M) sz) t) (va_A (wX8 cI cZ cS f g a M) sz)) 1 6 (va_A (wX8 cI cZ cS f g a M) sz) := by
  refine vx_ofW (cc := cX8_tripTicks) (maxL := 2) (ret := (some .int)) (by decide) rfl ?_
  intro p e s m args below meth c s₁ B hml htab hv
  obtain ⟨rfl, hsz, hP, hK, hD0, hNW, hEX⟩ := hv
  have hx := B.exec
  have hb := B.bytes
  have hr := B.returns
  have hts := atoms_spec (ws := wsX8_tripTicks) B.pre
  have hown : s.vm.findClass RX8 = some m.cls := findClass_of_methodNamed B.named
  have hlocks := B.notSynchronized
  have hK2 : va_K (dC, dI) vwCl [(cI, .int), (cZ, .boolean)] s := hK.sub (tys' := [(cI, .int), (cZ, .boolean)]) [0, 1] rfl
  have hinX8 : ∀ w ∈ u_ws RX8 TX8 6, w ∈ wsX8_tripTicks := by decide +kernel
  have hw1 := hts (.fieldLink RX8 12 "GlideShelves" "now" "LGlideShelves$State;") (by decide +kernel)
  have hinX6 : ∀ w ∈ u_ws RX6 TX6 5, w ∈ wsX8_tripTicks := by decide +kernel
  have hinX2 : ∀ w ∈ u_ws RX2 TX2 7, w ∈ wsX8_tripTicks := by decide +kernel
  subst hsz
  have hD := hD0.self (sz := s.heap.size)
  generalize hAe : va_A (wX8 cI cZ cS f g a M) s.heap.size = A at hD hEX ⊢
  have hA : ∀ q : Nat, s.heap.size ≤ q → A q := fun q h => by rw [← hAe]; exact Or.inr h
  have hS : va_S A s.heap s.heap [] := va_S.rf
  have hl := lv_entry ([.ref (a 0), .int a1]) (n := 2) (Nat.le_of_ble_eq_true rfl)
  rw [lg_entry_eq]
  generalize (lg_sl ([.ref (a 0), .int a1]) ++ List.replicate (2 - (lg_sl ([.ref (a 0), .int a1])).length) Slot.unset).toArray = ls at hl ⊢
  have hl : lv_has ls 2 [(0, .ref (a 0)), (1, .int a1)] := hl
  unfold fX8_tripTicks at hf
  refine lv_aload_n hx hb dX8_tripTicks_0 rfl (lv_at hl 0 rfl) ?_
  refine lv_iload_n hx hb dX8_tripTicks_1 rfl (lv_at hl 1 rfl) ?_
  obtain ⟨r2, hc2, hf⟩ := bi_s hf
  rcases r2 with E9 | r2
  · have e9 := so_e hf
    cases e9
    have hFc := va_free (wc := (wX8 cI cZ cS f g a M)) hD hS hA [0, 1, 2, 3, 4, 5, 6, 7, 8, 9, 10, 11, 12, 13, 14, 15, 16, 17, 18, 19, 20, 21, 22, 23, 24, 25, 26, 27, 28, 29, 30, 31, 32, 33, 34, 35, 36, 37, 38, 39, 40, 41] rfl
    refine vx_thr (vx_runV (As := [.int a1]) (rest := []) ⟨hx, hb, hml, hown, hts⟩ (t_X8_requireTrip l hst dC dI cI cZ cS f g a _ M a1 _ hc2) (cwV 1 hts gX8_tripTicks_X8_requireTrip rfl rfl rfl (by decide +kernel) ⟨Nat.le_of_ble_eq_true rfl, Nat.le_of_ble_eq_true rfl⟩) ⟨T8.blind, va_recv hK hP (ci := 8) (q0 := 0) rfl rfl, T8.pre hP hK hD hNW (hEX.at hS hFc)⟩ rfl rfl hl.1 rfl (lv_room (Nat.le_of_ble_eq_true rfl)) dX8_tripTicks_2 ⟨Nat.le_of_ble_eq_true rfl, Nat.le_of_ble_eq_true rfl⟩) hS (fun q _ h => hFc q h) hFc (fun ce q9 t H1 locs1 ht hal hP1 hD1 hz1 hS1 hce hcv hcl => ?_)
    exact vx_out (fun x h => (htab x h).elim) hlocks hce hcv hcl (fun t ht hal => ⟨(), trivial, ⟨rfl, WE.mk hP1 (hD1.weaken (fun k q _ h => hFc q.1 h)) ht⟩, hS1.F ht⟩) hS1.2.2 (Nat.le_of_ble_eq_true rfl) (Nat.le_of_ble_eq_true rfl)
  have hf := sel_r hf
  refine cROv (W.runV (As := [.int a1]) (rest := []) ⟨hx, hb, hml, hown, hts⟩ (n_X8_requireTrip l dC dI cI cZ cS f g a M a1  hc2) (cwV 1 hts gX8_tripTicks_X8_requireTrip rfl rfl rfl (by decide +kernel) ⟨Nat.le_of_ble_eq_true rfl, Nat.le_of_ble_eq_true rfl⟩) ⟨RO8.blind, va_recv hK hP (ci := 8) (q0 := 0) rfl rfl, RO8.pre hP hK hNW⟩ rfl rfl hl.1 rfl (lv_room (Nat.le_of_ble_eq_true rfl)) dX8_tripTicks_2 ⟨Nat.le_of_ble_eq_true rfl, Nat.le_of_ble_eq_true rfl⟩) ?_
  refine lv_aload_n hx hb dX8_tripTicks_5 rfl (lv_at hl 0 rfl) ?_
  refine va_get (D := (dC, dI)) (ci := 8) (v := .ref (a 1)) (C := RX8) (T := TX8) (N := 6) hx hb hts hinX8 hown hK hP 0 rfl rfl 0 (by decide) hw1 (fun _ h9 => h9) rfl dX8_tripTicks_6 ?_
  refine va_getN (D := (dC, dI)) (ci := 6) (v := .ref (a 7)) (C := RX6) (T := TX6) (N := 5) hx hb hts hinX6 hown hK hP 1 rfl rfl 1 (by decide) (nw10 hNW) (fun _ h9 => h9) rfl dX8_tripTicks_9 ?_
  refine va_getN (D := (dC, dI)) (ci := 2) (v := .ref (a 8)) (C := RX2) (T := TX2) (N := 7) hx hb hts hinX2 hown hK hP 7 rfl rfl 5 (by decide) (nw19 hNW) (fun _ h9 => h9) rfl dX8_tripTicks_12 ?_
  refine lv_iload_n hx hb dX8_tripTicks_15 rfl (lv_at hl 1 rfl) ?_
  obtain ⟨hi, hf⟩ := gd_s hf
  refine va_iald (D := (dC, dI)) (f := (M 8)) hx hb hK hP 8 0 rfl rfl (inb_in hi) dX8_tripTicks_16 ?_
  have e9 := so_e hf
  cases e9
set_option maxHeartbeats 4000000 in
set_option maxRecDepth 100000 in
theorem n_X8_wasFetch (l : Launch) (dC : Nat → ClassId) (dI : Nat → Nat → Nat) (cI cZ cS : ClassId) (f g : Nat → Option Nat) (a : Nat → Nat) (M : Mem) (a1 : Int32) (z1 : Int32) (hf : fX8_wasFetch M a1 = some (Sum.inr z1)) : Met l yX8_wasFetch wsX8_wasFetch ({ frames := 1, cells := 0, slots := 0, locals := 21 } : Room) (va_Pc [.ref (a 0), .int a1] (RO8 (dC, dI) cI cZ cS (wX8 cI cZ cS f g a M))) (k2_QcV (.int z1)) 0 0 (fun _ => False) := by
  refine Met.ofW (cc := cX8_wasFetch) (maxL := 2) (ret := (some .boolean)) (by decide) rfl ?_
  intro p e s m args below meth c s₁ B hml hv
  obtain ⟨rfl, hP, hK, hNW⟩ := hv
  have hx := B.exec
  have hb := B.bytes
  have hr := B.returns
  have hts := atoms_spec (ws := wsX8_wasFetch) B.pre
  have hown : s.vm.findClass RX8 = some m.cls := findClass_of_methodNamed B.named
  have hlocks := B.notSynchronized
  have hK2 : va_K (dC, dI) vwCl [(cI, .int), (cZ, .boolean)] s := hK.sub (tys' := [(cI, .int), (cZ, .boolean)]) [0, 1] rfl
  have hinX8 : ∀ w ∈ u_ws RX8 TX8 6, w ∈ wsX8_wasFetch := by decide +kernel
  have hw1 := hts (.fieldLink RX8 12 "GlideShelves" "now" "LGlideShelves$State;") (by decide +kernel)
  have hinX6 : ∀ w ∈ u_ws RX6 TX6 5, w ∈ wsX8_wasFetch := by decide +kernel
  have hinX2 : ∀ w ∈ u_ws RX2 TX2 7, w ∈ wsX8_wasFetch := by decide +kernel
  have hl := lv_entry ([.ref (a 0), .int a1]) (n := 2) (Nat.le_of_ble_eq_true rfl)
  rw [lg_entry_eq]
  generalize (lg_sl ([.ref (a 0), .int a1]) ++ List.replicate (2 - (lg_sl ([.ref (a 0), .int a1])).length) Slot.unset).toArray = ls at hl ⊢
  have hl : lv_has ls 2 [(0, .ref (a 0)), (1, .int a1)] := hl
  unfold fX8_wasFetch at hf
  refine lv_aload_n hx hb dX8_wasFetch_0 rfl (lv_at hl 0 rfl) ?_
  refine lv_iload_n hx hb dX8_wasFetch_1 rfl (lv_at hl 1 rfl) ?_
  obtain ⟨r2, hc2, hf⟩ := bi_s hf
  rcases r2 with E9 | r2
  · have e9 := so_e hf
    cases e9
  have hf := sel_r hf
  refine cROv (W.runV (As := [.int a1]) (rest := []) ⟨hx, hb, hml, hown, hts⟩ (n_X8_requireTrip l dC dI cI cZ cS f g a M a1  hc2) (cwV 1 hts gX8_wasFetch_X8_requireTrip rfl rfl rfl (by decide +kernel) ⟨Nat.le_of_ble_eq_true rfl, Nat.le_of_ble_eq_true rfl⟩) ⟨RO8.blind, va_recv hK hP (ci := 8) (q0 := 0) rfl rfl, RO8.pre hP hK hNW⟩ rfl rfl hl.1 rfl (lv_room (Nat.le_of_ble_eq_true rfl)) dX8_wasFetch_2 ⟨Nat.le_of_ble_eq_true rfl, Nat.le_of_ble_eq_true rfl⟩) ?_
  refine lv_aload_n hx hb dX8_wasFetch_5 rfl (lv_at hl 0 rfl) ?_
  refine va_get (D := (dC, dI)) (ci := 8) (v := .ref (a 1)) (C := RX8) (T := TX8) (N := 6) hx hb hts hinX8 hown hK hP 0 rfl rfl 0 (by decide) hw1 (fun _ h9 => h9) rfl dX8_wasFetch_6 ?_
  refine va_getN (D := (dC, dI)) (ci := 6) (v := .ref (a 7)) (C := RX6) (T := TX6) (N := 5) hx hb hts hinX6 hown hK hP 1 rfl rfl 1 (by decide) (nw10 hNW) (fun _ h9 => h9) rfl dX8_wasFetch_9 ?_
  refine va_getN (D := (dC, dI)) (ci := 2) (v := .ref (a 9)) (C := RX2) (T := TX2) (N := 7) hx hb hts hinX2 hown hK hP 7 rfl rfl 6 (by decide) (nw20 hNW) (fun _ h9 => h9) rfl dX8_wasFetch_12 ?_
  refine lv_iload_n hx hb dX8_wasFetch_15 rfl (lv_at hl 1 rfl) ?_
  obtain ⟨hi, hf⟩ := gd_s hf
  refine va_zald (D := (dC, dI)) (f := (M 9)) hx hb hK hP 9 1 rfl rfl (inb_in hi) dX8_wasFetch_16 ?_
  obtain ⟨hz, hf⟩ := gd_s hf
  have e9 := so_e hf
  cases e9
  exact W.zret hx hb hr (isb_nar hz) (fun t ht hW => ⟨rfl, ht⟩) fl0 dX8_wasFetch_17
set_option maxHeartbeats 4000000 in
set_option maxRecDepth 100000 in
theorem t_X8_wasFetch (l : Launch) (hst : l.stackTraces = false) (dC : Nat → ClassId) (dI : Nat → Nat → Nat) (cI cZ cS : ClassId) (f g : Nat → Option Nat) (a : Nat → Nat) (sz : Nat) (M : Mem) (a1 : Int32) (E : String) (hf : fX8_wasFetch M a1 = some (Sum.inl E)) : vx_Met l yX8_wasFetch wsX8_wasFetch ({ frames := 7, cells := 1, slots := 6, locals := 131 } : Room) (va_Pc [.ref (a 0), .int a1] (T8 (dC, dI) cI cZ cS (wX8 cI cZ cS f g a M) sz)) (fun _ _ _ _ => False) (vx_X (S := Unit) (fun _ => True) (fun E' _ t => E' = E ∧ WE (dC, dI) cI cZ (wX8 cI cZ cS f g a M) (va_A (wX8 cI cZ cS f g a M) sz) t) (va_A (wX8 cI cZ cS f g a M) sz)) 1 6 (va_A (wX8 cI cZ cS f g a M) sz) := by
  refine vx_ofW (cc := cX8_wasFetch) (maxL := 2) (ret := (some .boolean)) (by decide) rfl ?_
  intro p e s m args below meth c s₁ B hml htab hv
  obtain ⟨rfl, hsz, hP, hK, hD0, hNW, hEX⟩ := hv
  have hx := B.exec
  have hb := B.bytes
  have hr := B.returns
  have hts := atoms_spec (ws := wsX8_wasFetch) B.pre
  have hown : s.vm.findClass RX8 = some m.cls := findClass_of_methodNamed B.named
  have hlocks := B.notSynchronized
  have hK2 : va_K (dC, dI) vwCl [(cI, .int), (cZ, .boolean)] s := hK.sub (tys' := [(cI, .int), (cZ, .boolean)]) [0, 1] rfl
  have hinX8 : ∀ w ∈ u_ws RX8 TX8 6, w ∈ wsX8_wasFetch := by decide +kernel
  have hw1 := hts (.fieldLink RX8 12 "GlideShelves" "now" "LGlideShelves$State;") (by decide +kernel)
  have hinX6 : ∀ w ∈ u_ws RX6 TX6 5, w ∈ wsX8_wasFetch := by decide +kernel
  have hinX2 : ∀ w ∈ u_ws RX2 TX2 7, w ∈ wsX8_wasFetch := by decide +kernel
  subst hsz
  have hD := hD0.self (sz := s.heap.size)
  generalize hAe : va_A (wX8 cI cZ cS f g a M) s.heap.size = A at hD hEX ⊢
  have hA : ∀ q : Nat, s.heap.size ≤ q → A q := fun q h => by rw [← hAe]; exact Or.inr h
  have hS : va_S A s.heap s.heap [] := va_S.rf
  have hl := lv_entry ([.ref (a 0), .int a1]) (n := 2) (Nat.le_of_ble_eq_true rfl)
  rw [lg_entry_eq]
  generalize (lg_sl ([.ref (a 0), .int a1]) ++ List.replicate (2 - (lg_sl ([.ref (a 0), .int a1])).length) Slot.unset).toArray = ls at hl ⊢
  have hl : lv_has ls 2 [(0, .ref (a 0)), (1, .int a1)] := hl
  unfold fX8_wasFetch at hf
  refine lv_aload_n hx hb dX8_wasFetch_0 rfl (lv_at hl 0 rfl) ?_
  refine lv_iload_n hx hb dX8_wasFetch_1 rfl (lv_at hl 1 rfl) ?_
  obtain ⟨r2, hc2, hf⟩ := bi_s hf
  rcases r2 with E9 | r2
  · have e9 := so_e hf
    cases e9
    have hFc := va_free (wc := (wX8 cI cZ cS f g a M)) hD hS hA [0, 1, 2, 3, 4, 5, 6, 7, 8, 9, 10, 11, 12, 13, 14, 15, 16, 17, 18, 19, 20, 21, 22, 23, 24, 25, 26, 27, 28, 29, 30, 31, 32, 33, 34, 35, 36, 37, 38, 39, 40, 41] rfl
    refine vx_thr (vx_runV (As := [.int a1]) (rest := []) ⟨hx, hb, hml, hown, hts⟩ (t_X8_requireTrip l hst dC dI cI cZ cS f g a _ M a1 _ hc2) (cwV 1 hts gX8_wasFetch_X8_requireTrip rfl rfl rfl (by decide +kernel) ⟨Nat.le_of_ble_eq_true rfl, Nat.le_of_ble_eq_true rfl⟩) ⟨T8.blind, va_recv hK hP (ci := 8) (q0 := 0) rfl rfl, T8.pre hP hK hD hNW (hEX.at hS hFc)⟩ rfl rfl hl.1 rfl (lv_room (Nat.le_of_ble_eq_true rfl)) dX8_wasFetch_2 ⟨Nat.le_of_ble_eq_true rfl, Nat.le_of_ble_eq_true rfl⟩) hS (fun q _ h => hFc q h) hFc (fun ce q9 t H1 locs1 ht hal hP1 hD1 hz1 hS1 hce hcv hcl => ?_)
    exact vx_out (fun x h => (htab x h).elim) hlocks hce hcv hcl (fun t ht hal => ⟨(), trivial, ⟨rfl, WE.mk hP1 (hD1.weaken (fun k q _ h => hFc q.1 h)) ht⟩, hS1.F ht⟩) hS1.2.2 (Nat.le_of_ble_eq_true rfl) (Nat.le_of_ble_eq_true rfl)
  have hf := sel_r hf
  refine cROv (W.runV (As := [.int a1]) (rest := []) ⟨hx, hb, hml, hown, hts⟩ (n_X8_requireTrip l dC dI cI cZ cS f g a M a1  hc2) (cwV 1 hts gX8_wasFetch_X8_requireTrip rfl rfl rfl (by decide +kernel) ⟨Nat.le_of_ble_eq_true rfl, Nat.le_of_ble_eq_true rfl⟩) ⟨RO8.blind, va_recv hK hP (ci := 8) (q0 := 0) rfl rfl, RO8.pre hP hK hNW⟩ rfl rfl hl.1 rfl (lv_room (Nat.le_of_ble_eq_true rfl)) dX8_wasFetch_2 ⟨Nat.le_of_ble_eq_true rfl, Nat.le_of_ble_eq_true rfl⟩) ?_
  refine lv_aload_n hx hb dX8_wasFetch_5 rfl (lv_at hl 0 rfl) ?_
  refine va_get (D := (dC, dI)) (ci := 8) (v := .ref (a 1)) (C := RX8) (T := TX8) (N := 6) hx hb hts hinX8 hown hK hP 0 rfl rfl 0 (by decide) hw1 (fun _ h9 => h9) rfl dX8_wasFetch_6 ?_
  refine va_getN (D := (dC, dI)) (ci := 6) (v := .ref (a 7)) (C := RX6) (T := TX6) (N := 5) hx hb hts hinX6 hown hK hP 1 rfl rfl 1 (by decide) (nw10 hNW) (fun _ h9 => h9) rfl dX8_wasFetch_9 ?_
  refine va_getN (D := (dC, dI)) (ci := 2) (v := .ref (a 9)) (C := RX2) (T := TX2) (N := 7) hx hb hts hinX2 hown hK hP 7 rfl rfl 6 (by decide) (nw20 hNW) (fun _ h9 => h9) rfl dX8_wasFetch_12 ?_
  refine lv_iload_n hx hb dX8_wasFetch_15 rfl (lv_at hl 1 rfl) ?_
  obtain ⟨hi, hf⟩ := gd_s hf
  refine va_zald (D := (dC, dI)) (f := (M 9)) hx hb hK hP 9 1 rfl rfl (inb_in hi) dX8_wasFetch_16 ?_
  obtain ⟨hz, hf⟩ := gd_s hf
  have e9 := so_e hf
  cases e9
set_option maxHeartbeats 4000000 in
set_option maxRecDepth 100000 in
theorem n_X8_weightOfKind (l : Launch) (dC : Nat → ClassId) (dI : Nat → Nat → Nat) (cI cZ cS : ClassId) (f g : Nat → Option Nat) (a : Nat → Nat) (M : Mem) (a1 : Int32) (z1 : Int32) (hf : fX8_weightOfKind M a1 = some (Sum.inr z1)) : Met l yX8_weightOfKind wsX8_weightOfKind ({ frames := 1, cells := 0, slots := 0, locals := 21 } : Room) (va_Pc [.ref (a 0), .int a1] (RO8 (dC, dI) cI cZ cS (wX8 cI cZ cS f g a M))) (k2_QcV (.int z1)) 0 0 (fun _ => False) := by
  refine Met.ofW (cc := cX8_weightOfKind) (maxL := 2) (ret := (some .int)) (by decide) rfl ?_
  intro p e s m args below meth c s₁ B hml hv
  obtain ⟨rfl, hP, hK, hNW⟩ := hv
  have hx := B.exec
  have hb := B.bytes
  have hr := B.returns
  have hts := atoms_spec (ws := wsX8_weightOfKind) B.pre
  have hown : s.vm.findClass RX8 = some m.cls := findClass_of_methodNamed B.named
  have hlocks := B.notSynchronized
  have hK2 : va_K (dC, dI) vwCl [(cI, .int), (cZ, .boolean)] s := hK.sub (tys' := [(cI, .int), (cZ, .boolean)]) [0, 1] rfl
  have hinX8 : ∀ w ∈ u_ws RX8 TX8 6, w ∈ wsX8_weightOfKind := by decide +kernel
  have hw1 := hts (.fieldLink RX8 12 "GlideShelves" "now" "LGlideShelves$State;") (by decide +kernel)
  have hinX6 : ∀ w ∈ u_ws RX6 TX6 5, w ∈ wsX8_weightOfKind := by decide +kernel
  have hinX0 : ∀ w ∈ u_ws RX0 TX0 4, w ∈ wsX8_weightOfKind := by decide +kernel
  have hl := lv_entry ([.ref (a 0), .int a1]) (n := 2) (Nat.le_of_ble_eq_true rfl)
  rw [lg_entry_eq]
  generalize (lg_sl ([.ref (a 0), .int a1]) ++ List.replicate (2 - (lg_sl ([.ref (a 0), .int a1])).length) Slot.unset).toArray = ls at hl ⊢
  have hl : lv_has ls 2 [(0, .ref (a 0)), (1, .int a1)] := hl
  unfold fX8_weightOfKind at hf
  refine lv_aload_n hx hb dX8_weightOfKind_0 rfl (lv_at hl 0 rfl) ?_
  refine lv_iload_n hx hb dX8_weightOfKind_1 rfl (lv_at hl 1 rfl) ?_
  obtain ⟨r2, hc2, hf⟩ := bi_s hf
  rcases r2 with E9 | r2
  · have e9 := so_e hf
    cases e9
  have hf := sel_r hf
  refine cROv (W.runV (As := [.int a1]) (rest := []) ⟨hx, hb, hml, hown, hts⟩ (n_X8_requireKind l dC dI cI cZ cS f g a M a1  hc2) (cwV 1 hts gX8_weightOfKind_X8_requireKind rfl rfl rfl (by decide +kernel) ⟨Nat.le_of_ble_eq_true rfl, Nat.le_of_ble_eq_true rfl⟩) ⟨RO8.blind, va_recv hK hP (ci := 8) (q0 := 0) rfl rfl, RO8.pre hP hK hNW⟩ rfl rfl hl.1 rfl (lv_room (Nat.le_of_ble_eq_true rfl)) dX8_weightOfKind_2 ⟨Nat.le_of_ble_eq_true rfl, Nat.le_of_ble_eq_true rfl⟩) ?_
  refine lv_aload_n hx hb dX8_weightOfKind_5 rfl (lv_at hl 0 rfl) ?_
  refine va_get (D := (dC, dI)) (ci := 8) (v := .ref (a 1)) (C := RX8) (T := TX8) (N := 6) hx hb hts hinX8 hown hK hP 0 rfl rfl 0 (by decide) hw1 (fun _ h9 => h9) rfl dX8_weightOfKind_6 ?_
  refine va_getN (D := (dC, dI)) (ci := 6) (v := .ref (a 10)) (C := RX6) (T := TX6) (N := 5) hx hb hts hinX6 hown hK hP 1 rfl rfl 2 (by decide) (nw0 hNW) (fun _ h9 => h9) rfl dX8_weightOfKind_9 ?_
  refine va_getN (D := (dC, dI)) (ci := 0) (v := .ref (a 11)) (C := RX0) (T := TX0) (N := 4) hx hb hts hinX0 hown hK hP 10 rfl rfl 0 (by decide) (nw1 hNW) (fun _ h9 => h9) rfl dX8_weightOfKind_12 ?_
  refine lv_iload_n hx hb dX8_weightOfKind_15 rfl (lv_at hl 1 rfl) ?_
  obtain ⟨hi, hf⟩ := gd_s hf
  refine va_iald (D := (dC, dI)) (f := (M 11)) hx hb hK hP 11 0 rfl rfl (inb_in hi) dX8_weightOfKind_16 ?_
  have e9 := so_e hf
  cases e9
  exact W.iret hx hb hr (fun t ht hW => ⟨rfl, ht⟩) fl0 dX8_weightOfKind_17
set_option maxHeartbeats 4000000 in
set_option maxRecDepth 100000 in
theorem t_X8_weightOfKind (l : Launch) (hst : l.stackTraces = false) (dC : Nat → ClassId) (dI : Nat → Nat → Nat) (cI cZ cS : ClassId) (f g : Nat → Option Nat) (a : Nat → Nat) (sz : Nat) (M : Mem) (a1 : Int32) (E : String) (hf : fX8_weightOfKind M a1 = some (Sum.inl E)) : vx_Met l yX8_weightOfKind wsX8_weightOfKind ({ frames := 7, cells := 1, slots := 6, locals := 131 } : Room) (va_Pc [.ref (a 0), .int a1] (T8 (dC, dI) cI cZ cS (wX8 cI cZ cS f g a M) sz)) (fun _ _ _ _ => False) (vx_X (S := Unit) (fun _ => True) (fun E' _ t => E' = E ∧ WE (dC, dI) cI cZ (wX8 cI cZ cS f g a M) (va_A (wX8 cI cZ cS f g a M) sz) t) (va_A (wX8 cI cZ cS f g a M) sz)) 1 6 (va_A (wX8 cI cZ cS f g a M) sz) := by
  refine vx_ofW (cc := cX8_weightOfKind) (maxL := 2) (ret := (some .int)) (by decide) rfl ?_
  intro p e s m args below meth c s₁ B hml htab hv
  obtain ⟨rfl, hsz, hP, hK, hD0, hNW, hEX⟩ := hv
  have hx := B.exec
  have hb := B.bytes
  have hr := B.returns
  have hts := atoms_spec (ws := wsX8_weightOfKind) B.pre
  have hown : s.vm.findClass RX8 = some m.cls := findClass_of_methodNamed B.named
  have hlocks := B.notSynchronized
  have hK2 : va_K (dC, dI) vwCl [(cI, .int), (cZ, .boolean)] s := hK.sub (tys' := [(cI, .int), (cZ, .boolean)]) [0, 1] rfl
  have hinX8 : ∀ w ∈ u_ws RX8 TX8 6, w ∈ wsX8_weightOfKind := by decide +kernel
  have hw1 := hts (.fieldLink RX8 12 "GlideShelves" "now" "LGlideShelves$State;") (by decide +kernel)
  have hinX6 : ∀ w ∈ u_ws RX6 TX6 5, w ∈ wsX8_weightOfKind := by decide +kernel
  have hinX0 : ∀ w ∈ u_ws RX0 TX0 4, w ∈ wsX8_weightOfKind := by decide +kernel
  subst hsz
  have hD := hD0.self (sz := s.heap.size)
  generalize hAe : va_A (wX8 cI cZ cS f g a M) s.heap.size = A at hD hEX ⊢
  have hA : ∀ q : Nat, s.heap.size ≤ q → A q := fun q h => by rw [← hAe]; exact Or.inr h
  have hS : va_S A s.heap s.heap [] := va_S.rf
  have hl := lv_entry ([.ref (a 0), .int a1]) (n := 2) (Nat.le_of_ble_eq_true rfl)
  rw [lg_entry_eq]
  generalize (lg_sl ([.ref (a 0), .int a1]) ++ List.replicate (2 - (lg_sl ([.ref (a 0), .int a1])).length) Slot.unset).toArray = ls at hl ⊢
  have hl : lv_has ls 2 [(0, .ref (a 0)), (1, .int a1)] := hl
  unfold fX8_weightOfKind at hf
  refine lv_aload_n hx hb dX8_weightOfKind_0 rfl (lv_at hl 0 rfl) ?_
  refine lv_iload_n hx hb dX8_weightOfKind_1 rfl (lv_at hl 1 rfl) ?_
  obtain ⟨r2, hc2, hf⟩ := bi_s hf
  rcases r2 with E9 | r2
  · have e9 := so_e hf
    cases e9
    have hFc := va_free (wc := (wX8 cI cZ cS f g a M)) hD hS hA [0, 1, 2, 3, 4, 5, 6, 7, 8, 9, 10, 11, 12, 13, 14, 15, 16, 17, 18, 19, 20, 21, 22, 23, 24, 25, 26, 27, 28, 29, 30, 31, 32, 33, 34, 35, 36, 37, 38, 39, 40, 41] rfl
    refine vx_thr (vx_runV (As := [.int a1]) (rest := []) ⟨hx, hb, hml, hown, hts⟩ (t_X8_requireKind l hst dC dI cI cZ cS f g a _ M a1 _ hc2) (cwV 1 hts gX8_weightOfKind_X8_requireKind rfl rfl rfl (by decide +kernel) ⟨Nat.le_of_ble_eq_true rfl, Nat.le_of_ble_eq_true rfl⟩) ⟨T8.blind, va_recv hK hP (ci := 8) (q0 := 0) rfl rfl, T8.pre hP hK hD hNW (hEX.at hS hFc)⟩ rfl rfl hl.1 rfl (lv_room (Nat.le_of_ble_eq_true rfl)) dX8_weightOfKind_2 ⟨Nat.le_of_ble_eq_true rfl, Nat.le_of_ble_eq_true rfl⟩) hS (fun q _ h => hFc q h) hFc (fun ce q9 t H1 locs1 ht hal hP1 hD1 hz1 hS1 hce hcv hcl => ?_)
    exact vx_out (fun x h => (htab x h).elim) hlocks hce hcv hcl (fun t ht hal => ⟨(), trivial, ⟨rfl, WE.mk hP1 (hD1.weaken (fun k q _ h => hFc q.1 h)) ht⟩, hS1.F ht⟩) hS1.2.2 (Nat.le_of_ble_eq_true rfl) (Nat.le_of_ble_eq_true rfl)
  have hf := sel_r hf
  refine cROv (W.runV (As := [.int a1]) (rest := []) ⟨hx, hb, hml, hown, hts⟩ (n_X8_requireKind l dC dI cI cZ cS f g a M a1  hc2) (cwV 1 hts gX8_weightOfKind_X8_requireKind rfl rfl rfl (by decide +kernel) ⟨Nat.le_of_ble_eq_true rfl, Nat.le_of_ble_eq_true rfl⟩) ⟨RO8.blind, va_recv hK hP (ci := 8) (q0 := 0) rfl rfl, RO8.pre hP hK hNW⟩ rfl rfl hl.1 rfl (lv_room (Nat.le_of_ble_eq_true rfl)) dX8_weightOfKind_2 ⟨Nat.le_of_ble_eq_true rfl, Nat.le_of_ble_eq_true rfl⟩) ?_
  refine lv_aload_n hx hb dX8_weightOfKind_5 rfl (lv_at hl 0 rfl) ?_
  refine va_get (D := (dC, dI)) (ci := 8) (v := .ref (a 1)) (C := RX8) (T := TX8) (N := 6) hx hb hts hinX8 hown hK hP 0 rfl rfl 0 (by decide) hw1 (fun _ h9 => h9) rfl dX8_weightOfKind_6 ?_
  refine va_getN (D := (dC, dI)) (ci := 6) (v := .ref (a 10)) (C := RX6) (T := TX6) (N := 5) hx hb hts hinX6 hown hK hP 1 rfl rfl 2 (by decide) (nw0 hNW) (fun _ h9 => h9) rfl dX8_weightOfKind_9 ?_
  refine va_getN (D := (dC, dI)) (ci := 0) (v := .ref (a 11)) (C := RX0) (T := TX0) (N := 4) hx hb hts hinX0 hown hK hP 10 rfl rfl 0 (by decide) (nw1 hNW) (fun _ h9 => h9) rfl dX8_weightOfKind_12 ?_
  refine lv_iload_n hx hb dX8_weightOfKind_15 rfl (lv_at hl 1 rfl) ?_
  obtain ⟨hi, hf⟩ := gd_s hf
  refine va_iald (D := (dC, dI)) (f := (M 11)) hx hb hK hP 11 0 rfl rfl (inb_in hi) dX8_weightOfKind_16 ?_
  have e9 := so_e hf
  cases e9
set_option maxHeartbeats 4000000 in
set_option maxRecDepth 100000 in
theorem n_X8_stockByShelves (l : Launch) (dC : Nat → ClassId) (dI : Nat → Nat → Nat) (cI cZ cS : ClassId) (f g : Nat → Option Nat) (a : Nat → Nat) (M : Mem) (a1 : Int32) (z1 : Int32) (hf : fX8_stockByShelves M a1 = some (Sum.inr z1)) : Met l yX8_stockByShelves wsX8_stockByShelves ({ frames := 2, cells := 0, slots := 0, locals := 45 } : Room) (va_Pc [.ref (a 0), .int a1] (RO8 (dC, dI) cI cZ cS (wX8 cI cZ cS f g a M))) (k2_QcV (.int z1)) 0 0 (fun _ => False) := by
  refine Met.ofW (cc := cX8_stockByShelves) (maxL := 2) (ret := (some .int)) (by decide) rfl ?_
  intro p e s m args below meth c s₁ B hml hv
  obtain ⟨rfl, hP, hK, hNW⟩ := hv
  have hx := B.exec
  have hb := B.bytes
  have hr := B.returns
  have hts := atoms_spec (ws := wsX8_stockByShelves) B.pre
  have hown : s.vm.findClass RX8 = some m.cls := findClass_of_methodNamed B.named
  have hlocks := B.notSynchronized
  have hK2 : va_K (dC, dI) vwCl [(cI, .int), (cZ, .boolean)] s := hK.sub (tys' := [(cI, .int), (cZ, .boolean)]) [0, 1] rfl
  have hinX8 : ∀ w ∈ u_ws RX8 TX8 6, w ∈ wsX8_stockByShelves := by decide +kernel
  have hw1 := hts (.fieldLink RX8 12 "GlideShelves" "now" "LGlideShelves$State;") (by decide +kernel)
  have hinX6 : ∀ w ∈ u_ws RX6 TX6 5, w ∈ wsX8_stockByShelves := by decide +kernel
  have hw3 := hts (.initialized RX7) (by decide +kernel)
  have hw4 := hts (.instanceMethod yX7_stockOf) (by decide +kernel)
  have hw5 := hts (.selects RX7 yX7_stockOf yX7_stockOf) (by decide +kernel)
  have hl := lv_entry ([.ref (a 0), .int a1]) (n := 2) (Nat.le_of_ble_eq_true rfl)
  rw [lg_entry_eq]
  generalize (lg_sl ([.ref (a 0), .int a1]) ++ List.replicate (2 - (lg_sl ([.ref (a 0), .int a1])).length) Slot.unset).toArray = ls at hl ⊢
  have hl : lv_has ls 2 [(0, .ref (a 0)), (1, .int a1)] := hl
  unfold fX8_stockByShelves at hf
  refine lv_aload_n hx hb dX8_stockByShelves_0 rfl (lv_at hl 0 rfl) ?_
  refine lv_iload_n hx hb dX8_stockByShelves_1 rfl (lv_at hl 1 rfl) ?_
  obtain ⟨r2, hc2, hf⟩ := bi_s hf
  rcases r2 with E9 | r2
  · have e9 := so_e hf
    cases e9
  have hf := sel_r hf
  refine cROv (W.runV (As := [.int a1]) (rest := []) ⟨hx, hb, hml, hown, hts⟩ (n_X8_requireKind l dC dI cI cZ cS f g a M a1  hc2) (cwV 1 hts gX8_stockByShelves_X8_requireKind rfl rfl rfl (by decide +kernel) ⟨Nat.le_of_ble_eq_true rfl, Nat.le_of_ble_eq_true rfl⟩) ⟨RO8.blind, va_recv hK hP (ci := 8) (q0 := 0) rfl rfl, RO8.pre hP hK hNW⟩ rfl rfl hl.1 rfl (lv_room (Nat.le_of_ble_eq_true rfl)) dX8_stockByShelves_2 ⟨Nat.le_of_ble_eq_true rfl, Nat.le_of_ble_eq_true rfl⟩) ?_
  refine lv_aload_n hx hb dX8_stockByShelves_5 rfl (lv_at hl 0 rfl) ?_
  refine va_get (D := (dC, dI)) (ci := 8) (v := .ref (a 1)) (C := RX8) (T := TX8) (N := 6) hx hb hts hinX8 hown hK hP 0 rfl rfl 0 (by decide) hw1 (fun _ h9 => h9) rfl dX8_stockByShelves_6 ?_
  refine va_getN (D := (dC, dI)) (ci := 6) (v := .ref (a 2)) (C := RX6) (T := TX6) (N := 5) hx hb hts hinX6 hown hK hP 1 rfl rfl 0 (by decide) (nw24 hNW) (fun _ h9 => h9) rfl dX8_stockByShelves_9 ?_
  refine lv_iload_n hx hb dX8_stockByShelves_12 rfl (lv_at hl 1 rfl) ?_
  obtain ⟨r13, hc13, hf⟩ := bi_s hf
  have hPc := hP.sub (ws' := (wX7 cI cZ (ofs 2 a) (ofs 2 M))) [2, 3, 4, 5, 6] rfl
  refine cRO (va_Run.run (va_runVN (As := [.int a1]) (rest := []) ⟨hx, hb, hml, hown, hts⟩ (c_X7_stockOf l dC dI cI cZ (ofs 2 a) (ofs 2 M) a1 r13 hc13) ⟨va_cnB 1 hts gX8_stockByShelves_X7_stockOf_n317 rfl rfl rfl (nw69 hNW) hw3 (by decide +kernel) ⟨Nat.le_of_ble_eq_true rfl, Nat.le_of_ble_eq_true rfl⟩, hw4, hw5⟩ ⟨RO.blind, va_recv hK hP (ci := 7) (q0 := 2) rfl rfl, RO.pre hPc hK2 hNW⟩ rfl rfl hl.1 rfl (lv_room (Nat.le_of_ble_eq_true rfl)) dX8_stockByShelves_13 ⟨Nat.le_of_ble_eq_true rfl, Nat.le_of_ble_eq_true rfl⟩)) ?_
  have e9 := so_e hf
  cases e9
  exact W.iret hx hb hr (fun t ht hW => ⟨rfl, ht⟩) fl0 dX8_stockByShelves_16
set_option maxHeartbeats 4000000 in
set_option maxRecDepth 100000 in
theorem t_X8_stockByShelves (l : Launch) (hst : l.stackTraces = false) (dC : Nat → ClassId) (dI : Nat → Nat → Nat) (cI cZ cS : ClassId) (f g : Nat → Option Nat) (a : Nat → Nat) (sz : Nat) (M : Mem) (a1 : Int32) (E : String) (hf : fX8_stockByShelves M a1 = some (Sum.inl E)) : vx_Met l yX8_stockByShelves wsX8_stockByShelves ({ frames := 7, cells := 1, slots := 6, locals := 131 } : Room) (va_Pc [.ref (a 0), .int a1] (T8 (dC, dI) cI cZ cS (wX8 cI cZ cS f g a M) sz)) (fun _ _ _ _ => False) (vx_X (S := Unit) (fun _ => True) (fun E' _ t => E' = E ∧ WE (dC, dI) cI cZ (wX8 cI cZ cS f g a M) (va_A (wX8 cI cZ cS f g a M) sz) t) (va_A (wX8 cI cZ cS f g a M) sz)) 1 6 (va_A (wX8 cI cZ cS f g a M) sz) := by
  refine vx_ofW (cc := cX8_stockByShelves) (maxL := 2) (ret := (some .int)) (by decide) rfl ?_
  intro p e s m args below meth c s₁ B hml htab hv
  obtain ⟨rfl, hsz, hP, hK, hD0, hNW, hEX⟩ := hv
  have hx := B.exec
  have hb := B.bytes
  have hr := B.returns
  have hts := atoms_spec (ws := wsX8_stockByShelves) B.pre
  have hown : s.vm.findClass RX8 = some m.cls := findClass_of_methodNamed B.named
  have hlocks := B.notSynchronized
  have hK2 : va_K (dC, dI) vwCl [(cI, .int), (cZ, .boolean)] s := hK.sub (tys' := [(cI, .int), (cZ, .boolean)]) [0, 1] rfl
  have hinX8 : ∀ w ∈ u_ws RX8 TX8 6, w ∈ wsX8_stockByShelves := by decide +kernel
  have hw1 := hts (.fieldLink RX8 12 "GlideShelves" "now" "LGlideShelves$State;") (by decide +kernel)
  have hinX6 : ∀ w ∈ u_ws RX6 TX6 5, w ∈ wsX8_stockByShelves := by decide +kernel
  have hw3 := hts (.initialized RX7) (by decide +kernel)
  have hw4 := hts (.instanceMethod yX7_stockOf) (by decide +kernel)
  have hw5 := hts (.selects RX7 yX7_stockOf yX7_stockOf) (by decide +kernel)
  subst hsz
  have hD := hD0.self (sz := s.heap.size)
  generalize hAe : va_A (wX8 cI cZ cS f g a M) s.heap.size = A at hD hEX ⊢
  have hA : ∀ q : Nat, s.heap.size ≤ q → A q := fun q h => by rw [← hAe]; exact Or.inr h
  have hS : va_S A s.heap s.heap [] := va_S.rf
  have hl := lv_entry ([.ref (a 0), .int a1]) (n := 2) (Nat.le_of_ble_eq_true rfl)
  rw [lg_entry_eq]
  generalize (lg_sl ([.ref (a 0), .int a1]) ++ List.replicate (2 - (lg_sl ([.ref (a 0), .int a1])).length) Slot.unset).toArray = ls at hl ⊢
  have hl : lv_has ls 2 [(0, .ref (a 0)), (1, .int a1)] := hl
  unfold fX8_stockByShelves at hf
  refine lv_aload_n hx hb dX8_stockByShelves_0 rfl (lv_at hl 0 rfl) ?_
  refine lv_iload_n hx hb dX8_stockByShelves_1 rfl (lv_at hl 1 rfl) ?_
  obtain ⟨r2, hc2, hf⟩ := bi_s hf
  rcases r2 with E9 | r2
  · have e9 := so_e hf
    cases e9
    have hFc := va_free (wc := (wX8 cI cZ cS f g a M)) hD hS hA [0, 1, 2, 3, 4, 5, 6, 7, 8, 9, 10, 11, 12, 13, 14, 15, 16, 17, 18, 19, 20, 21, 22, 23, 24, 25, 26, 27, 28, 29, 30, 31, 32, 33, 34, 35, 36, 37, 38, 39, 40, 41] rfl
    refine vx_thr (vx_runV (As := [.int a1]) (rest := []) ⟨hx, hb, hml, hown, hts⟩ (t_X8_requireKind l hst dC dI cI cZ cS f g a _ M a1 _ hc2) (cwV 1 hts gX8_stockByShelves_X8_requireKind rfl rfl rfl (by decide +kernel) ⟨Nat.le_of_ble_eq_true rfl, Nat.le_of_ble_eq_true rfl⟩) ⟨T8.blind, va_recv hK hP (ci := 8) (q0 := 0) rfl rfl, T8.pre hP hK hD hNW (hEX.at hS hFc)⟩ rfl rfl hl.1 rfl (lv_room (Nat.le_of_ble_eq_true rfl)) dX8_stockByShelves_2 ⟨Nat.le_of_ble_eq_true rfl, Nat.le_of_ble_eq_true rfl⟩) hS (fun q _ h => hFc q h) hFc (fun ce q9 t H1 locs1 ht hal hP1 hD1 hz1 hS1 hce hcv hcl => ?_)
    exact vx_out (fun x h => (htab x h).elim) hlocks hce hcv hcl (fun t ht hal => ⟨(), trivial, ⟨rfl, WE.mk hP1 (hD1.weaken (fun k q _ h => hFc q.1 h)) ht⟩, hS1.F ht⟩) hS1.2.2 (Nat.le_of_ble_eq_true rfl) (Nat.le_of_ble_eq_true rfl)
  have hf := sel_r hf
  refine cROv (W.runV (As := [.int a1]) (rest := []) ⟨hx, hb, hml, hown, hts⟩ (n_X8_requireKind l dC dI cI cZ cS f g a M a1  hc2) (cwV 1 hts gX8_stockByShelves_X8_requireKind rfl rfl rfl (by decide +kernel) ⟨Nat.le_of_ble_eq_true rfl, Nat.le_of_ble_eq_true rfl⟩) ⟨RO8.blind, va_recv hK hP (ci := 8) (q0 := 0) rfl rfl, RO8.pre hP hK hNW⟩ rfl rfl hl.1 rfl (lv_room (Nat.le_of_ble_eq_true rfl)) dX8_stockByShelves_2 ⟨Nat.le_of_ble_eq_true rfl, Nat.le_of_ble_eq_true rfl⟩) ?_
  refine lv_aload_n hx hb dX8_stockByShelves_5 rfl (lv_at hl 0 rfl) ?_
  refine va_get (D := (dC, dI)) (ci := 8) (v := .ref (a 1)) (C := RX8) (T := TX8) (N := 6) hx hb hts hinX8 hown hK hP 0 rfl rfl 0 (by decide) hw1 (fun _ h9 => h9) rfl dX8_stockByShelves_6 ?_
  refine va_getN (D := (dC, dI)) (ci := 6) (v := .ref (a 2)) (C := RX6) (T := TX6) (N := 5) hx hb hts hinX6 hown hK hP 1 rfl rfl 0 (by decide) (nw24 hNW) (fun _ h9 => h9) rfl dX8_stockByShelves_9 ?_
  refine lv_iload_n hx hb dX8_stockByShelves_12 rfl (lv_at hl 1 rfl) ?_
  obtain ⟨r13, hc13, hf⟩ := bi_s hf
  have hPc := hP.sub (ws' := (wX7 cI cZ (ofs 2 a) (ofs 2 M))) [2, 3, 4, 5, 6] rfl
  refine cRO (va_Run.run (va_runVN (As := [.int a1]) (rest := []) ⟨hx, hb, hml, hown, hts⟩ (c_X7_stockOf l dC dI cI cZ (ofs 2 a) (ofs 2 M) a1 r13 hc13) ⟨va_cnB 1 hts gX8_stockByShelves_X7_stockOf_n317 rfl rfl rfl (nw69 hNW) hw3 (by decide +kernel) ⟨Nat.le_of_ble_eq_true rfl, Nat.le_of_ble_eq_true rfl⟩, hw4, hw5⟩ ⟨RO.blind, va_recv hK hP (ci := 7) (q0 := 2) rfl rfl, RO.pre hPc hK2 hNW⟩ rfl rfl hl.1 rfl (lv_room (Nat.le_of_ble_eq_true rfl)) dX8_stockByShelves_13 ⟨Nat.le_of_ble_eq_true rfl, Nat.le_of_ble_eq_true rfl⟩)) ?_
  have e9 := so_e hf
  cases e9
set_option maxHeartbeats 4000000 in
set_option maxRecDepth 100000 in
theorem n_X8_stockByAccount (l : Launch) (dC : Nat → ClassId) (dI : Nat → Nat → Nat) (cI cZ cS : ClassId) (f g : Nat → Option Nat) (a : Nat → Nat) (M : Mem) (a1 : Int32) (z1 : Int32) (hf : fX8_stockByAccount M a1 = some (Sum.inr z1)) : Met l yX8_stockByAccount wsX8_stockByAccount ({ frames := 1, cells := 0, slots := 0, locals := 21 } : Room) (va_Pc [.ref (a 0), .int a1] (RO8 (dC, dI) cI cZ cS (wX8 cI cZ cS f g a M))) (k2_QcV (.int z1)) 0 0 (fun _ => False) := by
  refine Met.ofW (cc := cX8_stockByAccount) (maxL := 2) (ret := (some .int)) (by decide) rfl ?_
  intro p e s m args below meth c s₁ B hml hv
  obtain ⟨rfl, hP, hK, hNW⟩ := hv
  have hx := B.exec
  have hb := B.bytes
  have hr := B.returns
  have hts := atoms_spec (ws := wsX8_stockByAccount) B.pre
  have hown : s.vm.findClass RX8 = some m.cls := findClass_of_methodNamed B.named
  have hlocks := B.notSynchronized
  have hK2 : va_K (dC, dI) vwCl [(cI, .int), (cZ, .boolean)] s := hK.sub (tys' := [(cI, .int), (cZ, .boolean)]) [0, 1] rfl
  have hinX8 : ∀ w ∈ u_ws RX8 TX8 6, w ∈ wsX8_stockByAccount := by decide +kernel
  have hw1 := hts (.fieldLink RX8 12 "GlideShelves" "now" "LGlideShelves$State;") (by decide +kernel)
  have hinX6 : ∀ w ∈ u_ws RX6 TX6 5, w ∈ wsX8_stockByAccount := by decide +kernel
  have hinX0 : ∀ w ∈ u_ws RX0 TX0 4, w ∈ wsX8_stockByAccount := by decide +kernel
  have hl := lv_entry ([.ref (a 0), .int a1]) (n := 2) (Nat.le_of_ble_eq_true rfl)
  rw [lg_entry_eq]
  generalize (lg_sl ([.ref (a 0), .int a1]) ++ List.replicate (2 - (lg_sl ([.ref (a 0), .int a1])).length) Slot.unset).toArray = ls at hl ⊢
  have hl : lv_has ls 2 [(0, .ref (a 0)), (1, .int a1)] := hl
  unfold fX8_stockByAccount at hf
  refine lv_aload_n hx hb dX8_stockByAccount_0 rfl (lv_at hl 0 rfl) ?_
  refine lv_iload_n hx hb dX8_stockByAccount_1 rfl (lv_at hl 1 rfl) ?_
  obtain ⟨r2, hc2, hf⟩ := bi_s hf
  rcases r2 with E9 | r2
  · have e9 := so_e hf
    cases e9
  have hf := sel_r hf
  refine cROv (W.runV (As := [.int a1]) (rest := []) ⟨hx, hb, hml, hown, hts⟩ (n_X8_requireKind l dC dI cI cZ cS f g a M a1  hc2) (cwV 1 hts gX8_stockByAccount_X8_requireKind rfl rfl rfl (by decide +kernel) ⟨Nat.le_of_ble_eq_true rfl, Nat.le_of_ble_eq_true rfl⟩) ⟨RO8.blind, va_recv hK hP (ci := 8) (q0 := 0) rfl rfl, RO8.pre hP hK hNW⟩ rfl rfl hl.1 rfl (lv_room (Nat.le_of_ble_eq_true rfl)) dX8_stockByAccount_2 ⟨Nat.le_of_ble_eq_true rfl, Nat.le_of_ble_eq_true rfl⟩) ?_
  refine lv_aload_n hx hb dX8_stockByAccount_5 rfl (lv_at hl 0 rfl) ?_
  refine va_get (D := (dC, dI)) (ci := 8) (v := .ref (a 1)) (C := RX8) (T := TX8) (N := 6) hx hb hts hinX8 hown hK hP 0 rfl rfl 0 (by decide) hw1 (fun _ h9 => h9) rfl dX8_stockByAccount_6 ?_
  refine va_getN (D := (dC, dI)) (ci := 6) (v := .ref (a 10)) (C := RX6) (T := TX6) (N := 5) hx hb hts hinX6 hown hK hP 1 rfl rfl 2 (by decide) (nw0 hNW) (fun _ h9 => h9) rfl dX8_stockByAccount_9 ?_
  refine va_getN (D := (dC, dI)) (ci := 0) (v := .ref (a 13)) (C := RX0) (T := TX0) (N := 4) hx hb hts hinX0 hown hK hP 10 rfl rfl 2 (by decide) (nw2 hNW) (fun _ h9 => h9) rfl dX8_stockByAccount_12 ?_
  refine lv_iload_n hx hb dX8_stockByAccount_15 rfl (lv_at hl 1 rfl) ?_
  obtain ⟨hi, hf⟩ := gd_s hf
  refine va_iald (D := (dC, dI)) (f := (M 13)) hx hb hK hP 13 0 rfl rfl (inb_in hi) dX8_stockByAccount_16 ?_
  refine lv_aload_n hx hb dX8_stockByAccount_17 rfl (lv_at hl 0 rfl) ?_
  refine va_get (D := (dC, dI)) (ci := 8) (v := .ref (a 1)) (C := RX8) (T := TX8) (N := 6) hx hb hts hinX8 hown hK hP 0 rfl rfl 0 (by decide) hw1 (fun _ h9 => h9) rfl dX8_stockByAccount_18 ?_
  refine va_getN (D := (dC, dI)) (ci := 6) (v := .ref (a 10)) (C := RX6) (T := TX6) (N := 5) hx hb hts hinX6 hown hK hP 1 rfl rfl 2 (by decide) (nw0 hNW) (fun _ h9 => h9) rfl dX8_stockByAccount_21 ?_
  refine va_getN (D := (dC, dI)) (ci := 0) (v := .ref (a 14)) (C := RX0) (T := TX0) (N := 4) hx hb hts hinX0 hown hK hP 10 rfl rfl 3 (by decide) (nw3 hNW) (fun _ h9 => h9) rfl dX8_stockByAccount_24 ?_
  refine lv_iload_n hx hb dX8_stockByAccount_27 rfl (lv_at hl 1 rfl) ?_
  obtain ⟨hi, hf⟩ := gd_s hf
  refine va_iald (D := (dC, dI)) (f := (M 14)) hx hb hK hP 14 0 rfl rfl (inb_in hi) dX8_stockByAccount_28 ?_
  refine lv_isub hx hb dX8_stockByAccount_29 ?_
  have e9 := so_e hf
  cases e9
  exact W.iret hx hb hr (fun t ht hW => ⟨rfl, ht⟩) fl0 dX8_stockByAccount_30
set_option maxHeartbeats 4000000 in
set_option maxRecDepth 100000 in
theorem t_X8_stockByAccount (l : Launch) (hst : l.stackTraces = false) (dC : Nat → ClassId) (dI : Nat → Nat → Nat) (cI cZ cS : ClassId) (f g : Nat → Option Nat) (a : Nat → Nat) (sz : Nat) (M : Mem) (a1 : Int32) (E : String) (hf : fX8_stockByAccount M a1 = some (Sum.inl E)) : vx_Met l yX8_stockByAccount wsX8_stockByAccount ({ frames := 7, cells := 1, slots := 6, locals := 131 } : Room) (va_Pc [.ref (a 0), .int a1] (T8 (dC, dI) cI cZ cS (wX8 cI cZ cS f g a M) sz)) (fun _ _ _ _ => False) (vx_X (S := Unit) (fun _ => True) (fun E' _ t => E' = E ∧ WE (dC, dI) cI cZ (wX8 cI cZ cS f g a M) (va_A (wX8 cI cZ cS f g a M) sz) t) (va_A (wX8 cI cZ cS f g a M) sz)) 1 6 (va_A (wX8 cI cZ cS f g a M) sz) := by
  refine vx_ofW (cc := cX8_stockByAccount) (maxL := 2) (ret := (some .int)) (by decide) rfl ?_
  intro p e s m args below meth c s₁ B hml htab hv
  obtain ⟨rfl, hsz, hP, hK, hD0, hNW, hEX⟩ := hv
  have hx := B.exec
  have hb := B.bytes
  have hr := B.returns
  have hts := atoms_spec (ws := wsX8_stockByAccount) B.pre
  have hown : s.vm.findClass RX8 = some m.cls := findClass_of_methodNamed B.named
  have hlocks := B.notSynchronized
  have hK2 : va_K (dC, dI) vwCl [(cI, .int), (cZ, .boolean)] s := hK.sub (tys' := [(cI, .int), (cZ, .boolean)]) [0, 1] rfl
  have hinX8 : ∀ w ∈ u_ws RX8 TX8 6, w ∈ wsX8_stockByAccount := by decide +kernel
  have hw1 := hts (.fieldLink RX8 12 "GlideShelves" "now" "LGlideShelves$State;") (by decide +kernel)
  have hinX6 : ∀ w ∈ u_ws RX6 TX6 5, w ∈ wsX8_stockByAccount := by decide +kernel
  have hinX0 : ∀ w ∈ u_ws RX0 TX0 4, w ∈ wsX8_stockByAccount := by decide +kernel
  subst hsz
  have hD := hD0.self (sz := s.heap.size)
  generalize hAe : va_A (wX8 cI cZ cS f g a M) s.heap.size = A at hD hEX ⊢
  have hA : ∀ q : Nat, s.heap.size ≤ q → A q := fun q h => by rw [← hAe]; exact Or.inr h
  have hS : va_S A s.heap s.heap [] := va_S.rf
  have hl := lv_entry ([.ref (a 0), .int a1]) (n := 2) (Nat.le_of_ble_eq_true rfl)
  rw [lg_entry_eq]
  generalize (lg_sl ([.ref (a 0), .int a1]) ++ List.replicate (2 - (lg_sl ([.ref (a 0), .int a1])).length) Slot.unset).toArray = ls at hl ⊢
  have hl : lv_has ls 2 [(0, .ref (a 0)), (1, .int a1)] := hl
  unfold fX8_stockByAccount at hf
  refine lv_aload_n hx hb dX8_stockByAccount_0 rfl (lv_at hl 0 rfl) ?_
  refine lv_iload_n hx hb dX8_stockByAccount_1 rfl (lv_at hl 1 rfl) ?_
  obtain ⟨r2, hc2, hf⟩ := bi_s hf
  rcases r2 with E9 | r2
  · have e9 := so_e hf
    cases e9
    have hFc := va_free (wc := (wX8 cI cZ cS f g a M)) hD hS hA [0, 1, 2, 3, 4, 5, 6, 7, 8, 9, 10, 11, 12, 13, 14, 15, 16, 17, 18, 19, 20, 21, 22, 23, 24, 25, 26, 27, 28, 29, 30, 31, 32, 33, 34, 35, 36, 37, 38, 39, 40, 41] rfl
    refine vx_thr (vx_runV (As := [.int a1]) (rest := []) ⟨hx, hb, hml, hown, hts⟩ (t_X8_requireKind l hst dC dI cI cZ cS f g a _ M a1 _ hc2) (cwV 1 hts gX8_stockByAccount_X8_requireKind rfl rfl rfl (by decide +kernel) ⟨Nat.le_of_ble_eq_true rfl, Nat.le_of_ble_eq_true rfl⟩) ⟨T8.blind, va_recv hK hP (ci := 8) (q0 := 0) rfl rfl, T8.pre hP hK hD hNW (hEX.at hS hFc)⟩ rfl rfl hl.1 rfl (lv_room (Nat.le_of_ble_eq_true rfl)) dX8_stockByAccount_2 ⟨Nat.le_of_ble_eq_true rfl, Nat.le_of_ble_eq_true rfl⟩) hS (fun q _ h => hFc q h) hFc (fun ce q9 t H1 locs1 ht hal hP1 hD1 hz1 hS1 hce hcv hcl => ?_)
    exact vx_out (fun x h => (htab x h).elim) hlocks hce hcv hcl (fun t ht hal => ⟨(), trivial, ⟨rfl, WE.mk hP1 (hD1.weaken (fun k q _ h => hFc q.1 h)) ht⟩, hS1.F ht⟩) hS1.2.2 (Nat.le_of_ble_eq_true rfl) (Nat.le_of_ble_eq_true rfl)
  have hf := sel_r hf
  refine cROv (W.runV (As := [.int a1]) (rest := []) ⟨hx, hb, hml, hown, hts⟩ (n_X8_requireKind l dC dI cI cZ cS f g a M a1  hc2) (cwV 1 hts gX8_stockByAccount_X8_requireKind rfl rfl rfl (by decide +kernel) ⟨Nat.le_of_ble_eq_true rfl, Nat.le_of_ble_eq_true rfl⟩) ⟨RO8.blind, va_recv hK hP (ci := 8) (q0 := 0) rfl rfl, RO8.pre hP hK hNW⟩ rfl rfl hl.1 rfl (lv_room (Nat.le_of_ble_eq_true rfl)) dX8_stockByAccount_2 ⟨Nat.le_of_ble_eq_true rfl, Nat.le_of_ble_eq_true rfl⟩) ?_
  refine lv_aload_n hx hb dX8_stockByAccount_5 rfl (lv_at hl 0 rfl) ?_
  refine va_get (D := (dC, dI)) (ci := 8) (v := .ref (a 1)) (C := RX8) (T := TX8) (N := 6) hx hb hts hinX8 hown hK hP 0 rfl rfl 0 (by decide) hw1 (fun _ h9 => h9) rfl dX8_stockByAccount_6 ?_
  refine va_getN (D := (dC, dI)) (ci := 6) (v := .ref (a 10)) (C := RX6) (T := TX6) (N := 5) hx hb hts hinX6 hown hK hP 1 rfl rfl 2 (by decide) (nw0 hNW) (fun _ h9 => h9) rfl dX8_stockByAccount_9 ?_
  refine va_getN (D := (dC, dI)) (ci := 0) (v := .ref (a 13)) (C := RX0) (T := TX0) (N := 4) hx hb hts hinX0 hown hK hP 10 rfl rfl 2 (by decide) (nw2 hNW) (fun _ h9 => h9) rfl dX8_stockByAccount_12 ?_
  refine lv_iload_n hx hb dX8_stockByAccount_15 rfl (lv_at hl 1 rfl) ?_
  obtain ⟨hi, hf⟩ := gd_s hf
  refine va_iald (D := (dC, dI)) (f := (M 13)) hx hb hK hP 13 0 rfl rfl (inb_in hi) dX8_stockByAccount_16 ?_
  refine lv_aload_n hx hb dX8_stockByAccount_17 rfl (lv_at hl 0 rfl) ?_
  refine va_get (D := (dC, dI)) (ci := 8) (v := .ref (a 1)) (C := RX8) (T := TX8) (N := 6) hx hb hts hinX8 hown hK hP 0 rfl rfl 0 (by decide) hw1 (fun _ h9 => h9) rfl dX8_stockByAccount_18 ?_
  refine va_getN (D := (dC, dI)) (ci := 6) (v := .ref (a 10)) (C := RX6) (T := TX6) (N := 5) hx hb hts hinX6 hown hK hP 1 rfl rfl 2 (by decide) (nw0 hNW) (fun _ h9 => h9) rfl dX8_stockByAccount_21 ?_
  refine va_getN (D := (dC, dI)) (ci := 0) (v := .ref (a 14)) (C := RX0) (T := TX0) (N := 4) hx hb hts hinX0 hown hK hP 10 rfl rfl 3 (by decide) (nw3 hNW) (fun _ h9 => h9) rfl dX8_stockByAccount_24 ?_
  refine lv_iload_n hx hb dX8_stockByAccount_27 rfl (lv_at hl 1 rfl) ?_
  obtain ⟨hi, hf⟩ := gd_s hf
  refine va_iald (D := (dC, dI)) (f := (M 14)) hx hb hK hP 14 0 rfl rfl (inb_in hi) dX8_stockByAccount_28 ?_
  refine lv_isub hx hb dX8_stockByAccount_29 ?_
  have e9 := so_e hf
  cases e9
set_option maxHeartbeats 4000000 in
set_option maxRecDepth 100000 in
theorem n_X8_shelvesWith (l : Launch) (dC : Nat → ClassId) (dI : Nat → Nat → Nat) (cI cZ cS : ClassId) (f g : Nat → Option Nat) (a : Nat → Nat) (M : Mem) (a1 : Int32) (z1 : Int32) (hf : fX8_shelvesWith M a1 = some (Sum.inr z1)) : Met l yX8_shelvesWith wsX8_shelvesWith ({ frames := 2, cells := 0, slots := 0, locals := 45 } : Room) (va_Pc [.ref (a 0), .int a1] (RO8 (dC, dI) cI cZ cS (wX8 cI cZ cS f g a M))) (k2_QcV (.int z1)) 0 0 (fun _ => False) := by
  refine Met.ofW (cc := cX8_shelvesWith) (maxL := 2) (ret := (some .int)) (by decide) rfl ?_
  intro p e s m args below meth c s₁ B hml hv
  obtain ⟨rfl, hP, hK, hNW⟩ := hv
  have hx := B.exec
  have hb := B.bytes
  have hr := B.returns
  have hts := atoms_spec (ws := wsX8_shelvesWith) B.pre
  have hown : s.vm.findClass RX8 = some m.cls := findClass_of_methodNamed B.named
  have hlocks := B.notSynchronized
  have hK2 : va_K (dC, dI) vwCl [(cI, .int), (cZ, .boolean)] s := hK.sub (tys' := [(cI, .int), (cZ, .boolean)]) [0, 1] rfl
  have hinX8 : ∀ w ∈ u_ws RX8 TX8 6, w ∈ wsX8_shelvesWith := by decide +kernel
  have hw1 := hts (.fieldLink RX8 12 "GlideShelves" "now" "LGlideShelves$State;") (by decide +kernel)
  have hinX6 : ∀ w ∈ u_ws RX6 TX6 5, w ∈ wsX8_shelvesWith := by decide +kernel
  have hw3 := hts (.initialized RX7) (by decide +kernel)
  have hw4 := hts (.instanceMethod yX7_countHolding) (by decide +kernel)
  have hw5 := hts (.selects RX7 yX7_countHolding yX7_countHolding) (by decide +kernel)
  have hl := lv_entry ([.ref (a 0), .int a1]) (n := 2) (Nat.le_of_ble_eq_true rfl)
  rw [lg_entry_eq]
  generalize (lg_sl ([.ref (a 0), .int a1]) ++ List.replicate (2 - (lg_sl ([.ref (a 0), .int a1])).length) Slot.unset).toArray = ls at hl ⊢
  have hl : lv_has ls 2 [(0, .ref (a 0)), (1, .int a1)] := hl
  unfold fX8_shelvesWith at hf
  refine lv_aload_n hx hb dX8_shelvesWith_0 rfl (lv_at hl 0 rfl) ?_
  refine lv_iload_n hx hb dX8_shelvesWith_1 rfl (lv_at hl 1 rfl) ?_
  obtain ⟨r2, hc2, hf⟩ := bi_s hf
  rcases r2 with E9 | r2
  · have e9 := so_e hf
    cases e9
  have hf := sel_r hf
  refine cROv (W.runV (As := [.int a1]) (rest := []) ⟨hx, hb, hml, hown, hts⟩ (n_X8_requireKind l dC dI cI cZ cS f g a M a1  hc2) (cwV 1 hts gX8_shelvesWith_X8_requireKind rfl rfl rfl (by decide +kernel) ⟨Nat.le_of_ble_eq_true rfl, Nat.le_of_ble_eq_true rfl⟩) ⟨RO8.blind, va_recv hK hP (ci := 8) (q0 := 0) rfl rfl, RO8.pre hP hK hNW⟩ rfl rfl hl.1 rfl (lv_room (Nat.le_of_ble_eq_true rfl)) dX8_shelvesWith_2 ⟨Nat.le_of_ble_eq_true rfl, Nat.le_of_ble_eq_true rfl⟩) ?_
  refine lv_aload_n hx hb dX8_shelvesWith_5 rfl (lv_at hl 0 rfl) ?_
  refine va_get (D := (dC, dI)) (ci := 8) (v := .ref (a 1)) (C := RX8) (T := TX8) (N := 6) hx hb hts hinX8 hown hK hP 0 rfl rfl 0 (by decide) hw1 (fun _ h9 => h9) rfl dX8_shelvesWith_6 ?_
  refine va_getN (D := (dC, dI)) (ci := 6) (v := .ref (a 2)) (C := RX6) (T := TX6) (N := 5) hx hb hts hinX6 hown hK hP 1 rfl rfl 0 (by decide) (nw24 hNW) (fun _ h9 => h9) rfl dX8_shelvesWith_9 ?_
  refine lv_iload_n hx hb dX8_shelvesWith_12 rfl (lv_at hl 1 rfl) ?_
  obtain ⟨r13, hc13, hf⟩ := bi_s hf
  have hPc := hP.sub (ws' := (wX7 cI cZ (ofs 2 a) (ofs 2 M))) [2, 3, 4, 5, 6] rfl
  refine cRO (va_Run.run (va_runVN (As := [.int a1]) (rest := []) ⟨hx, hb, hml, hown, hts⟩ (c_X7_countHolding l dC dI cI cZ (ofs 2 a) (ofs 2 M) a1 r13 hc13) ⟨va_cnB 1 hts gX8_shelvesWith_X7_countHolding_n320 rfl rfl rfl (nw70 hNW) hw3 (by decide +kernel) ⟨Nat.le_of_ble_eq_true rfl, Nat.le_of_ble_eq_true rfl⟩, hw4, hw5⟩ ⟨RO.blind, va_recv hK hP (ci := 7) (q0 := 2) rfl rfl, RO.pre hPc hK2 hNW⟩ rfl rfl hl.1 rfl (lv_room (Nat.le_of_ble_eq_true rfl)) dX8_shelvesWith_13 ⟨Nat.le_of_ble_eq_true rfl, Nat.le_of_ble_eq_true rfl⟩)) ?_
  have e9 := so_e hf
  cases e9
  exact W.iret hx hb hr (fun t ht hW => ⟨rfl, ht⟩) fl0 dX8_shelvesWith_16
set_option maxHeartbeats 4000000 in
set_option maxRecDepth 100000 in
theorem t_X8_shelvesWith (l : Launch) (hst : l.stackTraces = false) (dC : Nat → ClassId) (dI : Nat → Nat → Nat) (cI cZ cS : ClassId) (f g : Nat → Option Nat) (a : Nat → Nat) (sz : Nat) (M : Mem) (a1 : Int32) (E : String) (hf : fX8_shelvesWith M a1 = some (Sum.inl E)) : vx_Met l yX8_shelvesWith wsX8_shelvesWith ({ frames := 7, cells := 1, slots := 6, locals := 131 } : Room) (va_Pc [.ref (a 0), .int a1] (T8 (dC, dI) cI cZ cS (wX8 cI cZ cS f g a M) sz)) (fun _ _ _ _ => False) (vx_X (S := Unit) (fun _ => True) (fun E' _ t => E' = E ∧ WE (dC, dI) cI cZ (wX8 cI cZ cS f g a M) (va_A (wX8 cI cZ cS f g a M) sz) t) (va_A (wX8 cI cZ cS f g a M) sz)) 1 6 (va_A (wX8 cI cZ cS f g a M) sz) := by
  refine vx_ofW (cc := cX8_shelvesWith) (maxL := 2) (ret := (some .int)) (by decide) rfl ?_
  intro p e s m args below meth c s₁ B hml htab hv
  obtain ⟨rfl, hsz, hP, hK, hD0, hNW, hEX⟩ := hv
  have hx := B.exec
  have hb := B.bytes
  have hr := B.returns
  have hts := atoms_spec (ws := wsX8_shelvesWith) B.pre
  have hown : s.vm.findClass RX8 = some m.cls := findClass_of_methodNamed B.named
  have hlocks := B.notSynchronized
  have hK2 : va_K (dC, dI) vwCl [(cI, .int), (cZ, .boolean)] s := hK.sub (tys' := [(cI, .int), (cZ, .boolean)]) [0, 1] rfl
  have hinX8 : ∀ w ∈ u_ws RX8 TX8 6, w ∈ wsX8_shelvesWith := by decide +kernel
  have hw1 := hts (.fieldLink RX8 12 "GlideShelves" "now" "LGlideShelves$State;") (by decide +kernel)
  have hinX6 : ∀ w ∈ u_ws RX6 TX6 5, w ∈ wsX8_shelvesWith := by decide +kernel
  have hw3 := hts (.initialized RX7) (by decide +kernel)
  have hw4 := hts (.instanceMethod yX7_countHolding) (by decide +kernel)
  have hw5 := hts (.selects RX7 yX7_countHolding yX7_countHolding) (by decide +kernel)
  subst hsz
  have hD := hD0.self (sz := s.heap.size)
  generalize hAe : va_A (wX8 cI cZ cS f g a M) s.heap.size = A at hD hEX ⊢
  have hA : ∀ q : Nat, s.heap.size ≤ q → A q := fun q h => by rw [← hAe]; exact Or.inr h
  have hS : va_S A s.heap s.heap [] := va_S.rf
  have hl := lv_entry ([.ref (a 0), .int a1]) (n := 2) (Nat.le_of_ble_eq_true rfl)
  rw [lg_entry_eq]
  generalize (lg_sl ([.ref (a 0), .int a1]) ++ List.replicate (2 - (lg_sl ([.ref (a 0), .int a1])).length) Slot.unset).toArray = ls at hl ⊢
  have hl : lv_has ls 2 [(0, .ref (a 0)), (1, .int a1)] := hl
  unfold fX8_shelvesWith at hf
  refine lv_aload_n hx hb dX8_shelvesWith_0 rfl (lv_at hl 0 rfl) ?_
  refine lv_iload_n hx hb dX8_shelvesWith_1 rfl (lv_at hl 1 rfl) ?_
  obtain ⟨r2, hc2, hf⟩ := bi_s hf
  rcases r2 with E9 | r2
  · have e9 := so_e hf
    cases e9
    have hFc := va_free (wc := (wX8 cI cZ cS f g a M)) hD hS hA [0, 1, 2, 3, 4, 5, 6, 7, 8, 9, 10, 11, 12, 13, 14, 15, 16, 17, 18, 19, 20, 21, 22, 23, 24, 25, 26, 27, 28, 29, 30, 31, 32, 33, 34, 35, 36, 37, 38, 39, 40, 41] rfl
    refine vx_thr (vx_runV (As := [.int a1]) (rest := []) ⟨hx, hb, hml, hown, hts⟩ (t_X8_requireKind l hst dC dI cI cZ cS f g a _ M a1 _ hc2) (cwV 1 hts gX8_shelvesWith_X8_requireKind rfl rfl rfl (by decide +kernel) ⟨Nat.le_of_ble_eq_true rfl, Nat.le_of_ble_eq_true rfl⟩) ⟨T8.blind, va_recv hK hP (ci := 8) (q0 := 0) rfl rfl, T8.pre hP hK hD hNW (hEX.at hS hFc)⟩ rfl rfl hl.1 rfl (lv_room (Nat.le_of_ble_eq_true rfl)) dX8_shelvesWith_2 ⟨Nat.le_of_ble_eq_true rfl, Nat.le_of_ble_eq_true rfl⟩) hS (fun q _ h => hFc q h) hFc (fun ce q9 t H1 locs1 ht hal hP1 hD1 hz1 hS1 hce hcv hcl => ?_)
    exact vx_out (fun x h => (htab x h).elim) hlocks hce hcv hcl (fun t ht hal => ⟨(), trivial, ⟨rfl, WE.mk hP1 (hD1.weaken (fun k q _ h => hFc q.1 h)) ht⟩, hS1.F ht⟩) hS1.2.2 (Nat.le_of_ble_eq_true rfl) (Nat.le_of_ble_eq_true rfl)
  have hf := sel_r hf
  refine cROv (W.runV (As := [.int a1]) (rest := []) ⟨hx, hb, hml, hown, hts⟩ (n_X8_requireKind l dC dI cI cZ cS f g a M a1  hc2) (cwV 1 hts gX8_shelvesWith_X8_requireKind rfl rfl rfl (by decide +kernel) ⟨Nat.le_of_ble_eq_true rfl, Nat.le_of_ble_eq_true rfl⟩) ⟨RO8.blind, va_recv hK hP (ci := 8) (q0 := 0) rfl rfl, RO8.pre hP hK hNW⟩ rfl rfl hl.1 rfl (lv_room (Nat.le_of_ble_eq_true rfl)) dX8_shelvesWith_2 ⟨Nat.le_of_ble_eq_true rfl, Nat.le_of_ble_eq_true rfl⟩) ?_
  refine lv_aload_n hx hb dX8_shelvesWith_5 rfl (lv_at hl 0 rfl) ?_
  refine va_get (D := (dC, dI)) (ci := 8) (v := .ref (a 1)) (C := RX8) (T := TX8) (N := 6) hx hb hts hinX8 hown hK hP 0 rfl rfl 0 (by decide) hw1 (fun _ h9 => h9) rfl dX8_shelvesWith_6 ?_
  refine va_getN (D := (dC, dI)) (ci := 6) (v := .ref (a 2)) (C := RX6) (T := TX6) (N := 5) hx hb hts hinX6 hown hK hP 1 rfl rfl 0 (by decide) (nw24 hNW) (fun _ h9 => h9) rfl dX8_shelvesWith_9 ?_
  refine lv_iload_n hx hb dX8_shelvesWith_12 rfl (lv_at hl 1 rfl) ?_
  obtain ⟨r13, hc13, hf⟩ := bi_s hf
  have hPc := hP.sub (ws' := (wX7 cI cZ (ofs 2 a) (ofs 2 M))) [2, 3, 4, 5, 6] rfl
  refine cRO (va_Run.run (va_runVN (As := [.int a1]) (rest := []) ⟨hx, hb, hml, hown, hts⟩ (c_X7_countHolding l dC dI cI cZ (ofs 2 a) (ofs 2 M) a1 r13 hc13) ⟨va_cnB 1 hts gX8_shelvesWith_X7_countHolding_n320 rfl rfl rfl (nw70 hNW) hw3 (by decide +kernel) ⟨Nat.le_of_ble_eq_true rfl, Nat.le_of_ble_eq_true rfl⟩, hw4, hw5⟩ ⟨RO.blind, va_recv hK hP (ci := 7) (q0 := 2) rfl rfl, RO.pre hPc hK2 hNW⟩ rfl rfl hl.1 rfl (lv_room (Nat.le_of_ble_eq_true rfl)) dX8_shelvesWith_13 ⟨Nat.le_of_ble_eq_true rfl, Nat.le_of_ble_eq_true rfl⟩)) ?_
  have e9 := so_e hf
  cases e9
set_option maxHeartbeats 4000000 in
set_option maxRecDepth 100000 in
theorem n_X8_leastOf (l : Launch) (dC : Nat → ClassId) (dI : Nat → Nat → Nat) (cI cZ cS : ClassId) (f g : Nat → Option Nat) (a : Nat → Nat) (M : Mem) (a1 : Int32) (z1 : Int32) (hf : fX8_leastOf M a1 = some (Sum.inr z1)) : Met l yX8_leastOf wsX8_leastOf ({ frames := 1, cells := 0, slots := 0, locals := 21 } : Room) (va_Pc [.ref (a 0), .int a1] (RO8 (dC, dI) cI cZ cS (wX8 cI cZ cS f g a M))) (k2_QcV (.int z1)) 0 0 (fun _ => False) := by
  refine Met.ofW (cc := cX8_leastOf) (maxL := 2) (ret := (some .int)) (by decide) rfl ?_
  intro p e s m args below meth c s₁ B hml hv
  obtain ⟨rfl, hP, hK, hNW⟩ := hv
  have hx := B.exec
  have hb := B.bytes
  have hr := B.returns
  have hts := atoms_spec (ws := wsX8_leastOf) B.pre
  have hown : s.vm.findClass RX8 = some m.cls := findClass_of_methodNamed B.named
  have hlocks := B.notSynchronized
  have hK2 : va_K (dC, dI) vwCl [(cI, .int), (cZ, .boolean)] s := hK.sub (tys' := [(cI, .int), (cZ, .boolean)]) [0, 1] rfl
  have hinX8 : ∀ w ∈ u_ws RX8 TX8 6, w ∈ wsX8_leastOf := by decide +kernel
  have hw1 := hts (.fieldLink RX8 12 "GlideShelves" "now" "LGlideShelves$State;") (by decide +kernel)
  have hinX6 : ∀ w ∈ u_ws RX6 TX6 5, w ∈ wsX8_leastOf := by decide +kernel
  have hinX0 : ∀ w ∈ u_ws RX0 TX0 4, w ∈ wsX8_leastOf := by decide +kernel
  have hl := lv_entry ([.ref (a 0), .int a1]) (n := 2) (Nat.le_of_ble_eq_true rfl)
  rw [lg_entry_eq]
  generalize (lg_sl ([.ref (a 0), .int a1]) ++ List.replicate (2 - (lg_sl ([.ref (a 0), .int a1])).length) Slot.unset).toArray = ls at hl ⊢
  have hl : lv_has ls 2 [(0, .ref (a 0)), (1, .int a1)] := hl
  unfold fX8_leastOf at hf
  refine lv_aload_n hx hb dX8_leastOf_0 rfl (lv_at hl 0 rfl) ?_
  refine lv_iload_n hx hb dX8_leastOf_1 rfl (lv_at hl 1 rfl) ?_
  obtain ⟨r2, hc2, hf⟩ := bi_s hf
  rcases r2 with E9 | r2
  · have e9 := so_e hf
    cases e9
  have hf := sel_r hf
  refine cROv (W.runV (As := [.int a1]) (rest := []) ⟨hx, hb, hml, hown, hts⟩ (n_X8_requireKind l dC dI cI cZ cS f g a M a1  hc2) (cwV 1 hts gX8_leastOf_X8_requireKind rfl rfl rfl (by decide +kernel) ⟨Nat.le_of_ble_eq_true rfl, Nat.le_of_ble_eq_true rfl⟩) ⟨RO8.blind, va_recv hK hP (ci := 8) (q0 := 0) rfl rfl, RO8.pre hP hK hNW⟩ rfl rfl hl.1 rfl (lv_room (Nat.le_of_ble_eq_true rfl)) dX8_leastOf_2 ⟨Nat.le_of_ble_eq_true rfl, Nat.le_of_ble_eq_true rfl⟩) ?_
  refine lv_aload_n hx hb dX8_leastOf_5 rfl (lv_at hl 0 rfl) ?_
  refine va_get (D := (dC, dI)) (ci := 8) (v := .ref (a 1)) (C := RX8) (T := TX8) (N := 6) hx hb hts hinX8 hown hK hP 0 rfl rfl 0 (by decide) hw1 (fun _ h9 => h9) rfl dX8_leastOf_6 ?_
  refine va_getN (D := (dC, dI)) (ci := 6) (v := .ref (a 10)) (C := RX6) (T := TX6) (N := 5) hx hb hts hinX6 hown hK hP 1 rfl rfl 2 (by decide) (nw0 hNW) (fun _ h9 => h9) rfl dX8_leastOf_9 ?_
  refine va_getN (D := (dC, dI)) (ci := 0) (v := .ref (a 12)) (C := RX0) (T := TX0) (N := 4) hx hb hts hinX0 hown hK hP 10 rfl rfl 1 (by decide) (nw9 hNW) (fun _ h9 => h9) rfl dX8_leastOf_12 ?_
  refine lv_iload_n hx hb dX8_leastOf_15 rfl (lv_at hl 1 rfl) ?_
  obtain ⟨hi, hf⟩ := gd_s hf
  refine va_iald (D := (dC, dI)) (f := (M 12)) hx hb hK hP 12 0 rfl rfl (inb_in hi) dX8_leastOf_16 ?_
  have e9 := so_e hf
  cases e9
  exact W.iret hx hb hr (fun t ht hW => ⟨rfl, ht⟩) fl0 dX8_leastOf_17
set_option maxHeartbeats 4000000 in
set_option maxRecDepth 100000 in
theorem t_X8_leastOf (l : Launch) (hst : l.stackTraces = false) (dC : Nat → ClassId) (dI : Nat → Nat → Nat) (cI cZ cS : ClassId) (f g : Nat → Option Nat) (a : Nat → Nat) (sz : Nat) (M : Mem) (a1 : Int32) (E : String) (hf : fX8_leastOf M a1 = some (Sum.inl E)) : vx_Met l yX8_leastOf wsX8_leastOf ({ frames := 7, cells := 1, slots := 6, locals := 131 } : Room) (va_Pc [.ref (a 0), .int a1] (T8 (dC, dI) cI cZ cS (wX8 cI cZ cS f g a M) sz)) (fun _ _ _ _ => False) (vx_X (S := Unit) (fun _ => True) (fun E' _ t => E' = E ∧ WE (dC, dI) cI cZ (wX8 cI cZ cS f g a M) (va_A (wX8 cI cZ cS f g a M) sz) t) (va_A (wX8 cI cZ cS f g a M) sz)) 1 6 (va_A (wX8 cI cZ cS f g a M) sz) := by
  refine vx_ofW (cc := cX8_leastOf) (maxL := 2) (ret := (some .int)) (by decide) rfl ?_
  intro p e s m args below meth c s₁ B hml htab hv
  obtain ⟨rfl, hsz, hP, hK, hD0, hNW, hEX⟩ := hv
  have hx := B.exec
  have hb := B.bytes
  have hr := B.returns
  have hts := atoms_spec (ws := wsX8_leastOf) B.pre
  have hown : s.vm.findClass RX8 = some m.cls := findClass_of_methodNamed B.named
  have hlocks := B.notSynchronized
  have hK2 : va_K (dC, dI) vwCl [(cI, .int), (cZ, .boolean)] s := hK.sub (tys' := [(cI, .int), (cZ, .boolean)]) [0, 1] rfl
  have hinX8 : ∀ w ∈ u_ws RX8 TX8 6, w ∈ wsX8_leastOf := by decide +kernel
  have hw1 := hts (.fieldLink RX8 12 "GlideShelves" "now" "LGlideShelves$State;") (by decide +kernel)
  have hinX6 : ∀ w ∈ u_ws RX6 TX6 5, w ∈ wsX8_leastOf := by decide +kernel
  have hinX0 : ∀ w ∈ u_ws RX0 TX0 4, w ∈ wsX8_leastOf := by decide +kernel
  subst hsz
  have hD := hD0.self (sz := s.heap.size)
  generalize hAe : va_A (wX8 cI cZ cS f g a M) s.heap.size = A at hD hEX ⊢
  have hA : ∀ q : Nat, s.heap.size ≤ q → A q := fun q h => by rw [← hAe]; exact Or.inr h
  have hS : va_S A s.heap s.heap [] := va_S.rf
  have hl := lv_entry ([.ref (a 0), .int a1]) (n := 2) (Nat.le_of_ble_eq_true rfl)
  rw [lg_entry_eq]
  generalize (lg_sl ([.ref (a 0), .int a1]) ++ List.replicate (2 - (lg_sl ([.ref (a 0), .int a1])).length) Slot.unset).toArray = ls at hl ⊢
  have hl : lv_has ls 2 [(0, .ref (a 0)), (1, .int a1)] := hl
  unfold fX8_leastOf at hf
  refine lv_aload_n hx hb dX8_leastOf_0 rfl (lv_at hl 0 rfl) ?_
  refine lv_iload_n hx hb dX8_leastOf_1 rfl (lv_at hl 1 rfl) ?_
  obtain ⟨r2, hc2, hf⟩ := bi_s hf
  rcases r2 with E9 | r2
  · have e9 := so_e hf
    cases e9
    have hFc := va_free (wc := (wX8 cI cZ cS f g a M)) hD hS hA [0, 1, 2, 3, 4, 5, 6, 7, 8, 9, 10, 11, 12, 13, 14, 15, 16, 17, 18, 19, 20, 21, 22, 23, 24, 25, 26, 27, 28, 29, 30, 31, 32, 33, 34, 35, 36, 37, 38, 39, 40, 41] rfl
    refine vx_thr (vx_runV (As := [.int a1]) (rest := []) ⟨hx, hb, hml, hown, hts⟩ (t_X8_requireKind l hst dC dI cI cZ cS f g a _ M a1 _ hc2) (cwV 1 hts gX8_leastOf_X8_requireKind rfl rfl rfl (by decide +kernel) ⟨Nat.le_of_ble_eq_true rfl, Nat.le_of_ble_eq_true rfl⟩) ⟨T8.blind, va_recv hK hP (ci := 8) (q0 := 0) rfl rfl, T8.pre hP hK hD hNW (hEX.at hS hFc)⟩ rfl rfl hl.1 rfl (lv_room (Nat.le_of_ble_eq_true rfl)) dX8_leastOf_2 ⟨Nat.le_of_ble_eq_true rfl, Nat.le_of_ble_eq_true rfl⟩) hS (fun q _ h => hFc q h) hFc (fun ce q9 t H1 locs1 ht hal hP1 hD1 hz1 hS1 hce hcv hcl => ?_)
    exact vx_out (fun x h => (htab x h).elim) hlocks hce hcv hcl (fun t ht hal => ⟨(), trivial, ⟨rfl, WE.mk hP1 (hD1.weaken (fun k q _ h => hFc q.1 h)) ht⟩, hS1.F ht⟩) hS1.2.2 (Nat.le_of_ble_eq_true rfl) (Nat.le_of_ble_eq_true rfl)
  have hf := sel_r hf
  refine cROv (W.runV (As := [.int a1]) (rest := []) ⟨hx, hb, hml, hown, hts⟩ (n_X8_requireKind l dC dI cI cZ cS f g a M a1  hc2) (cwV 1 hts gX8_leastOf_X8_requireKind rfl rfl rfl (by decide +kernel) ⟨Nat.le_of_ble_eq_true rfl, Nat.le_of_ble_eq_true rfl⟩) ⟨RO8.blind, va_recv hK hP (ci := 8) (q0 := 0) rfl rfl, RO8.pre hP hK hNW⟩ rfl rfl hl.1 rfl (lv_room (Nat.le_of_ble_eq_true rfl)) dX8_leastOf_2 ⟨Nat.le_of_ble_eq_true rfl, Nat.le_of_ble_eq_true rfl⟩) ?_
  refine lv_aload_n hx hb dX8_leastOf_5 rfl (lv_at hl 0 rfl) ?_
  refine va_get (D := (dC, dI)) (ci := 8) (v := .ref (a 1)) (C := RX8) (T := TX8) (N := 6) hx hb hts hinX8 hown hK hP 0 rfl rfl 0 (by decide) hw1 (fun _ h9 => h9) rfl dX8_leastOf_6 ?_
  refine va_getN (D := (dC, dI)) (ci := 6) (v := .ref (a 10)) (C := RX6) (T := TX6) (N := 5) hx hb hts hinX6 hown hK hP 1 rfl rfl 2 (by decide) (nw0 hNW) (fun _ h9 => h9) rfl dX8_leastOf_9 ?_
  refine va_getN (D := (dC, dI)) (ci := 0) (v := .ref (a 12)) (C := RX0) (T := TX0) (N := 4) hx hb hts hinX0 hown hK hP 10 rfl rfl 1 (by decide) (nw9 hNW) (fun _ h9 => h9) rfl dX8_leastOf_12 ?_
  refine lv_iload_n hx hb dX8_leastOf_15 rfl (lv_at hl 1 rfl) ?_
  obtain ⟨hi, hf⟩ := gd_s hf
  refine va_iald (D := (dC, dI)) (f := (M 12)) hx hb hK hP 12 0 rfl rfl (inb_in hi) dX8_leastOf_16 ?_
  have e9 := so_e hf
  cases e9
set_option maxHeartbeats 4000000 in
set_option maxRecDepth 100000 in
theorem n_X8_missingOf (l : Launch) (dC : Nat → ClassId) (dI : Nat → Nat → Nat) (cI cZ cS : ClassId) (f g : Nat → Option Nat) (a : Nat → Nat) (M : Mem) (a1 : Int32) (z1 : Int32) (hf : fX8_missingOf M a1 = some (Sum.inr z1)) : Met l yX8_missingOf wsX8_missingOf ({ frames := 3, cells := 0, slots := 0, locals := 66 } : Room) (va_Pc [.ref (a 0), .int a1] (RO8 (dC, dI) cI cZ cS (wX8 cI cZ cS f g a M))) (k2_QcV (.int z1)) 0 0 (fun _ => False) := by
  refine Met.ofW (cc := cX8_missingOf) (maxL := 2) (ret := (some .int)) (by decide) rfl ?_
  intro p e s m args below meth c s₁ B hml hv
  obtain ⟨rfl, hP, hK, hNW⟩ := hv
  have hx := B.exec
  have hb := B.bytes
  have hr := B.returns
  have hts := atoms_spec (ws := wsX8_missingOf) B.pre
  have hown : s.vm.findClass RX8 = some m.cls := findClass_of_methodNamed B.named
  have hlocks := B.notSynchronized
  have hK2 : va_K (dC, dI) vwCl [(cI, .int), (cZ, .boolean)] s := hK.sub (tys' := [(cI, .int), (cZ, .boolean)]) [0, 1] rfl
  have hinX8 : ∀ w ∈ u_ws RX8 TX8 6, w ∈ wsX8_missingOf := by decide +kernel
  have hw1 := hts (.fieldLink RX8 12 "GlideShelves" "now" "LGlideShelves$State;") (by decide +kernel)
  have hw2 := hts (.initialized RX6) (by decide +kernel)
  have hw3 := hts (.instanceMethod yX6_missing) (by decide +kernel)
  have hw4 := hts (.selects RX6 yX6_missing yX6_missing) (by decide +kernel)
  have hl := lv_entry ([.ref (a 0), .int a1]) (n := 2) (Nat.le_of_ble_eq_true rfl)
  rw [lg_entry_eq]
  generalize (lg_sl ([.ref (a 0), .int a1]) ++ List.replicate (2 - (lg_sl ([.ref (a 0), .int a1])).length) Slot.unset).toArray = ls at hl ⊢
  have hl : lv_has ls 2 [(0, .ref (a 0)), (1, .int a1)] := hl
  unfold fX8_missingOf at hf
  refine lv_aload_n hx hb dX8_missingOf_0 rfl (lv_at hl 0 rfl) ?_
  refine lv_iload_n hx hb dX8_missingOf_1 rfl (lv_at hl 1 rfl) ?_
  obtain ⟨r2, hc2, hf⟩ := bi_s hf
  rcases r2 with E9 | r2
  · have e9 := so_e hf
    cases e9
  have hf := sel_r hf
  refine cROv (W.runV (As := [.int a1]) (rest := []) ⟨hx, hb, hml, hown, hts⟩ (n_X8_requireKind l dC dI cI cZ cS f g a M a1  hc2) (cwV 1 hts gX8_missingOf_X8_requireKind rfl rfl rfl (by decide +kernel) ⟨Nat.le_of_ble_eq_true rfl, Nat.le_of_ble_eq_true rfl⟩) ⟨RO8.blind, va_recv hK hP (ci := 8) (q0 := 0) rfl rfl, RO8.pre hP hK hNW⟩ rfl rfl hl.1 rfl (lv_room (Nat.le_of_ble_eq_true rfl)) dX8_missingOf_2 ⟨Nat.le_of_ble_eq_true rfl, Nat.le_of_ble_eq_true rfl⟩) ?_
  refine lv_aload_n hx hb dX8_missingOf_5 rfl (lv_at hl 0 rfl) ?_
  refine va_get (D := (dC, dI)) (ci := 8) (v := .ref (a 1)) (C := RX8) (T := TX8) (N := 6) hx hb hts hinX8 hown hK hP 0 rfl rfl 0 (by decide) hw1 (fun _ h9 => h9) rfl dX8_missingOf_6 ?_
  refine lv_iload_n hx hb dX8_missingOf_9 rfl (lv_at hl 1 rfl) ?_
  obtain ⟨r10, hc10, hf⟩ := bi_s hf
  have hPc := hP.sub (ws' := (wX6 cI cZ (ofs 1 a) (ofs 1 M))) [1, 2, 3, 4, 5, 6, 7, 8, 9, 10, 11, 12, 13, 14, 15, 16] rfl
  refine cRO (va_Run.run (va_runVN (As := [.int a1]) (rest := []) ⟨hx, hb, hml, hown, hts⟩ (c_X6_missing l dC dI cI cZ (ofs 1 a) (ofs 1 M) a1 r10 hc10) ⟨va_cnB 1 hts gX8_missingOf_X6_missing_n323 rfl rfl rfl (nw71 hNW) hw2 (by decide +kernel) ⟨Nat.le_of_ble_eq_true rfl, Nat.le_of_ble_eq_true rfl⟩, hw3, hw4⟩ ⟨RO.blind, va_recv hK hP (ci := 6) (q0 := 1) rfl rfl, RO.pre hPc hK2 hNW⟩ rfl rfl hl.1 rfl (lv_room (Nat.le_of_ble_eq_true rfl)) dX8_missingOf_10 ⟨Nat.le_of_ble_eq_true rfl, Nat.le_of_ble_eq_true rfl⟩)) ?_
  have e9 := so_e hf
  cases e9
  exact W.iret hx hb hr (fun t ht hW => ⟨rfl, ht⟩) fl0 dX8_missingOf_13
set_option maxHeartbeats 4000000 in
set_option maxRecDepth 100000 in
theorem t_X8_missingOf (l : Launch) (hst : l.stackTraces = false) (dC : Nat → ClassId) (dI : Nat → Nat → Nat) (cI cZ cS : ClassId) (f g : Nat → Option Nat) (a : Nat → Nat) (sz : Nat) (M : Mem) (a1 : Int32) (E : String) (hf : fX8_missingOf M a1 = some (Sum.inl E)) : vx_Met l yX8_missingOf wsX8_missingOf ({ frames := 7, cells := 1, slots := 6, locals := 131 } : Room) (va_Pc [.ref (a 0), .int a1] (T8 (dC, dI) cI cZ cS (wX8 cI cZ cS f g a M) sz)) (fun _ _ _ _ => False) (vx_X (S := Unit) (fun _ => True) (fun E' _ t => E' = E ∧ WE (dC, dI) cI cZ (wX8 cI cZ cS f g a M) (va_A (wX8 cI cZ cS f g a M) sz) t) (va_A (wX8 cI cZ cS f g a M) sz)) 1 6 (va_A (wX8 cI cZ cS f g a M) sz) := by
  refine vx_ofW (cc := cX8_missingOf) (maxL := 2) (ret := (some .int)) (by decide) rfl ?_
  intro p e s m args below meth c s₁ B hml htab hv
  obtain ⟨rfl, hsz, hP, hK, hD0, hNW, hEX⟩ := hv
  have hx := B.exec
  have hb := B.bytes
  have hr := B.returns
  have hts := atoms_spec (ws := wsX8_missingOf) B.pre
  have hown : s.vm.findClass RX8 = some m.cls := findClass_of_methodNamed B.named
  have hlocks := B.notSynchronized
  have hK2 : va_K (dC, dI) vwCl [(cI, .int), (cZ, .boolean)] s := hK.sub (tys' := [(cI, .int), (cZ, .boolean)]) [0, 1] rfl
  have hinX8 : ∀ w ∈ u_ws RX8 TX8 6, w ∈ wsX8_missingOf := by decide +kernel
  have hw1 := hts (.fieldLink RX8 12 "GlideShelves" "now" "LGlideShelves$State;") (by decide +kernel)
  have hw2 := hts (.initialized RX6) (by decide +kernel)
  have hw3 := hts (.instanceMethod yX6_missing) (by decide +kernel)
  have hw4 := hts (.selects RX6 yX6_missing yX6_missing) (by decide +kernel)
  subst hsz
  have hD := hD0.self (sz := s.heap.size)
  generalize hAe : va_A (wX8 cI cZ cS f g a M) s.heap.size = A at hD hEX ⊢
  have hA : ∀ q : Nat, s.heap.size ≤ q → A q := fun q h => by rw [← hAe]; exact Or.inr h
  have hS : va_S A s.heap s.heap [] := va_S.rf
  have hl := lv_entry ([.ref (a 0), .int a1]) (n := 2) (Nat.le_of_ble_eq_true rfl)
  rw [lg_entry_eq]
  generalize (lg_sl ([.ref (a 0), .int a1]) ++ List.replicate (2 - (lg_sl ([.ref (a 0), .int a1])).length) Slot.unset).toArray = ls at hl ⊢
  have hl : lv_has ls 2 [(0, .ref (a 0)), (1, .int a1)] := hl
  unfold fX8_missingOf at hf
  refine lv_aload_n hx hb dX8_missingOf_0 rfl (lv_at hl 0 rfl) ?_
  refine lv_iload_n hx hb dX8_missingOf_1 rfl (lv_at hl 1 rfl) ?_
  obtain ⟨r2, hc2, hf⟩ := bi_s hf
  rcases r2 with E9 | r2
  · have e9 := so_e hf
    cases e9
    have hFc := va_free (wc := (wX8 cI cZ cS f g a M)) hD hS hA [0, 1, 2, 3, 4, 5, 6, 7, 8, 9, 10, 11, 12, 13, 14, 15, 16, 17, 18, 19, 20, 21, 22, 23, 24, 25, 26, 27, 28, 29, 30, 31, 32, 33, 34, 35, 36, 37, 38, 39, 40, 41] rfl
    refine vx_thr (vx_runV (As := [.int a1]) (rest := []) ⟨hx, hb, hml, hown, hts⟩ (t_X8_requireKind l hst dC dI cI cZ cS f g a _ M a1 _ hc2) (cwV 1 hts gX8_missingOf_X8_requireKind rfl rfl rfl (by decide +kernel) ⟨Nat.le_of_ble_eq_true rfl, Nat.le_of_ble_eq_true rfl⟩) ⟨T8.blind, va_recv hK hP (ci := 8) (q0 := 0) rfl rfl, T8.pre hP hK hD hNW (hEX.at hS hFc)⟩ rfl rfl hl.1 rfl (lv_room (Nat.le_of_ble_eq_true rfl)) dX8_missingOf_2 ⟨Nat.le_of_ble_eq_true rfl, Nat.le_of_ble_eq_true rfl⟩) hS (fun q _ h => hFc q h) hFc (fun ce q9 t H1 locs1 ht hal hP1 hD1 hz1 hS1 hce hcv hcl => ?_)
    exact vx_out (fun x h => (htab x h).elim) hlocks hce hcv hcl (fun t ht hal => ⟨(), trivial, ⟨rfl, WE.mk hP1 (hD1.weaken (fun k q _ h => hFc q.1 h)) ht⟩, hS1.F ht⟩) hS1.2.2 (Nat.le_of_ble_eq_true rfl) (Nat.le_of_ble_eq_true rfl)
  have hf := sel_r hf
  refine cROv (W.runV (As := [.int a1]) (rest := []) ⟨hx, hb, hml, hown, hts⟩ (n_X8_requireKind l dC dI cI cZ cS f g a M a1  hc2) (cwV 1 hts gX8_missingOf_X8_requireKind rfl rfl rfl (by decide +kernel) ⟨Nat.le_of_ble_eq_true rfl, Nat.le_of_ble_eq_true rfl⟩) ⟨RO8.blind, va_recv hK hP (ci := 8) (q0 := 0) rfl rfl, RO8.pre hP hK hNW⟩ rfl rfl hl.1 rfl (lv_room (Nat.le_of_ble_eq_true rfl)) dX8_missingOf_2 ⟨Nat.le_of_ble_eq_true rfl, Nat.le_of_ble_eq_true rfl⟩) ?_
  refine lv_aload_n hx hb dX8_missingOf_5 rfl (lv_at hl 0 rfl) ?_
  refine va_get (D := (dC, dI)) (ci := 8) (v := .ref (a 1)) (C := RX8) (T := TX8) (N := 6) hx hb hts hinX8 hown hK hP 0 rfl rfl 0 (by decide) hw1 (fun _ h9 => h9) rfl dX8_missingOf_6 ?_
  refine lv_iload_n hx hb dX8_missingOf_9 rfl (lv_at hl 1 rfl) ?_
  obtain ⟨r10, hc10, hf⟩ := bi_s hf
  have hPc := hP.sub (ws' := (wX6 cI cZ (ofs 1 a) (ofs 1 M))) [1, 2, 3, 4, 5, 6, 7, 8, 9, 10, 11, 12, 13, 14, 15, 16] rfl
  refine cRO (va_Run.run (va_runVN (As := [.int a1]) (rest := []) ⟨hx, hb, hml, hown, hts⟩ (c_X6_missing l dC dI cI cZ (ofs 1 a) (ofs 1 M) a1 r10 hc10) ⟨va_cnB 1 hts gX8_missingOf_X6_missing_n323 rfl rfl rfl (nw71 hNW) hw2 (by decide +kernel) ⟨Nat.le_of_ble_eq_true rfl, Nat.le_of_ble_eq_true rfl⟩, hw3, hw4⟩ ⟨RO.blind, va_recv hK hP (ci := 6) (q0 := 1) rfl rfl, RO.pre hPc hK2 hNW⟩ rfl rfl hl.1 rfl (lv_room (Nat.le_of_ble_eq_true rfl)) dX8_missingOf_10 ⟨Nat.le_of_ble_eq_true rfl, Nat.le_of_ble_eq_true rfl⟩)) ?_
  have e9 := so_e hf
  cases e9
set_option maxHeartbeats 4000000 in
set_option maxRecDepth 100000 in
theorem c_X8_shortKinds (l : Launch) (dC : Nat → ClassId) (dI : Nat → Nat → Nat) (cI cZ cS : ClassId) (f g : Nat → Option Nat) (a : Nat → Nat) (M : Mem) (z : Int32) (hf : fX8_shortKinds M  = some z) : Met l yX8_shortKinds wsX8_shortKinds ({ frames := 3, cells := 0, slots := 0, locals := 66 } : Room) (va_Pc [.ref (a 0)] (RO8 (dC, dI) cI cZ cS (wX8 cI cZ cS f g a M))) (k2_QcV (.int z)) 0 0 (fun _ => False) := by
  refine Met.ofW (cc := cX8_shortKinds) (maxL := 3) (ret := (some .int)) (by decide) rfl ?_
  intro p e s m args below meth c s₁ B hml hv
  obtain ⟨rfl, hP, hK, hNW⟩ := hv
  have hK2 : va_K (dC, dI) vwCl [(cI, .int), (cZ, .boolean)] s := hK.sub (tys' := [(cI, .int), (cZ, .boolean)]) [0, 1] rfl
  have hx := B.exec
  have hb := B.bytes
  have hr := B.returns
  have hts := atoms_spec (ws := wsX8_shortKinds) B.pre
  have hown : s.vm.findClass RX8 = some m.cls := findClass_of_methodNamed B.named
  have hlocks := B.notSynchronized
  have hinX8 : ∀ w ∈ u_ws RX8 TX8 6, w ∈ wsX8_shortKinds := by decide +kernel
  have hw1 := hts (.fieldLink RX8 12 "GlideShelves" "now" "LGlideShelves$State;") (by decide +kernel)
  have hw2 := hts (.initialized RX6) (by decide +kernel)
  have hw3 := hts (.instanceMethod yX6_missing) (by decide +kernel)
  have hw4 := hts (.selects RX6 yX6_missing yX6_missing) (by decide +kernel)
  have hfX8_shortKinds_B27 : ∀ (kb : Int32 → Int32 → Option (Int32)) (hkb : ∀ (l1 : Int32) (l2 : Int32), kb l1 l2 = some z → ∀ (ls : Array Slot), lv_has ls 3 [(0, .ref (a 0)), (1, .int l1), (2, .int l2)] → W p l e (headSpec wsX8_shortKinds ({ frames := 3, cells := 0, slots := 0, locals := 66 } : Room)).room s m ([.ref (a 0)] : List Value).toArray below meth c s.heap [] 0 0 (MQ below (k2_QcV (.int z)) ([.ref (a 0)] : List Value).toArray s 0 0 (fun _ => False)) (F0 m 4 ls [])) (kx33 : Int32 → Option (Int32)) (hkx33 : ∀ (l1 : Int32), kx33 l1 = some z → ∀ (ls : Array Slot), lv_has ls 3 [(1, .int l1)] → W p l e (headSpec wsX8_shortKinds ({ frames := 3, cells := 0, slots := 0, locals := 66 } : Room)).room s m ([.ref (a 0)] : List Value).toArray below meth c s.heap [] 0 0 (MQ below (k2_QcV (.int z)) ([.ref (a 0)] : List Value).toArray s 0 0 (fun _ => False)) (F0 m 33 ls [])), ∀ (l1 : Int32) (l2 : Int32), fX8_shortKinds_B27 M kb kx33 l1 l2 = some z → ∀ (ls : Array Slot), lv_has ls 3 [(0, .ref (a 0)), (1, .int l1), (2, .int l2)] → W p l e (headSpec wsX8_shortKinds ({ frames := 3, cells := 0, slots := 0, locals := 66 } : Room)).room s m ([.ref (a 0)] : List Value).toArray below meth c s.heap [] 0 0 (MQ below (k2_QcV (.int z)) ([.ref (a 0)] : List Value).toArray s 0 0 (fun _ => False)) (F0 m 27 ls []) := by
    intro kb hkb kx33 hkx33 l1 l2 hf ls hl
    unfold fX8_shortKinds_B27 at hf
    refine lv_iinc (v := (l2 + (1 : Int32))) (lv' := [(2, .int (l2 + (1 : Int32))), (0, .ref (a 0)), (1, .int l1)]) hx hb dX8_shortKinds_27 hl (k := 2) rfl rfl (by decide) rfl (fun ls hl => ?_)
    refine lv_goto (tgt := 4) hx hb dX8_shortKinds_30 (by decide) ?_
    exact hkb l1 (l2 + (1 : Int32)) hf _ (lv_sub hl [1, 2, 0] rfl)
  have hfX8_shortKinds_L4 : ∀ (n : Nat) (kx33 : Int32 → Option (Int32)) (hkx33 : ∀ (l1 : Int32), kx33 l1 = some z → ∀ (ls : Array Slot), lv_has ls 3 [(1, .int l1)] → W p l e (headSpec wsX8_shortKinds ({ frames := 3, cells := 0, slots := 0, locals := 66 } : Room)).room s m ([.ref (a 0)] : List Value).toArray below meth c s.heap [] 0 0 (MQ below (k2_QcV (.int z)) ([.ref (a 0)] : List Value).toArray s 0 0 (fun _ => False)) (F0 m 33 ls [])), ∀ (l1 : Int32) (l2 : Int32), fX8_shortKinds_L4 M n kx33 l1 l2 = some z → ∀ (ls : Array Slot), lv_has ls 3 [(0, .ref (a 0)), (1, .int l1), (2, .int l2)] → W p l e (headSpec wsX8_shortKinds ({ frames := 3, cells := 0, slots := 0, locals := 66 } : Room)).room s m ([.ref (a 0)] : List Value).toArray below meth c s.heap [] 0 0 (MQ below (k2_QcV (.int z)) ([.ref (a 0)] : List Value).toArray s 0 0 (fun _ => False)) (F0 m 4 ls []) := by
    intro n
    induction n with
    | zero =>
      intro kx33 hkx33 l1 l2 hf ls hl
      rw [fX8_shortKinds_L4] at hf
      cases hf
    | succ n ih =>
      intro kx33 hkx33 l1 l2 hf ls hl
      rw [fX8_shortKinds_L4] at hf
      refine lv_iload_n hx hb dX8_shortKinds_4 rfl (lv_at hl 2 rfl) ?_
      refine lv_bipush (v := (10 : Int32)) hx hb dX8_shortKinds_5 (by decide) ?_
      refine lv_icmp_ge (tgt := 33) hx hb dX8_shortKinds_7 (by decide) (fun c9 => ?_) (fun c9 => ?_)
      · have hf := it_t hf c9
        exact hkx33 l1 hf _ (lv_sub hl [1] rfl)
      · have hf := it_f hf c9
        refine lv_aload_n hx hb dX8_shortKinds_10 rfl (lv_at hl 0 rfl) ?_
        refine va_get (D := (dC, dI)) (ci := 8) (v := .ref (a 1)) (C := RX8) (T := TX8) (N := 6) hx hb hts hinX8 hown hK hP 0 rfl rfl 0 (by decide) hw1 (fun _ h9 => h9) rfl dX8_shortKinds_11 ?_
        refine lv_iload_n hx hb dX8_shortKinds_14 rfl (lv_at hl 2 rfl) ?_
        obtain ⟨r15, hc15, hf⟩ := bi_s hf
        have hPc := hP.sub (ws' := (wX6 cI cZ (ofs 1 a) (ofs 1 M))) [1, 2, 3, 4, 5, 6, 7, 8, 9, 10, 11, 12, 13, 14, 15, 16] rfl
        refine cRO (va_Run.run (va_runVN (As := [.int l2]) (rest := []) ⟨hx, hb, hml, hown, hts⟩ (c_X6_missing l dC dI cI cZ (ofs 1 a) (ofs 1 M) l2 r15 hc15) ⟨va_cnB 1 hts gX8_shortKinds_X6_missing_n323 rfl rfl rfl (nw71 hNW) hw2 (by decide +kernel) ⟨Nat.le_of_ble_eq_true rfl, Nat.le_of_ble_eq_true rfl⟩, hw3, hw4⟩ ⟨RO.blind, va_recv hK hP (ci := 6) (q0 := 1) rfl rfl, RO.pre hPc hK2 hNW⟩ rfl rfl hl.1 rfl (lv_room (Nat.le_of_ble_eq_true rfl)) dX8_shortKinds_15 ⟨Nat.le_of_ble_eq_true rfl, Nat.le_of_ble_eq_true rfl⟩)) ?_
        refine lv_if_le (tgt := 27) hx hb dX8_shortKinds_18 (by decide) (fun c9 => ?_) (fun c9 => ?_)
        · have hf := it_t hf c9
          exact hfX8_shortKinds_B27 _ (ih kx33 hkx33) _ hkx33 l1 l2 hf _ (lv_sub hl [0, 1, 2] rfl)
        · have hf := it_f hf c9
          refine lv_iload_n hx hb dX8_shortKinds_21 rfl (lv_at hl 1 rfl) ?_
          refine lv_iconst (v := (1 : Int32)) hx hb dX8_shortKinds_22 (by decide) ?_
          refine lv_iload_n hx hb dX8_shortKinds_23 rfl (lv_at hl 2 rfl) ?_
          refine lv_ishl hx hb dX8_shortKinds_24 ?_
          refine lv_ior hx hb dX8_shortKinds_25 ?_
          refine lv_istore_n (lv' := [(1, .int (l1 ||| ((1 : Int32) <<< (l2 &&& 31)))), (0, .ref (a 0)), (2, .int l2)]) hx hb dX8_shortKinds_26 rfl hl (by decide) rfl (fun ls hl => ?_)
          exact hfX8_shortKinds_B27 _ (ih kx33 hkx33) _ hkx33 (l1 ||| ((1 : Int32) <<< (l2 &&& 31))) l2 hf _ (lv_sub hl [1, 0, 2] rfl)
  have hl := lv_entry ([.ref (a 0)]) (n := 3) (Nat.le_of_ble_eq_true rfl)
  rw [lg_entry_eq]
  generalize (lg_sl ([.ref (a 0)]) ++ List.replicate (3 - (lg_sl ([.ref (a 0)])).length) Slot.unset).toArray = ls at hl ⊢
  have hl : lv_has ls 3 [(0, .ref (a 0))] := hl
  unfold fX8_shortKinds at hf
  refine lv_iconst (v := (0 : Int32)) hx hb dX8_shortKinds_0 (by decide) ?_
  refine lv_istore_n (lv' := [(1, .int (0 : Int32)), (0, .ref (a 0))]) hx hb dX8_shortKinds_1 rfl hl (by decide) rfl (fun ls hl => ?_)
  refine lv_iconst (v := (0 : Int32)) hx hb dX8_shortKinds_2 (by decide) ?_
  refine lv_istore_n (lv' := [(2, .int (0 : Int32)), (1, .int (0 : Int32)), (0, .ref (a 0))]) hx hb dX8_shortKinds_3 rfl hl (by decide) rfl (fun ls hl => ?_)
  refine hfX8_shortKinds_L4 5000 _ (fun l1 hf ls hl => ?_) (0 : Int32) (0 : Int32) hf _ (lv_sub hl [2, 1, 0] rfl)
  refine lv_iload_n hx hb dX8_shortKinds_33 rfl (lv_at hl 0 rfl) ?_
  exact W.iret (v := l1) hx hb hr (fun t ht hW => ⟨congrArg (fun x => Outcome.returned (some (Value.int x))) (so_e hf), ht⟩) fl0 dX8_shortKinds_34
set_option maxHeartbeats 4000000 in
set_option maxRecDepth 100000 in
theorem c_X8_orders (l : Launch) (dC : Nat → ClassId) (dI : Nat → Nat → Nat) (cI cZ cS : ClassId) (f g : Nat → Option Nat) (a : Nat → Nat) (M : Mem) (z : Int32) (hf : fX8_orders M  = some z) : Met l yX8_orders wsX8_orders ({ frames := 0, cells := 0, slots := 0, locals := 0 } : Room) (va_Pc [.ref (a 0)] (RO8 (dC, dI) cI cZ cS (wX8 cI cZ cS f g a M))) (k2_QcV (.int z)) 0 0 (fun _ => False) := by
  refine Met.ofW (cc := cX8_orders) (maxL := 1) (ret := (some .int)) (by decide) rfl ?_
  intro p e s m args below meth c s₁ B hml hv
  obtain ⟨rfl, hP, hK, hNW⟩ := hv
  have hK2 : va_K (dC, dI) vwCl [(cI, .int), (cZ, .boolean)] s := hK.sub (tys' := [(cI, .int), (cZ, .boolean)]) [0, 1] rfl
  have hx := B.exec
  have hb := B.bytes
  have hr := B.returns
  have hts := atoms_spec (ws := wsX8_orders) B.pre
  have hown : s.vm.findClass RX8 = some m.cls := findClass_of_methodNamed B.named
  have hlocks := B.notSynchronized
  have hinX8 : ∀ w ∈ u_ws RX8 TX8 6, w ∈ wsX8_orders := by decide +kernel
  have hw1 := hts (.fieldLink RX8 12 "GlideShelves" "now" "LGlideShelves$State;") (by decide +kernel)
  have hinX6 : ∀ w ∈ u_ws RX6 TX6 5, w ∈ wsX8_orders := by decide +kernel
  have hinX3 : ∀ w ∈ u_ws RX3 TX3 2, w ∈ wsX8_orders := by decide +kernel
  have hl := lv_entry ([.ref (a 0)]) (n := 1) (Nat.le_of_ble_eq_true rfl)
  rw [lg_entry_eq]
  generalize (lg_sl ([.ref (a 0)]) ++ List.replicate (1 - (lg_sl ([.ref (a 0)])).length) Slot.unset).toArray = ls at hl ⊢
  have hl : lv_has ls 1 [(0, .ref (a 0))] := hl
  unfold fX8_orders at hf
  refine lv_aload_n hx hb dX8_orders_0 rfl (lv_at hl 0 rfl) ?_
  refine va_get (D := (dC, dI)) (ci := 8) (v := .ref (a 1)) (C := RX8) (T := TX8) (N := 6) hx hb hts hinX8 hown hK hP 0 rfl rfl 0 (by decide) hw1 (fun _ h9 => h9) rfl dX8_orders_1 ?_
  refine va_getN (D := (dC, dI)) (ci := 6) (v := .ref (a 15)) (C := RX6) (T := TX6) (N := 5) hx hb hts hinX6 hown hK hP 1 rfl rfl 3 (by decide) (nw4 hNW) (fun _ h9 => h9) rfl dX8_orders_4 ?_
  refine va_getN (D := (dC, dI)) (ci := 3) (v := .int (M 15 0)) (C := RX3) (T := TX3) (N := 2) hx hb hts hinX3 hown hK hP 15 rfl rfl 0 (by decide) (nw5 hNW) (fun _ h9 => h9) rfl dX8_orders_7 ?_
  exact W.iret (v := (M 15 0)) hx hb hr (fun t ht hW => ⟨congrArg (fun x => Outcome.returned (some (Value.int x))) (so_e hf), ht⟩) fl0 dX8_orders_10
set_option maxHeartbeats 4000000 in
set_option maxRecDepth 100000 in
theorem n_X8_requireOrder (l : Launch) (dC : Nat → ClassId) (dI : Nat → Nat → Nat) (cI cZ cS : ClassId) (f g : Nat → Option Nat) (a : Nat → Nat) (M : Mem) (a1 : Int32) (hf : fX8_requireOrder M a1 = some (Sum.inr ())) : Met l yX8_requireOrder wsX8_requireOrder ({ frames := 0, cells := 0, slots := 0, locals := 0 } : Room) (va_Pc [.ref (a 0), .int a1] (RO8 (dC, dI) cI cZ cS (wX8 cI cZ cS f g a M))) (va_Sv (fun _ => True)) 0 0 (fun _ => False) := by
  refine Met.ofW (cc := cX8_requireOrder) (maxL := 2) (ret := none) (by decide) rfl ?_
  intro p e s m args below meth c s₁ B hml hv
  obtain ⟨rfl, hP, hK, hNW⟩ := hv
  have hx := B.exec
  have hb := B.bytes
  have hr := B.returns
  have hts := atoms_spec (ws := wsX8_requireOrder) B.pre
  have hown : s.vm.findClass RX8 = some m.cls := findClass_of_methodNamed B.named
  have hlocks := B.notSynchronized
  have hK2 : va_K (dC, dI) vwCl [(cI, .int), (cZ, .boolean)] s := hK.sub (tys' := [(cI, .int), (cZ, .boolean)]) [0, 1] rfl
  have hinX8 : ∀ w ∈ u_ws RX8 TX8 6, w ∈ wsX8_requireOrder := by decide +kernel
  have hw1 := hts (.fieldLink RX8 12 "GlideShelves" "now" "LGlideShelves$State;") (by decide +kernel)
  have hinX6 : ∀ w ∈ u_ws RX6 TX6 5, w ∈ wsX8_requireOrder := by decide +kernel
  have hinX3 : ∀ w ∈ u_ws RX3 TX3 2, w ∈ wsX8_requireOrder := by decide +kernel
  have hfX8_requireOrder_B18 : ∀ (_ : Unit), fX8_requireOrder_B18 M  () = some (Sum.inr ()) → ∀ (ls : Array Slot), lv_has ls 2 [] → W p l e (headSpec wsX8_requireOrder ({ frames := 0, cells := 0, slots := 0, locals := 0 } : Room)).room s m ([.ref (a 0), .int a1] : List Value).toArray below meth c s.heap [] 0 0 (MQ below (va_Sv (fun _ => True)) ([.ref (a 0), .int a1] : List Value).toArray s 0 0 (fun _ => False)) (F0 m 18 ls []) := by
    intro  _ hf ls hl
    unfold fX8_requireOrder_B18 at hf
    have e9 := so_e hf
    cases e9
  have hl := lv_entry ([.ref (a 0), .int a1]) (n := 2) (Nat.le_of_ble_eq_true rfl)
  rw [lg_entry_eq]
  generalize (lg_sl ([.ref (a 0), .int a1]) ++ List.replicate (2 - (lg_sl ([.ref (a 0), .int a1])).length) Slot.unset).toArray = ls at hl ⊢
  have hl : lv_has ls 2 [(0, .ref (a 0)), (1, .int a1)] := hl
  unfold fX8_requireOrder at hf
  refine lv_iload_n hx hb dX8_requireOrder_0 rfl (lv_at hl 1 rfl) ?_
  refine lv_if_lt (tgt := 18) hx hb dX8_requireOrder_1 (by decide) (fun c9 => ?_) (fun c9 => ?_)
  · have hf := it_t hf c9
    exact hfX8_requireOrder_B18  () hf _ (lv_sub hl [] rfl)
  · have hf := it_f hf c9
    refine lv_iload_n hx hb dX8_requireOrder_4 rfl (lv_at hl 1 rfl) ?_
    refine lv_aload_n hx hb dX8_requireOrder_5 rfl (lv_at hl 0 rfl) ?_
    refine va_get (D := (dC, dI)) (ci := 8) (v := .ref (a 1)) (C := RX8) (T := TX8) (N := 6) hx hb hts hinX8 hown hK hP 0 rfl rfl 0 (by decide) hw1 (fun _ h9 => h9) rfl dX8_requireOrder_6 ?_
    refine va_getN (D := (dC, dI)) (ci := 6) (v := .ref (a 15)) (C := RX6) (T := TX6) (N := 5) hx hb hts hinX6 hown hK hP 1 rfl rfl 3 (by decide) (nw4 hNW) (fun _ h9 => h9) rfl dX8_requireOrder_9 ?_
    refine va_getN (D := (dC, dI)) (ci := 3) (v := .int (M 15 0)) (C := RX3) (T := TX3) (N := 2) hx hb hts hinX3 hown hK hP 15 rfl rfl 0 (by decide) (nw5 hNW) (fun _ h9 => h9) rfl dX8_requireOrder_12 ?_
    refine lv_icmp_lt (tgt := 29) hx hb dX8_requireOrder_15 (by decide) (fun c9 => ?_) (fun c9 => ?_)
    · have hf := it_t hf c9
      have e9 := so_e hf
      cases e9
      exact W.vret hx hb hr (fun t ht hW => ⟨rfl, trivial, ht⟩) fl0 dX8_requireOrder_29
    · have hf := it_f hf c9
      exact hfX8_requireOrder_B18  () hf _ (lv_sub hl [] rfl)
set_option maxHeartbeats 4000000 in
set_option maxRecDepth 100000 in
theorem n_X8_wanted (l : Launch) (dC : Nat → ClassId) (dI : Nat → Nat → Nat) (cI cZ cS : ClassId) (f g : Nat → Option Nat) (a : Nat → Nat) (M : Mem) (a1 : Int32) (a2 : Int32) (z1 : Int32) (hf : fX8_wanted M a1 a2 = some (Sum.inr z1)) : Met l yX8_wanted wsX8_wanted ({ frames := 1, cells := 0, slots := 0, locals := 22 } : Room) (va_Pc [.ref (a 0), .int a1, .int a2] (RO8 (dC, dI) cI cZ cS (wX8 cI cZ cS f g a M))) (k2_QcV (.int z1)) 0 0 (fun _ => False) := by
  refine Met.ofW (cc := cX8_wanted) (maxL := 3) (ret := (some .int)) (by decide) rfl ?_
  intro p e s m args below meth c s₁ B hml hv
  obtain ⟨rfl, hP, hK, hNW⟩ := hv
  have hx := B.exec
  have hb := B.bytes
  have hr := B.returns
  have hts := atoms_spec (ws := wsX8_wanted) B.pre
  have hown : s.vm.findClass RX8 = some m.cls := findClass_of_methodNamed B.named
  have hlocks := B.notSynchronized
  have hK2 : va_K (dC, dI) vwCl [(cI, .int), (cZ, .boolean)] s := hK.sub (tys' := [(cI, .int), (cZ, .boolean)]) [0, 1] rfl
  have hinX8 : ∀ w ∈ u_ws RX8 TX8 6, w ∈ wsX8_wanted := by decide +kernel
  have hw1 := hts (.fieldLink RX8 12 "GlideShelves" "now" "LGlideShelves$State;") (by decide +kernel)
  have hinX6 : ∀ w ∈ u_ws RX6 TX6 5, w ∈ wsX8_wanted := by decide +kernel
  have hw3 := hts (.initialized RX3) (by decide +kernel)
  have hw4 := hts (.instanceMethod yX3_wantedOf) (by decide +kernel)
  have hw5 := hts (.selects RX3 yX3_wantedOf yX3_wantedOf) (by decide +kernel)
  have hl := lv_entry ([.ref (a 0), .int a1, .int a2]) (n := 3) (Nat.le_of_ble_eq_true rfl)
  rw [lg_entry_eq]
  generalize (lg_sl ([.ref (a 0), .int a1, .int a2]) ++ List.replicate (3 - (lg_sl ([.ref (a 0), .int a1, .int a2])).length) Slot.unset).toArray = ls at hl ⊢
  have hl : lv_has ls 3 [(0, .ref (a 0)), (1, .int a1), (2, .int a2)] := hl
  unfold fX8_wanted at hf
  refine lv_aload_n hx hb dX8_wanted_0 rfl (lv_at hl 0 rfl) ?_
  refine lv_iload_n hx hb dX8_wanted_1 rfl (lv_at hl 1 rfl) ?_
  obtain ⟨r2, hc2, hf⟩ := bi_s hf
  rcases r2 with E9 | r2
  · have e9 := so_e hf
    cases e9
  have hf := sel_r hf
  refine cROv (W.runV (As := [.int a1]) (rest := []) ⟨hx, hb, hml, hown, hts⟩ (n_X8_requireOrder l dC dI cI cZ cS f g a M a1  hc2) (cwV 1 hts gX8_wanted_X8_requireOrder rfl rfl rfl (by decide +kernel) ⟨Nat.le_of_ble_eq_true rfl, Nat.le_of_ble_eq_true rfl⟩) ⟨RO8.blind, va_recv hK hP (ci := 8) (q0 := 0) rfl rfl, RO8.pre hP hK hNW⟩ rfl rfl hl.1 rfl (lv_room (Nat.le_of_ble_eq_true rfl)) dX8_wanted_2 ⟨Nat.le_of_ble_eq_true rfl, Nat.le_of_ble_eq_true rfl⟩) ?_
  refine lv_aload_n hx hb dX8_wanted_5 rfl (lv_at hl 0 rfl) ?_
  refine lv_iload_n hx hb dX8_wanted_6 rfl (lv_at hl 2 rfl) ?_
  obtain ⟨r7, hc7, hf⟩ := bi_s hf
  rcases r7 with E9 | r7
  · have e9 := so_e hf
    cases e9
  have hf := sel_r hf
  refine cROv (W.runV (As := [.int a2]) (rest := []) ⟨hx, hb, hml, hown, hts⟩ (n_X8_requireKind l dC dI cI cZ cS f g a M a2  hc7) (cwV 1 hts gX8_wanted_X8_requireKind rfl rfl rfl (by decide +kernel) ⟨Nat.le_of_ble_eq_true rfl, Nat.le_of_ble_eq_true rfl⟩) ⟨RO8.blind, va_recv hK hP (ci := 8) (q0 := 0) rfl rfl, RO8.pre hP hK hNW⟩ rfl rfl hl.1 rfl (lv_room (Nat.le_of_ble_eq_true rfl)) dX8_wanted_7 ⟨Nat.le_of_ble_eq_true rfl, Nat.le_of_ble_eq_true rfl⟩) ?_
  refine lv_aload_n hx hb dX8_wanted_10 rfl (lv_at hl 0 rfl) ?_
  refine va_get (D := (dC, dI)) (ci := 8) (v := .ref (a 1)) (C := RX8) (T := TX8) (N := 6) hx hb hts hinX8 hown hK hP 0 rfl rfl 0 (by decide) hw1 (fun _ h9 => h9) rfl dX8_wanted_11 ?_
  refine va_getN (D := (dC, dI)) (ci := 6) (v := .ref (a 15)) (C := RX6) (T := TX6) (N := 5) hx hb hts hinX6 hown hK hP 1 rfl rfl 3 (by decide) (nw4 hNW) (fun _ h9 => h9) rfl dX8_wanted_14 ?_
  refine lv_iload_n hx hb dX8_wanted_17 rfl (lv_at hl 1 rfl) ?_
  refine lv_iload_n hx hb dX8_wanted_18 rfl (lv_at hl 2 rfl) ?_
  obtain ⟨r19, hc19, hf⟩ := bi_s hf
  have hPc := hP.sub (ws' := (wX3 cI cZ (ofs 15 a) (ofs 15 M))) [15, 16] rfl
  refine cRO (va_Run.run (va_runVN (As := [.int a1, .int a2]) (rest := []) ⟨hx, hb, hml, hown, hts⟩ (c_X3_wantedOf l dC dI cI cZ (ofs 15 a) (ofs 15 M) a1 a2 r19 hc19) ⟨va_cnB 2 hts gX8_wanted_X3_wantedOf_n326 rfl rfl rfl (nw72 hNW) hw3 (by decide +kernel) ⟨Nat.le_of_ble_eq_true rfl, Nat.le_of_ble_eq_true rfl⟩, hw4, hw5⟩ ⟨RO.blind, va_recv hK hP (ci := 3) (q0 := 15) rfl rfl, RO.pre hPc hK2 hNW⟩ rfl rfl hl.1 rfl (lv_room (Nat.le_of_ble_eq_true rfl)) dX8_wanted_19 ⟨Nat.le_of_ble_eq_true rfl, Nat.le_of_ble_eq_true rfl⟩)) ?_
  have e9 := so_e hf
  cases e9
  exact W.iret hx hb hr (fun t ht hW => ⟨rfl, ht⟩) fl0 dX8_wanted_22
set_option maxHeartbeats 4000000 in
set_option maxRecDepth 100000 in
theorem t_X8_requireOrder (l : Launch) (hst : l.stackTraces = false) (dC : Nat → ClassId) (dI : Nat → Nat → Nat) (cI cZ cS : ClassId) (f g : Nat → Option Nat) (a : Nat → Nat) (sz : Nat) (M : Mem) (a1 : Int32) (E : String) (hf : fX8_requireOrder M a1 = some (Sum.inl E)) : vx_Met l yX8_requireOrder wsX8_requireOrder ({ frames := 6, cells := 1, slots := 6, locals := 110 } : Room) (va_Pc [.ref (a 0), .int a1] (T8 (dC, dI) cI cZ cS (wX8 cI cZ cS f g a M) sz)) (fun _ _ _ _ => False) (vx_X (S := Unit) (fun _ => True) (fun E' _ t => E' = E ∧ WE (dC, dI) cI cZ (wX8 cI cZ cS f g a M) (va_A (wX8 cI cZ cS f g a M) sz) t) (va_A (wX8 cI cZ cS f g a M) sz)) 1 6 (va_A (wX8 cI cZ cS f g a M) sz) := by
  refine vx_ofW (cc := cX8_requireOrder) (maxL := 2) (ret := none) (by decide) rfl ?_
  intro p e s m args below meth c s₁ B hml htab hv
  obtain ⟨rfl, hsz, hP, hK, hD0, hNW, hEX⟩ := hv
  have hx := B.exec
  have hb := B.bytes
  have hr := B.returns
  have hts := atoms_spec (ws := wsX8_requireOrder) B.pre
  have hown : s.vm.findClass RX8 = some m.cls := findClass_of_methodNamed B.named
  have hlocks := B.notSynchronized
  have hK2 : va_K (dC, dI) vwCl [(cI, .int), (cZ, .boolean)] s := hK.sub (tys' := [(cI, .int), (cZ, .boolean)]) [0, 1] rfl
  have hw0 := hts (.classLink RX8 418 "java/lang/IndexOutOfBoundsException") (by decide +kernel)
  have hw1 := hts (.initialized "java/lang/IndexOutOfBoundsException") (by decide +kernel)
  have hsuf422 : ∀ w ∈ (vx_atS RX8 422 "java/lang/IndexOutOfBoundsException" ["java/lang/RuntimeException", "java/lang/Exception"]).filter goodWord, w.before _ s = true := fun w h => hts w (List.mem_cons_of_mem _ (List.mem_append_right _ h))
  have hinX8 : ∀ w ∈ u_ws RX8 TX8 6, w ∈ wsX8_requireOrder := by decide +kernel
  have hw4 := hts (.fieldLink RX8 12 "GlideShelves" "now" "LGlideShelves$State;") (by decide +kernel)
  have hinX6 : ∀ w ∈ u_ws RX6 TX6 5, w ∈ wsX8_requireOrder := by decide +kernel
  have hinX3 : ∀ w ∈ u_ws RX3 TX3 2, w ∈ wsX8_requireOrder := by decide +kernel
  subst hsz
  have hD := hD0.self (sz := s.heap.size)
  generalize hAe : va_A (wX8 cI cZ cS f g a M) s.heap.size = A at hD hEX ⊢
  have hA : ∀ q : Nat, s.heap.size ≤ q → A q := fun q h => by rw [← hAe]; exact Or.inr h
  have hS : va_S A s.heap s.heap [] := va_S.rf
  have hfX8_requireOrder_B18 : ∀ (_ : Unit), fX8_requireOrder_B18 M  () = some (Sum.inl E) → ∀ (ls : Array Slot), lv_has ls 2 [] → W p l e (headSpec wsX8_requireOrder ({ frames := 6, cells := 1, slots := 6, locals := 110 } : Room)).room s m ([.ref (a 0), .int a1] : List Value).toArray below meth c s.heap [] 0 0 (vx_MQ below (fun _ _ _ _ => False) (vx_X (S := Unit) (fun _ => True) (fun E' _ t => E' = E ∧ WE (dC, dI) cI cZ (wX8 cI cZ cS f g a M) A t) A) ([.ref (a 0), .int a1] : List Value).toArray s 1 6 A) (F0 m 18 ls []) := by
    intro  _ hf ls hl
    unfold fX8_requireOrder_B18 at hf
    have e9 := so_e hf
    cases e9
    obtain ⟨sa, hsa⟩ := hEX.2.2 (RX8, 429, "there is no such order") (List.mem_of_getElem? (i := 26) rfl)
    exact vx_throwSW (cls := "java/lang/IndexOutOfBoundsException") (text := "there is no such order") (names := ["java/lang/RuntimeException", "java/lang/Exception"]) (ik := 418) (is := 429) (ic := 422) (sa := sa) hx hb hst hown (by decide +kernel) (by decide +kernel) hw0 hw1 hsa (hat_422 hsuf422 hNW) (by decide +kernel) hEX.1 hEX.2.1 hS (hl.1.trans hml.symm) dX8_requireOrder_18 dX8_requireOrder_21 dX8_requireOrder_22 dX8_requireOrder_25 dX8_requireOrder_28 (fun x h => (htab x h).elim) (by decide) (by decide) (Nat.le_of_ble_eq_true rfl) (Nat.le_of_ble_eq_true rfl) hlocks (fun t hal hz hk => ⟨(), trivial, ⟨rfl, WE.th hP hD hz hk⟩, S_ext hS hz hk⟩) hS.2.2 (Nat.le_of_ble_eq_true rfl) (Nat.le_of_ble_eq_true rfl)
  have hl := lv_entry ([.ref (a 0), .int a1]) (n := 2) (Nat.le_of_ble_eq_true rfl)
  rw [lg_entry_eq]
  generalize (lg_sl ([.ref (a 0), .int a1]) ++ List.replicate (2 - (lg_sl ([.ref (a 0), .int a1])).length) Slot.unset).toArray = ls at hl ⊢
  have hl : lv_has ls 2 [(0, .ref (a 0)), (1, .int a1)] := hl
  unfold fX8_requireOrder at hf
  refine lv_iload_n hx hb dX8_requireOrder_0 rfl (lv_at hl 1 rfl) ?_
  refine lv_if_lt (tgt := 18) hx hb dX8_requireOrder_1 (by decide) (fun c9 => ?_) (fun c9 => ?_)
  · have hf := it_t hf c9
    exact hfX8_requireOrder_B18  () hf _ (lv_sub hl [] rfl)
  · have hf := it_f hf c9
    refine lv_iload_n hx hb dX8_requireOrder_4 rfl (lv_at hl 1 rfl) ?_
    refine lv_aload_n hx hb dX8_requireOrder_5 rfl (lv_at hl 0 rfl) ?_
    refine va_get (D := (dC, dI)) (ci := 8) (v := .ref (a 1)) (C := RX8) (T := TX8) (N := 6) hx hb hts hinX8 hown hK hP 0 rfl rfl 0 (by decide) hw4 (fun _ h9 => h9) rfl dX8_requireOrder_6 ?_
    refine va_getN (D := (dC, dI)) (ci := 6) (v := .ref (a 15)) (C := RX6) (T := TX6) (N := 5) hx hb hts hinX6 hown hK hP 1 rfl rfl 3 (by decide) (nw4 hNW) (fun _ h9 => h9) rfl dX8_requireOrder_9 ?_
    refine va_getN (D := (dC, dI)) (ci := 3) (v := .int (M 15 0)) (C := RX3) (T := TX3) (N := 2) hx hb hts hinX3 hown hK hP 15 rfl rfl 0 (by decide) (nw5 hNW) (fun _ h9 => h9) rfl dX8_requireOrder_12 ?_
    refine lv_icmp_lt (tgt := 29) hx hb dX8_requireOrder_15 (by decide) (fun c9 => ?_) (fun c9 => ?_)
    · have hf := it_t hf c9
      have e9 := so_e hf
      cases e9
    · have hf := it_f hf c9
      exact hfX8_requireOrder_B18  () hf _ (lv_sub hl [] rfl)
