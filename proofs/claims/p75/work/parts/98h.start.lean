theorem hs0_S : fS (fun _ => none) = (fun _ => none) := by
  funext i
  unfold fS fA
  by_cases h : i < 6
  · rw [if_pos h]; rfl
  · rw [if_neg h]
theorem hs0_G : fG (fun _ => none) = (fun _ => none) := by
  funext i
  unfold fG fA
  by_cases h : i < 2
  · first | rfl | (rw [if_pos h]; rfl) | simp
  · first | rfl | (rw [if_neg h]) | simp
theorem hs0_w (cI cZ cS : ClassId) (a : Nat → Nat) (M : Mem) : wX8 cI cZ cS (fun _ => none) (fun _ => none) a M = wX8 cI cZ cS (fS (fun _ => none)) (fG (fun _ => none)) a M := by
  rw [hs0_S, hs0_G]
set_option maxHeartbeats 4000000 in
set_option maxRecDepth 100000 in
theorem law_start {p : Program} {e : Env} {s : State} {m : MethodId} {below : List Frame} {meth : Method} {c : Code} (l : Launch) {b L : Nat} {xs : Nat → Int32} (hL : L ≤ 260) (C0 : lw_At p s m meth c b L xs) : W p l e room_1 s m #[Value.ref b] below meth c s.heap [] 0 0 (lw_Z below #[Value.ref b] s) (entryFrame m ([Value.ref b] : List Value).toArray 12) := by
  obtain ⟨hx, hb, hr, hml, hown, htt, hX, hbl, hlocks, hgv⟩ := id C0
  have hA : ∀ q : Nat, s.heap.size ≤ q → (fun q : Nat => s.heap.size ≤ q) q := fun _ h => h
  have hbA : ¬ (fun q : Nat => s.heap.size ≤ q) b := Nat.not_le.mpr hbl
  obtain ⟨dC, dI, cI, cZ, cS, hK, hNW, hAO⟩ := law_pre htt
  have hts : ∀ w ∈ wsL_law, w.before #[Value.ref b] s = true := fun w h => htt w (wsL_law_in w h)
  have X0 : LCx p s m c b L xs dC dI cI cZ cS (fun q : Nat => s.heap.size ≤ q) := ⟨hx, hb, hml, hown, hts, hK, hNW, hA, hX, hbl, hbA, by omega⟩
  obtain ⟨z8, h8, i1, i2, i3, i4, i5, i6, z9, i7, i8, hI⟩ := xj_init
  have hS : va_S (fun q : Nat => s.heap.size ≤ q) s.heap s.heap [] := va_S.rf
  have hP : va_P (dC, dI) vwCl [] s.heap := fun k q h => by simp at h
  have hD : va_D (fun q : Nat => s.heap.size ≤ q) [] := ⟨fun i j p q h => by simp at h, fun k q h => by simp at h⟩
  have hl := lv_entry ([.ref b]) (n := 12) (Nat.le_of_ble_eq_true rfl)
  rw [lg_entry_eq]
  generalize (lg_sl ([.ref b]) ++ List.replicate (12 - (lg_sl ([.ref b])).length) Slot.unset).toArray = ls at hl ⊢
  have hl : lv_has ls 12 [(0, .ref b)] := hl
  refine va_new (ci := 8) (fs := [.null, .null, .null, .null, .null, .null]) (C := RX8) (T := TX8) (N := 6) hx hb htt cinX8 tyX8 tyX8_ok hown (tw htt (List.mem_append_right _ (List.mem_of_getElem? (i := 19) (by decide +kernel)))) (tw htt (List.mem_append_right _ (List.mem_of_getElem? (i := 20) (by decide +kernel)))) (tw htt (List.mem_append_right _ (List.mem_of_getElem? (i := 1) (by decide +kernel)))) hK hP hD hS hA rfl (fun j hj => by rcases (show j = 0 ∨ j = 1 ∨ j = 2 ∨ j = 3 ∨ j = 4 ∨ j = 5 by omega) with rfl | rfl | rfl | rfl | rfl | rfl <;> rfl) (by decide) (by decide) dL_law_0 (fun q8 H hP hD hS => ?_)
  have hP : va_P (dC, dI) vwCl [(q8, .inr (8, [.null, .null, .null, .null, .null, .null]))] H := hP
  have hD : va_D (fun q : Nat => s.heap.size ≤ q) [(q8, .inr (8, [.null, .null, .null, .null, .null, .null]))] := hD
  refine lv_dup hx hb dL_law_3 rfl ?_
  have hFc := va_free (wc := [(q8, .inr (8, [.null, .null, .null, .null, .null, .null]))]) hD hS hA [0] rfl
  refine va_callv (va_runI (As := []) (rest := [.ref q8]) ⟨hx, hb, hml, hown, hts⟩ (c_X8_init l dC dI cI cZ cS q8 H.size z8 h8) (cwI 0 hts gL_law_X8_init rfl rfl rfl (tw htt (List.mem_append_right _ (List.mem_of_getElem? (i := 1) (by decide +kernel)))) (tw htt (List.mem_append_right _ (List.mem_of_getElem? (i := 21) (by decide +kernel)))) (tw htt (List.mem_append_right _ (List.mem_of_getElem? (i := 22) (by decide +kernel)))) rfl (by decide +kernel) ⟨Nat.le_of_ble_eq_true rfl, Nat.le_of_ble_eq_true rfl⟩) ⟨WC.blind, WC.pre hP hK hD hNW hAO⟩ rfl rfl hl.1 rfl (lv_room (Nat.le_of_ble_eq_true rfl)) dL_law_4 ⟨by decide, by decide⟩) hS (fun q _ h => hFc q h) hFc (fun a t H1 locs ht hvm hbb hB hz1 hk1 hS => ?_)
  obtain ⟨hP1, hD1⟩ := hB
  rw [ht] at hP1
  try dsimp only at hbb
  obtain ⟨hPj, hDj⟩ := va_join (wr := []) (w1 := (wX8 cI cZ cS (fun _ => none) (fun _ => none) a z8)) hP hD [0] [] rfl rfl (by decide) (by decide) hk1 hFc hP1 hD1
  subst hbb
  generalize H1 = H at hPj hS ⊢
  have hP : va_P (dC, dI) vwCl (wX8 cI cZ cS (fun _ => none) (fun _ => none) a z8) H := hPj
  have hD : va_D (fun q : Nat => s.heap.size ≤ q) (wX8 cI cZ cS (fun _ => none) (fun _ => none) a z8) := hDj
  refine lv_astore_n (lv' := [(1, .ref (a 0)), (0, .ref b)]) hx hb dL_law_7 rfl hl (by decide) rfl (fun ls hl => ?_)
  rw [hs0_w] at hP hD
  have hP : va_P (dC, dI) vwCl ((wX8 cI cZ cS (fS (fun _ => none)) (fG (fun _ => none)) a z8) ++ RW cI cZ (fun _ => none)) H := (hP.sub (ws' := (wX8 cI cZ cS (fS (fun _ => none)) (fG (fun _ => none)) a z8)) [0, 1, 2, 3, 4, 5, 6, 7, 8, 9, 10, 11, 12, 13, 14, 15, 16, 17, 18, 19, 20, 21, 22, 23, 24, 25, 26, 27, 28, 29, 30, 31, 32, 33, 34, 35, 36, 37, 38, 39, 40, 41] rfl).app (fun k q h => by cases (List.getElem?_eq_some_iff.mp h).1)
  have hD : va_D (fun q : Nat => s.heap.size ≤ q) ((wX8 cI cZ cS (fS (fun _ => none)) (fG (fun _ => none)) a z8) ++ RW cI cZ (fun _ => none)) := by
    have h1 := hD.sub (ws' := (wX8 cI cZ cS (fS (fun _ => none)) (fG (fun _ => none)) a z8)) [0, 1, 2, 3, 4, 5, 6, 7, 8, 9, 10, 11, 12, 13, 14, 15, 16, 17, 18, 19, 20, 21, 22, 23, 24, 25, 26, 27, 28, 29, 30, 31, 32, 33, 34, 35, 36, 37, 38, 39, 40, 41] (by decide) rfl
    show va_D _ ((wX8 cI cZ cS (fS (fun _ => none)) (fG (fun _ => none)) a z8) ++ [])
    rw [List.append_nil]
    exact h1
  refine lv_aload_n hx hb dL_law_8 rfl (lv_at hl 0 rfl) ?_
  have hPc := (P_app hP).1
  refine cRO (W.runV (As := []) (rest := []) ⟨hx, hb, hml, hown, hts⟩ (c_X8_savedStates l dC dI cI cZ cS (fS (fun _ => none)) (fG (fun _ => none)) a z8 (nI 0) i1) (cwV 0 hts gL_law_X8_savedStates rfl rfl rfl (by decide +kernel) ⟨Nat.le_of_ble_eq_true rfl, Nat.le_of_ble_eq_true rfl⟩) ⟨RO8.blind, va_recv hK hP (ci := 8) (q0 := 0) rfl rfl, RO8.pre hPc hK hNW⟩ rfl rfl hl.1 rfl (lv_room (Nat.le_of_ble_eq_true rfl)) dL_law_9 ⟨by decide, by decide⟩) ?_
  refine lv_if_ne (tgt := 69) hx hb dL_law_12 (by decide) (fun c9 => absurd rfl c9) (fun c9 => ?_)
  refine lv_aload_n hx hb dL_law_15 rfl (lv_at hl 0 rfl) ?_
  have hPc := (P_app hP).1
  refine cRO (W.runV (As := []) (rest := []) ⟨hx, hb, hml, hown, hts⟩ (c_X8_shelves l dC dI cI cZ cS (fS (fun _ => none)) (fG (fun _ => none)) a z8 (nI 0) i2) (cwV 0 hts gL_law_X8_shelves rfl rfl rfl (by decide +kernel) ⟨Nat.le_of_ble_eq_true rfl, Nat.le_of_ble_eq_true rfl⟩) ⟨RO8.blind, va_recv hK hP (ci := 8) (q0 := 0) rfl rfl, RO8.pre hPc hK hNW⟩ rfl rfl hl.1 rfl (lv_room (Nat.le_of_ble_eq_true rfl)) dL_law_16 ⟨by decide, by decide⟩) ?_
  refine lv_if_ne (tgt := 69) hx hb dL_law_19 (by decide) (fun c9 => absurd rfl c9) (fun c9 => ?_)
  refine lv_aload_n hx hb dL_law_22 rfl (lv_at hl 0 rfl) ?_
  have hPc := (P_app hP).1
  refine cRO (W.runV (As := []) (rest := []) ⟨hx, hb, hml, hown, hts⟩ (c_X8_freeBySlots l dC dI cI cZ cS (fS (fun _ => none)) (fG (fun _ => none)) a z8 (nI 40) i3) (cwV 0 hts gL_law_X8_freeBySlots rfl rfl rfl (by decide +kernel) ⟨Nat.le_of_ble_eq_true rfl, Nat.le_of_ble_eq_true rfl⟩) ⟨RO8.blind, va_recv hK hP (ci := 8) (q0 := 0) rfl rfl, RO8.pre hPc hK hNW⟩ rfl rfl hl.1 rfl (lv_room (Nat.le_of_ble_eq_true rfl)) dL_law_23 ⟨by decide, by decide⟩) ?_
  refine lv_bipush (v := (40 : Int32)) hx hb dL_law_26 (by decide) ?_
  refine lv_icmp_ne (tgt := 69) hx hb dL_law_28 (by decide) (fun c9 => absurd rfl c9) (fun c9 => ?_)
  refine lv_aload_n hx hb dL_law_31 rfl (lv_at hl 0 rfl) ?_
  refine lv_iconst (v := (4 : Int32)) hx hb dL_law_32 (by decide) ?_
  have hPc := (P_app hP).1
  refine cRO (W.runV (As := [.int (4 : Int32)]) (rest := []) ⟨hx, hb, hml, hown, hts⟩ (n_X8_firstPlace l dC dI cI cZ cS (fS (fun _ => none)) (fG (fun _ => none)) a z8 ((4 : Int32)) (nI 0) i4) (cwV 1 hts gL_law_X8_firstPlace rfl rfl rfl (by decide +kernel) ⟨Nat.le_of_ble_eq_true rfl, Nat.le_of_ble_eq_true rfl⟩) ⟨RO8.blind, va_recv hK hP (ci := 8) (q0 := 0) rfl rfl, RO8.pre hPc hK hNW⟩ rfl rfl hl.1 rfl (lv_room (Nat.le_of_ble_eq_true rfl)) dL_law_33 ⟨by decide, by decide⟩) ?_
  refine lv_if_ne (tgt := 69) hx hb dL_law_36 (by decide) (fun c9 => absurd rfl c9) (fun c9 => ?_)
  refine lv_aload_n hx hb dL_law_39 rfl (lv_at hl 0 rfl) ?_
  have hPc := (P_app hP).1
  refine cRO (W.runV (As := []) (rest := []) ⟨hx, hb, hml, hown, hts⟩ (c_X8_lift l dC dI cI cZ cS (fS (fun _ => none)) (fG (fun _ => none)) a z8 (nI 0) i5) (cwV 0 hts gL_law_X8_lift rfl rfl rfl (by decide +kernel) ⟨Nat.le_of_ble_eq_true rfl, Nat.le_of_ble_eq_true rfl⟩) ⟨RO8.blind, va_recv hK hP (ci := 8) (q0 := 0) rfl rfl, RO8.pre hPc hK hNW⟩ rfl rfl hl.1 rfl (lv_room (Nat.le_of_ble_eq_true rfl)) dL_law_40 ⟨by decide, by decide⟩) ?_
  refine lv_if_ne (tgt := 69) hx hb dL_law_43 (by decide) (fun c9 => absurd rfl c9) (fun c9 => ?_)
  refine lv_aload_n hx hb dL_law_46 rfl (lv_at hl 0 rfl) ?_
  have hPc := (P_app hP).1
  refine cRO (W.runV (As := []) (rest := []) ⟨hx, hb, hml, hown, hts⟩ (c_X8_isKeptPlace l dC dI cI cZ cS (fS (fun _ => none)) (fG (fun _ => none)) a z8 (nI 1) i6) (cwV 0 hts gL_law_X8_isKeptPlace rfl rfl rfl (by decide +kernel) ⟨Nat.le_of_ble_eq_true rfl, Nat.le_of_ble_eq_true rfl⟩) ⟨RO8.blind, va_recv hK hP (ci := 8) (q0 := 0) rfl rfl, RO8.pre hPc hK hNW⟩ rfl rfl hl.1 rfl (lv_room (Nat.le_of_ble_eq_true rfl)) dL_law_47 ⟨by decide, by decide⟩) ?_
  refine lv_if_eq (tgt := 69) hx hb dL_law_50 (by decide) (fun c9 => absurd c9 (nI_ne0 (n := 1) (by omega) (by omega))) (fun c9 => ?_)
  refine lv_aload_n hx hb dL_law_53 rfl (lv_at hl 0 rfl) ?_
  have hPc := (P_app hP).1
  have hDc := (D_split hD).1
  have hFc := va_free (wc := (wX8 cI cZ cS (fS (fun _ => none)) (fG (fun _ => none)) a z8)) hD hS hA [0, 1, 2, 3, 4, 5, 6, 7, 8, 9, 10, 11, 12, 13, 14, 15, 16, 17, 18, 19, 20, 21, 22, 23, 24, 25, 26, 27, 28, 29, 30, 31, 32, 33, 34, 35, 36, 37, 38, 39, 40, 41] rfl
  refine va_calli (va_runV (As := []) (rest := []) ⟨hx, hb, hml, hown, hts⟩ (n_X8_servable l dC dI cI cZ cS (fS (fun _ => none)) (fG (fun _ => none)) a H.size z8 (nI 0) z9 i7) (cwV 0 hts gL_law_X8_servable rfl rfl rfl (by decide +kernel) ⟨Nat.le_of_ble_eq_true rfl, Nat.le_of_ble_eq_true rfl⟩) ⟨WR8.blind, va_recv hK hP (ci := 8) (q0 := 0) rfl rfl, WR8.pre hPc hK hDc hNW⟩ rfl rfl hl.1 rfl (lv_room (Nat.le_of_ble_eq_true rfl)) dL_law_54 ⟨by decide, by decide⟩) hS (fun q _ h => hFc q h) hFc (fun rv u t H1 locs ht hvm hw hB hz1 hk1 hS => ?_)
  obtain ⟨hP1, hD1⟩ := hB
  rw [ht] at hP1
  subst hw
  obtain ⟨hP, hD⟩ := join_app (ws := (wX8 cI cZ cS (fS (fun _ => none)) (fG (fun _ => none)) a z8)) (wr := []) (w1 := _) hP hD [0, 1, 2, 3, 4, 5, 6, 7, 8, 9, 10, 11, 12, 13, 14, 15, 16, 17, 18, 19, 20, 21, 22, 23, 24, 25, 26, 27, 28, 29, 30, 31, 32, 33, 34, 35, 36, 37, 38, 39, 40, 41] [] rfl rfl (by decide) (by decide) hk1 hFc hP1 hD1
  have hP : va_P (dC, dI) vwCl ((wX8 cI cZ cS (fS (fun _ => none)) (fG (fun _ => none)) a (sr (sr (sr (sr (sr (sr (sr (sr (sr (sr (sr (sr (sr (sr (sr z8 17 (z9 17)) 18 (z9 18)) 19 (z9 19)) 20 (z9 20)) 21 (z9 21)) 22 (z9 22)) 23 (z9 23)) 24 (z9 24)) 25 (z9 25)) 27 (z9 27)) 28 (z9 28)) 29 (z9 29)) 30 (z9 30)) 31 (z9 31)) 32 (z9 32))) ++ RW cI cZ (fun _ => none)) H1 := hP
  have hD : va_D (fun q : Nat => s.heap.size ≤ q) ((wX8 cI cZ cS (fS (fun _ => none)) (fG (fun _ => none)) a (sr (sr (sr (sr (sr (sr (sr (sr (sr (sr (sr (sr (sr (sr (sr z8 17 (z9 17)) 18 (z9 18)) 19 (z9 19)) 20 (z9 20)) 21 (z9 21)) 22 (z9 22)) 23 (z9 23)) 24 (z9 24)) 25 (z9 25)) 27 (z9 27)) 28 (z9 28)) 29 (z9 29)) 30 (z9 30)) 31 (z9 31)) 32 (z9 32))) ++ RW cI cZ (fun _ => none)) := hD
  generalize H1 = H at hP hS ⊢
  refine lv_if_ne (tgt := 69) hx hb dL_law_57 (by decide) (fun c9 => absurd rfl c9) (fun c9 => ?_)
  refine lv_aload_n hx hb dL_law_60 rfl (lv_at hl 0 rfl) ?_
  have hPc := (P_app hP).1
  refine cRO (W.runV (As := []) (rest := []) ⟨hx, hb, hml, hown, hts⟩ (c_X8_meanTicks l dC dI cI cZ cS (fS (fun _ => none)) (fG (fun _ => none)) a (sr (sr (sr (sr (sr (sr (sr (sr (sr (sr (sr (sr (sr (sr (sr z8 17 (z9 17)) 18 (z9 18)) 19 (z9 19)) 20 (z9 20)) 21 (z9 21)) 22 (z9 22)) 23 (z9 23)) 24 (z9 24)) 25 (z9 25)) 27 (z9 27)) 28 (z9 28)) 29 (z9 29)) 30 (z9 30)) 31 (z9 31)) 32 (z9 32)) FP.dconst0 i8) (cwV 0 hts gL_law_X8_meanTicks rfl rfl rfl (by decide +kernel) ⟨Nat.le_of_ble_eq_true rfl, Nat.le_of_ble_eq_true rfl⟩) ⟨RO8.blind, va_recv hK hP (ci := 8) (q0 := 0) rfl rfl, RO8.pre hPc hK hNW⟩ rfl rfl hl.1 rfl (lv_room (Nat.le_of_ble_eq_true rfl)) dL_law_61 ⟨by decide, by decide⟩) ?_
  refine lv_dconst0 hx hb dL_law_64 ?_
  refine lv_dcmp hx hb dL_law_65 ?_
  refine lv_if_eq (tgt := 71) hx hb dL_law_66 (by decide) (fun c9 => ?_) (fun c9 => absurd (by decide) c9)
  refine lv_iconst (v := (0 : Int32)) hx hb dL_law_71 (by decide) ?_
  refine lv_istore_n (lv' := [(2, .int (0 : Int32)), (1, .ref (a 0)), (0, .ref b)]) hx hb dL_law_72 rfl hl (by decide) rfl (fun ls hl => ?_)
  refine lw_loop X0 (Q := lw_Z below #[Value.ref b] s) (fun H locs cells slots ls hlo hc hs => ?_) 40 0 rfl (fun _ => none) _ hI ls H _ _ _ (by decide) (by decide) (lv_sub hl [0, 2, 1] rfl) hP hD hS
  refine lv_iconst (v := (1 : Int32)) hx hb dL_law_301 (by decide) ?_
  refine va_forget (fun q hq => hlo q hq) ?_
  refine W.widen (k := 600172) (n := 7300668) hc hs ?_
  refine W.base ?_
  exact lw_ret (Drawn.sameBut.refl s.drawn lw_cs) hx hb hr hlocks dL_law_302
