set_option maxHeartbeats 4000000 in
set_option maxRecDepth 100000 in
theorem lc_shelves {p : Program} {l : Launch} {e : Env} {s : State} {m : MethodId} {below : List Frame} {meth : Method} {c : Code} {b L : Nat} {xs : Nat → Int32} {dC : Nat → ClassId} {dI : Nat → Nat → Nat} {cI cZ cS cL : ClassId} {A : Nat → Prop} {a am : Nat → Nat} {o : Nat} {Q : State → Prop} (X0 : LCx p l s m c b L xs dC dI cI cZ cS cL A) {Inv : Nat → (Nat → Option Mem) → Mem → Mem → Prop} (hSt : St_shelves Inv) {n : Nat} (hn : n < 512) (hnL : 3 * n + 2 < L) (hL : L ≤ 1536) {hs : HS} {fl : Nat → Int64} {M K : Mem} (hI : Inv n (cts hs) M K) {ls : Array Slot} {H : Heap} {locs : List Loc} {cells slots : Nat} (hcs : cells + 17 ≤ 601024) (hss : slots + 322 ≤ 7293034) (hl : lv_has ls 9 [(0, .ref b), (1, .ref (a 0)), (2, .ref (am 0)), (3, .ref o), (4, .int (nI (3 * n)))]) (hP : va_P (dC, dI) vwCl (wLaw cI cZ cS cL hs o fl a M am K ++ RW cI cZ hs) H) (hD : va_D A (wLaw cI cZ cS cL hs o fl a M am K ++ RW cI cZ hs)) (hS : va_S A s.heap H locs) (kk9 : ∀ (hs' : HS) (fl' : Nat → Int64) (M' K' : Mem) (ls : Array Slot) (H : Heap) (locs : List Loc), Inv (n + 1) (cts hs') M' K' → lv_has ls 9 [(0, .ref b), (1, .ref (a 0)), (2, .ref (am 0)), (3, .ref o), (4, .int (nI (3 * n)))] → va_P (dC, dI) vwCl (wLaw cI cZ cS cL hs' o fl' a M' am K' ++ RW cI cZ hs') H → va_D A (wLaw cI cZ cS cL hs' o fl' a M' am K' ++ RW cI cZ hs') → va_S A s.heap H locs → W p l e room_1 s m #[Value.ref b] below meth c H locs (cells + 17) (slots + 322) Q (F0 m 3556 ls [])) : W p l e room_1 s m #[Value.ref b] below meth c H locs cells slots Q (F0 m 1340 ls []) := by
  obtain ⟨hx, hb, hml, hown, hts, hK, hNW, hEX, hNC, hA, hXs, hbl, hbA, hst⟩ := X0
  have hK8 : va_K (dC, dI) vwCl (tys8 cI cZ cS) s := hK.sub (tys' := tys8 cI cZ cS) [0, 1, 2] rfl
  have hK2 : va_K (dC, dI) vwCl [(cI, .int), (cZ, .boolean)] s := hK.sub (tys' := [(cI, .int), (cZ, .boolean)]) [0, 1] rfl
  obtain ⟨z, y, hf8, hf9, hEq, hI9⟩ := hSt n (cts hs) M K hn hI
  refine lv_aload_n hx hb dL_law_1340 rfl (lv_at hl 1 rfl) ?_
  have hPc := P_head (ws := (wLaw cI cZ cS cL hs o fl a M am K)) (ws' := (wX8 cI cZ cS (fS hs) (fG hs) a M)) hP [1, 2, 3, 4, 5, 6, 7, 8, 9, 10, 11, 12, 13, 14, 15, 16, 17, 18, 19, 20, 21, 22, 23, 24, 25, 26, 27, 28, 29, 30, 31, 32, 33, 34, 35, 36, 37, 38, 39, 40, 41, 42] rfl
  refine cRO (W.runV (As := []) (rest := []) ⟨hx, hb, hml, hown, hts⟩ (c_X8_shelves l dC dI cI cZ cS (fS hs) (fG hs) a M (z) hf8) (cwV 0 hts gL_law_X8_shelves rfl rfl rfl (by decide +kernel) ⟨Nat.le_of_ble_eq_true rfl, Nat.le_of_ble_eq_true rfl⟩) ⟨RO8.blind, va_recv hK hP (ci := 8) (q0 := 1) rfl rfl, RO8.pre hPc hK8 hNW⟩ rfl rfl hl.1 rfl (lv_room (Nat.le_of_ble_eq_true rfl)) dL_law_1341 ⟨by show cells + 0 ≤ 601024; omega, by show slots + 0 ≤ 7293034; omega⟩) ?_
  refine lv_aload_n hx hb dL_law_1344 rfl (lv_at hl 2 rfl) ?_
  have hPc := P_head (ws := (wLaw cI cZ cS cL hs o fl a M am K)) (ws' := (wX9 cI cZ am K)) hP [43, 44, 45, 46, 47, 48, 49, 50, 51] rfl
  have hDc := D_head (ws := (wLaw cI cZ cS cL hs o fl a M am K)) (ws' := (wX9 cI cZ am K)) hD [43, 44, 45, 46, 47, 48, 49, 50, 51] (by decide) rfl
  have hFc := va_free (wc := (wX9 cI cZ am K)) hD hS hA [43, 44, 45, 46, 47, 48, 49, 50, 51] rfl
  refine va_calli (va_runV (As := []) (rest := [.int z]) ⟨hx, hb, hml, hown, hts⟩ (c_X9_shelves l dC dI cI cZ am H.size K y hf9) (cwV 0 hts gL_law_X9_shelves rfl rfl rfl (by decide +kernel) ⟨Nat.le_of_ble_eq_true rfl, Nat.le_of_ble_eq_true rfl⟩) ⟨WR.blind, va_recv hK hP (ci := 9) (q0 := 43) rfl rfl, WR.pre hPc hK2 hDc hNW⟩ rfl rfl hl.1 rfl (lv_room (Nat.le_of_ble_eq_true rfl)) dL_law_1345 ⟨by show _ + 0 ≤ 601024; omega, by show _ + 0 ≤ 7293034; omega⟩) hS (fun q _ h => hFc q h) hFc (fun rv u t H1 locs ht hvm hw hB hz1 hk1 hS => ?_)
  obtain ⟨hP1, hD1⟩ := hB
  rw [ht] at hP1
  rw [hw]
  obtain ⟨hP, hD⟩ := join_app (ws := (wLaw cI cZ cS cL hs o fl a M am K)) (wr := (wL cI cZ cS cL (fS hs) (fG hs) o fl a M)) (w1 := (wX9 cI cZ am (sr K 0 (y.2 0)))) hP hD [43, 44, 45, 46, 47, 48, 49, 50, 51] [0, 1, 2, 3, 4, 5, 6, 7, 8, 9, 10, 11, 12, 13, 14, 15, 16, 17, 18, 19, 20, 21, 22, 23, 24, 25, 26, 27, 28, 29, 30, 31, 32, 33, 34, 35, 36, 37, 38, 39, 40, 41, 42] rfl rfl (by decide) (by decide) hk1 hFc hP1 hD1
  have hP : va_P (dC, dI) vwCl ((wLaw cI cZ cS cL hs o fl a M am (sr K 0 (y.2 0))) ++ RW cI cZ hs) H1 := hP
  have hD : va_D A ((wLaw cI cZ cS cL hs o fl a M am (sr K 0 (y.2 0))) ++ RW cI cZ hs) := hD
  generalize H1 = H at hP hS ⊢
  refine lv_icmp_eq (tgt := 3556) hx hb dL_law_1348 (by decide) (fun c9 => ?_) (fun c9 => absurd hEq c9)
  refine W.widen (k := cells + 17) (n := slots + 322) (by omega) (by omega) ?_
  exact kk9 hs fl _ _ _ H locs hI9 (lv_sub hl [0, 1, 2, 3, 4] rfl) hP hD hS
set_option maxHeartbeats 4000000 in
set_option maxRecDepth 100000 in
theorem lc_heightOf {p : Program} {l : Launch} {e : Env} {s : State} {m : MethodId} {below : List Frame} {meth : Method} {c : Code} {b L : Nat} {xs : Nat → Int32} {dC : Nat → ClassId} {dI : Nat → Nat → Nat} {cI cZ cS cL : ClassId} {A : Nat → Prop} {a am : Nat → Nat} {o : Nat} {Q : State → Prop} (X0 : LCx p l s m c b L xs dC dI cI cZ cS cL A) {Inv : Nat → (Nat → Option Mem) → Mem → Mem → Prop} (hSt : St_heightOf Inv) {n : Nat} (hn : n < 512) (hnL : 3 * n + 2 < L) (hL : L ≤ 1536) {hs : HS} {fl : Nat → Int64} {M K : Mem} (hI : Inv n (cts hs) M K) {ls : Array Slot} {H : Heap} {locs : List Loc} {cells slots : Nat} (hcs : cells + 17 ≤ 601024) (hss : slots + 322 ≤ 7293034) (hl : lv_has ls 9 [(0, .ref b), (1, .ref (a 0)), (2, .ref (am 0)), (3, .ref o), (4, .int (nI (3 * n)))]) (hP : va_P (dC, dI) vwCl (wLaw cI cZ cS cL hs o fl a M am K ++ RW cI cZ hs) H) (hD : va_D A (wLaw cI cZ cS cL hs o fl a M am K ++ RW cI cZ hs)) (hS : va_S A s.heap H locs) (kk9 : ∀ (hs' : HS) (fl' : Nat → Int64) (M' K' : Mem) (ls : Array Slot) (H : Heap) (locs : List Loc), Inv (n + 1) (cts hs') M' K' → lv_has ls 9 [(0, .ref b), (1, .ref (a 0)), (2, .ref (am 0)), (3, .ref o), (4, .int (nI (3 * n)))] → va_P (dC, dI) vwCl (wLaw cI cZ cS cL hs' o fl' a M' am K' ++ RW cI cZ hs') H → va_D A (wLaw cI cZ cS cL hs' o fl' a M' am K' ++ RW cI cZ hs') → va_S A s.heap H locs → W p l e room_1 s m #[Value.ref b] below meth c H locs (cells + 17) (slots + 322) Q (F0 m 3556 ls [])) : W p l e room_1 s m #[Value.ref b] below meth c H locs cells slots Q (F0 m 1353 ls []) := by
  obtain ⟨hx, hb, hml, hown, hts, hK, hNW, hEX, hNC, hA, hXs, hbl, hbA, hst⟩ := X0
  have hK8 : va_K (dC, dI) vwCl (tys8 cI cZ cS) s := hK.sub (tys' := tys8 cI cZ cS) [0, 1, 2] rfl
  have hK2 : va_K (dC, dI) vwCl [(cI, .int), (cZ, .boolean)] s := hK.sub (tys' := [(cI, .int), (cZ, .boolean)]) [0, 1] rfl
  obtain ⟨r, kk, y, hf8, hA9, hf9, h9k, hval, hI9⟩ := hSt n (cts hs) M K (xs (3 * n + 1)) hn hI
  refine lv_aload_n hx hb dL_law_1353 rfl (lv_at hl 1 rfl) ?_
  refine lv_aload_n hx hb dL_law_1354 rfl (lv_at hl 0 rfl) ?_
  refine lv_iload hx hb dL_law_1355 (lv_at hl 4 rfl) ?_
  refine lv_iconst (v := (1 : Int32)) hx hb dL_law_1357 (by decide) ?_
  refine lv_iadd hx hb dL_law_1358 ?_
  rw [show nI (3 * n) + (1 : Int32) = nI (3 * n + 1) from nI_add (3 * n) 1]
  refine va_sld hx hb hXs hbl hbA hS (vp_in_nI (by omega) (by omega)) dL_law_1359 ?_
  rw [nI_clamp (show 3 * n + 1 < 2 ^ 31 by omega)]
  refine lv_aload_n hx hb dL_law_1360 rfl (lv_at hl 3 rfl) ?_
  have hPc := hP.part (X := (wLaw cI cZ cS cL hs o fl a M am K)) (cx := (wL cI cZ cS cL (fS hs) (fG hs) o fl a M)) [0, 1, 2, 3, 4, 5, 6, 7, 8, 9, 10, 11, 12, 13, 14, 15, 16, 17, 18, 19, 20, 21, 22, 23, 24, 25, 26, 27, 28, 29, 30, 31, 32, 33, 34, 35, 36, 37, 38, 39, 40, 41, 42] rfl
  have hDc := hD.part (X := (wLaw cI cZ cS cL hs o fl a M am K)) (cx := (wL cI cZ cS cL (fS hs) (fG hs) o fl a M)) [0, 1, 2, 3, 4, 5, 6, 7, 8, 9, 10, 11, 12, 13, 14, 15, 16, 17, 18, 19, 20, 21, 22, 23, 24, 25, 26, 27, 28, 29, 30, 31, 32, 33, 34, 35, 36, 37, 38, 39, 40, 41, 42] (by decide) rfl
  have hFc := va_freeP (X := (wLaw cI cZ cS cL hs o fl a M am K)) (cx := (wL cI cZ cS cL (fS hs) (fG hs) o fl a M)) hD hS hA [0, 1, 2, 3, 4, 5, 6, 7, 8, 9, 10, 11, 12, 13, 14, 15, 16, 17, 18, 19, 20, 21, 22, 23, 24, 25, 26, 27, 28, 29, 30, 31, 32, 33, 34, 35, 36, 37, 38, 39, 40, 41, 42] rfl
  refine va_calli (vx_runSW (As := [.ref (a 0), .int ((xs (3 * n + 1))), .ref o]) (rest := []) ⟨hx, hb, hml, hown, hts⟩ (w_L_heightOf l hst dC dI cI cZ cS cL hs o fl a H.size M ((xs (3 * n + 1))) r kk hf8 hA9) (vx_cwSW 3 hts gL_law_L_heightOf rfl rfl rfl (by decide +kernel) ⟨Nat.le_of_ble_eq_true rfl, Nat.le_of_ble_eq_true rfl⟩) ⟨T9.blind, T9.pre hPc hK hDc hNW (hEX.at hS hFc) hNC⟩ rfl rfl hl.1 rfl (lv_room (Nat.le_of_ble_eq_true rfl)) dL_law_1361 ⟨by show cells + 1 ≤ 601024; omega, by show slots + 6 ≤ 7293034; omega⟩) hS (fun q _ h => hFc q h) hFc (fun rv u t H1 locs ht hvm hw hB hz1 hk1 hS => ?_)
  obtain ⟨hw1, hw2, hout⟩ := hw
  obtain ⟨hs1, fl1⟩ := u
  have hw2 : hs1 = hs := hw2
  rw [hw1]
  obtain ⟨hP1, hD1⟩ := hB
  rw [ht] at hP1
  obtain ⟨hP, hD⟩ := va_joinP (X := (wLaw cI cZ cS cL hs o fl a M am K)) (cx := (wL cI cZ cS cL (fS hs) (fG hs) o fl a M)) (wr := (wX9 cI cZ am K)) (rx := (wL cI cZ cS cL (fS hs1) (fG hs1) o fl1 a M)) hP hD [0, 1, 2, 3, 4, 5, 6, 7, 8, 9, 10, 11, 12, 13, 14, 15, 16, 17, 18, 19, 20, 21, 22, 23, 24, 25, 26, 27, 28, 29, 30, 31, 32, 33, 34, 35, 36, 37, 38, 39, 40, 41, 42] [43, 44, 45, 46, 47, 48, 49, 50, 51] rfl rfl (by decide) (by decide) hk1 hFc hP1 hD1
  have hP := hP.part (cx := (wLaw cI cZ cS cL hs1 o fl1 a M am K)) [9, 10, 11, 12, 13, 14, 15, 16, 17, 18, 19, 20, 21, 22, 23, 24, 25, 26, 27, 28, 29, 30, 31, 32, 33, 34, 35, 36, 37, 38, 39, 40, 41, 42, 43, 44, 45, 46, 47, 48, 49, 50, 51, 0, 1, 2, 3, 4, 5, 6, 7, 8] rfl
  have hD := hD.part (cx := (wLaw cI cZ cS cL hs1 o fl1 a M am K)) [9, 10, 11, 12, 13, 14, 15, 16, 17, 18, 19, 20, 21, 22, 23, 24, 25, 26, 27, 28, 29, 30, 31, 32, 33, 34, 35, 36, 37, 38, 39, 40, 41, 42, 43, 44, 45, 46, 47, 48, 49, 50, 51, 0, 1, 2, 3, 4, 5, 6, 7, 8] (by decide) rfl
  generalize H1 = H at hP hS ⊢
  rw [← hw2] at hI9
  refine lv_istore (lv' := [(5, .int kk), (0, .ref b), (1, .ref (a 0)), (2, .ref (am 0)), (3, .ref o), (4, .int (nI (3 * n)))]) hx hb dL_law_1364 hl (by decide) rfl (fun ls hl => ?_)
  refine lv_aload_n hx hb dL_law_1366 rfl (lv_at hl 3 rfl) ?_
  refine lv_aload_n hx hb dL_law_1367 rfl (lv_at hl 1 rfl) ?_
  refine lv_iload hx hb dL_law_1368 (lv_at hl 5 rfl) ?_
  refine lv_iconst (v := (1 : Int32)) hx hb dL_law_1370 (by decide) ?_
  refine lv_iadd hx hb dL_law_1371 ?_
  rw [show nI (3 * n) + (1 : Int32) = nI (3 * n + 1) from nI_add (3 * n) 1]
  refine va_sld hx hb hXs hbl hbA hS (vp_in_nI (by omega) (by omega)) dL_law_1372 ?_
  rw [nI_clamp (show 3 * n + 1 < 2 ^ 31 by omega)]
  have hPc := P_head (ws := (wLaw cI cZ cS cL hs1 o fl1 a M am K)) (ws' := (wX9 cI cZ am K)) hP [43, 44, 45, 46, 47, 48, 49, 50, 51] rfl
  have hDc := D_head (ws := (wLaw cI cZ cS cL hs1 o fl1 a M am K)) (ws' := (wX9 cI cZ am K)) hD [43, 44, 45, 46, 47, 48, 49, 50, 51] (by decide) rfl
  have hFc := va_free (wc := (wX9 cI cZ am K)) hD hS hA [43, 44, 45, 46, 47, 48, 49, 50, 51] rfl
  refine va_calli (va_runV (As := [.int ((xs (3 * n + 1)))]) (rest := []) ⟨hx, hb, hml, hown, hts⟩ (c_X9_heightOf l dC dI cI cZ am H.size K ((xs (3 * n + 1))) y hf9) (cwV 1 hts gL_law_X9_heightOf rfl rfl rfl (by decide +kernel) ⟨Nat.le_of_ble_eq_true rfl, Nat.le_of_ble_eq_true rfl⟩) ⟨WR.blind, va_recv hK hP (ci := 9) (q0 := 43) rfl rfl, WR.pre hPc hK2 hDc hNW⟩ rfl rfl hl.1 rfl (lv_room (Nat.le_of_ble_eq_true rfl)) dL_law_1373 ⟨by show _ + 0 ≤ 601024; omega, by show _ + 0 ≤ 7293034; omega⟩) hS (fun q _ h => hFc q h) hFc (fun rv u t H1 locs ht hvm hw hB hz1 hk1 hS => ?_)
  obtain ⟨hP1, hD1⟩ := hB
  rw [ht] at hP1
  rw [hw]
  obtain ⟨hP, hD⟩ := join_app (ws := (wLaw cI cZ cS cL hs1 o fl1 a M am K)) (wr := (wL cI cZ cS cL (fS hs1) (fG hs1) o fl1 a M)) (w1 := (wX9 cI cZ am (sr K 0 (y.2 0)))) hP hD [43, 44, 45, 46, 47, 48, 49, 50, 51] [0, 1, 2, 3, 4, 5, 6, 7, 8, 9, 10, 11, 12, 13, 14, 15, 16, 17, 18, 19, 20, 21, 22, 23, 24, 25, 26, 27, 28, 29, 30, 31, 32, 33, 34, 35, 36, 37, 38, 39, 40, 41, 42] rfl rfl (by decide) (by decide) hk1 hFc hP1 hD1
  have hP : va_P (dC, dI) vwCl ((wLaw cI cZ cS cL hs1 o fl1 a M am (sr K 0 (y.2 0))) ++ RW cI cZ hs1) H1 := hP
  have hD : va_D A ((wLaw cI cZ cS cL hs1 o fl1 a M am (sr K 0 (y.2 0))) ++ RW cI cZ hs1) := hD
  generalize H1 = H at hP hS ⊢
  refine lv_istore (lv' := [(6, .int y.1), (5, .int kk), (0, .ref b), (1, .ref (a 0)), (2, .ref (am 0)), (3, .ref o), (4, .int (nI (3 * n)))]) hx hb dL_law_1376 hl (by decide) rfl (fun ls hl => ?_)
  refine lv_aload_n hx hb dL_law_1378 rfl (lv_at hl 4 rfl) ?_
  have hPc := P_head (ws := (wLaw cI cZ cS cL hs1 o fl1 a M am (sr K 0 (y.2 0)))) (ws' := (wX9 cI cZ am (sr K 0 (y.2 0)))) hP [43, 44, 45, 46, 47, 48, 49, 50, 51] rfl
  refine cRO (W.runV (As := []) (rest := []) ⟨hx, hb, hml, hown, hts⟩ (c_X9_thrown l dC dI cI cZ am (sr K 0 (y.2 0)) ((sr K 0 (y.2 0)) 0 0) rfl) (cwV 0 hts gL_law_X9_thrown rfl rfl rfl (by decide +kernel) ⟨Nat.le_of_ble_eq_true rfl, Nat.le_of_ble_eq_true rfl⟩) ⟨RO.blind, va_recv hK hP (ci := 9) (q0 := 43) rfl rfl, RO.pre hPc hK2 hNW⟩ rfl rfl hl.1 rfl (lv_room (Nat.le_of_ble_eq_true rfl)) dL_law_1379 ⟨by show _ + 0 ≤ 601024; omega, by show _ + 0 ≤ 7293034; omega⟩) ?_
  refine lv_iload hx hb dL_law_1382 (lv_at hl 1 rfl) ?_
  refine lv_icmp_eq (tgt := 1389) hx hb dL_law_1384 (by decide) (fun c9 => ?_) (fun c9 => absurd h9k c9)
  refine lv_iload hx hb dL_law_1389 (lv_at hl 1 rfl) ?_
  refine lv_if_ne (tgt := 1406) hx hb dL_law_1391 (by decide) (fun c9 => ?_) (fun c9 => ?_)
  · refine lv_goto (tgt := 3556) hx hb dL_law_1406 (by decide) ?_
    refine W.widen (k := cells + 17) (n := slots + 322) (by omega) (by omega) ?_
    exact kk9 hs1 fl1 _ _ _ H locs hI9 (lv_sub hl [2, 3, 4, 5, 6] rfl) hP hD hS
  obtain ⟨u, hr9⟩ := Ans_z hA9 c9
  have hv9 := hout u hr9
  have hu9 := hval u hr9
  refine lv_aload_n hx hb dL_law_1394 rfl (lv_at hl 5 rfl) ?_
  refine lv_iconst (v := (0 : Int32)) hx hb dL_law_1395 (by decide) ?_
  refine va_lald (D := (dC, dI)) (f := fl1) hx hb hK hP 0 3 rfl rfl (inb_in rfl) dL_law_1396 ?_
  refine lv_iload hx hb dL_law_1397 (lv_at hl 0 rfl) ?_
  refine lv_i2l (v := (y.1).toInt64) hx hb dL_law_1399 rfl ?_
  refine W.lcmp hx hb dL_law_1400 ?_
  refine lv_if_eq (tgt := 1406) hx hb dL_law_1401 (by decide) (fun c7 => ?_) (fun c7 => absurd (lg_eq (hv9.trans (congrArg Int32.toInt64 hu9))) c7)
  refine lv_goto (tgt := 3556) hx hb dL_law_1406 (by decide) ?_
  refine W.widen (k := cells + 17) (n := slots + 322) (by omega) (by omega) ?_
  exact kk9 hs1 fl1 _ _ _ H locs hI9 (lv_sub hl [2, 3, 4, 5, 6] rfl) hP hD hS
set_option maxHeartbeats 4000000 in
set_option maxRecDepth 100000 in
theorem lc_sideOf {p : Program} {l : Launch} {e : Env} {s : State} {m : MethodId} {below : List Frame} {meth : Method} {c : Code} {b L : Nat} {xs : Nat → Int32} {dC : Nat → ClassId} {dI : Nat → Nat → Nat} {cI cZ cS cL : ClassId} {A : Nat → Prop} {a am : Nat → Nat} {o : Nat} {Q : State → Prop} (X0 : LCx p l s m c b L xs dC dI cI cZ cS cL A) {Inv : Nat → (Nat → Option Mem) → Mem → Mem → Prop} (hSt : St_sideOf Inv) {n : Nat} (hn : n < 512) (hnL : 3 * n + 2 < L) (hL : L ≤ 1536) {hs : HS} {fl : Nat → Int64} {M K : Mem} (hI : Inv n (cts hs) M K) {ls : Array Slot} {H : Heap} {locs : List Loc} {cells slots : Nat} (hcs : cells + 17 ≤ 601024) (hss : slots + 322 ≤ 7293034) (hl : lv_has ls 9 [(0, .ref b), (1, .ref (a 0)), (2, .ref (am 0)), (3, .ref o), (4, .int (nI (3 * n)))]) (hP : va_P (dC, dI) vwCl (wLaw cI cZ cS cL hs o fl a M am K ++ RW cI cZ hs) H) (hD : va_D A (wLaw cI cZ cS cL hs o fl a M am K ++ RW cI cZ hs)) (hS : va_S A s.heap H locs) (kk9 : ∀ (hs' : HS) (fl' : Nat → Int64) (M' K' : Mem) (ls : Array Slot) (H : Heap) (locs : List Loc), Inv (n + 1) (cts hs') M' K' → lv_has ls 9 [(0, .ref b), (1, .ref (a 0)), (2, .ref (am 0)), (3, .ref o), (4, .int (nI (3 * n)))] → va_P (dC, dI) vwCl (wLaw cI cZ cS cL hs' o fl' a M' am K' ++ RW cI cZ hs') H → va_D A (wLaw cI cZ cS cL hs' o fl' a M' am K' ++ RW cI cZ hs') → va_S A s.heap H locs → W p l e room_1 s m #[Value.ref b] below meth c H locs (cells + 17) (slots + 322) Q (F0 m 3556 ls [])) : W p l e room_1 s m #[Value.ref b] below meth c H locs cells slots Q (F0 m 1409 ls []) := by
  obtain ⟨hx, hb, hml, hown, hts, hK, hNW, hEX, hNC, hA, hXs, hbl, hbA, hst⟩ := X0
  have hK8 : va_K (dC, dI) vwCl (tys8 cI cZ cS) s := hK.sub (tys' := tys8 cI cZ cS) [0, 1, 2] rfl
  have hK2 : va_K (dC, dI) vwCl [(cI, .int), (cZ, .boolean)] s := hK.sub (tys' := [(cI, .int), (cZ, .boolean)]) [0, 1] rfl
  obtain ⟨r, kk, y, hf8, hA9, hf9, h9k, hval, hI9⟩ := hSt n (cts hs) M K (xs (3 * n + 1)) hn hI
  refine lv_aload_n hx hb dL_law_1409 rfl (lv_at hl 1 rfl) ?_
  refine lv_aload_n hx hb dL_law_1410 rfl (lv_at hl 0 rfl) ?_
  refine lv_iload hx hb dL_law_1411 (lv_at hl 4 rfl) ?_
  refine lv_iconst (v := (1 : Int32)) hx hb dL_law_1413 (by decide) ?_
  refine lv_iadd hx hb dL_law_1414 ?_
  rw [show nI (3 * n) + (1 : Int32) = nI (3 * n + 1) from nI_add (3 * n) 1]
  refine va_sld hx hb hXs hbl hbA hS (vp_in_nI (by omega) (by omega)) dL_law_1415 ?_
  rw [nI_clamp (show 3 * n + 1 < 2 ^ 31 by omega)]
  refine lv_aload_n hx hb dL_law_1416 rfl (lv_at hl 3 rfl) ?_
  have hPc := hP.part (X := (wLaw cI cZ cS cL hs o fl a M am K)) (cx := (wL cI cZ cS cL (fS hs) (fG hs) o fl a M)) [0, 1, 2, 3, 4, 5, 6, 7, 8, 9, 10, 11, 12, 13, 14, 15, 16, 17, 18, 19, 20, 21, 22, 23, 24, 25, 26, 27, 28, 29, 30, 31, 32, 33, 34, 35, 36, 37, 38, 39, 40, 41, 42] rfl
  have hDc := hD.part (X := (wLaw cI cZ cS cL hs o fl a M am K)) (cx := (wL cI cZ cS cL (fS hs) (fG hs) o fl a M)) [0, 1, 2, 3, 4, 5, 6, 7, 8, 9, 10, 11, 12, 13, 14, 15, 16, 17, 18, 19, 20, 21, 22, 23, 24, 25, 26, 27, 28, 29, 30, 31, 32, 33, 34, 35, 36, 37, 38, 39, 40, 41, 42] (by decide) rfl
  have hFc := va_freeP (X := (wLaw cI cZ cS cL hs o fl a M am K)) (cx := (wL cI cZ cS cL (fS hs) (fG hs) o fl a M)) hD hS hA [0, 1, 2, 3, 4, 5, 6, 7, 8, 9, 10, 11, 12, 13, 14, 15, 16, 17, 18, 19, 20, 21, 22, 23, 24, 25, 26, 27, 28, 29, 30, 31, 32, 33, 34, 35, 36, 37, 38, 39, 40, 41, 42] rfl
  refine va_calli (vx_runSW (As := [.ref (a 0), .int ((xs (3 * n + 1))), .ref o]) (rest := []) ⟨hx, hb, hml, hown, hts⟩ (w_L_sideOf l hst dC dI cI cZ cS cL hs o fl a H.size M ((xs (3 * n + 1))) r kk hf8 hA9) (vx_cwSW 3 hts gL_law_L_sideOf rfl rfl rfl (by decide +kernel) ⟨Nat.le_of_ble_eq_true rfl, Nat.le_of_ble_eq_true rfl⟩) ⟨T9.blind, T9.pre hPc hK hDc hNW (hEX.at hS hFc) hNC⟩ rfl rfl hl.1 rfl (lv_room (Nat.le_of_ble_eq_true rfl)) dL_law_1417 ⟨by show cells + 1 ≤ 601024; omega, by show slots + 6 ≤ 7293034; omega⟩) hS (fun q _ h => hFc q h) hFc (fun rv u t H1 locs ht hvm hw hB hz1 hk1 hS => ?_)
  obtain ⟨hw1, hw2, hout⟩ := hw
  obtain ⟨hs1, fl1⟩ := u
  have hw2 : hs1 = hs := hw2
  rw [hw1]
  obtain ⟨hP1, hD1⟩ := hB
  rw [ht] at hP1
  obtain ⟨hP, hD⟩ := va_joinP (X := (wLaw cI cZ cS cL hs o fl a M am K)) (cx := (wL cI cZ cS cL (fS hs) (fG hs) o fl a M)) (wr := (wX9 cI cZ am K)) (rx := (wL cI cZ cS cL (fS hs1) (fG hs1) o fl1 a M)) hP hD [0, 1, 2, 3, 4, 5, 6, 7, 8, 9, 10, 11, 12, 13, 14, 15, 16, 17, 18, 19, 20, 21, 22, 23, 24, 25, 26, 27, 28, 29, 30, 31, 32, 33, 34, 35, 36, 37, 38, 39, 40, 41, 42] [43, 44, 45, 46, 47, 48, 49, 50, 51] rfl rfl (by decide) (by decide) hk1 hFc hP1 hD1
  have hP := hP.part (cx := (wLaw cI cZ cS cL hs1 o fl1 a M am K)) [9, 10, 11, 12, 13, 14, 15, 16, 17, 18, 19, 20, 21, 22, 23, 24, 25, 26, 27, 28, 29, 30, 31, 32, 33, 34, 35, 36, 37, 38, 39, 40, 41, 42, 43, 44, 45, 46, 47, 48, 49, 50, 51, 0, 1, 2, 3, 4, 5, 6, 7, 8] rfl
  have hD := hD.part (cx := (wLaw cI cZ cS cL hs1 o fl1 a M am K)) [9, 10, 11, 12, 13, 14, 15, 16, 17, 18, 19, 20, 21, 22, 23, 24, 25, 26, 27, 28, 29, 30, 31, 32, 33, 34, 35, 36, 37, 38, 39, 40, 41, 42, 43, 44, 45, 46, 47, 48, 49, 50, 51, 0, 1, 2, 3, 4, 5, 6, 7, 8] (by decide) rfl
  generalize H1 = H at hP hS ⊢
  rw [← hw2] at hI9
  refine lv_istore (lv' := [(5, .int kk), (0, .ref b), (1, .ref (a 0)), (2, .ref (am 0)), (3, .ref o), (4, .int (nI (3 * n)))]) hx hb dL_law_1420 hl (by decide) rfl (fun ls hl => ?_)
  refine lv_aload_n hx hb dL_law_1422 rfl (lv_at hl 3 rfl) ?_
  refine lv_aload_n hx hb dL_law_1423 rfl (lv_at hl 1 rfl) ?_
  refine lv_iload hx hb dL_law_1424 (lv_at hl 5 rfl) ?_
  refine lv_iconst (v := (1 : Int32)) hx hb dL_law_1426 (by decide) ?_
  refine lv_iadd hx hb dL_law_1427 ?_
  rw [show nI (3 * n) + (1 : Int32) = nI (3 * n + 1) from nI_add (3 * n) 1]
  refine va_sld hx hb hXs hbl hbA hS (vp_in_nI (by omega) (by omega)) dL_law_1428 ?_
  rw [nI_clamp (show 3 * n + 1 < 2 ^ 31 by omega)]
  have hPc := P_head (ws := (wLaw cI cZ cS cL hs1 o fl1 a M am K)) (ws' := (wX9 cI cZ am K)) hP [43, 44, 45, 46, 47, 48, 49, 50, 51] rfl
  have hDc := D_head (ws := (wLaw cI cZ cS cL hs1 o fl1 a M am K)) (ws' := (wX9 cI cZ am K)) hD [43, 44, 45, 46, 47, 48, 49, 50, 51] (by decide) rfl
  have hFc := va_free (wc := (wX9 cI cZ am K)) hD hS hA [43, 44, 45, 46, 47, 48, 49, 50, 51] rfl
  refine va_calli (va_runV (As := [.int ((xs (3 * n + 1)))]) (rest := []) ⟨hx, hb, hml, hown, hts⟩ (c_X9_sideOf l dC dI cI cZ am H.size K ((xs (3 * n + 1))) y hf9) (cwV 1 hts gL_law_X9_sideOf rfl rfl rfl (by decide +kernel) ⟨Nat.le_of_ble_eq_true rfl, Nat.le_of_ble_eq_true rfl⟩) ⟨WR.blind, va_recv hK hP (ci := 9) (q0 := 43) rfl rfl, WR.pre hPc hK2 hDc hNW⟩ rfl rfl hl.1 rfl (lv_room (Nat.le_of_ble_eq_true rfl)) dL_law_1429 ⟨by show _ + 0 ≤ 601024; omega, by show _ + 0 ≤ 7293034; omega⟩) hS (fun q _ h => hFc q h) hFc (fun rv u t H1 locs ht hvm hw hB hz1 hk1 hS => ?_)
  obtain ⟨hP1, hD1⟩ := hB
  rw [ht] at hP1
  rw [hw]
  obtain ⟨hP, hD⟩ := join_app (ws := (wLaw cI cZ cS cL hs1 o fl1 a M am K)) (wr := (wL cI cZ cS cL (fS hs1) (fG hs1) o fl1 a M)) (w1 := (wX9 cI cZ am (sr K 0 (y.2 0)))) hP hD [43, 44, 45, 46, 47, 48, 49, 50, 51] [0, 1, 2, 3, 4, 5, 6, 7, 8, 9, 10, 11, 12, 13, 14, 15, 16, 17, 18, 19, 20, 21, 22, 23, 24, 25, 26, 27, 28, 29, 30, 31, 32, 33, 34, 35, 36, 37, 38, 39, 40, 41, 42] rfl rfl (by decide) (by decide) hk1 hFc hP1 hD1
  have hP : va_P (dC, dI) vwCl ((wLaw cI cZ cS cL hs1 o fl1 a M am (sr K 0 (y.2 0))) ++ RW cI cZ hs1) H1 := hP
  have hD : va_D A ((wLaw cI cZ cS cL hs1 o fl1 a M am (sr K 0 (y.2 0))) ++ RW cI cZ hs1) := hD
  generalize H1 = H at hP hS ⊢
  refine lv_istore (lv' := [(6, .int y.1), (5, .int kk), (0, .ref b), (1, .ref (a 0)), (2, .ref (am 0)), (3, .ref o), (4, .int (nI (3 * n)))]) hx hb dL_law_1432 hl (by decide) rfl (fun ls hl => ?_)
  refine lv_aload_n hx hb dL_law_1434 rfl (lv_at hl 4 rfl) ?_
  have hPc := P_head (ws := (wLaw cI cZ cS cL hs1 o fl1 a M am (sr K 0 (y.2 0)))) (ws' := (wX9 cI cZ am (sr K 0 (y.2 0)))) hP [43, 44, 45, 46, 47, 48, 49, 50, 51] rfl
  refine cRO (W.runV (As := []) (rest := []) ⟨hx, hb, hml, hown, hts⟩ (c_X9_thrown l dC dI cI cZ am (sr K 0 (y.2 0)) ((sr K 0 (y.2 0)) 0 0) rfl) (cwV 0 hts gL_law_X9_thrown rfl rfl rfl (by decide +kernel) ⟨Nat.le_of_ble_eq_true rfl, Nat.le_of_ble_eq_true rfl⟩) ⟨RO.blind, va_recv hK hP (ci := 9) (q0 := 43) rfl rfl, RO.pre hPc hK2 hNW⟩ rfl rfl hl.1 rfl (lv_room (Nat.le_of_ble_eq_true rfl)) dL_law_1435 ⟨by show _ + 0 ≤ 601024; omega, by show _ + 0 ≤ 7293034; omega⟩) ?_
  refine lv_iload hx hb dL_law_1438 (lv_at hl 1 rfl) ?_
  refine lv_icmp_eq (tgt := 1445) hx hb dL_law_1440 (by decide) (fun c9 => ?_) (fun c9 => absurd h9k c9)
  refine lv_iload hx hb dL_law_1445 (lv_at hl 1 rfl) ?_
  refine lv_if_ne (tgt := 1462) hx hb dL_law_1447 (by decide) (fun c9 => ?_) (fun c9 => ?_)
  · refine lv_goto (tgt := 3556) hx hb dL_law_1462 (by decide) ?_
    refine W.widen (k := cells + 17) (n := slots + 322) (by omega) (by omega) ?_
    exact kk9 hs1 fl1 _ _ _ H locs hI9 (lv_sub hl [2, 3, 4, 5, 6] rfl) hP hD hS
  obtain ⟨u, hr9⟩ := Ans_z hA9 c9
  have hv9 := hout u hr9
  have hu9 := hval u hr9
  refine lv_aload_n hx hb dL_law_1450 rfl (lv_at hl 5 rfl) ?_
  refine lv_iconst (v := (0 : Int32)) hx hb dL_law_1451 (by decide) ?_
  refine va_lald (D := (dC, dI)) (f := fl1) hx hb hK hP 0 3 rfl rfl (inb_in rfl) dL_law_1452 ?_
  refine lv_iload hx hb dL_law_1453 (lv_at hl 0 rfl) ?_
  refine lv_i2l (v := (y.1).toInt64) hx hb dL_law_1455 rfl ?_
  refine W.lcmp hx hb dL_law_1456 ?_
  refine lv_if_eq (tgt := 1462) hx hb dL_law_1457 (by decide) (fun c7 => ?_) (fun c7 => absurd (lg_eq (hv9.trans (congrArg Int32.toInt64 hu9))) c7)
  refine lv_goto (tgt := 3556) hx hb dL_law_1462 (by decide) ?_
  refine W.widen (k := cells + 17) (n := slots + 322) (by omega) (by omega) ?_
  exact kk9 hs1 fl1 _ _ _ H locs hI9 (lv_sub hl [2, 3, 4, 5, 6] rfl) hP hD hS
set_option maxHeartbeats 4000000 in
set_option maxRecDepth 100000 in
theorem lc_slotOf {p : Program} {l : Launch} {e : Env} {s : State} {m : MethodId} {below : List Frame} {meth : Method} {c : Code} {b L : Nat} {xs : Nat → Int32} {dC : Nat → ClassId} {dI : Nat → Nat → Nat} {cI cZ cS cL : ClassId} {A : Nat → Prop} {a am : Nat → Nat} {o : Nat} {Q : State → Prop} (X0 : LCx p l s m c b L xs dC dI cI cZ cS cL A) {Inv : Nat → (Nat → Option Mem) → Mem → Mem → Prop} (hSt : St_slotOf Inv) {n : Nat} (hn : n < 512) (hnL : 3 * n + 2 < L) (hL : L ≤ 1536) {hs : HS} {fl : Nat → Int64} {M K : Mem} (hI : Inv n (cts hs) M K) {ls : Array Slot} {H : Heap} {locs : List Loc} {cells slots : Nat} (hcs : cells + 17 ≤ 601024) (hss : slots + 322 ≤ 7293034) (hl : lv_has ls 9 [(0, .ref b), (1, .ref (a 0)), (2, .ref (am 0)), (3, .ref o), (4, .int (nI (3 * n)))]) (hP : va_P (dC, dI) vwCl (wLaw cI cZ cS cL hs o fl a M am K ++ RW cI cZ hs) H) (hD : va_D A (wLaw cI cZ cS cL hs o fl a M am K ++ RW cI cZ hs)) (hS : va_S A s.heap H locs) (kk9 : ∀ (hs' : HS) (fl' : Nat → Int64) (M' K' : Mem) (ls : Array Slot) (H : Heap) (locs : List Loc), Inv (n + 1) (cts hs') M' K' → lv_has ls 9 [(0, .ref b), (1, .ref (a 0)), (2, .ref (am 0)), (3, .ref o), (4, .int (nI (3 * n)))] → va_P (dC, dI) vwCl (wLaw cI cZ cS cL hs' o fl' a M' am K' ++ RW cI cZ hs') H → va_D A (wLaw cI cZ cS cL hs' o fl' a M' am K' ++ RW cI cZ hs') → va_S A s.heap H locs → W p l e room_1 s m #[Value.ref b] below meth c H locs (cells + 17) (slots + 322) Q (F0 m 3556 ls [])) : W p l e room_1 s m #[Value.ref b] below meth c H locs cells slots Q (F0 m 1465 ls []) := by
  obtain ⟨hx, hb, hml, hown, hts, hK, hNW, hEX, hNC, hA, hXs, hbl, hbA, hst⟩ := X0
  have hK8 : va_K (dC, dI) vwCl (tys8 cI cZ cS) s := hK.sub (tys' := tys8 cI cZ cS) [0, 1, 2] rfl
  have hK2 : va_K (dC, dI) vwCl [(cI, .int), (cZ, .boolean)] s := hK.sub (tys' := [(cI, .int), (cZ, .boolean)]) [0, 1] rfl
  obtain ⟨r, kk, y, hf8, hA9, hf9, h9k, hval, hI9⟩ := hSt n (cts hs) M K (xs (3 * n + 1)) hn hI
  refine lv_aload_n hx hb dL_law_1465 rfl (lv_at hl 1 rfl) ?_
  refine lv_aload_n hx hb dL_law_1466 rfl (lv_at hl 0 rfl) ?_
  refine lv_iload hx hb dL_law_1467 (lv_at hl 4 rfl) ?_
  refine lv_iconst (v := (1 : Int32)) hx hb dL_law_1469 (by decide) ?_
  refine lv_iadd hx hb dL_law_1470 ?_
  rw [show nI (3 * n) + (1 : Int32) = nI (3 * n + 1) from nI_add (3 * n) 1]
  refine va_sld hx hb hXs hbl hbA hS (vp_in_nI (by omega) (by omega)) dL_law_1471 ?_
  rw [nI_clamp (show 3 * n + 1 < 2 ^ 31 by omega)]
  refine lv_aload_n hx hb dL_law_1472 rfl (lv_at hl 3 rfl) ?_
  have hPc := hP.part (X := (wLaw cI cZ cS cL hs o fl a M am K)) (cx := (wL cI cZ cS cL (fS hs) (fG hs) o fl a M)) [0, 1, 2, 3, 4, 5, 6, 7, 8, 9, 10, 11, 12, 13, 14, 15, 16, 17, 18, 19, 20, 21, 22, 23, 24, 25, 26, 27, 28, 29, 30, 31, 32, 33, 34, 35, 36, 37, 38, 39, 40, 41, 42] rfl
  have hDc := hD.part (X := (wLaw cI cZ cS cL hs o fl a M am K)) (cx := (wL cI cZ cS cL (fS hs) (fG hs) o fl a M)) [0, 1, 2, 3, 4, 5, 6, 7, 8, 9, 10, 11, 12, 13, 14, 15, 16, 17, 18, 19, 20, 21, 22, 23, 24, 25, 26, 27, 28, 29, 30, 31, 32, 33, 34, 35, 36, 37, 38, 39, 40, 41, 42] (by decide) rfl
  have hFc := va_freeP (X := (wLaw cI cZ cS cL hs o fl a M am K)) (cx := (wL cI cZ cS cL (fS hs) (fG hs) o fl a M)) hD hS hA [0, 1, 2, 3, 4, 5, 6, 7, 8, 9, 10, 11, 12, 13, 14, 15, 16, 17, 18, 19, 20, 21, 22, 23, 24, 25, 26, 27, 28, 29, 30, 31, 32, 33, 34, 35, 36, 37, 38, 39, 40, 41, 42] rfl
  refine va_calli (vx_runSW (As := [.ref (a 0), .int ((xs (3 * n + 1))), .ref o]) (rest := []) ⟨hx, hb, hml, hown, hts⟩ (w_L_slotOf l hst dC dI cI cZ cS cL hs o fl a H.size M ((xs (3 * n + 1))) r kk hf8 hA9) (vx_cwSW 3 hts gL_law_L_slotOf rfl rfl rfl (by decide +kernel) ⟨Nat.le_of_ble_eq_true rfl, Nat.le_of_ble_eq_true rfl⟩) ⟨T9.blind, T9.pre hPc hK hDc hNW (hEX.at hS hFc) hNC⟩ rfl rfl hl.1 rfl (lv_room (Nat.le_of_ble_eq_true rfl)) dL_law_1473 ⟨by show cells + 1 ≤ 601024; omega, by show slots + 6 ≤ 7293034; omega⟩) hS (fun q _ h => hFc q h) hFc (fun rv u t H1 locs ht hvm hw hB hz1 hk1 hS => ?_)
  obtain ⟨hw1, hw2, hout⟩ := hw
  obtain ⟨hs1, fl1⟩ := u
  have hw2 : hs1 = hs := hw2
  rw [hw1]
  obtain ⟨hP1, hD1⟩ := hB
  rw [ht] at hP1
  obtain ⟨hP, hD⟩ := va_joinP (X := (wLaw cI cZ cS cL hs o fl a M am K)) (cx := (wL cI cZ cS cL (fS hs) (fG hs) o fl a M)) (wr := (wX9 cI cZ am K)) (rx := (wL cI cZ cS cL (fS hs1) (fG hs1) o fl1 a M)) hP hD [0, 1, 2, 3, 4, 5, 6, 7, 8, 9, 10, 11, 12, 13, 14, 15, 16, 17, 18, 19, 20, 21, 22, 23, 24, 25, 26, 27, 28, 29, 30, 31, 32, 33, 34, 35, 36, 37, 38, 39, 40, 41, 42] [43, 44, 45, 46, 47, 48, 49, 50, 51] rfl rfl (by decide) (by decide) hk1 hFc hP1 hD1
  have hP := hP.part (cx := (wLaw cI cZ cS cL hs1 o fl1 a M am K)) [9, 10, 11, 12, 13, 14, 15, 16, 17, 18, 19, 20, 21, 22, 23, 24, 25, 26, 27, 28, 29, 30, 31, 32, 33, 34, 35, 36, 37, 38, 39, 40, 41, 42, 43, 44, 45, 46, 47, 48, 49, 50, 51, 0, 1, 2, 3, 4, 5, 6, 7, 8] rfl
  have hD := hD.part (cx := (wLaw cI cZ cS cL hs1 o fl1 a M am K)) [9, 10, 11, 12, 13, 14, 15, 16, 17, 18, 19, 20, 21, 22, 23, 24, 25, 26, 27, 28, 29, 30, 31, 32, 33, 34, 35, 36, 37, 38, 39, 40, 41, 42, 43, 44, 45, 46, 47, 48, 49, 50, 51, 0, 1, 2, 3, 4, 5, 6, 7, 8] (by decide) rfl
  generalize H1 = H at hP hS ⊢
  rw [← hw2] at hI9
  refine lv_istore (lv' := [(5, .int kk), (0, .ref b), (1, .ref (a 0)), (2, .ref (am 0)), (3, .ref o), (4, .int (nI (3 * n)))]) hx hb dL_law_1476 hl (by decide) rfl (fun ls hl => ?_)
  refine lv_aload_n hx hb dL_law_1478 rfl (lv_at hl 3 rfl) ?_
  refine lv_aload_n hx hb dL_law_1479 rfl (lv_at hl 1 rfl) ?_
  refine lv_iload hx hb dL_law_1480 (lv_at hl 5 rfl) ?_
  refine lv_iconst (v := (1 : Int32)) hx hb dL_law_1482 (by decide) ?_
  refine lv_iadd hx hb dL_law_1483 ?_
  rw [show nI (3 * n) + (1 : Int32) = nI (3 * n + 1) from nI_add (3 * n) 1]
  refine va_sld hx hb hXs hbl hbA hS (vp_in_nI (by omega) (by omega)) dL_law_1484 ?_
  rw [nI_clamp (show 3 * n + 1 < 2 ^ 31 by omega)]
  have hPc := P_head (ws := (wLaw cI cZ cS cL hs1 o fl1 a M am K)) (ws' := (wX9 cI cZ am K)) hP [43, 44, 45, 46, 47, 48, 49, 50, 51] rfl
  have hDc := D_head (ws := (wLaw cI cZ cS cL hs1 o fl1 a M am K)) (ws' := (wX9 cI cZ am K)) hD [43, 44, 45, 46, 47, 48, 49, 50, 51] (by decide) rfl
  have hFc := va_free (wc := (wX9 cI cZ am K)) hD hS hA [43, 44, 45, 46, 47, 48, 49, 50, 51] rfl
  refine va_calli (va_runV (As := [.int ((xs (3 * n + 1)))]) (rest := []) ⟨hx, hb, hml, hown, hts⟩ (c_X9_slotOf l dC dI cI cZ am H.size K ((xs (3 * n + 1))) y hf9) (cwV 1 hts gL_law_X9_slotOf rfl rfl rfl (by decide +kernel) ⟨Nat.le_of_ble_eq_true rfl, Nat.le_of_ble_eq_true rfl⟩) ⟨WR.blind, va_recv hK hP (ci := 9) (q0 := 43) rfl rfl, WR.pre hPc hK2 hDc hNW⟩ rfl rfl hl.1 rfl (lv_room (Nat.le_of_ble_eq_true rfl)) dL_law_1485 ⟨by show _ + 0 ≤ 601024; omega, by show _ + 0 ≤ 7293034; omega⟩) hS (fun q _ h => hFc q h) hFc (fun rv u t H1 locs ht hvm hw hB hz1 hk1 hS => ?_)
  obtain ⟨hP1, hD1⟩ := hB
  rw [ht] at hP1
  rw [hw]
  obtain ⟨hP, hD⟩ := join_app (ws := (wLaw cI cZ cS cL hs1 o fl1 a M am K)) (wr := (wL cI cZ cS cL (fS hs1) (fG hs1) o fl1 a M)) (w1 := (wX9 cI cZ am (sr K 0 (y.2 0)))) hP hD [43, 44, 45, 46, 47, 48, 49, 50, 51] [0, 1, 2, 3, 4, 5, 6, 7, 8, 9, 10, 11, 12, 13, 14, 15, 16, 17, 18, 19, 20, 21, 22, 23, 24, 25, 26, 27, 28, 29, 30, 31, 32, 33, 34, 35, 36, 37, 38, 39, 40, 41, 42] rfl rfl (by decide) (by decide) hk1 hFc hP1 hD1
  have hP : va_P (dC, dI) vwCl ((wLaw cI cZ cS cL hs1 o fl1 a M am (sr K 0 (y.2 0))) ++ RW cI cZ hs1) H1 := hP
  have hD : va_D A ((wLaw cI cZ cS cL hs1 o fl1 a M am (sr K 0 (y.2 0))) ++ RW cI cZ hs1) := hD
  generalize H1 = H at hP hS ⊢
  refine lv_istore (lv' := [(6, .int y.1), (5, .int kk), (0, .ref b), (1, .ref (a 0)), (2, .ref (am 0)), (3, .ref o), (4, .int (nI (3 * n)))]) hx hb dL_law_1488 hl (by decide) rfl (fun ls hl => ?_)
  refine lv_aload_n hx hb dL_law_1490 rfl (lv_at hl 4 rfl) ?_
  have hPc := P_head (ws := (wLaw cI cZ cS cL hs1 o fl1 a M am (sr K 0 (y.2 0)))) (ws' := (wX9 cI cZ am (sr K 0 (y.2 0)))) hP [43, 44, 45, 46, 47, 48, 49, 50, 51] rfl
  refine cRO (W.runV (As := []) (rest := []) ⟨hx, hb, hml, hown, hts⟩ (c_X9_thrown l dC dI cI cZ am (sr K 0 (y.2 0)) ((sr K 0 (y.2 0)) 0 0) rfl) (cwV 0 hts gL_law_X9_thrown rfl rfl rfl (by decide +kernel) ⟨Nat.le_of_ble_eq_true rfl, Nat.le_of_ble_eq_true rfl⟩) ⟨RO.blind, va_recv hK hP (ci := 9) (q0 := 43) rfl rfl, RO.pre hPc hK2 hNW⟩ rfl rfl hl.1 rfl (lv_room (Nat.le_of_ble_eq_true rfl)) dL_law_1491 ⟨by show _ + 0 ≤ 601024; omega, by show _ + 0 ≤ 7293034; omega⟩) ?_
  refine lv_iload hx hb dL_law_1494 (lv_at hl 1 rfl) ?_
  refine lv_icmp_eq (tgt := 1501) hx hb dL_law_1496 (by decide) (fun c9 => ?_) (fun c9 => absurd h9k c9)
  refine lv_iload hx hb dL_law_1501 (lv_at hl 1 rfl) ?_
  refine lv_if_ne (tgt := 1518) hx hb dL_law_1503 (by decide) (fun c9 => ?_) (fun c9 => ?_)
  · refine lv_goto (tgt := 3556) hx hb dL_law_1518 (by decide) ?_
    refine W.widen (k := cells + 17) (n := slots + 322) (by omega) (by omega) ?_
    exact kk9 hs1 fl1 _ _ _ H locs hI9 (lv_sub hl [2, 3, 4, 5, 6] rfl) hP hD hS
  obtain ⟨u, hr9⟩ := Ans_z hA9 c9
  have hv9 := hout u hr9
  have hu9 := hval u hr9
  refine lv_aload_n hx hb dL_law_1506 rfl (lv_at hl 5 rfl) ?_
  refine lv_iconst (v := (0 : Int32)) hx hb dL_law_1507 (by decide) ?_
  refine va_lald (D := (dC, dI)) (f := fl1) hx hb hK hP 0 3 rfl rfl (inb_in rfl) dL_law_1508 ?_
  refine lv_iload hx hb dL_law_1509 (lv_at hl 0 rfl) ?_
  refine lv_i2l (v := (y.1).toInt64) hx hb dL_law_1511 rfl ?_
  refine W.lcmp hx hb dL_law_1512 ?_
  refine lv_if_eq (tgt := 1518) hx hb dL_law_1513 (by decide) (fun c7 => ?_) (fun c7 => absurd (lg_eq (hv9.trans (congrArg Int32.toInt64 hu9))) c7)
  refine lv_goto (tgt := 3556) hx hb dL_law_1518 (by decide) ?_
  refine W.widen (k := cells + 17) (n := slots + 322) (by omega) (by omega) ?_
  exact kk9 hs1 fl1 _ _ _ H locs hI9 (lv_sub hl [2, 3, 4, 5, 6] rfl) hP hD hS
set_option maxHeartbeats 4000000 in
set_option maxRecDepth 100000 in
theorem lc_isAtWindow {p : Program} {l : Launch} {e : Env} {s : State} {m : MethodId} {below : List Frame} {meth : Method} {c : Code} {b L : Nat} {xs : Nat → Int32} {dC : Nat → ClassId} {dI : Nat → Nat → Nat} {cI cZ cS cL : ClassId} {A : Nat → Prop} {a am : Nat → Nat} {o : Nat} {Q : State → Prop} (X0 : LCx p l s m c b L xs dC dI cI cZ cS cL A) {Inv : Nat → (Nat → Option Mem) → Mem → Mem → Prop} (hSt : St_isAtWindow Inv) {n : Nat} (hn : n < 512) (hnL : 3 * n + 2 < L) (hL : L ≤ 1536) {hs : HS} {fl : Nat → Int64} {M K : Mem} (hI : Inv n (cts hs) M K) {ls : Array Slot} {H : Heap} {locs : List Loc} {cells slots : Nat} (hcs : cells + 17 ≤ 601024) (hss : slots + 322 ≤ 7293034) (hl : lv_has ls 9 [(0, .ref b), (1, .ref (a 0)), (2, .ref (am 0)), (3, .ref o), (4, .int (nI (3 * n)))]) (hP : va_P (dC, dI) vwCl (wLaw cI cZ cS cL hs o fl a M am K ++ RW cI cZ hs) H) (hD : va_D A (wLaw cI cZ cS cL hs o fl a M am K ++ RW cI cZ hs)) (hS : va_S A s.heap H locs) (kk9 : ∀ (hs' : HS) (fl' : Nat → Int64) (M' K' : Mem) (ls : Array Slot) (H : Heap) (locs : List Loc), Inv (n + 1) (cts hs') M' K' → lv_has ls 9 [(0, .ref b), (1, .ref (a 0)), (2, .ref (am 0)), (3, .ref o), (4, .int (nI (3 * n)))] → va_P (dC, dI) vwCl (wLaw cI cZ cS cL hs' o fl' a M' am K' ++ RW cI cZ hs') H → va_D A (wLaw cI cZ cS cL hs' o fl' a M' am K' ++ RW cI cZ hs') → va_S A s.heap H locs → W p l e room_1 s m #[Value.ref b] below meth c H locs (cells + 17) (slots + 322) Q (F0 m 3556 ls [])) : W p l e room_1 s m #[Value.ref b] below meth c H locs cells slots Q (F0 m 1521 ls []) := by
  obtain ⟨hx, hb, hml, hown, hts, hK, hNW, hEX, hNC, hA, hXs, hbl, hbA, hst⟩ := X0
  have hK8 : va_K (dC, dI) vwCl (tys8 cI cZ cS) s := hK.sub (tys' := tys8 cI cZ cS) [0, 1, 2] rfl
  have hK2 : va_K (dC, dI) vwCl [(cI, .int), (cZ, .boolean)] s := hK.sub (tys' := [(cI, .int), (cZ, .boolean)]) [0, 1] rfl
  obtain ⟨r, kk, y, hf8, hA9, hf9, h9k, hval, hI9⟩ := hSt n (cts hs) M K (xs (3 * n + 1)) hn hI
  refine lv_aload_n hx hb dL_law_1521 rfl (lv_at hl 1 rfl) ?_
  refine lv_aload_n hx hb dL_law_1522 rfl (lv_at hl 0 rfl) ?_
  refine lv_iload hx hb dL_law_1523 (lv_at hl 4 rfl) ?_
  refine lv_iconst (v := (1 : Int32)) hx hb dL_law_1525 (by decide) ?_
  refine lv_iadd hx hb dL_law_1526 ?_
  rw [show nI (3 * n) + (1 : Int32) = nI (3 * n + 1) from nI_add (3 * n) 1]
  refine va_sld hx hb hXs hbl hbA hS (vp_in_nI (by omega) (by omega)) dL_law_1527 ?_
  rw [nI_clamp (show 3 * n + 1 < 2 ^ 31 by omega)]
  refine lv_aload_n hx hb dL_law_1528 rfl (lv_at hl 3 rfl) ?_
  have hPc := hP.part (X := (wLaw cI cZ cS cL hs o fl a M am K)) (cx := (wL cI cZ cS cL (fS hs) (fG hs) o fl a M)) [0, 1, 2, 3, 4, 5, 6, 7, 8, 9, 10, 11, 12, 13, 14, 15, 16, 17, 18, 19, 20, 21, 22, 23, 24, 25, 26, 27, 28, 29, 30, 31, 32, 33, 34, 35, 36, 37, 38, 39, 40, 41, 42] rfl
  have hDc := hD.part (X := (wLaw cI cZ cS cL hs o fl a M am K)) (cx := (wL cI cZ cS cL (fS hs) (fG hs) o fl a M)) [0, 1, 2, 3, 4, 5, 6, 7, 8, 9, 10, 11, 12, 13, 14, 15, 16, 17, 18, 19, 20, 21, 22, 23, 24, 25, 26, 27, 28, 29, 30, 31, 32, 33, 34, 35, 36, 37, 38, 39, 40, 41, 42] (by decide) rfl
  have hFc := va_freeP (X := (wLaw cI cZ cS cL hs o fl a M am K)) (cx := (wL cI cZ cS cL (fS hs) (fG hs) o fl a M)) hD hS hA [0, 1, 2, 3, 4, 5, 6, 7, 8, 9, 10, 11, 12, 13, 14, 15, 16, 17, 18, 19, 20, 21, 22, 23, 24, 25, 26, 27, 28, 29, 30, 31, 32, 33, 34, 35, 36, 37, 38, 39, 40, 41, 42] rfl
  refine va_calli (vx_runSW (As := [.ref (a 0), .int ((xs (3 * n + 1))), .ref o]) (rest := []) ⟨hx, hb, hml, hown, hts⟩ (w_L_isAtWindow l hst dC dI cI cZ cS cL hs o fl a H.size M ((xs (3 * n + 1))) r kk hf8 hA9) (vx_cwSW 3 hts gL_law_L_isAtWindow rfl rfl rfl (by decide +kernel) ⟨Nat.le_of_ble_eq_true rfl, Nat.le_of_ble_eq_true rfl⟩) ⟨T9.blind, T9.pre hPc hK hDc hNW (hEX.at hS hFc) hNC⟩ rfl rfl hl.1 rfl (lv_room (Nat.le_of_ble_eq_true rfl)) dL_law_1529 ⟨by show cells + 1 ≤ 601024; omega, by show slots + 6 ≤ 7293034; omega⟩) hS (fun q _ h => hFc q h) hFc (fun rv u t H1 locs ht hvm hw hB hz1 hk1 hS => ?_)
  obtain ⟨hw1, hw2, hout⟩ := hw
  obtain ⟨hs1, fl1⟩ := u
  have hw2 : hs1 = hs := hw2
  rw [hw1]
  obtain ⟨hP1, hD1⟩ := hB
  rw [ht] at hP1
  obtain ⟨hP, hD⟩ := va_joinP (X := (wLaw cI cZ cS cL hs o fl a M am K)) (cx := (wL cI cZ cS cL (fS hs) (fG hs) o fl a M)) (wr := (wX9 cI cZ am K)) (rx := (wL cI cZ cS cL (fS hs1) (fG hs1) o fl1 a M)) hP hD [0, 1, 2, 3, 4, 5, 6, 7, 8, 9, 10, 11, 12, 13, 14, 15, 16, 17, 18, 19, 20, 21, 22, 23, 24, 25, 26, 27, 28, 29, 30, 31, 32, 33, 34, 35, 36, 37, 38, 39, 40, 41, 42] [43, 44, 45, 46, 47, 48, 49, 50, 51] rfl rfl (by decide) (by decide) hk1 hFc hP1 hD1
  have hP := hP.part (cx := (wLaw cI cZ cS cL hs1 o fl1 a M am K)) [9, 10, 11, 12, 13, 14, 15, 16, 17, 18, 19, 20, 21, 22, 23, 24, 25, 26, 27, 28, 29, 30, 31, 32, 33, 34, 35, 36, 37, 38, 39, 40, 41, 42, 43, 44, 45, 46, 47, 48, 49, 50, 51, 0, 1, 2, 3, 4, 5, 6, 7, 8] rfl
  have hD := hD.part (cx := (wLaw cI cZ cS cL hs1 o fl1 a M am K)) [9, 10, 11, 12, 13, 14, 15, 16, 17, 18, 19, 20, 21, 22, 23, 24, 25, 26, 27, 28, 29, 30, 31, 32, 33, 34, 35, 36, 37, 38, 39, 40, 41, 42, 43, 44, 45, 46, 47, 48, 49, 50, 51, 0, 1, 2, 3, 4, 5, 6, 7, 8] (by decide) rfl
  generalize H1 = H at hP hS ⊢
  rw [← hw2] at hI9
  refine lv_istore (lv' := [(5, .int kk), (0, .ref b), (1, .ref (a 0)), (2, .ref (am 0)), (3, .ref o), (4, .int (nI (3 * n)))]) hx hb dL_law_1532 hl (by decide) rfl (fun ls hl => ?_)
  refine lv_aload_n hx hb dL_law_1534 rfl (lv_at hl 3 rfl) ?_
  refine lv_aload_n hx hb dL_law_1535 rfl (lv_at hl 1 rfl) ?_
  refine lv_iload hx hb dL_law_1536 (lv_at hl 5 rfl) ?_
  refine lv_iconst (v := (1 : Int32)) hx hb dL_law_1538 (by decide) ?_
  refine lv_iadd hx hb dL_law_1539 ?_
  rw [show nI (3 * n) + (1 : Int32) = nI (3 * n + 1) from nI_add (3 * n) 1]
  refine va_sld hx hb hXs hbl hbA hS (vp_in_nI (by omega) (by omega)) dL_law_1540 ?_
  rw [nI_clamp (show 3 * n + 1 < 2 ^ 31 by omega)]
  have hPc := P_head (ws := (wLaw cI cZ cS cL hs1 o fl1 a M am K)) (ws' := (wX9 cI cZ am K)) hP [43, 44, 45, 46, 47, 48, 49, 50, 51] rfl
  have hDc := D_head (ws := (wLaw cI cZ cS cL hs1 o fl1 a M am K)) (ws' := (wX9 cI cZ am K)) hD [43, 44, 45, 46, 47, 48, 49, 50, 51] (by decide) rfl
  have hFc := va_free (wc := (wX9 cI cZ am K)) hD hS hA [43, 44, 45, 46, 47, 48, 49, 50, 51] rfl
  refine va_calli (va_runV (As := [.int ((xs (3 * n + 1)))]) (rest := []) ⟨hx, hb, hml, hown, hts⟩ (c_X9_isAtWindow l dC dI cI cZ am H.size K ((xs (3 * n + 1))) y hf9) (cwV 1 hts gL_law_X9_isAtWindow rfl rfl rfl (by decide +kernel) ⟨Nat.le_of_ble_eq_true rfl, Nat.le_of_ble_eq_true rfl⟩) ⟨WR.blind, va_recv hK hP (ci := 9) (q0 := 43) rfl rfl, WR.pre hPc hK2 hDc hNW⟩ rfl rfl hl.1 rfl (lv_room (Nat.le_of_ble_eq_true rfl)) dL_law_1541 ⟨by show _ + 0 ≤ 601024; omega, by show _ + 0 ≤ 7293034; omega⟩) hS (fun q _ h => hFc q h) hFc (fun rv u t H1 locs ht hvm hw hB hz1 hk1 hS => ?_)
  obtain ⟨hP1, hD1⟩ := hB
  rw [ht] at hP1
  rw [hw]
  obtain ⟨hP, hD⟩ := join_app (ws := (wLaw cI cZ cS cL hs1 o fl1 a M am K)) (wr := (wL cI cZ cS cL (fS hs1) (fG hs1) o fl1 a M)) (w1 := (wX9 cI cZ am (sr K 0 (y.2 0)))) hP hD [43, 44, 45, 46, 47, 48, 49, 50, 51] [0, 1, 2, 3, 4, 5, 6, 7, 8, 9, 10, 11, 12, 13, 14, 15, 16, 17, 18, 19, 20, 21, 22, 23, 24, 25, 26, 27, 28, 29, 30, 31, 32, 33, 34, 35, 36, 37, 38, 39, 40, 41, 42] rfl rfl (by decide) (by decide) hk1 hFc hP1 hD1
  have hP : va_P (dC, dI) vwCl ((wLaw cI cZ cS cL hs1 o fl1 a M am (sr K 0 (y.2 0))) ++ RW cI cZ hs1) H1 := hP
  have hD : va_D A ((wLaw cI cZ cS cL hs1 o fl1 a M am (sr K 0 (y.2 0))) ++ RW cI cZ hs1) := hD
  generalize H1 = H at hP hS ⊢
  refine lv_istore (lv' := [(6, .int y.1), (5, .int kk), (0, .ref b), (1, .ref (a 0)), (2, .ref (am 0)), (3, .ref o), (4, .int (nI (3 * n)))]) hx hb dL_law_1544 hl (by decide) rfl (fun ls hl => ?_)
  refine lv_aload_n hx hb dL_law_1546 rfl (lv_at hl 4 rfl) ?_
  have hPc := P_head (ws := (wLaw cI cZ cS cL hs1 o fl1 a M am (sr K 0 (y.2 0)))) (ws' := (wX9 cI cZ am (sr K 0 (y.2 0)))) hP [43, 44, 45, 46, 47, 48, 49, 50, 51] rfl
  refine cRO (W.runV (As := []) (rest := []) ⟨hx, hb, hml, hown, hts⟩ (c_X9_thrown l dC dI cI cZ am (sr K 0 (y.2 0)) ((sr K 0 (y.2 0)) 0 0) rfl) (cwV 0 hts gL_law_X9_thrown rfl rfl rfl (by decide +kernel) ⟨Nat.le_of_ble_eq_true rfl, Nat.le_of_ble_eq_true rfl⟩) ⟨RO.blind, va_recv hK hP (ci := 9) (q0 := 43) rfl rfl, RO.pre hPc hK2 hNW⟩ rfl rfl hl.1 rfl (lv_room (Nat.le_of_ble_eq_true rfl)) dL_law_1547 ⟨by show _ + 0 ≤ 601024; omega, by show _ + 0 ≤ 7293034; omega⟩) ?_
  refine lv_iload hx hb dL_law_1550 (lv_at hl 1 rfl) ?_
  refine lv_icmp_eq (tgt := 1557) hx hb dL_law_1552 (by decide) (fun c9 => ?_) (fun c9 => absurd h9k c9)
  refine lv_iload hx hb dL_law_1557 (lv_at hl 1 rfl) ?_
  refine lv_if_ne (tgt := 1581) hx hb dL_law_1559 (by decide) (fun c9 => ?_) (fun c9 => ?_)
  · refine lv_goto (tgt := 3556) hx hb dL_law_1581 (by decide) ?_
    refine W.widen (k := cells + 17) (n := slots + 322) (by omega) (by omega) ?_
    exact kk9 hs1 fl1 _ _ _ H locs hI9 (lv_sub hl [2, 3, 4, 5, 6] rfl) hP hD hS
  obtain ⟨u, hr9⟩ := Ans_z hA9 c9
  have hv9 := hout u hr9
  have hu9 := hval u hr9
  refine lv_aload_n hx hb dL_law_1562 rfl (lv_at hl 5 rfl) ?_
  refine lv_iconst (v := (0 : Int32)) hx hb dL_law_1563 (by decide) ?_
  refine va_lald (D := (dC, dI)) (f := fl1) hx hb hK hP 0 3 rfl rfl (inb_in rfl) dL_law_1564 ?_
  refine lv_iload hx hb dL_law_1565 (lv_at hl 0 rfl) ?_
  refine lv_if_eq (tgt := 1574) hx hb dL_law_1567 (by decide) (fun c8 => ?_) (fun c8 => ?_)
  · refine lv_lconst (v := (0 : Int64)) hx hb dL_law_1574 (by decide) ?_
    refine W.lcmp hx hb dL_law_1575 ?_
    refine lv_if_eq (tgt := 1581) hx hb dL_law_1576 (by decide) (fun c7 => ?_) (fun c7 => absurd (lg_eq (hv9.trans (if_pos (hu9.trans c8)))) c7)
    refine lv_goto (tgt := 3556) hx hb dL_law_1581 (by decide) ?_
    refine W.widen (k := cells + 17) (n := slots + 322) (by omega) (by omega) ?_
    exact kk9 hs1 fl1 _ _ _ H locs hI9 (lv_sub hl [2, 3, 4, 5, 6] rfl) hP hD hS
  · refine lv_lconst (v := (1 : Int64)) hx hb dL_law_1570 (by decide) ?_
    refine lv_goto (tgt := 1575) hx hb dL_law_1571 (by decide) ?_
    refine W.lcmp hx hb dL_law_1575 ?_
    refine lv_if_eq (tgt := 1581) hx hb dL_law_1576 (by decide) (fun c7 => ?_) (fun c7 => absurd (lg_eq (hv9.trans (if_neg (fun h => c8 (hu9.symm.trans h))))) c7)
    refine lv_goto (tgt := 3556) hx hb dL_law_1581 (by decide) ?_
    refine W.widen (k := cells + 17) (n := slots + 322) (by omega) (by omega) ?_
    exact kk9 hs1 fl1 _ _ _ H locs hI9 (lv_sub hl [2, 3, 4, 5, 6] rfl) hP hD hS
set_option maxHeartbeats 4000000 in
set_option maxRecDepth 100000 in
theorem lc_thingsIn {p : Program} {l : Launch} {e : Env} {s : State} {m : MethodId} {below : List Frame} {meth : Method} {c : Code} {b L : Nat} {xs : Nat → Int32} {dC : Nat → ClassId} {dI : Nat → Nat → Nat} {cI cZ cS cL : ClassId} {A : Nat → Prop} {a am : Nat → Nat} {o : Nat} {Q : State → Prop} (X0 : LCx p l s m c b L xs dC dI cI cZ cS cL A) {Inv : Nat → (Nat → Option Mem) → Mem → Mem → Prop} (hSt : St_thingsIn Inv) {n : Nat} (hn : n < 512) (hnL : 3 * n + 2 < L) (hL : L ≤ 1536) {hs : HS} {fl : Nat → Int64} {M K : Mem} (hI : Inv n (cts hs) M K) {ls : Array Slot} {H : Heap} {locs : List Loc} {cells slots : Nat} (hcs : cells + 17 ≤ 601024) (hss : slots + 322 ≤ 7293034) (hl : lv_has ls 9 [(0, .ref b), (1, .ref (a 0)), (2, .ref (am 0)), (3, .ref o), (4, .int (nI (3 * n)))]) (hP : va_P (dC, dI) vwCl (wLaw cI cZ cS cL hs o fl a M am K ++ RW cI cZ hs) H) (hD : va_D A (wLaw cI cZ cS cL hs o fl a M am K ++ RW cI cZ hs)) (hS : va_S A s.heap H locs) (kk9 : ∀ (hs' : HS) (fl' : Nat → Int64) (M' K' : Mem) (ls : Array Slot) (H : Heap) (locs : List Loc), Inv (n + 1) (cts hs') M' K' → lv_has ls 9 [(0, .ref b), (1, .ref (a 0)), (2, .ref (am 0)), (3, .ref o), (4, .int (nI (3 * n)))] → va_P (dC, dI) vwCl (wLaw cI cZ cS cL hs' o fl' a M' am K' ++ RW cI cZ hs') H → va_D A (wLaw cI cZ cS cL hs' o fl' a M' am K' ++ RW cI cZ hs') → va_S A s.heap H locs → W p l e room_1 s m #[Value.ref b] below meth c H locs (cells + 17) (slots + 322) Q (F0 m 3556 ls [])) : W p l e room_1 s m #[Value.ref b] below meth c H locs cells slots Q (F0 m 1584 ls []) := by
  obtain ⟨hx, hb, hml, hown, hts, hK, hNW, hEX, hNC, hA, hXs, hbl, hbA, hst⟩ := X0
  have hK8 : va_K (dC, dI) vwCl (tys8 cI cZ cS) s := hK.sub (tys' := tys8 cI cZ cS) [0, 1, 2] rfl
  have hK2 : va_K (dC, dI) vwCl [(cI, .int), (cZ, .boolean)] s := hK.sub (tys' := [(cI, .int), (cZ, .boolean)]) [0, 1] rfl
  obtain ⟨r, kk, y, hf8, hA9, hf9, h9k, hval, hI9⟩ := hSt n (cts hs) M K (xs (3 * n + 1)) (xs (3 * n + 2)) hn hI
  refine lv_aload_n hx hb dL_law_1584 rfl (lv_at hl 1 rfl) ?_
  refine lv_aload_n hx hb dL_law_1585 rfl (lv_at hl 0 rfl) ?_
  refine lv_iload hx hb dL_law_1586 (lv_at hl 4 rfl) ?_
  refine lv_iconst (v := (1 : Int32)) hx hb dL_law_1588 (by decide) ?_
  refine lv_iadd hx hb dL_law_1589 ?_
  rw [show nI (3 * n) + (1 : Int32) = nI (3 * n + 1) from nI_add (3 * n) 1]
  refine va_sld hx hb hXs hbl hbA hS (vp_in_nI (by omega) (by omega)) dL_law_1590 ?_
  rw [nI_clamp (show 3 * n + 1 < 2 ^ 31 by omega)]
  refine lv_aload_n hx hb dL_law_1591 rfl (lv_at hl 0 rfl) ?_
  refine lv_iload hx hb dL_law_1592 (lv_at hl 4 rfl) ?_
  refine lv_iconst (v := (2 : Int32)) hx hb dL_law_1594 (by decide) ?_
  refine lv_iadd hx hb dL_law_1595 ?_
  rw [show nI (3 * n) + (2 : Int32) = nI (3 * n + 2) from nI_add (3 * n) 2]
  refine va_sld hx hb hXs hbl hbA hS (vp_in_nI (by omega) (by omega)) dL_law_1596 ?_
  rw [nI_clamp (show 3 * n + 2 < 2 ^ 31 by omega)]
  refine lv_aload_n hx hb dL_law_1597 rfl (lv_at hl 3 rfl) ?_
  have hPc := hP.part (X := (wLaw cI cZ cS cL hs o fl a M am K)) (cx := (wL cI cZ cS cL (fS hs) (fG hs) o fl a M)) [0, 1, 2, 3, 4, 5, 6, 7, 8, 9, 10, 11, 12, 13, 14, 15, 16, 17, 18, 19, 20, 21, 22, 23, 24, 25, 26, 27, 28, 29, 30, 31, 32, 33, 34, 35, 36, 37, 38, 39, 40, 41, 42] rfl
  have hDc := hD.part (X := (wLaw cI cZ cS cL hs o fl a M am K)) (cx := (wL cI cZ cS cL (fS hs) (fG hs) o fl a M)) [0, 1, 2, 3, 4, 5, 6, 7, 8, 9, 10, 11, 12, 13, 14, 15, 16, 17, 18, 19, 20, 21, 22, 23, 24, 25, 26, 27, 28, 29, 30, 31, 32, 33, 34, 35, 36, 37, 38, 39, 40, 41, 42] (by decide) rfl
  have hFc := va_freeP (X := (wLaw cI cZ cS cL hs o fl a M am K)) (cx := (wL cI cZ cS cL (fS hs) (fG hs) o fl a M)) hD hS hA [0, 1, 2, 3, 4, 5, 6, 7, 8, 9, 10, 11, 12, 13, 14, 15, 16, 17, 18, 19, 20, 21, 22, 23, 24, 25, 26, 27, 28, 29, 30, 31, 32, 33, 34, 35, 36, 37, 38, 39, 40, 41, 42] rfl
  refine va_calli (vx_runSW (As := [.ref (a 0), .int ((xs (3 * n + 1))), .int ((xs (3 * n + 2))), .ref o]) (rest := []) ⟨hx, hb, hml, hown, hts⟩ (w_L_thingsIn l hst dC dI cI cZ cS cL hs o fl a H.size M ((xs (3 * n + 1))) ((xs (3 * n + 2))) r kk hf8 hA9) (vx_cwSW 4 hts gL_law_L_thingsIn rfl rfl rfl (by decide +kernel) ⟨Nat.le_of_ble_eq_true rfl, Nat.le_of_ble_eq_true rfl⟩) ⟨T9.blind, T9.pre hPc hK hDc hNW (hEX.at hS hFc) hNC⟩ rfl rfl hl.1 rfl (lv_room (Nat.le_of_ble_eq_true rfl)) dL_law_1598 ⟨by show cells + 1 ≤ 601024; omega, by show slots + 6 ≤ 7293034; omega⟩) hS (fun q _ h => hFc q h) hFc (fun rv u t H1 locs ht hvm hw hB hz1 hk1 hS => ?_)
  obtain ⟨hw1, hw2, hout⟩ := hw
  obtain ⟨hs1, fl1⟩ := u
  have hw2 : hs1 = hs := hw2
  rw [hw1]
  obtain ⟨hP1, hD1⟩ := hB
  rw [ht] at hP1
  obtain ⟨hP, hD⟩ := va_joinP (X := (wLaw cI cZ cS cL hs o fl a M am K)) (cx := (wL cI cZ cS cL (fS hs) (fG hs) o fl a M)) (wr := (wX9 cI cZ am K)) (rx := (wL cI cZ cS cL (fS hs1) (fG hs1) o fl1 a M)) hP hD [0, 1, 2, 3, 4, 5, 6, 7, 8, 9, 10, 11, 12, 13, 14, 15, 16, 17, 18, 19, 20, 21, 22, 23, 24, 25, 26, 27, 28, 29, 30, 31, 32, 33, 34, 35, 36, 37, 38, 39, 40, 41, 42] [43, 44, 45, 46, 47, 48, 49, 50, 51] rfl rfl (by decide) (by decide) hk1 hFc hP1 hD1
  have hP := hP.part (cx := (wLaw cI cZ cS cL hs1 o fl1 a M am K)) [9, 10, 11, 12, 13, 14, 15, 16, 17, 18, 19, 20, 21, 22, 23, 24, 25, 26, 27, 28, 29, 30, 31, 32, 33, 34, 35, 36, 37, 38, 39, 40, 41, 42, 43, 44, 45, 46, 47, 48, 49, 50, 51, 0, 1, 2, 3, 4, 5, 6, 7, 8] rfl
  have hD := hD.part (cx := (wLaw cI cZ cS cL hs1 o fl1 a M am K)) [9, 10, 11, 12, 13, 14, 15, 16, 17, 18, 19, 20, 21, 22, 23, 24, 25, 26, 27, 28, 29, 30, 31, 32, 33, 34, 35, 36, 37, 38, 39, 40, 41, 42, 43, 44, 45, 46, 47, 48, 49, 50, 51, 0, 1, 2, 3, 4, 5, 6, 7, 8] (by decide) rfl
  generalize H1 = H at hP hS ⊢
  rw [← hw2] at hI9
  refine lv_istore (lv' := [(5, .int kk), (0, .ref b), (1, .ref (a 0)), (2, .ref (am 0)), (3, .ref o), (4, .int (nI (3 * n)))]) hx hb dL_law_1601 hl (by decide) rfl (fun ls hl => ?_)
  refine lv_aload_n hx hb dL_law_1603 rfl (lv_at hl 3 rfl) ?_
  refine lv_aload_n hx hb dL_law_1604 rfl (lv_at hl 1 rfl) ?_
  refine lv_iload hx hb dL_law_1605 (lv_at hl 5 rfl) ?_
  refine lv_iconst (v := (1 : Int32)) hx hb dL_law_1607 (by decide) ?_
  refine lv_iadd hx hb dL_law_1608 ?_
  rw [show nI (3 * n) + (1 : Int32) = nI (3 * n + 1) from nI_add (3 * n) 1]
  refine va_sld hx hb hXs hbl hbA hS (vp_in_nI (by omega) (by omega)) dL_law_1609 ?_
  rw [nI_clamp (show 3 * n + 1 < 2 ^ 31 by omega)]
  refine lv_aload_n hx hb dL_law_1610 rfl (lv_at hl 1 rfl) ?_
  refine lv_iload hx hb dL_law_1611 (lv_at hl 5 rfl) ?_
  refine lv_iconst (v := (2 : Int32)) hx hb dL_law_1613 (by decide) ?_
  refine lv_iadd hx hb dL_law_1614 ?_
  rw [show nI (3 * n) + (2 : Int32) = nI (3 * n + 2) from nI_add (3 * n) 2]
  refine va_sld hx hb hXs hbl hbA hS (vp_in_nI (by omega) (by omega)) dL_law_1615 ?_
  rw [nI_clamp (show 3 * n + 2 < 2 ^ 31 by omega)]
  have hPc := P_head (ws := (wLaw cI cZ cS cL hs1 o fl1 a M am K)) (ws' := (wX9 cI cZ am K)) hP [43, 44, 45, 46, 47, 48, 49, 50, 51] rfl
  have hDc := D_head (ws := (wLaw cI cZ cS cL hs1 o fl1 a M am K)) (ws' := (wX9 cI cZ am K)) hD [43, 44, 45, 46, 47, 48, 49, 50, 51] (by decide) rfl
  have hFc := va_free (wc := (wX9 cI cZ am K)) hD hS hA [43, 44, 45, 46, 47, 48, 49, 50, 51] rfl
  refine va_calli (va_runV (As := [.int ((xs (3 * n + 1))), .int ((xs (3 * n + 2)))]) (rest := []) ⟨hx, hb, hml, hown, hts⟩ (c_X9_thingsIn l dC dI cI cZ am H.size K ((xs (3 * n + 1))) ((xs (3 * n + 2))) y hf9) (cwV 2 hts gL_law_X9_thingsIn rfl rfl rfl (by decide +kernel) ⟨Nat.le_of_ble_eq_true rfl, Nat.le_of_ble_eq_true rfl⟩) ⟨WR.blind, va_recv hK hP (ci := 9) (q0 := 43) rfl rfl, WR.pre hPc hK2 hDc hNW⟩ rfl rfl hl.1 rfl (lv_room (Nat.le_of_ble_eq_true rfl)) dL_law_1616 ⟨by show _ + 0 ≤ 601024; omega, by show _ + 0 ≤ 7293034; omega⟩) hS (fun q _ h => hFc q h) hFc (fun rv u t H1 locs ht hvm hw hB hz1 hk1 hS => ?_)
  obtain ⟨hP1, hD1⟩ := hB
  rw [ht] at hP1
  rw [hw]
  obtain ⟨hP, hD⟩ := join_app (ws := (wLaw cI cZ cS cL hs1 o fl1 a M am K)) (wr := (wL cI cZ cS cL (fS hs1) (fG hs1) o fl1 a M)) (w1 := (wX9 cI cZ am (sr K 0 (y.2 0)))) hP hD [43, 44, 45, 46, 47, 48, 49, 50, 51] [0, 1, 2, 3, 4, 5, 6, 7, 8, 9, 10, 11, 12, 13, 14, 15, 16, 17, 18, 19, 20, 21, 22, 23, 24, 25, 26, 27, 28, 29, 30, 31, 32, 33, 34, 35, 36, 37, 38, 39, 40, 41, 42] rfl rfl (by decide) (by decide) hk1 hFc hP1 hD1
  have hP : va_P (dC, dI) vwCl ((wLaw cI cZ cS cL hs1 o fl1 a M am (sr K 0 (y.2 0))) ++ RW cI cZ hs1) H1 := hP
  have hD : va_D A ((wLaw cI cZ cS cL hs1 o fl1 a M am (sr K 0 (y.2 0))) ++ RW cI cZ hs1) := hD
  generalize H1 = H at hP hS ⊢
  refine lv_istore (lv' := [(6, .int y.1), (5, .int kk), (0, .ref b), (1, .ref (a 0)), (2, .ref (am 0)), (3, .ref o), (4, .int (nI (3 * n)))]) hx hb dL_law_1619 hl (by decide) rfl (fun ls hl => ?_)
  refine lv_aload_n hx hb dL_law_1621 rfl (lv_at hl 4 rfl) ?_
  have hPc := P_head (ws := (wLaw cI cZ cS cL hs1 o fl1 a M am (sr K 0 (y.2 0)))) (ws' := (wX9 cI cZ am (sr K 0 (y.2 0)))) hP [43, 44, 45, 46, 47, 48, 49, 50, 51] rfl
  refine cRO (W.runV (As := []) (rest := []) ⟨hx, hb, hml, hown, hts⟩ (c_X9_thrown l dC dI cI cZ am (sr K 0 (y.2 0)) ((sr K 0 (y.2 0)) 0 0) rfl) (cwV 0 hts gL_law_X9_thrown rfl rfl rfl (by decide +kernel) ⟨Nat.le_of_ble_eq_true rfl, Nat.le_of_ble_eq_true rfl⟩) ⟨RO.blind, va_recv hK hP (ci := 9) (q0 := 43) rfl rfl, RO.pre hPc hK2 hNW⟩ rfl rfl hl.1 rfl (lv_room (Nat.le_of_ble_eq_true rfl)) dL_law_1622 ⟨by show _ + 0 ≤ 601024; omega, by show _ + 0 ≤ 7293034; omega⟩) ?_
  refine lv_iload hx hb dL_law_1625 (lv_at hl 1 rfl) ?_
  refine lv_icmp_eq (tgt := 1632) hx hb dL_law_1627 (by decide) (fun c9 => ?_) (fun c9 => absurd h9k c9)
  refine lv_iload hx hb dL_law_1632 (lv_at hl 1 rfl) ?_
  refine lv_if_ne (tgt := 1649) hx hb dL_law_1634 (by decide) (fun c9 => ?_) (fun c9 => ?_)
  · refine lv_goto (tgt := 3556) hx hb dL_law_1649 (by decide) ?_
    refine W.widen (k := cells + 17) (n := slots + 322) (by omega) (by omega) ?_
    exact kk9 hs1 fl1 _ _ _ H locs hI9 (lv_sub hl [2, 3, 4, 5, 6] rfl) hP hD hS
  obtain ⟨u, hr9⟩ := Ans_z hA9 c9
  have hv9 := hout u hr9
  have hu9 := hval u hr9
  refine lv_aload_n hx hb dL_law_1637 rfl (lv_at hl 5 rfl) ?_
  refine lv_iconst (v := (0 : Int32)) hx hb dL_law_1638 (by decide) ?_
  refine va_lald (D := (dC, dI)) (f := fl1) hx hb hK hP 0 3 rfl rfl (inb_in rfl) dL_law_1639 ?_
  refine lv_iload hx hb dL_law_1640 (lv_at hl 0 rfl) ?_
  refine lv_i2l (v := (y.1).toInt64) hx hb dL_law_1642 rfl ?_
  refine W.lcmp hx hb dL_law_1643 ?_
  refine lv_if_eq (tgt := 1649) hx hb dL_law_1644 (by decide) (fun c7 => ?_) (fun c7 => absurd (lg_eq (hv9.trans (congrArg Int32.toInt64 hu9))) c7)
  refine lv_goto (tgt := 3556) hx hb dL_law_1649 (by decide) ?_
  refine W.widen (k := cells + 17) (n := slots + 322) (by omega) (by omega) ?_
  exact kk9 hs1 fl1 _ _ _ H locs hI9 (lv_sub hl [2, 3, 4, 5, 6] rfl) hP hD hS
set_option maxHeartbeats 4000000 in
set_option maxRecDepth 100000 in
theorem lc_weightOf {p : Program} {l : Launch} {e : Env} {s : State} {m : MethodId} {below : List Frame} {meth : Method} {c : Code} {b L : Nat} {xs : Nat → Int32} {dC : Nat → ClassId} {dI : Nat → Nat → Nat} {cI cZ cS cL : ClassId} {A : Nat → Prop} {a am : Nat → Nat} {o : Nat} {Q : State → Prop} (X0 : LCx p l s m c b L xs dC dI cI cZ cS cL A) {Inv : Nat → (Nat → Option Mem) → Mem → Mem → Prop} (hSt : St_weightOf Inv) {n : Nat} (hn : n < 512) (hnL : 3 * n + 2 < L) (hL : L ≤ 1536) {hs : HS} {fl : Nat → Int64} {M K : Mem} (hI : Inv n (cts hs) M K) {ls : Array Slot} {H : Heap} {locs : List Loc} {cells slots : Nat} (hcs : cells + 17 ≤ 601024) (hss : slots + 322 ≤ 7293034) (hl : lv_has ls 9 [(0, .ref b), (1, .ref (a 0)), (2, .ref (am 0)), (3, .ref o), (4, .int (nI (3 * n)))]) (hP : va_P (dC, dI) vwCl (wLaw cI cZ cS cL hs o fl a M am K ++ RW cI cZ hs) H) (hD : va_D A (wLaw cI cZ cS cL hs o fl a M am K ++ RW cI cZ hs)) (hS : va_S A s.heap H locs) (kk9 : ∀ (hs' : HS) (fl' : Nat → Int64) (M' K' : Mem) (ls : Array Slot) (H : Heap) (locs : List Loc), Inv (n + 1) (cts hs') M' K' → lv_has ls 9 [(0, .ref b), (1, .ref (a 0)), (2, .ref (am 0)), (3, .ref o), (4, .int (nI (3 * n)))] → va_P (dC, dI) vwCl (wLaw cI cZ cS cL hs' o fl' a M' am K' ++ RW cI cZ hs') H → va_D A (wLaw cI cZ cS cL hs' o fl' a M' am K' ++ RW cI cZ hs') → va_S A s.heap H locs → W p l e room_1 s m #[Value.ref b] below meth c H locs (cells + 17) (slots + 322) Q (F0 m 3556 ls [])) : W p l e room_1 s m #[Value.ref b] below meth c H locs cells slots Q (F0 m 1652 ls []) := by
  obtain ⟨hx, hb, hml, hown, hts, hK, hNW, hEX, hNC, hA, hXs, hbl, hbA, hst⟩ := X0
  have hK8 : va_K (dC, dI) vwCl (tys8 cI cZ cS) s := hK.sub (tys' := tys8 cI cZ cS) [0, 1, 2] rfl
  have hK2 : va_K (dC, dI) vwCl [(cI, .int), (cZ, .boolean)] s := hK.sub (tys' := [(cI, .int), (cZ, .boolean)]) [0, 1] rfl
  obtain ⟨r, kk, y, hf8, hA9, hf9, h9k, hval, hI9⟩ := hSt n (cts hs) M K (xs (3 * n + 1)) hn hI
  refine lv_aload_n hx hb dL_law_1652 rfl (lv_at hl 1 rfl) ?_
  refine lv_aload_n hx hb dL_law_1653 rfl (lv_at hl 0 rfl) ?_
  refine lv_iload hx hb dL_law_1654 (lv_at hl 4 rfl) ?_
  refine lv_iconst (v := (1 : Int32)) hx hb dL_law_1656 (by decide) ?_
  refine lv_iadd hx hb dL_law_1657 ?_
  rw [show nI (3 * n) + (1 : Int32) = nI (3 * n + 1) from nI_add (3 * n) 1]
  refine va_sld hx hb hXs hbl hbA hS (vp_in_nI (by omega) (by omega)) dL_law_1658 ?_
  rw [nI_clamp (show 3 * n + 1 < 2 ^ 31 by omega)]
  refine lv_aload_n hx hb dL_law_1659 rfl (lv_at hl 3 rfl) ?_
  have hPc := hP.part (X := (wLaw cI cZ cS cL hs o fl a M am K)) (cx := (wL cI cZ cS cL (fS hs) (fG hs) o fl a M)) [0, 1, 2, 3, 4, 5, 6, 7, 8, 9, 10, 11, 12, 13, 14, 15, 16, 17, 18, 19, 20, 21, 22, 23, 24, 25, 26, 27, 28, 29, 30, 31, 32, 33, 34, 35, 36, 37, 38, 39, 40, 41, 42] rfl
  have hDc := hD.part (X := (wLaw cI cZ cS cL hs o fl a M am K)) (cx := (wL cI cZ cS cL (fS hs) (fG hs) o fl a M)) [0, 1, 2, 3, 4, 5, 6, 7, 8, 9, 10, 11, 12, 13, 14, 15, 16, 17, 18, 19, 20, 21, 22, 23, 24, 25, 26, 27, 28, 29, 30, 31, 32, 33, 34, 35, 36, 37, 38, 39, 40, 41, 42] (by decide) rfl
  have hFc := va_freeP (X := (wLaw cI cZ cS cL hs o fl a M am K)) (cx := (wL cI cZ cS cL (fS hs) (fG hs) o fl a M)) hD hS hA [0, 1, 2, 3, 4, 5, 6, 7, 8, 9, 10, 11, 12, 13, 14, 15, 16, 17, 18, 19, 20, 21, 22, 23, 24, 25, 26, 27, 28, 29, 30, 31, 32, 33, 34, 35, 36, 37, 38, 39, 40, 41, 42] rfl
  refine va_calli (vx_runSW (As := [.ref (a 0), .int ((xs (3 * n + 1))), .ref o]) (rest := []) ⟨hx, hb, hml, hown, hts⟩ (w_L_weightOf l hst dC dI cI cZ cS cL hs o fl a H.size M ((xs (3 * n + 1))) r kk hf8 hA9) (vx_cwSW 3 hts gL_law_L_weightOf rfl rfl rfl (by decide +kernel) ⟨Nat.le_of_ble_eq_true rfl, Nat.le_of_ble_eq_true rfl⟩) ⟨T9.blind, T9.pre hPc hK hDc hNW (hEX.at hS hFc) hNC⟩ rfl rfl hl.1 rfl (lv_room (Nat.le_of_ble_eq_true rfl)) dL_law_1660 ⟨by show cells + 1 ≤ 601024; omega, by show slots + 6 ≤ 7293034; omega⟩) hS (fun q _ h => hFc q h) hFc (fun rv u t H1 locs ht hvm hw hB hz1 hk1 hS => ?_)
  obtain ⟨hw1, hw2, hout⟩ := hw
  obtain ⟨hs1, fl1⟩ := u
  have hw2 : hs1 = hs := hw2
  rw [hw1]
  obtain ⟨hP1, hD1⟩ := hB
  rw [ht] at hP1
  obtain ⟨hP, hD⟩ := va_joinP (X := (wLaw cI cZ cS cL hs o fl a M am K)) (cx := (wL cI cZ cS cL (fS hs) (fG hs) o fl a M)) (wr := (wX9 cI cZ am K)) (rx := (wL cI cZ cS cL (fS hs1) (fG hs1) o fl1 a M)) hP hD [0, 1, 2, 3, 4, 5, 6, 7, 8, 9, 10, 11, 12, 13, 14, 15, 16, 17, 18, 19, 20, 21, 22, 23, 24, 25, 26, 27, 28, 29, 30, 31, 32, 33, 34, 35, 36, 37, 38, 39, 40, 41, 42] [43, 44, 45, 46, 47, 48, 49, 50, 51] rfl rfl (by decide) (by decide) hk1 hFc hP1 hD1
  have hP := hP.part (cx := (wLaw cI cZ cS cL hs1 o fl1 a M am K)) [9, 10, 11, 12, 13, 14, 15, 16, 17, 18, 19, 20, 21, 22, 23, 24, 25, 26, 27, 28, 29, 30, 31, 32, 33, 34, 35, 36, 37, 38, 39, 40, 41, 42, 43, 44, 45, 46, 47, 48, 49, 50, 51, 0, 1, 2, 3, 4, 5, 6, 7, 8] rfl
  have hD := hD.part (cx := (wLaw cI cZ cS cL hs1 o fl1 a M am K)) [9, 10, 11, 12, 13, 14, 15, 16, 17, 18, 19, 20, 21, 22, 23, 24, 25, 26, 27, 28, 29, 30, 31, 32, 33, 34, 35, 36, 37, 38, 39, 40, 41, 42, 43, 44, 45, 46, 47, 48, 49, 50, 51, 0, 1, 2, 3, 4, 5, 6, 7, 8] (by decide) rfl
  generalize H1 = H at hP hS ⊢
  rw [← hw2] at hI9
  refine lv_istore (lv' := [(5, .int kk), (0, .ref b), (1, .ref (a 0)), (2, .ref (am 0)), (3, .ref o), (4, .int (nI (3 * n)))]) hx hb dL_law_1663 hl (by decide) rfl (fun ls hl => ?_)
  refine lv_aload_n hx hb dL_law_1665 rfl (lv_at hl 3 rfl) ?_
  refine lv_aload_n hx hb dL_law_1666 rfl (lv_at hl 1 rfl) ?_
  refine lv_iload hx hb dL_law_1667 (lv_at hl 5 rfl) ?_
  refine lv_iconst (v := (1 : Int32)) hx hb dL_law_1669 (by decide) ?_
  refine lv_iadd hx hb dL_law_1670 ?_
  rw [show nI (3 * n) + (1 : Int32) = nI (3 * n + 1) from nI_add (3 * n) 1]
  refine va_sld hx hb hXs hbl hbA hS (vp_in_nI (by omega) (by omega)) dL_law_1671 ?_
  rw [nI_clamp (show 3 * n + 1 < 2 ^ 31 by omega)]
  have hPc := P_head (ws := (wLaw cI cZ cS cL hs1 o fl1 a M am K)) (ws' := (wX9 cI cZ am K)) hP [43, 44, 45, 46, 47, 48, 49, 50, 51] rfl
  have hDc := D_head (ws := (wLaw cI cZ cS cL hs1 o fl1 a M am K)) (ws' := (wX9 cI cZ am K)) hD [43, 44, 45, 46, 47, 48, 49, 50, 51] (by decide) rfl
  have hFc := va_free (wc := (wX9 cI cZ am K)) hD hS hA [43, 44, 45, 46, 47, 48, 49, 50, 51] rfl
  refine va_calli (va_runV (As := [.int ((xs (3 * n + 1)))]) (rest := []) ⟨hx, hb, hml, hown, hts⟩ (c_X9_weightOf l dC dI cI cZ am H.size K ((xs (3 * n + 1))) y hf9) (cwV 1 hts gL_law_X9_weightOf rfl rfl rfl (by decide +kernel) ⟨Nat.le_of_ble_eq_true rfl, Nat.le_of_ble_eq_true rfl⟩) ⟨WR.blind, va_recv hK hP (ci := 9) (q0 := 43) rfl rfl, WR.pre hPc hK2 hDc hNW⟩ rfl rfl hl.1 rfl (lv_room (Nat.le_of_ble_eq_true rfl)) dL_law_1672 ⟨by show _ + 0 ≤ 601024; omega, by show _ + 0 ≤ 7293034; omega⟩) hS (fun q _ h => hFc q h) hFc (fun rv u t H1 locs ht hvm hw hB hz1 hk1 hS => ?_)
  obtain ⟨hP1, hD1⟩ := hB
  rw [ht] at hP1
  rw [hw]
  obtain ⟨hP, hD⟩ := join_app (ws := (wLaw cI cZ cS cL hs1 o fl1 a M am K)) (wr := (wL cI cZ cS cL (fS hs1) (fG hs1) o fl1 a M)) (w1 := (wX9 cI cZ am (sr K 0 (y.2 0)))) hP hD [43, 44, 45, 46, 47, 48, 49, 50, 51] [0, 1, 2, 3, 4, 5, 6, 7, 8, 9, 10, 11, 12, 13, 14, 15, 16, 17, 18, 19, 20, 21, 22, 23, 24, 25, 26, 27, 28, 29, 30, 31, 32, 33, 34, 35, 36, 37, 38, 39, 40, 41, 42] rfl rfl (by decide) (by decide) hk1 hFc hP1 hD1
  have hP : va_P (dC, dI) vwCl ((wLaw cI cZ cS cL hs1 o fl1 a M am (sr K 0 (y.2 0))) ++ RW cI cZ hs1) H1 := hP
  have hD : va_D A ((wLaw cI cZ cS cL hs1 o fl1 a M am (sr K 0 (y.2 0))) ++ RW cI cZ hs1) := hD
  generalize H1 = H at hP hS ⊢
  refine lv_istore (lv' := [(6, .int y.1), (5, .int kk), (0, .ref b), (1, .ref (a 0)), (2, .ref (am 0)), (3, .ref o), (4, .int (nI (3 * n)))]) hx hb dL_law_1675 hl (by decide) rfl (fun ls hl => ?_)
  refine lv_aload_n hx hb dL_law_1677 rfl (lv_at hl 4 rfl) ?_
  have hPc := P_head (ws := (wLaw cI cZ cS cL hs1 o fl1 a M am (sr K 0 (y.2 0)))) (ws' := (wX9 cI cZ am (sr K 0 (y.2 0)))) hP [43, 44, 45, 46, 47, 48, 49, 50, 51] rfl
  refine cRO (W.runV (As := []) (rest := []) ⟨hx, hb, hml, hown, hts⟩ (c_X9_thrown l dC dI cI cZ am (sr K 0 (y.2 0)) ((sr K 0 (y.2 0)) 0 0) rfl) (cwV 0 hts gL_law_X9_thrown rfl rfl rfl (by decide +kernel) ⟨Nat.le_of_ble_eq_true rfl, Nat.le_of_ble_eq_true rfl⟩) ⟨RO.blind, va_recv hK hP (ci := 9) (q0 := 43) rfl rfl, RO.pre hPc hK2 hNW⟩ rfl rfl hl.1 rfl (lv_room (Nat.le_of_ble_eq_true rfl)) dL_law_1678 ⟨by show _ + 0 ≤ 601024; omega, by show _ + 0 ≤ 7293034; omega⟩) ?_
  refine lv_iload hx hb dL_law_1681 (lv_at hl 1 rfl) ?_
  refine lv_icmp_eq (tgt := 1688) hx hb dL_law_1683 (by decide) (fun c9 => ?_) (fun c9 => absurd h9k c9)
  refine lv_iload hx hb dL_law_1688 (lv_at hl 1 rfl) ?_
  refine lv_if_ne (tgt := 1705) hx hb dL_law_1690 (by decide) (fun c9 => ?_) (fun c9 => ?_)
  · refine lv_goto (tgt := 3556) hx hb dL_law_1705 (by decide) ?_
    refine W.widen (k := cells + 17) (n := slots + 322) (by omega) (by omega) ?_
    exact kk9 hs1 fl1 _ _ _ H locs hI9 (lv_sub hl [2, 3, 4, 5, 6] rfl) hP hD hS
  obtain ⟨u, hr9⟩ := Ans_z hA9 c9
  have hv9 := hout u hr9
  have hu9 := hval u hr9
  refine lv_aload_n hx hb dL_law_1693 rfl (lv_at hl 5 rfl) ?_
  refine lv_iconst (v := (0 : Int32)) hx hb dL_law_1694 (by decide) ?_
  refine va_lald (D := (dC, dI)) (f := fl1) hx hb hK hP 0 3 rfl rfl (inb_in rfl) dL_law_1695 ?_
  refine lv_iload hx hb dL_law_1696 (lv_at hl 0 rfl) ?_
  refine lv_i2l (v := (y.1).toInt64) hx hb dL_law_1698 rfl ?_
  refine W.lcmp hx hb dL_law_1699 ?_
  refine lv_if_eq (tgt := 1705) hx hb dL_law_1700 (by decide) (fun c7 => ?_) (fun c7 => absurd (lg_eq (hv9.trans (congrArg Int32.toInt64 hu9))) c7)
  refine lv_goto (tgt := 3556) hx hb dL_law_1705 (by decide) ?_
  refine W.widen (k := cells + 17) (n := slots + 322) (by omega) (by omega) ?_
  exact kk9 hs1 fl1 _ _ _ H locs hI9 (lv_sub hl [2, 3, 4, 5, 6] rfl) hP hD hS
set_option maxHeartbeats 4000000 in
set_option maxRecDepth 100000 in
theorem lc_fetchesOf {p : Program} {l : Launch} {e : Env} {s : State} {m : MethodId} {below : List Frame} {meth : Method} {c : Code} {b L : Nat} {xs : Nat → Int32} {dC : Nat → ClassId} {dI : Nat → Nat → Nat} {cI cZ cS cL : ClassId} {A : Nat → Prop} {a am : Nat → Nat} {o : Nat} {Q : State → Prop} (X0 : LCx p l s m c b L xs dC dI cI cZ cS cL A) {Inv : Nat → (Nat → Option Mem) → Mem → Mem → Prop} (hSt : St_fetchesOf Inv) {n : Nat} (hn : n < 512) (hnL : 3 * n + 2 < L) (hL : L ≤ 1536) {hs : HS} {fl : Nat → Int64} {M K : Mem} (hI : Inv n (cts hs) M K) {ls : Array Slot} {H : Heap} {locs : List Loc} {cells slots : Nat} (hcs : cells + 17 ≤ 601024) (hss : slots + 322 ≤ 7293034) (hl : lv_has ls 9 [(0, .ref b), (1, .ref (a 0)), (2, .ref (am 0)), (3, .ref o), (4, .int (nI (3 * n)))]) (hP : va_P (dC, dI) vwCl (wLaw cI cZ cS cL hs o fl a M am K ++ RW cI cZ hs) H) (hD : va_D A (wLaw cI cZ cS cL hs o fl a M am K ++ RW cI cZ hs)) (hS : va_S A s.heap H locs) (kk9 : ∀ (hs' : HS) (fl' : Nat → Int64) (M' K' : Mem) (ls : Array Slot) (H : Heap) (locs : List Loc), Inv (n + 1) (cts hs') M' K' → lv_has ls 9 [(0, .ref b), (1, .ref (a 0)), (2, .ref (am 0)), (3, .ref o), (4, .int (nI (3 * n)))] → va_P (dC, dI) vwCl (wLaw cI cZ cS cL hs' o fl' a M' am K' ++ RW cI cZ hs') H → va_D A (wLaw cI cZ cS cL hs' o fl' a M' am K' ++ RW cI cZ hs') → va_S A s.heap H locs → W p l e room_1 s m #[Value.ref b] below meth c H locs (cells + 17) (slots + 322) Q (F0 m 3556 ls [])) : W p l e room_1 s m #[Value.ref b] below meth c H locs cells slots Q (F0 m 1708 ls []) := by
  obtain ⟨hx, hb, hml, hown, hts, hK, hNW, hEX, hNC, hA, hXs, hbl, hbA, hst⟩ := X0
  have hK8 : va_K (dC, dI) vwCl (tys8 cI cZ cS) s := hK.sub (tys' := tys8 cI cZ cS) [0, 1, 2] rfl
  have hK2 : va_K (dC, dI) vwCl [(cI, .int), (cZ, .boolean)] s := hK.sub (tys' := [(cI, .int), (cZ, .boolean)]) [0, 1] rfl
  obtain ⟨r, kk, y, hf8, hA9, hf9, h9k, hval, hI9⟩ := hSt n (cts hs) M K (xs (3 * n + 1)) hn hI
  refine lv_aload_n hx hb dL_law_1708 rfl (lv_at hl 1 rfl) ?_
  refine lv_aload_n hx hb dL_law_1709 rfl (lv_at hl 0 rfl) ?_
  refine lv_iload hx hb dL_law_1710 (lv_at hl 4 rfl) ?_
  refine lv_iconst (v := (1 : Int32)) hx hb dL_law_1712 (by decide) ?_
  refine lv_iadd hx hb dL_law_1713 ?_
  rw [show nI (3 * n) + (1 : Int32) = nI (3 * n + 1) from nI_add (3 * n) 1]
  refine va_sld hx hb hXs hbl hbA hS (vp_in_nI (by omega) (by omega)) dL_law_1714 ?_
  rw [nI_clamp (show 3 * n + 1 < 2 ^ 31 by omega)]
  refine lv_aload_n hx hb dL_law_1715 rfl (lv_at hl 3 rfl) ?_
  have hPc := hP.part (X := (wLaw cI cZ cS cL hs o fl a M am K)) (cx := (wL cI cZ cS cL (fS hs) (fG hs) o fl a M)) [0, 1, 2, 3, 4, 5, 6, 7, 8, 9, 10, 11, 12, 13, 14, 15, 16, 17, 18, 19, 20, 21, 22, 23, 24, 25, 26, 27, 28, 29, 30, 31, 32, 33, 34, 35, 36, 37, 38, 39, 40, 41, 42] rfl
  have hDc := hD.part (X := (wLaw cI cZ cS cL hs o fl a M am K)) (cx := (wL cI cZ cS cL (fS hs) (fG hs) o fl a M)) [0, 1, 2, 3, 4, 5, 6, 7, 8, 9, 10, 11, 12, 13, 14, 15, 16, 17, 18, 19, 20, 21, 22, 23, 24, 25, 26, 27, 28, 29, 30, 31, 32, 33, 34, 35, 36, 37, 38, 39, 40, 41, 42] (by decide) rfl
  have hFc := va_freeP (X := (wLaw cI cZ cS cL hs o fl a M am K)) (cx := (wL cI cZ cS cL (fS hs) (fG hs) o fl a M)) hD hS hA [0, 1, 2, 3, 4, 5, 6, 7, 8, 9, 10, 11, 12, 13, 14, 15, 16, 17, 18, 19, 20, 21, 22, 23, 24, 25, 26, 27, 28, 29, 30, 31, 32, 33, 34, 35, 36, 37, 38, 39, 40, 41, 42] rfl
  refine va_calli (vx_runSW (As := [.ref (a 0), .int ((xs (3 * n + 1))), .ref o]) (rest := []) ⟨hx, hb, hml, hown, hts⟩ (w_L_fetchesOf l hst dC dI cI cZ cS cL hs o fl a H.size M ((xs (3 * n + 1))) r kk hf8 hA9) (vx_cwSW 3 hts gL_law_L_fetchesOf rfl rfl rfl (by decide +kernel) ⟨Nat.le_of_ble_eq_true rfl, Nat.le_of_ble_eq_true rfl⟩) ⟨T9.blind, T9.pre hPc hK hDc hNW (hEX.at hS hFc) hNC⟩ rfl rfl hl.1 rfl (lv_room (Nat.le_of_ble_eq_true rfl)) dL_law_1716 ⟨by show cells + 1 ≤ 601024; omega, by show slots + 6 ≤ 7293034; omega⟩) hS (fun q _ h => hFc q h) hFc (fun rv u t H1 locs ht hvm hw hB hz1 hk1 hS => ?_)
  obtain ⟨hw1, hw2, hout⟩ := hw
  obtain ⟨hs1, fl1⟩ := u
  have hw2 : hs1 = hs := hw2
  rw [hw1]
  obtain ⟨hP1, hD1⟩ := hB
  rw [ht] at hP1
  obtain ⟨hP, hD⟩ := va_joinP (X := (wLaw cI cZ cS cL hs o fl a M am K)) (cx := (wL cI cZ cS cL (fS hs) (fG hs) o fl a M)) (wr := (wX9 cI cZ am K)) (rx := (wL cI cZ cS cL (fS hs1) (fG hs1) o fl1 a M)) hP hD [0, 1, 2, 3, 4, 5, 6, 7, 8, 9, 10, 11, 12, 13, 14, 15, 16, 17, 18, 19, 20, 21, 22, 23, 24, 25, 26, 27, 28, 29, 30, 31, 32, 33, 34, 35, 36, 37, 38, 39, 40, 41, 42] [43, 44, 45, 46, 47, 48, 49, 50, 51] rfl rfl (by decide) (by decide) hk1 hFc hP1 hD1
  have hP := hP.part (cx := (wLaw cI cZ cS cL hs1 o fl1 a M am K)) [9, 10, 11, 12, 13, 14, 15, 16, 17, 18, 19, 20, 21, 22, 23, 24, 25, 26, 27, 28, 29, 30, 31, 32, 33, 34, 35, 36, 37, 38, 39, 40, 41, 42, 43, 44, 45, 46, 47, 48, 49, 50, 51, 0, 1, 2, 3, 4, 5, 6, 7, 8] rfl
  have hD := hD.part (cx := (wLaw cI cZ cS cL hs1 o fl1 a M am K)) [9, 10, 11, 12, 13, 14, 15, 16, 17, 18, 19, 20, 21, 22, 23, 24, 25, 26, 27, 28, 29, 30, 31, 32, 33, 34, 35, 36, 37, 38, 39, 40, 41, 42, 43, 44, 45, 46, 47, 48, 49, 50, 51, 0, 1, 2, 3, 4, 5, 6, 7, 8] (by decide) rfl
  generalize H1 = H at hP hS ⊢
  rw [← hw2] at hI9
  refine lv_istore (lv' := [(5, .int kk), (0, .ref b), (1, .ref (a 0)), (2, .ref (am 0)), (3, .ref o), (4, .int (nI (3 * n)))]) hx hb dL_law_1719 hl (by decide) rfl (fun ls hl => ?_)
  refine lv_aload_n hx hb dL_law_1721 rfl (lv_at hl 3 rfl) ?_
  refine lv_aload_n hx hb dL_law_1722 rfl (lv_at hl 1 rfl) ?_
  refine lv_iload hx hb dL_law_1723 (lv_at hl 5 rfl) ?_
  refine lv_iconst (v := (1 : Int32)) hx hb dL_law_1725 (by decide) ?_
  refine lv_iadd hx hb dL_law_1726 ?_
  rw [show nI (3 * n) + (1 : Int32) = nI (3 * n + 1) from nI_add (3 * n) 1]
  refine va_sld hx hb hXs hbl hbA hS (vp_in_nI (by omega) (by omega)) dL_law_1727 ?_
  rw [nI_clamp (show 3 * n + 1 < 2 ^ 31 by omega)]
  have hPc := P_head (ws := (wLaw cI cZ cS cL hs1 o fl1 a M am K)) (ws' := (wX9 cI cZ am K)) hP [43, 44, 45, 46, 47, 48, 49, 50, 51] rfl
  have hDc := D_head (ws := (wLaw cI cZ cS cL hs1 o fl1 a M am K)) (ws' := (wX9 cI cZ am K)) hD [43, 44, 45, 46, 47, 48, 49, 50, 51] (by decide) rfl
  have hFc := va_free (wc := (wX9 cI cZ am K)) hD hS hA [43, 44, 45, 46, 47, 48, 49, 50, 51] rfl
  refine va_calli (va_runV (As := [.int ((xs (3 * n + 1)))]) (rest := []) ⟨hx, hb, hml, hown, hts⟩ (c_X9_fetchesOf l dC dI cI cZ am H.size K ((xs (3 * n + 1))) y hf9) (cwV 1 hts gL_law_X9_fetchesOf rfl rfl rfl (by decide +kernel) ⟨Nat.le_of_ble_eq_true rfl, Nat.le_of_ble_eq_true rfl⟩) ⟨WR.blind, va_recv hK hP (ci := 9) (q0 := 43) rfl rfl, WR.pre hPc hK2 hDc hNW⟩ rfl rfl hl.1 rfl (lv_room (Nat.le_of_ble_eq_true rfl)) dL_law_1728 ⟨by show _ + 0 ≤ 601024; omega, by show _ + 0 ≤ 7293034; omega⟩) hS (fun q _ h => hFc q h) hFc (fun rv u t H1 locs ht hvm hw hB hz1 hk1 hS => ?_)
  obtain ⟨hP1, hD1⟩ := hB
  rw [ht] at hP1
  rw [hw]
  obtain ⟨hP, hD⟩ := join_app (ws := (wLaw cI cZ cS cL hs1 o fl1 a M am K)) (wr := (wL cI cZ cS cL (fS hs1) (fG hs1) o fl1 a M)) (w1 := (wX9 cI cZ am (sr K 0 (y.2 0)))) hP hD [43, 44, 45, 46, 47, 48, 49, 50, 51] [0, 1, 2, 3, 4, 5, 6, 7, 8, 9, 10, 11, 12, 13, 14, 15, 16, 17, 18, 19, 20, 21, 22, 23, 24, 25, 26, 27, 28, 29, 30, 31, 32, 33, 34, 35, 36, 37, 38, 39, 40, 41, 42] rfl rfl (by decide) (by decide) hk1 hFc hP1 hD1
  have hP : va_P (dC, dI) vwCl ((wLaw cI cZ cS cL hs1 o fl1 a M am (sr K 0 (y.2 0))) ++ RW cI cZ hs1) H1 := hP
  have hD : va_D A ((wLaw cI cZ cS cL hs1 o fl1 a M am (sr K 0 (y.2 0))) ++ RW cI cZ hs1) := hD
  generalize H1 = H at hP hS ⊢
  refine lv_istore (lv' := [(6, .int y.1), (5, .int kk), (0, .ref b), (1, .ref (a 0)), (2, .ref (am 0)), (3, .ref o), (4, .int (nI (3 * n)))]) hx hb dL_law_1731 hl (by decide) rfl (fun ls hl => ?_)
  refine lv_aload_n hx hb dL_law_1733 rfl (lv_at hl 4 rfl) ?_
  have hPc := P_head (ws := (wLaw cI cZ cS cL hs1 o fl1 a M am (sr K 0 (y.2 0)))) (ws' := (wX9 cI cZ am (sr K 0 (y.2 0)))) hP [43, 44, 45, 46, 47, 48, 49, 50, 51] rfl
  refine cRO (W.runV (As := []) (rest := []) ⟨hx, hb, hml, hown, hts⟩ (c_X9_thrown l dC dI cI cZ am (sr K 0 (y.2 0)) ((sr K 0 (y.2 0)) 0 0) rfl) (cwV 0 hts gL_law_X9_thrown rfl rfl rfl (by decide +kernel) ⟨Nat.le_of_ble_eq_true rfl, Nat.le_of_ble_eq_true rfl⟩) ⟨RO.blind, va_recv hK hP (ci := 9) (q0 := 43) rfl rfl, RO.pre hPc hK2 hNW⟩ rfl rfl hl.1 rfl (lv_room (Nat.le_of_ble_eq_true rfl)) dL_law_1734 ⟨by show _ + 0 ≤ 601024; omega, by show _ + 0 ≤ 7293034; omega⟩) ?_
  refine lv_iload hx hb dL_law_1737 (lv_at hl 1 rfl) ?_
  refine lv_icmp_eq (tgt := 1744) hx hb dL_law_1739 (by decide) (fun c9 => ?_) (fun c9 => absurd h9k c9)
  refine lv_iload hx hb dL_law_1744 (lv_at hl 1 rfl) ?_
  refine lv_if_ne (tgt := 1761) hx hb dL_law_1746 (by decide) (fun c9 => ?_) (fun c9 => ?_)
  · refine lv_goto (tgt := 3556) hx hb dL_law_1761 (by decide) ?_
    refine W.widen (k := cells + 17) (n := slots + 322) (by omega) (by omega) ?_
    exact kk9 hs1 fl1 _ _ _ H locs hI9 (lv_sub hl [2, 3, 4, 5, 6] rfl) hP hD hS
  obtain ⟨u, hr9⟩ := Ans_z hA9 c9
  have hv9 := hout u hr9
  have hu9 := hval u hr9
  refine lv_aload_n hx hb dL_law_1749 rfl (lv_at hl 5 rfl) ?_
  refine lv_iconst (v := (0 : Int32)) hx hb dL_law_1750 (by decide) ?_
  refine va_lald (D := (dC, dI)) (f := fl1) hx hb hK hP 0 3 rfl rfl (inb_in rfl) dL_law_1751 ?_
  refine lv_iload hx hb dL_law_1752 (lv_at hl 0 rfl) ?_
  refine lv_i2l (v := (y.1).toInt64) hx hb dL_law_1754 rfl ?_
  refine W.lcmp hx hb dL_law_1755 ?_
  refine lv_if_eq (tgt := 1761) hx hb dL_law_1756 (by decide) (fun c7 => ?_) (fun c7 => absurd (lg_eq (hv9.trans (congrArg Int32.toInt64 hu9))) c7)
  refine lv_goto (tgt := 3556) hx hb dL_law_1761 (by decide) ?_
  refine W.widen (k := cells + 17) (n := slots + 322) (by omega) (by omega) ?_
  exact kk9 hs1 fl1 _ _ _ H locs hI9 (lv_sub hl [2, 3, 4, 5, 6] rfl) hP hD hS
set_option maxHeartbeats 4000000 in
set_option maxRecDepth 100000 in
theorem lc_atWindow {p : Program} {l : Launch} {e : Env} {s : State} {m : MethodId} {below : List Frame} {meth : Method} {c : Code} {b L : Nat} {xs : Nat → Int32} {dC : Nat → ClassId} {dI : Nat → Nat → Nat} {cI cZ cS cL : ClassId} {A : Nat → Prop} {a am : Nat → Nat} {o : Nat} {Q : State → Prop} (X0 : LCx p l s m c b L xs dC dI cI cZ cS cL A) {Inv : Nat → (Nat → Option Mem) → Mem → Mem → Prop} (hSt : St_atWindow Inv) {n : Nat} (hn : n < 512) (hnL : 3 * n + 2 < L) (hL : L ≤ 1536) {hs : HS} {fl : Nat → Int64} {M K : Mem} (hI : Inv n (cts hs) M K) {ls : Array Slot} {H : Heap} {locs : List Loc} {cells slots : Nat} (hcs : cells + 17 ≤ 601024) (hss : slots + 322 ≤ 7293034) (hl : lv_has ls 9 [(0, .ref b), (1, .ref (a 0)), (2, .ref (am 0)), (3, .ref o), (4, .int (nI (3 * n)))]) (hP : va_P (dC, dI) vwCl (wLaw cI cZ cS cL hs o fl a M am K ++ RW cI cZ hs) H) (hD : va_D A (wLaw cI cZ cS cL hs o fl a M am K ++ RW cI cZ hs)) (hS : va_S A s.heap H locs) (kk9 : ∀ (hs' : HS) (fl' : Nat → Int64) (M' K' : Mem) (ls : Array Slot) (H : Heap) (locs : List Loc), Inv (n + 1) (cts hs') M' K' → lv_has ls 9 [(0, .ref b), (1, .ref (a 0)), (2, .ref (am 0)), (3, .ref o), (4, .int (nI (3 * n)))] → va_P (dC, dI) vwCl (wLaw cI cZ cS cL hs' o fl' a M' am K' ++ RW cI cZ hs') H → va_D A (wLaw cI cZ cS cL hs' o fl' a M' am K' ++ RW cI cZ hs') → va_S A s.heap H locs → W p l e room_1 s m #[Value.ref b] below meth c H locs (cells + 17) (slots + 322) Q (F0 m 3556 ls [])) : W p l e room_1 s m #[Value.ref b] below meth c H locs cells slots Q (F0 m 1764 ls []) := by
  obtain ⟨hx, hb, hml, hown, hts, hK, hNW, hEX, hNC, hA, hXs, hbl, hbA, hst⟩ := X0
  have hK8 : va_K (dC, dI) vwCl (tys8 cI cZ cS) s := hK.sub (tys' := tys8 cI cZ cS) [0, 1, 2] rfl
  have hK2 : va_K (dC, dI) vwCl [(cI, .int), (cZ, .boolean)] s := hK.sub (tys' := [(cI, .int), (cZ, .boolean)]) [0, 1] rfl
  obtain ⟨r, kk, y, hf8, hA9, hf9, h9k, hval, hI9⟩ := hSt n (cts hs) M K  hn hI
  refine lv_aload_n hx hb dL_law_1764 rfl (lv_at hl 1 rfl) ?_
  refine lv_aload_n hx hb dL_law_1765 rfl (lv_at hl 3 rfl) ?_
  have hPc := hP.part (X := (wLaw cI cZ cS cL hs o fl a M am K)) (cx := (wL cI cZ cS cL (fS hs) (fG hs) o fl a M)) [0, 1, 2, 3, 4, 5, 6, 7, 8, 9, 10, 11, 12, 13, 14, 15, 16, 17, 18, 19, 20, 21, 22, 23, 24, 25, 26, 27, 28, 29, 30, 31, 32, 33, 34, 35, 36, 37, 38, 39, 40, 41, 42] rfl
  have hDc := hD.part (X := (wLaw cI cZ cS cL hs o fl a M am K)) (cx := (wL cI cZ cS cL (fS hs) (fG hs) o fl a M)) [0, 1, 2, 3, 4, 5, 6, 7, 8, 9, 10, 11, 12, 13, 14, 15, 16, 17, 18, 19, 20, 21, 22, 23, 24, 25, 26, 27, 28, 29, 30, 31, 32, 33, 34, 35, 36, 37, 38, 39, 40, 41, 42] (by decide) rfl
  have hFc := va_freeP (X := (wLaw cI cZ cS cL hs o fl a M am K)) (cx := (wL cI cZ cS cL (fS hs) (fG hs) o fl a M)) hD hS hA [0, 1, 2, 3, 4, 5, 6, 7, 8, 9, 10, 11, 12, 13, 14, 15, 16, 17, 18, 19, 20, 21, 22, 23, 24, 25, 26, 27, 28, 29, 30, 31, 32, 33, 34, 35, 36, 37, 38, 39, 40, 41, 42] rfl
  refine va_calli (vx_runSW (As := [.ref (a 0), .ref o]) (rest := []) ⟨hx, hb, hml, hown, hts⟩ (w_L_atWindow l hst dC dI cI cZ cS cL hs o fl a H.size M r kk hf8 hA9) (vx_cwSW 2 hts gL_law_L_atWindow rfl rfl rfl (by decide +kernel) ⟨Nat.le_of_ble_eq_true rfl, Nat.le_of_ble_eq_true rfl⟩) ⟨T9.blind, T9.pre hPc hK hDc hNW (hEX.at hS hFc) hNC⟩ rfl rfl hl.1 rfl (lv_room (Nat.le_of_ble_eq_true rfl)) dL_law_1766 ⟨by show cells + 1 ≤ 601024; omega, by show slots + 6 ≤ 7293034; omega⟩) hS (fun q _ h => hFc q h) hFc (fun rv u t H1 locs ht hvm hw hB hz1 hk1 hS => ?_)
  obtain ⟨hw1, hw2, hout⟩ := hw
  obtain ⟨hs1, fl1⟩ := u
  have hw2 : hs1 = hs := hw2
  rw [hw1]
  obtain ⟨hP1, hD1⟩ := hB
  rw [ht] at hP1
  obtain ⟨hP, hD⟩ := va_joinP (X := (wLaw cI cZ cS cL hs o fl a M am K)) (cx := (wL cI cZ cS cL (fS hs) (fG hs) o fl a M)) (wr := (wX9 cI cZ am K)) (rx := (wL cI cZ cS cL (fS hs1) (fG hs1) o fl1 a M)) hP hD [0, 1, 2, 3, 4, 5, 6, 7, 8, 9, 10, 11, 12, 13, 14, 15, 16, 17, 18, 19, 20, 21, 22, 23, 24, 25, 26, 27, 28, 29, 30, 31, 32, 33, 34, 35, 36, 37, 38, 39, 40, 41, 42] [43, 44, 45, 46, 47, 48, 49, 50, 51] rfl rfl (by decide) (by decide) hk1 hFc hP1 hD1
  have hP := hP.part (cx := (wLaw cI cZ cS cL hs1 o fl1 a M am K)) [9, 10, 11, 12, 13, 14, 15, 16, 17, 18, 19, 20, 21, 22, 23, 24, 25, 26, 27, 28, 29, 30, 31, 32, 33, 34, 35, 36, 37, 38, 39, 40, 41, 42, 43, 44, 45, 46, 47, 48, 49, 50, 51, 0, 1, 2, 3, 4, 5, 6, 7, 8] rfl
  have hD := hD.part (cx := (wLaw cI cZ cS cL hs1 o fl1 a M am K)) [9, 10, 11, 12, 13, 14, 15, 16, 17, 18, 19, 20, 21, 22, 23, 24, 25, 26, 27, 28, 29, 30, 31, 32, 33, 34, 35, 36, 37, 38, 39, 40, 41, 42, 43, 44, 45, 46, 47, 48, 49, 50, 51, 0, 1, 2, 3, 4, 5, 6, 7, 8] (by decide) rfl
  generalize H1 = H at hP hS ⊢
  rw [← hw2] at hI9
  refine lv_istore (lv' := [(5, .int kk), (0, .ref b), (1, .ref (a 0)), (2, .ref (am 0)), (3, .ref o), (4, .int (nI (3 * n)))]) hx hb dL_law_1769 hl (by decide) rfl (fun ls hl => ?_)
  refine lv_aload_n hx hb dL_law_1771 rfl (lv_at hl 3 rfl) ?_
  have hPc := P_head (ws := (wLaw cI cZ cS cL hs1 o fl1 a M am K)) (ws' := (wX9 cI cZ am K)) hP [43, 44, 45, 46, 47, 48, 49, 50, 51] rfl
  have hDc := D_head (ws := (wLaw cI cZ cS cL hs1 o fl1 a M am K)) (ws' := (wX9 cI cZ am K)) hD [43, 44, 45, 46, 47, 48, 49, 50, 51] (by decide) rfl
  have hFc := va_free (wc := (wX9 cI cZ am K)) hD hS hA [43, 44, 45, 46, 47, 48, 49, 50, 51] rfl
  refine va_calli (va_runV (As := []) (rest := []) ⟨hx, hb, hml, hown, hts⟩ (c_X9_atWindow l dC dI cI cZ am H.size K y hf9) (cwV 0 hts gL_law_X9_atWindow rfl rfl rfl (by decide +kernel) ⟨Nat.le_of_ble_eq_true rfl, Nat.le_of_ble_eq_true rfl⟩) ⟨WR.blind, va_recv hK hP (ci := 9) (q0 := 43) rfl rfl, WR.pre hPc hK2 hDc hNW⟩ rfl rfl hl.1 rfl (lv_room (Nat.le_of_ble_eq_true rfl)) dL_law_1772 ⟨by show _ + 0 ≤ 601024; omega, by show _ + 0 ≤ 7293034; omega⟩) hS (fun q _ h => hFc q h) hFc (fun rv u t H1 locs ht hvm hw hB hz1 hk1 hS => ?_)
  obtain ⟨hP1, hD1⟩ := hB
  rw [ht] at hP1
  rw [hw]
  obtain ⟨hP, hD⟩ := join_app (ws := (wLaw cI cZ cS cL hs1 o fl1 a M am K)) (wr := (wL cI cZ cS cL (fS hs1) (fG hs1) o fl1 a M)) (w1 := (wX9 cI cZ am (sr K 0 (y.2 0)))) hP hD [43, 44, 45, 46, 47, 48, 49, 50, 51] [0, 1, 2, 3, 4, 5, 6, 7, 8, 9, 10, 11, 12, 13, 14, 15, 16, 17, 18, 19, 20, 21, 22, 23, 24, 25, 26, 27, 28, 29, 30, 31, 32, 33, 34, 35, 36, 37, 38, 39, 40, 41, 42] rfl rfl (by decide) (by decide) hk1 hFc hP1 hD1
  have hP : va_P (dC, dI) vwCl ((wLaw cI cZ cS cL hs1 o fl1 a M am (sr K 0 (y.2 0))) ++ RW cI cZ hs1) H1 := hP
  have hD : va_D A ((wLaw cI cZ cS cL hs1 o fl1 a M am (sr K 0 (y.2 0))) ++ RW cI cZ hs1) := hD
  generalize H1 = H at hP hS ⊢
  refine lv_istore (lv' := [(6, .int y.1), (5, .int kk), (0, .ref b), (1, .ref (a 0)), (2, .ref (am 0)), (3, .ref o), (4, .int (nI (3 * n)))]) hx hb dL_law_1775 hl (by decide) rfl (fun ls hl => ?_)
  refine lv_aload_n hx hb dL_law_1777 rfl (lv_at hl 4 rfl) ?_
  have hPc := P_head (ws := (wLaw cI cZ cS cL hs1 o fl1 a M am (sr K 0 (y.2 0)))) (ws' := (wX9 cI cZ am (sr K 0 (y.2 0)))) hP [43, 44, 45, 46, 47, 48, 49, 50, 51] rfl
  refine cRO (W.runV (As := []) (rest := []) ⟨hx, hb, hml, hown, hts⟩ (c_X9_thrown l dC dI cI cZ am (sr K 0 (y.2 0)) ((sr K 0 (y.2 0)) 0 0) rfl) (cwV 0 hts gL_law_X9_thrown rfl rfl rfl (by decide +kernel) ⟨Nat.le_of_ble_eq_true rfl, Nat.le_of_ble_eq_true rfl⟩) ⟨RO.blind, va_recv hK hP (ci := 9) (q0 := 43) rfl rfl, RO.pre hPc hK2 hNW⟩ rfl rfl hl.1 rfl (lv_room (Nat.le_of_ble_eq_true rfl)) dL_law_1778 ⟨by show _ + 0 ≤ 601024; omega, by show _ + 0 ≤ 7293034; omega⟩) ?_
  refine lv_iload hx hb dL_law_1781 (lv_at hl 1 rfl) ?_
  refine lv_icmp_eq (tgt := 1788) hx hb dL_law_1783 (by decide) (fun c9 => ?_) (fun c9 => absurd h9k c9)
  refine lv_iload hx hb dL_law_1788 (lv_at hl 1 rfl) ?_
  refine lv_if_ne (tgt := 1805) hx hb dL_law_1790 (by decide) (fun c9 => ?_) (fun c9 => ?_)
  · refine lv_goto (tgt := 3556) hx hb dL_law_1805 (by decide) ?_
    refine W.widen (k := cells + 17) (n := slots + 322) (by omega) (by omega) ?_
    exact kk9 hs1 fl1 _ _ _ H locs hI9 (lv_sub hl [2, 3, 4, 5, 6] rfl) hP hD hS
  obtain ⟨u, hr9⟩ := Ans_z hA9 c9
  have hv9 := hout u hr9
  have hu9 := hval u hr9
  refine lv_aload_n hx hb dL_law_1793 rfl (lv_at hl 5 rfl) ?_
  refine lv_iconst (v := (0 : Int32)) hx hb dL_law_1794 (by decide) ?_
  refine va_lald (D := (dC, dI)) (f := fl1) hx hb hK hP 0 3 rfl rfl (inb_in rfl) dL_law_1795 ?_
  refine lv_iload hx hb dL_law_1796 (lv_at hl 0 rfl) ?_
  refine lv_i2l (v := (y.1).toInt64) hx hb dL_law_1798 rfl ?_
  refine W.lcmp hx hb dL_law_1799 ?_
  refine lv_if_eq (tgt := 1805) hx hb dL_law_1800 (by decide) (fun c7 => ?_) (fun c7 => absurd (lg_eq (hv9.trans (congrArg Int32.toInt64 hu9))) c7)
  refine lv_goto (tgt := 3556) hx hb dL_law_1805 (by decide) ?_
  refine W.widen (k := cells + 17) (n := slots + 322) (by omega) (by omega) ?_
  exact kk9 hs1 fl1 _ _ _ H locs hI9 (lv_sub hl [2, 3, 4, 5, 6] rfl) hP hD hS
set_option maxHeartbeats 4000000 in
set_option maxRecDepth 100000 in
theorem lc_isFree {p : Program} {l : Launch} {e : Env} {s : State} {m : MethodId} {below : List Frame} {meth : Method} {c : Code} {b L : Nat} {xs : Nat → Int32} {dC : Nat → ClassId} {dI : Nat → Nat → Nat} {cI cZ cS cL : ClassId} {A : Nat → Prop} {a am : Nat → Nat} {o : Nat} {Q : State → Prop} (X0 : LCx p l s m c b L xs dC dI cI cZ cS cL A) {Inv : Nat → (Nat → Option Mem) → Mem → Mem → Prop} (hSt : St_isFree Inv) {n : Nat} (hn : n < 512) (hnL : 3 * n + 2 < L) (hL : L ≤ 1536) {hs : HS} {fl : Nat → Int64} {M K : Mem} (hI : Inv n (cts hs) M K) {ls : Array Slot} {H : Heap} {locs : List Loc} {cells slots : Nat} (hcs : cells + 17 ≤ 601024) (hss : slots + 322 ≤ 7293034) (hl : lv_has ls 9 [(0, .ref b), (1, .ref (a 0)), (2, .ref (am 0)), (3, .ref o), (4, .int (nI (3 * n)))]) (hP : va_P (dC, dI) vwCl (wLaw cI cZ cS cL hs o fl a M am K ++ RW cI cZ hs) H) (hD : va_D A (wLaw cI cZ cS cL hs o fl a M am K ++ RW cI cZ hs)) (hS : va_S A s.heap H locs) (kk9 : ∀ (hs' : HS) (fl' : Nat → Int64) (M' K' : Mem) (ls : Array Slot) (H : Heap) (locs : List Loc), Inv (n + 1) (cts hs') M' K' → lv_has ls 9 [(0, .ref b), (1, .ref (a 0)), (2, .ref (am 0)), (3, .ref o), (4, .int (nI (3 * n)))] → va_P (dC, dI) vwCl (wLaw cI cZ cS cL hs' o fl' a M' am K' ++ RW cI cZ hs') H → va_D A (wLaw cI cZ cS cL hs' o fl' a M' am K' ++ RW cI cZ hs') → va_S A s.heap H locs → W p l e room_1 s m #[Value.ref b] below meth c H locs (cells + 17) (slots + 322) Q (F0 m 3556 ls [])) : W p l e room_1 s m #[Value.ref b] below meth c H locs cells slots Q (F0 m 1808 ls []) := by
  obtain ⟨hx, hb, hml, hown, hts, hK, hNW, hEX, hNC, hA, hXs, hbl, hbA, hst⟩ := X0
  have hK8 : va_K (dC, dI) vwCl (tys8 cI cZ cS) s := hK.sub (tys' := tys8 cI cZ cS) [0, 1, 2] rfl
  have hK2 : va_K (dC, dI) vwCl [(cI, .int), (cZ, .boolean)] s := hK.sub (tys' := [(cI, .int), (cZ, .boolean)]) [0, 1] rfl
  obtain ⟨r, kk, y, hf8, hA9, hf9, h9k, hval, hI9⟩ := hSt n (cts hs) M K (xs (3 * n + 1)) (xs (3 * n + 2)) hn hI
  refine lv_aload_n hx hb dL_law_1808 rfl (lv_at hl 1 rfl) ?_
  refine lv_aload_n hx hb dL_law_1809 rfl (lv_at hl 0 rfl) ?_
  refine lv_iload hx hb dL_law_1810 (lv_at hl 4 rfl) ?_
  refine lv_iconst (v := (1 : Int32)) hx hb dL_law_1812 (by decide) ?_
  refine lv_iadd hx hb dL_law_1813 ?_
  rw [show nI (3 * n) + (1 : Int32) = nI (3 * n + 1) from nI_add (3 * n) 1]
  refine va_sld hx hb hXs hbl hbA hS (vp_in_nI (by omega) (by omega)) dL_law_1814 ?_
  rw [nI_clamp (show 3 * n + 1 < 2 ^ 31 by omega)]
  refine lv_aload_n hx hb dL_law_1815 rfl (lv_at hl 0 rfl) ?_
  refine lv_iload hx hb dL_law_1816 (lv_at hl 4 rfl) ?_
  refine lv_iconst (v := (2 : Int32)) hx hb dL_law_1818 (by decide) ?_
  refine lv_iadd hx hb dL_law_1819 ?_
  rw [show nI (3 * n) + (2 : Int32) = nI (3 * n + 2) from nI_add (3 * n) 2]
  refine va_sld hx hb hXs hbl hbA hS (vp_in_nI (by omega) (by omega)) dL_law_1820 ?_
  rw [nI_clamp (show 3 * n + 2 < 2 ^ 31 by omega)]
  refine lv_aload_n hx hb dL_law_1821 rfl (lv_at hl 3 rfl) ?_
  have hPc := hP.part (X := (wLaw cI cZ cS cL hs o fl a M am K)) (cx := (wL cI cZ cS cL (fS hs) (fG hs) o fl a M)) [0, 1, 2, 3, 4, 5, 6, 7, 8, 9, 10, 11, 12, 13, 14, 15, 16, 17, 18, 19, 20, 21, 22, 23, 24, 25, 26, 27, 28, 29, 30, 31, 32, 33, 34, 35, 36, 37, 38, 39, 40, 41, 42] rfl
  have hDc := hD.part (X := (wLaw cI cZ cS cL hs o fl a M am K)) (cx := (wL cI cZ cS cL (fS hs) (fG hs) o fl a M)) [0, 1, 2, 3, 4, 5, 6, 7, 8, 9, 10, 11, 12, 13, 14, 15, 16, 17, 18, 19, 20, 21, 22, 23, 24, 25, 26, 27, 28, 29, 30, 31, 32, 33, 34, 35, 36, 37, 38, 39, 40, 41, 42] (by decide) rfl
  have hFc := va_freeP (X := (wLaw cI cZ cS cL hs o fl a M am K)) (cx := (wL cI cZ cS cL (fS hs) (fG hs) o fl a M)) hD hS hA [0, 1, 2, 3, 4, 5, 6, 7, 8, 9, 10, 11, 12, 13, 14, 15, 16, 17, 18, 19, 20, 21, 22, 23, 24, 25, 26, 27, 28, 29, 30, 31, 32, 33, 34, 35, 36, 37, 38, 39, 40, 41, 42] rfl
  refine va_calli (vx_runSW (As := [.ref (a 0), .int ((xs (3 * n + 1))), .int ((xs (3 * n + 2))), .ref o]) (rest := []) ⟨hx, hb, hml, hown, hts⟩ (w_L_isFree l hst dC dI cI cZ cS cL hs o fl a H.size M ((xs (3 * n + 1))) ((xs (3 * n + 2))) r kk hf8 hA9) (vx_cwSW 4 hts gL_law_L_isFree rfl rfl rfl (by decide +kernel) ⟨Nat.le_of_ble_eq_true rfl, Nat.le_of_ble_eq_true rfl⟩) ⟨T9.blind, T9.pre hPc hK hDc hNW (hEX.at hS hFc) hNC⟩ rfl rfl hl.1 rfl (lv_room (Nat.le_of_ble_eq_true rfl)) dL_law_1822 ⟨by show cells + 1 ≤ 601024; omega, by show slots + 6 ≤ 7293034; omega⟩) hS (fun q _ h => hFc q h) hFc (fun rv u t H1 locs ht hvm hw hB hz1 hk1 hS => ?_)
  obtain ⟨hw1, hw2, hout⟩ := hw
  obtain ⟨hs1, fl1⟩ := u
  have hw2 : hs1 = hs := hw2
  rw [hw1]
  obtain ⟨hP1, hD1⟩ := hB
  rw [ht] at hP1
  obtain ⟨hP, hD⟩ := va_joinP (X := (wLaw cI cZ cS cL hs o fl a M am K)) (cx := (wL cI cZ cS cL (fS hs) (fG hs) o fl a M)) (wr := (wX9 cI cZ am K)) (rx := (wL cI cZ cS cL (fS hs1) (fG hs1) o fl1 a M)) hP hD [0, 1, 2, 3, 4, 5, 6, 7, 8, 9, 10, 11, 12, 13, 14, 15, 16, 17, 18, 19, 20, 21, 22, 23, 24, 25, 26, 27, 28, 29, 30, 31, 32, 33, 34, 35, 36, 37, 38, 39, 40, 41, 42] [43, 44, 45, 46, 47, 48, 49, 50, 51] rfl rfl (by decide) (by decide) hk1 hFc hP1 hD1
  have hP := hP.part (cx := (wLaw cI cZ cS cL hs1 o fl1 a M am K)) [9, 10, 11, 12, 13, 14, 15, 16, 17, 18, 19, 20, 21, 22, 23, 24, 25, 26, 27, 28, 29, 30, 31, 32, 33, 34, 35, 36, 37, 38, 39, 40, 41, 42, 43, 44, 45, 46, 47, 48, 49, 50, 51, 0, 1, 2, 3, 4, 5, 6, 7, 8] rfl
  have hD := hD.part (cx := (wLaw cI cZ cS cL hs1 o fl1 a M am K)) [9, 10, 11, 12, 13, 14, 15, 16, 17, 18, 19, 20, 21, 22, 23, 24, 25, 26, 27, 28, 29, 30, 31, 32, 33, 34, 35, 36, 37, 38, 39, 40, 41, 42, 43, 44, 45, 46, 47, 48, 49, 50, 51, 0, 1, 2, 3, 4, 5, 6, 7, 8] (by decide) rfl
  generalize H1 = H at hP hS ⊢
  rw [← hw2] at hI9
  refine lv_istore (lv' := [(5, .int kk), (0, .ref b), (1, .ref (a 0)), (2, .ref (am 0)), (3, .ref o), (4, .int (nI (3 * n)))]) hx hb dL_law_1825 hl (by decide) rfl (fun ls hl => ?_)
  refine lv_aload_n hx hb dL_law_1827 rfl (lv_at hl 3 rfl) ?_
  refine lv_aload_n hx hb dL_law_1828 rfl (lv_at hl 1 rfl) ?_
  refine lv_iload hx hb dL_law_1829 (lv_at hl 5 rfl) ?_
  refine lv_iconst (v := (1 : Int32)) hx hb dL_law_1831 (by decide) ?_
  refine lv_iadd hx hb dL_law_1832 ?_
  rw [show nI (3 * n) + (1 : Int32) = nI (3 * n + 1) from nI_add (3 * n) 1]
  refine va_sld hx hb hXs hbl hbA hS (vp_in_nI (by omega) (by omega)) dL_law_1833 ?_
  rw [nI_clamp (show 3 * n + 1 < 2 ^ 31 by omega)]
  refine lv_aload_n hx hb dL_law_1834 rfl (lv_at hl 1 rfl) ?_
  refine lv_iload hx hb dL_law_1835 (lv_at hl 5 rfl) ?_
  refine lv_iconst (v := (2 : Int32)) hx hb dL_law_1837 (by decide) ?_
  refine lv_iadd hx hb dL_law_1838 ?_
  rw [show nI (3 * n) + (2 : Int32) = nI (3 * n + 2) from nI_add (3 * n) 2]
  refine va_sld hx hb hXs hbl hbA hS (vp_in_nI (by omega) (by omega)) dL_law_1839 ?_
  rw [nI_clamp (show 3 * n + 2 < 2 ^ 31 by omega)]
  have hPc := P_head (ws := (wLaw cI cZ cS cL hs1 o fl1 a M am K)) (ws' := (wX9 cI cZ am K)) hP [43, 44, 45, 46, 47, 48, 49, 50, 51] rfl
  have hDc := D_head (ws := (wLaw cI cZ cS cL hs1 o fl1 a M am K)) (ws' := (wX9 cI cZ am K)) hD [43, 44, 45, 46, 47, 48, 49, 50, 51] (by decide) rfl
  have hFc := va_free (wc := (wX9 cI cZ am K)) hD hS hA [43, 44, 45, 46, 47, 48, 49, 50, 51] rfl
  refine va_calli (va_runV (As := [.int ((xs (3 * n + 1))), .int ((xs (3 * n + 2)))]) (rest := []) ⟨hx, hb, hml, hown, hts⟩ (c_X9_isFree l dC dI cI cZ am H.size K ((xs (3 * n + 1))) ((xs (3 * n + 2))) y hf9) (cwV 2 hts gL_law_X9_isFree rfl rfl rfl (by decide +kernel) ⟨Nat.le_of_ble_eq_true rfl, Nat.le_of_ble_eq_true rfl⟩) ⟨WR.blind, va_recv hK hP (ci := 9) (q0 := 43) rfl rfl, WR.pre hPc hK2 hDc hNW⟩ rfl rfl hl.1 rfl (lv_room (Nat.le_of_ble_eq_true rfl)) dL_law_1840 ⟨by show _ + 0 ≤ 601024; omega, by show _ + 0 ≤ 7293034; omega⟩) hS (fun q _ h => hFc q h) hFc (fun rv u t H1 locs ht hvm hw hB hz1 hk1 hS => ?_)
  obtain ⟨hP1, hD1⟩ := hB
  rw [ht] at hP1
  rw [hw]
  obtain ⟨hP, hD⟩ := join_app (ws := (wLaw cI cZ cS cL hs1 o fl1 a M am K)) (wr := (wL cI cZ cS cL (fS hs1) (fG hs1) o fl1 a M)) (w1 := (wX9 cI cZ am (sr K 0 (y.2 0)))) hP hD [43, 44, 45, 46, 47, 48, 49, 50, 51] [0, 1, 2, 3, 4, 5, 6, 7, 8, 9, 10, 11, 12, 13, 14, 15, 16, 17, 18, 19, 20, 21, 22, 23, 24, 25, 26, 27, 28, 29, 30, 31, 32, 33, 34, 35, 36, 37, 38, 39, 40, 41, 42] rfl rfl (by decide) (by decide) hk1 hFc hP1 hD1
  have hP : va_P (dC, dI) vwCl ((wLaw cI cZ cS cL hs1 o fl1 a M am (sr K 0 (y.2 0))) ++ RW cI cZ hs1) H1 := hP
  have hD : va_D A ((wLaw cI cZ cS cL hs1 o fl1 a M am (sr K 0 (y.2 0))) ++ RW cI cZ hs1) := hD
  generalize H1 = H at hP hS ⊢
  refine lv_istore (lv' := [(6, .int y.1), (5, .int kk), (0, .ref b), (1, .ref (a 0)), (2, .ref (am 0)), (3, .ref o), (4, .int (nI (3 * n)))]) hx hb dL_law_1843 hl (by decide) rfl (fun ls hl => ?_)
  refine lv_aload_n hx hb dL_law_1845 rfl (lv_at hl 4 rfl) ?_
  have hPc := P_head (ws := (wLaw cI cZ cS cL hs1 o fl1 a M am (sr K 0 (y.2 0)))) (ws' := (wX9 cI cZ am (sr K 0 (y.2 0)))) hP [43, 44, 45, 46, 47, 48, 49, 50, 51] rfl
  refine cRO (W.runV (As := []) (rest := []) ⟨hx, hb, hml, hown, hts⟩ (c_X9_thrown l dC dI cI cZ am (sr K 0 (y.2 0)) ((sr K 0 (y.2 0)) 0 0) rfl) (cwV 0 hts gL_law_X9_thrown rfl rfl rfl (by decide +kernel) ⟨Nat.le_of_ble_eq_true rfl, Nat.le_of_ble_eq_true rfl⟩) ⟨RO.blind, va_recv hK hP (ci := 9) (q0 := 43) rfl rfl, RO.pre hPc hK2 hNW⟩ rfl rfl hl.1 rfl (lv_room (Nat.le_of_ble_eq_true rfl)) dL_law_1846 ⟨by show _ + 0 ≤ 601024; omega, by show _ + 0 ≤ 7293034; omega⟩) ?_
  refine lv_iload hx hb dL_law_1849 (lv_at hl 1 rfl) ?_
  refine lv_icmp_eq (tgt := 1856) hx hb dL_law_1851 (by decide) (fun c9 => ?_) (fun c9 => absurd h9k c9)
  refine lv_iload hx hb dL_law_1856 (lv_at hl 1 rfl) ?_
  refine lv_if_ne (tgt := 1880) hx hb dL_law_1858 (by decide) (fun c9 => ?_) (fun c9 => ?_)
  · refine lv_goto (tgt := 3556) hx hb dL_law_1880 (by decide) ?_
    refine W.widen (k := cells + 17) (n := slots + 322) (by omega) (by omega) ?_
    exact kk9 hs1 fl1 _ _ _ H locs hI9 (lv_sub hl [2, 3, 4, 5, 6] rfl) hP hD hS
  obtain ⟨u, hr9⟩ := Ans_z hA9 c9
  have hv9 := hout u hr9
  have hu9 := hval u hr9
  refine lv_aload_n hx hb dL_law_1861 rfl (lv_at hl 5 rfl) ?_
  refine lv_iconst (v := (0 : Int32)) hx hb dL_law_1862 (by decide) ?_
  refine va_lald (D := (dC, dI)) (f := fl1) hx hb hK hP 0 3 rfl rfl (inb_in rfl) dL_law_1863 ?_
  refine lv_iload hx hb dL_law_1864 (lv_at hl 0 rfl) ?_
  refine lv_if_eq (tgt := 1873) hx hb dL_law_1866 (by decide) (fun c8 => ?_) (fun c8 => ?_)
  · refine lv_lconst (v := (0 : Int64)) hx hb dL_law_1873 (by decide) ?_
    refine W.lcmp hx hb dL_law_1874 ?_
    refine lv_if_eq (tgt := 1880) hx hb dL_law_1875 (by decide) (fun c7 => ?_) (fun c7 => absurd (lg_eq (hv9.trans (if_pos (hu9.trans c8)))) c7)
    refine lv_goto (tgt := 3556) hx hb dL_law_1880 (by decide) ?_
    refine W.widen (k := cells + 17) (n := slots + 322) (by omega) (by omega) ?_
    exact kk9 hs1 fl1 _ _ _ H locs hI9 (lv_sub hl [2, 3, 4, 5, 6] rfl) hP hD hS
  · refine lv_lconst (v := (1 : Int64)) hx hb dL_law_1869 (by decide) ?_
    refine lv_goto (tgt := 1874) hx hb dL_law_1870 (by decide) ?_
    refine W.lcmp hx hb dL_law_1874 ?_
    refine lv_if_eq (tgt := 1880) hx hb dL_law_1875 (by decide) (fun c7 => ?_) (fun c7 => absurd (lg_eq (hv9.trans (if_neg (fun h => c8 (hu9.symm.trans h))))) c7)
    refine lv_goto (tgt := 3556) hx hb dL_law_1880 (by decide) ?_
    refine W.widen (k := cells + 17) (n := slots + 322) (by omega) (by omega) ?_
    exact kk9 hs1 fl1 _ _ _ H locs hI9 (lv_sub hl [2, 3, 4, 5, 6] rfl) hP hD hS
set_option maxHeartbeats 4000000 in
set_option maxRecDepth 100000 in
theorem lc_shelfAt {p : Program} {l : Launch} {e : Env} {s : State} {m : MethodId} {below : List Frame} {meth : Method} {c : Code} {b L : Nat} {xs : Nat → Int32} {dC : Nat → ClassId} {dI : Nat → Nat → Nat} {cI cZ cS cL : ClassId} {A : Nat → Prop} {a am : Nat → Nat} {o : Nat} {Q : State → Prop} (X0 : LCx p l s m c b L xs dC dI cI cZ cS cL A) {Inv : Nat → (Nat → Option Mem) → Mem → Mem → Prop} (hSt : St_shelfAt Inv) {n : Nat} (hn : n < 512) (hnL : 3 * n + 2 < L) (hL : L ≤ 1536) {hs : HS} {fl : Nat → Int64} {M K : Mem} (hI : Inv n (cts hs) M K) {ls : Array Slot} {H : Heap} {locs : List Loc} {cells slots : Nat} (hcs : cells + 17 ≤ 601024) (hss : slots + 322 ≤ 7293034) (hl : lv_has ls 9 [(0, .ref b), (1, .ref (a 0)), (2, .ref (am 0)), (3, .ref o), (4, .int (nI (3 * n)))]) (hP : va_P (dC, dI) vwCl (wLaw cI cZ cS cL hs o fl a M am K ++ RW cI cZ hs) H) (hD : va_D A (wLaw cI cZ cS cL hs o fl a M am K ++ RW cI cZ hs)) (hS : va_S A s.heap H locs) (kk9 : ∀ (hs' : HS) (fl' : Nat → Int64) (M' K' : Mem) (ls : Array Slot) (H : Heap) (locs : List Loc), Inv (n + 1) (cts hs') M' K' → lv_has ls 9 [(0, .ref b), (1, .ref (a 0)), (2, .ref (am 0)), (3, .ref o), (4, .int (nI (3 * n)))] → va_P (dC, dI) vwCl (wLaw cI cZ cS cL hs' o fl' a M' am K' ++ RW cI cZ hs') H → va_D A (wLaw cI cZ cS cL hs' o fl' a M' am K' ++ RW cI cZ hs') → va_S A s.heap H locs → W p l e room_1 s m #[Value.ref b] below meth c H locs (cells + 17) (slots + 322) Q (F0 m 3556 ls [])) : W p l e room_1 s m #[Value.ref b] below meth c H locs cells slots Q (F0 m 1883 ls []) := by
  obtain ⟨hx, hb, hml, hown, hts, hK, hNW, hEX, hNC, hA, hXs, hbl, hbA, hst⟩ := X0
  have hK8 : va_K (dC, dI) vwCl (tys8 cI cZ cS) s := hK.sub (tys' := tys8 cI cZ cS) [0, 1, 2] rfl
  have hK2 : va_K (dC, dI) vwCl [(cI, .int), (cZ, .boolean)] s := hK.sub (tys' := [(cI, .int), (cZ, .boolean)]) [0, 1] rfl
  obtain ⟨r, kk, y, hf8, hA9, hf9, h9k, hval, hI9⟩ := hSt n (cts hs) M K (xs (3 * n + 1)) (xs (3 * n + 2)) hn hI
  refine lv_aload_n hx hb dL_law_1883 rfl (lv_at hl 1 rfl) ?_
  refine lv_aload_n hx hb dL_law_1884 rfl (lv_at hl 0 rfl) ?_
  refine lv_iload hx hb dL_law_1885 (lv_at hl 4 rfl) ?_
  refine lv_iconst (v := (1 : Int32)) hx hb dL_law_1887 (by decide) ?_
  refine lv_iadd hx hb dL_law_1888 ?_
  rw [show nI (3 * n) + (1 : Int32) = nI (3 * n + 1) from nI_add (3 * n) 1]
  refine va_sld hx hb hXs hbl hbA hS (vp_in_nI (by omega) (by omega)) dL_law_1889 ?_
  rw [nI_clamp (show 3 * n + 1 < 2 ^ 31 by omega)]
  refine lv_aload_n hx hb dL_law_1890 rfl (lv_at hl 0 rfl) ?_
  refine lv_iload hx hb dL_law_1891 (lv_at hl 4 rfl) ?_
  refine lv_iconst (v := (2 : Int32)) hx hb dL_law_1893 (by decide) ?_
  refine lv_iadd hx hb dL_law_1894 ?_
  rw [show nI (3 * n) + (2 : Int32) = nI (3 * n + 2) from nI_add (3 * n) 2]
  refine va_sld hx hb hXs hbl hbA hS (vp_in_nI (by omega) (by omega)) dL_law_1895 ?_
  rw [nI_clamp (show 3 * n + 2 < 2 ^ 31 by omega)]
  refine lv_aload_n hx hb dL_law_1896 rfl (lv_at hl 3 rfl) ?_
  have hPc := hP.part (X := (wLaw cI cZ cS cL hs o fl a M am K)) (cx := (wL cI cZ cS cL (fS hs) (fG hs) o fl a M)) [0, 1, 2, 3, 4, 5, 6, 7, 8, 9, 10, 11, 12, 13, 14, 15, 16, 17, 18, 19, 20, 21, 22, 23, 24, 25, 26, 27, 28, 29, 30, 31, 32, 33, 34, 35, 36, 37, 38, 39, 40, 41, 42] rfl
  have hDc := hD.part (X := (wLaw cI cZ cS cL hs o fl a M am K)) (cx := (wL cI cZ cS cL (fS hs) (fG hs) o fl a M)) [0, 1, 2, 3, 4, 5, 6, 7, 8, 9, 10, 11, 12, 13, 14, 15, 16, 17, 18, 19, 20, 21, 22, 23, 24, 25, 26, 27, 28, 29, 30, 31, 32, 33, 34, 35, 36, 37, 38, 39, 40, 41, 42] (by decide) rfl
  have hFc := va_freeP (X := (wLaw cI cZ cS cL hs o fl a M am K)) (cx := (wL cI cZ cS cL (fS hs) (fG hs) o fl a M)) hD hS hA [0, 1, 2, 3, 4, 5, 6, 7, 8, 9, 10, 11, 12, 13, 14, 15, 16, 17, 18, 19, 20, 21, 22, 23, 24, 25, 26, 27, 28, 29, 30, 31, 32, 33, 34, 35, 36, 37, 38, 39, 40, 41, 42] rfl
  refine va_calli (vx_runSW (As := [.ref (a 0), .int ((xs (3 * n + 1))), .int ((xs (3 * n + 2))), .ref o]) (rest := []) ⟨hx, hb, hml, hown, hts⟩ (w_L_shelfAt l hst dC dI cI cZ cS cL hs o fl a H.size M ((xs (3 * n + 1))) ((xs (3 * n + 2))) r kk hf8 hA9) (vx_cwSW 4 hts gL_law_L_shelfAt rfl rfl rfl (by decide +kernel) ⟨Nat.le_of_ble_eq_true rfl, Nat.le_of_ble_eq_true rfl⟩) ⟨T9.blind, T9.pre hPc hK hDc hNW (hEX.at hS hFc) hNC⟩ rfl rfl hl.1 rfl (lv_room (Nat.le_of_ble_eq_true rfl)) dL_law_1897 ⟨by show cells + 1 ≤ 601024; omega, by show slots + 6 ≤ 7293034; omega⟩) hS (fun q _ h => hFc q h) hFc (fun rv u t H1 locs ht hvm hw hB hz1 hk1 hS => ?_)
  obtain ⟨hw1, hw2, hout⟩ := hw
  obtain ⟨hs1, fl1⟩ := u
  have hw2 : hs1 = hs := hw2
  rw [hw1]
  obtain ⟨hP1, hD1⟩ := hB
  rw [ht] at hP1
  obtain ⟨hP, hD⟩ := va_joinP (X := (wLaw cI cZ cS cL hs o fl a M am K)) (cx := (wL cI cZ cS cL (fS hs) (fG hs) o fl a M)) (wr := (wX9 cI cZ am K)) (rx := (wL cI cZ cS cL (fS hs1) (fG hs1) o fl1 a M)) hP hD [0, 1, 2, 3, 4, 5, 6, 7, 8, 9, 10, 11, 12, 13, 14, 15, 16, 17, 18, 19, 20, 21, 22, 23, 24, 25, 26, 27, 28, 29, 30, 31, 32, 33, 34, 35, 36, 37, 38, 39, 40, 41, 42] [43, 44, 45, 46, 47, 48, 49, 50, 51] rfl rfl (by decide) (by decide) hk1 hFc hP1 hD1
  have hP := hP.part (cx := (wLaw cI cZ cS cL hs1 o fl1 a M am K)) [9, 10, 11, 12, 13, 14, 15, 16, 17, 18, 19, 20, 21, 22, 23, 24, 25, 26, 27, 28, 29, 30, 31, 32, 33, 34, 35, 36, 37, 38, 39, 40, 41, 42, 43, 44, 45, 46, 47, 48, 49, 50, 51, 0, 1, 2, 3, 4, 5, 6, 7, 8] rfl
  have hD := hD.part (cx := (wLaw cI cZ cS cL hs1 o fl1 a M am K)) [9, 10, 11, 12, 13, 14, 15, 16, 17, 18, 19, 20, 21, 22, 23, 24, 25, 26, 27, 28, 29, 30, 31, 32, 33, 34, 35, 36, 37, 38, 39, 40, 41, 42, 43, 44, 45, 46, 47, 48, 49, 50, 51, 0, 1, 2, 3, 4, 5, 6, 7, 8] (by decide) rfl
  generalize H1 = H at hP hS ⊢
  rw [← hw2] at hI9
  refine lv_istore (lv' := [(5, .int kk), (0, .ref b), (1, .ref (a 0)), (2, .ref (am 0)), (3, .ref o), (4, .int (nI (3 * n)))]) hx hb dL_law_1900 hl (by decide) rfl (fun ls hl => ?_)
  refine lv_aload_n hx hb dL_law_1902 rfl (lv_at hl 3 rfl) ?_
  refine lv_aload_n hx hb dL_law_1903 rfl (lv_at hl 1 rfl) ?_
  refine lv_iload hx hb dL_law_1904 (lv_at hl 5 rfl) ?_
  refine lv_iconst (v := (1 : Int32)) hx hb dL_law_1906 (by decide) ?_
  refine lv_iadd hx hb dL_law_1907 ?_
  rw [show nI (3 * n) + (1 : Int32) = nI (3 * n + 1) from nI_add (3 * n) 1]
  refine va_sld hx hb hXs hbl hbA hS (vp_in_nI (by omega) (by omega)) dL_law_1908 ?_
  rw [nI_clamp (show 3 * n + 1 < 2 ^ 31 by omega)]
  refine lv_aload_n hx hb dL_law_1909 rfl (lv_at hl 1 rfl) ?_
  refine lv_iload hx hb dL_law_1910 (lv_at hl 5 rfl) ?_
  refine lv_iconst (v := (2 : Int32)) hx hb dL_law_1912 (by decide) ?_
  refine lv_iadd hx hb dL_law_1913 ?_
  rw [show nI (3 * n) + (2 : Int32) = nI (3 * n + 2) from nI_add (3 * n) 2]
  refine va_sld hx hb hXs hbl hbA hS (vp_in_nI (by omega) (by omega)) dL_law_1914 ?_
  rw [nI_clamp (show 3 * n + 2 < 2 ^ 31 by omega)]
  have hPc := P_head (ws := (wLaw cI cZ cS cL hs1 o fl1 a M am K)) (ws' := (wX9 cI cZ am K)) hP [43, 44, 45, 46, 47, 48, 49, 50, 51] rfl
  have hDc := D_head (ws := (wLaw cI cZ cS cL hs1 o fl1 a M am K)) (ws' := (wX9 cI cZ am K)) hD [43, 44, 45, 46, 47, 48, 49, 50, 51] (by decide) rfl
  have hFc := va_free (wc := (wX9 cI cZ am K)) hD hS hA [43, 44, 45, 46, 47, 48, 49, 50, 51] rfl
  refine va_calli (va_runV (As := [.int ((xs (3 * n + 1))), .int ((xs (3 * n + 2)))]) (rest := []) ⟨hx, hb, hml, hown, hts⟩ (c_X9_shelfAt l dC dI cI cZ am H.size K ((xs (3 * n + 1))) ((xs (3 * n + 2))) y hf9) (cwV 2 hts gL_law_X9_shelfAt rfl rfl rfl (by decide +kernel) ⟨Nat.le_of_ble_eq_true rfl, Nat.le_of_ble_eq_true rfl⟩) ⟨WR.blind, va_recv hK hP (ci := 9) (q0 := 43) rfl rfl, WR.pre hPc hK2 hDc hNW⟩ rfl rfl hl.1 rfl (lv_room (Nat.le_of_ble_eq_true rfl)) dL_law_1915 ⟨by show _ + 0 ≤ 601024; omega, by show _ + 0 ≤ 7293034; omega⟩) hS (fun q _ h => hFc q h) hFc (fun rv u t H1 locs ht hvm hw hB hz1 hk1 hS => ?_)
  obtain ⟨hP1, hD1⟩ := hB
  rw [ht] at hP1
  rw [hw]
  obtain ⟨hP, hD⟩ := join_app (ws := (wLaw cI cZ cS cL hs1 o fl1 a M am K)) (wr := (wL cI cZ cS cL (fS hs1) (fG hs1) o fl1 a M)) (w1 := (wX9 cI cZ am (sr K 0 (y.2 0)))) hP hD [43, 44, 45, 46, 47, 48, 49, 50, 51] [0, 1, 2, 3, 4, 5, 6, 7, 8, 9, 10, 11, 12, 13, 14, 15, 16, 17, 18, 19, 20, 21, 22, 23, 24, 25, 26, 27, 28, 29, 30, 31, 32, 33, 34, 35, 36, 37, 38, 39, 40, 41, 42] rfl rfl (by decide) (by decide) hk1 hFc hP1 hD1
  have hP : va_P (dC, dI) vwCl ((wLaw cI cZ cS cL hs1 o fl1 a M am (sr K 0 (y.2 0))) ++ RW cI cZ hs1) H1 := hP
  have hD : va_D A ((wLaw cI cZ cS cL hs1 o fl1 a M am (sr K 0 (y.2 0))) ++ RW cI cZ hs1) := hD
  generalize H1 = H at hP hS ⊢
  refine lv_istore (lv' := [(6, .int y.1), (5, .int kk), (0, .ref b), (1, .ref (a 0)), (2, .ref (am 0)), (3, .ref o), (4, .int (nI (3 * n)))]) hx hb dL_law_1918 hl (by decide) rfl (fun ls hl => ?_)
  refine lv_aload_n hx hb dL_law_1920 rfl (lv_at hl 4 rfl) ?_
  have hPc := P_head (ws := (wLaw cI cZ cS cL hs1 o fl1 a M am (sr K 0 (y.2 0)))) (ws' := (wX9 cI cZ am (sr K 0 (y.2 0)))) hP [43, 44, 45, 46, 47, 48, 49, 50, 51] rfl
  refine cRO (W.runV (As := []) (rest := []) ⟨hx, hb, hml, hown, hts⟩ (c_X9_thrown l dC dI cI cZ am (sr K 0 (y.2 0)) ((sr K 0 (y.2 0)) 0 0) rfl) (cwV 0 hts gL_law_X9_thrown rfl rfl rfl (by decide +kernel) ⟨Nat.le_of_ble_eq_true rfl, Nat.le_of_ble_eq_true rfl⟩) ⟨RO.blind, va_recv hK hP (ci := 9) (q0 := 43) rfl rfl, RO.pre hPc hK2 hNW⟩ rfl rfl hl.1 rfl (lv_room (Nat.le_of_ble_eq_true rfl)) dL_law_1921 ⟨by show _ + 0 ≤ 601024; omega, by show _ + 0 ≤ 7293034; omega⟩) ?_
  refine lv_iload hx hb dL_law_1924 (lv_at hl 1 rfl) ?_
  refine lv_icmp_eq (tgt := 1931) hx hb dL_law_1926 (by decide) (fun c9 => ?_) (fun c9 => absurd h9k c9)
  refine lv_iload hx hb dL_law_1931 (lv_at hl 1 rfl) ?_
  refine lv_if_ne (tgt := 1948) hx hb dL_law_1933 (by decide) (fun c9 => ?_) (fun c9 => ?_)
  · refine lv_goto (tgt := 3556) hx hb dL_law_1948 (by decide) ?_
    refine W.widen (k := cells + 17) (n := slots + 322) (by omega) (by omega) ?_
    exact kk9 hs1 fl1 _ _ _ H locs hI9 (lv_sub hl [2, 3, 4, 5, 6] rfl) hP hD hS
  obtain ⟨u, hr9⟩ := Ans_z hA9 c9
  have hv9 := hout u hr9
  have hu9 := hval u hr9
  refine lv_aload_n hx hb dL_law_1936 rfl (lv_at hl 5 rfl) ?_
  refine lv_iconst (v := (0 : Int32)) hx hb dL_law_1937 (by decide) ?_
  refine va_lald (D := (dC, dI)) (f := fl1) hx hb hK hP 0 3 rfl rfl (inb_in rfl) dL_law_1938 ?_
  refine lv_iload hx hb dL_law_1939 (lv_at hl 0 rfl) ?_
  refine lv_i2l (v := (y.1).toInt64) hx hb dL_law_1941 rfl ?_
  refine W.lcmp hx hb dL_law_1942 ?_
  refine lv_if_eq (tgt := 1948) hx hb dL_law_1943 (by decide) (fun c7 => ?_) (fun c7 => absurd (lg_eq (hv9.trans (congrArg Int32.toInt64 hu9))) c7)
  refine lv_goto (tgt := 3556) hx hb dL_law_1948 (by decide) ?_
  refine W.widen (k := cells + 17) (n := slots + 322) (by omega) (by omega) ?_
  exact kk9 hs1 fl1 _ _ _ H locs hI9 (lv_sub hl [2, 3, 4, 5, 6] rfl) hP hD hS
