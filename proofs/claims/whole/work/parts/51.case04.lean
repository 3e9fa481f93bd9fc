set_option maxHeartbeats 4000000 in
set_option maxRecDepth 100000 in
theorem lc_stockByAccount {p : Program} {l : Launch} {e : Env} {s : State} {m : MethodId} {below : List Frame} {meth : Method} {c : Code} {b L : Nat} {xs : Nat → Int32} {dC : Nat → ClassId} {dI : Nat → Nat → Nat} {cI cZ cS cL : ClassId} {A : Nat → Prop} {a am : Nat → Nat} {o : Nat} {Q : State → Prop} (X0 : LCx p l s m c b L xs dC dI cI cZ cS cL A) {Inv : Nat → (Nat → Option Mem) → Mem → Mem → Prop} (hSt : St_stockByAccount Inv) {n : Nat} (hn : n < 512) (hnL : 3 * n + 2 < L) (hL : L ≤ 1536) {hs : HS} {fl : Nat → Int64} {M K : Mem} (hI : Inv n (cts hs) M K) {ls : Array Slot} {H : Heap} {locs : List Loc} {cells slots : Nat} (hcs : cells + 17 ≤ 601024) (hss : slots + 322 ≤ 7293034) (hl : lv_has ls 9 [(0, .ref b), (1, .ref (a 0)), (2, .ref (am 0)), (3, .ref o), (4, .int (nI (3 * n)))]) (hP : va_P (dC, dI) vwCl (wLaw cI cZ cS cL hs o fl a M am K ++ RW cI cZ hs) H) (hD : va_D A (wLaw cI cZ cS cL hs o fl a M am K ++ RW cI cZ hs)) (hS : va_S A s.heap H locs) (kk9 : ∀ (hs' : HS) (fl' : Nat → Int64) (M' K' : Mem) (ls : Array Slot) (H : Heap) (locs : List Loc), Inv (n + 1) (cts hs') M' K' → lv_has ls 9 [(0, .ref b), (1, .ref (a 0)), (2, .ref (am 0)), (3, .ref o), (4, .int (nI (3 * n)))] → va_P (dC, dI) vwCl (wLaw cI cZ cS cL hs' o fl' a M' am K' ++ RW cI cZ hs') H → va_D A (wLaw cI cZ cS cL hs' o fl' a M' am K' ++ RW cI cZ hs') → va_S A s.heap H locs → W p l e room_1 s m #[Value.ref b] below meth c H locs (cells + 17) (slots + 322) Q (F0 m 3556 ls [])) : W p l e room_1 s m #[Value.ref b] below meth c H locs cells slots Q (F0 m 2459 ls []) := by
  obtain ⟨hx, hb, hml, hown, hts, hK, hNW, hEX, hNC, hA, hXs, hbl, hbA, hst⟩ := X0
  have hK8 : va_K (dC, dI) vwCl (tys8 cI cZ cS) s := hK.sub (tys' := tys8 cI cZ cS) [0, 1, 2] rfl
  have hK2 : va_K (dC, dI) vwCl [(cI, .int), (cZ, .boolean)] s := hK.sub (tys' := [(cI, .int), (cZ, .boolean)]) [0, 1] rfl
  obtain ⟨r, kk, y, hf8, hA9, hf9, h9k, hval, hI9⟩ := hSt n (cts hs) M K (xs (3 * n + 1)) hn hI
  refine lv_aload_n hx hb dL_law_2459 rfl (lv_at hl 1 rfl) ?_
  refine lv_aload_n hx hb dL_law_2460 rfl (lv_at hl 0 rfl) ?_
  refine lv_iload hx hb dL_law_2461 (lv_at hl 4 rfl) ?_
  refine lv_iconst (v := (1 : Int32)) hx hb dL_law_2463 (by decide) ?_
  refine lv_iadd hx hb dL_law_2464 ?_
  rw [show nI (3 * n) + (1 : Int32) = nI (3 * n + 1) from nI_add (3 * n) 1]
  refine va_sld hx hb hXs hbl hbA hS (vp_in_nI (by omega) (by omega)) dL_law_2465 ?_
  rw [nI_clamp (show 3 * n + 1 < 2 ^ 31 by omega)]
  refine lv_aload_n hx hb dL_law_2466 rfl (lv_at hl 3 rfl) ?_
  have hPc := hP.part (X := (wLaw cI cZ cS cL hs o fl a M am K)) (cx := (wL cI cZ cS cL (fS hs) (fG hs) o fl a M)) [0, 1, 2, 3, 4, 5, 6, 7, 8, 9, 10, 11, 12, 13, 14, 15, 16, 17, 18, 19, 20, 21, 22, 23, 24, 25, 26, 27, 28, 29, 30, 31, 32, 33, 34, 35, 36, 37, 38, 39, 40, 41, 42] rfl
  have hDc := hD.part (X := (wLaw cI cZ cS cL hs o fl a M am K)) (cx := (wL cI cZ cS cL (fS hs) (fG hs) o fl a M)) [0, 1, 2, 3, 4, 5, 6, 7, 8, 9, 10, 11, 12, 13, 14, 15, 16, 17, 18, 19, 20, 21, 22, 23, 24, 25, 26, 27, 28, 29, 30, 31, 32, 33, 34, 35, 36, 37, 38, 39, 40, 41, 42] (by decide) rfl
  have hFc := va_freeP (X := (wLaw cI cZ cS cL hs o fl a M am K)) (cx := (wL cI cZ cS cL (fS hs) (fG hs) o fl a M)) hD hS hA [0, 1, 2, 3, 4, 5, 6, 7, 8, 9, 10, 11, 12, 13, 14, 15, 16, 17, 18, 19, 20, 21, 22, 23, 24, 25, 26, 27, 28, 29, 30, 31, 32, 33, 34, 35, 36, 37, 38, 39, 40, 41, 42] rfl
  refine va_calli (vx_runSW (As := [.ref (a 0), .int ((xs (3 * n + 1))), .ref o]) (rest := []) ⟨hx, hb, hml, hown, hts⟩ (w_L_stockByAccount l hst dC dI cI cZ cS cL hs o fl a H.size M ((xs (3 * n + 1))) r kk hf8 hA9) (vx_cwSW 3 hts gL_law_L_stockByAccount rfl rfl rfl (by decide +kernel) ⟨Nat.le_of_ble_eq_true rfl, Nat.le_of_ble_eq_true rfl⟩) ⟨T9.blind, T9.pre hPc hK hDc hNW (hEX.at hS hFc) hNC⟩ rfl rfl hl.1 rfl (lv_room (Nat.le_of_ble_eq_true rfl)) dL_law_2467 ⟨by show cells + 1 ≤ 601024; omega, by show slots + 6 ≤ 7293034; omega⟩) hS (fun q _ h => hFc q h) hFc (fun rv u t H1 locs ht hvm hw hB hz1 hk1 hS => ?_)
  obtain ⟨hw1, hw2, hout⟩ := hw
  obtain ⟨hs1, fl1⟩ := u
  have hw2 : hs1 = hs := hw2
  rw [hw1]
  obtain ⟨hP1, hD1⟩ := hB
  rw [ht] at hP1
  obtain ⟨hP, hD⟩ := va_joinP (X := (wLaw cI cZ cS cL hs o fl a M am K)) (cx := (wL cI cZ cS cL (fS hs) (fG hs) o fl a M)) (wr := (wX9 cI cZ am K)) (rx := (wL cI cZ cS cL (fS hs1) (fG hs1) o fl1 a M)) hP hD [0, 1, 2, 3, 4, 5, 6, 7, 8, 9, 10, 11, 12, 13, 14, 15, 16, 17, 18, 19, 20, 21, 22, 23, 24, 25, 26, 27, 28, 29, 30, 31, 32, 33, 34, 35, 36, 37, 38, 39, 40, 41, 42] [43, 44, 45, 46, 47, 48, 49, 50, 51] rfl rfl (by decide) (by decide) hk1 hFc hP1 hD1
  have hP := hP.part (cx := (wLaw cI cZ cS cL hs1 o fl1 a M am K)) [9, 10, 11, 12, 13, 14, 15, 16, 17, 18, 19, 20, 21, 22, 23, 24, 25, 26, 27, 28, 29, 30, 31, 32, 33, 34, 35, 36, 37, 38, 39, 40, 41, 42, 43, 44, 45, 46, 47, 48, 49, 50, 51, 0, 1, 2, 3, 4, 5, 6, 7, 8] rfl
  have hD := hD.part (cx := (wLaw cI cZ cS cL hs1 o fl1 a M am K)) [9, 10, 11, 12, 13, 14, 15, 16, 17, 18, 19, 20, 21, 22, 23, 24, 25, 26, 27, 28, 29, 30, 31, 32, 33, 34, 35, 36, 37, 38, 39, 40, 41, 42, 43, 44, 45, 46, 47, 48, 49, 50, 51, 0, 1, 2, 3, 4, 5, 6, 7, 8] (by decide) rfl
  generalize H1 = H at hP hS ⊢
  rw [← hw2] at hI9
  refine lv_istore (lv' := [(5, .int kk), (0, .ref b), (1, .ref (a 0)), (2, .ref (am 0)), (3, .ref o), (4, .int (nI (3 * n)))]) hx hb dL_law_2470 hl (by decide) rfl (fun ls hl => ?_)
  refine lv_aload_n hx hb dL_law_2472 rfl (lv_at hl 3 rfl) ?_
  refine lv_aload_n hx hb dL_law_2473 rfl (lv_at hl 1 rfl) ?_
  refine lv_iload hx hb dL_law_2474 (lv_at hl 5 rfl) ?_
  refine lv_iconst (v := (1 : Int32)) hx hb dL_law_2476 (by decide) ?_
  refine lv_iadd hx hb dL_law_2477 ?_
  rw [show nI (3 * n) + (1 : Int32) = nI (3 * n + 1) from nI_add (3 * n) 1]
  refine va_sld hx hb hXs hbl hbA hS (vp_in_nI (by omega) (by omega)) dL_law_2478 ?_
  rw [nI_clamp (show 3 * n + 1 < 2 ^ 31 by omega)]
  have hPc := P_head (ws := (wLaw cI cZ cS cL hs1 o fl1 a M am K)) (ws' := (wX9 cI cZ am K)) hP [43, 44, 45, 46, 47, 48, 49, 50, 51] rfl
  have hDc := D_head (ws := (wLaw cI cZ cS cL hs1 o fl1 a M am K)) (ws' := (wX9 cI cZ am K)) hD [43, 44, 45, 46, 47, 48, 49, 50, 51] (by decide) rfl
  have hFc := va_free (wc := (wX9 cI cZ am K)) hD hS hA [43, 44, 45, 46, 47, 48, 49, 50, 51] rfl
  refine va_calli (va_runV (As := [.int ((xs (3 * n + 1)))]) (rest := []) ⟨hx, hb, hml, hown, hts⟩ (c_X9_stockByAccount l dC dI cI cZ am H.size K ((xs (3 * n + 1))) y hf9) (cwV 1 hts gL_law_X9_stockByAccount rfl rfl rfl (by decide +kernel) ⟨Nat.le_of_ble_eq_true rfl, Nat.le_of_ble_eq_true rfl⟩) ⟨WR.blind, va_recv hK hP (ci := 9) (q0 := 43) rfl rfl, WR.pre hPc hK2 hDc hNW⟩ rfl rfl hl.1 rfl (lv_room (Nat.le_of_ble_eq_true rfl)) dL_law_2479 ⟨by show _ + 0 ≤ 601024; omega, by show _ + 0 ≤ 7293034; omega⟩) hS (fun q _ h => hFc q h) hFc (fun rv u t H1 locs ht hvm hw hB hz1 hk1 hS => ?_)
  obtain ⟨hP1, hD1⟩ := hB
  rw [ht] at hP1
  rw [hw]
  obtain ⟨hP, hD⟩ := join_app (ws := (wLaw cI cZ cS cL hs1 o fl1 a M am K)) (wr := (wL cI cZ cS cL (fS hs1) (fG hs1) o fl1 a M)) (w1 := (wX9 cI cZ am (sr K 0 (y.2 0)))) hP hD [43, 44, 45, 46, 47, 48, 49, 50, 51] [0, 1, 2, 3, 4, 5, 6, 7, 8, 9, 10, 11, 12, 13, 14, 15, 16, 17, 18, 19, 20, 21, 22, 23, 24, 25, 26, 27, 28, 29, 30, 31, 32, 33, 34, 35, 36, 37, 38, 39, 40, 41, 42] rfl rfl (by decide) (by decide) hk1 hFc hP1 hD1
  have hP : va_P (dC, dI) vwCl ((wLaw cI cZ cS cL hs1 o fl1 a M am (sr K 0 (y.2 0))) ++ RW cI cZ hs1) H1 := hP
  have hD : va_D A ((wLaw cI cZ cS cL hs1 o fl1 a M am (sr K 0 (y.2 0))) ++ RW cI cZ hs1) := hD
  generalize H1 = H at hP hS ⊢
  refine lv_istore (lv' := [(6, .int y.1), (5, .int kk), (0, .ref b), (1, .ref (a 0)), (2, .ref (am 0)), (3, .ref o), (4, .int (nI (3 * n)))]) hx hb dL_law_2482 hl (by decide) rfl (fun ls hl => ?_)
  refine lv_aload_n hx hb dL_law_2484 rfl (lv_at hl 4 rfl) ?_
  have hPc := P_head (ws := (wLaw cI cZ cS cL hs1 o fl1 a M am (sr K 0 (y.2 0)))) (ws' := (wX9 cI cZ am (sr K 0 (y.2 0)))) hP [43, 44, 45, 46, 47, 48, 49, 50, 51] rfl
  refine cRO (W.runV (As := []) (rest := []) ⟨hx, hb, hml, hown, hts⟩ (c_X9_thrown l dC dI cI cZ am (sr K 0 (y.2 0)) ((sr K 0 (y.2 0)) 0 0) rfl) (cwV 0 hts gL_law_X9_thrown rfl rfl rfl (by decide +kernel) ⟨Nat.le_of_ble_eq_true rfl, Nat.le_of_ble_eq_true rfl⟩) ⟨RO.blind, va_recv hK hP (ci := 9) (q0 := 43) rfl rfl, RO.pre hPc hK2 hNW⟩ rfl rfl hl.1 rfl (lv_room (Nat.le_of_ble_eq_true rfl)) dL_law_2485 ⟨by show _ + 0 ≤ 601024; omega, by show _ + 0 ≤ 7293034; omega⟩) ?_
  refine lv_iload hx hb dL_law_2488 (lv_at hl 1 rfl) ?_
  refine lv_icmp_eq (tgt := 2495) hx hb dL_law_2490 (by decide) (fun c9 => ?_) (fun c9 => absurd h9k c9)
  refine lv_iload hx hb dL_law_2495 (lv_at hl 1 rfl) ?_
  refine lv_if_ne (tgt := 2512) hx hb dL_law_2497 (by decide) (fun c9 => ?_) (fun c9 => ?_)
  · refine lv_goto (tgt := 3556) hx hb dL_law_2512 (by decide) ?_
    refine W.widen (k := cells + 17) (n := slots + 322) (by omega) (by omega) ?_
    exact kk9 hs1 fl1 _ _ _ H locs hI9 (lv_sub hl [2, 3, 4, 5, 6] rfl) hP hD hS
  obtain ⟨u, hr9⟩ := Ans_z hA9 c9
  have hv9 := hout u hr9
  have hu9 := hval u hr9
  refine lv_aload_n hx hb dL_law_2500 rfl (lv_at hl 5 rfl) ?_
  refine lv_iconst (v := (0 : Int32)) hx hb dL_law_2501 (by decide) ?_
  refine va_lald (D := (dC, dI)) (f := fl1) hx hb hK hP 0 3 rfl rfl (inb_in rfl) dL_law_2502 ?_
  refine lv_iload hx hb dL_law_2503 (lv_at hl 0 rfl) ?_
  refine lv_i2l (v := (y.1).toInt64) hx hb dL_law_2505 rfl ?_
  refine W.lcmp hx hb dL_law_2506 ?_
  refine lv_if_eq (tgt := 2512) hx hb dL_law_2507 (by decide) (fun c7 => ?_) (fun c7 => absurd (lg_eq (hv9.trans (congrArg Int32.toInt64 hu9))) c7)
  refine lv_goto (tgt := 3556) hx hb dL_law_2512 (by decide) ?_
  refine W.widen (k := cells + 17) (n := slots + 322) (by omega) (by omega) ?_
  exact kk9 hs1 fl1 _ _ _ H locs hI9 (lv_sub hl [2, 3, 4, 5, 6] rfl) hP hD hS
set_option maxHeartbeats 4000000 in
set_option maxRecDepth 100000 in
theorem lc_shelvesWith {p : Program} {l : Launch} {e : Env} {s : State} {m : MethodId} {below : List Frame} {meth : Method} {c : Code} {b L : Nat} {xs : Nat → Int32} {dC : Nat → ClassId} {dI : Nat → Nat → Nat} {cI cZ cS cL : ClassId} {A : Nat → Prop} {a am : Nat → Nat} {o : Nat} {Q : State → Prop} (X0 : LCx p l s m c b L xs dC dI cI cZ cS cL A) {Inv : Nat → (Nat → Option Mem) → Mem → Mem → Prop} (hSt : St_shelvesWith Inv) {n : Nat} (hn : n < 512) (hnL : 3 * n + 2 < L) (hL : L ≤ 1536) {hs : HS} {fl : Nat → Int64} {M K : Mem} (hI : Inv n (cts hs) M K) {ls : Array Slot} {H : Heap} {locs : List Loc} {cells slots : Nat} (hcs : cells + 17 ≤ 601024) (hss : slots + 322 ≤ 7293034) (hl : lv_has ls 9 [(0, .ref b), (1, .ref (a 0)), (2, .ref (am 0)), (3, .ref o), (4, .int (nI (3 * n)))]) (hP : va_P (dC, dI) vwCl (wLaw cI cZ cS cL hs o fl a M am K ++ RW cI cZ hs) H) (hD : va_D A (wLaw cI cZ cS cL hs o fl a M am K ++ RW cI cZ hs)) (hS : va_S A s.heap H locs) (kk9 : ∀ (hs' : HS) (fl' : Nat → Int64) (M' K' : Mem) (ls : Array Slot) (H : Heap) (locs : List Loc), Inv (n + 1) (cts hs') M' K' → lv_has ls 9 [(0, .ref b), (1, .ref (a 0)), (2, .ref (am 0)), (3, .ref o), (4, .int (nI (3 * n)))] → va_P (dC, dI) vwCl (wLaw cI cZ cS cL hs' o fl' a M' am K' ++ RW cI cZ hs') H → va_D A (wLaw cI cZ cS cL hs' o fl' a M' am K' ++ RW cI cZ hs') → va_S A s.heap H locs → W p l e room_1 s m #[Value.ref b] below meth c H locs (cells + 17) (slots + 322) Q (F0 m 3556 ls [])) : W p l e room_1 s m #[Value.ref b] below meth c H locs cells slots Q (F0 m 2515 ls []) := by
  obtain ⟨hx, hb, hml, hown, hts, hK, hNW, hEX, hNC, hA, hXs, hbl, hbA, hst⟩ := X0
  have hK8 : va_K (dC, dI) vwCl (tys8 cI cZ cS) s := hK.sub (tys' := tys8 cI cZ cS) [0, 1, 2] rfl
  have hK2 : va_K (dC, dI) vwCl [(cI, .int), (cZ, .boolean)] s := hK.sub (tys' := [(cI, .int), (cZ, .boolean)]) [0, 1] rfl
  obtain ⟨r, kk, y, hf8, hA9, hf9, h9k, hval, hI9⟩ := hSt n (cts hs) M K (xs (3 * n + 1)) hn hI
  refine lv_aload_n hx hb dL_law_2515 rfl (lv_at hl 1 rfl) ?_
  refine lv_aload_n hx hb dL_law_2516 rfl (lv_at hl 0 rfl) ?_
  refine lv_iload hx hb dL_law_2517 (lv_at hl 4 rfl) ?_
  refine lv_iconst (v := (1 : Int32)) hx hb dL_law_2519 (by decide) ?_
  refine lv_iadd hx hb dL_law_2520 ?_
  rw [show nI (3 * n) + (1 : Int32) = nI (3 * n + 1) from nI_add (3 * n) 1]
  refine va_sld hx hb hXs hbl hbA hS (vp_in_nI (by omega) (by omega)) dL_law_2521 ?_
  rw [nI_clamp (show 3 * n + 1 < 2 ^ 31 by omega)]
  refine lv_aload_n hx hb dL_law_2522 rfl (lv_at hl 3 rfl) ?_
  have hPc := hP.part (X := (wLaw cI cZ cS cL hs o fl a M am K)) (cx := (wL cI cZ cS cL (fS hs) (fG hs) o fl a M)) [0, 1, 2, 3, 4, 5, 6, 7, 8, 9, 10, 11, 12, 13, 14, 15, 16, 17, 18, 19, 20, 21, 22, 23, 24, 25, 26, 27, 28, 29, 30, 31, 32, 33, 34, 35, 36, 37, 38, 39, 40, 41, 42] rfl
  have hDc := hD.part (X := (wLaw cI cZ cS cL hs o fl a M am K)) (cx := (wL cI cZ cS cL (fS hs) (fG hs) o fl a M)) [0, 1, 2, 3, 4, 5, 6, 7, 8, 9, 10, 11, 12, 13, 14, 15, 16, 17, 18, 19, 20, 21, 22, 23, 24, 25, 26, 27, 28, 29, 30, 31, 32, 33, 34, 35, 36, 37, 38, 39, 40, 41, 42] (by decide) rfl
  have hFc := va_freeP (X := (wLaw cI cZ cS cL hs o fl a M am K)) (cx := (wL cI cZ cS cL (fS hs) (fG hs) o fl a M)) hD hS hA [0, 1, 2, 3, 4, 5, 6, 7, 8, 9, 10, 11, 12, 13, 14, 15, 16, 17, 18, 19, 20, 21, 22, 23, 24, 25, 26, 27, 28, 29, 30, 31, 32, 33, 34, 35, 36, 37, 38, 39, 40, 41, 42] rfl
  refine va_calli (vx_runSW (As := [.ref (a 0), .int ((xs (3 * n + 1))), .ref o]) (rest := []) ⟨hx, hb, hml, hown, hts⟩ (w_L_shelvesWith l hst dC dI cI cZ cS cL hs o fl a H.size M ((xs (3 * n + 1))) r kk hf8 hA9) (vx_cwSW 3 hts gL_law_L_shelvesWith rfl rfl rfl (by decide +kernel) ⟨Nat.le_of_ble_eq_true rfl, Nat.le_of_ble_eq_true rfl⟩) ⟨T9.blind, T9.pre hPc hK hDc hNW (hEX.at hS hFc) hNC⟩ rfl rfl hl.1 rfl (lv_room (Nat.le_of_ble_eq_true rfl)) dL_law_2523 ⟨by show cells + 1 ≤ 601024; omega, by show slots + 6 ≤ 7293034; omega⟩) hS (fun q _ h => hFc q h) hFc (fun rv u t H1 locs ht hvm hw hB hz1 hk1 hS => ?_)
  obtain ⟨hw1, hw2, hout⟩ := hw
  obtain ⟨hs1, fl1⟩ := u
  have hw2 : hs1 = hs := hw2
  rw [hw1]
  obtain ⟨hP1, hD1⟩ := hB
  rw [ht] at hP1
  obtain ⟨hP, hD⟩ := va_joinP (X := (wLaw cI cZ cS cL hs o fl a M am K)) (cx := (wL cI cZ cS cL (fS hs) (fG hs) o fl a M)) (wr := (wX9 cI cZ am K)) (rx := (wL cI cZ cS cL (fS hs1) (fG hs1) o fl1 a M)) hP hD [0, 1, 2, 3, 4, 5, 6, 7, 8, 9, 10, 11, 12, 13, 14, 15, 16, 17, 18, 19, 20, 21, 22, 23, 24, 25, 26, 27, 28, 29, 30, 31, 32, 33, 34, 35, 36, 37, 38, 39, 40, 41, 42] [43, 44, 45, 46, 47, 48, 49, 50, 51] rfl rfl (by decide) (by decide) hk1 hFc hP1 hD1
  have hP := hP.part (cx := (wLaw cI cZ cS cL hs1 o fl1 a M am K)) [9, 10, 11, 12, 13, 14, 15, 16, 17, 18, 19, 20, 21, 22, 23, 24, 25, 26, 27, 28, 29, 30, 31, 32, 33, 34, 35, 36, 37, 38, 39, 40, 41, 42, 43, 44, 45, 46, 47, 48, 49, 50, 51, 0, 1, 2, 3, 4, 5, 6, 7, 8] rfl
  have hD := hD.part (cx := (wLaw cI cZ cS cL hs1 o fl1 a M am K)) [9, 10, 11, 12, 13, 14, 15, 16, 17, 18, 19, 20, 21, 22, 23, 24, 25, 26, 27, 28, 29, 30, 31, 32, 33, 34, 35, 36, 37, 38, 39, 40, 41, 42, 43, 44, 45, 46, 47, 48, 49, 50, 51, 0, 1, 2, 3, 4, 5, 6, 7, 8] (by decide) rfl
  generalize H1 = H at hP hS ⊢
  rw [← hw2] at hI9
  refine lv_istore (lv' := [(5, .int kk), (0, .ref b), (1, .ref (a 0)), (2, .ref (am 0)), (3, .ref o), (4, .int (nI (3 * n)))]) hx hb dL_law_2526 hl (by decide) rfl (fun ls hl => ?_)
  refine lv_aload_n hx hb dL_law_2528 rfl (lv_at hl 3 rfl) ?_
  refine lv_aload_n hx hb dL_law_2529 rfl (lv_at hl 1 rfl) ?_
  refine lv_iload hx hb dL_law_2530 (lv_at hl 5 rfl) ?_
  refine lv_iconst (v := (1 : Int32)) hx hb dL_law_2532 (by decide) ?_
  refine lv_iadd hx hb dL_law_2533 ?_
  rw [show nI (3 * n) + (1 : Int32) = nI (3 * n + 1) from nI_add (3 * n) 1]
  refine va_sld hx hb hXs hbl hbA hS (vp_in_nI (by omega) (by omega)) dL_law_2534 ?_
  rw [nI_clamp (show 3 * n + 1 < 2 ^ 31 by omega)]
  have hPc := P_head (ws := (wLaw cI cZ cS cL hs1 o fl1 a M am K)) (ws' := (wX9 cI cZ am K)) hP [43, 44, 45, 46, 47, 48, 49, 50, 51] rfl
  have hDc := D_head (ws := (wLaw cI cZ cS cL hs1 o fl1 a M am K)) (ws' := (wX9 cI cZ am K)) hD [43, 44, 45, 46, 47, 48, 49, 50, 51] (by decide) rfl
  have hFc := va_free (wc := (wX9 cI cZ am K)) hD hS hA [43, 44, 45, 46, 47, 48, 49, 50, 51] rfl
  refine va_calli (va_runV (As := [.int ((xs (3 * n + 1)))]) (rest := []) ⟨hx, hb, hml, hown, hts⟩ (c_X9_shelvesWith l dC dI cI cZ am H.size K ((xs (3 * n + 1))) y hf9) (cwV 1 hts gL_law_X9_shelvesWith rfl rfl rfl (by decide +kernel) ⟨Nat.le_of_ble_eq_true rfl, Nat.le_of_ble_eq_true rfl⟩) ⟨WR.blind, va_recv hK hP (ci := 9) (q0 := 43) rfl rfl, WR.pre hPc hK2 hDc hNW⟩ rfl rfl hl.1 rfl (lv_room (Nat.le_of_ble_eq_true rfl)) dL_law_2535 ⟨by show _ + 0 ≤ 601024; omega, by show _ + 0 ≤ 7293034; omega⟩) hS (fun q _ h => hFc q h) hFc (fun rv u t H1 locs ht hvm hw hB hz1 hk1 hS => ?_)
  obtain ⟨hP1, hD1⟩ := hB
  rw [ht] at hP1
  rw [hw]
  obtain ⟨hP, hD⟩ := join_app (ws := (wLaw cI cZ cS cL hs1 o fl1 a M am K)) (wr := (wL cI cZ cS cL (fS hs1) (fG hs1) o fl1 a M)) (w1 := (wX9 cI cZ am (sr K 0 (y.2 0)))) hP hD [43, 44, 45, 46, 47, 48, 49, 50, 51] [0, 1, 2, 3, 4, 5, 6, 7, 8, 9, 10, 11, 12, 13, 14, 15, 16, 17, 18, 19, 20, 21, 22, 23, 24, 25, 26, 27, 28, 29, 30, 31, 32, 33, 34, 35, 36, 37, 38, 39, 40, 41, 42] rfl rfl (by decide) (by decide) hk1 hFc hP1 hD1
  have hP : va_P (dC, dI) vwCl ((wLaw cI cZ cS cL hs1 o fl1 a M am (sr K 0 (y.2 0))) ++ RW cI cZ hs1) H1 := hP
  have hD : va_D A ((wLaw cI cZ cS cL hs1 o fl1 a M am (sr K 0 (y.2 0))) ++ RW cI cZ hs1) := hD
  generalize H1 = H at hP hS ⊢
  refine lv_istore (lv' := [(6, .int y.1), (5, .int kk), (0, .ref b), (1, .ref (a 0)), (2, .ref (am 0)), (3, .ref o), (4, .int (nI (3 * n)))]) hx hb dL_law_2538 hl (by decide) rfl (fun ls hl => ?_)
  refine lv_aload_n hx hb dL_law_2540 rfl (lv_at hl 4 rfl) ?_
  have hPc := P_head (ws := (wLaw cI cZ cS cL hs1 o fl1 a M am (sr K 0 (y.2 0)))) (ws' := (wX9 cI cZ am (sr K 0 (y.2 0)))) hP [43, 44, 45, 46, 47, 48, 49, 50, 51] rfl
  refine cRO (W.runV (As := []) (rest := []) ⟨hx, hb, hml, hown, hts⟩ (c_X9_thrown l dC dI cI cZ am (sr K 0 (y.2 0)) ((sr K 0 (y.2 0)) 0 0) rfl) (cwV 0 hts gL_law_X9_thrown rfl rfl rfl (by decide +kernel) ⟨Nat.le_of_ble_eq_true rfl, Nat.le_of_ble_eq_true rfl⟩) ⟨RO.blind, va_recv hK hP (ci := 9) (q0 := 43) rfl rfl, RO.pre hPc hK2 hNW⟩ rfl rfl hl.1 rfl (lv_room (Nat.le_of_ble_eq_true rfl)) dL_law_2541 ⟨by show _ + 0 ≤ 601024; omega, by show _ + 0 ≤ 7293034; omega⟩) ?_
  refine lv_iload hx hb dL_law_2544 (lv_at hl 1 rfl) ?_
  refine lv_icmp_eq (tgt := 2551) hx hb dL_law_2546 (by decide) (fun c9 => ?_) (fun c9 => absurd h9k c9)
  refine lv_iload hx hb dL_law_2551 (lv_at hl 1 rfl) ?_
  refine lv_if_ne (tgt := 2568) hx hb dL_law_2553 (by decide) (fun c9 => ?_) (fun c9 => ?_)
  · refine lv_goto (tgt := 3556) hx hb dL_law_2568 (by decide) ?_
    refine W.widen (k := cells + 17) (n := slots + 322) (by omega) (by omega) ?_
    exact kk9 hs1 fl1 _ _ _ H locs hI9 (lv_sub hl [2, 3, 4, 5, 6] rfl) hP hD hS
  obtain ⟨u, hr9⟩ := Ans_z hA9 c9
  have hv9 := hout u hr9
  have hu9 := hval u hr9
  refine lv_aload_n hx hb dL_law_2556 rfl (lv_at hl 5 rfl) ?_
  refine lv_iconst (v := (0 : Int32)) hx hb dL_law_2557 (by decide) ?_
  refine va_lald (D := (dC, dI)) (f := fl1) hx hb hK hP 0 3 rfl rfl (inb_in rfl) dL_law_2558 ?_
  refine lv_iload hx hb dL_law_2559 (lv_at hl 0 rfl) ?_
  refine lv_i2l (v := (y.1).toInt64) hx hb dL_law_2561 rfl ?_
  refine W.lcmp hx hb dL_law_2562 ?_
  refine lv_if_eq (tgt := 2568) hx hb dL_law_2563 (by decide) (fun c7 => ?_) (fun c7 => absurd (lg_eq (hv9.trans (congrArg Int32.toInt64 hu9))) c7)
  refine lv_goto (tgt := 3556) hx hb dL_law_2568 (by decide) ?_
  refine W.widen (k := cells + 17) (n := slots + 322) (by omega) (by omega) ?_
  exact kk9 hs1 fl1 _ _ _ H locs hI9 (lv_sub hl [2, 3, 4, 5, 6] rfl) hP hD hS
set_option maxHeartbeats 4000000 in
set_option maxRecDepth 100000 in
theorem lc_leastOf {p : Program} {l : Launch} {e : Env} {s : State} {m : MethodId} {below : List Frame} {meth : Method} {c : Code} {b L : Nat} {xs : Nat → Int32} {dC : Nat → ClassId} {dI : Nat → Nat → Nat} {cI cZ cS cL : ClassId} {A : Nat → Prop} {a am : Nat → Nat} {o : Nat} {Q : State → Prop} (X0 : LCx p l s m c b L xs dC dI cI cZ cS cL A) {Inv : Nat → (Nat → Option Mem) → Mem → Mem → Prop} (hSt : St_leastOf Inv) {n : Nat} (hn : n < 512) (hnL : 3 * n + 2 < L) (hL : L ≤ 1536) {hs : HS} {fl : Nat → Int64} {M K : Mem} (hI : Inv n (cts hs) M K) {ls : Array Slot} {H : Heap} {locs : List Loc} {cells slots : Nat} (hcs : cells + 17 ≤ 601024) (hss : slots + 322 ≤ 7293034) (hl : lv_has ls 9 [(0, .ref b), (1, .ref (a 0)), (2, .ref (am 0)), (3, .ref o), (4, .int (nI (3 * n)))]) (hP : va_P (dC, dI) vwCl (wLaw cI cZ cS cL hs o fl a M am K ++ RW cI cZ hs) H) (hD : va_D A (wLaw cI cZ cS cL hs o fl a M am K ++ RW cI cZ hs)) (hS : va_S A s.heap H locs) (kk9 : ∀ (hs' : HS) (fl' : Nat → Int64) (M' K' : Mem) (ls : Array Slot) (H : Heap) (locs : List Loc), Inv (n + 1) (cts hs') M' K' → lv_has ls 9 [(0, .ref b), (1, .ref (a 0)), (2, .ref (am 0)), (3, .ref o), (4, .int (nI (3 * n)))] → va_P (dC, dI) vwCl (wLaw cI cZ cS cL hs' o fl' a M' am K' ++ RW cI cZ hs') H → va_D A (wLaw cI cZ cS cL hs' o fl' a M' am K' ++ RW cI cZ hs') → va_S A s.heap H locs → W p l e room_1 s m #[Value.ref b] below meth c H locs (cells + 17) (slots + 322) Q (F0 m 3556 ls [])) : W p l e room_1 s m #[Value.ref b] below meth c H locs cells slots Q (F0 m 2571 ls []) := by
  obtain ⟨hx, hb, hml, hown, hts, hK, hNW, hEX, hNC, hA, hXs, hbl, hbA, hst⟩ := X0
  have hK8 : va_K (dC, dI) vwCl (tys8 cI cZ cS) s := hK.sub (tys' := tys8 cI cZ cS) [0, 1, 2] rfl
  have hK2 : va_K (dC, dI) vwCl [(cI, .int), (cZ, .boolean)] s := hK.sub (tys' := [(cI, .int), (cZ, .boolean)]) [0, 1] rfl
  obtain ⟨r, kk, y, hf8, hA9, hf9, h9k, hval, hI9⟩ := hSt n (cts hs) M K (xs (3 * n + 1)) hn hI
  refine lv_aload_n hx hb dL_law_2571 rfl (lv_at hl 1 rfl) ?_
  refine lv_aload_n hx hb dL_law_2572 rfl (lv_at hl 0 rfl) ?_
  refine lv_iload hx hb dL_law_2573 (lv_at hl 4 rfl) ?_
  refine lv_iconst (v := (1 : Int32)) hx hb dL_law_2575 (by decide) ?_
  refine lv_iadd hx hb dL_law_2576 ?_
  rw [show nI (3 * n) + (1 : Int32) = nI (3 * n + 1) from nI_add (3 * n) 1]
  refine va_sld hx hb hXs hbl hbA hS (vp_in_nI (by omega) (by omega)) dL_law_2577 ?_
  rw [nI_clamp (show 3 * n + 1 < 2 ^ 31 by omega)]
  refine lv_aload_n hx hb dL_law_2578 rfl (lv_at hl 3 rfl) ?_
  have hPc := hP.part (X := (wLaw cI cZ cS cL hs o fl a M am K)) (cx := (wL cI cZ cS cL (fS hs) (fG hs) o fl a M)) [0, 1, 2, 3, 4, 5, 6, 7, 8, 9, 10, 11, 12, 13, 14, 15, 16, 17, 18, 19, 20, 21, 22, 23, 24, 25, 26, 27, 28, 29, 30, 31, 32, 33, 34, 35, 36, 37, 38, 39, 40, 41, 42] rfl
  have hDc := hD.part (X := (wLaw cI cZ cS cL hs o fl a M am K)) (cx := (wL cI cZ cS cL (fS hs) (fG hs) o fl a M)) [0, 1, 2, 3, 4, 5, 6, 7, 8, 9, 10, 11, 12, 13, 14, 15, 16, 17, 18, 19, 20, 21, 22, 23, 24, 25, 26, 27, 28, 29, 30, 31, 32, 33, 34, 35, 36, 37, 38, 39, 40, 41, 42] (by decide) rfl
  have hFc := va_freeP (X := (wLaw cI cZ cS cL hs o fl a M am K)) (cx := (wL cI cZ cS cL (fS hs) (fG hs) o fl a M)) hD hS hA [0, 1, 2, 3, 4, 5, 6, 7, 8, 9, 10, 11, 12, 13, 14, 15, 16, 17, 18, 19, 20, 21, 22, 23, 24, 25, 26, 27, 28, 29, 30, 31, 32, 33, 34, 35, 36, 37, 38, 39, 40, 41, 42] rfl
  refine va_calli (vx_runSW (As := [.ref (a 0), .int ((xs (3 * n + 1))), .ref o]) (rest := []) ⟨hx, hb, hml, hown, hts⟩ (w_L_leastOf l hst dC dI cI cZ cS cL hs o fl a H.size M ((xs (3 * n + 1))) r kk hf8 hA9) (vx_cwSW 3 hts gL_law_L_leastOf rfl rfl rfl (by decide +kernel) ⟨Nat.le_of_ble_eq_true rfl, Nat.le_of_ble_eq_true rfl⟩) ⟨T9.blind, T9.pre hPc hK hDc hNW (hEX.at hS hFc) hNC⟩ rfl rfl hl.1 rfl (lv_room (Nat.le_of_ble_eq_true rfl)) dL_law_2579 ⟨by show cells + 1 ≤ 601024; omega, by show slots + 6 ≤ 7293034; omega⟩) hS (fun q _ h => hFc q h) hFc (fun rv u t H1 locs ht hvm hw hB hz1 hk1 hS => ?_)
  obtain ⟨hw1, hw2, hout⟩ := hw
  obtain ⟨hs1, fl1⟩ := u
  have hw2 : hs1 = hs := hw2
  rw [hw1]
  obtain ⟨hP1, hD1⟩ := hB
  rw [ht] at hP1
  obtain ⟨hP, hD⟩ := va_joinP (X := (wLaw cI cZ cS cL hs o fl a M am K)) (cx := (wL cI cZ cS cL (fS hs) (fG hs) o fl a M)) (wr := (wX9 cI cZ am K)) (rx := (wL cI cZ cS cL (fS hs1) (fG hs1) o fl1 a M)) hP hD [0, 1, 2, 3, 4, 5, 6, 7, 8, 9, 10, 11, 12, 13, 14, 15, 16, 17, 18, 19, 20, 21, 22, 23, 24, 25, 26, 27, 28, 29, 30, 31, 32, 33, 34, 35, 36, 37, 38, 39, 40, 41, 42] [43, 44, 45, 46, 47, 48, 49, 50, 51] rfl rfl (by decide) (by decide) hk1 hFc hP1 hD1
  have hP := hP.part (cx := (wLaw cI cZ cS cL hs1 o fl1 a M am K)) [9, 10, 11, 12, 13, 14, 15, 16, 17, 18, 19, 20, 21, 22, 23, 24, 25, 26, 27, 28, 29, 30, 31, 32, 33, 34, 35, 36, 37, 38, 39, 40, 41, 42, 43, 44, 45, 46, 47, 48, 49, 50, 51, 0, 1, 2, 3, 4, 5, 6, 7, 8] rfl
  have hD := hD.part (cx := (wLaw cI cZ cS cL hs1 o fl1 a M am K)) [9, 10, 11, 12, 13, 14, 15, 16, 17, 18, 19, 20, 21, 22, 23, 24, 25, 26, 27, 28, 29, 30, 31, 32, 33, 34, 35, 36, 37, 38, 39, 40, 41, 42, 43, 44, 45, 46, 47, 48, 49, 50, 51, 0, 1, 2, 3, 4, 5, 6, 7, 8] (by decide) rfl
  generalize H1 = H at hP hS ⊢
  rw [← hw2] at hI9
  refine lv_istore (lv' := [(5, .int kk), (0, .ref b), (1, .ref (a 0)), (2, .ref (am 0)), (3, .ref o), (4, .int (nI (3 * n)))]) hx hb dL_law_2582 hl (by decide) rfl (fun ls hl => ?_)
  refine lv_aload_n hx hb dL_law_2584 rfl (lv_at hl 3 rfl) ?_
  refine lv_aload_n hx hb dL_law_2585 rfl (lv_at hl 1 rfl) ?_
  refine lv_iload hx hb dL_law_2586 (lv_at hl 5 rfl) ?_
  refine lv_iconst (v := (1 : Int32)) hx hb dL_law_2588 (by decide) ?_
  refine lv_iadd hx hb dL_law_2589 ?_
  rw [show nI (3 * n) + (1 : Int32) = nI (3 * n + 1) from nI_add (3 * n) 1]
  refine va_sld hx hb hXs hbl hbA hS (vp_in_nI (by omega) (by omega)) dL_law_2590 ?_
  rw [nI_clamp (show 3 * n + 1 < 2 ^ 31 by omega)]
  have hPc := P_head (ws := (wLaw cI cZ cS cL hs1 o fl1 a M am K)) (ws' := (wX9 cI cZ am K)) hP [43, 44, 45, 46, 47, 48, 49, 50, 51] rfl
  have hDc := D_head (ws := (wLaw cI cZ cS cL hs1 o fl1 a M am K)) (ws' := (wX9 cI cZ am K)) hD [43, 44, 45, 46, 47, 48, 49, 50, 51] (by decide) rfl
  have hFc := va_free (wc := (wX9 cI cZ am K)) hD hS hA [43, 44, 45, 46, 47, 48, 49, 50, 51] rfl
  refine va_calli (va_runV (As := [.int ((xs (3 * n + 1)))]) (rest := []) ⟨hx, hb, hml, hown, hts⟩ (c_X9_leastOf l dC dI cI cZ am H.size K ((xs (3 * n + 1))) y hf9) (cwV 1 hts gL_law_X9_leastOf rfl rfl rfl (by decide +kernel) ⟨Nat.le_of_ble_eq_true rfl, Nat.le_of_ble_eq_true rfl⟩) ⟨WR.blind, va_recv hK hP (ci := 9) (q0 := 43) rfl rfl, WR.pre hPc hK2 hDc hNW⟩ rfl rfl hl.1 rfl (lv_room (Nat.le_of_ble_eq_true rfl)) dL_law_2591 ⟨by show _ + 0 ≤ 601024; omega, by show _ + 0 ≤ 7293034; omega⟩) hS (fun q _ h => hFc q h) hFc (fun rv u t H1 locs ht hvm hw hB hz1 hk1 hS => ?_)
  obtain ⟨hP1, hD1⟩ := hB
  rw [ht] at hP1
  rw [hw]
  obtain ⟨hP, hD⟩ := join_app (ws := (wLaw cI cZ cS cL hs1 o fl1 a M am K)) (wr := (wL cI cZ cS cL (fS hs1) (fG hs1) o fl1 a M)) (w1 := (wX9 cI cZ am (sr K 0 (y.2 0)))) hP hD [43, 44, 45, 46, 47, 48, 49, 50, 51] [0, 1, 2, 3, 4, 5, 6, 7, 8, 9, 10, 11, 12, 13, 14, 15, 16, 17, 18, 19, 20, 21, 22, 23, 24, 25, 26, 27, 28, 29, 30, 31, 32, 33, 34, 35, 36, 37, 38, 39, 40, 41, 42] rfl rfl (by decide) (by decide) hk1 hFc hP1 hD1
  have hP : va_P (dC, dI) vwCl ((wLaw cI cZ cS cL hs1 o fl1 a M am (sr K 0 (y.2 0))) ++ RW cI cZ hs1) H1 := hP
  have hD : va_D A ((wLaw cI cZ cS cL hs1 o fl1 a M am (sr K 0 (y.2 0))) ++ RW cI cZ hs1) := hD
  generalize H1 = H at hP hS ⊢
  refine lv_istore (lv' := [(6, .int y.1), (5, .int kk), (0, .ref b), (1, .ref (a 0)), (2, .ref (am 0)), (3, .ref o), (4, .int (nI (3 * n)))]) hx hb dL_law_2594 hl (by decide) rfl (fun ls hl => ?_)
  refine lv_aload_n hx hb dL_law_2596 rfl (lv_at hl 4 rfl) ?_
  have hPc := P_head (ws := (wLaw cI cZ cS cL hs1 o fl1 a M am (sr K 0 (y.2 0)))) (ws' := (wX9 cI cZ am (sr K 0 (y.2 0)))) hP [43, 44, 45, 46, 47, 48, 49, 50, 51] rfl
  refine cRO (W.runV (As := []) (rest := []) ⟨hx, hb, hml, hown, hts⟩ (c_X9_thrown l dC dI cI cZ am (sr K 0 (y.2 0)) ((sr K 0 (y.2 0)) 0 0) rfl) (cwV 0 hts gL_law_X9_thrown rfl rfl rfl (by decide +kernel) ⟨Nat.le_of_ble_eq_true rfl, Nat.le_of_ble_eq_true rfl⟩) ⟨RO.blind, va_recv hK hP (ci := 9) (q0 := 43) rfl rfl, RO.pre hPc hK2 hNW⟩ rfl rfl hl.1 rfl (lv_room (Nat.le_of_ble_eq_true rfl)) dL_law_2597 ⟨by show _ + 0 ≤ 601024; omega, by show _ + 0 ≤ 7293034; omega⟩) ?_
  refine lv_iload hx hb dL_law_2600 (lv_at hl 1 rfl) ?_
  refine lv_icmp_eq (tgt := 2607) hx hb dL_law_2602 (by decide) (fun c9 => ?_) (fun c9 => absurd h9k c9)
  refine lv_iload hx hb dL_law_2607 (lv_at hl 1 rfl) ?_
  refine lv_if_ne (tgt := 2624) hx hb dL_law_2609 (by decide) (fun c9 => ?_) (fun c9 => ?_)
  · refine lv_goto (tgt := 3556) hx hb dL_law_2624 (by decide) ?_
    refine W.widen (k := cells + 17) (n := slots + 322) (by omega) (by omega) ?_
    exact kk9 hs1 fl1 _ _ _ H locs hI9 (lv_sub hl [2, 3, 4, 5, 6] rfl) hP hD hS
  obtain ⟨u, hr9⟩ := Ans_z hA9 c9
  have hv9 := hout u hr9
  have hu9 := hval u hr9
  refine lv_aload_n hx hb dL_law_2612 rfl (lv_at hl 5 rfl) ?_
  refine lv_iconst (v := (0 : Int32)) hx hb dL_law_2613 (by decide) ?_
  refine va_lald (D := (dC, dI)) (f := fl1) hx hb hK hP 0 3 rfl rfl (inb_in rfl) dL_law_2614 ?_
  refine lv_iload hx hb dL_law_2615 (lv_at hl 0 rfl) ?_
  refine lv_i2l (v := (y.1).toInt64) hx hb dL_law_2617 rfl ?_
  refine W.lcmp hx hb dL_law_2618 ?_
  refine lv_if_eq (tgt := 2624) hx hb dL_law_2619 (by decide) (fun c7 => ?_) (fun c7 => absurd (lg_eq (hv9.trans (congrArg Int32.toInt64 hu9))) c7)
  refine lv_goto (tgt := 3556) hx hb dL_law_2624 (by decide) ?_
  refine W.widen (k := cells + 17) (n := slots + 322) (by omega) (by omega) ?_
  exact kk9 hs1 fl1 _ _ _ H locs hI9 (lv_sub hl [2, 3, 4, 5, 6] rfl) hP hD hS
set_option maxHeartbeats 4000000 in
set_option maxRecDepth 100000 in
theorem lc_missingOf {p : Program} {l : Launch} {e : Env} {s : State} {m : MethodId} {below : List Frame} {meth : Method} {c : Code} {b L : Nat} {xs : Nat → Int32} {dC : Nat → ClassId} {dI : Nat → Nat → Nat} {cI cZ cS cL : ClassId} {A : Nat → Prop} {a am : Nat → Nat} {o : Nat} {Q : State → Prop} (X0 : LCx p l s m c b L xs dC dI cI cZ cS cL A) {Inv : Nat → (Nat → Option Mem) → Mem → Mem → Prop} (hSt : St_missingOf Inv) {n : Nat} (hn : n < 512) (hnL : 3 * n + 2 < L) (hL : L ≤ 1536) {hs : HS} {fl : Nat → Int64} {M K : Mem} (hI : Inv n (cts hs) M K) {ls : Array Slot} {H : Heap} {locs : List Loc} {cells slots : Nat} (hcs : cells + 17 ≤ 601024) (hss : slots + 322 ≤ 7293034) (hl : lv_has ls 9 [(0, .ref b), (1, .ref (a 0)), (2, .ref (am 0)), (3, .ref o), (4, .int (nI (3 * n)))]) (hP : va_P (dC, dI) vwCl (wLaw cI cZ cS cL hs o fl a M am K ++ RW cI cZ hs) H) (hD : va_D A (wLaw cI cZ cS cL hs o fl a M am K ++ RW cI cZ hs)) (hS : va_S A s.heap H locs) (kk9 : ∀ (hs' : HS) (fl' : Nat → Int64) (M' K' : Mem) (ls : Array Slot) (H : Heap) (locs : List Loc), Inv (n + 1) (cts hs') M' K' → lv_has ls 9 [(0, .ref b), (1, .ref (a 0)), (2, .ref (am 0)), (3, .ref o), (4, .int (nI (3 * n)))] → va_P (dC, dI) vwCl (wLaw cI cZ cS cL hs' o fl' a M' am K' ++ RW cI cZ hs') H → va_D A (wLaw cI cZ cS cL hs' o fl' a M' am K' ++ RW cI cZ hs') → va_S A s.heap H locs → W p l e room_1 s m #[Value.ref b] below meth c H locs (cells + 17) (slots + 322) Q (F0 m 3556 ls [])) : W p l e room_1 s m #[Value.ref b] below meth c H locs cells slots Q (F0 m 2627 ls []) := by
  obtain ⟨hx, hb, hml, hown, hts, hK, hNW, hEX, hNC, hA, hXs, hbl, hbA, hst⟩ := X0
  have hK8 : va_K (dC, dI) vwCl (tys8 cI cZ cS) s := hK.sub (tys' := tys8 cI cZ cS) [0, 1, 2] rfl
  have hK2 : va_K (dC, dI) vwCl [(cI, .int), (cZ, .boolean)] s := hK.sub (tys' := [(cI, .int), (cZ, .boolean)]) [0, 1] rfl
  obtain ⟨r, kk, y, hf8, hA9, hf9, h9k, hval, hI9⟩ := hSt n (cts hs) M K (xs (3 * n + 1)) hn hI
  refine lv_aload_n hx hb dL_law_2627 rfl (lv_at hl 1 rfl) ?_
  refine lv_aload_n hx hb dL_law_2628 rfl (lv_at hl 0 rfl) ?_
  refine lv_iload hx hb dL_law_2629 (lv_at hl 4 rfl) ?_
  refine lv_iconst (v := (1 : Int32)) hx hb dL_law_2631 (by decide) ?_
  refine lv_iadd hx hb dL_law_2632 ?_
  rw [show nI (3 * n) + (1 : Int32) = nI (3 * n + 1) from nI_add (3 * n) 1]
  refine va_sld hx hb hXs hbl hbA hS (vp_in_nI (by omega) (by omega)) dL_law_2633 ?_
  rw [nI_clamp (show 3 * n + 1 < 2 ^ 31 by omega)]
  refine lv_aload_n hx hb dL_law_2634 rfl (lv_at hl 3 rfl) ?_
  have hPc := hP.part (X := (wLaw cI cZ cS cL hs o fl a M am K)) (cx := (wL cI cZ cS cL (fS hs) (fG hs) o fl a M)) [0, 1, 2, 3, 4, 5, 6, 7, 8, 9, 10, 11, 12, 13, 14, 15, 16, 17, 18, 19, 20, 21, 22, 23, 24, 25, 26, 27, 28, 29, 30, 31, 32, 33, 34, 35, 36, 37, 38, 39, 40, 41, 42] rfl
  have hDc := hD.part (X := (wLaw cI cZ cS cL hs o fl a M am K)) (cx := (wL cI cZ cS cL (fS hs) (fG hs) o fl a M)) [0, 1, 2, 3, 4, 5, 6, 7, 8, 9, 10, 11, 12, 13, 14, 15, 16, 17, 18, 19, 20, 21, 22, 23, 24, 25, 26, 27, 28, 29, 30, 31, 32, 33, 34, 35, 36, 37, 38, 39, 40, 41, 42] (by decide) rfl
  have hFc := va_freeP (X := (wLaw cI cZ cS cL hs o fl a M am K)) (cx := (wL cI cZ cS cL (fS hs) (fG hs) o fl a M)) hD hS hA [0, 1, 2, 3, 4, 5, 6, 7, 8, 9, 10, 11, 12, 13, 14, 15, 16, 17, 18, 19, 20, 21, 22, 23, 24, 25, 26, 27, 28, 29, 30, 31, 32, 33, 34, 35, 36, 37, 38, 39, 40, 41, 42] rfl
  refine va_calli (vx_runSW (As := [.ref (a 0), .int ((xs (3 * n + 1))), .ref o]) (rest := []) ⟨hx, hb, hml, hown, hts⟩ (w_L_missingOf l hst dC dI cI cZ cS cL hs o fl a H.size M ((xs (3 * n + 1))) r kk hf8 hA9) (vx_cwSW 3 hts gL_law_L_missingOf rfl rfl rfl (by decide +kernel) ⟨Nat.le_of_ble_eq_true rfl, Nat.le_of_ble_eq_true rfl⟩) ⟨T9.blind, T9.pre hPc hK hDc hNW (hEX.at hS hFc) hNC⟩ rfl rfl hl.1 rfl (lv_room (Nat.le_of_ble_eq_true rfl)) dL_law_2635 ⟨by show cells + 1 ≤ 601024; omega, by show slots + 6 ≤ 7293034; omega⟩) hS (fun q _ h => hFc q h) hFc (fun rv u t H1 locs ht hvm hw hB hz1 hk1 hS => ?_)
  obtain ⟨hw1, hw2, hout⟩ := hw
  obtain ⟨hs1, fl1⟩ := u
  have hw2 : hs1 = hs := hw2
  rw [hw1]
  obtain ⟨hP1, hD1⟩ := hB
  rw [ht] at hP1
  obtain ⟨hP, hD⟩ := va_joinP (X := (wLaw cI cZ cS cL hs o fl a M am K)) (cx := (wL cI cZ cS cL (fS hs) (fG hs) o fl a M)) (wr := (wX9 cI cZ am K)) (rx := (wL cI cZ cS cL (fS hs1) (fG hs1) o fl1 a M)) hP hD [0, 1, 2, 3, 4, 5, 6, 7, 8, 9, 10, 11, 12, 13, 14, 15, 16, 17, 18, 19, 20, 21, 22, 23, 24, 25, 26, 27, 28, 29, 30, 31, 32, 33, 34, 35, 36, 37, 38, 39, 40, 41, 42] [43, 44, 45, 46, 47, 48, 49, 50, 51] rfl rfl (by decide) (by decide) hk1 hFc hP1 hD1
  have hP := hP.part (cx := (wLaw cI cZ cS cL hs1 o fl1 a M am K)) [9, 10, 11, 12, 13, 14, 15, 16, 17, 18, 19, 20, 21, 22, 23, 24, 25, 26, 27, 28, 29, 30, 31, 32, 33, 34, 35, 36, 37, 38, 39, 40, 41, 42, 43, 44, 45, 46, 47, 48, 49, 50, 51, 0, 1, 2, 3, 4, 5, 6, 7, 8] rfl
  have hD := hD.part (cx := (wLaw cI cZ cS cL hs1 o fl1 a M am K)) [9, 10, 11, 12, 13, 14, 15, 16, 17, 18, 19, 20, 21, 22, 23, 24, 25, 26, 27, 28, 29, 30, 31, 32, 33, 34, 35, 36, 37, 38, 39, 40, 41, 42, 43, 44, 45, 46, 47, 48, 49, 50, 51, 0, 1, 2, 3, 4, 5, 6, 7, 8] (by decide) rfl
  generalize H1 = H at hP hS ⊢
  rw [← hw2] at hI9
  refine lv_istore (lv' := [(5, .int kk), (0, .ref b), (1, .ref (a 0)), (2, .ref (am 0)), (3, .ref o), (4, .int (nI (3 * n)))]) hx hb dL_law_2638 hl (by decide) rfl (fun ls hl => ?_)
  refine lv_aload_n hx hb dL_law_2640 rfl (lv_at hl 3 rfl) ?_
  refine lv_aload_n hx hb dL_law_2641 rfl (lv_at hl 1 rfl) ?_
  refine lv_iload hx hb dL_law_2642 (lv_at hl 5 rfl) ?_
  refine lv_iconst (v := (1 : Int32)) hx hb dL_law_2644 (by decide) ?_
  refine lv_iadd hx hb dL_law_2645 ?_
  rw [show nI (3 * n) + (1 : Int32) = nI (3 * n + 1) from nI_add (3 * n) 1]
  refine va_sld hx hb hXs hbl hbA hS (vp_in_nI (by omega) (by omega)) dL_law_2646 ?_
  rw [nI_clamp (show 3 * n + 1 < 2 ^ 31 by omega)]
  have hPc := P_head (ws := (wLaw cI cZ cS cL hs1 o fl1 a M am K)) (ws' := (wX9 cI cZ am K)) hP [43, 44, 45, 46, 47, 48, 49, 50, 51] rfl
  have hDc := D_head (ws := (wLaw cI cZ cS cL hs1 o fl1 a M am K)) (ws' := (wX9 cI cZ am K)) hD [43, 44, 45, 46, 47, 48, 49, 50, 51] (by decide) rfl
  have hFc := va_free (wc := (wX9 cI cZ am K)) hD hS hA [43, 44, 45, 46, 47, 48, 49, 50, 51] rfl
  refine va_calli (va_runV (As := [.int ((xs (3 * n + 1)))]) (rest := []) ⟨hx, hb, hml, hown, hts⟩ (c_X9_missingOf l dC dI cI cZ am H.size K ((xs (3 * n + 1))) y hf9) (cwV 1 hts gL_law_X9_missingOf rfl rfl rfl (by decide +kernel) ⟨Nat.le_of_ble_eq_true rfl, Nat.le_of_ble_eq_true rfl⟩) ⟨WR.blind, va_recv hK hP (ci := 9) (q0 := 43) rfl rfl, WR.pre hPc hK2 hDc hNW⟩ rfl rfl hl.1 rfl (lv_room (Nat.le_of_ble_eq_true rfl)) dL_law_2647 ⟨by show _ + 0 ≤ 601024; omega, by show _ + 0 ≤ 7293034; omega⟩) hS (fun q _ h => hFc q h) hFc (fun rv u t H1 locs ht hvm hw hB hz1 hk1 hS => ?_)
  obtain ⟨hP1, hD1⟩ := hB
  rw [ht] at hP1
  rw [hw]
  obtain ⟨hP, hD⟩ := join_app (ws := (wLaw cI cZ cS cL hs1 o fl1 a M am K)) (wr := (wL cI cZ cS cL (fS hs1) (fG hs1) o fl1 a M)) (w1 := (wX9 cI cZ am (sr K 0 (y.2 0)))) hP hD [43, 44, 45, 46, 47, 48, 49, 50, 51] [0, 1, 2, 3, 4, 5, 6, 7, 8, 9, 10, 11, 12, 13, 14, 15, 16, 17, 18, 19, 20, 21, 22, 23, 24, 25, 26, 27, 28, 29, 30, 31, 32, 33, 34, 35, 36, 37, 38, 39, 40, 41, 42] rfl rfl (by decide) (by decide) hk1 hFc hP1 hD1
  have hP : va_P (dC, dI) vwCl ((wLaw cI cZ cS cL hs1 o fl1 a M am (sr K 0 (y.2 0))) ++ RW cI cZ hs1) H1 := hP
  have hD : va_D A ((wLaw cI cZ cS cL hs1 o fl1 a M am (sr K 0 (y.2 0))) ++ RW cI cZ hs1) := hD
  generalize H1 = H at hP hS ⊢
  refine lv_istore (lv' := [(6, .int y.1), (5, .int kk), (0, .ref b), (1, .ref (a 0)), (2, .ref (am 0)), (3, .ref o), (4, .int (nI (3 * n)))]) hx hb dL_law_2650 hl (by decide) rfl (fun ls hl => ?_)
  refine lv_aload_n hx hb dL_law_2652 rfl (lv_at hl 4 rfl) ?_
  have hPc := P_head (ws := (wLaw cI cZ cS cL hs1 o fl1 a M am (sr K 0 (y.2 0)))) (ws' := (wX9 cI cZ am (sr K 0 (y.2 0)))) hP [43, 44, 45, 46, 47, 48, 49, 50, 51] rfl
  refine cRO (W.runV (As := []) (rest := []) ⟨hx, hb, hml, hown, hts⟩ (c_X9_thrown l dC dI cI cZ am (sr K 0 (y.2 0)) ((sr K 0 (y.2 0)) 0 0) rfl) (cwV 0 hts gL_law_X9_thrown rfl rfl rfl (by decide +kernel) ⟨Nat.le_of_ble_eq_true rfl, Nat.le_of_ble_eq_true rfl⟩) ⟨RO.blind, va_recv hK hP (ci := 9) (q0 := 43) rfl rfl, RO.pre hPc hK2 hNW⟩ rfl rfl hl.1 rfl (lv_room (Nat.le_of_ble_eq_true rfl)) dL_law_2653 ⟨by show _ + 0 ≤ 601024; omega, by show _ + 0 ≤ 7293034; omega⟩) ?_
  refine lv_iload hx hb dL_law_2656 (lv_at hl 1 rfl) ?_
  refine lv_icmp_eq (tgt := 2663) hx hb dL_law_2658 (by decide) (fun c9 => ?_) (fun c9 => absurd h9k c9)
  refine lv_iload hx hb dL_law_2663 (lv_at hl 1 rfl) ?_
  refine lv_if_ne (tgt := 2680) hx hb dL_law_2665 (by decide) (fun c9 => ?_) (fun c9 => ?_)
  · refine lv_goto (tgt := 3556) hx hb dL_law_2680 (by decide) ?_
    refine W.widen (k := cells + 17) (n := slots + 322) (by omega) (by omega) ?_
    exact kk9 hs1 fl1 _ _ _ H locs hI9 (lv_sub hl [2, 3, 4, 5, 6] rfl) hP hD hS
  obtain ⟨u, hr9⟩ := Ans_z hA9 c9
  have hv9 := hout u hr9
  have hu9 := hval u hr9
  refine lv_aload_n hx hb dL_law_2668 rfl (lv_at hl 5 rfl) ?_
  refine lv_iconst (v := (0 : Int32)) hx hb dL_law_2669 (by decide) ?_
  refine va_lald (D := (dC, dI)) (f := fl1) hx hb hK hP 0 3 rfl rfl (inb_in rfl) dL_law_2670 ?_
  refine lv_iload hx hb dL_law_2671 (lv_at hl 0 rfl) ?_
  refine lv_i2l (v := (y.1).toInt64) hx hb dL_law_2673 rfl ?_
  refine W.lcmp hx hb dL_law_2674 ?_
  refine lv_if_eq (tgt := 2680) hx hb dL_law_2675 (by decide) (fun c7 => ?_) (fun c7 => absurd (lg_eq (hv9.trans (congrArg Int32.toInt64 hu9))) c7)
  refine lv_goto (tgt := 3556) hx hb dL_law_2680 (by decide) ?_
  refine W.widen (k := cells + 17) (n := slots + 322) (by omega) (by omega) ?_
  exact kk9 hs1 fl1 _ _ _ H locs hI9 (lv_sub hl [2, 3, 4, 5, 6] rfl) hP hD hS
set_option maxHeartbeats 4000000 in
set_option maxRecDepth 100000 in
theorem lc_shortKinds {p : Program} {l : Launch} {e : Env} {s : State} {m : MethodId} {below : List Frame} {meth : Method} {c : Code} {b L : Nat} {xs : Nat → Int32} {dC : Nat → ClassId} {dI : Nat → Nat → Nat} {cI cZ cS cL : ClassId} {A : Nat → Prop} {a am : Nat → Nat} {o : Nat} {Q : State → Prop} (X0 : LCx p l s m c b L xs dC dI cI cZ cS cL A) {Inv : Nat → (Nat → Option Mem) → Mem → Mem → Prop} (hSt : St_shortKinds Inv) {n : Nat} (hn : n < 512) (hnL : 3 * n + 2 < L) (hL : L ≤ 1536) {hs : HS} {fl : Nat → Int64} {M K : Mem} (hI : Inv n (cts hs) M K) {ls : Array Slot} {H : Heap} {locs : List Loc} {cells slots : Nat} (hcs : cells + 17 ≤ 601024) (hss : slots + 322 ≤ 7293034) (hl : lv_has ls 9 [(0, .ref b), (1, .ref (a 0)), (2, .ref (am 0)), (3, .ref o), (4, .int (nI (3 * n)))]) (hP : va_P (dC, dI) vwCl (wLaw cI cZ cS cL hs o fl a M am K ++ RW cI cZ hs) H) (hD : va_D A (wLaw cI cZ cS cL hs o fl a M am K ++ RW cI cZ hs)) (hS : va_S A s.heap H locs) (kk9 : ∀ (hs' : HS) (fl' : Nat → Int64) (M' K' : Mem) (ls : Array Slot) (H : Heap) (locs : List Loc), Inv (n + 1) (cts hs') M' K' → lv_has ls 9 [(0, .ref b), (1, .ref (a 0)), (2, .ref (am 0)), (3, .ref o), (4, .int (nI (3 * n)))] → va_P (dC, dI) vwCl (wLaw cI cZ cS cL hs' o fl' a M' am K' ++ RW cI cZ hs') H → va_D A (wLaw cI cZ cS cL hs' o fl' a M' am K' ++ RW cI cZ hs') → va_S A s.heap H locs → W p l e room_1 s m #[Value.ref b] below meth c H locs (cells + 17) (slots + 322) Q (F0 m 3556 ls [])) : W p l e room_1 s m #[Value.ref b] below meth c H locs cells slots Q (F0 m 2683 ls []) := by
  obtain ⟨hx, hb, hml, hown, hts, hK, hNW, hEX, hNC, hA, hXs, hbl, hbA, hst⟩ := X0
  have hK8 : va_K (dC, dI) vwCl (tys8 cI cZ cS) s := hK.sub (tys' := tys8 cI cZ cS) [0, 1, 2] rfl
  have hK2 : va_K (dC, dI) vwCl [(cI, .int), (cZ, .boolean)] s := hK.sub (tys' := [(cI, .int), (cZ, .boolean)]) [0, 1] rfl
  obtain ⟨z, y, hf8, hf9, hEq, hI9⟩ := hSt n (cts hs) M K hn hI
  refine lv_aload_n hx hb dL_law_2683 rfl (lv_at hl 1 rfl) ?_
  have hPc := P_head (ws := (wLaw cI cZ cS cL hs o fl a M am K)) (ws' := (wX8 cI cZ cS (fS hs) (fG hs) a M)) hP [1, 2, 3, 4, 5, 6, 7, 8, 9, 10, 11, 12, 13, 14, 15, 16, 17, 18, 19, 20, 21, 22, 23, 24, 25, 26, 27, 28, 29, 30, 31, 32, 33, 34, 35, 36, 37, 38, 39, 40, 41, 42] rfl
  refine cRO (W.runV (As := []) (rest := []) ⟨hx, hb, hml, hown, hts⟩ (c_X8_shortKinds l dC dI cI cZ cS (fS hs) (fG hs) a M (z) hf8) (cwV 0 hts gL_law_X8_shortKinds rfl rfl rfl (by decide +kernel) ⟨Nat.le_of_ble_eq_true rfl, Nat.le_of_ble_eq_true rfl⟩) ⟨RO8.blind, va_recv hK hP (ci := 8) (q0 := 1) rfl rfl, RO8.pre hPc hK8 hNW⟩ rfl rfl hl.1 rfl (lv_room (Nat.le_of_ble_eq_true rfl)) dL_law_2684 ⟨by show cells + 0 ≤ 601024; omega, by show slots + 0 ≤ 7293034; omega⟩) ?_
  refine lv_aload_n hx hb dL_law_2687 rfl (lv_at hl 2 rfl) ?_
  have hPc := P_head (ws := (wLaw cI cZ cS cL hs o fl a M am K)) (ws' := (wX9 cI cZ am K)) hP [43, 44, 45, 46, 47, 48, 49, 50, 51] rfl
  have hDc := D_head (ws := (wLaw cI cZ cS cL hs o fl a M am K)) (ws' := (wX9 cI cZ am K)) hD [43, 44, 45, 46, 47, 48, 49, 50, 51] (by decide) rfl
  have hFc := va_free (wc := (wX9 cI cZ am K)) hD hS hA [43, 44, 45, 46, 47, 48, 49, 50, 51] rfl
  refine va_calli (va_runV (As := []) (rest := [.int z]) ⟨hx, hb, hml, hown, hts⟩ (c_X9_shortKinds l dC dI cI cZ am H.size K y hf9) (cwV 0 hts gL_law_X9_shortKinds rfl rfl rfl (by decide +kernel) ⟨Nat.le_of_ble_eq_true rfl, Nat.le_of_ble_eq_true rfl⟩) ⟨WR.blind, va_recv hK hP (ci := 9) (q0 := 43) rfl rfl, WR.pre hPc hK2 hDc hNW⟩ rfl rfl hl.1 rfl (lv_room (Nat.le_of_ble_eq_true rfl)) dL_law_2688 ⟨by show _ + 0 ≤ 601024; omega, by show _ + 0 ≤ 7293034; omega⟩) hS (fun q _ h => hFc q h) hFc (fun rv u t H1 locs ht hvm hw hB hz1 hk1 hS => ?_)
  obtain ⟨hP1, hD1⟩ := hB
  rw [ht] at hP1
  rw [hw]
  obtain ⟨hP, hD⟩ := join_app (ws := (wLaw cI cZ cS cL hs o fl a M am K)) (wr := (wL cI cZ cS cL (fS hs) (fG hs) o fl a M)) (w1 := (wX9 cI cZ am (sr K 0 (y.2 0)))) hP hD [43, 44, 45, 46, 47, 48, 49, 50, 51] [0, 1, 2, 3, 4, 5, 6, 7, 8, 9, 10, 11, 12, 13, 14, 15, 16, 17, 18, 19, 20, 21, 22, 23, 24, 25, 26, 27, 28, 29, 30, 31, 32, 33, 34, 35, 36, 37, 38, 39, 40, 41, 42] rfl rfl (by decide) (by decide) hk1 hFc hP1 hD1
  have hP : va_P (dC, dI) vwCl ((wLaw cI cZ cS cL hs o fl a M am (sr K 0 (y.2 0))) ++ RW cI cZ hs) H1 := hP
  have hD : va_D A ((wLaw cI cZ cS cL hs o fl a M am (sr K 0 (y.2 0))) ++ RW cI cZ hs) := hD
  generalize H1 = H at hP hS ⊢
  refine lv_icmp_eq (tgt := 3556) hx hb dL_law_2691 (by decide) (fun c9 => ?_) (fun c9 => absurd hEq c9)
  refine W.widen (k := cells + 17) (n := slots + 322) (by omega) (by omega) ?_
  exact kk9 hs fl _ _ _ H locs hI9 (lv_sub hl [0, 1, 2, 3, 4] rfl) hP hD hS
set_option maxHeartbeats 4000000 in
set_option maxRecDepth 100000 in
theorem lc_orders {p : Program} {l : Launch} {e : Env} {s : State} {m : MethodId} {below : List Frame} {meth : Method} {c : Code} {b L : Nat} {xs : Nat → Int32} {dC : Nat → ClassId} {dI : Nat → Nat → Nat} {cI cZ cS cL : ClassId} {A : Nat → Prop} {a am : Nat → Nat} {o : Nat} {Q : State → Prop} (X0 : LCx p l s m c b L xs dC dI cI cZ cS cL A) {Inv : Nat → (Nat → Option Mem) → Mem → Mem → Prop} (hSt : St_orders Inv) {n : Nat} (hn : n < 512) (hnL : 3 * n + 2 < L) (hL : L ≤ 1536) {hs : HS} {fl : Nat → Int64} {M K : Mem} (hI : Inv n (cts hs) M K) {ls : Array Slot} {H : Heap} {locs : List Loc} {cells slots : Nat} (hcs : cells + 17 ≤ 601024) (hss : slots + 322 ≤ 7293034) (hl : lv_has ls 9 [(0, .ref b), (1, .ref (a 0)), (2, .ref (am 0)), (3, .ref o), (4, .int (nI (3 * n)))]) (hP : va_P (dC, dI) vwCl (wLaw cI cZ cS cL hs o fl a M am K ++ RW cI cZ hs) H) (hD : va_D A (wLaw cI cZ cS cL hs o fl a M am K ++ RW cI cZ hs)) (hS : va_S A s.heap H locs) (kk9 : ∀ (hs' : HS) (fl' : Nat → Int64) (M' K' : Mem) (ls : Array Slot) (H : Heap) (locs : List Loc), Inv (n + 1) (cts hs') M' K' → lv_has ls 9 [(0, .ref b), (1, .ref (a 0)), (2, .ref (am 0)), (3, .ref o), (4, .int (nI (3 * n)))] → va_P (dC, dI) vwCl (wLaw cI cZ cS cL hs' o fl' a M' am K' ++ RW cI cZ hs') H → va_D A (wLaw cI cZ cS cL hs' o fl' a M' am K' ++ RW cI cZ hs') → va_S A s.heap H locs → W p l e room_1 s m #[Value.ref b] below meth c H locs (cells + 17) (slots + 322) Q (F0 m 3556 ls [])) : W p l e room_1 s m #[Value.ref b] below meth c H locs cells slots Q (F0 m 2696 ls []) := by
  obtain ⟨hx, hb, hml, hown, hts, hK, hNW, hEX, hNC, hA, hXs, hbl, hbA, hst⟩ := X0
  have hK8 : va_K (dC, dI) vwCl (tys8 cI cZ cS) s := hK.sub (tys' := tys8 cI cZ cS) [0, 1, 2] rfl
  have hK2 : va_K (dC, dI) vwCl [(cI, .int), (cZ, .boolean)] s := hK.sub (tys' := [(cI, .int), (cZ, .boolean)]) [0, 1] rfl
  obtain ⟨z, y, hf8, hf9, hEq, hI9⟩ := hSt n (cts hs) M K hn hI
  refine lv_aload_n hx hb dL_law_2696 rfl (lv_at hl 1 rfl) ?_
  have hPc := P_head (ws := (wLaw cI cZ cS cL hs o fl a M am K)) (ws' := (wX8 cI cZ cS (fS hs) (fG hs) a M)) hP [1, 2, 3, 4, 5, 6, 7, 8, 9, 10, 11, 12, 13, 14, 15, 16, 17, 18, 19, 20, 21, 22, 23, 24, 25, 26, 27, 28, 29, 30, 31, 32, 33, 34, 35, 36, 37, 38, 39, 40, 41, 42] rfl
  refine cRO (W.runV (As := []) (rest := []) ⟨hx, hb, hml, hown, hts⟩ (c_X8_orders l dC dI cI cZ cS (fS hs) (fG hs) a M (z) hf8) (cwV 0 hts gL_law_X8_orders rfl rfl rfl (by decide +kernel) ⟨Nat.le_of_ble_eq_true rfl, Nat.le_of_ble_eq_true rfl⟩) ⟨RO8.blind, va_recv hK hP (ci := 8) (q0 := 1) rfl rfl, RO8.pre hPc hK8 hNW⟩ rfl rfl hl.1 rfl (lv_room (Nat.le_of_ble_eq_true rfl)) dL_law_2697 ⟨by show cells + 0 ≤ 601024; omega, by show slots + 0 ≤ 7293034; omega⟩) ?_
  refine lv_aload_n hx hb dL_law_2700 rfl (lv_at hl 2 rfl) ?_
  have hPc := P_head (ws := (wLaw cI cZ cS cL hs o fl a M am K)) (ws' := (wX9 cI cZ am K)) hP [43, 44, 45, 46, 47, 48, 49, 50, 51] rfl
  have hDc := D_head (ws := (wLaw cI cZ cS cL hs o fl a M am K)) (ws' := (wX9 cI cZ am K)) hD [43, 44, 45, 46, 47, 48, 49, 50, 51] (by decide) rfl
  have hFc := va_free (wc := (wX9 cI cZ am K)) hD hS hA [43, 44, 45, 46, 47, 48, 49, 50, 51] rfl
  refine va_calli (va_runV (As := []) (rest := [.int z]) ⟨hx, hb, hml, hown, hts⟩ (c_X9_orders l dC dI cI cZ am H.size K y hf9) (cwV 0 hts gL_law_X9_orders rfl rfl rfl (by decide +kernel) ⟨Nat.le_of_ble_eq_true rfl, Nat.le_of_ble_eq_true rfl⟩) ⟨WR.blind, va_recv hK hP (ci := 9) (q0 := 43) rfl rfl, WR.pre hPc hK2 hDc hNW⟩ rfl rfl hl.1 rfl (lv_room (Nat.le_of_ble_eq_true rfl)) dL_law_2701 ⟨by show _ + 0 ≤ 601024; omega, by show _ + 0 ≤ 7293034; omega⟩) hS (fun q _ h => hFc q h) hFc (fun rv u t H1 locs ht hvm hw hB hz1 hk1 hS => ?_)
  obtain ⟨hP1, hD1⟩ := hB
  rw [ht] at hP1
  rw [hw]
  obtain ⟨hP, hD⟩ := join_app (ws := (wLaw cI cZ cS cL hs o fl a M am K)) (wr := (wL cI cZ cS cL (fS hs) (fG hs) o fl a M)) (w1 := (wX9 cI cZ am (sr K 0 (y.2 0)))) hP hD [43, 44, 45, 46, 47, 48, 49, 50, 51] [0, 1, 2, 3, 4, 5, 6, 7, 8, 9, 10, 11, 12, 13, 14, 15, 16, 17, 18, 19, 20, 21, 22, 23, 24, 25, 26, 27, 28, 29, 30, 31, 32, 33, 34, 35, 36, 37, 38, 39, 40, 41, 42] rfl rfl (by decide) (by decide) hk1 hFc hP1 hD1
  have hP : va_P (dC, dI) vwCl ((wLaw cI cZ cS cL hs o fl a M am (sr K 0 (y.2 0))) ++ RW cI cZ hs) H1 := hP
  have hD : va_D A ((wLaw cI cZ cS cL hs o fl a M am (sr K 0 (y.2 0))) ++ RW cI cZ hs) := hD
  generalize H1 = H at hP hS ⊢
  refine lv_icmp_eq (tgt := 3556) hx hb dL_law_2704 (by decide) (fun c9 => ?_) (fun c9 => absurd hEq c9)
  refine W.widen (k := cells + 17) (n := slots + 322) (by omega) (by omega) ?_
  exact kk9 hs fl _ _ _ H locs hI9 (lv_sub hl [0, 1, 2, 3, 4] rfl) hP hD hS
set_option maxHeartbeats 4000000 in
set_option maxRecDepth 100000 in
theorem lc_wanted {p : Program} {l : Launch} {e : Env} {s : State} {m : MethodId} {below : List Frame} {meth : Method} {c : Code} {b L : Nat} {xs : Nat → Int32} {dC : Nat → ClassId} {dI : Nat → Nat → Nat} {cI cZ cS cL : ClassId} {A : Nat → Prop} {a am : Nat → Nat} {o : Nat} {Q : State → Prop} (X0 : LCx p l s m c b L xs dC dI cI cZ cS cL A) {Inv : Nat → (Nat → Option Mem) → Mem → Mem → Prop} (hSt : St_wanted Inv) {n : Nat} (hn : n < 512) (hnL : 3 * n + 2 < L) (hL : L ≤ 1536) {hs : HS} {fl : Nat → Int64} {M K : Mem} (hI : Inv n (cts hs) M K) {ls : Array Slot} {H : Heap} {locs : List Loc} {cells slots : Nat} (hcs : cells + 17 ≤ 601024) (hss : slots + 322 ≤ 7293034) (hl : lv_has ls 9 [(0, .ref b), (1, .ref (a 0)), (2, .ref (am 0)), (3, .ref o), (4, .int (nI (3 * n)))]) (hP : va_P (dC, dI) vwCl (wLaw cI cZ cS cL hs o fl a M am K ++ RW cI cZ hs) H) (hD : va_D A (wLaw cI cZ cS cL hs o fl a M am K ++ RW cI cZ hs)) (hS : va_S A s.heap H locs) (kk9 : ∀ (hs' : HS) (fl' : Nat → Int64) (M' K' : Mem) (ls : Array Slot) (H : Heap) (locs : List Loc), Inv (n + 1) (cts hs') M' K' → lv_has ls 9 [(0, .ref b), (1, .ref (a 0)), (2, .ref (am 0)), (3, .ref o), (4, .int (nI (3 * n)))] → va_P (dC, dI) vwCl (wLaw cI cZ cS cL hs' o fl' a M' am K' ++ RW cI cZ hs') H → va_D A (wLaw cI cZ cS cL hs' o fl' a M' am K' ++ RW cI cZ hs') → va_S A s.heap H locs → W p l e room_1 s m #[Value.ref b] below meth c H locs (cells + 17) (slots + 322) Q (F0 m 3556 ls [])) : W p l e room_1 s m #[Value.ref b] below meth c H locs cells slots Q (F0 m 2709 ls []) := by
  obtain ⟨hx, hb, hml, hown, hts, hK, hNW, hEX, hNC, hA, hXs, hbl, hbA, hst⟩ := X0
  have hK8 : va_K (dC, dI) vwCl (tys8 cI cZ cS) s := hK.sub (tys' := tys8 cI cZ cS) [0, 1, 2] rfl
  have hK2 : va_K (dC, dI) vwCl [(cI, .int), (cZ, .boolean)] s := hK.sub (tys' := [(cI, .int), (cZ, .boolean)]) [0, 1] rfl
  obtain ⟨r, kk, y, hf8, hA9, hf9, h9k, hval, hI9⟩ := hSt n (cts hs) M K (xs (3 * n + 1)) (xs (3 * n + 2)) hn hI
  refine lv_aload_n hx hb dL_law_2709 rfl (lv_at hl 1 rfl) ?_
  refine lv_aload_n hx hb dL_law_2710 rfl (lv_at hl 0 rfl) ?_
  refine lv_iload hx hb dL_law_2711 (lv_at hl 4 rfl) ?_
  refine lv_iconst (v := (1 : Int32)) hx hb dL_law_2713 (by decide) ?_
  refine lv_iadd hx hb dL_law_2714 ?_
  rw [show nI (3 * n) + (1 : Int32) = nI (3 * n + 1) from nI_add (3 * n) 1]
  refine va_sld hx hb hXs hbl hbA hS (vp_in_nI (by omega) (by omega)) dL_law_2715 ?_
  rw [nI_clamp (show 3 * n + 1 < 2 ^ 31 by omega)]
  refine lv_aload_n hx hb dL_law_2716 rfl (lv_at hl 0 rfl) ?_
  refine lv_iload hx hb dL_law_2717 (lv_at hl 4 rfl) ?_
  refine lv_iconst (v := (2 : Int32)) hx hb dL_law_2719 (by decide) ?_
  refine lv_iadd hx hb dL_law_2720 ?_
  rw [show nI (3 * n) + (2 : Int32) = nI (3 * n + 2) from nI_add (3 * n) 2]
  refine va_sld hx hb hXs hbl hbA hS (vp_in_nI (by omega) (by omega)) dL_law_2721 ?_
  rw [nI_clamp (show 3 * n + 2 < 2 ^ 31 by omega)]
  refine lv_aload_n hx hb dL_law_2722 rfl (lv_at hl 3 rfl) ?_
  have hPc := hP.part (X := (wLaw cI cZ cS cL hs o fl a M am K)) (cx := (wL cI cZ cS cL (fS hs) (fG hs) o fl a M)) [0, 1, 2, 3, 4, 5, 6, 7, 8, 9, 10, 11, 12, 13, 14, 15, 16, 17, 18, 19, 20, 21, 22, 23, 24, 25, 26, 27, 28, 29, 30, 31, 32, 33, 34, 35, 36, 37, 38, 39, 40, 41, 42] rfl
  have hDc := hD.part (X := (wLaw cI cZ cS cL hs o fl a M am K)) (cx := (wL cI cZ cS cL (fS hs) (fG hs) o fl a M)) [0, 1, 2, 3, 4, 5, 6, 7, 8, 9, 10, 11, 12, 13, 14, 15, 16, 17, 18, 19, 20, 21, 22, 23, 24, 25, 26, 27, 28, 29, 30, 31, 32, 33, 34, 35, 36, 37, 38, 39, 40, 41, 42] (by decide) rfl
  have hFc := va_freeP (X := (wLaw cI cZ cS cL hs o fl a M am K)) (cx := (wL cI cZ cS cL (fS hs) (fG hs) o fl a M)) hD hS hA [0, 1, 2, 3, 4, 5, 6, 7, 8, 9, 10, 11, 12, 13, 14, 15, 16, 17, 18, 19, 20, 21, 22, 23, 24, 25, 26, 27, 28, 29, 30, 31, 32, 33, 34, 35, 36, 37, 38, 39, 40, 41, 42] rfl
  refine va_calli (vx_runSW (As := [.ref (a 0), .int ((xs (3 * n + 1))), .int ((xs (3 * n + 2))), .ref o]) (rest := []) ⟨hx, hb, hml, hown, hts⟩ (w_L_wanted l hst dC dI cI cZ cS cL hs o fl a H.size M ((xs (3 * n + 1))) ((xs (3 * n + 2))) r kk hf8 hA9) (vx_cwSW 4 hts gL_law_L_wanted rfl rfl rfl (by decide +kernel) ⟨Nat.le_of_ble_eq_true rfl, Nat.le_of_ble_eq_true rfl⟩) ⟨T9.blind, T9.pre hPc hK hDc hNW (hEX.at hS hFc) hNC⟩ rfl rfl hl.1 rfl (lv_room (Nat.le_of_ble_eq_true rfl)) dL_law_2723 ⟨by show cells + 1 ≤ 601024; omega, by show slots + 6 ≤ 7293034; omega⟩) hS (fun q _ h => hFc q h) hFc (fun rv u t H1 locs ht hvm hw hB hz1 hk1 hS => ?_)
  obtain ⟨hw1, hw2, hout⟩ := hw
  obtain ⟨hs1, fl1⟩ := u
  have hw2 : hs1 = hs := hw2
  rw [hw1]
  obtain ⟨hP1, hD1⟩ := hB
  rw [ht] at hP1
  obtain ⟨hP, hD⟩ := va_joinP (X := (wLaw cI cZ cS cL hs o fl a M am K)) (cx := (wL cI cZ cS cL (fS hs) (fG hs) o fl a M)) (wr := (wX9 cI cZ am K)) (rx := (wL cI cZ cS cL (fS hs1) (fG hs1) o fl1 a M)) hP hD [0, 1, 2, 3, 4, 5, 6, 7, 8, 9, 10, 11, 12, 13, 14, 15, 16, 17, 18, 19, 20, 21, 22, 23, 24, 25, 26, 27, 28, 29, 30, 31, 32, 33, 34, 35, 36, 37, 38, 39, 40, 41, 42] [43, 44, 45, 46, 47, 48, 49, 50, 51] rfl rfl (by decide) (by decide) hk1 hFc hP1 hD1
  have hP := hP.part (cx := (wLaw cI cZ cS cL hs1 o fl1 a M am K)) [9, 10, 11, 12, 13, 14, 15, 16, 17, 18, 19, 20, 21, 22, 23, 24, 25, 26, 27, 28, 29, 30, 31, 32, 33, 34, 35, 36, 37, 38, 39, 40, 41, 42, 43, 44, 45, 46, 47, 48, 49, 50, 51, 0, 1, 2, 3, 4, 5, 6, 7, 8] rfl
  have hD := hD.part (cx := (wLaw cI cZ cS cL hs1 o fl1 a M am K)) [9, 10, 11, 12, 13, 14, 15, 16, 17, 18, 19, 20, 21, 22, 23, 24, 25, 26, 27, 28, 29, 30, 31, 32, 33, 34, 35, 36, 37, 38, 39, 40, 41, 42, 43, 44, 45, 46, 47, 48, 49, 50, 51, 0, 1, 2, 3, 4, 5, 6, 7, 8] (by decide) rfl
  generalize H1 = H at hP hS ⊢
  rw [← hw2] at hI9
  refine lv_istore (lv' := [(5, .int kk), (0, .ref b), (1, .ref (a 0)), (2, .ref (am 0)), (3, .ref o), (4, .int (nI (3 * n)))]) hx hb dL_law_2726 hl (by decide) rfl (fun ls hl => ?_)
  refine lv_aload_n hx hb dL_law_2728 rfl (lv_at hl 3 rfl) ?_
  refine lv_aload_n hx hb dL_law_2729 rfl (lv_at hl 1 rfl) ?_
  refine lv_iload hx hb dL_law_2730 (lv_at hl 5 rfl) ?_
  refine lv_iconst (v := (1 : Int32)) hx hb dL_law_2732 (by decide) ?_
  refine lv_iadd hx hb dL_law_2733 ?_
  rw [show nI (3 * n) + (1 : Int32) = nI (3 * n + 1) from nI_add (3 * n) 1]
  refine va_sld hx hb hXs hbl hbA hS (vp_in_nI (by omega) (by omega)) dL_law_2734 ?_
  rw [nI_clamp (show 3 * n + 1 < 2 ^ 31 by omega)]
  refine lv_aload_n hx hb dL_law_2735 rfl (lv_at hl 1 rfl) ?_
  refine lv_iload hx hb dL_law_2736 (lv_at hl 5 rfl) ?_
  refine lv_iconst (v := (2 : Int32)) hx hb dL_law_2738 (by decide) ?_
  refine lv_iadd hx hb dL_law_2739 ?_
  rw [show nI (3 * n) + (2 : Int32) = nI (3 * n + 2) from nI_add (3 * n) 2]
  refine va_sld hx hb hXs hbl hbA hS (vp_in_nI (by omega) (by omega)) dL_law_2740 ?_
  rw [nI_clamp (show 3 * n + 2 < 2 ^ 31 by omega)]
  have hPc := P_head (ws := (wLaw cI cZ cS cL hs1 o fl1 a M am K)) (ws' := (wX9 cI cZ am K)) hP [43, 44, 45, 46, 47, 48, 49, 50, 51] rfl
  have hDc := D_head (ws := (wLaw cI cZ cS cL hs1 o fl1 a M am K)) (ws' := (wX9 cI cZ am K)) hD [43, 44, 45, 46, 47, 48, 49, 50, 51] (by decide) rfl
  have hFc := va_free (wc := (wX9 cI cZ am K)) hD hS hA [43, 44, 45, 46, 47, 48, 49, 50, 51] rfl
  refine va_calli (va_runV (As := [.int ((xs (3 * n + 1))), .int ((xs (3 * n + 2)))]) (rest := []) ⟨hx, hb, hml, hown, hts⟩ (c_X9_wanted l dC dI cI cZ am H.size K ((xs (3 * n + 1))) ((xs (3 * n + 2))) y hf9) (cwV 2 hts gL_law_X9_wanted rfl rfl rfl (by decide +kernel) ⟨Nat.le_of_ble_eq_true rfl, Nat.le_of_ble_eq_true rfl⟩) ⟨WR.blind, va_recv hK hP (ci := 9) (q0 := 43) rfl rfl, WR.pre hPc hK2 hDc hNW⟩ rfl rfl hl.1 rfl (lv_room (Nat.le_of_ble_eq_true rfl)) dL_law_2741 ⟨by show _ + 0 ≤ 601024; omega, by show _ + 0 ≤ 7293034; omega⟩) hS (fun q _ h => hFc q h) hFc (fun rv u t H1 locs ht hvm hw hB hz1 hk1 hS => ?_)
  obtain ⟨hP1, hD1⟩ := hB
  rw [ht] at hP1
  rw [hw]
  obtain ⟨hP, hD⟩ := join_app (ws := (wLaw cI cZ cS cL hs1 o fl1 a M am K)) (wr := (wL cI cZ cS cL (fS hs1) (fG hs1) o fl1 a M)) (w1 := (wX9 cI cZ am (sr K 0 (y.2 0)))) hP hD [43, 44, 45, 46, 47, 48, 49, 50, 51] [0, 1, 2, 3, 4, 5, 6, 7, 8, 9, 10, 11, 12, 13, 14, 15, 16, 17, 18, 19, 20, 21, 22, 23, 24, 25, 26, 27, 28, 29, 30, 31, 32, 33, 34, 35, 36, 37, 38, 39, 40, 41, 42] rfl rfl (by decide) (by decide) hk1 hFc hP1 hD1
  have hP : va_P (dC, dI) vwCl ((wLaw cI cZ cS cL hs1 o fl1 a M am (sr K 0 (y.2 0))) ++ RW cI cZ hs1) H1 := hP
  have hD : va_D A ((wLaw cI cZ cS cL hs1 o fl1 a M am (sr K 0 (y.2 0))) ++ RW cI cZ hs1) := hD
  generalize H1 = H at hP hS ⊢
  refine lv_istore (lv' := [(6, .int y.1), (5, .int kk), (0, .ref b), (1, .ref (a 0)), (2, .ref (am 0)), (3, .ref o), (4, .int (nI (3 * n)))]) hx hb dL_law_2744 hl (by decide) rfl (fun ls hl => ?_)
  refine lv_aload_n hx hb dL_law_2746 rfl (lv_at hl 4 rfl) ?_
  have hPc := P_head (ws := (wLaw cI cZ cS cL hs1 o fl1 a M am (sr K 0 (y.2 0)))) (ws' := (wX9 cI cZ am (sr K 0 (y.2 0)))) hP [43, 44, 45, 46, 47, 48, 49, 50, 51] rfl
  refine cRO (W.runV (As := []) (rest := []) ⟨hx, hb, hml, hown, hts⟩ (c_X9_thrown l dC dI cI cZ am (sr K 0 (y.2 0)) ((sr K 0 (y.2 0)) 0 0) rfl) (cwV 0 hts gL_law_X9_thrown rfl rfl rfl (by decide +kernel) ⟨Nat.le_of_ble_eq_true rfl, Nat.le_of_ble_eq_true rfl⟩) ⟨RO.blind, va_recv hK hP (ci := 9) (q0 := 43) rfl rfl, RO.pre hPc hK2 hNW⟩ rfl rfl hl.1 rfl (lv_room (Nat.le_of_ble_eq_true rfl)) dL_law_2747 ⟨by show _ + 0 ≤ 601024; omega, by show _ + 0 ≤ 7293034; omega⟩) ?_
  refine lv_iload hx hb dL_law_2750 (lv_at hl 1 rfl) ?_
  refine lv_icmp_eq (tgt := 2757) hx hb dL_law_2752 (by decide) (fun c9 => ?_) (fun c9 => absurd h9k c9)
  refine lv_iload hx hb dL_law_2757 (lv_at hl 1 rfl) ?_
  refine lv_if_ne (tgt := 2774) hx hb dL_law_2759 (by decide) (fun c9 => ?_) (fun c9 => ?_)
  · refine lv_goto (tgt := 3556) hx hb dL_law_2774 (by decide) ?_
    refine W.widen (k := cells + 17) (n := slots + 322) (by omega) (by omega) ?_
    exact kk9 hs1 fl1 _ _ _ H locs hI9 (lv_sub hl [2, 3, 4, 5, 6] rfl) hP hD hS
  obtain ⟨u, hr9⟩ := Ans_z hA9 c9
  have hv9 := hout u hr9
  have hu9 := hval u hr9
  refine lv_aload_n hx hb dL_law_2762 rfl (lv_at hl 5 rfl) ?_
  refine lv_iconst (v := (0 : Int32)) hx hb dL_law_2763 (by decide) ?_
  refine va_lald (D := (dC, dI)) (f := fl1) hx hb hK hP 0 3 rfl rfl (inb_in rfl) dL_law_2764 ?_
  refine lv_iload hx hb dL_law_2765 (lv_at hl 0 rfl) ?_
  refine lv_i2l (v := (y.1).toInt64) hx hb dL_law_2767 rfl ?_
  refine W.lcmp hx hb dL_law_2768 ?_
  refine lv_if_eq (tgt := 2774) hx hb dL_law_2769 (by decide) (fun c7 => ?_) (fun c7 => absurd (lg_eq (hv9.trans (congrArg Int32.toInt64 hu9))) c7)
  refine lv_goto (tgt := 3556) hx hb dL_law_2774 (by decide) ?_
  refine W.widen (k := cells + 17) (n := slots + 322) (by omega) (by omega) ?_
  exact kk9 hs1 fl1 _ _ _ H locs hI9 (lv_sub hl [2, 3, 4, 5, 6] rfl) hP hD hS
set_option maxHeartbeats 4000000 in
set_option maxRecDepth 100000 in
theorem lc_thingsOf {p : Program} {l : Launch} {e : Env} {s : State} {m : MethodId} {below : List Frame} {meth : Method} {c : Code} {b L : Nat} {xs : Nat → Int32} {dC : Nat → ClassId} {dI : Nat → Nat → Nat} {cI cZ cS cL : ClassId} {A : Nat → Prop} {a am : Nat → Nat} {o : Nat} {Q : State → Prop} (X0 : LCx p l s m c b L xs dC dI cI cZ cS cL A) {Inv : Nat → (Nat → Option Mem) → Mem → Mem → Prop} (hSt : St_thingsOf Inv) {n : Nat} (hn : n < 512) (hnL : 3 * n + 2 < L) (hL : L ≤ 1536) {hs : HS} {fl : Nat → Int64} {M K : Mem} (hI : Inv n (cts hs) M K) {ls : Array Slot} {H : Heap} {locs : List Loc} {cells slots : Nat} (hcs : cells + 17 ≤ 601024) (hss : slots + 322 ≤ 7293034) (hl : lv_has ls 9 [(0, .ref b), (1, .ref (a 0)), (2, .ref (am 0)), (3, .ref o), (4, .int (nI (3 * n)))]) (hP : va_P (dC, dI) vwCl (wLaw cI cZ cS cL hs o fl a M am K ++ RW cI cZ hs) H) (hD : va_D A (wLaw cI cZ cS cL hs o fl a M am K ++ RW cI cZ hs)) (hS : va_S A s.heap H locs) (kk9 : ∀ (hs' : HS) (fl' : Nat → Int64) (M' K' : Mem) (ls : Array Slot) (H : Heap) (locs : List Loc), Inv (n + 1) (cts hs') M' K' → lv_has ls 9 [(0, .ref b), (1, .ref (a 0)), (2, .ref (am 0)), (3, .ref o), (4, .int (nI (3 * n)))] → va_P (dC, dI) vwCl (wLaw cI cZ cS cL hs' o fl' a M' am K' ++ RW cI cZ hs') H → va_D A (wLaw cI cZ cS cL hs' o fl' a M' am K' ++ RW cI cZ hs') → va_S A s.heap H locs → W p l e room_1 s m #[Value.ref b] below meth c H locs (cells + 17) (slots + 322) Q (F0 m 3556 ls [])) : W p l e room_1 s m #[Value.ref b] below meth c H locs cells slots Q (F0 m 2777 ls []) := by
  obtain ⟨hx, hb, hml, hown, hts, hK, hNW, hEX, hNC, hA, hXs, hbl, hbA, hst⟩ := X0
  have hK8 : va_K (dC, dI) vwCl (tys8 cI cZ cS) s := hK.sub (tys' := tys8 cI cZ cS) [0, 1, 2] rfl
  have hK2 : va_K (dC, dI) vwCl [(cI, .int), (cZ, .boolean)] s := hK.sub (tys' := [(cI, .int), (cZ, .boolean)]) [0, 1] rfl
  obtain ⟨r, kk, y, hf8, hA9, hf9, h9k, hval, hI9⟩ := hSt n (cts hs) M K (xs (3 * n + 1)) hn hI
  refine lv_aload_n hx hb dL_law_2777 rfl (lv_at hl 1 rfl) ?_
  refine lv_aload_n hx hb dL_law_2778 rfl (lv_at hl 0 rfl) ?_
  refine lv_iload hx hb dL_law_2779 (lv_at hl 4 rfl) ?_
  refine lv_iconst (v := (1 : Int32)) hx hb dL_law_2781 (by decide) ?_
  refine lv_iadd hx hb dL_law_2782 ?_
  rw [show nI (3 * n) + (1 : Int32) = nI (3 * n + 1) from nI_add (3 * n) 1]
  refine va_sld hx hb hXs hbl hbA hS (vp_in_nI (by omega) (by omega)) dL_law_2783 ?_
  rw [nI_clamp (show 3 * n + 1 < 2 ^ 31 by omega)]
  refine lv_aload_n hx hb dL_law_2784 rfl (lv_at hl 3 rfl) ?_
  have hPc := hP.part (X := (wLaw cI cZ cS cL hs o fl a M am K)) (cx := (wL cI cZ cS cL (fS hs) (fG hs) o fl a M)) [0, 1, 2, 3, 4, 5, 6, 7, 8, 9, 10, 11, 12, 13, 14, 15, 16, 17, 18, 19, 20, 21, 22, 23, 24, 25, 26, 27, 28, 29, 30, 31, 32, 33, 34, 35, 36, 37, 38, 39, 40, 41, 42] rfl
  have hDc := hD.part (X := (wLaw cI cZ cS cL hs o fl a M am K)) (cx := (wL cI cZ cS cL (fS hs) (fG hs) o fl a M)) [0, 1, 2, 3, 4, 5, 6, 7, 8, 9, 10, 11, 12, 13, 14, 15, 16, 17, 18, 19, 20, 21, 22, 23, 24, 25, 26, 27, 28, 29, 30, 31, 32, 33, 34, 35, 36, 37, 38, 39, 40, 41, 42] (by decide) rfl
  have hFc := va_freeP (X := (wLaw cI cZ cS cL hs o fl a M am K)) (cx := (wL cI cZ cS cL (fS hs) (fG hs) o fl a M)) hD hS hA [0, 1, 2, 3, 4, 5, 6, 7, 8, 9, 10, 11, 12, 13, 14, 15, 16, 17, 18, 19, 20, 21, 22, 23, 24, 25, 26, 27, 28, 29, 30, 31, 32, 33, 34, 35, 36, 37, 38, 39, 40, 41, 42] rfl
  refine va_calli (vx_runSW (As := [.ref (a 0), .int ((xs (3 * n + 1))), .ref o]) (rest := []) ⟨hx, hb, hml, hown, hts⟩ (w_L_thingsOf l hst dC dI cI cZ cS cL hs o fl a H.size M ((xs (3 * n + 1))) r kk hf8 hA9) (vx_cwSW 3 hts gL_law_L_thingsOf rfl rfl rfl (by decide +kernel) ⟨Nat.le_of_ble_eq_true rfl, Nat.le_of_ble_eq_true rfl⟩) ⟨T9.blind, T9.pre hPc hK hDc hNW (hEX.at hS hFc) hNC⟩ rfl rfl hl.1 rfl (lv_room (Nat.le_of_ble_eq_true rfl)) dL_law_2785 ⟨by show cells + 1 ≤ 601024; omega, by show slots + 6 ≤ 7293034; omega⟩) hS (fun q _ h => hFc q h) hFc (fun rv u t H1 locs ht hvm hw hB hz1 hk1 hS => ?_)
  obtain ⟨hw1, hw2, hout⟩ := hw
  obtain ⟨hs1, fl1⟩ := u
  have hw2 : hs1 = hs := hw2
  rw [hw1]
  obtain ⟨hP1, hD1⟩ := hB
  rw [ht] at hP1
  obtain ⟨hP, hD⟩ := va_joinP (X := (wLaw cI cZ cS cL hs o fl a M am K)) (cx := (wL cI cZ cS cL (fS hs) (fG hs) o fl a M)) (wr := (wX9 cI cZ am K)) (rx := (wL cI cZ cS cL (fS hs1) (fG hs1) o fl1 a M)) hP hD [0, 1, 2, 3, 4, 5, 6, 7, 8, 9, 10, 11, 12, 13, 14, 15, 16, 17, 18, 19, 20, 21, 22, 23, 24, 25, 26, 27, 28, 29, 30, 31, 32, 33, 34, 35, 36, 37, 38, 39, 40, 41, 42] [43, 44, 45, 46, 47, 48, 49, 50, 51] rfl rfl (by decide) (by decide) hk1 hFc hP1 hD1
  have hP := hP.part (cx := (wLaw cI cZ cS cL hs1 o fl1 a M am K)) [9, 10, 11, 12, 13, 14, 15, 16, 17, 18, 19, 20, 21, 22, 23, 24, 25, 26, 27, 28, 29, 30, 31, 32, 33, 34, 35, 36, 37, 38, 39, 40, 41, 42, 43, 44, 45, 46, 47, 48, 49, 50, 51, 0, 1, 2, 3, 4, 5, 6, 7, 8] rfl
  have hD := hD.part (cx := (wLaw cI cZ cS cL hs1 o fl1 a M am K)) [9, 10, 11, 12, 13, 14, 15, 16, 17, 18, 19, 20, 21, 22, 23, 24, 25, 26, 27, 28, 29, 30, 31, 32, 33, 34, 35, 36, 37, 38, 39, 40, 41, 42, 43, 44, 45, 46, 47, 48, 49, 50, 51, 0, 1, 2, 3, 4, 5, 6, 7, 8] (by decide) rfl
  generalize H1 = H at hP hS ⊢
  rw [← hw2] at hI9
  refine lv_istore (lv' := [(5, .int kk), (0, .ref b), (1, .ref (a 0)), (2, .ref (am 0)), (3, .ref o), (4, .int (nI (3 * n)))]) hx hb dL_law_2788 hl (by decide) rfl (fun ls hl => ?_)
  refine lv_aload_n hx hb dL_law_2790 rfl (lv_at hl 3 rfl) ?_
  refine lv_aload_n hx hb dL_law_2791 rfl (lv_at hl 1 rfl) ?_
  refine lv_iload hx hb dL_law_2792 (lv_at hl 5 rfl) ?_
  refine lv_iconst (v := (1 : Int32)) hx hb dL_law_2794 (by decide) ?_
  refine lv_iadd hx hb dL_law_2795 ?_
  rw [show nI (3 * n) + (1 : Int32) = nI (3 * n + 1) from nI_add (3 * n) 1]
  refine va_sld hx hb hXs hbl hbA hS (vp_in_nI (by omega) (by omega)) dL_law_2796 ?_
  rw [nI_clamp (show 3 * n + 1 < 2 ^ 31 by omega)]
  have hPc := P_head (ws := (wLaw cI cZ cS cL hs1 o fl1 a M am K)) (ws' := (wX9 cI cZ am K)) hP [43, 44, 45, 46, 47, 48, 49, 50, 51] rfl
  have hDc := D_head (ws := (wLaw cI cZ cS cL hs1 o fl1 a M am K)) (ws' := (wX9 cI cZ am K)) hD [43, 44, 45, 46, 47, 48, 49, 50, 51] (by decide) rfl
  have hFc := va_free (wc := (wX9 cI cZ am K)) hD hS hA [43, 44, 45, 46, 47, 48, 49, 50, 51] rfl
  refine va_calli (va_runV (As := [.int ((xs (3 * n + 1)))]) (rest := []) ⟨hx, hb, hml, hown, hts⟩ (c_X9_thingsOf l dC dI cI cZ am H.size K ((xs (3 * n + 1))) y hf9) (cwV 1 hts gL_law_X9_thingsOf rfl rfl rfl (by decide +kernel) ⟨Nat.le_of_ble_eq_true rfl, Nat.le_of_ble_eq_true rfl⟩) ⟨WR.blind, va_recv hK hP (ci := 9) (q0 := 43) rfl rfl, WR.pre hPc hK2 hDc hNW⟩ rfl rfl hl.1 rfl (lv_room (Nat.le_of_ble_eq_true rfl)) dL_law_2797 ⟨by show _ + 0 ≤ 601024; omega, by show _ + 0 ≤ 7293034; omega⟩) hS (fun q _ h => hFc q h) hFc (fun rv u t H1 locs ht hvm hw hB hz1 hk1 hS => ?_)
  obtain ⟨hP1, hD1⟩ := hB
  rw [ht] at hP1
  rw [hw]
  obtain ⟨hP, hD⟩ := join_app (ws := (wLaw cI cZ cS cL hs1 o fl1 a M am K)) (wr := (wL cI cZ cS cL (fS hs1) (fG hs1) o fl1 a M)) (w1 := (wX9 cI cZ am (sr K 0 (y.2 0)))) hP hD [43, 44, 45, 46, 47, 48, 49, 50, 51] [0, 1, 2, 3, 4, 5, 6, 7, 8, 9, 10, 11, 12, 13, 14, 15, 16, 17, 18, 19, 20, 21, 22, 23, 24, 25, 26, 27, 28, 29, 30, 31, 32, 33, 34, 35, 36, 37, 38, 39, 40, 41, 42] rfl rfl (by decide) (by decide) hk1 hFc hP1 hD1
  have hP : va_P (dC, dI) vwCl ((wLaw cI cZ cS cL hs1 o fl1 a M am (sr K 0 (y.2 0))) ++ RW cI cZ hs1) H1 := hP
  have hD : va_D A ((wLaw cI cZ cS cL hs1 o fl1 a M am (sr K 0 (y.2 0))) ++ RW cI cZ hs1) := hD
  generalize H1 = H at hP hS ⊢
  refine lv_istore (lv' := [(6, .int y.1), (5, .int kk), (0, .ref b), (1, .ref (a 0)), (2, .ref (am 0)), (3, .ref o), (4, .int (nI (3 * n)))]) hx hb dL_law_2800 hl (by decide) rfl (fun ls hl => ?_)
  refine lv_aload_n hx hb dL_law_2802 rfl (lv_at hl 4 rfl) ?_
  have hPc := P_head (ws := (wLaw cI cZ cS cL hs1 o fl1 a M am (sr K 0 (y.2 0)))) (ws' := (wX9 cI cZ am (sr K 0 (y.2 0)))) hP [43, 44, 45, 46, 47, 48, 49, 50, 51] rfl
  refine cRO (W.runV (As := []) (rest := []) ⟨hx, hb, hml, hown, hts⟩ (c_X9_thrown l dC dI cI cZ am (sr K 0 (y.2 0)) ((sr K 0 (y.2 0)) 0 0) rfl) (cwV 0 hts gL_law_X9_thrown rfl rfl rfl (by decide +kernel) ⟨Nat.le_of_ble_eq_true rfl, Nat.le_of_ble_eq_true rfl⟩) ⟨RO.blind, va_recv hK hP (ci := 9) (q0 := 43) rfl rfl, RO.pre hPc hK2 hNW⟩ rfl rfl hl.1 rfl (lv_room (Nat.le_of_ble_eq_true rfl)) dL_law_2803 ⟨by show _ + 0 ≤ 601024; omega, by show _ + 0 ≤ 7293034; omega⟩) ?_
  refine lv_iload hx hb dL_law_2806 (lv_at hl 1 rfl) ?_
  refine lv_icmp_eq (tgt := 2813) hx hb dL_law_2808 (by decide) (fun c9 => ?_) (fun c9 => absurd h9k c9)
  refine lv_iload hx hb dL_law_2813 (lv_at hl 1 rfl) ?_
  refine lv_if_ne (tgt := 2830) hx hb dL_law_2815 (by decide) (fun c9 => ?_) (fun c9 => ?_)
  · refine lv_goto (tgt := 3556) hx hb dL_law_2830 (by decide) ?_
    refine W.widen (k := cells + 17) (n := slots + 322) (by omega) (by omega) ?_
    exact kk9 hs1 fl1 _ _ _ H locs hI9 (lv_sub hl [2, 3, 4, 5, 6] rfl) hP hD hS
  obtain ⟨u, hr9⟩ := Ans_z hA9 c9
  have hv9 := hout u hr9
  have hu9 := hval u hr9
  refine lv_aload_n hx hb dL_law_2818 rfl (lv_at hl 5 rfl) ?_
  refine lv_iconst (v := (0 : Int32)) hx hb dL_law_2819 (by decide) ?_
  refine va_lald (D := (dC, dI)) (f := fl1) hx hb hK hP 0 3 rfl rfl (inb_in rfl) dL_law_2820 ?_
  refine lv_iload hx hb dL_law_2821 (lv_at hl 0 rfl) ?_
  refine lv_i2l (v := (y.1).toInt64) hx hb dL_law_2823 rfl ?_
  refine W.lcmp hx hb dL_law_2824 ?_
  refine lv_if_eq (tgt := 2830) hx hb dL_law_2825 (by decide) (fun c7 => ?_) (fun c7 => absurd (lg_eq (hv9.trans (congrArg Int32.toInt64 hu9))) c7)
  refine lv_goto (tgt := 3556) hx hb dL_law_2830 (by decide) ?_
  refine W.widen (k := cells + 17) (n := slots + 322) (by omega) (by omega) ?_
  exact kk9 hs1 fl1 _ _ _ H locs hI9 (lv_sub hl [2, 3, 4, 5, 6] rfl) hP hD hS
set_option maxHeartbeats 4000000 in
set_option maxRecDepth 100000 in
theorem lc_canServe {p : Program} {l : Launch} {e : Env} {s : State} {m : MethodId} {below : List Frame} {meth : Method} {c : Code} {b L : Nat} {xs : Nat → Int32} {dC : Nat → ClassId} {dI : Nat → Nat → Nat} {cI cZ cS cL : ClassId} {A : Nat → Prop} {a am : Nat → Nat} {o : Nat} {Q : State → Prop} (X0 : LCx p l s m c b L xs dC dI cI cZ cS cL A) {Inv : Nat → (Nat → Option Mem) → Mem → Mem → Prop} (hSt : St_canServe Inv) {n : Nat} (hn : n < 512) (hnL : 3 * n + 2 < L) (hL : L ≤ 1536) {hs : HS} {fl : Nat → Int64} {M K : Mem} (hI : Inv n (cts hs) M K) {ls : Array Slot} {H : Heap} {locs : List Loc} {cells slots : Nat} (hcs : cells + 17 ≤ 601024) (hss : slots + 322 ≤ 7293034) (hl : lv_has ls 9 [(0, .ref b), (1, .ref (a 0)), (2, .ref (am 0)), (3, .ref o), (4, .int (nI (3 * n)))]) (hP : va_P (dC, dI) vwCl (wLaw cI cZ cS cL hs o fl a M am K ++ RW cI cZ hs) H) (hD : va_D A (wLaw cI cZ cS cL hs o fl a M am K ++ RW cI cZ hs)) (hS : va_S A s.heap H locs) (kk9 : ∀ (hs' : HS) (fl' : Nat → Int64) (M' K' : Mem) (ls : Array Slot) (H : Heap) (locs : List Loc), Inv (n + 1) (cts hs') M' K' → lv_has ls 9 [(0, .ref b), (1, .ref (a 0)), (2, .ref (am 0)), (3, .ref o), (4, .int (nI (3 * n)))] → va_P (dC, dI) vwCl (wLaw cI cZ cS cL hs' o fl' a M' am K' ++ RW cI cZ hs') H → va_D A (wLaw cI cZ cS cL hs' o fl' a M' am K' ++ RW cI cZ hs') → va_S A s.heap H locs → W p l e room_1 s m #[Value.ref b] below meth c H locs (cells + 17) (slots + 322) Q (F0 m 3556 ls [])) : W p l e room_1 s m #[Value.ref b] below meth c H locs cells slots Q (F0 m 2833 ls []) := by
  obtain ⟨hx, hb, hml, hown, hts, hK, hNW, hEX, hNC, hA, hXs, hbl, hbA, hst⟩ := X0
  have hK8 : va_K (dC, dI) vwCl (tys8 cI cZ cS) s := hK.sub (tys' := tys8 cI cZ cS) [0, 1, 2] rfl
  have hK2 : va_K (dC, dI) vwCl [(cI, .int), (cZ, .boolean)] s := hK.sub (tys' := [(cI, .int), (cZ, .boolean)]) [0, 1] rfl
  obtain ⟨r, kk, y, hf8, hA9, hf9, h9k, hval, hI9⟩ := hSt n (cts hs) M K (xs (3 * n + 1)) hn hI
  refine lv_aload_n hx hb dL_law_2833 rfl (lv_at hl 1 rfl) ?_
  refine lv_aload_n hx hb dL_law_2834 rfl (lv_at hl 0 rfl) ?_
  refine lv_iload hx hb dL_law_2835 (lv_at hl 4 rfl) ?_
  refine lv_iconst (v := (1 : Int32)) hx hb dL_law_2837 (by decide) ?_
  refine lv_iadd hx hb dL_law_2838 ?_
  rw [show nI (3 * n) + (1 : Int32) = nI (3 * n + 1) from nI_add (3 * n) 1]
  refine va_sld hx hb hXs hbl hbA hS (vp_in_nI (by omega) (by omega)) dL_law_2839 ?_
  rw [nI_clamp (show 3 * n + 1 < 2 ^ 31 by omega)]
  refine lv_aload_n hx hb dL_law_2840 rfl (lv_at hl 3 rfl) ?_
  have hPc := hP.part (X := (wLaw cI cZ cS cL hs o fl a M am K)) (cx := (wL cI cZ cS cL (fS hs) (fG hs) o fl a M)) [0, 1, 2, 3, 4, 5, 6, 7, 8, 9, 10, 11, 12, 13, 14, 15, 16, 17, 18, 19, 20, 21, 22, 23, 24, 25, 26, 27, 28, 29, 30, 31, 32, 33, 34, 35, 36, 37, 38, 39, 40, 41, 42] rfl
  have hDc := hD.part (X := (wLaw cI cZ cS cL hs o fl a M am K)) (cx := (wL cI cZ cS cL (fS hs) (fG hs) o fl a M)) [0, 1, 2, 3, 4, 5, 6, 7, 8, 9, 10, 11, 12, 13, 14, 15, 16, 17, 18, 19, 20, 21, 22, 23, 24, 25, 26, 27, 28, 29, 30, 31, 32, 33, 34, 35, 36, 37, 38, 39, 40, 41, 42] (by decide) rfl
  have hFc := va_freeP (X := (wLaw cI cZ cS cL hs o fl a M am K)) (cx := (wL cI cZ cS cL (fS hs) (fG hs) o fl a M)) hD hS hA [0, 1, 2, 3, 4, 5, 6, 7, 8, 9, 10, 11, 12, 13, 14, 15, 16, 17, 18, 19, 20, 21, 22, 23, 24, 25, 26, 27, 28, 29, 30, 31, 32, 33, 34, 35, 36, 37, 38, 39, 40, 41, 42] rfl
  refine va_calli (vx_runSW (As := [.ref (a 0), .int ((xs (3 * n + 1))), .ref o]) (rest := []) ⟨hx, hb, hml, hown, hts⟩ (w_L_canServe l hst dC dI cI cZ cS cL hs o fl a H.size M ((xs (3 * n + 1))) r kk hf8 hA9) (vx_cwSW 3 hts gL_law_L_canServe rfl rfl rfl (by decide +kernel) ⟨Nat.le_of_ble_eq_true rfl, Nat.le_of_ble_eq_true rfl⟩) ⟨T9.blind, T9.pre hPc hK hDc hNW (hEX.at hS hFc) hNC⟩ rfl rfl hl.1 rfl (lv_room (Nat.le_of_ble_eq_true rfl)) dL_law_2841 ⟨by show cells + 1 ≤ 601024; omega, by show slots + 6 ≤ 7293034; omega⟩) hS (fun q _ h => hFc q h) hFc (fun rv u t H1 locs ht hvm hw hB hz1 hk1 hS => ?_)
  obtain ⟨hw1, hw2, hout⟩ := hw
  obtain ⟨hs1, fl1⟩ := u
  have hw2 : hs1 = hs := hw2
  rw [hw1]
  obtain ⟨hP1, hD1⟩ := hB
  rw [ht] at hP1
  obtain ⟨hP, hD⟩ := va_joinP (X := (wLaw cI cZ cS cL hs o fl a M am K)) (cx := (wL cI cZ cS cL (fS hs) (fG hs) o fl a M)) (wr := (wX9 cI cZ am K)) (rx := (wL cI cZ cS cL (fS hs1) (fG hs1) o fl1 a M)) hP hD [0, 1, 2, 3, 4, 5, 6, 7, 8, 9, 10, 11, 12, 13, 14, 15, 16, 17, 18, 19, 20, 21, 22, 23, 24, 25, 26, 27, 28, 29, 30, 31, 32, 33, 34, 35, 36, 37, 38, 39, 40, 41, 42] [43, 44, 45, 46, 47, 48, 49, 50, 51] rfl rfl (by decide) (by decide) hk1 hFc hP1 hD1
  have hP := hP.part (cx := (wLaw cI cZ cS cL hs1 o fl1 a M am K)) [9, 10, 11, 12, 13, 14, 15, 16, 17, 18, 19, 20, 21, 22, 23, 24, 25, 26, 27, 28, 29, 30, 31, 32, 33, 34, 35, 36, 37, 38, 39, 40, 41, 42, 43, 44, 45, 46, 47, 48, 49, 50, 51, 0, 1, 2, 3, 4, 5, 6, 7, 8] rfl
  have hD := hD.part (cx := (wLaw cI cZ cS cL hs1 o fl1 a M am K)) [9, 10, 11, 12, 13, 14, 15, 16, 17, 18, 19, 20, 21, 22, 23, 24, 25, 26, 27, 28, 29, 30, 31, 32, 33, 34, 35, 36, 37, 38, 39, 40, 41, 42, 43, 44, 45, 46, 47, 48, 49, 50, 51, 0, 1, 2, 3, 4, 5, 6, 7, 8] (by decide) rfl
  generalize H1 = H at hP hS ⊢
  rw [← hw2] at hI9
  refine lv_istore (lv' := [(5, .int kk), (0, .ref b), (1, .ref (a 0)), (2, .ref (am 0)), (3, .ref o), (4, .int (nI (3 * n)))]) hx hb dL_law_2844 hl (by decide) rfl (fun ls hl => ?_)
  refine lv_aload_n hx hb dL_law_2846 rfl (lv_at hl 3 rfl) ?_
  refine lv_aload_n hx hb dL_law_2847 rfl (lv_at hl 1 rfl) ?_
  refine lv_iload hx hb dL_law_2848 (lv_at hl 5 rfl) ?_
  refine lv_iconst (v := (1 : Int32)) hx hb dL_law_2850 (by decide) ?_
  refine lv_iadd hx hb dL_law_2851 ?_
  rw [show nI (3 * n) + (1 : Int32) = nI (3 * n + 1) from nI_add (3 * n) 1]
  refine va_sld hx hb hXs hbl hbA hS (vp_in_nI (by omega) (by omega)) dL_law_2852 ?_
  rw [nI_clamp (show 3 * n + 1 < 2 ^ 31 by omega)]
  have hPc := P_head (ws := (wLaw cI cZ cS cL hs1 o fl1 a M am K)) (ws' := (wX9 cI cZ am K)) hP [43, 44, 45, 46, 47, 48, 49, 50, 51] rfl
  have hDc := D_head (ws := (wLaw cI cZ cS cL hs1 o fl1 a M am K)) (ws' := (wX9 cI cZ am K)) hD [43, 44, 45, 46, 47, 48, 49, 50, 51] (by decide) rfl
  have hFc := va_free (wc := (wX9 cI cZ am K)) hD hS hA [43, 44, 45, 46, 47, 48, 49, 50, 51] rfl
  refine va_calli (va_runV (As := [.int ((xs (3 * n + 1)))]) (rest := []) ⟨hx, hb, hml, hown, hts⟩ (c_X9_canServe l dC dI cI cZ am H.size K ((xs (3 * n + 1))) y hf9) (cwV 1 hts gL_law_X9_canServe rfl rfl rfl (by decide +kernel) ⟨Nat.le_of_ble_eq_true rfl, Nat.le_of_ble_eq_true rfl⟩) ⟨WR.blind, va_recv hK hP (ci := 9) (q0 := 43) rfl rfl, WR.pre hPc hK2 hDc hNW⟩ rfl rfl hl.1 rfl (lv_room (Nat.le_of_ble_eq_true rfl)) dL_law_2853 ⟨by show _ + 0 ≤ 601024; omega, by show _ + 0 ≤ 7293034; omega⟩) hS (fun q _ h => hFc q h) hFc (fun rv u t H1 locs ht hvm hw hB hz1 hk1 hS => ?_)
  obtain ⟨hP1, hD1⟩ := hB
  rw [ht] at hP1
  rw [hw]
  obtain ⟨hP, hD⟩ := join_app (ws := (wLaw cI cZ cS cL hs1 o fl1 a M am K)) (wr := (wL cI cZ cS cL (fS hs1) (fG hs1) o fl1 a M)) (w1 := (wX9 cI cZ am (sr K 0 (y.2 0)))) hP hD [43, 44, 45, 46, 47, 48, 49, 50, 51] [0, 1, 2, 3, 4, 5, 6, 7, 8, 9, 10, 11, 12, 13, 14, 15, 16, 17, 18, 19, 20, 21, 22, 23, 24, 25, 26, 27, 28, 29, 30, 31, 32, 33, 34, 35, 36, 37, 38, 39, 40, 41, 42] rfl rfl (by decide) (by decide) hk1 hFc hP1 hD1
  have hP : va_P (dC, dI) vwCl ((wLaw cI cZ cS cL hs1 o fl1 a M am (sr K 0 (y.2 0))) ++ RW cI cZ hs1) H1 := hP
  have hD : va_D A ((wLaw cI cZ cS cL hs1 o fl1 a M am (sr K 0 (y.2 0))) ++ RW cI cZ hs1) := hD
  generalize H1 = H at hP hS ⊢
  refine lv_istore (lv' := [(6, .int y.1), (5, .int kk), (0, .ref b), (1, .ref (a 0)), (2, .ref (am 0)), (3, .ref o), (4, .int (nI (3 * n)))]) hx hb dL_law_2856 hl (by decide) rfl (fun ls hl => ?_)
  refine lv_aload_n hx hb dL_law_2858 rfl (lv_at hl 4 rfl) ?_
  have hPc := P_head (ws := (wLaw cI cZ cS cL hs1 o fl1 a M am (sr K 0 (y.2 0)))) (ws' := (wX9 cI cZ am (sr K 0 (y.2 0)))) hP [43, 44, 45, 46, 47, 48, 49, 50, 51] rfl
  refine cRO (W.runV (As := []) (rest := []) ⟨hx, hb, hml, hown, hts⟩ (c_X9_thrown l dC dI cI cZ am (sr K 0 (y.2 0)) ((sr K 0 (y.2 0)) 0 0) rfl) (cwV 0 hts gL_law_X9_thrown rfl rfl rfl (by decide +kernel) ⟨Nat.le_of_ble_eq_true rfl, Nat.le_of_ble_eq_true rfl⟩) ⟨RO.blind, va_recv hK hP (ci := 9) (q0 := 43) rfl rfl, RO.pre hPc hK2 hNW⟩ rfl rfl hl.1 rfl (lv_room (Nat.le_of_ble_eq_true rfl)) dL_law_2859 ⟨by show _ + 0 ≤ 601024; omega, by show _ + 0 ≤ 7293034; omega⟩) ?_
  refine lv_iload hx hb dL_law_2862 (lv_at hl 1 rfl) ?_
  refine lv_icmp_eq (tgt := 2869) hx hb dL_law_2864 (by decide) (fun c9 => ?_) (fun c9 => absurd h9k c9)
  refine lv_iload hx hb dL_law_2869 (lv_at hl 1 rfl) ?_
  refine lv_if_ne (tgt := 2893) hx hb dL_law_2871 (by decide) (fun c9 => ?_) (fun c9 => ?_)
  · refine lv_goto (tgt := 3556) hx hb dL_law_2893 (by decide) ?_
    refine W.widen (k := cells + 17) (n := slots + 322) (by omega) (by omega) ?_
    exact kk9 hs1 fl1 _ _ _ H locs hI9 (lv_sub hl [2, 3, 4, 5, 6] rfl) hP hD hS
  obtain ⟨u, hr9⟩ := Ans_z hA9 c9
  have hv9 := hout u hr9
  have hu9 := hval u hr9
  refine lv_aload_n hx hb dL_law_2874 rfl (lv_at hl 5 rfl) ?_
  refine lv_iconst (v := (0 : Int32)) hx hb dL_law_2875 (by decide) ?_
  refine va_lald (D := (dC, dI)) (f := fl1) hx hb hK hP 0 3 rfl rfl (inb_in rfl) dL_law_2876 ?_
  refine lv_iload hx hb dL_law_2877 (lv_at hl 0 rfl) ?_
  refine lv_if_eq (tgt := 2886) hx hb dL_law_2879 (by decide) (fun c8 => ?_) (fun c8 => ?_)
  · refine lv_lconst (v := (0 : Int64)) hx hb dL_law_2886 (by decide) ?_
    refine W.lcmp hx hb dL_law_2887 ?_
    refine lv_if_eq (tgt := 2893) hx hb dL_law_2888 (by decide) (fun c7 => ?_) (fun c7 => absurd (lg_eq (hv9.trans (if_pos (hu9.trans c8)))) c7)
    refine lv_goto (tgt := 3556) hx hb dL_law_2893 (by decide) ?_
    refine W.widen (k := cells + 17) (n := slots + 322) (by omega) (by omega) ?_
    exact kk9 hs1 fl1 _ _ _ H locs hI9 (lv_sub hl [2, 3, 4, 5, 6] rfl) hP hD hS
  · refine lv_lconst (v := (1 : Int64)) hx hb dL_law_2882 (by decide) ?_
    refine lv_goto (tgt := 2887) hx hb dL_law_2883 (by decide) ?_
    refine W.lcmp hx hb dL_law_2887 ?_
    refine lv_if_eq (tgt := 2893) hx hb dL_law_2888 (by decide) (fun c7 => ?_) (fun c7 => absurd (lg_eq (hv9.trans (if_neg (fun h => c8 (hu9.symm.trans h))))) c7)
    refine lv_goto (tgt := 3556) hx hb dL_law_2893 (by decide) ?_
    refine W.widen (k := cells + 17) (n := slots + 322) (by omega) (by omega) ?_
    exact kk9 hs1 fl1 _ _ _ H locs hI9 (lv_sub hl [2, 3, 4, 5, 6] rfl) hP hD hS
set_option maxHeartbeats 4000000 in
set_option maxRecDepth 100000 in
theorem lc_fewestByTrying {p : Program} {l : Launch} {e : Env} {s : State} {m : MethodId} {below : List Frame} {meth : Method} {c : Code} {b L : Nat} {xs : Nat → Int32} {dC : Nat → ClassId} {dI : Nat → Nat → Nat} {cI cZ cS cL : ClassId} {A : Nat → Prop} {a am : Nat → Nat} {o : Nat} {Q : State → Prop} (X0 : LCx p l s m c b L xs dC dI cI cZ cS cL A) {Inv : Nat → (Nat → Option Mem) → Mem → Mem → Prop} (hSt : St_fewestByTrying Inv) {n : Nat} (hn : n < 512) (hnL : 3 * n + 2 < L) (hL : L ≤ 1536) {hs : HS} {fl : Nat → Int64} {M K : Mem} (hI : Inv n (cts hs) M K) {ls : Array Slot} {H : Heap} {locs : List Loc} {cells slots : Nat} (hcs : cells + 17 ≤ 601024) (hss : slots + 322 ≤ 7293034) (hl : lv_has ls 9 [(0, .ref b), (1, .ref (a 0)), (2, .ref (am 0)), (3, .ref o), (4, .int (nI (3 * n)))]) (hP : va_P (dC, dI) vwCl (wLaw cI cZ cS cL hs o fl a M am K ++ RW cI cZ hs) H) (hD : va_D A (wLaw cI cZ cS cL hs o fl a M am K ++ RW cI cZ hs)) (hS : va_S A s.heap H locs) (kk9 : ∀ (hs' : HS) (fl' : Nat → Int64) (M' K' : Mem) (ls : Array Slot) (H : Heap) (locs : List Loc), Inv (n + 1) (cts hs') M' K' → lv_has ls 9 [(0, .ref b), (1, .ref (a 0)), (2, .ref (am 0)), (3, .ref o), (4, .int (nI (3 * n)))] → va_P (dC, dI) vwCl (wLaw cI cZ cS cL hs' o fl' a M' am K' ++ RW cI cZ hs') H → va_D A (wLaw cI cZ cS cL hs' o fl' a M' am K' ++ RW cI cZ hs') → va_S A s.heap H locs → W p l e room_1 s m #[Value.ref b] below meth c H locs (cells + 17) (slots + 322) Q (F0 m 3556 ls [])) : W p l e room_1 s m #[Value.ref b] below meth c H locs cells slots Q (F0 m 2896 ls []) := by
  obtain ⟨hx, hb, hml, hown, hts, hK, hNW, hEX, hNC, hA, hXs, hbl, hbA, hst⟩ := X0
  have hK8 : va_K (dC, dI) vwCl (tys8 cI cZ cS) s := hK.sub (tys' := tys8 cI cZ cS) [0, 1, 2] rfl
  have hK2 : va_K (dC, dI) vwCl [(cI, .int), (cZ, .boolean)] s := hK.sub (tys' := [(cI, .int), (cZ, .boolean)]) [0, 1] rfl
  obtain ⟨r, kk, y, hf8, hA9, hf9, h9k, hval, hI9⟩ := hSt n (cts hs) M K (xs (3 * n + 1)) hn hI
  refine lv_aload_n hx hb dL_law_2896 rfl (lv_at hl 1 rfl) ?_
  refine lv_aload_n hx hb dL_law_2897 rfl (lv_at hl 0 rfl) ?_
  refine lv_iload hx hb dL_law_2898 (lv_at hl 4 rfl) ?_
  refine lv_iconst (v := (1 : Int32)) hx hb dL_law_2900 (by decide) ?_
  refine lv_iadd hx hb dL_law_2901 ?_
  rw [show nI (3 * n) + (1 : Int32) = nI (3 * n + 1) from nI_add (3 * n) 1]
  refine va_sld hx hb hXs hbl hbA hS (vp_in_nI (by omega) (by omega)) dL_law_2902 ?_
  rw [nI_clamp (show 3 * n + 1 < 2 ^ 31 by omega)]
  refine lv_aload_n hx hb dL_law_2903 rfl (lv_at hl 3 rfl) ?_
  have hPc := hP.part (X := (wLaw cI cZ cS cL hs o fl a M am K)) (cx := (wL cI cZ cS cL (fS hs) (fG hs) o fl a M)) [0, 1, 2, 3, 4, 5, 6, 7, 8, 9, 10, 11, 12, 13, 14, 15, 16, 17, 18, 19, 20, 21, 22, 23, 24, 25, 26, 27, 28, 29, 30, 31, 32, 33, 34, 35, 36, 37, 38, 39, 40, 41, 42] rfl
  have hDc := hD.part (X := (wLaw cI cZ cS cL hs o fl a M am K)) (cx := (wL cI cZ cS cL (fS hs) (fG hs) o fl a M)) [0, 1, 2, 3, 4, 5, 6, 7, 8, 9, 10, 11, 12, 13, 14, 15, 16, 17, 18, 19, 20, 21, 22, 23, 24, 25, 26, 27, 28, 29, 30, 31, 32, 33, 34, 35, 36, 37, 38, 39, 40, 41, 42] (by decide) rfl
  have hFc := va_freeP (X := (wLaw cI cZ cS cL hs o fl a M am K)) (cx := (wL cI cZ cS cL (fS hs) (fG hs) o fl a M)) hD hS hA [0, 1, 2, 3, 4, 5, 6, 7, 8, 9, 10, 11, 12, 13, 14, 15, 16, 17, 18, 19, 20, 21, 22, 23, 24, 25, 26, 27, 28, 29, 30, 31, 32, 33, 34, 35, 36, 37, 38, 39, 40, 41, 42] rfl
  refine va_calli (vx_runSW (As := [.ref (a 0), .int ((xs (3 * n + 1))), .ref o]) (rest := []) ⟨hx, hb, hml, hown, hts⟩ (w_L_fewestByTrying l hst dC dI cI cZ cS cL hs o fl a H.size M ((xs (3 * n + 1))) r kk hf8 hA9) (vx_cwSW 3 hts gL_law_L_fewestByTrying rfl rfl rfl (by decide +kernel) ⟨Nat.le_of_ble_eq_true rfl, Nat.le_of_ble_eq_true rfl⟩) ⟨T9.blind, T9.pre hPc hK hDc hNW (hEX.at hS hFc) hNC⟩ rfl rfl hl.1 rfl (lv_room (Nat.le_of_ble_eq_true rfl)) dL_law_2904 ⟨by show cells + 1 ≤ 601024; omega, by show slots + 6 ≤ 7293034; omega⟩) hS (fun q _ h => hFc q h) hFc (fun rv u t H1 locs ht hvm hw hB hz1 hk1 hS => ?_)
  obtain ⟨hw1, hw2, hout⟩ := hw
  obtain ⟨hs1, fl1⟩ := u
  have hw2 : hs1 = hs := hw2
  rw [hw1]
  obtain ⟨hP1, hD1⟩ := hB
  rw [ht] at hP1
  obtain ⟨hP, hD⟩ := va_joinP (X := (wLaw cI cZ cS cL hs o fl a M am K)) (cx := (wL cI cZ cS cL (fS hs) (fG hs) o fl a M)) (wr := (wX9 cI cZ am K)) (rx := (wL cI cZ cS cL (fS hs1) (fG hs1) o fl1 a M)) hP hD [0, 1, 2, 3, 4, 5, 6, 7, 8, 9, 10, 11, 12, 13, 14, 15, 16, 17, 18, 19, 20, 21, 22, 23, 24, 25, 26, 27, 28, 29, 30, 31, 32, 33, 34, 35, 36, 37, 38, 39, 40, 41, 42] [43, 44, 45, 46, 47, 48, 49, 50, 51] rfl rfl (by decide) (by decide) hk1 hFc hP1 hD1
  have hP := hP.part (cx := (wLaw cI cZ cS cL hs1 o fl1 a M am K)) [9, 10, 11, 12, 13, 14, 15, 16, 17, 18, 19, 20, 21, 22, 23, 24, 25, 26, 27, 28, 29, 30, 31, 32, 33, 34, 35, 36, 37, 38, 39, 40, 41, 42, 43, 44, 45, 46, 47, 48, 49, 50, 51, 0, 1, 2, 3, 4, 5, 6, 7, 8] rfl
  have hD := hD.part (cx := (wLaw cI cZ cS cL hs1 o fl1 a M am K)) [9, 10, 11, 12, 13, 14, 15, 16, 17, 18, 19, 20, 21, 22, 23, 24, 25, 26, 27, 28, 29, 30, 31, 32, 33, 34, 35, 36, 37, 38, 39, 40, 41, 42, 43, 44, 45, 46, 47, 48, 49, 50, 51, 0, 1, 2, 3, 4, 5, 6, 7, 8] (by decide) rfl
  generalize H1 = H at hP hS ⊢
  rw [← hw2] at hI9
  refine lv_istore (lv' := [(5, .int kk), (0, .ref b), (1, .ref (a 0)), (2, .ref (am 0)), (3, .ref o), (4, .int (nI (3 * n)))]) hx hb dL_law_2907 hl (by decide) rfl (fun ls hl => ?_)
  refine lv_aload_n hx hb dL_law_2909 rfl (lv_at hl 3 rfl) ?_
  refine lv_aload_n hx hb dL_law_2910 rfl (lv_at hl 1 rfl) ?_
  refine lv_iload hx hb dL_law_2911 (lv_at hl 5 rfl) ?_
  refine lv_iconst (v := (1 : Int32)) hx hb dL_law_2913 (by decide) ?_
  refine lv_iadd hx hb dL_law_2914 ?_
  rw [show nI (3 * n) + (1 : Int32) = nI (3 * n + 1) from nI_add (3 * n) 1]
  refine va_sld hx hb hXs hbl hbA hS (vp_in_nI (by omega) (by omega)) dL_law_2915 ?_
  rw [nI_clamp (show 3 * n + 1 < 2 ^ 31 by omega)]
  have hPc := P_head (ws := (wLaw cI cZ cS cL hs1 o fl1 a M am K)) (ws' := (wX9 cI cZ am K)) hP [43, 44, 45, 46, 47, 48, 49, 50, 51] rfl
  have hDc := D_head (ws := (wLaw cI cZ cS cL hs1 o fl1 a M am K)) (ws' := (wX9 cI cZ am K)) hD [43, 44, 45, 46, 47, 48, 49, 50, 51] (by decide) rfl
  have hFc := va_free (wc := (wX9 cI cZ am K)) hD hS hA [43, 44, 45, 46, 47, 48, 49, 50, 51] rfl
  refine va_calli (va_runV (As := [.int ((xs (3 * n + 1)))]) (rest := []) ⟨hx, hb, hml, hown, hts⟩ (c_X9_fewestByTrying l dC dI cI cZ am H.size K ((xs (3 * n + 1))) y hf9) (cwV 1 hts gL_law_X9_fewestByTrying rfl rfl rfl (by decide +kernel) ⟨Nat.le_of_ble_eq_true rfl, Nat.le_of_ble_eq_true rfl⟩) ⟨WR.blind, va_recv hK hP (ci := 9) (q0 := 43) rfl rfl, WR.pre hPc hK2 hDc hNW⟩ rfl rfl hl.1 rfl (lv_room (Nat.le_of_ble_eq_true rfl)) dL_law_2916 ⟨by show _ + 0 ≤ 601024; omega, by show _ + 0 ≤ 7293034; omega⟩) hS (fun q _ h => hFc q h) hFc (fun rv u t H1 locs ht hvm hw hB hz1 hk1 hS => ?_)
  obtain ⟨hP1, hD1⟩ := hB
  rw [ht] at hP1
  rw [hw]
  obtain ⟨hP, hD⟩ := join_app (ws := (wLaw cI cZ cS cL hs1 o fl1 a M am K)) (wr := (wL cI cZ cS cL (fS hs1) (fG hs1) o fl1 a M)) (w1 := (wX9 cI cZ am (sr K 0 (y.2 0)))) hP hD [43, 44, 45, 46, 47, 48, 49, 50, 51] [0, 1, 2, 3, 4, 5, 6, 7, 8, 9, 10, 11, 12, 13, 14, 15, 16, 17, 18, 19, 20, 21, 22, 23, 24, 25, 26, 27, 28, 29, 30, 31, 32, 33, 34, 35, 36, 37, 38, 39, 40, 41, 42] rfl rfl (by decide) (by decide) hk1 hFc hP1 hD1
  have hP : va_P (dC, dI) vwCl ((wLaw cI cZ cS cL hs1 o fl1 a M am (sr K 0 (y.2 0))) ++ RW cI cZ hs1) H1 := hP
  have hD : va_D A ((wLaw cI cZ cS cL hs1 o fl1 a M am (sr K 0 (y.2 0))) ++ RW cI cZ hs1) := hD
  generalize H1 = H at hP hS ⊢
  refine lv_istore (lv' := [(6, .int y.1), (5, .int kk), (0, .ref b), (1, .ref (a 0)), (2, .ref (am 0)), (3, .ref o), (4, .int (nI (3 * n)))]) hx hb dL_law_2919 hl (by decide) rfl (fun ls hl => ?_)
  refine lv_aload_n hx hb dL_law_2921 rfl (lv_at hl 4 rfl) ?_
  have hPc := P_head (ws := (wLaw cI cZ cS cL hs1 o fl1 a M am (sr K 0 (y.2 0)))) (ws' := (wX9 cI cZ am (sr K 0 (y.2 0)))) hP [43, 44, 45, 46, 47, 48, 49, 50, 51] rfl
  refine cRO (W.runV (As := []) (rest := []) ⟨hx, hb, hml, hown, hts⟩ (c_X9_thrown l dC dI cI cZ am (sr K 0 (y.2 0)) ((sr K 0 (y.2 0)) 0 0) rfl) (cwV 0 hts gL_law_X9_thrown rfl rfl rfl (by decide +kernel) ⟨Nat.le_of_ble_eq_true rfl, Nat.le_of_ble_eq_true rfl⟩) ⟨RO.blind, va_recv hK hP (ci := 9) (q0 := 43) rfl rfl, RO.pre hPc hK2 hNW⟩ rfl rfl hl.1 rfl (lv_room (Nat.le_of_ble_eq_true rfl)) dL_law_2922 ⟨by show _ + 0 ≤ 601024; omega, by show _ + 0 ≤ 7293034; omega⟩) ?_
  refine lv_iload hx hb dL_law_2925 (lv_at hl 1 rfl) ?_
  refine lv_icmp_eq (tgt := 2932) hx hb dL_law_2927 (by decide) (fun c9 => ?_) (fun c9 => absurd h9k c9)
  refine lv_iload hx hb dL_law_2932 (lv_at hl 1 rfl) ?_
  refine lv_if_ne (tgt := 2949) hx hb dL_law_2934 (by decide) (fun c9 => ?_) (fun c9 => ?_)
  · refine lv_goto (tgt := 3556) hx hb dL_law_2949 (by decide) ?_
    refine W.widen (k := cells + 17) (n := slots + 322) (by omega) (by omega) ?_
    exact kk9 hs1 fl1 _ _ _ H locs hI9 (lv_sub hl [2, 3, 4, 5, 6] rfl) hP hD hS
  obtain ⟨u, hr9⟩ := Ans_z hA9 c9
  have hv9 := hout u hr9
  have hu9 := hval u hr9
  refine lv_aload_n hx hb dL_law_2937 rfl (lv_at hl 5 rfl) ?_
  refine lv_iconst (v := (0 : Int32)) hx hb dL_law_2938 (by decide) ?_
  refine va_lald (D := (dC, dI)) (f := fl1) hx hb hK hP 0 3 rfl rfl (inb_in rfl) dL_law_2939 ?_
  refine lv_iload hx hb dL_law_2940 (lv_at hl 0 rfl) ?_
  refine lv_i2l (v := (y.1).toInt64) hx hb dL_law_2942 rfl ?_
  refine W.lcmp hx hb dL_law_2943 ?_
  refine lv_if_eq (tgt := 2949) hx hb dL_law_2944 (by decide) (fun c7 => ?_) (fun c7 => absurd (lg_eq (hv9.trans (congrArg Int32.toInt64 hu9))) c7)
  refine lv_goto (tgt := 3556) hx hb dL_law_2949 (by decide) ?_
  refine W.widen (k := cells + 17) (n := slots + 322) (by omega) (by omega) ?_
  exact kk9 hs1 fl1 _ _ _ H locs hI9 (lv_sub hl [2, 3, 4, 5, 6] rfl) hP hD hS
set_option maxHeartbeats 4000000 in
set_option maxRecDepth 100000 in
theorem lc_fewestByGoing {p : Program} {l : Launch} {e : Env} {s : State} {m : MethodId} {below : List Frame} {meth : Method} {c : Code} {b L : Nat} {xs : Nat → Int32} {dC : Nat → ClassId} {dI : Nat → Nat → Nat} {cI cZ cS cL : ClassId} {A : Nat → Prop} {a am : Nat → Nat} {o : Nat} {Q : State → Prop} (X0 : LCx p l s m c b L xs dC dI cI cZ cS cL A) {Inv : Nat → (Nat → Option Mem) → Mem → Mem → Prop} (hSt : St_fewestByGoing Inv) {n : Nat} (hn : n < 512) (hnL : 3 * n + 2 < L) (hL : L ≤ 1536) {hs : HS} {fl : Nat → Int64} {M K : Mem} (hI : Inv n (cts hs) M K) {ls : Array Slot} {H : Heap} {locs : List Loc} {cells slots : Nat} (hcs : cells + 17 ≤ 601024) (hss : slots + 322 ≤ 7293034) (hl : lv_has ls 9 [(0, .ref b), (1, .ref (a 0)), (2, .ref (am 0)), (3, .ref o), (4, .int (nI (3 * n)))]) (hP : va_P (dC, dI) vwCl (wLaw cI cZ cS cL hs o fl a M am K ++ RW cI cZ hs) H) (hD : va_D A (wLaw cI cZ cS cL hs o fl a M am K ++ RW cI cZ hs)) (hS : va_S A s.heap H locs) (kk9 : ∀ (hs' : HS) (fl' : Nat → Int64) (M' K' : Mem) (ls : Array Slot) (H : Heap) (locs : List Loc), Inv (n + 1) (cts hs') M' K' → lv_has ls 9 [(0, .ref b), (1, .ref (a 0)), (2, .ref (am 0)), (3, .ref o), (4, .int (nI (3 * n)))] → va_P (dC, dI) vwCl (wLaw cI cZ cS cL hs' o fl' a M' am K' ++ RW cI cZ hs') H → va_D A (wLaw cI cZ cS cL hs' o fl' a M' am K' ++ RW cI cZ hs') → va_S A s.heap H locs → W p l e room_1 s m #[Value.ref b] below meth c H locs (cells + 17) (slots + 322) Q (F0 m 3556 ls [])) : W p l e room_1 s m #[Value.ref b] below meth c H locs cells slots Q (F0 m 2952 ls []) := by
  obtain ⟨hx, hb, hml, hown, hts, hK, hNW, hEX, hNC, hA, hXs, hbl, hbA, hst⟩ := X0
  have hK8 : va_K (dC, dI) vwCl (tys8 cI cZ cS) s := hK.sub (tys' := tys8 cI cZ cS) [0, 1, 2] rfl
  have hK2 : va_K (dC, dI) vwCl [(cI, .int), (cZ, .boolean)] s := hK.sub (tys' := [(cI, .int), (cZ, .boolean)]) [0, 1] rfl
  obtain ⟨r, kk, z2, y, hf8, hA9, hf9, h9k, hval, hI9⟩ := hSt n (cts hs) M K (xs (3 * n + 1)) hn hI
  refine lv_aload_n hx hb dL_law_2952 rfl (lv_at hl 1 rfl) ?_
  refine lv_aload_n hx hb dL_law_2953 rfl (lv_at hl 0 rfl) ?_
  refine lv_iload hx hb dL_law_2954 (lv_at hl 4 rfl) ?_
  refine lv_iconst (v := (1 : Int32)) hx hb dL_law_2956 (by decide) ?_
  refine lv_iadd hx hb dL_law_2957 ?_
  rw [show nI (3 * n) + (1 : Int32) = nI (3 * n + 1) from nI_add (3 * n) 1]
  refine va_sld hx hb hXs hbl hbA hS (vp_in_nI (by omega) (by omega)) dL_law_2958 ?_
  rw [nI_clamp (show 3 * n + 1 < 2 ^ 31 by omega)]
  refine lv_aload_n hx hb dL_law_2959 rfl (lv_at hl 3 rfl) ?_
  have hPc := hP.part (X := (wLaw cI cZ cS cL hs o fl a M am K)) (cx := (wL cI cZ cS cL (fS hs) (fG hs) o fl a M)) [0, 1, 2, 3, 4, 5, 6, 7, 8, 9, 10, 11, 12, 13, 14, 15, 16, 17, 18, 19, 20, 21, 22, 23, 24, 25, 26, 27, 28, 29, 30, 31, 32, 33, 34, 35, 36, 37, 38, 39, 40, 41, 42] rfl
  have hDc := hD.part (X := (wLaw cI cZ cS cL hs o fl a M am K)) (cx := (wL cI cZ cS cL (fS hs) (fG hs) o fl a M)) [0, 1, 2, 3, 4, 5, 6, 7, 8, 9, 10, 11, 12, 13, 14, 15, 16, 17, 18, 19, 20, 21, 22, 23, 24, 25, 26, 27, 28, 29, 30, 31, 32, 33, 34, 35, 36, 37, 38, 39, 40, 41, 42] (by decide) rfl
  have hFc := va_freeP (X := (wLaw cI cZ cS cL hs o fl a M am K)) (cx := (wL cI cZ cS cL (fS hs) (fG hs) o fl a M)) hD hS hA [0, 1, 2, 3, 4, 5, 6, 7, 8, 9, 10, 11, 12, 13, 14, 15, 16, 17, 18, 19, 20, 21, 22, 23, 24, 25, 26, 27, 28, 29, 30, 31, 32, 33, 34, 35, 36, 37, 38, 39, 40, 41, 42] rfl
  refine va_calli (vx_runSW (As := [.ref (a 0), .int ((xs (3 * n + 1))), .ref o]) (rest := []) ⟨hx, hb, hml, hown, hts⟩ (w_L_fewestByGoing l hst dC dI cI cZ cS cL hs o fl a H.size M ((xs (3 * n + 1))) r kk z2 hf8 hA9) (vx_cwSW 3 hts gL_law_L_fewestByGoing rfl rfl rfl (by decide +kernel) ⟨Nat.le_of_ble_eq_true rfl, Nat.le_of_ble_eq_true rfl⟩) ⟨T9.blind, T9.pre hPc hK hDc hNW (hEX.at hS hFc) hNC⟩ rfl rfl hl.1 rfl (lv_room (Nat.le_of_ble_eq_true rfl)) dL_law_2960 ⟨by show cells + 1 ≤ 601024; omega, by show slots + 6 ≤ 7293034; omega⟩) hS (fun q _ h => hFc q h) hFc (fun rv u t H1 locs ht hvm hw hB hz1 hk1 hS => ?_)
  obtain ⟨hw1, hw2, hout⟩ := hw
  obtain ⟨hs1, fl1⟩ := u
  have hw2 : hs1 = hs := hw2
  rw [hw1]
  obtain ⟨hP1, hD1⟩ := hB
  rw [ht] at hP1
  obtain ⟨hP, hD⟩ := va_joinP (X := (wLaw cI cZ cS cL hs o fl a M am K)) (cx := (wL cI cZ cS cL (fS hs) (fG hs) o fl a M)) (wr := (wX9 cI cZ am K)) (rx := (wL cI cZ cS cL (fS hs1) (fG hs1) o fl1 a (sr M 41 (z2 41)))) hP hD [0, 1, 2, 3, 4, 5, 6, 7, 8, 9, 10, 11, 12, 13, 14, 15, 16, 17, 18, 19, 20, 21, 22, 23, 24, 25, 26, 27, 28, 29, 30, 31, 32, 33, 34, 35, 36, 37, 38, 39, 40, 41, 42] [43, 44, 45, 46, 47, 48, 49, 50, 51] rfl rfl (by decide) (by decide) hk1 hFc hP1 hD1
  have hP := hP.part (cx := (wLaw cI cZ cS cL hs1 o fl1 a (sr M 41 (z2 41)) am K)) [9, 10, 11, 12, 13, 14, 15, 16, 17, 18, 19, 20, 21, 22, 23, 24, 25, 26, 27, 28, 29, 30, 31, 32, 33, 34, 35, 36, 37, 38, 39, 40, 41, 42, 43, 44, 45, 46, 47, 48, 49, 50, 51, 0, 1, 2, 3, 4, 5, 6, 7, 8] rfl
  have hD := hD.part (cx := (wLaw cI cZ cS cL hs1 o fl1 a (sr M 41 (z2 41)) am K)) [9, 10, 11, 12, 13, 14, 15, 16, 17, 18, 19, 20, 21, 22, 23, 24, 25, 26, 27, 28, 29, 30, 31, 32, 33, 34, 35, 36, 37, 38, 39, 40, 41, 42, 43, 44, 45, 46, 47, 48, 49, 50, 51, 0, 1, 2, 3, 4, 5, 6, 7, 8] (by decide) rfl
  generalize H1 = H at hP hS ⊢
  rw [← hw2] at hI9
  refine lv_istore (lv' := [(5, .int kk), (0, .ref b), (1, .ref (a 0)), (2, .ref (am 0)), (3, .ref o), (4, .int (nI (3 * n)))]) hx hb dL_law_2963 hl (by decide) rfl (fun ls hl => ?_)
  refine lv_aload_n hx hb dL_law_2965 rfl (lv_at hl 3 rfl) ?_
  refine lv_aload_n hx hb dL_law_2966 rfl (lv_at hl 1 rfl) ?_
  refine lv_iload hx hb dL_law_2967 (lv_at hl 5 rfl) ?_
  refine lv_iconst (v := (1 : Int32)) hx hb dL_law_2969 (by decide) ?_
  refine lv_iadd hx hb dL_law_2970 ?_
  rw [show nI (3 * n) + (1 : Int32) = nI (3 * n + 1) from nI_add (3 * n) 1]
  refine va_sld hx hb hXs hbl hbA hS (vp_in_nI (by omega) (by omega)) dL_law_2971 ?_
  rw [nI_clamp (show 3 * n + 1 < 2 ^ 31 by omega)]
  have hPc := P_head (ws := (wLaw cI cZ cS cL hs1 o fl1 a (sr M 41 (z2 41)) am K)) (ws' := (wX9 cI cZ am K)) hP [43, 44, 45, 46, 47, 48, 49, 50, 51] rfl
  have hDc := D_head (ws := (wLaw cI cZ cS cL hs1 o fl1 a (sr M 41 (z2 41)) am K)) (ws' := (wX9 cI cZ am K)) hD [43, 44, 45, 46, 47, 48, 49, 50, 51] (by decide) rfl
  have hFc := va_free (wc := (wX9 cI cZ am K)) hD hS hA [43, 44, 45, 46, 47, 48, 49, 50, 51] rfl
  refine va_calli (va_runV (As := [.int ((xs (3 * n + 1)))]) (rest := []) ⟨hx, hb, hml, hown, hts⟩ (c_X9_fewestByGoing l dC dI cI cZ am H.size K ((xs (3 * n + 1))) y hf9) (cwV 1 hts gL_law_X9_fewestByGoing rfl rfl rfl (by decide +kernel) ⟨Nat.le_of_ble_eq_true rfl, Nat.le_of_ble_eq_true rfl⟩) ⟨WR.blind, va_recv hK hP (ci := 9) (q0 := 43) rfl rfl, WR.pre hPc hK2 hDc hNW⟩ rfl rfl hl.1 rfl (lv_room (Nat.le_of_ble_eq_true rfl)) dL_law_2972 ⟨by show _ + 0 ≤ 601024; omega, by show _ + 0 ≤ 7293034; omega⟩) hS (fun q _ h => hFc q h) hFc (fun rv u t H1 locs ht hvm hw hB hz1 hk1 hS => ?_)
  obtain ⟨hP1, hD1⟩ := hB
  rw [ht] at hP1
  rw [hw]
  obtain ⟨hP, hD⟩ := join_app (ws := (wLaw cI cZ cS cL hs1 o fl1 a (sr M 41 (z2 41)) am K)) (wr := (wL cI cZ cS cL (fS hs1) (fG hs1) o fl1 a (sr M 41 (z2 41)))) (w1 := (wX9 cI cZ am (sr K 0 (y.2 0)))) hP hD [43, 44, 45, 46, 47, 48, 49, 50, 51] [0, 1, 2, 3, 4, 5, 6, 7, 8, 9, 10, 11, 12, 13, 14, 15, 16, 17, 18, 19, 20, 21, 22, 23, 24, 25, 26, 27, 28, 29, 30, 31, 32, 33, 34, 35, 36, 37, 38, 39, 40, 41, 42] rfl rfl (by decide) (by decide) hk1 hFc hP1 hD1
  have hP : va_P (dC, dI) vwCl ((wLaw cI cZ cS cL hs1 o fl1 a (sr M 41 (z2 41)) am (sr K 0 (y.2 0))) ++ RW cI cZ hs1) H1 := hP
  have hD : va_D A ((wLaw cI cZ cS cL hs1 o fl1 a (sr M 41 (z2 41)) am (sr K 0 (y.2 0))) ++ RW cI cZ hs1) := hD
  generalize H1 = H at hP hS ⊢
  refine lv_istore (lv' := [(6, .int y.1), (5, .int kk), (0, .ref b), (1, .ref (a 0)), (2, .ref (am 0)), (3, .ref o), (4, .int (nI (3 * n)))]) hx hb dL_law_2975 hl (by decide) rfl (fun ls hl => ?_)
  refine lv_aload_n hx hb dL_law_2977 rfl (lv_at hl 4 rfl) ?_
  have hPc := P_head (ws := (wLaw cI cZ cS cL hs1 o fl1 a (sr M 41 (z2 41)) am (sr K 0 (y.2 0)))) (ws' := (wX9 cI cZ am (sr K 0 (y.2 0)))) hP [43, 44, 45, 46, 47, 48, 49, 50, 51] rfl
  refine cRO (W.runV (As := []) (rest := []) ⟨hx, hb, hml, hown, hts⟩ (c_X9_thrown l dC dI cI cZ am (sr K 0 (y.2 0)) ((sr K 0 (y.2 0)) 0 0) rfl) (cwV 0 hts gL_law_X9_thrown rfl rfl rfl (by decide +kernel) ⟨Nat.le_of_ble_eq_true rfl, Nat.le_of_ble_eq_true rfl⟩) ⟨RO.blind, va_recv hK hP (ci := 9) (q0 := 43) rfl rfl, RO.pre hPc hK2 hNW⟩ rfl rfl hl.1 rfl (lv_room (Nat.le_of_ble_eq_true rfl)) dL_law_2978 ⟨by show _ + 0 ≤ 601024; omega, by show _ + 0 ≤ 7293034; omega⟩) ?_
  refine lv_iload hx hb dL_law_2981 (lv_at hl 1 rfl) ?_
  refine lv_icmp_eq (tgt := 2988) hx hb dL_law_2983 (by decide) (fun c9 => ?_) (fun c9 => absurd h9k c9)
  refine lv_iload hx hb dL_law_2988 (lv_at hl 1 rfl) ?_
  refine lv_if_ne (tgt := 3005) hx hb dL_law_2990 (by decide) (fun c9 => ?_) (fun c9 => ?_)
  · refine lv_goto (tgt := 3556) hx hb dL_law_3005 (by decide) ?_
    refine W.widen (k := cells + 17) (n := slots + 322) (by omega) (by omega) ?_
    exact kk9 hs1 fl1 _ _ _ H locs hI9 (lv_sub hl [2, 3, 4, 5, 6] rfl) hP hD hS
  obtain ⟨u, hr9⟩ := Ans_z hA9 c9
  have hv9 := hout u hr9
  have hu9 := hval u hr9
  refine lv_aload_n hx hb dL_law_2993 rfl (lv_at hl 5 rfl) ?_
  refine lv_iconst (v := (0 : Int32)) hx hb dL_law_2994 (by decide) ?_
  refine va_lald (D := (dC, dI)) (f := fl1) hx hb hK hP 0 3 rfl rfl (inb_in rfl) dL_law_2995 ?_
  refine lv_iload hx hb dL_law_2996 (lv_at hl 0 rfl) ?_
  refine lv_i2l (v := (y.1).toInt64) hx hb dL_law_2998 rfl ?_
  refine W.lcmp hx hb dL_law_2999 ?_
  refine lv_if_eq (tgt := 3005) hx hb dL_law_3000 (by decide) (fun c7 => ?_) (fun c7 => absurd (lg_eq (hv9.trans (congrArg Int32.toInt64 hu9))) c7)
  refine lv_goto (tgt := 3556) hx hb dL_law_3005 (by decide) ?_
  refine W.widen (k := cells + 17) (n := slots + 322) (by omega) (by omega) ?_
  exact kk9 hs1 fl1 _ _ _ H locs hI9 (lv_sub hl [2, 3, 4, 5, 6] rfl) hP hD hS
