set_option maxHeartbeats 4000000 in
set_option maxRecDepth 100000 in
theorem lc_serve {p : Program} {l : Launch} {e : Env} {s : State} {m : MethodId} {below : List Frame} {meth : Method} {c : Code} {b L : Nat} {xs : Nat → Int32} {dC : Nat → ClassId} {dI : Nat → Nat → Nat} {cI cZ cS cL : ClassId} {A : Nat → Prop} {a am : Nat → Nat} {o : Nat} {Q : State → Prop} (X0 : LCx p l s m c b L xs dC dI cI cZ cS cL A) {Inv : Nat → (Nat → Option Mem) → Mem → Mem → Prop} (hSt : St_serve Inv) {n : Nat} (hn : n < 512) (hnL : 3 * n + 2 < L) (hL : L ≤ 1536) {hs : HS} {fl : Nat → Int64} {M K : Mem} (hI : Inv n (cts hs) M K) {ls : Array Slot} {H : Heap} {locs : List Loc} {cells slots : Nat} (hcs : cells + 17 ≤ 601024) (hss : slots + 322 ≤ 7293034) (hl : lv_has ls 9 [(0, .ref b), (1, .ref (a 0)), (2, .ref (am 0)), (3, .ref o), (4, .int (nI (3 * n)))]) (hP : va_P (dC, dI) vwCl (wLaw cI cZ cS cL hs o fl a M am K ++ RW cI cZ hs) H) (hD : va_D A (wLaw cI cZ cS cL hs o fl a M am K ++ RW cI cZ hs)) (hS : va_S A s.heap H locs) (kk9 : ∀ (hs' : HS) (fl' : Nat → Int64) (M' K' : Mem) (ls : Array Slot) (H : Heap) (locs : List Loc), Inv (n + 1) (cts hs') M' K' → lv_has ls 9 [(0, .ref b), (1, .ref (a 0)), (2, .ref (am 0)), (3, .ref o), (4, .int (nI (3 * n)))] → va_P (dC, dI) vwCl (wLaw cI cZ cS cL hs' o fl' a M' am K' ++ RW cI cZ hs') H → va_D A (wLaw cI cZ cS cL hs' o fl' a M' am K' ++ RW cI cZ hs') → va_S A s.heap H locs → W p l e room_1 s m #[Value.ref b] below meth c H locs (cells + 17) (slots + 322) Q (F0 m 3556 ls [])) : W p l e room_1 s m #[Value.ref b] below meth c H locs cells slots Q (F0 m 900 ls []) := by
  obtain ⟨hx, hb, hml, hown, hts, hK, hNW, hEX, hNC, hA, hXs, hbl, hbA, hst⟩ := X0
  have hK8 : va_K (dC, dI) vwCl (tys8 cI cZ cS) s := hK.sub (tys' := tys8 cI cZ cS) [0, 1, 2] rfl
  have hK2 : va_K (dC, dI) vwCl [(cI, .int), (cZ, .boolean)] s := hK.sub (tys' := [(cI, .int), (cZ, .boolean)]) [0, 1] rfl
  obtain ⟨r, kk, z2, z3, y, hf8, hA9, hC9, hf9, h9k, hval, hI9⟩ := hSt n (cts hs) M K (xs (3 * n + 1)) hn hI
  refine lv_aload_n hx hb dL_law_900 rfl (lv_at hl 1 rfl) ?_
  refine lv_aload_n hx hb dL_law_901 rfl (lv_at hl 0 rfl) ?_
  refine lv_iload hx hb dL_law_902 (lv_at hl 4 rfl) ?_
  refine lv_iconst (v := (1 : Int32)) hx hb dL_law_904 (by decide) ?_
  refine lv_iadd hx hb dL_law_905 ?_
  rw [show nI (3 * n) + (1 : Int32) = nI (3 * n + 1) from nI_add (3 * n) 1]
  refine va_sld hx hb hXs hbl hbA hS (vp_in_nI (by omega) (by omega)) dL_law_906 ?_
  rw [nI_clamp (show 3 * n + 1 < 2 ^ 31 by omega)]
  refine lv_aload_n hx hb dL_law_907 rfl (lv_at hl 3 rfl) ?_
  have hPc := hP.part (X := (wLaw cI cZ cS cL hs o fl a M am K)) (cx := (wL cI cZ cS cL (fS hs) (fG hs) o fl a M)) [0, 1, 2, 3, 4, 5, 6, 7, 8, 9, 10, 11, 12, 13, 14, 15, 16, 17, 18, 19, 20, 21, 22, 23, 24, 25, 26, 27, 28, 29, 30, 31, 32, 33, 34, 35, 36, 37, 38, 39, 40, 41, 42] rfl
  have hDc := hD.part (X := (wLaw cI cZ cS cL hs o fl a M am K)) (cx := (wL cI cZ cS cL (fS hs) (fG hs) o fl a M)) [0, 1, 2, 3, 4, 5, 6, 7, 8, 9, 10, 11, 12, 13, 14, 15, 16, 17, 18, 19, 20, 21, 22, 23, 24, 25, 26, 27, 28, 29, 30, 31, 32, 33, 34, 35, 36, 37, 38, 39, 40, 41, 42] (by decide) rfl
  have hFc := va_freeP (X := (wLaw cI cZ cS cL hs o fl a M am K)) (cx := (wL cI cZ cS cL (fS hs) (fG hs) o fl a M)) hD hS hA [0, 1, 2, 3, 4, 5, 6, 7, 8, 9, 10, 11, 12, 13, 14, 15, 16, 17, 18, 19, 20, 21, 22, 23, 24, 25, 26, 27, 28, 29, 30, 31, 32, 33, 34, 35, 36, 37, 38, 39, 40, 41, 42] rfl
  refine va_calli (vx_runSW (As := [.ref (a 0), .int ((xs (3 * n + 1))), .ref o]) (rest := []) ⟨hx, hb, hml, hown, hts⟩ (w_L_serve l hst dC dI cI cZ cS cL hs o fl a H.size M ((xs (3 * n + 1))) r kk z2 z3 hf8 hA9 hC9) (vx_cwSW 3 hts gL_law_L_serve rfl rfl rfl (by decide +kernel) ⟨Nat.le_of_ble_eq_true rfl, Nat.le_of_ble_eq_true rfl⟩) ⟨T9.blind, T9.pre hPc hK hDc hNW (hEX.at hS hFc) hNC⟩ rfl rfl hl.1 rfl (lv_room (Nat.le_of_ble_eq_true rfl)) dL_law_908 ⟨by show cells + 16 ≤ 601024; omega, by show slots + 316 ≤ 7293034; omega⟩) hS (fun q _ h => hFc q h) hFc (fun rv u t H1 locs ht hvm hw hB hz1 hk1 hS => ?_)
  obtain ⟨hw1, hw2, hout⟩ := hw
  obtain ⟨hs1, fl1⟩ := u
  have hw2 : cts hs1 = z3 := hw2
  rw [hw1]
  obtain ⟨hP1, hD1⟩ := hB
  rw [ht] at hP1
  obtain ⟨hP, hD⟩ := va_joinP (X := (wLaw cI cZ cS cL hs o fl a M am K)) (cx := (wL cI cZ cS cL (fS hs) (fG hs) o fl a M)) (wr := (wX9 cI cZ am K)) (rx := (wL cI cZ cS cL (fS hs1) (fG hs1) o fl1 a z2)) hP hD [0, 1, 2, 3, 4, 5, 6, 7, 8, 9, 10, 11, 12, 13, 14, 15, 16, 17, 18, 19, 20, 21, 22, 23, 24, 25, 26, 27, 28, 29, 30, 31, 32, 33, 34, 35, 36, 37, 38, 39, 40, 41, 42] [43, 44, 45, 46, 47, 48, 49, 50, 51] rfl rfl (by decide) (by decide) hk1 hFc hP1 hD1
  have hP := hP.part (cx := (wLaw cI cZ cS cL hs1 o fl1 a z2 am K)) [9, 10, 11, 12, 13, 14, 15, 16, 17, 18, 19, 20, 21, 22, 23, 24, 25, 26, 27, 28, 29, 30, 31, 32, 33, 34, 35, 36, 37, 38, 39, 40, 41, 42, 43, 44, 45, 46, 47, 48, 49, 50, 51, 0, 1, 2, 3, 4, 5, 6, 7, 8] rfl
  have hD := hD.part (cx := (wLaw cI cZ cS cL hs1 o fl1 a z2 am K)) [9, 10, 11, 12, 13, 14, 15, 16, 17, 18, 19, 20, 21, 22, 23, 24, 25, 26, 27, 28, 29, 30, 31, 32, 33, 34, 35, 36, 37, 38, 39, 40, 41, 42, 43, 44, 45, 46, 47, 48, 49, 50, 51, 0, 1, 2, 3, 4, 5, 6, 7, 8] (by decide) rfl
  generalize H1 = H at hP hS ⊢
  rw [← hw2] at hI9
  refine lv_istore (lv' := [(5, .int kk), (0, .ref b), (1, .ref (a 0)), (2, .ref (am 0)), (3, .ref o), (4, .int (nI (3 * n)))]) hx hb dL_law_911 hl (by decide) rfl (fun ls hl => ?_)
  refine lv_aload_n hx hb dL_law_913 rfl (lv_at hl 3 rfl) ?_
  refine lv_aload_n hx hb dL_law_914 rfl (lv_at hl 1 rfl) ?_
  refine lv_iload hx hb dL_law_915 (lv_at hl 5 rfl) ?_
  refine lv_iconst (v := (1 : Int32)) hx hb dL_law_917 (by decide) ?_
  refine lv_iadd hx hb dL_law_918 ?_
  rw [show nI (3 * n) + (1 : Int32) = nI (3 * n + 1) from nI_add (3 * n) 1]
  refine va_sld hx hb hXs hbl hbA hS (vp_in_nI (by omega) (by omega)) dL_law_919 ?_
  rw [nI_clamp (show 3 * n + 1 < 2 ^ 31 by omega)]
  have hPc := P_head (ws := (wLaw cI cZ cS cL hs1 o fl1 a z2 am K)) (ws' := (wX9 cI cZ am K)) hP [43, 44, 45, 46, 47, 48, 49, 50, 51] rfl
  have hDc := D_head (ws := (wLaw cI cZ cS cL hs1 o fl1 a z2 am K)) (ws' := (wX9 cI cZ am K)) hD [43, 44, 45, 46, 47, 48, 49, 50, 51] (by decide) rfl
  have hFc := va_free (wc := (wX9 cI cZ am K)) hD hS hA [43, 44, 45, 46, 47, 48, 49, 50, 51] rfl
  refine va_calli (va_runV (As := [.int ((xs (3 * n + 1)))]) (rest := []) ⟨hx, hb, hml, hown, hts⟩ (c_X9_serve l dC dI cI cZ am H.size K ((xs (3 * n + 1))) y hf9) (cwV 1 hts gL_law_X9_serve rfl rfl rfl (by decide +kernel) ⟨Nat.le_of_ble_eq_true rfl, Nat.le_of_ble_eq_true rfl⟩) ⟨WR.blind, va_recv hK hP (ci := 9) (q0 := 43) rfl rfl, WR.pre hPc hK2 hDc hNW⟩ rfl rfl hl.1 rfl (lv_room (Nat.le_of_ble_eq_true rfl)) dL_law_920 ⟨by show _ + 0 ≤ 601024; omega, by show _ + 0 ≤ 7293034; omega⟩) hS (fun q _ h => hFc q h) hFc (fun rv u t H1 locs ht hvm hw hB hz1 hk1 hS => ?_)
  obtain ⟨hP1, hD1⟩ := hB
  rw [ht] at hP1
  rw [hw]
  obtain ⟨hP, hD⟩ := join_app (ws := (wLaw cI cZ cS cL hs1 o fl1 a z2 am K)) (wr := (wL cI cZ cS cL (fS hs1) (fG hs1) o fl1 a z2)) (w1 := (wX9 cI cZ am (sr (sr (sr (sr K 0 (y.2 0)) 1 (y.2 1)) 3 (y.2 3)) 8 (y.2 8)))) hP hD [43, 44, 45, 46, 47, 48, 49, 50, 51] [0, 1, 2, 3, 4, 5, 6, 7, 8, 9, 10, 11, 12, 13, 14, 15, 16, 17, 18, 19, 20, 21, 22, 23, 24, 25, 26, 27, 28, 29, 30, 31, 32, 33, 34, 35, 36, 37, 38, 39, 40, 41, 42] rfl rfl (by decide) (by decide) hk1 hFc hP1 hD1
  have hP : va_P (dC, dI) vwCl ((wLaw cI cZ cS cL hs1 o fl1 a z2 am (sr (sr (sr (sr K 0 (y.2 0)) 1 (y.2 1)) 3 (y.2 3)) 8 (y.2 8))) ++ RW cI cZ hs1) H1 := hP
  have hD : va_D A ((wLaw cI cZ cS cL hs1 o fl1 a z2 am (sr (sr (sr (sr K 0 (y.2 0)) 1 (y.2 1)) 3 (y.2 3)) 8 (y.2 8))) ++ RW cI cZ hs1) := hD
  generalize H1 = H at hP hS ⊢
  refine lv_istore (lv' := [(6, .int y.1), (5, .int kk), (0, .ref b), (1, .ref (a 0)), (2, .ref (am 0)), (3, .ref o), (4, .int (nI (3 * n)))]) hx hb dL_law_923 hl (by decide) rfl (fun ls hl => ?_)
  refine lv_aload_n hx hb dL_law_925 rfl (lv_at hl 4 rfl) ?_
  have hPc := P_head (ws := (wLaw cI cZ cS cL hs1 o fl1 a z2 am (sr (sr (sr (sr K 0 (y.2 0)) 1 (y.2 1)) 3 (y.2 3)) 8 (y.2 8)))) (ws' := (wX9 cI cZ am (sr (sr (sr (sr K 0 (y.2 0)) 1 (y.2 1)) 3 (y.2 3)) 8 (y.2 8)))) hP [43, 44, 45, 46, 47, 48, 49, 50, 51] rfl
  refine cRO (W.runV (As := []) (rest := []) ⟨hx, hb, hml, hown, hts⟩ (c_X9_thrown l dC dI cI cZ am (sr (sr (sr (sr K 0 (y.2 0)) 1 (y.2 1)) 3 (y.2 3)) 8 (y.2 8)) ((sr (sr (sr (sr K 0 (y.2 0)) 1 (y.2 1)) 3 (y.2 3)) 8 (y.2 8)) 0 0) rfl) (cwV 0 hts gL_law_X9_thrown rfl rfl rfl (by decide +kernel) ⟨Nat.le_of_ble_eq_true rfl, Nat.le_of_ble_eq_true rfl⟩) ⟨RO.blind, va_recv hK hP (ci := 9) (q0 := 43) rfl rfl, RO.pre hPc hK2 hNW⟩ rfl rfl hl.1 rfl (lv_room (Nat.le_of_ble_eq_true rfl)) dL_law_926 ⟨by show _ + 0 ≤ 601024; omega, by show _ + 0 ≤ 7293034; omega⟩) ?_
  refine lv_iload hx hb dL_law_929 (lv_at hl 1 rfl) ?_
  refine lv_icmp_eq (tgt := 936) hx hb dL_law_931 (by decide) (fun c9 => ?_) (fun c9 => absurd h9k c9)
  refine lv_iload hx hb dL_law_936 (lv_at hl 1 rfl) ?_
  refine lv_if_ne (tgt := 953) hx hb dL_law_938 (by decide) (fun c9 => ?_) (fun c9 => ?_)
  · refine lv_goto (tgt := 3556) hx hb dL_law_953 (by decide) ?_
    refine W.widen (k := cells + 17) (n := slots + 322) (by omega) (by omega) ?_
    exact kk9 hs1 fl1 _ _ _ H locs hI9 (lv_sub hl [2, 3, 4, 5, 6] rfl) hP hD hS
  obtain ⟨u, hr9⟩ := Ans_z hA9 c9
  have hv9 := hout u hr9
  have hu9 := hval u hr9
  refine lv_aload_n hx hb dL_law_941 rfl (lv_at hl 5 rfl) ?_
  refine lv_iconst (v := (0 : Int32)) hx hb dL_law_942 (by decide) ?_
  refine va_lald (D := (dC, dI)) (f := fl1) hx hb hK hP 0 3 rfl rfl (inb_in rfl) dL_law_943 ?_
  refine lv_iload hx hb dL_law_944 (lv_at hl 0 rfl) ?_
  refine lv_i2l (v := (y.1).toInt64) hx hb dL_law_946 rfl ?_
  refine W.lcmp hx hb dL_law_947 ?_
  refine lv_if_eq (tgt := 953) hx hb dL_law_948 (by decide) (fun c7 => ?_) (fun c7 => absurd (lg_eq (hv9.trans (congrArg Int32.toInt64 hu9))) c7)
  refine lv_goto (tgt := 3556) hx hb dL_law_953 (by decide) ?_
  refine W.widen (k := cells + 17) (n := slots + 322) (by omega) (by omega) ?_
  exact kk9 hs1 fl1 _ _ _ H locs hI9 (lv_sub hl [2, 3, 4, 5, 6] rfl) hP hD hS
set_option maxHeartbeats 4000000 in
set_option maxRecDepth 100000 in
theorem lc_serveAll {p : Program} {l : Launch} {e : Env} {s : State} {m : MethodId} {below : List Frame} {meth : Method} {c : Code} {b L : Nat} {xs : Nat → Int32} {dC : Nat → ClassId} {dI : Nat → Nat → Nat} {cI cZ cS cL : ClassId} {A : Nat → Prop} {a am : Nat → Nat} {o : Nat} {Q : State → Prop} (X0 : LCx p l s m c b L xs dC dI cI cZ cS cL A) {Inv : Nat → (Nat → Option Mem) → Mem → Mem → Prop} (hSt : St_serveAll Inv) {n : Nat} (hn : n < 512) (hnL : 3 * n + 2 < L) (hL : L ≤ 1536) {hs : HS} {fl : Nat → Int64} {M K : Mem} (hI : Inv n (cts hs) M K) {ls : Array Slot} {H : Heap} {locs : List Loc} {cells slots : Nat} (hcs : cells + 17 ≤ 601024) (hss : slots + 322 ≤ 7293034) (hl : lv_has ls 9 [(0, .ref b), (1, .ref (a 0)), (2, .ref (am 0)), (3, .ref o), (4, .int (nI (3 * n)))]) (hP : va_P (dC, dI) vwCl (wLaw cI cZ cS cL hs o fl a M am K ++ RW cI cZ hs) H) (hD : va_D A (wLaw cI cZ cS cL hs o fl a M am K ++ RW cI cZ hs)) (hS : va_S A s.heap H locs) (kk9 : ∀ (hs' : HS) (fl' : Nat → Int64) (M' K' : Mem) (ls : Array Slot) (H : Heap) (locs : List Loc), Inv (n + 1) (cts hs') M' K' → lv_has ls 9 [(0, .ref b), (1, .ref (a 0)), (2, .ref (am 0)), (3, .ref o), (4, .int (nI (3 * n)))] → va_P (dC, dI) vwCl (wLaw cI cZ cS cL hs' o fl' a M' am K' ++ RW cI cZ hs') H → va_D A (wLaw cI cZ cS cL hs' o fl' a M' am K' ++ RW cI cZ hs') → va_S A s.heap H locs → W p l e room_1 s m #[Value.ref b] below meth c H locs (cells + 17) (slots + 322) Q (F0 m 3556 ls [])) : W p l e room_1 s m #[Value.ref b] below meth c H locs cells slots Q (F0 m 956 ls []) := by
  obtain ⟨hx, hb, hml, hown, hts, hK, hNW, hEX, hNC, hA, hXs, hbl, hbA, hst⟩ := X0
  have hK8 : va_K (dC, dI) vwCl (tys8 cI cZ cS) s := hK.sub (tys' := tys8 cI cZ cS) [0, 1, 2] rfl
  have hK2 : va_K (dC, dI) vwCl [(cI, .int), (cZ, .boolean)] s := hK.sub (tys' := [(cI, .int), (cZ, .boolean)]) [0, 1] rfl
  obtain ⟨r, kk, z2, z3, y, hf8, hA9, hC9, hf9, h9k, hval, hI9⟩ := hSt n (cts hs) M K  hn hI
  refine lv_aload_n hx hb dL_law_956 rfl (lv_at hl 1 rfl) ?_
  refine lv_aload_n hx hb dL_law_957 rfl (lv_at hl 3 rfl) ?_
  have hPc := hP.part (X := (wLaw cI cZ cS cL hs o fl a M am K)) (cx := (wL cI cZ cS cL (fS hs) (fG hs) o fl a M)) [0, 1, 2, 3, 4, 5, 6, 7, 8, 9, 10, 11, 12, 13, 14, 15, 16, 17, 18, 19, 20, 21, 22, 23, 24, 25, 26, 27, 28, 29, 30, 31, 32, 33, 34, 35, 36, 37, 38, 39, 40, 41, 42] rfl
  have hDc := hD.part (X := (wLaw cI cZ cS cL hs o fl a M am K)) (cx := (wL cI cZ cS cL (fS hs) (fG hs) o fl a M)) [0, 1, 2, 3, 4, 5, 6, 7, 8, 9, 10, 11, 12, 13, 14, 15, 16, 17, 18, 19, 20, 21, 22, 23, 24, 25, 26, 27, 28, 29, 30, 31, 32, 33, 34, 35, 36, 37, 38, 39, 40, 41, 42] (by decide) rfl
  have hFc := va_freeP (X := (wLaw cI cZ cS cL hs o fl a M am K)) (cx := (wL cI cZ cS cL (fS hs) (fG hs) o fl a M)) hD hS hA [0, 1, 2, 3, 4, 5, 6, 7, 8, 9, 10, 11, 12, 13, 14, 15, 16, 17, 18, 19, 20, 21, 22, 23, 24, 25, 26, 27, 28, 29, 30, 31, 32, 33, 34, 35, 36, 37, 38, 39, 40, 41, 42] rfl
  refine va_calli (vx_runSW (As := [.ref (a 0), .ref o]) (rest := []) ⟨hx, hb, hml, hown, hts⟩ (w_L_serveAll l hst dC dI cI cZ cS cL hs o fl a H.size M r kk z2 z3 hf8 hA9 hC9) (vx_cwSW 2 hts gL_law_L_serveAll rfl rfl rfl (by decide +kernel) ⟨Nat.le_of_ble_eq_true rfl, Nat.le_of_ble_eq_true rfl⟩) ⟨T9.blind, T9.pre hPc hK hDc hNW (hEX.at hS hFc) hNC⟩ rfl rfl hl.1 rfl (lv_room (Nat.le_of_ble_eq_true rfl)) dL_law_958 ⟨by show cells + 16 ≤ 601024; omega, by show slots + 316 ≤ 7293034; omega⟩) hS (fun q _ h => hFc q h) hFc (fun rv u t H1 locs ht hvm hw hB hz1 hk1 hS => ?_)
  obtain ⟨hw1, hw2, hout⟩ := hw
  obtain ⟨hs1, fl1⟩ := u
  have hw2 : cts hs1 = z3 := hw2
  rw [hw1]
  obtain ⟨hP1, hD1⟩ := hB
  rw [ht] at hP1
  obtain ⟨hP, hD⟩ := va_joinP (X := (wLaw cI cZ cS cL hs o fl a M am K)) (cx := (wL cI cZ cS cL (fS hs) (fG hs) o fl a M)) (wr := (wX9 cI cZ am K)) (rx := (wL cI cZ cS cL (fS hs1) (fG hs1) o fl1 a z2)) hP hD [0, 1, 2, 3, 4, 5, 6, 7, 8, 9, 10, 11, 12, 13, 14, 15, 16, 17, 18, 19, 20, 21, 22, 23, 24, 25, 26, 27, 28, 29, 30, 31, 32, 33, 34, 35, 36, 37, 38, 39, 40, 41, 42] [43, 44, 45, 46, 47, 48, 49, 50, 51] rfl rfl (by decide) (by decide) hk1 hFc hP1 hD1
  have hP := hP.part (cx := (wLaw cI cZ cS cL hs1 o fl1 a z2 am K)) [9, 10, 11, 12, 13, 14, 15, 16, 17, 18, 19, 20, 21, 22, 23, 24, 25, 26, 27, 28, 29, 30, 31, 32, 33, 34, 35, 36, 37, 38, 39, 40, 41, 42, 43, 44, 45, 46, 47, 48, 49, 50, 51, 0, 1, 2, 3, 4, 5, 6, 7, 8] rfl
  have hD := hD.part (cx := (wLaw cI cZ cS cL hs1 o fl1 a z2 am K)) [9, 10, 11, 12, 13, 14, 15, 16, 17, 18, 19, 20, 21, 22, 23, 24, 25, 26, 27, 28, 29, 30, 31, 32, 33, 34, 35, 36, 37, 38, 39, 40, 41, 42, 43, 44, 45, 46, 47, 48, 49, 50, 51, 0, 1, 2, 3, 4, 5, 6, 7, 8] (by decide) rfl
  generalize H1 = H at hP hS ⊢
  rw [← hw2] at hI9
  refine lv_istore (lv' := [(5, .int kk), (0, .ref b), (1, .ref (a 0)), (2, .ref (am 0)), (3, .ref o), (4, .int (nI (3 * n)))]) hx hb dL_law_961 hl (by decide) rfl (fun ls hl => ?_)
  refine lv_aload_n hx hb dL_law_963 rfl (lv_at hl 3 rfl) ?_
  have hPc := P_head (ws := (wLaw cI cZ cS cL hs1 o fl1 a z2 am K)) (ws' := (wX9 cI cZ am K)) hP [43, 44, 45, 46, 47, 48, 49, 50, 51] rfl
  have hDc := D_head (ws := (wLaw cI cZ cS cL hs1 o fl1 a z2 am K)) (ws' := (wX9 cI cZ am K)) hD [43, 44, 45, 46, 47, 48, 49, 50, 51] (by decide) rfl
  have hFc := va_free (wc := (wX9 cI cZ am K)) hD hS hA [43, 44, 45, 46, 47, 48, 49, 50, 51] rfl
  refine va_calli (va_runV (As := []) (rest := []) ⟨hx, hb, hml, hown, hts⟩ (c_X9_serveAll l dC dI cI cZ am H.size K y hf9) (cwV 0 hts gL_law_X9_serveAll rfl rfl rfl (by decide +kernel) ⟨Nat.le_of_ble_eq_true rfl, Nat.le_of_ble_eq_true rfl⟩) ⟨WR.blind, va_recv hK hP (ci := 9) (q0 := 43) rfl rfl, WR.pre hPc hK2 hDc hNW⟩ rfl rfl hl.1 rfl (lv_room (Nat.le_of_ble_eq_true rfl)) dL_law_964 ⟨by show _ + 0 ≤ 601024; omega, by show _ + 0 ≤ 7293034; omega⟩) hS (fun q _ h => hFc q h) hFc (fun rv u t H1 locs ht hvm hw hB hz1 hk1 hS => ?_)
  obtain ⟨hP1, hD1⟩ := hB
  rw [ht] at hP1
  rw [hw]
  obtain ⟨hP, hD⟩ := join_app (ws := (wLaw cI cZ cS cL hs1 o fl1 a z2 am K)) (wr := (wL cI cZ cS cL (fS hs1) (fG hs1) o fl1 a z2)) (w1 := (wX9 cI cZ am (sr (sr (sr (sr K 0 (y.2 0)) 1 (y.2 1)) 3 (y.2 3)) 8 (y.2 8)))) hP hD [43, 44, 45, 46, 47, 48, 49, 50, 51] [0, 1, 2, 3, 4, 5, 6, 7, 8, 9, 10, 11, 12, 13, 14, 15, 16, 17, 18, 19, 20, 21, 22, 23, 24, 25, 26, 27, 28, 29, 30, 31, 32, 33, 34, 35, 36, 37, 38, 39, 40, 41, 42] rfl rfl (by decide) (by decide) hk1 hFc hP1 hD1
  have hP : va_P (dC, dI) vwCl ((wLaw cI cZ cS cL hs1 o fl1 a z2 am (sr (sr (sr (sr K 0 (y.2 0)) 1 (y.2 1)) 3 (y.2 3)) 8 (y.2 8))) ++ RW cI cZ hs1) H1 := hP
  have hD : va_D A ((wLaw cI cZ cS cL hs1 o fl1 a z2 am (sr (sr (sr (sr K 0 (y.2 0)) 1 (y.2 1)) 3 (y.2 3)) 8 (y.2 8))) ++ RW cI cZ hs1) := hD
  generalize H1 = H at hP hS ⊢
  refine lv_istore (lv' := [(6, .int y.1), (5, .int kk), (0, .ref b), (1, .ref (a 0)), (2, .ref (am 0)), (3, .ref o), (4, .int (nI (3 * n)))]) hx hb dL_law_967 hl (by decide) rfl (fun ls hl => ?_)
  refine lv_aload_n hx hb dL_law_969 rfl (lv_at hl 4 rfl) ?_
  have hPc := P_head (ws := (wLaw cI cZ cS cL hs1 o fl1 a z2 am (sr (sr (sr (sr K 0 (y.2 0)) 1 (y.2 1)) 3 (y.2 3)) 8 (y.2 8)))) (ws' := (wX9 cI cZ am (sr (sr (sr (sr K 0 (y.2 0)) 1 (y.2 1)) 3 (y.2 3)) 8 (y.2 8)))) hP [43, 44, 45, 46, 47, 48, 49, 50, 51] rfl
  refine cRO (W.runV (As := []) (rest := []) ⟨hx, hb, hml, hown, hts⟩ (c_X9_thrown l dC dI cI cZ am (sr (sr (sr (sr K 0 (y.2 0)) 1 (y.2 1)) 3 (y.2 3)) 8 (y.2 8)) ((sr (sr (sr (sr K 0 (y.2 0)) 1 (y.2 1)) 3 (y.2 3)) 8 (y.2 8)) 0 0) rfl) (cwV 0 hts gL_law_X9_thrown rfl rfl rfl (by decide +kernel) ⟨Nat.le_of_ble_eq_true rfl, Nat.le_of_ble_eq_true rfl⟩) ⟨RO.blind, va_recv hK hP (ci := 9) (q0 := 43) rfl rfl, RO.pre hPc hK2 hNW⟩ rfl rfl hl.1 rfl (lv_room (Nat.le_of_ble_eq_true rfl)) dL_law_970 ⟨by show _ + 0 ≤ 601024; omega, by show _ + 0 ≤ 7293034; omega⟩) ?_
  refine lv_iload hx hb dL_law_973 (lv_at hl 1 rfl) ?_
  refine lv_icmp_eq (tgt := 980) hx hb dL_law_975 (by decide) (fun c9 => ?_) (fun c9 => absurd h9k c9)
  refine lv_iload hx hb dL_law_980 (lv_at hl 1 rfl) ?_
  refine lv_if_ne (tgt := 997) hx hb dL_law_982 (by decide) (fun c9 => ?_) (fun c9 => ?_)
  · refine lv_goto (tgt := 3556) hx hb dL_law_997 (by decide) ?_
    refine W.widen (k := cells + 17) (n := slots + 322) (by omega) (by omega) ?_
    exact kk9 hs1 fl1 _ _ _ H locs hI9 (lv_sub hl [2, 3, 4, 5, 6] rfl) hP hD hS
  obtain ⟨u, hr9⟩ := Ans_z hA9 c9
  have hv9 := hout u hr9
  have hu9 := hval u hr9
  refine lv_aload_n hx hb dL_law_985 rfl (lv_at hl 5 rfl) ?_
  refine lv_iconst (v := (0 : Int32)) hx hb dL_law_986 (by decide) ?_
  refine va_lald (D := (dC, dI)) (f := fl1) hx hb hK hP 0 3 rfl rfl (inb_in rfl) dL_law_987 ?_
  refine lv_iload hx hb dL_law_988 (lv_at hl 0 rfl) ?_
  refine lv_i2l (v := (y.1).toInt64) hx hb dL_law_990 rfl ?_
  refine W.lcmp hx hb dL_law_991 ?_
  refine lv_if_eq (tgt := 997) hx hb dL_law_992 (by decide) (fun c7 => ?_) (fun c7 => absurd (lg_eq (hv9.trans (congrArg Int32.toInt64 hu9))) c7)
  refine lv_goto (tgt := 3556) hx hb dL_law_997 (by decide) ?_
  refine W.widen (k := cells + 17) (n := slots + 322) (by omega) (by omega) ?_
  exact kk9 hs1 fl1 _ _ _ H locs hI9 (lv_sub hl [2, 3, 4, 5, 6] rfl) hP hD hS
set_option maxHeartbeats 4000000 in
set_option maxRecDepth 100000 in
theorem lc_changeLeast {p : Program} {l : Launch} {e : Env} {s : State} {m : MethodId} {below : List Frame} {meth : Method} {c : Code} {b L : Nat} {xs : Nat → Int32} {dC : Nat → ClassId} {dI : Nat → Nat → Nat} {cI cZ cS cL : ClassId} {A : Nat → Prop} {a am : Nat → Nat} {o : Nat} {Q : State → Prop} (X0 : LCx p l s m c b L xs dC dI cI cZ cS cL A) {Inv : Nat → (Nat → Option Mem) → Mem → Mem → Prop} (hSt : St_changeLeast Inv) {n : Nat} (hn : n < 512) (hnL : 3 * n + 2 < L) (hL : L ≤ 1536) {hs : HS} {fl : Nat → Int64} {M K : Mem} (hI : Inv n (cts hs) M K) {ls : Array Slot} {H : Heap} {locs : List Loc} {cells slots : Nat} (hcs : cells + 17 ≤ 601024) (hss : slots + 322 ≤ 7293034) (hl : lv_has ls 9 [(0, .ref b), (1, .ref (a 0)), (2, .ref (am 0)), (3, .ref o), (4, .int (nI (3 * n)))]) (hP : va_P (dC, dI) vwCl (wLaw cI cZ cS cL hs o fl a M am K ++ RW cI cZ hs) H) (hD : va_D A (wLaw cI cZ cS cL hs o fl a M am K ++ RW cI cZ hs)) (hS : va_S A s.heap H locs) (kk9 : ∀ (hs' : HS) (fl' : Nat → Int64) (M' K' : Mem) (ls : Array Slot) (H : Heap) (locs : List Loc), Inv (n + 1) (cts hs') M' K' → lv_has ls 9 [(0, .ref b), (1, .ref (a 0)), (2, .ref (am 0)), (3, .ref o), (4, .int (nI (3 * n)))] → va_P (dC, dI) vwCl (wLaw cI cZ cS cL hs' o fl' a M' am K' ++ RW cI cZ hs') H → va_D A (wLaw cI cZ cS cL hs' o fl' a M' am K' ++ RW cI cZ hs') → va_S A s.heap H locs → W p l e room_1 s m #[Value.ref b] below meth c H locs (cells + 17) (slots + 322) Q (F0 m 3556 ls [])) : W p l e room_1 s m #[Value.ref b] below meth c H locs cells slots Q (F0 m 1000 ls []) := by
  obtain ⟨hx, hb, hml, hown, hts, hK, hNW, hEX, hNC, hA, hXs, hbl, hbA, hst⟩ := X0
  have hK8 : va_K (dC, dI) vwCl (tys8 cI cZ cS) s := hK.sub (tys' := tys8 cI cZ cS) [0, 1, 2] rfl
  have hK2 : va_K (dC, dI) vwCl [(cI, .int), (cZ, .boolean)] s := hK.sub (tys' := [(cI, .int), (cZ, .boolean)]) [0, 1] rfl
  obtain ⟨r, kk, z2, z3, y, hf8, hA9, hC9, hf9, h9k, hval, hI9⟩ := hSt n (cts hs) M K (xs (3 * n + 1)) (xs (3 * n + 2)) hn hI
  refine lv_aload_n hx hb dL_law_1000 rfl (lv_at hl 1 rfl) ?_
  refine lv_aload_n hx hb dL_law_1001 rfl (lv_at hl 0 rfl) ?_
  refine lv_iload hx hb dL_law_1002 (lv_at hl 4 rfl) ?_
  refine lv_iconst (v := (1 : Int32)) hx hb dL_law_1004 (by decide) ?_
  refine lv_iadd hx hb dL_law_1005 ?_
  rw [show nI (3 * n) + (1 : Int32) = nI (3 * n + 1) from nI_add (3 * n) 1]
  refine va_sld hx hb hXs hbl hbA hS (vp_in_nI (by omega) (by omega)) dL_law_1006 ?_
  rw [nI_clamp (show 3 * n + 1 < 2 ^ 31 by omega)]
  refine lv_aload_n hx hb dL_law_1007 rfl (lv_at hl 0 rfl) ?_
  refine lv_iload hx hb dL_law_1008 (lv_at hl 4 rfl) ?_
  refine lv_iconst (v := (2 : Int32)) hx hb dL_law_1010 (by decide) ?_
  refine lv_iadd hx hb dL_law_1011 ?_
  rw [show nI (3 * n) + (2 : Int32) = nI (3 * n + 2) from nI_add (3 * n) 2]
  refine va_sld hx hb hXs hbl hbA hS (vp_in_nI (by omega) (by omega)) dL_law_1012 ?_
  rw [nI_clamp (show 3 * n + 2 < 2 ^ 31 by omega)]
  refine lv_aload_n hx hb dL_law_1013 rfl (lv_at hl 3 rfl) ?_
  have hPc := hP.part (X := (wLaw cI cZ cS cL hs o fl a M am K)) (cx := (wL cI cZ cS cL (fS hs) (fG hs) o fl a M)) [0, 1, 2, 3, 4, 5, 6, 7, 8, 9, 10, 11, 12, 13, 14, 15, 16, 17, 18, 19, 20, 21, 22, 23, 24, 25, 26, 27, 28, 29, 30, 31, 32, 33, 34, 35, 36, 37, 38, 39, 40, 41, 42] rfl
  have hDc := hD.part (X := (wLaw cI cZ cS cL hs o fl a M am K)) (cx := (wL cI cZ cS cL (fS hs) (fG hs) o fl a M)) [0, 1, 2, 3, 4, 5, 6, 7, 8, 9, 10, 11, 12, 13, 14, 15, 16, 17, 18, 19, 20, 21, 22, 23, 24, 25, 26, 27, 28, 29, 30, 31, 32, 33, 34, 35, 36, 37, 38, 39, 40, 41, 42] (by decide) rfl
  have hFc := va_freeP (X := (wLaw cI cZ cS cL hs o fl a M am K)) (cx := (wL cI cZ cS cL (fS hs) (fG hs) o fl a M)) hD hS hA [0, 1, 2, 3, 4, 5, 6, 7, 8, 9, 10, 11, 12, 13, 14, 15, 16, 17, 18, 19, 20, 21, 22, 23, 24, 25, 26, 27, 28, 29, 30, 31, 32, 33, 34, 35, 36, 37, 38, 39, 40, 41, 42] rfl
  refine va_calli (vx_runSW (As := [.ref (a 0), .int ((xs (3 * n + 1))), .int ((xs (3 * n + 2))), .ref o]) (rest := []) ⟨hx, hb, hml, hown, hts⟩ (w_L_changeLeast l hst dC dI cI cZ cS cL hs o fl a H.size M ((xs (3 * n + 1))) ((xs (3 * n + 2))) r kk z2 z3 hf8 hA9 hC9) (vx_cwSW 4 hts gL_law_L_changeLeast rfl rfl rfl (by decide +kernel) ⟨Nat.le_of_ble_eq_true rfl, Nat.le_of_ble_eq_true rfl⟩) ⟨T9.blind, T9.pre hPc hK hDc hNW (hEX.at hS hFc) hNC⟩ rfl rfl hl.1 rfl (lv_room (Nat.le_of_ble_eq_true rfl)) dL_law_1014 ⟨by show cells + 16 ≤ 601024; omega, by show slots + 316 ≤ 7293034; omega⟩) hS (fun q _ h => hFc q h) hFc (fun rv u t H1 locs ht hvm hw hB hz1 hk1 hS => ?_)
  obtain ⟨hw1, hw2, hout⟩ := hw
  obtain ⟨hs1, fl1⟩ := u
  have hw2 : cts hs1 = z3 := hw2
  rw [hw1]
  obtain ⟨hP1, hD1⟩ := hB
  rw [ht] at hP1
  obtain ⟨hP, hD⟩ := va_joinP (X := (wLaw cI cZ cS cL hs o fl a M am K)) (cx := (wL cI cZ cS cL (fS hs) (fG hs) o fl a M)) (wr := (wX9 cI cZ am K)) (rx := (wL cI cZ cS cL (fS hs1) (fG hs1) o fl1 a z2)) hP hD [0, 1, 2, 3, 4, 5, 6, 7, 8, 9, 10, 11, 12, 13, 14, 15, 16, 17, 18, 19, 20, 21, 22, 23, 24, 25, 26, 27, 28, 29, 30, 31, 32, 33, 34, 35, 36, 37, 38, 39, 40, 41, 42] [43, 44, 45, 46, 47, 48, 49, 50, 51] rfl rfl (by decide) (by decide) hk1 hFc hP1 hD1
  have hP := hP.part (cx := (wLaw cI cZ cS cL hs1 o fl1 a z2 am K)) [9, 10, 11, 12, 13, 14, 15, 16, 17, 18, 19, 20, 21, 22, 23, 24, 25, 26, 27, 28, 29, 30, 31, 32, 33, 34, 35, 36, 37, 38, 39, 40, 41, 42, 43, 44, 45, 46, 47, 48, 49, 50, 51, 0, 1, 2, 3, 4, 5, 6, 7, 8] rfl
  have hD := hD.part (cx := (wLaw cI cZ cS cL hs1 o fl1 a z2 am K)) [9, 10, 11, 12, 13, 14, 15, 16, 17, 18, 19, 20, 21, 22, 23, 24, 25, 26, 27, 28, 29, 30, 31, 32, 33, 34, 35, 36, 37, 38, 39, 40, 41, 42, 43, 44, 45, 46, 47, 48, 49, 50, 51, 0, 1, 2, 3, 4, 5, 6, 7, 8] (by decide) rfl
  generalize H1 = H at hP hS ⊢
  rw [← hw2] at hI9
  refine lv_istore (lv' := [(5, .int kk), (0, .ref b), (1, .ref (a 0)), (2, .ref (am 0)), (3, .ref o), (4, .int (nI (3 * n)))]) hx hb dL_law_1017 hl (by decide) rfl (fun ls hl => ?_)
  refine lv_aload_n hx hb dL_law_1019 rfl (lv_at hl 3 rfl) ?_
  refine lv_aload_n hx hb dL_law_1020 rfl (lv_at hl 1 rfl) ?_
  refine lv_iload hx hb dL_law_1021 (lv_at hl 5 rfl) ?_
  refine lv_iconst (v := (1 : Int32)) hx hb dL_law_1023 (by decide) ?_
  refine lv_iadd hx hb dL_law_1024 ?_
  rw [show nI (3 * n) + (1 : Int32) = nI (3 * n + 1) from nI_add (3 * n) 1]
  refine va_sld hx hb hXs hbl hbA hS (vp_in_nI (by omega) (by omega)) dL_law_1025 ?_
  rw [nI_clamp (show 3 * n + 1 < 2 ^ 31 by omega)]
  refine lv_aload_n hx hb dL_law_1026 rfl (lv_at hl 1 rfl) ?_
  refine lv_iload hx hb dL_law_1027 (lv_at hl 5 rfl) ?_
  refine lv_iconst (v := (2 : Int32)) hx hb dL_law_1029 (by decide) ?_
  refine lv_iadd hx hb dL_law_1030 ?_
  rw [show nI (3 * n) + (2 : Int32) = nI (3 * n + 2) from nI_add (3 * n) 2]
  refine va_sld hx hb hXs hbl hbA hS (vp_in_nI (by omega) (by omega)) dL_law_1031 ?_
  rw [nI_clamp (show 3 * n + 2 < 2 ^ 31 by omega)]
  have hPc := P_head (ws := (wLaw cI cZ cS cL hs1 o fl1 a z2 am K)) (ws' := (wX9 cI cZ am K)) hP [43, 44, 45, 46, 47, 48, 49, 50, 51] rfl
  have hDc := D_head (ws := (wLaw cI cZ cS cL hs1 o fl1 a z2 am K)) (ws' := (wX9 cI cZ am K)) hD [43, 44, 45, 46, 47, 48, 49, 50, 51] (by decide) rfl
  have hFc := va_free (wc := (wX9 cI cZ am K)) hD hS hA [43, 44, 45, 46, 47, 48, 49, 50, 51] rfl
  refine va_calli (va_runV (As := [.int ((xs (3 * n + 1))), .int ((xs (3 * n + 2)))]) (rest := []) ⟨hx, hb, hml, hown, hts⟩ (c_X9_changeLeast l dC dI cI cZ am H.size K ((xs (3 * n + 1))) ((xs (3 * n + 2))) y hf9) (cwV 2 hts gL_law_X9_changeLeast rfl rfl rfl (by decide +kernel) ⟨Nat.le_of_ble_eq_true rfl, Nat.le_of_ble_eq_true rfl⟩) ⟨WR.blind, va_recv hK hP (ci := 9) (q0 := 43) rfl rfl, WR.pre hPc hK2 hDc hNW⟩ rfl rfl hl.1 rfl (lv_room (Nat.le_of_ble_eq_true rfl)) dL_law_1032 ⟨by show _ + 0 ≤ 601024; omega, by show _ + 0 ≤ 7293034; omega⟩) hS (fun q _ h => hFc q h) hFc (fun rv u t H1 locs ht hvm hw hB hz1 hk1 hS => ?_)
  obtain ⟨hP1, hD1⟩ := hB
  rw [ht] at hP1
  rw [hw]
  obtain ⟨hP, hD⟩ := join_app (ws := (wLaw cI cZ cS cL hs1 o fl1 a z2 am K)) (wr := (wL cI cZ cS cL (fS hs1) (fG hs1) o fl1 a z2)) (w1 := (wX9 cI cZ am (sr (sr (sr K 0 (y.2 0)) 1 (y.2 1)) 3 (y.2 3)))) hP hD [43, 44, 45, 46, 47, 48, 49, 50, 51] [0, 1, 2, 3, 4, 5, 6, 7, 8, 9, 10, 11, 12, 13, 14, 15, 16, 17, 18, 19, 20, 21, 22, 23, 24, 25, 26, 27, 28, 29, 30, 31, 32, 33, 34, 35, 36, 37, 38, 39, 40, 41, 42] rfl rfl (by decide) (by decide) hk1 hFc hP1 hD1
  have hP : va_P (dC, dI) vwCl ((wLaw cI cZ cS cL hs1 o fl1 a z2 am (sr (sr (sr K 0 (y.2 0)) 1 (y.2 1)) 3 (y.2 3))) ++ RW cI cZ hs1) H1 := hP
  have hD : va_D A ((wLaw cI cZ cS cL hs1 o fl1 a z2 am (sr (sr (sr K 0 (y.2 0)) 1 (y.2 1)) 3 (y.2 3))) ++ RW cI cZ hs1) := hD
  generalize H1 = H at hP hS ⊢
  refine lv_istore (lv' := [(6, .int y.1), (5, .int kk), (0, .ref b), (1, .ref (a 0)), (2, .ref (am 0)), (3, .ref o), (4, .int (nI (3 * n)))]) hx hb dL_law_1035 hl (by decide) rfl (fun ls hl => ?_)
  refine lv_aload_n hx hb dL_law_1037 rfl (lv_at hl 4 rfl) ?_
  have hPc := P_head (ws := (wLaw cI cZ cS cL hs1 o fl1 a z2 am (sr (sr (sr K 0 (y.2 0)) 1 (y.2 1)) 3 (y.2 3)))) (ws' := (wX9 cI cZ am (sr (sr (sr K 0 (y.2 0)) 1 (y.2 1)) 3 (y.2 3)))) hP [43, 44, 45, 46, 47, 48, 49, 50, 51] rfl
  refine cRO (W.runV (As := []) (rest := []) ⟨hx, hb, hml, hown, hts⟩ (c_X9_thrown l dC dI cI cZ am (sr (sr (sr K 0 (y.2 0)) 1 (y.2 1)) 3 (y.2 3)) ((sr (sr (sr K 0 (y.2 0)) 1 (y.2 1)) 3 (y.2 3)) 0 0) rfl) (cwV 0 hts gL_law_X9_thrown rfl rfl rfl (by decide +kernel) ⟨Nat.le_of_ble_eq_true rfl, Nat.le_of_ble_eq_true rfl⟩) ⟨RO.blind, va_recv hK hP (ci := 9) (q0 := 43) rfl rfl, RO.pre hPc hK2 hNW⟩ rfl rfl hl.1 rfl (lv_room (Nat.le_of_ble_eq_true rfl)) dL_law_1038 ⟨by show _ + 0 ≤ 601024; omega, by show _ + 0 ≤ 7293034; omega⟩) ?_
  refine lv_iload hx hb dL_law_1041 (lv_at hl 1 rfl) ?_
  refine lv_icmp_eq (tgt := 1048) hx hb dL_law_1043 (by decide) (fun c9 => ?_) (fun c9 => absurd h9k c9)
  refine lv_iload hx hb dL_law_1048 (lv_at hl 1 rfl) ?_
  refine lv_if_ne (tgt := 1065) hx hb dL_law_1050 (by decide) (fun c9 => ?_) (fun c9 => ?_)
  · refine lv_goto (tgt := 3556) hx hb dL_law_1065 (by decide) ?_
    refine W.widen (k := cells + 17) (n := slots + 322) (by omega) (by omega) ?_
    exact kk9 hs1 fl1 _ _ _ H locs hI9 (lv_sub hl [2, 3, 4, 5, 6] rfl) hP hD hS
  obtain ⟨u, hr9⟩ := Ans_z hA9 c9
  have hv9 := hout u hr9
  have hu9 := hval u hr9
  refine lv_aload_n hx hb dL_law_1053 rfl (lv_at hl 5 rfl) ?_
  refine lv_iconst (v := (0 : Int32)) hx hb dL_law_1054 (by decide) ?_
  refine va_lald (D := (dC, dI)) (f := fl1) hx hb hK hP 0 3 rfl rfl (inb_in rfl) dL_law_1055 ?_
  refine lv_iload hx hb dL_law_1056 (lv_at hl 0 rfl) ?_
  refine lv_i2l (v := (y.1).toInt64) hx hb dL_law_1058 rfl ?_
  refine W.lcmp hx hb dL_law_1059 ?_
  refine lv_if_eq (tgt := 1065) hx hb dL_law_1060 (by decide) (fun c7 => ?_) (fun c7 => absurd (lg_eq (hv9.trans (congrArg Int32.toInt64 hu9))) c7)
  refine lv_goto (tgt := 3556) hx hb dL_law_1065 (by decide) ?_
  refine W.widen (k := cells + 17) (n := slots + 322) (by omega) (by omega) ?_
  exact kk9 hs1 fl1 _ _ _ H locs hI9 (lv_sub hl [2, 3, 4, 5, 6] rfl) hP hD hS
set_option maxHeartbeats 4000000 in
set_option maxRecDepth 100000 in
theorem lc_changeWeight {p : Program} {l : Launch} {e : Env} {s : State} {m : MethodId} {below : List Frame} {meth : Method} {c : Code} {b L : Nat} {xs : Nat → Int32} {dC : Nat → ClassId} {dI : Nat → Nat → Nat} {cI cZ cS cL : ClassId} {A : Nat → Prop} {a am : Nat → Nat} {o : Nat} {Q : State → Prop} (X0 : LCx p l s m c b L xs dC dI cI cZ cS cL A) {Inv : Nat → (Nat → Option Mem) → Mem → Mem → Prop} (hSt : St_changeWeight Inv) {n : Nat} (hn : n < 512) (hnL : 3 * n + 2 < L) (hL : L ≤ 1536) {hs : HS} {fl : Nat → Int64} {M K : Mem} (hI : Inv n (cts hs) M K) {ls : Array Slot} {H : Heap} {locs : List Loc} {cells slots : Nat} (hcs : cells + 17 ≤ 601024) (hss : slots + 322 ≤ 7293034) (hl : lv_has ls 9 [(0, .ref b), (1, .ref (a 0)), (2, .ref (am 0)), (3, .ref o), (4, .int (nI (3 * n)))]) (hP : va_P (dC, dI) vwCl (wLaw cI cZ cS cL hs o fl a M am K ++ RW cI cZ hs) H) (hD : va_D A (wLaw cI cZ cS cL hs o fl a M am K ++ RW cI cZ hs)) (hS : va_S A s.heap H locs) (kk9 : ∀ (hs' : HS) (fl' : Nat → Int64) (M' K' : Mem) (ls : Array Slot) (H : Heap) (locs : List Loc), Inv (n + 1) (cts hs') M' K' → lv_has ls 9 [(0, .ref b), (1, .ref (a 0)), (2, .ref (am 0)), (3, .ref o), (4, .int (nI (3 * n)))] → va_P (dC, dI) vwCl (wLaw cI cZ cS cL hs' o fl' a M' am K' ++ RW cI cZ hs') H → va_D A (wLaw cI cZ cS cL hs' o fl' a M' am K' ++ RW cI cZ hs') → va_S A s.heap H locs → W p l e room_1 s m #[Value.ref b] below meth c H locs (cells + 17) (slots + 322) Q (F0 m 3556 ls [])) : W p l e room_1 s m #[Value.ref b] below meth c H locs cells slots Q (F0 m 1068 ls []) := by
  obtain ⟨hx, hb, hml, hown, hts, hK, hNW, hEX, hNC, hA, hXs, hbl, hbA, hst⟩ := X0
  have hK8 : va_K (dC, dI) vwCl (tys8 cI cZ cS) s := hK.sub (tys' := tys8 cI cZ cS) [0, 1, 2] rfl
  have hK2 : va_K (dC, dI) vwCl [(cI, .int), (cZ, .boolean)] s := hK.sub (tys' := [(cI, .int), (cZ, .boolean)]) [0, 1] rfl
  obtain ⟨r, kk, z2, z3, y, hf8, hA9, hC9, hf9, h9k, hval, hI9⟩ := hSt n (cts hs) M K (xs (3 * n + 1)) (xs (3 * n + 2)) hn hI
  refine lv_aload_n hx hb dL_law_1068 rfl (lv_at hl 1 rfl) ?_
  refine lv_aload_n hx hb dL_law_1069 rfl (lv_at hl 0 rfl) ?_
  refine lv_iload hx hb dL_law_1070 (lv_at hl 4 rfl) ?_
  refine lv_iconst (v := (1 : Int32)) hx hb dL_law_1072 (by decide) ?_
  refine lv_iadd hx hb dL_law_1073 ?_
  rw [show nI (3 * n) + (1 : Int32) = nI (3 * n + 1) from nI_add (3 * n) 1]
  refine va_sld hx hb hXs hbl hbA hS (vp_in_nI (by omega) (by omega)) dL_law_1074 ?_
  rw [nI_clamp (show 3 * n + 1 < 2 ^ 31 by omega)]
  refine lv_aload_n hx hb dL_law_1075 rfl (lv_at hl 0 rfl) ?_
  refine lv_iload hx hb dL_law_1076 (lv_at hl 4 rfl) ?_
  refine lv_iconst (v := (2 : Int32)) hx hb dL_law_1078 (by decide) ?_
  refine lv_iadd hx hb dL_law_1079 ?_
  rw [show nI (3 * n) + (2 : Int32) = nI (3 * n + 2) from nI_add (3 * n) 2]
  refine va_sld hx hb hXs hbl hbA hS (vp_in_nI (by omega) (by omega)) dL_law_1080 ?_
  rw [nI_clamp (show 3 * n + 2 < 2 ^ 31 by omega)]
  refine lv_aload_n hx hb dL_law_1081 rfl (lv_at hl 3 rfl) ?_
  have hPc := hP.part (X := (wLaw cI cZ cS cL hs o fl a M am K)) (cx := (wL cI cZ cS cL (fS hs) (fG hs) o fl a M)) [0, 1, 2, 3, 4, 5, 6, 7, 8, 9, 10, 11, 12, 13, 14, 15, 16, 17, 18, 19, 20, 21, 22, 23, 24, 25, 26, 27, 28, 29, 30, 31, 32, 33, 34, 35, 36, 37, 38, 39, 40, 41, 42] rfl
  have hDc := hD.part (X := (wLaw cI cZ cS cL hs o fl a M am K)) (cx := (wL cI cZ cS cL (fS hs) (fG hs) o fl a M)) [0, 1, 2, 3, 4, 5, 6, 7, 8, 9, 10, 11, 12, 13, 14, 15, 16, 17, 18, 19, 20, 21, 22, 23, 24, 25, 26, 27, 28, 29, 30, 31, 32, 33, 34, 35, 36, 37, 38, 39, 40, 41, 42] (by decide) rfl
  have hFc := va_freeP (X := (wLaw cI cZ cS cL hs o fl a M am K)) (cx := (wL cI cZ cS cL (fS hs) (fG hs) o fl a M)) hD hS hA [0, 1, 2, 3, 4, 5, 6, 7, 8, 9, 10, 11, 12, 13, 14, 15, 16, 17, 18, 19, 20, 21, 22, 23, 24, 25, 26, 27, 28, 29, 30, 31, 32, 33, 34, 35, 36, 37, 38, 39, 40, 41, 42] rfl
  refine va_calli (vx_runSW (As := [.ref (a 0), .int ((xs (3 * n + 1))), .int ((xs (3 * n + 2))), .ref o]) (rest := []) ⟨hx, hb, hml, hown, hts⟩ (w_L_changeWeight l hst dC dI cI cZ cS cL hs o fl a H.size M ((xs (3 * n + 1))) ((xs (3 * n + 2))) r kk z2 z3 hf8 hA9 hC9) (vx_cwSW 4 hts gL_law_L_changeWeight rfl rfl rfl (by decide +kernel) ⟨Nat.le_of_ble_eq_true rfl, Nat.le_of_ble_eq_true rfl⟩) ⟨T9.blind, T9.pre hPc hK hDc hNW (hEX.at hS hFc) hNC⟩ rfl rfl hl.1 rfl (lv_room (Nat.le_of_ble_eq_true rfl)) dL_law_1082 ⟨by show cells + 16 ≤ 601024; omega, by show slots + 316 ≤ 7293034; omega⟩) hS (fun q _ h => hFc q h) hFc (fun rv u t H1 locs ht hvm hw hB hz1 hk1 hS => ?_)
  obtain ⟨hw1, hw2, hout⟩ := hw
  obtain ⟨hs1, fl1⟩ := u
  have hw2 : cts hs1 = z3 := hw2
  rw [hw1]
  obtain ⟨hP1, hD1⟩ := hB
  rw [ht] at hP1
  obtain ⟨hP, hD⟩ := va_joinP (X := (wLaw cI cZ cS cL hs o fl a M am K)) (cx := (wL cI cZ cS cL (fS hs) (fG hs) o fl a M)) (wr := (wX9 cI cZ am K)) (rx := (wL cI cZ cS cL (fS hs1) (fG hs1) o fl1 a z2)) hP hD [0, 1, 2, 3, 4, 5, 6, 7, 8, 9, 10, 11, 12, 13, 14, 15, 16, 17, 18, 19, 20, 21, 22, 23, 24, 25, 26, 27, 28, 29, 30, 31, 32, 33, 34, 35, 36, 37, 38, 39, 40, 41, 42] [43, 44, 45, 46, 47, 48, 49, 50, 51] rfl rfl (by decide) (by decide) hk1 hFc hP1 hD1
  have hP := hP.part (cx := (wLaw cI cZ cS cL hs1 o fl1 a z2 am K)) [9, 10, 11, 12, 13, 14, 15, 16, 17, 18, 19, 20, 21, 22, 23, 24, 25, 26, 27, 28, 29, 30, 31, 32, 33, 34, 35, 36, 37, 38, 39, 40, 41, 42, 43, 44, 45, 46, 47, 48, 49, 50, 51, 0, 1, 2, 3, 4, 5, 6, 7, 8] rfl
  have hD := hD.part (cx := (wLaw cI cZ cS cL hs1 o fl1 a z2 am K)) [9, 10, 11, 12, 13, 14, 15, 16, 17, 18, 19, 20, 21, 22, 23, 24, 25, 26, 27, 28, 29, 30, 31, 32, 33, 34, 35, 36, 37, 38, 39, 40, 41, 42, 43, 44, 45, 46, 47, 48, 49, 50, 51, 0, 1, 2, 3, 4, 5, 6, 7, 8] (by decide) rfl
  generalize H1 = H at hP hS ⊢
  rw [← hw2] at hI9
  refine lv_istore (lv' := [(5, .int kk), (0, .ref b), (1, .ref (a 0)), (2, .ref (am 0)), (3, .ref o), (4, .int (nI (3 * n)))]) hx hb dL_law_1085 hl (by decide) rfl (fun ls hl => ?_)
  refine lv_aload_n hx hb dL_law_1087 rfl (lv_at hl 3 rfl) ?_
  refine lv_aload_n hx hb dL_law_1088 rfl (lv_at hl 1 rfl) ?_
  refine lv_iload hx hb dL_law_1089 (lv_at hl 5 rfl) ?_
  refine lv_iconst (v := (1 : Int32)) hx hb dL_law_1091 (by decide) ?_
  refine lv_iadd hx hb dL_law_1092 ?_
  rw [show nI (3 * n) + (1 : Int32) = nI (3 * n + 1) from nI_add (3 * n) 1]
  refine va_sld hx hb hXs hbl hbA hS (vp_in_nI (by omega) (by omega)) dL_law_1093 ?_
  rw [nI_clamp (show 3 * n + 1 < 2 ^ 31 by omega)]
  refine lv_aload_n hx hb dL_law_1094 rfl (lv_at hl 1 rfl) ?_
  refine lv_iload hx hb dL_law_1095 (lv_at hl 5 rfl) ?_
  refine lv_iconst (v := (2 : Int32)) hx hb dL_law_1097 (by decide) ?_
  refine lv_iadd hx hb dL_law_1098 ?_
  rw [show nI (3 * n) + (2 : Int32) = nI (3 * n + 2) from nI_add (3 * n) 2]
  refine va_sld hx hb hXs hbl hbA hS (vp_in_nI (by omega) (by omega)) dL_law_1099 ?_
  rw [nI_clamp (show 3 * n + 2 < 2 ^ 31 by omega)]
  have hPc := P_head (ws := (wLaw cI cZ cS cL hs1 o fl1 a z2 am K)) (ws' := (wX9 cI cZ am K)) hP [43, 44, 45, 46, 47, 48, 49, 50, 51] rfl
  have hDc := D_head (ws := (wLaw cI cZ cS cL hs1 o fl1 a z2 am K)) (ws' := (wX9 cI cZ am K)) hD [43, 44, 45, 46, 47, 48, 49, 50, 51] (by decide) rfl
  have hFc := va_free (wc := (wX9 cI cZ am K)) hD hS hA [43, 44, 45, 46, 47, 48, 49, 50, 51] rfl
  refine va_calli (va_runV (As := [.int ((xs (3 * n + 1))), .int ((xs (3 * n + 2)))]) (rest := []) ⟨hx, hb, hml, hown, hts⟩ (c_X9_changeWeight l dC dI cI cZ am H.size K ((xs (3 * n + 1))) ((xs (3 * n + 2))) y hf9) (cwV 2 hts gL_law_X9_changeWeight rfl rfl rfl (by decide +kernel) ⟨Nat.le_of_ble_eq_true rfl, Nat.le_of_ble_eq_true rfl⟩) ⟨WR.blind, va_recv hK hP (ci := 9) (q0 := 43) rfl rfl, WR.pre hPc hK2 hDc hNW⟩ rfl rfl hl.1 rfl (lv_room (Nat.le_of_ble_eq_true rfl)) dL_law_1100 ⟨by show _ + 0 ≤ 601024; omega, by show _ + 0 ≤ 7293034; omega⟩) hS (fun q _ h => hFc q h) hFc (fun rv u t H1 locs ht hvm hw hB hz1 hk1 hS => ?_)
  obtain ⟨hP1, hD1⟩ := hB
  rw [ht] at hP1
  rw [hw]
  obtain ⟨hP, hD⟩ := join_app (ws := (wLaw cI cZ cS cL hs1 o fl1 a z2 am K)) (wr := (wL cI cZ cS cL (fS hs1) (fG hs1) o fl1 a z2)) (w1 := (wX9 cI cZ am (sr (sr (sr K 0 (y.2 0)) 1 (y.2 1)) 3 (y.2 3)))) hP hD [43, 44, 45, 46, 47, 48, 49, 50, 51] [0, 1, 2, 3, 4, 5, 6, 7, 8, 9, 10, 11, 12, 13, 14, 15, 16, 17, 18, 19, 20, 21, 22, 23, 24, 25, 26, 27, 28, 29, 30, 31, 32, 33, 34, 35, 36, 37, 38, 39, 40, 41, 42] rfl rfl (by decide) (by decide) hk1 hFc hP1 hD1
  have hP : va_P (dC, dI) vwCl ((wLaw cI cZ cS cL hs1 o fl1 a z2 am (sr (sr (sr K 0 (y.2 0)) 1 (y.2 1)) 3 (y.2 3))) ++ RW cI cZ hs1) H1 := hP
  have hD : va_D A ((wLaw cI cZ cS cL hs1 o fl1 a z2 am (sr (sr (sr K 0 (y.2 0)) 1 (y.2 1)) 3 (y.2 3))) ++ RW cI cZ hs1) := hD
  generalize H1 = H at hP hS ⊢
  refine lv_istore (lv' := [(6, .int y.1), (5, .int kk), (0, .ref b), (1, .ref (a 0)), (2, .ref (am 0)), (3, .ref o), (4, .int (nI (3 * n)))]) hx hb dL_law_1103 hl (by decide) rfl (fun ls hl => ?_)
  refine lv_aload_n hx hb dL_law_1105 rfl (lv_at hl 4 rfl) ?_
  have hPc := P_head (ws := (wLaw cI cZ cS cL hs1 o fl1 a z2 am (sr (sr (sr K 0 (y.2 0)) 1 (y.2 1)) 3 (y.2 3)))) (ws' := (wX9 cI cZ am (sr (sr (sr K 0 (y.2 0)) 1 (y.2 1)) 3 (y.2 3)))) hP [43, 44, 45, 46, 47, 48, 49, 50, 51] rfl
  refine cRO (W.runV (As := []) (rest := []) ⟨hx, hb, hml, hown, hts⟩ (c_X9_thrown l dC dI cI cZ am (sr (sr (sr K 0 (y.2 0)) 1 (y.2 1)) 3 (y.2 3)) ((sr (sr (sr K 0 (y.2 0)) 1 (y.2 1)) 3 (y.2 3)) 0 0) rfl) (cwV 0 hts gL_law_X9_thrown rfl rfl rfl (by decide +kernel) ⟨Nat.le_of_ble_eq_true rfl, Nat.le_of_ble_eq_true rfl⟩) ⟨RO.blind, va_recv hK hP (ci := 9) (q0 := 43) rfl rfl, RO.pre hPc hK2 hNW⟩ rfl rfl hl.1 rfl (lv_room (Nat.le_of_ble_eq_true rfl)) dL_law_1106 ⟨by show _ + 0 ≤ 601024; omega, by show _ + 0 ≤ 7293034; omega⟩) ?_
  refine lv_iload hx hb dL_law_1109 (lv_at hl 1 rfl) ?_
  refine lv_icmp_eq (tgt := 1116) hx hb dL_law_1111 (by decide) (fun c9 => ?_) (fun c9 => absurd h9k c9)
  refine lv_iload hx hb dL_law_1116 (lv_at hl 1 rfl) ?_
  refine lv_if_ne (tgt := 1133) hx hb dL_law_1118 (by decide) (fun c9 => ?_) (fun c9 => ?_)
  · refine lv_goto (tgt := 3556) hx hb dL_law_1133 (by decide) ?_
    refine W.widen (k := cells + 17) (n := slots + 322) (by omega) (by omega) ?_
    exact kk9 hs1 fl1 _ _ _ H locs hI9 (lv_sub hl [2, 3, 4, 5, 6] rfl) hP hD hS
  obtain ⟨u, hr9⟩ := Ans_z hA9 c9
  have hv9 := hout u hr9
  have hu9 := hval u hr9
  refine lv_aload_n hx hb dL_law_1121 rfl (lv_at hl 5 rfl) ?_
  refine lv_iconst (v := (0 : Int32)) hx hb dL_law_1122 (by decide) ?_
  refine va_lald (D := (dC, dI)) (f := fl1) hx hb hK hP 0 3 rfl rfl (inb_in rfl) dL_law_1123 ?_
  refine lv_iload hx hb dL_law_1124 (lv_at hl 0 rfl) ?_
  refine lv_i2l (v := (y.1).toInt64) hx hb dL_law_1126 rfl ?_
  refine W.lcmp hx hb dL_law_1127 ?_
  refine lv_if_eq (tgt := 1133) hx hb dL_law_1128 (by decide) (fun c7 => ?_) (fun c7 => absurd (lg_eq (hv9.trans (congrArg Int32.toInt64 hu9))) c7)
  refine lv_goto (tgt := 3556) hx hb dL_law_1133 (by decide) ?_
  refine W.widen (k := cells + 17) (n := slots + 322) (by omega) (by omega) ?_
  exact kk9 hs1 fl1 _ _ _ H locs hI9 (lv_sub hl [2, 3, 4, 5, 6] rfl) hP hD hS
set_option maxHeartbeats 4000000 in
set_option maxRecDepth 100000 in
theorem lc_turnRule {p : Program} {l : Launch} {e : Env} {s : State} {m : MethodId} {below : List Frame} {meth : Method} {c : Code} {b L : Nat} {xs : Nat → Int32} {dC : Nat → ClassId} {dI : Nat → Nat → Nat} {cI cZ cS cL : ClassId} {A : Nat → Prop} {a am : Nat → Nat} {o : Nat} {Q : State → Prop} (X0 : LCx p l s m c b L xs dC dI cI cZ cS cL A) {Inv : Nat → (Nat → Option Mem) → Mem → Mem → Prop} (hSt : St_turnRule Inv) {n : Nat} (hn : n < 512) (hnL : 3 * n + 2 < L) (hL : L ≤ 1536) {hs : HS} {fl : Nat → Int64} {M K : Mem} (hI : Inv n (cts hs) M K) {ls : Array Slot} {H : Heap} {locs : List Loc} {cells slots : Nat} (hcs : cells + 17 ≤ 601024) (hss : slots + 322 ≤ 7293034) (hl : lv_has ls 9 [(0, .ref b), (1, .ref (a 0)), (2, .ref (am 0)), (3, .ref o), (4, .int (nI (3 * n)))]) (hP : va_P (dC, dI) vwCl (wLaw cI cZ cS cL hs o fl a M am K ++ RW cI cZ hs) H) (hD : va_D A (wLaw cI cZ cS cL hs o fl a M am K ++ RW cI cZ hs)) (hS : va_S A s.heap H locs) (kk9 : ∀ (hs' : HS) (fl' : Nat → Int64) (M' K' : Mem) (ls : Array Slot) (H : Heap) (locs : List Loc), Inv (n + 1) (cts hs') M' K' → lv_has ls 9 [(0, .ref b), (1, .ref (a 0)), (2, .ref (am 0)), (3, .ref o), (4, .int (nI (3 * n)))] → va_P (dC, dI) vwCl (wLaw cI cZ cS cL hs' o fl' a M' am K' ++ RW cI cZ hs') H → va_D A (wLaw cI cZ cS cL hs' o fl' a M' am K' ++ RW cI cZ hs') → va_S A s.heap H locs → W p l e room_1 s m #[Value.ref b] below meth c H locs (cells + 17) (slots + 322) Q (F0 m 3556 ls [])) : W p l e room_1 s m #[Value.ref b] below meth c H locs cells slots Q (F0 m 1136 ls []) := by
  obtain ⟨hx, hb, hml, hown, hts, hK, hNW, hEX, hNC, hA, hXs, hbl, hbA, hst⟩ := X0
  have hK8 : va_K (dC, dI) vwCl (tys8 cI cZ cS) s := hK.sub (tys' := tys8 cI cZ cS) [0, 1, 2] rfl
  have hK2 : va_K (dC, dI) vwCl [(cI, .int), (cZ, .boolean)] s := hK.sub (tys' := [(cI, .int), (cZ, .boolean)]) [0, 1] rfl
  obtain ⟨v, z2, z3, y, hf8, hf9, hEq, hI9⟩ := hSt n (cts hs) M K hn hI
  refine lv_aload_n hx hb dL_law_1136 rfl (lv_at hl 1 rfl) ?_
  have hPc := hP.part (X := (wLaw cI cZ cS cL hs o fl a M am K)) (cx := (wX8 cI cZ cS (fS hs) (fG hs) a M)) [1, 2, 3, 4, 5, 6, 7, 8, 9, 10, 11, 12, 13, 14, 15, 16, 17, 18, 19, 20, 21, 22, 23, 24, 25, 26, 27, 28, 29, 30, 31, 32, 33, 34, 35, 36, 37, 38, 39, 40, 41, 42] rfl
  have hDc := hD.part (X := (wLaw cI cZ cS cL hs o fl a M am K)) (cx := (wX8 cI cZ cS (fS hs) (fG hs) a M)) [1, 2, 3, 4, 5, 6, 7, 8, 9, 10, 11, 12, 13, 14, 15, 16, 17, 18, 19, 20, 21, 22, 23, 24, 25, 26, 27, 28, 29, 30, 31, 32, 33, 34, 35, 36, 37, 38, 39, 40, 41, 42] (by decide) rfl
  have hFc := va_freeP (X := (wLaw cI cZ cS cL hs o fl a M am K)) (cx := (wX8 cI cZ cS (fS hs) (fG hs) a M)) hD hS hA [1, 2, 3, 4, 5, 6, 7, 8, 9, 10, 11, 12, 13, 14, 15, 16, 17, 18, 19, 20, 21, 22, 23, 24, 25, 26, 27, 28, 29, 30, 31, 32, 33, 34, 35, 36, 37, 38, 39, 40, 41, 42] rfl
  refine va_calli (va_runV (As := []) (rest := []) ⟨hx, hb, hml, hown, hts⟩ (n_X8_turnRule l dC dI cI cZ cS hs a H.size M v z2 z3 hf8) (cwV 0 hts gL_law_X8_turnRule rfl rfl rfl (by decide +kernel) ⟨Nat.le_of_ble_eq_true rfl, Nat.le_of_ble_eq_true rfl⟩) ⟨WR8.blind, va_recv hK hP (ci := 8) (q0 := 1) rfl rfl, WR8.pre hPc hK8 hDc hNW⟩ rfl rfl hl.1 rfl (lv_room (Nat.le_of_ble_eq_true rfl)) dL_law_1137 ⟨by show cells + 16 ≤ 601024; omega, by show slots + 316 ≤ 7293034; omega⟩) hS (fun q _ h => hFc q h) hFc (fun rv hs1 t H1 locs ht hvm hw hB hz1 hk1 hS => ?_)
  obtain ⟨hw1, hw2⟩ := hw
  rw [hw1]
  obtain ⟨hP1, hD1⟩ := hB
  rw [ht] at hP1
  obtain ⟨hP, hD⟩ := va_joinP (X := (wLaw cI cZ cS cL hs o fl a M am K)) (cx := (wX8 cI cZ cS (fS hs) (fG hs) a M)) (wr := ((o, .inl (cL, 1, .inr (.inl fl))) :: wX9 cI cZ am K)) (rx := (wX8 cI cZ cS (fS hs1) (fG hs1) a z2)) hP hD [1, 2, 3, 4, 5, 6, 7, 8, 9, 10, 11, 12, 13, 14, 15, 16, 17, 18, 19, 20, 21, 22, 23, 24, 25, 26, 27, 28, 29, 30, 31, 32, 33, 34, 35, 36, 37, 38, 39, 40, 41, 42] [0, 43, 44, 45, 46, 47, 48, 49, 50, 51] rfl rfl (by decide) (by decide) hk1 hFc hP1 hD1
  have hP := hP.part (cx := (wLaw cI cZ cS cL hs1 o fl a z2 am K)) [0, 10, 11, 12, 13, 14, 15, 16, 17, 18, 19, 20, 21, 22, 23, 24, 25, 26, 27, 28, 29, 30, 31, 32, 33, 34, 35, 36, 37, 38, 39, 40, 41, 42, 43, 44, 45, 46, 47, 48, 49, 50, 51, 1, 2, 3, 4, 5, 6, 7, 8, 9] rfl
  have hD := hD.part (cx := (wLaw cI cZ cS cL hs1 o fl a z2 am K)) [0, 10, 11, 12, 13, 14, 15, 16, 17, 18, 19, 20, 21, 22, 23, 24, 25, 26, 27, 28, 29, 30, 31, 32, 33, 34, 35, 36, 37, 38, 39, 40, 41, 42, 43, 44, 45, 46, 47, 48, 49, 50, 51, 1, 2, 3, 4, 5, 6, 7, 8, 9] (by decide) rfl
  generalize H1 = H at hP hS ⊢
  rw [← hw2] at hI9
  refine lv_aload_n hx hb dL_law_1140 rfl (lv_at hl 2 rfl) ?_
  have hPc := P_head (ws := (wLaw cI cZ cS cL hs1 o fl a z2 am K)) (ws' := (wX9 cI cZ am K)) hP [43, 44, 45, 46, 47, 48, 49, 50, 51] rfl
  have hDc := D_head (ws := (wLaw cI cZ cS cL hs1 o fl a z2 am K)) (ws' := (wX9 cI cZ am K)) hD [43, 44, 45, 46, 47, 48, 49, 50, 51] (by decide) rfl
  have hFc := va_free (wc := (wX9 cI cZ am K)) hD hS hA [43, 44, 45, 46, 47, 48, 49, 50, 51] rfl
  refine va_calli (va_runV (As := []) (rest := [.int v]) ⟨hx, hb, hml, hown, hts⟩ (c_X9_turnRule l dC dI cI cZ am H.size K y hf9) (cwV 0 hts gL_law_X9_turnRule rfl rfl rfl (by decide +kernel) ⟨Nat.le_of_ble_eq_true rfl, Nat.le_of_ble_eq_true rfl⟩) ⟨WR.blind, va_recv hK hP (ci := 9) (q0 := 43) rfl rfl, WR.pre hPc hK2 hDc hNW⟩ rfl rfl hl.1 rfl (lv_room (Nat.le_of_ble_eq_true rfl)) dL_law_1141 ⟨by show _ + 0 ≤ 601024; omega, by show _ + 0 ≤ 7293034; omega⟩) hS (fun q _ h => hFc q h) hFc (fun rv u t H1 locs ht hvm hw hB hz1 hk1 hS => ?_)
  obtain ⟨hP1, hD1⟩ := hB
  rw [ht] at hP1
  rw [hw]
  obtain ⟨hP, hD⟩ := join_app (ws := (wLaw cI cZ cS cL hs1 o fl a z2 am K)) (wr := (wL cI cZ cS cL (fS hs1) (fG hs1) o fl a z2)) (w1 := (wX9 cI cZ am (sr (sr (sr K 0 (y.2 0)) 1 (y.2 1)) 3 (y.2 3)))) hP hD [43, 44, 45, 46, 47, 48, 49, 50, 51] [0, 1, 2, 3, 4, 5, 6, 7, 8, 9, 10, 11, 12, 13, 14, 15, 16, 17, 18, 19, 20, 21, 22, 23, 24, 25, 26, 27, 28, 29, 30, 31, 32, 33, 34, 35, 36, 37, 38, 39, 40, 41, 42] rfl rfl (by decide) (by decide) hk1 hFc hP1 hD1
  have hP : va_P (dC, dI) vwCl ((wLaw cI cZ cS cL hs1 o fl a z2 am (sr (sr (sr K 0 (y.2 0)) 1 (y.2 1)) 3 (y.2 3))) ++ RW cI cZ hs1) H1 := hP
  have hD : va_D A ((wLaw cI cZ cS cL hs1 o fl a z2 am (sr (sr (sr K 0 (y.2 0)) 1 (y.2 1)) 3 (y.2 3))) ++ RW cI cZ hs1) := hD
  generalize H1 = H at hP hS ⊢
  refine lv_icmp_eq (tgt := 3556) hx hb dL_law_1144 (by decide) (fun c9 => ?_) (fun c9 => absurd hEq c9)
  refine W.widen (k := cells + 17) (n := slots + 322) (by omega) (by omega) ?_
  exact kk9 hs1 fl _ _ _ H locs hI9 (lv_sub hl [0, 1, 2, 3, 4] rfl) hP hD hS
set_option maxHeartbeats 4000000 in
set_option maxRecDepth 100000 in
theorem lc_append {p : Program} {l : Launch} {e : Env} {s : State} {m : MethodId} {below : List Frame} {meth : Method} {c : Code} {b L : Nat} {xs : Nat → Int32} {dC : Nat → ClassId} {dI : Nat → Nat → Nat} {cI cZ cS cL : ClassId} {A : Nat → Prop} {a am : Nat → Nat} {o : Nat} {Q : State → Prop} (X0 : LCx p l s m c b L xs dC dI cI cZ cS cL A) {Inv : Nat → (Nat → Option Mem) → Mem → Mem → Prop} (hSt : St_append Inv) {n : Nat} (hn : n < 512) (hnL : 3 * n + 2 < L) (hL : L ≤ 1536) {hs : HS} {fl : Nat → Int64} {M K : Mem} (hI : Inv n (cts hs) M K) {ls : Array Slot} {H : Heap} {locs : List Loc} {cells slots : Nat} (hcs : cells + 17 ≤ 601024) (hss : slots + 322 ≤ 7293034) (hl : lv_has ls 9 [(0, .ref b), (1, .ref (a 0)), (2, .ref (am 0)), (3, .ref o), (4, .int (nI (3 * n)))]) (hP : va_P (dC, dI) vwCl (wLaw cI cZ cS cL hs o fl a M am K ++ RW cI cZ hs) H) (hD : va_D A (wLaw cI cZ cS cL hs o fl a M am K ++ RW cI cZ hs)) (hS : va_S A s.heap H locs) (kk9 : ∀ (hs' : HS) (fl' : Nat → Int64) (M' K' : Mem) (ls : Array Slot) (H : Heap) (locs : List Loc), Inv (n + 1) (cts hs') M' K' → lv_has ls 9 [(0, .ref b), (1, .ref (a 0)), (2, .ref (am 0)), (3, .ref o), (4, .int (nI (3 * n)))] → va_P (dC, dI) vwCl (wLaw cI cZ cS cL hs' o fl' a M' am K' ++ RW cI cZ hs') H → va_D A (wLaw cI cZ cS cL hs' o fl' a M' am K' ++ RW cI cZ hs') → va_S A s.heap H locs → W p l e room_1 s m #[Value.ref b] below meth c H locs (cells + 17) (slots + 322) Q (F0 m 3556 ls [])) : W p l e room_1 s m #[Value.ref b] below meth c H locs cells slots Q (F0 m 1149 ls []) := by
  obtain ⟨hx, hb, hml, hown, hts, hK, hNW, hEX, hNC, hA, hXs, hbl, hbA, hst⟩ := X0
  have hK8 : va_K (dC, dI) vwCl (tys8 cI cZ cS) s := hK.sub (tys' := tys8 cI cZ cS) [0, 1, 2] rfl
  have hK2 : va_K (dC, dI) vwCl [(cI, .int), (cZ, .boolean)] s := hK.sub (tys' := [(cI, .int), (cZ, .boolean)]) [0, 1] rfl
  obtain ⟨r, kk, z2, y, hf8, hA9, hf9, h9k, hval, hI9⟩ := hSt n (cts hs) M K (xs (3 * n + 1)) hn hI
  refine lv_aload_n hx hb dL_law_1149 rfl (lv_at hl 1 rfl) ?_
  refine lv_aload_n hx hb dL_law_1150 rfl (lv_at hl 0 rfl) ?_
  refine lv_iload hx hb dL_law_1151 (lv_at hl 4 rfl) ?_
  refine lv_iconst (v := (1 : Int32)) hx hb dL_law_1153 (by decide) ?_
  refine lv_iadd hx hb dL_law_1154 ?_
  rw [show nI (3 * n) + (1 : Int32) = nI (3 * n + 1) from nI_add (3 * n) 1]
  refine va_sld hx hb hXs hbl hbA hS (vp_in_nI (by omega) (by omega)) dL_law_1155 ?_
  rw [nI_clamp (show 3 * n + 1 < 2 ^ 31 by omega)]
  refine lv_aload_n hx hb dL_law_1156 rfl (lv_at hl 3 rfl) ?_
  have hPc := hP.part (X := (wLaw cI cZ cS cL hs o fl a M am K)) (cx := (wL cI cZ cS cL (fS hs) (fG hs) o fl a M)) [0, 1, 2, 3, 4, 5, 6, 7, 8, 9, 10, 11, 12, 13, 14, 15, 16, 17, 18, 19, 20, 21, 22, 23, 24, 25, 26, 27, 28, 29, 30, 31, 32, 33, 34, 35, 36, 37, 38, 39, 40, 41, 42] rfl
  have hDc := hD.part (X := (wLaw cI cZ cS cL hs o fl a M am K)) (cx := (wL cI cZ cS cL (fS hs) (fG hs) o fl a M)) [0, 1, 2, 3, 4, 5, 6, 7, 8, 9, 10, 11, 12, 13, 14, 15, 16, 17, 18, 19, 20, 21, 22, 23, 24, 25, 26, 27, 28, 29, 30, 31, 32, 33, 34, 35, 36, 37, 38, 39, 40, 41, 42] (by decide) rfl
  have hFc := va_freeP (X := (wLaw cI cZ cS cL hs o fl a M am K)) (cx := (wL cI cZ cS cL (fS hs) (fG hs) o fl a M)) hD hS hA [0, 1, 2, 3, 4, 5, 6, 7, 8, 9, 10, 11, 12, 13, 14, 15, 16, 17, 18, 19, 20, 21, 22, 23, 24, 25, 26, 27, 28, 29, 30, 31, 32, 33, 34, 35, 36, 37, 38, 39, 40, 41, 42] rfl
  refine va_calli (vx_runSW (As := [.ref (a 0), .int ((xs (3 * n + 1))), .ref o]) (rest := []) ⟨hx, hb, hml, hown, hts⟩ (w_L_append l hst dC dI cI cZ cS cL hs o fl a H.size M ((xs (3 * n + 1))) r kk z2 hf8 hA9) (vx_cwSW 3 hts gL_law_L_append rfl rfl rfl (by decide +kernel) ⟨Nat.le_of_ble_eq_true rfl, Nat.le_of_ble_eq_true rfl⟩) ⟨T9.blind, T9.pre hPc hK hDc hNW (hEX.at hS hFc) hNC⟩ rfl rfl hl.1 rfl (lv_room (Nat.le_of_ble_eq_true rfl)) dL_law_1157 ⟨by show cells + 1 ≤ 601024; omega, by show slots + 6 ≤ 7293034; omega⟩) hS (fun q _ h => hFc q h) hFc (fun rv u t H1 locs ht hvm hw hB hz1 hk1 hS => ?_)
  obtain ⟨hw1, hw2, hout⟩ := hw
  obtain ⟨hs1, fl1⟩ := u
  have hw2 : hs1 = hs := hw2
  rw [hw1]
  obtain ⟨hP1, hD1⟩ := hB
  rw [ht] at hP1
  obtain ⟨hP, hD⟩ := va_joinP (X := (wLaw cI cZ cS cL hs o fl a M am K)) (cx := (wL cI cZ cS cL (fS hs) (fG hs) o fl a M)) (wr := (wX9 cI cZ am K)) (rx := (wL cI cZ cS cL (fS hs1) (fG hs1) o fl1 a (sr (sr M 36 (z2 36)) 37 (z2 37)))) hP hD [0, 1, 2, 3, 4, 5, 6, 7, 8, 9, 10, 11, 12, 13, 14, 15, 16, 17, 18, 19, 20, 21, 22, 23, 24, 25, 26, 27, 28, 29, 30, 31, 32, 33, 34, 35, 36, 37, 38, 39, 40, 41, 42] [43, 44, 45, 46, 47, 48, 49, 50, 51] rfl rfl (by decide) (by decide) hk1 hFc hP1 hD1
  have hP := hP.part (cx := (wLaw cI cZ cS cL hs1 o fl1 a (sr (sr M 36 (z2 36)) 37 (z2 37)) am K)) [9, 10, 11, 12, 13, 14, 15, 16, 17, 18, 19, 20, 21, 22, 23, 24, 25, 26, 27, 28, 29, 30, 31, 32, 33, 34, 35, 36, 37, 38, 39, 40, 41, 42, 43, 44, 45, 46, 47, 48, 49, 50, 51, 0, 1, 2, 3, 4, 5, 6, 7, 8] rfl
  have hD := hD.part (cx := (wLaw cI cZ cS cL hs1 o fl1 a (sr (sr M 36 (z2 36)) 37 (z2 37)) am K)) [9, 10, 11, 12, 13, 14, 15, 16, 17, 18, 19, 20, 21, 22, 23, 24, 25, 26, 27, 28, 29, 30, 31, 32, 33, 34, 35, 36, 37, 38, 39, 40, 41, 42, 43, 44, 45, 46, 47, 48, 49, 50, 51, 0, 1, 2, 3, 4, 5, 6, 7, 8] (by decide) rfl
  generalize H1 = H at hP hS ⊢
  rw [← hw2] at hI9
  refine lv_istore (lv' := [(5, .int kk), (0, .ref b), (1, .ref (a 0)), (2, .ref (am 0)), (3, .ref o), (4, .int (nI (3 * n)))]) hx hb dL_law_1160 hl (by decide) rfl (fun ls hl => ?_)
  refine lv_aload_n hx hb dL_law_1162 rfl (lv_at hl 3 rfl) ?_
  refine lv_aload_n hx hb dL_law_1163 rfl (lv_at hl 1 rfl) ?_
  refine lv_iload hx hb dL_law_1164 (lv_at hl 5 rfl) ?_
  refine lv_iconst (v := (1 : Int32)) hx hb dL_law_1166 (by decide) ?_
  refine lv_iadd hx hb dL_law_1167 ?_
  rw [show nI (3 * n) + (1 : Int32) = nI (3 * n + 1) from nI_add (3 * n) 1]
  refine va_sld hx hb hXs hbl hbA hS (vp_in_nI (by omega) (by omega)) dL_law_1168 ?_
  rw [nI_clamp (show 3 * n + 1 < 2 ^ 31 by omega)]
  have hPc := P_head (ws := (wLaw cI cZ cS cL hs1 o fl1 a (sr (sr M 36 (z2 36)) 37 (z2 37)) am K)) (ws' := (wX9 cI cZ am K)) hP [43, 44, 45, 46, 47, 48, 49, 50, 51] rfl
  have hDc := D_head (ws := (wLaw cI cZ cS cL hs1 o fl1 a (sr (sr M 36 (z2 36)) 37 (z2 37)) am K)) (ws' := (wX9 cI cZ am K)) hD [43, 44, 45, 46, 47, 48, 49, 50, 51] (by decide) rfl
  have hFc := va_free (wc := (wX9 cI cZ am K)) hD hS hA [43, 44, 45, 46, 47, 48, 49, 50, 51] rfl
  refine va_calli (va_runV (As := [.int ((xs (3 * n + 1)))]) (rest := []) ⟨hx, hb, hml, hown, hts⟩ (c_X9_append l dC dI cI cZ am H.size K ((xs (3 * n + 1))) y hf9) (cwV 1 hts gL_law_X9_append rfl rfl rfl (by decide +kernel) ⟨Nat.le_of_ble_eq_true rfl, Nat.le_of_ble_eq_true rfl⟩) ⟨WR.blind, va_recv hK hP (ci := 9) (q0 := 43) rfl rfl, WR.pre hPc hK2 hDc hNW⟩ rfl rfl hl.1 rfl (lv_room (Nat.le_of_ble_eq_true rfl)) dL_law_1169 ⟨by show _ + 0 ≤ 601024; omega, by show _ + 0 ≤ 7293034; omega⟩) hS (fun q _ h => hFc q h) hFc (fun rv u t H1 locs ht hvm hw hB hz1 hk1 hS => ?_)
  obtain ⟨hP1, hD1⟩ := hB
  rw [ht] at hP1
  rw [hw]
  obtain ⟨hP, hD⟩ := join_app (ws := (wLaw cI cZ cS cL hs1 o fl1 a (sr (sr M 36 (z2 36)) 37 (z2 37)) am K)) (wr := (wL cI cZ cS cL (fS hs1) (fG hs1) o fl1 a (sr (sr M 36 (z2 36)) 37 (z2 37)))) (w1 := (wX9 cI cZ am (sr (sr K 0 (y.2 0)) 6 (y.2 6)))) hP hD [43, 44, 45, 46, 47, 48, 49, 50, 51] [0, 1, 2, 3, 4, 5, 6, 7, 8, 9, 10, 11, 12, 13, 14, 15, 16, 17, 18, 19, 20, 21, 22, 23, 24, 25, 26, 27, 28, 29, 30, 31, 32, 33, 34, 35, 36, 37, 38, 39, 40, 41, 42] rfl rfl (by decide) (by decide) hk1 hFc hP1 hD1
  have hP : va_P (dC, dI) vwCl ((wLaw cI cZ cS cL hs1 o fl1 a (sr (sr M 36 (z2 36)) 37 (z2 37)) am (sr (sr K 0 (y.2 0)) 6 (y.2 6))) ++ RW cI cZ hs1) H1 := hP
  have hD : va_D A ((wLaw cI cZ cS cL hs1 o fl1 a (sr (sr M 36 (z2 36)) 37 (z2 37)) am (sr (sr K 0 (y.2 0)) 6 (y.2 6))) ++ RW cI cZ hs1) := hD
  generalize H1 = H at hP hS ⊢
  refine lv_istore (lv' := [(6, .int y.1), (5, .int kk), (0, .ref b), (1, .ref (a 0)), (2, .ref (am 0)), (3, .ref o), (4, .int (nI (3 * n)))]) hx hb dL_law_1172 hl (by decide) rfl (fun ls hl => ?_)
  refine lv_aload_n hx hb dL_law_1174 rfl (lv_at hl 4 rfl) ?_
  have hPc := P_head (ws := (wLaw cI cZ cS cL hs1 o fl1 a (sr (sr M 36 (z2 36)) 37 (z2 37)) am (sr (sr K 0 (y.2 0)) 6 (y.2 6)))) (ws' := (wX9 cI cZ am (sr (sr K 0 (y.2 0)) 6 (y.2 6)))) hP [43, 44, 45, 46, 47, 48, 49, 50, 51] rfl
  refine cRO (W.runV (As := []) (rest := []) ⟨hx, hb, hml, hown, hts⟩ (c_X9_thrown l dC dI cI cZ am (sr (sr K 0 (y.2 0)) 6 (y.2 6)) ((sr (sr K 0 (y.2 0)) 6 (y.2 6)) 0 0) rfl) (cwV 0 hts gL_law_X9_thrown rfl rfl rfl (by decide +kernel) ⟨Nat.le_of_ble_eq_true rfl, Nat.le_of_ble_eq_true rfl⟩) ⟨RO.blind, va_recv hK hP (ci := 9) (q0 := 43) rfl rfl, RO.pre hPc hK2 hNW⟩ rfl rfl hl.1 rfl (lv_room (Nat.le_of_ble_eq_true rfl)) dL_law_1175 ⟨by show _ + 0 ≤ 601024; omega, by show _ + 0 ≤ 7293034; omega⟩) ?_
  refine lv_iload hx hb dL_law_1178 (lv_at hl 1 rfl) ?_
  refine lv_icmp_eq (tgt := 1185) hx hb dL_law_1180 (by decide) (fun c9 => ?_) (fun c9 => absurd h9k c9)
  refine lv_iload hx hb dL_law_1185 (lv_at hl 1 rfl) ?_
  refine lv_if_ne (tgt := 1202) hx hb dL_law_1187 (by decide) (fun c9 => ?_) (fun c9 => ?_)
  · refine lv_goto (tgt := 3556) hx hb dL_law_1202 (by decide) ?_
    refine W.widen (k := cells + 17) (n := slots + 322) (by omega) (by omega) ?_
    exact kk9 hs1 fl1 _ _ _ H locs hI9 (lv_sub hl [2, 3, 4, 5, 6] rfl) hP hD hS
  obtain ⟨u, hr9⟩ := Ans_z hA9 c9
  have hv9 := hout u hr9
  have hu9 := hval u hr9
  refine lv_aload_n hx hb dL_law_1190 rfl (lv_at hl 5 rfl) ?_
  refine lv_iconst (v := (0 : Int32)) hx hb dL_law_1191 (by decide) ?_
  refine va_lald (D := (dC, dI)) (f := fl1) hx hb hK hP 0 3 rfl rfl (inb_in rfl) dL_law_1192 ?_
  refine lv_iload hx hb dL_law_1193 (lv_at hl 0 rfl) ?_
  refine lv_i2l (v := (y.1).toInt64) hx hb dL_law_1195 rfl ?_
  refine W.lcmp hx hb dL_law_1196 ?_
  refine lv_if_eq (tgt := 1202) hx hb dL_law_1197 (by decide) (fun c7 => ?_) (fun c7 => absurd (lg_eq (hv9.trans (congrArg Int32.toInt64 hu9))) c7)
  refine lv_goto (tgt := 3556) hx hb dL_law_1202 (by decide) ?_
  refine W.widen (k := cells + 17) (n := slots + 322) (by omega) (by omega) ?_
  exact kk9 hs1 fl1 _ _ _ H locs hI9 (lv_sub hl [2, 3, 4, 5, 6] rfl) hP hD hS
set_option maxHeartbeats 4000000 in
set_option maxRecDepth 100000 in
theorem lc_clearBuffer {p : Program} {l : Launch} {e : Env} {s : State} {m : MethodId} {below : List Frame} {meth : Method} {c : Code} {b L : Nat} {xs : Nat → Int32} {dC : Nat → ClassId} {dI : Nat → Nat → Nat} {cI cZ cS cL : ClassId} {A : Nat → Prop} {a am : Nat → Nat} {o : Nat} {Q : State → Prop} (X0 : LCx p l s m c b L xs dC dI cI cZ cS cL A) {Inv : Nat → (Nat → Option Mem) → Mem → Mem → Prop} (hSt : St_clearBuffer Inv) {n : Nat} (hn : n < 512) (hnL : 3 * n + 2 < L) (hL : L ≤ 1536) {hs : HS} {fl : Nat → Int64} {M K : Mem} (hI : Inv n (cts hs) M K) {ls : Array Slot} {H : Heap} {locs : List Loc} {cells slots : Nat} (hcs : cells + 17 ≤ 601024) (hss : slots + 322 ≤ 7293034) (hl : lv_has ls 9 [(0, .ref b), (1, .ref (a 0)), (2, .ref (am 0)), (3, .ref o), (4, .int (nI (3 * n)))]) (hP : va_P (dC, dI) vwCl (wLaw cI cZ cS cL hs o fl a M am K ++ RW cI cZ hs) H) (hD : va_D A (wLaw cI cZ cS cL hs o fl a M am K ++ RW cI cZ hs)) (hS : va_S A s.heap H locs) (kk9 : ∀ (hs' : HS) (fl' : Nat → Int64) (M' K' : Mem) (ls : Array Slot) (H : Heap) (locs : List Loc), Inv (n + 1) (cts hs') M' K' → lv_has ls 9 [(0, .ref b), (1, .ref (a 0)), (2, .ref (am 0)), (3, .ref o), (4, .int (nI (3 * n)))] → va_P (dC, dI) vwCl (wLaw cI cZ cS cL hs' o fl' a M' am K' ++ RW cI cZ hs') H → va_D A (wLaw cI cZ cS cL hs' o fl' a M' am K' ++ RW cI cZ hs') → va_S A s.heap H locs → W p l e room_1 s m #[Value.ref b] below meth c H locs (cells + 17) (slots + 322) Q (F0 m 3556 ls [])) : W p l e room_1 s m #[Value.ref b] below meth c H locs cells slots Q (F0 m 1205 ls []) := by
  obtain ⟨hx, hb, hml, hown, hts, hK, hNW, hEX, hNC, hA, hXs, hbl, hbA, hst⟩ := X0
  have hK8 : va_K (dC, dI) vwCl (tys8 cI cZ cS) s := hK.sub (tys' := tys8 cI cZ cS) [0, 1, 2] rfl
  have hK2 : va_K (dC, dI) vwCl [(cI, .int), (cZ, .boolean)] s := hK.sub (tys' := [(cI, .int), (cZ, .boolean)]) [0, 1] rfl
  obtain ⟨z, y, hf8, hf9, hEq, hI9⟩ := hSt n (cts hs) M K hn hI
  refine lv_aload_n hx hb dL_law_1205 rfl (lv_at hl 1 rfl) ?_
  have hPc := P_head (ws := (wLaw cI cZ cS cL hs o fl a M am K)) (ws' := (wX8 cI cZ cS (fS hs) (fG hs) a M)) hP [1, 2, 3, 4, 5, 6, 7, 8, 9, 10, 11, 12, 13, 14, 15, 16, 17, 18, 19, 20, 21, 22, 23, 24, 25, 26, 27, 28, 29, 30, 31, 32, 33, 34, 35, 36, 37, 38, 39, 40, 41, 42] rfl
  have hDc := D_head (ws := (wLaw cI cZ cS cL hs o fl a M am K)) (ws' := (wX8 cI cZ cS (fS hs) (fG hs) a M)) hD [1, 2, 3, 4, 5, 6, 7, 8, 9, 10, 11, 12, 13, 14, 15, 16, 17, 18, 19, 20, 21, 22, 23, 24, 25, 26, 27, 28, 29, 30, 31, 32, 33, 34, 35, 36, 37, 38, 39, 40, 41, 42] (by decide) rfl
  have hFc := va_free (wc := (wX8 cI cZ cS (fS hs) (fG hs) a M)) hD hS hA [1, 2, 3, 4, 5, 6, 7, 8, 9, 10, 11, 12, 13, 14, 15, 16, 17, 18, 19, 20, 21, 22, 23, 24, 25, 26, 27, 28, 29, 30, 31, 32, 33, 34, 35, 36, 37, 38, 39, 40, 41, 42] rfl
  refine va_calli (va_runV (As := []) (rest := []) ⟨hx, hb, hml, hown, hts⟩ (c_X8_clearBuffer l dC dI cI cZ cS (fS hs) (fG hs) a H.size M z hf8) (cwV 0 hts gL_law_X8_clearBuffer rfl rfl rfl (by decide +kernel) ⟨Nat.le_of_ble_eq_true rfl, Nat.le_of_ble_eq_true rfl⟩) ⟨WR8.blind, va_recv hK hP (ci := 8) (q0 := 1) rfl rfl, WR8.pre hPc hK8 hDc hNW⟩ rfl rfl hl.1 rfl (lv_room (Nat.le_of_ble_eq_true rfl)) dL_law_1206 ⟨by show cells + 0 ≤ 601024; omega, by show slots + 0 ≤ 7293034; omega⟩) hS (fun q _ h => hFc q h) hFc (fun rv u t H1 locs ht hvm hw hB hz1 hk1 hS => ?_)
  obtain ⟨hP1, hD1⟩ := hB
  rw [ht] at hP1
  rw [hw]
  obtain ⟨hP, hD⟩ := join_app (ws := (wLaw cI cZ cS cL hs o fl a M am K)) (wr := ((o, .inl (cL, 1, .inr (.inl fl))) :: wX9 cI cZ am K)) (w1 := (wX8 cI cZ cS (fS hs) (fG hs) a (sr M 36 (z.2 36)))) hP hD [1, 2, 3, 4, 5, 6, 7, 8, 9, 10, 11, 12, 13, 14, 15, 16, 17, 18, 19, 20, 21, 22, 23, 24, 25, 26, 27, 28, 29, 30, 31, 32, 33, 34, 35, 36, 37, 38, 39, 40, 41, 42] [0, 43, 44, 45, 46, 47, 48, 49, 50, 51] rfl rfl (by decide) (by decide) hk1 hFc hP1 hD1
  have hP := hP.part (cx := (wLaw cI cZ cS cL hs o fl a (sr M 36 (z.2 36)) am K)) [0, 10, 11, 12, 13, 14, 15, 16, 17, 18, 19, 20, 21, 22, 23, 24, 25, 26, 27, 28, 29, 30, 31, 32, 33, 34, 35, 36, 37, 38, 39, 40, 41, 42, 43, 44, 45, 46, 47, 48, 49, 50, 51, 1, 2, 3, 4, 5, 6, 7, 8, 9] rfl
  have hD := hD.part (cx := (wLaw cI cZ cS cL hs o fl a (sr M 36 (z.2 36)) am K)) [0, 10, 11, 12, 13, 14, 15, 16, 17, 18, 19, 20, 21, 22, 23, 24, 25, 26, 27, 28, 29, 30, 31, 32, 33, 34, 35, 36, 37, 38, 39, 40, 41, 42, 43, 44, 45, 46, 47, 48, 49, 50, 51, 1, 2, 3, 4, 5, 6, 7, 8, 9] (by decide) rfl
  generalize H1 = H at hP hS ⊢
  refine lv_aload_n hx hb dL_law_1209 rfl (lv_at hl 2 rfl) ?_
  have hPc := P_head (ws := (wLaw cI cZ cS cL hs o fl a (sr M 36 (z.2 36)) am K)) (ws' := (wX9 cI cZ am K)) hP [43, 44, 45, 46, 47, 48, 49, 50, 51] rfl
  have hDc := D_head (ws := (wLaw cI cZ cS cL hs o fl a (sr M 36 (z.2 36)) am K)) (ws' := (wX9 cI cZ am K)) hD [43, 44, 45, 46, 47, 48, 49, 50, 51] (by decide) rfl
  have hFc := va_free (wc := (wX9 cI cZ am K)) hD hS hA [43, 44, 45, 46, 47, 48, 49, 50, 51] rfl
  refine va_calli (va_runV (As := []) (rest := [.int z.1]) ⟨hx, hb, hml, hown, hts⟩ (c_X9_clearBuffer l dC dI cI cZ am H.size K y hf9) (cwV 0 hts gL_law_X9_clearBuffer rfl rfl rfl (by decide +kernel) ⟨Nat.le_of_ble_eq_true rfl, Nat.le_of_ble_eq_true rfl⟩) ⟨WR.blind, va_recv hK hP (ci := 9) (q0 := 43) rfl rfl, WR.pre hPc hK2 hDc hNW⟩ rfl rfl hl.1 rfl (lv_room (Nat.le_of_ble_eq_true rfl)) dL_law_1210 ⟨by show _ + 0 ≤ 601024; omega, by show _ + 0 ≤ 7293034; omega⟩) hS (fun q _ h => hFc q h) hFc (fun rv u t H1 locs ht hvm hw hB hz1 hk1 hS => ?_)
  obtain ⟨hP1, hD1⟩ := hB
  rw [ht] at hP1
  rw [hw]
  obtain ⟨hP, hD⟩ := join_app (ws := (wLaw cI cZ cS cL hs o fl a (sr M 36 (z.2 36)) am K)) (wr := (wL cI cZ cS cL (fS hs) (fG hs) o fl a (sr M 36 (z.2 36)))) (w1 := (wX9 cI cZ am (sr K 0 (y.2 0)))) hP hD [43, 44, 45, 46, 47, 48, 49, 50, 51] [0, 1, 2, 3, 4, 5, 6, 7, 8, 9, 10, 11, 12, 13, 14, 15, 16, 17, 18, 19, 20, 21, 22, 23, 24, 25, 26, 27, 28, 29, 30, 31, 32, 33, 34, 35, 36, 37, 38, 39, 40, 41, 42] rfl rfl (by decide) (by decide) hk1 hFc hP1 hD1
  have hP : va_P (dC, dI) vwCl ((wLaw cI cZ cS cL hs o fl a (sr M 36 (z.2 36)) am (sr K 0 (y.2 0))) ++ RW cI cZ hs) H1 := hP
  have hD : va_D A ((wLaw cI cZ cS cL hs o fl a (sr M 36 (z.2 36)) am (sr K 0 (y.2 0))) ++ RW cI cZ hs) := hD
  generalize H1 = H at hP hS ⊢
  refine lv_icmp_eq (tgt := 3556) hx hb dL_law_1213 (by decide) (fun c9 => ?_) (fun c9 => absurd hEq c9)
  refine W.widen (k := cells + 17) (n := slots + 322) (by omega) (by omega) ?_
  exact kk9 hs fl _ _ _ H locs hI9 (lv_sub hl [0, 1, 2, 3, 4] rfl) hP hD hS
set_option maxHeartbeats 4000000 in
set_option maxRecDepth 100000 in
theorem lc_firstError {p : Program} {l : Launch} {e : Env} {s : State} {m : MethodId} {below : List Frame} {meth : Method} {c : Code} {b L : Nat} {xs : Nat → Int32} {dC : Nat → ClassId} {dI : Nat → Nat → Nat} {cI cZ cS cL : ClassId} {A : Nat → Prop} {a am : Nat → Nat} {o : Nat} {Q : State → Prop} (X0 : LCx p l s m c b L xs dC dI cI cZ cS cL A) {Inv : Nat → (Nat → Option Mem) → Mem → Mem → Prop} (hSt : St_firstError Inv) {n : Nat} (hn : n < 512) (hnL : 3 * n + 2 < L) (hL : L ≤ 1536) {hs : HS} {fl : Nat → Int64} {M K : Mem} (hI : Inv n (cts hs) M K) {ls : Array Slot} {H : Heap} {locs : List Loc} {cells slots : Nat} (hcs : cells + 17 ≤ 601024) (hss : slots + 322 ≤ 7293034) (hl : lv_has ls 9 [(0, .ref b), (1, .ref (a 0)), (2, .ref (am 0)), (3, .ref o), (4, .int (nI (3 * n)))]) (hP : va_P (dC, dI) vwCl (wLaw cI cZ cS cL hs o fl a M am K ++ RW cI cZ hs) H) (hD : va_D A (wLaw cI cZ cS cL hs o fl a M am K ++ RW cI cZ hs)) (hS : va_S A s.heap H locs) (kk9 : ∀ (hs' : HS) (fl' : Nat → Int64) (M' K' : Mem) (ls : Array Slot) (H : Heap) (locs : List Loc), Inv (n + 1) (cts hs') M' K' → lv_has ls 9 [(0, .ref b), (1, .ref (a 0)), (2, .ref (am 0)), (3, .ref o), (4, .int (nI (3 * n)))] → va_P (dC, dI) vwCl (wLaw cI cZ cS cL hs' o fl' a M' am K' ++ RW cI cZ hs') H → va_D A (wLaw cI cZ cS cL hs' o fl' a M' am K' ++ RW cI cZ hs') → va_S A s.heap H locs → W p l e room_1 s m #[Value.ref b] below meth c H locs (cells + 17) (slots + 322) Q (F0 m 3556 ls [])) : W p l e room_1 s m #[Value.ref b] below meth c H locs cells slots Q (F0 m 1218 ls []) := by
  obtain ⟨hx, hb, hml, hown, hts, hK, hNW, hEX, hNC, hA, hXs, hbl, hbA, hst⟩ := X0
  have hK8 : va_K (dC, dI) vwCl (tys8 cI cZ cS) s := hK.sub (tys' := tys8 cI cZ cS) [0, 1, 2] rfl
  have hK2 : va_K (dC, dI) vwCl [(cI, .int), (cZ, .boolean)] s := hK.sub (tys' := [(cI, .int), (cZ, .boolean)]) [0, 1] rfl
  obtain ⟨z, y, hf8, hf9, hEq, hI9⟩ := hSt n (cts hs) M K hn hI
  refine lv_aload_n hx hb dL_law_1218 rfl (lv_at hl 1 rfl) ?_
  have hPc := P_head (ws := (wLaw cI cZ cS cL hs o fl a M am K)) (ws' := (wX8 cI cZ cS (fS hs) (fG hs) a M)) hP [1, 2, 3, 4, 5, 6, 7, 8, 9, 10, 11, 12, 13, 14, 15, 16, 17, 18, 19, 20, 21, 22, 23, 24, 25, 26, 27, 28, 29, 30, 31, 32, 33, 34, 35, 36, 37, 38, 39, 40, 41, 42] rfl
  have hDc := D_head (ws := (wLaw cI cZ cS cL hs o fl a M am K)) (ws' := (wX8 cI cZ cS (fS hs) (fG hs) a M)) hD [1, 2, 3, 4, 5, 6, 7, 8, 9, 10, 11, 12, 13, 14, 15, 16, 17, 18, 19, 20, 21, 22, 23, 24, 25, 26, 27, 28, 29, 30, 31, 32, 33, 34, 35, 36, 37, 38, 39, 40, 41, 42] (by decide) rfl
  have hFc := va_free (wc := (wX8 cI cZ cS (fS hs) (fG hs) a M)) hD hS hA [1, 2, 3, 4, 5, 6, 7, 8, 9, 10, 11, 12, 13, 14, 15, 16, 17, 18, 19, 20, 21, 22, 23, 24, 25, 26, 27, 28, 29, 30, 31, 32, 33, 34, 35, 36, 37, 38, 39, 40, 41, 42] rfl
  refine va_calli (va_runV (As := []) (rest := []) ⟨hx, hb, hml, hown, hts⟩ (c_X8_firstError l dC dI cI cZ cS (fS hs) (fG hs) a H.size M z hf8) (cwV 0 hts gL_law_X8_firstError rfl rfl rfl (by decide +kernel) ⟨Nat.le_of_ble_eq_true rfl, Nat.le_of_ble_eq_true rfl⟩) ⟨WR8.blind, va_recv hK hP (ci := 8) (q0 := 1) rfl rfl, WR8.pre hPc hK8 hDc hNW⟩ rfl rfl hl.1 rfl (lv_room (Nat.le_of_ble_eq_true rfl)) dL_law_1219 ⟨by show cells + 0 ≤ 601024; omega, by show slots + 0 ≤ 7293034; omega⟩) hS (fun q _ h => hFc q h) hFc (fun rv u t H1 locs ht hvm hw hB hz1 hk1 hS => ?_)
  obtain ⟨hP1, hD1⟩ := hB
  rw [ht] at hP1
  rw [hw]
  obtain ⟨hP, hD⟩ := join_app (ws := (wLaw cI cZ cS cL hs o fl a M am K)) (wr := ((o, .inl (cL, 1, .inr (.inl fl))) :: wX9 cI cZ am K)) (w1 := (wX8 cI cZ cS (fS hs) (fG hs) a (sr (sr M 38 (z.2 38)) 39 (z.2 39)))) hP hD [1, 2, 3, 4, 5, 6, 7, 8, 9, 10, 11, 12, 13, 14, 15, 16, 17, 18, 19, 20, 21, 22, 23, 24, 25, 26, 27, 28, 29, 30, 31, 32, 33, 34, 35, 36, 37, 38, 39, 40, 41, 42] [0, 43, 44, 45, 46, 47, 48, 49, 50, 51] rfl rfl (by decide) (by decide) hk1 hFc hP1 hD1
  have hP := hP.part (cx := (wLaw cI cZ cS cL hs o fl a (sr (sr M 38 (z.2 38)) 39 (z.2 39)) am K)) [0, 10, 11, 12, 13, 14, 15, 16, 17, 18, 19, 20, 21, 22, 23, 24, 25, 26, 27, 28, 29, 30, 31, 32, 33, 34, 35, 36, 37, 38, 39, 40, 41, 42, 43, 44, 45, 46, 47, 48, 49, 50, 51, 1, 2, 3, 4, 5, 6, 7, 8, 9] rfl
  have hD := hD.part (cx := (wLaw cI cZ cS cL hs o fl a (sr (sr M 38 (z.2 38)) 39 (z.2 39)) am K)) [0, 10, 11, 12, 13, 14, 15, 16, 17, 18, 19, 20, 21, 22, 23, 24, 25, 26, 27, 28, 29, 30, 31, 32, 33, 34, 35, 36, 37, 38, 39, 40, 41, 42, 43, 44, 45, 46, 47, 48, 49, 50, 51, 1, 2, 3, 4, 5, 6, 7, 8, 9] (by decide) rfl
  generalize H1 = H at hP hS ⊢
  refine lv_aload_n hx hb dL_law_1222 rfl (lv_at hl 2 rfl) ?_
  have hPc := P_head (ws := (wLaw cI cZ cS cL hs o fl a (sr (sr M 38 (z.2 38)) 39 (z.2 39)) am K)) (ws' := (wX9 cI cZ am K)) hP [43, 44, 45, 46, 47, 48, 49, 50, 51] rfl
  have hDc := D_head (ws := (wLaw cI cZ cS cL hs o fl a (sr (sr M 38 (z.2 38)) 39 (z.2 39)) am K)) (ws' := (wX9 cI cZ am K)) hD [43, 44, 45, 46, 47, 48, 49, 50, 51] (by decide) rfl
  have hFc := va_free (wc := (wX9 cI cZ am K)) hD hS hA [43, 44, 45, 46, 47, 48, 49, 50, 51] rfl
  refine va_calli (va_runV (As := []) (rest := [.int z.1]) ⟨hx, hb, hml, hown, hts⟩ (c_X9_firstError l dC dI cI cZ am H.size K y hf9) (cwV 0 hts gL_law_X9_firstError rfl rfl rfl (by decide +kernel) ⟨Nat.le_of_ble_eq_true rfl, Nat.le_of_ble_eq_true rfl⟩) ⟨WR.blind, va_recv hK hP (ci := 9) (q0 := 43) rfl rfl, WR.pre hPc hK2 hDc hNW⟩ rfl rfl hl.1 rfl (lv_room (Nat.le_of_ble_eq_true rfl)) dL_law_1223 ⟨by show _ + 0 ≤ 601024; omega, by show _ + 0 ≤ 7293034; omega⟩) hS (fun q _ h => hFc q h) hFc (fun rv u t H1 locs ht hvm hw hB hz1 hk1 hS => ?_)
  obtain ⟨hP1, hD1⟩ := hB
  rw [ht] at hP1
  rw [hw]
  obtain ⟨hP, hD⟩ := join_app (ws := (wLaw cI cZ cS cL hs o fl a (sr (sr M 38 (z.2 38)) 39 (z.2 39)) am K)) (wr := (wL cI cZ cS cL (fS hs) (fG hs) o fl a (sr (sr M 38 (z.2 38)) 39 (z.2 39)))) (w1 := (wX9 cI cZ am (sr (sr K 0 (y.2 0)) 7 (y.2 7)))) hP hD [43, 44, 45, 46, 47, 48, 49, 50, 51] [0, 1, 2, 3, 4, 5, 6, 7, 8, 9, 10, 11, 12, 13, 14, 15, 16, 17, 18, 19, 20, 21, 22, 23, 24, 25, 26, 27, 28, 29, 30, 31, 32, 33, 34, 35, 36, 37, 38, 39, 40, 41, 42] rfl rfl (by decide) (by decide) hk1 hFc hP1 hD1
  have hP : va_P (dC, dI) vwCl ((wLaw cI cZ cS cL hs o fl a (sr (sr M 38 (z.2 38)) 39 (z.2 39)) am (sr (sr K 0 (y.2 0)) 7 (y.2 7))) ++ RW cI cZ hs) H1 := hP
  have hD : va_D A ((wLaw cI cZ cS cL hs o fl a (sr (sr M 38 (z.2 38)) 39 (z.2 39)) am (sr (sr K 0 (y.2 0)) 7 (y.2 7))) ++ RW cI cZ hs) := hD
  generalize H1 = H at hP hS ⊢
  refine lv_icmp_eq (tgt := 3556) hx hb dL_law_1226 (by decide) (fun c9 => ?_) (fun c9 => absurd hEq c9)
  refine W.widen (k := cells + 17) (n := slots + 322) (by omega) (by omega) ?_
  exact kk9 hs fl _ _ _ H locs hI9 (lv_sub hl [0, 1, 2, 3, 4] rfl) hP hD hS
set_option maxHeartbeats 4000000 in
set_option maxRecDepth 100000 in
theorem lc_keep {p : Program} {l : Launch} {e : Env} {s : State} {m : MethodId} {below : List Frame} {meth : Method} {c : Code} {b L : Nat} {xs : Nat → Int32} {dC : Nat → ClassId} {dI : Nat → Nat → Nat} {cI cZ cS cL : ClassId} {A : Nat → Prop} {a am : Nat → Nat} {o : Nat} {Q : State → Prop} (X0 : LCx p l s m c b L xs dC dI cI cZ cS cL A) {Inv : Nat → (Nat → Option Mem) → Mem → Mem → Prop} (hSt : St_keep Inv) {n : Nat} (hn : n < 512) (hnL : 3 * n + 2 < L) (hL : L ≤ 1536) {hs : HS} {fl : Nat → Int64} {M K : Mem} (hI : Inv n (cts hs) M K) {ls : Array Slot} {H : Heap} {locs : List Loc} {cells slots : Nat} (hcs : cells + 17 ≤ 601024) (hss : slots + 322 ≤ 7293034) (hl : lv_has ls 9 [(0, .ref b), (1, .ref (a 0)), (2, .ref (am 0)), (3, .ref o), (4, .int (nI (3 * n)))]) (hP : va_P (dC, dI) vwCl (wLaw cI cZ cS cL hs o fl a M am K ++ RW cI cZ hs) H) (hD : va_D A (wLaw cI cZ cS cL hs o fl a M am K ++ RW cI cZ hs)) (hS : va_S A s.heap H locs) (kk9 : ∀ (hs' : HS) (fl' : Nat → Int64) (M' K' : Mem) (ls : Array Slot) (H : Heap) (locs : List Loc), Inv (n + 1) (cts hs') M' K' → lv_has ls 9 [(0, .ref b), (1, .ref (a 0)), (2, .ref (am 0)), (3, .ref o), (4, .int (nI (3 * n)))] → va_P (dC, dI) vwCl (wLaw cI cZ cS cL hs' o fl' a M' am K' ++ RW cI cZ hs') H → va_D A (wLaw cI cZ cS cL hs' o fl' a M' am K' ++ RW cI cZ hs') → va_S A s.heap H locs → W p l e room_1 s m #[Value.ref b] below meth c H locs (cells + 17) (slots + 322) Q (F0 m 3556 ls [])) : W p l e room_1 s m #[Value.ref b] below meth c H locs cells slots Q (F0 m 1231 ls []) := by
  obtain ⟨hx, hb, hml, hown, hts, hK, hNW, hEX, hNC, hA, hXs, hbl, hbA, hst⟩ := X0
  have hK8 : va_K (dC, dI) vwCl (tys8 cI cZ cS) s := hK.sub (tys' := tys8 cI cZ cS) [0, 1, 2] rfl
  have hK2 : va_K (dC, dI) vwCl [(cI, .int), (cZ, .boolean)] s := hK.sub (tys' := [(cI, .int), (cZ, .boolean)]) [0, 1] rfl
  obtain ⟨r, kk, z2, z3, y, hf8, hA9, hC9, hf9, h9k, hI9⟩ := hSt n (cts hs) M K (xs (3 * n + 1)) hn hI
  refine lv_aload_n hx hb dL_law_1231 rfl (lv_at hl 1 rfl) ?_
  refine lv_aload_n hx hb dL_law_1232 rfl (lv_at hl 0 rfl) ?_
  refine lv_iload hx hb dL_law_1233 (lv_at hl 4 rfl) ?_
  refine lv_iconst (v := (1 : Int32)) hx hb dL_law_1235 (by decide) ?_
  refine lv_iadd hx hb dL_law_1236 ?_
  rw [show nI (3 * n) + (1 : Int32) = nI (3 * n + 1) from nI_add (3 * n) 1]
  refine va_sld hx hb hXs hbl hbA hS (vp_in_nI (by omega) (by omega)) dL_law_1237 ?_
  rw [nI_clamp (show 3 * n + 1 < 2 ^ 31 by omega)]
  have hPc := hP.part (X := (wLaw cI cZ cS cL hs o fl a M am K)) (cx := (wX8 cI cZ cS (fS hs) (fG hs) a M)) [1, 2, 3, 4, 5, 6, 7, 8, 9, 10, 11, 12, 13, 14, 15, 16, 17, 18, 19, 20, 21, 22, 23, 24, 25, 26, 27, 28, 29, 30, 31, 32, 33, 34, 35, 36, 37, 38, 39, 40, 41, 42] rfl
  have hDc := hD.part (X := (wLaw cI cZ cS cL hs o fl a M am K)) (cx := (wX8 cI cZ cS (fS hs) (fG hs) a M)) [1, 2, 3, 4, 5, 6, 7, 8, 9, 10, 11, 12, 13, 14, 15, 16, 17, 18, 19, 20, 21, 22, 23, 24, 25, 26, 27, 28, 29, 30, 31, 32, 33, 34, 35, 36, 37, 38, 39, 40, 41, 42] (by decide) rfl
  have hFc := va_freeP (X := (wLaw cI cZ cS cL hs o fl a M am K)) (cx := (wX8 cI cZ cS (fS hs) (fG hs) a M)) hD hS hA [1, 2, 3, 4, 5, 6, 7, 8, 9, 10, 11, 12, 13, 14, 15, 16, 17, 18, 19, 20, 21, 22, 23, 24, 25, 26, 27, 28, 29, 30, 31, 32, 33, 34, 35, 36, 37, 38, 39, 40, 41, 42] rfl
  refine va_calli (vx_runSW (As := [.ref (a 0), .int ((xs (3 * n + 1)))]) (rest := []) ⟨hx, hb, hml, hown, hts⟩ (w_L_keep l hst dC dI cI cZ cS cL hs a H.size M ((xs (3 * n + 1))) r kk z2 z3 hf8 hA9 hC9) (vx_cwSW 2 hts gL_law_L_keep rfl rfl rfl (by decide +kernel) ⟨Nat.le_of_ble_eq_true rfl, Nat.le_of_ble_eq_true rfl⟩) ⟨T9.blind, T9.pre hPc hK hDc hNW (hEX.at hS hFc) hNC⟩ rfl rfl hl.1 rfl (lv_room (Nat.le_of_ble_eq_true rfl)) dL_law_1238 ⟨by show cells + 16 ≤ 601024; omega, by show slots + 316 ≤ 7293034; omega⟩) hS (fun q _ h => hFc q h) hFc (fun rv u t H1 locs ht hvm hw hB hz1 hk1 hS => ?_)
  obtain ⟨hw1, hw2⟩ := hw
  generalize u = hs1 at hw2 hB
  rw [hw1]
  obtain ⟨hP1, hD1⟩ := hB
  rw [ht] at hP1
  obtain ⟨hP, hD⟩ := va_joinP (X := (wLaw cI cZ cS cL hs o fl a M am K)) (cx := (wX8 cI cZ cS (fS hs) (fG hs) a M)) (wr := ((o, .inl (cL, 1, .inr (.inl fl))) :: wX9 cI cZ am K)) (rx := (wX8 cI cZ cS (fS hs1) (fG hs1) a z2)) hP hD [1, 2, 3, 4, 5, 6, 7, 8, 9, 10, 11, 12, 13, 14, 15, 16, 17, 18, 19, 20, 21, 22, 23, 24, 25, 26, 27, 28, 29, 30, 31, 32, 33, 34, 35, 36, 37, 38, 39, 40, 41, 42] [0, 43, 44, 45, 46, 47, 48, 49, 50, 51] rfl rfl (by decide) (by decide) hk1 hFc hP1 hD1
  have hP := hP.part (cx := (wLaw cI cZ cS cL hs1 o fl a z2 am K)) [0, 10, 11, 12, 13, 14, 15, 16, 17, 18, 19, 20, 21, 22, 23, 24, 25, 26, 27, 28, 29, 30, 31, 32, 33, 34, 35, 36, 37, 38, 39, 40, 41, 42, 43, 44, 45, 46, 47, 48, 49, 50, 51, 1, 2, 3, 4, 5, 6, 7, 8, 9] rfl
  have hD := hD.part (cx := (wLaw cI cZ cS cL hs1 o fl a z2 am K)) [0, 10, 11, 12, 13, 14, 15, 16, 17, 18, 19, 20, 21, 22, 23, 24, 25, 26, 27, 28, 29, 30, 31, 32, 33, 34, 35, 36, 37, 38, 39, 40, 41, 42, 43, 44, 45, 46, 47, 48, 49, 50, 51, 1, 2, 3, 4, 5, 6, 7, 8, 9] (by decide) rfl
  generalize H1 = H at hP hS ⊢
  rw [← hw2] at hI9
  refine lv_istore (lv' := [(5, .int kk), (0, .ref b), (1, .ref (a 0)), (2, .ref (am 0)), (3, .ref o), (4, .int (nI (3 * n)))]) hx hb dL_law_1241 hl (by decide) rfl (fun ls hl => ?_)
  refine lv_aload_n hx hb dL_law_1243 rfl (lv_at hl 3 rfl) ?_
  refine lv_aload_n hx hb dL_law_1244 rfl (lv_at hl 1 rfl) ?_
  refine lv_iload hx hb dL_law_1245 (lv_at hl 5 rfl) ?_
  refine lv_iconst (v := (1 : Int32)) hx hb dL_law_1247 (by decide) ?_
  refine lv_iadd hx hb dL_law_1248 ?_
  rw [show nI (3 * n) + (1 : Int32) = nI (3 * n + 1) from nI_add (3 * n) 1]
  refine va_sld hx hb hXs hbl hbA hS (vp_in_nI (by omega) (by omega)) dL_law_1249 ?_
  rw [nI_clamp (show 3 * n + 1 < 2 ^ 31 by omega)]
  have hPc := P_head (ws := (wLaw cI cZ cS cL hs1 o fl a z2 am K)) (ws' := (wX9 cI cZ am K)) hP [43, 44, 45, 46, 47, 48, 49, 50, 51] rfl
  have hDc := D_head (ws := (wLaw cI cZ cS cL hs1 o fl a z2 am K)) (ws' := (wX9 cI cZ am K)) hD [43, 44, 45, 46, 47, 48, 49, 50, 51] (by decide) rfl
  have hFc := va_free (wc := (wX9 cI cZ am K)) hD hS hA [43, 44, 45, 46, 47, 48, 49, 50, 51] rfl
  refine va_callv (va_runV (As := [.int ((xs (3 * n + 1)))]) (rest := []) ⟨hx, hb, hml, hown, hts⟩ (c_X9_keep l dC dI cI cZ am H.size K ((xs (3 * n + 1))) y hf9) (cwV 1 hts gL_law_X9_keep rfl rfl rfl (by decide +kernel) ⟨Nat.le_of_ble_eq_true rfl, Nat.le_of_ble_eq_true rfl⟩) ⟨WR.blind, va_recv hK hP (ci := 9) (q0 := 43) rfl rfl, WR.pre hPc hK2 hDc hNW⟩ rfl rfl hl.1 rfl (lv_room (Nat.le_of_ble_eq_true rfl)) dL_law_1250 ⟨by show _ + 0 ≤ 601024; omega, by show _ + 0 ≤ 7293034; omega⟩) hS (fun q _ h => hFc q h) hFc (fun u t H1 locs ht hvm hw hB hz1 hk1 hS => ?_)
  obtain ⟨hP1, hD1⟩ := hB
  rw [ht] at hP1
  obtain ⟨hP, hD⟩ := join_app (ws := (wLaw cI cZ cS cL hs1 o fl a z2 am K)) (wr := (wL cI cZ cS cL (fS hs1) (fG hs1) o fl a z2)) (w1 := (wX9 cI cZ am (sr (sr (sr K 0 (y 0)) 4 (y 4)) 5 (y 5)))) hP hD [43, 44, 45, 46, 47, 48, 49, 50, 51] [0, 1, 2, 3, 4, 5, 6, 7, 8, 9, 10, 11, 12, 13, 14, 15, 16, 17, 18, 19, 20, 21, 22, 23, 24, 25, 26, 27, 28, 29, 30, 31, 32, 33, 34, 35, 36, 37, 38, 39, 40, 41, 42] rfl rfl (by decide) (by decide) hk1 hFc hP1 hD1
  have hP : va_P (dC, dI) vwCl ((wLaw cI cZ cS cL hs1 o fl a z2 am (sr (sr (sr K 0 (y 0)) 4 (y 4)) 5 (y 5))) ++ RW cI cZ hs1) H1 := hP
  have hD : va_D A ((wLaw cI cZ cS cL hs1 o fl a z2 am (sr (sr (sr K 0 (y 0)) 4 (y 4)) 5 (y 5))) ++ RW cI cZ hs1) := hD
  generalize H1 = H at hP hS ⊢
  refine lv_aload_n hx hb dL_law_1253 rfl (lv_at hl 3 rfl) ?_
  have hPc := P_head (ws := (wLaw cI cZ cS cL hs1 o fl a z2 am (sr (sr (sr K 0 (y 0)) 4 (y 4)) 5 (y 5)))) (ws' := (wX9 cI cZ am (sr (sr (sr K 0 (y 0)) 4 (y 4)) 5 (y 5)))) hP [43, 44, 45, 46, 47, 48, 49, 50, 51] rfl
  refine cRO (W.runV (As := []) (rest := []) ⟨hx, hb, hml, hown, hts⟩ (c_X9_thrown l dC dI cI cZ am (sr (sr (sr K 0 (y 0)) 4 (y 4)) 5 (y 5)) ((sr (sr (sr K 0 (y 0)) 4 (y 4)) 5 (y 5)) 0 0) rfl) (cwV 0 hts gL_law_X9_thrown rfl rfl rfl (by decide +kernel) ⟨Nat.le_of_ble_eq_true rfl, Nat.le_of_ble_eq_true rfl⟩) ⟨RO.blind, va_recv hK hP (ci := 9) (q0 := 43) rfl rfl, RO.pre hPc hK2 hNW⟩ rfl rfl hl.1 rfl (lv_room (Nat.le_of_ble_eq_true rfl)) dL_law_1254 ⟨by show _ + 0 ≤ 601024; omega, by show _ + 0 ≤ 7293034; omega⟩) ?_
  refine lv_iload hx hb dL_law_1257 (lv_at hl 0 rfl) ?_
  refine lv_icmp_eq (tgt := 1264) hx hb dL_law_1259 (by decide) (fun c9 => ?_) (fun c9 => absurd h9k c9)
  refine lv_goto (tgt := 3556) hx hb dL_law_1264 (by decide) ?_
  refine W.widen (k := cells + 17) (n := slots + 322) (by omega) (by omega) ?_
  exact kk9 hs1 fl _ _ _ H locs hI9 (lv_sub hl [1, 2, 3, 4, 5] rfl) hP hD hS
set_option maxHeartbeats 4000000 in
set_option maxRecDepth 100000 in
theorem lc_goBack {p : Program} {l : Launch} {e : Env} {s : State} {m : MethodId} {below : List Frame} {meth : Method} {c : Code} {b L : Nat} {xs : Nat → Int32} {dC : Nat → ClassId} {dI : Nat → Nat → Nat} {cI cZ cS cL : ClassId} {A : Nat → Prop} {a am : Nat → Nat} {o : Nat} {Q : State → Prop} (X0 : LCx p l s m c b L xs dC dI cI cZ cS cL A) {Inv : Nat → (Nat → Option Mem) → Mem → Mem → Prop} (hSt : St_goBack Inv) {n : Nat} (hn : n < 512) (hnL : 3 * n + 2 < L) (hL : L ≤ 1536) {hs : HS} {fl : Nat → Int64} {M K : Mem} (hI : Inv n (cts hs) M K) {ls : Array Slot} {H : Heap} {locs : List Loc} {cells slots : Nat} (hcs : cells + 17 ≤ 601024) (hss : slots + 322 ≤ 7293034) (hl : lv_has ls 9 [(0, .ref b), (1, .ref (a 0)), (2, .ref (am 0)), (3, .ref o), (4, .int (nI (3 * n)))]) (hP : va_P (dC, dI) vwCl (wLaw cI cZ cS cL hs o fl a M am K ++ RW cI cZ hs) H) (hD : va_D A (wLaw cI cZ cS cL hs o fl a M am K ++ RW cI cZ hs)) (hS : va_S A s.heap H locs) (kk9 : ∀ (hs' : HS) (fl' : Nat → Int64) (M' K' : Mem) (ls : Array Slot) (H : Heap) (locs : List Loc), Inv (n + 1) (cts hs') M' K' → lv_has ls 9 [(0, .ref b), (1, .ref (a 0)), (2, .ref (am 0)), (3, .ref o), (4, .int (nI (3 * n)))] → va_P (dC, dI) vwCl (wLaw cI cZ cS cL hs' o fl' a M' am K' ++ RW cI cZ hs') H → va_D A (wLaw cI cZ cS cL hs' o fl' a M' am K' ++ RW cI cZ hs') → va_S A s.heap H locs → W p l e room_1 s m #[Value.ref b] below meth c H locs (cells + 17) (slots + 322) Q (F0 m 3556 ls [])) : W p l e room_1 s m #[Value.ref b] below meth c H locs cells slots Q (F0 m 1267 ls []) := by
  obtain ⟨hx, hb, hml, hown, hts, hK, hNW, hEX, hNC, hA, hXs, hbl, hbA, hst⟩ := X0
  have hK8 : va_K (dC, dI) vwCl (tys8 cI cZ cS) s := hK.sub (tys' := tys8 cI cZ cS) [0, 1, 2] rfl
  have hK2 : va_K (dC, dI) vwCl [(cI, .int), (cZ, .boolean)] s := hK.sub (tys' := [(cI, .int), (cZ, .boolean)]) [0, 1] rfl
  obtain ⟨r, kk, z2, z3, y, hf8, hA9, hC9, hf9, h9k, hI9⟩ := hSt n (cts hs) M K (xs (3 * n + 1)) hn hI
  refine lv_aload_n hx hb dL_law_1267 rfl (lv_at hl 1 rfl) ?_
  refine lv_aload_n hx hb dL_law_1268 rfl (lv_at hl 0 rfl) ?_
  refine lv_iload hx hb dL_law_1269 (lv_at hl 4 rfl) ?_
  refine lv_iconst (v := (1 : Int32)) hx hb dL_law_1271 (by decide) ?_
  refine lv_iadd hx hb dL_law_1272 ?_
  rw [show nI (3 * n) + (1 : Int32) = nI (3 * n + 1) from nI_add (3 * n) 1]
  refine va_sld hx hb hXs hbl hbA hS (vp_in_nI (by omega) (by omega)) dL_law_1273 ?_
  rw [nI_clamp (show 3 * n + 1 < 2 ^ 31 by omega)]
  have hPc := hP.part (X := (wLaw cI cZ cS cL hs o fl a M am K)) (cx := (wX8 cI cZ cS (fS hs) (fG hs) a M)) [1, 2, 3, 4, 5, 6, 7, 8, 9, 10, 11, 12, 13, 14, 15, 16, 17, 18, 19, 20, 21, 22, 23, 24, 25, 26, 27, 28, 29, 30, 31, 32, 33, 34, 35, 36, 37, 38, 39, 40, 41, 42] rfl
  have hDc := hD.part (X := (wLaw cI cZ cS cL hs o fl a M am K)) (cx := (wX8 cI cZ cS (fS hs) (fG hs) a M)) [1, 2, 3, 4, 5, 6, 7, 8, 9, 10, 11, 12, 13, 14, 15, 16, 17, 18, 19, 20, 21, 22, 23, 24, 25, 26, 27, 28, 29, 30, 31, 32, 33, 34, 35, 36, 37, 38, 39, 40, 41, 42] (by decide) rfl
  have hFc := va_freeP (X := (wLaw cI cZ cS cL hs o fl a M am K)) (cx := (wX8 cI cZ cS (fS hs) (fG hs) a M)) hD hS hA [1, 2, 3, 4, 5, 6, 7, 8, 9, 10, 11, 12, 13, 14, 15, 16, 17, 18, 19, 20, 21, 22, 23, 24, 25, 26, 27, 28, 29, 30, 31, 32, 33, 34, 35, 36, 37, 38, 39, 40, 41, 42] rfl
  refine va_calli (vx_runSW (As := [.ref (a 0), .int ((xs (3 * n + 1)))]) (rest := []) ⟨hx, hb, hml, hown, hts⟩ (w_L_goBack l hst dC dI cI cZ cS cL hs a H.size M ((xs (3 * n + 1))) r kk z2 z3 hf8 hA9 hC9) (vx_cwSW 2 hts gL_law_L_goBack rfl rfl rfl (by decide +kernel) ⟨Nat.le_of_ble_eq_true rfl, Nat.le_of_ble_eq_true rfl⟩) ⟨T9.blind, T9.pre hPc hK hDc hNW (hEX.at hS hFc) hNC⟩ rfl rfl hl.1 rfl (lv_room (Nat.le_of_ble_eq_true rfl)) dL_law_1274 ⟨by show cells + 16 ≤ 601024; omega, by show slots + 316 ≤ 7293034; omega⟩) hS (fun q _ h => hFc q h) hFc (fun rv u t H1 locs ht hvm hw hB hz1 hk1 hS => ?_)
  obtain ⟨hw1, hw2⟩ := hw
  generalize u = hs1 at hw2 hB
  rw [hw1]
  obtain ⟨hP1, hD1⟩ := hB
  rw [ht] at hP1
  obtain ⟨hP, hD⟩ := va_joinP (X := (wLaw cI cZ cS cL hs o fl a M am K)) (cx := (wX8 cI cZ cS (fS hs) (fG hs) a M)) (wr := ((o, .inl (cL, 1, .inr (.inl fl))) :: wX9 cI cZ am K)) (rx := (wX8 cI cZ cS (fS hs1) (fG hs1) a z2)) hP hD [1, 2, 3, 4, 5, 6, 7, 8, 9, 10, 11, 12, 13, 14, 15, 16, 17, 18, 19, 20, 21, 22, 23, 24, 25, 26, 27, 28, 29, 30, 31, 32, 33, 34, 35, 36, 37, 38, 39, 40, 41, 42] [0, 43, 44, 45, 46, 47, 48, 49, 50, 51] rfl rfl (by decide) (by decide) hk1 hFc hP1 hD1
  have hP := hP.part (cx := (wLaw cI cZ cS cL hs1 o fl a z2 am K)) [0, 10, 11, 12, 13, 14, 15, 16, 17, 18, 19, 20, 21, 22, 23, 24, 25, 26, 27, 28, 29, 30, 31, 32, 33, 34, 35, 36, 37, 38, 39, 40, 41, 42, 43, 44, 45, 46, 47, 48, 49, 50, 51, 1, 2, 3, 4, 5, 6, 7, 8, 9] rfl
  have hD := hD.part (cx := (wLaw cI cZ cS cL hs1 o fl a z2 am K)) [0, 10, 11, 12, 13, 14, 15, 16, 17, 18, 19, 20, 21, 22, 23, 24, 25, 26, 27, 28, 29, 30, 31, 32, 33, 34, 35, 36, 37, 38, 39, 40, 41, 42, 43, 44, 45, 46, 47, 48, 49, 50, 51, 1, 2, 3, 4, 5, 6, 7, 8, 9] (by decide) rfl
  generalize H1 = H at hP hS ⊢
  rw [← hw2] at hI9
  refine lv_istore (lv' := [(5, .int kk), (0, .ref b), (1, .ref (a 0)), (2, .ref (am 0)), (3, .ref o), (4, .int (nI (3 * n)))]) hx hb dL_law_1277 hl (by decide) rfl (fun ls hl => ?_)
  refine lv_aload_n hx hb dL_law_1279 rfl (lv_at hl 3 rfl) ?_
  refine lv_aload_n hx hb dL_law_1280 rfl (lv_at hl 1 rfl) ?_
  refine lv_iload hx hb dL_law_1281 (lv_at hl 5 rfl) ?_
  refine lv_iconst (v := (1 : Int32)) hx hb dL_law_1283 (by decide) ?_
  refine lv_iadd hx hb dL_law_1284 ?_
  rw [show nI (3 * n) + (1 : Int32) = nI (3 * n + 1) from nI_add (3 * n) 1]
  refine va_sld hx hb hXs hbl hbA hS (vp_in_nI (by omega) (by omega)) dL_law_1285 ?_
  rw [nI_clamp (show 3 * n + 1 < 2 ^ 31 by omega)]
  have hPc := P_head (ws := (wLaw cI cZ cS cL hs1 o fl a z2 am K)) (ws' := (wX9 cI cZ am K)) hP [43, 44, 45, 46, 47, 48, 49, 50, 51] rfl
  have hDc := D_head (ws := (wLaw cI cZ cS cL hs1 o fl a z2 am K)) (ws' := (wX9 cI cZ am K)) hD [43, 44, 45, 46, 47, 48, 49, 50, 51] (by decide) rfl
  have hFc := va_free (wc := (wX9 cI cZ am K)) hD hS hA [43, 44, 45, 46, 47, 48, 49, 50, 51] rfl
  refine va_callv (va_runV (As := [.int ((xs (3 * n + 1)))]) (rest := []) ⟨hx, hb, hml, hown, hts⟩ (c_X9_goBack l dC dI cI cZ am H.size K ((xs (3 * n + 1))) y hf9) (cwV 1 hts gL_law_X9_goBack rfl rfl rfl (by decide +kernel) ⟨Nat.le_of_ble_eq_true rfl, Nat.le_of_ble_eq_true rfl⟩) ⟨WR.blind, va_recv hK hP (ci := 9) (q0 := 43) rfl rfl, WR.pre hPc hK2 hDc hNW⟩ rfl rfl hl.1 rfl (lv_room (Nat.le_of_ble_eq_true rfl)) dL_law_1286 ⟨by show _ + 0 ≤ 601024; omega, by show _ + 0 ≤ 7293034; omega⟩) hS (fun q _ h => hFc q h) hFc (fun u t H1 locs ht hvm hw hB hz1 hk1 hS => ?_)
  obtain ⟨hP1, hD1⟩ := hB
  rw [ht] at hP1
  obtain ⟨hP, hD⟩ := join_app (ws := (wLaw cI cZ cS cL hs1 o fl a z2 am K)) (wr := (wL cI cZ cS cL (fS hs1) (fG hs1) o fl a z2)) (w1 := (wX9 cI cZ am (sr (sr (sr K 0 (y 0)) 1 (y 1)) 3 (y 3)))) hP hD [43, 44, 45, 46, 47, 48, 49, 50, 51] [0, 1, 2, 3, 4, 5, 6, 7, 8, 9, 10, 11, 12, 13, 14, 15, 16, 17, 18, 19, 20, 21, 22, 23, 24, 25, 26, 27, 28, 29, 30, 31, 32, 33, 34, 35, 36, 37, 38, 39, 40, 41, 42] rfl rfl (by decide) (by decide) hk1 hFc hP1 hD1
  have hP : va_P (dC, dI) vwCl ((wLaw cI cZ cS cL hs1 o fl a z2 am (sr (sr (sr K 0 (y 0)) 1 (y 1)) 3 (y 3))) ++ RW cI cZ hs1) H1 := hP
  have hD : va_D A ((wLaw cI cZ cS cL hs1 o fl a z2 am (sr (sr (sr K 0 (y 0)) 1 (y 1)) 3 (y 3))) ++ RW cI cZ hs1) := hD
  generalize H1 = H at hP hS ⊢
  refine lv_aload_n hx hb dL_law_1289 rfl (lv_at hl 3 rfl) ?_
  have hPc := P_head (ws := (wLaw cI cZ cS cL hs1 o fl a z2 am (sr (sr (sr K 0 (y 0)) 1 (y 1)) 3 (y 3)))) (ws' := (wX9 cI cZ am (sr (sr (sr K 0 (y 0)) 1 (y 1)) 3 (y 3)))) hP [43, 44, 45, 46, 47, 48, 49, 50, 51] rfl
  refine cRO (W.runV (As := []) (rest := []) ⟨hx, hb, hml, hown, hts⟩ (c_X9_thrown l dC dI cI cZ am (sr (sr (sr K 0 (y 0)) 1 (y 1)) 3 (y 3)) ((sr (sr (sr K 0 (y 0)) 1 (y 1)) 3 (y 3)) 0 0) rfl) (cwV 0 hts gL_law_X9_thrown rfl rfl rfl (by decide +kernel) ⟨Nat.le_of_ble_eq_true rfl, Nat.le_of_ble_eq_true rfl⟩) ⟨RO.blind, va_recv hK hP (ci := 9) (q0 := 43) rfl rfl, RO.pre hPc hK2 hNW⟩ rfl rfl hl.1 rfl (lv_room (Nat.le_of_ble_eq_true rfl)) dL_law_1290 ⟨by show _ + 0 ≤ 601024; omega, by show _ + 0 ≤ 7293034; omega⟩) ?_
  refine lv_iload hx hb dL_law_1293 (lv_at hl 0 rfl) ?_
  refine lv_icmp_eq (tgt := 1300) hx hb dL_law_1295 (by decide) (fun c9 => ?_) (fun c9 => absurd h9k c9)
  refine lv_goto (tgt := 3556) hx hb dL_law_1300 (by decide) ?_
  refine W.widen (k := cells + 17) (n := slots + 322) (by omega) (by omega) ?_
  exact kk9 hs1 fl _ _ _ H locs hI9 (lv_sub hl [1, 2, 3, 4, 5] rfl) hP hD hS
set_option maxHeartbeats 4000000 in
set_option maxRecDepth 100000 in
theorem lc_undo {p : Program} {l : Launch} {e : Env} {s : State} {m : MethodId} {below : List Frame} {meth : Method} {c : Code} {b L : Nat} {xs : Nat → Int32} {dC : Nat → ClassId} {dI : Nat → Nat → Nat} {cI cZ cS cL : ClassId} {A : Nat → Prop} {a am : Nat → Nat} {o : Nat} {Q : State → Prop} (X0 : LCx p l s m c b L xs dC dI cI cZ cS cL A) {Inv : Nat → (Nat → Option Mem) → Mem → Mem → Prop} (hSt : St_undo Inv) {n : Nat} (hn : n < 512) (hnL : 3 * n + 2 < L) (hL : L ≤ 1536) {hs : HS} {fl : Nat → Int64} {M K : Mem} (hI : Inv n (cts hs) M K) {ls : Array Slot} {H : Heap} {locs : List Loc} {cells slots : Nat} (hcs : cells + 17 ≤ 601024) (hss : slots + 322 ≤ 7293034) (hl : lv_has ls 9 [(0, .ref b), (1, .ref (a 0)), (2, .ref (am 0)), (3, .ref o), (4, .int (nI (3 * n)))]) (hP : va_P (dC, dI) vwCl (wLaw cI cZ cS cL hs o fl a M am K ++ RW cI cZ hs) H) (hD : va_D A (wLaw cI cZ cS cL hs o fl a M am K ++ RW cI cZ hs)) (hS : va_S A s.heap H locs) (kk9 : ∀ (hs' : HS) (fl' : Nat → Int64) (M' K' : Mem) (ls : Array Slot) (H : Heap) (locs : List Loc), Inv (n + 1) (cts hs') M' K' → lv_has ls 9 [(0, .ref b), (1, .ref (a 0)), (2, .ref (am 0)), (3, .ref o), (4, .int (nI (3 * n)))] → va_P (dC, dI) vwCl (wLaw cI cZ cS cL hs' o fl' a M' am K' ++ RW cI cZ hs') H → va_D A (wLaw cI cZ cS cL hs' o fl' a M' am K' ++ RW cI cZ hs') → va_S A s.heap H locs → W p l e room_1 s m #[Value.ref b] below meth c H locs (cells + 17) (slots + 322) Q (F0 m 3556 ls [])) : W p l e room_1 s m #[Value.ref b] below meth c H locs cells slots Q (F0 m 1303 ls []) := by
  obtain ⟨hx, hb, hml, hown, hts, hK, hNW, hEX, hNC, hA, hXs, hbl, hbA, hst⟩ := X0
  have hK8 : va_K (dC, dI) vwCl (tys8 cI cZ cS) s := hK.sub (tys' := tys8 cI cZ cS) [0, 1, 2] rfl
  have hK2 : va_K (dC, dI) vwCl [(cI, .int), (cZ, .boolean)] s := hK.sub (tys' := [(cI, .int), (cZ, .boolean)]) [0, 1] rfl
  obtain ⟨r, kk, z2, z3, y, hf8, hA9, hC9, hf9, h9k, hI9⟩ := hSt n (cts hs) M K  hn hI
  refine lv_aload_n hx hb dL_law_1303 rfl (lv_at hl 1 rfl) ?_
  have hPc := hP.part (X := (wLaw cI cZ cS cL hs o fl a M am K)) (cx := (wX8 cI cZ cS (fS hs) (fG hs) a M)) [1, 2, 3, 4, 5, 6, 7, 8, 9, 10, 11, 12, 13, 14, 15, 16, 17, 18, 19, 20, 21, 22, 23, 24, 25, 26, 27, 28, 29, 30, 31, 32, 33, 34, 35, 36, 37, 38, 39, 40, 41, 42] rfl
  have hDc := hD.part (X := (wLaw cI cZ cS cL hs o fl a M am K)) (cx := (wX8 cI cZ cS (fS hs) (fG hs) a M)) [1, 2, 3, 4, 5, 6, 7, 8, 9, 10, 11, 12, 13, 14, 15, 16, 17, 18, 19, 20, 21, 22, 23, 24, 25, 26, 27, 28, 29, 30, 31, 32, 33, 34, 35, 36, 37, 38, 39, 40, 41, 42] (by decide) rfl
  have hFc := va_freeP (X := (wLaw cI cZ cS cL hs o fl a M am K)) (cx := (wX8 cI cZ cS (fS hs) (fG hs) a M)) hD hS hA [1, 2, 3, 4, 5, 6, 7, 8, 9, 10, 11, 12, 13, 14, 15, 16, 17, 18, 19, 20, 21, 22, 23, 24, 25, 26, 27, 28, 29, 30, 31, 32, 33, 34, 35, 36, 37, 38, 39, 40, 41, 42] rfl
  refine va_calli (vx_runSW (As := [.ref (a 0)]) (rest := []) ⟨hx, hb, hml, hown, hts⟩ (w_L_undo l hst dC dI cI cZ cS cL hs a H.size M r kk z2 z3 hf8 hA9 hC9) (vx_cwSW 1 hts gL_law_L_undo rfl rfl rfl (by decide +kernel) ⟨Nat.le_of_ble_eq_true rfl, Nat.le_of_ble_eq_true rfl⟩) ⟨T9.blind, T9.pre hPc hK hDc hNW (hEX.at hS hFc) hNC⟩ rfl rfl hl.1 rfl (lv_room (Nat.le_of_ble_eq_true rfl)) dL_law_1304 ⟨by show cells + 1 ≤ 601024; omega, by show slots + 6 ≤ 7293034; omega⟩) hS (fun q _ h => hFc q h) hFc (fun rv u t H1 locs ht hvm hw hB hz1 hk1 hS => ?_)
  obtain ⟨hw1, hw2⟩ := hw
  generalize u = hs1 at hw2 hB
  rw [hw1]
  obtain ⟨hP1, hD1⟩ := hB
  rw [ht] at hP1
  obtain ⟨hP, hD⟩ := va_joinP (X := (wLaw cI cZ cS cL hs o fl a M am K)) (cx := (wX8 cI cZ cS (fS hs) (fG hs) a M)) (wr := ((o, .inl (cL, 1, .inr (.inl fl))) :: wX9 cI cZ am K)) (rx := (wX8 cI cZ cS (fS hs1) (fG hs1) a z2)) hP hD [1, 2, 3, 4, 5, 6, 7, 8, 9, 10, 11, 12, 13, 14, 15, 16, 17, 18, 19, 20, 21, 22, 23, 24, 25, 26, 27, 28, 29, 30, 31, 32, 33, 34, 35, 36, 37, 38, 39, 40, 41, 42] [0, 43, 44, 45, 46, 47, 48, 49, 50, 51] rfl rfl (by decide) (by decide) hk1 hFc hP1 hD1
  have hP := hP.part (cx := (wLaw cI cZ cS cL hs1 o fl a z2 am K)) [0, 10, 11, 12, 13, 14, 15, 16, 17, 18, 19, 20, 21, 22, 23, 24, 25, 26, 27, 28, 29, 30, 31, 32, 33, 34, 35, 36, 37, 38, 39, 40, 41, 42, 43, 44, 45, 46, 47, 48, 49, 50, 51, 1, 2, 3, 4, 5, 6, 7, 8, 9] rfl
  have hD := hD.part (cx := (wLaw cI cZ cS cL hs1 o fl a z2 am K)) [0, 10, 11, 12, 13, 14, 15, 16, 17, 18, 19, 20, 21, 22, 23, 24, 25, 26, 27, 28, 29, 30, 31, 32, 33, 34, 35, 36, 37, 38, 39, 40, 41, 42, 43, 44, 45, 46, 47, 48, 49, 50, 51, 1, 2, 3, 4, 5, 6, 7, 8, 9] (by decide) rfl
  generalize H1 = H at hP hS ⊢
  rw [← hw2] at hI9
  refine lv_istore (lv' := [(5, .int kk), (0, .ref b), (1, .ref (a 0)), (2, .ref (am 0)), (3, .ref o), (4, .int (nI (3 * n)))]) hx hb dL_law_1307 hl (by decide) rfl (fun ls hl => ?_)
  refine lv_aload_n hx hb dL_law_1309 rfl (lv_at hl 3 rfl) ?_
  have hPc := P_head (ws := (wLaw cI cZ cS cL hs1 o fl a z2 am K)) (ws' := (wX9 cI cZ am K)) hP [43, 44, 45, 46, 47, 48, 49, 50, 51] rfl
  have hDc := D_head (ws := (wLaw cI cZ cS cL hs1 o fl a z2 am K)) (ws' := (wX9 cI cZ am K)) hD [43, 44, 45, 46, 47, 48, 49, 50, 51] (by decide) rfl
  have hFc := va_free (wc := (wX9 cI cZ am K)) hD hS hA [43, 44, 45, 46, 47, 48, 49, 50, 51] rfl
  refine va_callv (va_runV (As := []) (rest := []) ⟨hx, hb, hml, hown, hts⟩ (c_X9_undo l dC dI cI cZ am H.size K y hf9) (cwV 0 hts gL_law_X9_undo rfl rfl rfl (by decide +kernel) ⟨Nat.le_of_ble_eq_true rfl, Nat.le_of_ble_eq_true rfl⟩) ⟨WR.blind, va_recv hK hP (ci := 9) (q0 := 43) rfl rfl, WR.pre hPc hK2 hDc hNW⟩ rfl rfl hl.1 rfl (lv_room (Nat.le_of_ble_eq_true rfl)) dL_law_1310 ⟨by show _ + 0 ≤ 601024; omega, by show _ + 0 ≤ 7293034; omega⟩) hS (fun q _ h => hFc q h) hFc (fun u t H1 locs ht hvm hw hB hz1 hk1 hS => ?_)
  obtain ⟨hP1, hD1⟩ := hB
  rw [ht] at hP1
  obtain ⟨hP, hD⟩ := join_app (ws := (wLaw cI cZ cS cL hs1 o fl a z2 am K)) (wr := (wL cI cZ cS cL (fS hs1) (fG hs1) o fl a z2)) (w1 := (wX9 cI cZ am (sr (sr K 0 (y 0)) 1 (y 1)))) hP hD [43, 44, 45, 46, 47, 48, 49, 50, 51] [0, 1, 2, 3, 4, 5, 6, 7, 8, 9, 10, 11, 12, 13, 14, 15, 16, 17, 18, 19, 20, 21, 22, 23, 24, 25, 26, 27, 28, 29, 30, 31, 32, 33, 34, 35, 36, 37, 38, 39, 40, 41, 42] rfl rfl (by decide) (by decide) hk1 hFc hP1 hD1
  have hP : va_P (dC, dI) vwCl ((wLaw cI cZ cS cL hs1 o fl a z2 am (sr (sr K 0 (y 0)) 1 (y 1))) ++ RW cI cZ hs1) H1 := hP
  have hD : va_D A ((wLaw cI cZ cS cL hs1 o fl a z2 am (sr (sr K 0 (y 0)) 1 (y 1))) ++ RW cI cZ hs1) := hD
  generalize H1 = H at hP hS ⊢
  refine lv_aload_n hx hb dL_law_1313 rfl (lv_at hl 3 rfl) ?_
  have hPc := P_head (ws := (wLaw cI cZ cS cL hs1 o fl a z2 am (sr (sr K 0 (y 0)) 1 (y 1)))) (ws' := (wX9 cI cZ am (sr (sr K 0 (y 0)) 1 (y 1)))) hP [43, 44, 45, 46, 47, 48, 49, 50, 51] rfl
  refine cRO (W.runV (As := []) (rest := []) ⟨hx, hb, hml, hown, hts⟩ (c_X9_thrown l dC dI cI cZ am (sr (sr K 0 (y 0)) 1 (y 1)) ((sr (sr K 0 (y 0)) 1 (y 1)) 0 0) rfl) (cwV 0 hts gL_law_X9_thrown rfl rfl rfl (by decide +kernel) ⟨Nat.le_of_ble_eq_true rfl, Nat.le_of_ble_eq_true rfl⟩) ⟨RO.blind, va_recv hK hP (ci := 9) (q0 := 43) rfl rfl, RO.pre hPc hK2 hNW⟩ rfl rfl hl.1 rfl (lv_room (Nat.le_of_ble_eq_true rfl)) dL_law_1314 ⟨by show _ + 0 ≤ 601024; omega, by show _ + 0 ≤ 7293034; omega⟩) ?_
  refine lv_iload hx hb dL_law_1317 (lv_at hl 0 rfl) ?_
  refine lv_icmp_eq (tgt := 1324) hx hb dL_law_1319 (by decide) (fun c9 => ?_) (fun c9 => absurd h9k c9)
  refine lv_goto (tgt := 3556) hx hb dL_law_1324 (by decide) ?_
  refine W.widen (k := cells + 17) (n := slots + 322) (by omega) (by omega) ?_
  exact kk9 hs1 fl _ _ _ H locs hI9 (lv_sub hl [1, 2, 3, 4, 5] rfl) hP hD hS
set_option maxHeartbeats 4000000 in
set_option maxRecDepth 100000 in
theorem lc_savedStates {p : Program} {l : Launch} {e : Env} {s : State} {m : MethodId} {below : List Frame} {meth : Method} {c : Code} {b L : Nat} {xs : Nat → Int32} {dC : Nat → ClassId} {dI : Nat → Nat → Nat} {cI cZ cS cL : ClassId} {A : Nat → Prop} {a am : Nat → Nat} {o : Nat} {Q : State → Prop} (X0 : LCx p l s m c b L xs dC dI cI cZ cS cL A) {Inv : Nat → (Nat → Option Mem) → Mem → Mem → Prop} (hSt : St_savedStates Inv) {n : Nat} (hn : n < 512) (hnL : 3 * n + 2 < L) (hL : L ≤ 1536) {hs : HS} {fl : Nat → Int64} {M K : Mem} (hI : Inv n (cts hs) M K) {ls : Array Slot} {H : Heap} {locs : List Loc} {cells slots : Nat} (hcs : cells + 17 ≤ 601024) (hss : slots + 322 ≤ 7293034) (hl : lv_has ls 9 [(0, .ref b), (1, .ref (a 0)), (2, .ref (am 0)), (3, .ref o), (4, .int (nI (3 * n)))]) (hP : va_P (dC, dI) vwCl (wLaw cI cZ cS cL hs o fl a M am K ++ RW cI cZ hs) H) (hD : va_D A (wLaw cI cZ cS cL hs o fl a M am K ++ RW cI cZ hs)) (hS : va_S A s.heap H locs) (kk9 : ∀ (hs' : HS) (fl' : Nat → Int64) (M' K' : Mem) (ls : Array Slot) (H : Heap) (locs : List Loc), Inv (n + 1) (cts hs') M' K' → lv_has ls 9 [(0, .ref b), (1, .ref (a 0)), (2, .ref (am 0)), (3, .ref o), (4, .int (nI (3 * n)))] → va_P (dC, dI) vwCl (wLaw cI cZ cS cL hs' o fl' a M' am K' ++ RW cI cZ hs') H → va_D A (wLaw cI cZ cS cL hs' o fl' a M' am K' ++ RW cI cZ hs') → va_S A s.heap H locs → W p l e room_1 s m #[Value.ref b] below meth c H locs (cells + 17) (slots + 322) Q (F0 m 3556 ls [])) : W p l e room_1 s m #[Value.ref b] below meth c H locs cells slots Q (F0 m 1327 ls []) := by
  obtain ⟨hx, hb, hml, hown, hts, hK, hNW, hEX, hNC, hA, hXs, hbl, hbA, hst⟩ := X0
  have hK8 : va_K (dC, dI) vwCl (tys8 cI cZ cS) s := hK.sub (tys' := tys8 cI cZ cS) [0, 1, 2] rfl
  have hK2 : va_K (dC, dI) vwCl [(cI, .int), (cZ, .boolean)] s := hK.sub (tys' := [(cI, .int), (cZ, .boolean)]) [0, 1] rfl
  obtain ⟨z, y, hf8, hf9, hEq, hI9⟩ := hSt n (cts hs) M K hn hI
  refine lv_aload_n hx hb dL_law_1327 rfl (lv_at hl 1 rfl) ?_
  have hPc := P_head (ws := (wLaw cI cZ cS cL hs o fl a M am K)) (ws' := (wX8 cI cZ cS (fS hs) (fG hs) a M)) hP [1, 2, 3, 4, 5, 6, 7, 8, 9, 10, 11, 12, 13, 14, 15, 16, 17, 18, 19, 20, 21, 22, 23, 24, 25, 26, 27, 28, 29, 30, 31, 32, 33, 34, 35, 36, 37, 38, 39, 40, 41, 42] rfl
  refine cRO (W.runV (As := []) (rest := []) ⟨hx, hb, hml, hown, hts⟩ (c_X8_savedStates l dC dI cI cZ cS (fS hs) (fG hs) a M (z) hf8) (cwV 0 hts gL_law_X8_savedStates rfl rfl rfl (by decide +kernel) ⟨Nat.le_of_ble_eq_true rfl, Nat.le_of_ble_eq_true rfl⟩) ⟨RO8.blind, va_recv hK hP (ci := 8) (q0 := 1) rfl rfl, RO8.pre hPc hK8 hNW⟩ rfl rfl hl.1 rfl (lv_room (Nat.le_of_ble_eq_true rfl)) dL_law_1328 ⟨by show cells + 0 ≤ 601024; omega, by show slots + 0 ≤ 7293034; omega⟩) ?_
  refine lv_aload_n hx hb dL_law_1331 rfl (lv_at hl 2 rfl) ?_
  have hPc := P_head (ws := (wLaw cI cZ cS cL hs o fl a M am K)) (ws' := (wX9 cI cZ am K)) hP [43, 44, 45, 46, 47, 48, 49, 50, 51] rfl
  have hDc := D_head (ws := (wLaw cI cZ cS cL hs o fl a M am K)) (ws' := (wX9 cI cZ am K)) hD [43, 44, 45, 46, 47, 48, 49, 50, 51] (by decide) rfl
  have hFc := va_free (wc := (wX9 cI cZ am K)) hD hS hA [43, 44, 45, 46, 47, 48, 49, 50, 51] rfl
  refine va_calli (va_runV (As := []) (rest := [.int z]) ⟨hx, hb, hml, hown, hts⟩ (c_X9_savedStates l dC dI cI cZ am H.size K y hf9) (cwV 0 hts gL_law_X9_savedStates rfl rfl rfl (by decide +kernel) ⟨Nat.le_of_ble_eq_true rfl, Nat.le_of_ble_eq_true rfl⟩) ⟨WR.blind, va_recv hK hP (ci := 9) (q0 := 43) rfl rfl, WR.pre hPc hK2 hDc hNW⟩ rfl rfl hl.1 rfl (lv_room (Nat.le_of_ble_eq_true rfl)) dL_law_1332 ⟨by show _ + 0 ≤ 601024; omega, by show _ + 0 ≤ 7293034; omega⟩) hS (fun q _ h => hFc q h) hFc (fun rv u t H1 locs ht hvm hw hB hz1 hk1 hS => ?_)
  obtain ⟨hP1, hD1⟩ := hB
  rw [ht] at hP1
  rw [hw]
  obtain ⟨hP, hD⟩ := join_app (ws := (wLaw cI cZ cS cL hs o fl a M am K)) (wr := (wL cI cZ cS cL (fS hs) (fG hs) o fl a M)) (w1 := (wX9 cI cZ am (sr K 0 (y.2 0)))) hP hD [43, 44, 45, 46, 47, 48, 49, 50, 51] [0, 1, 2, 3, 4, 5, 6, 7, 8, 9, 10, 11, 12, 13, 14, 15, 16, 17, 18, 19, 20, 21, 22, 23, 24, 25, 26, 27, 28, 29, 30, 31, 32, 33, 34, 35, 36, 37, 38, 39, 40, 41, 42] rfl rfl (by decide) (by decide) hk1 hFc hP1 hD1
  have hP : va_P (dC, dI) vwCl ((wLaw cI cZ cS cL hs o fl a M am (sr K 0 (y.2 0))) ++ RW cI cZ hs) H1 := hP
  have hD : va_D A ((wLaw cI cZ cS cL hs o fl a M am (sr K 0 (y.2 0))) ++ RW cI cZ hs) := hD
  generalize H1 = H at hP hS ⊢
  refine lv_icmp_eq (tgt := 3556) hx hb dL_law_1335 (by decide) (fun c9 => ?_) (fun c9 => absurd hEq c9)
  refine W.widen (k := cells + 17) (n := slots + 322) (by omega) (by omega) ?_
  exact kk9 hs fl _ _ _ H locs hI9 (lv_sub hl [0, 1, 2, 3, 4] rfl) hP hD hS
