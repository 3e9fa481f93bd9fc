set_option maxHeartbeats 4000000 in
set_option maxRecDepth 100000 in
theorem lc_choiceFor {p : Program} {l : Launch} {e : Env} {s : State} {m : MethodId} {below : List Frame} {meth : Method} {c : Code} {b L : Nat} {xs : Nat → Int32} {dC : Nat → ClassId} {dI : Nat → Nat → Nat} {cI cZ cS cL : ClassId} {A : Nat → Prop} {a am : Nat → Nat} {o : Nat} {Q : State → Prop} (X0 : LCx p l s m c b L xs dC dI cI cZ cS cL A) {Inv : Nat → (Nat → Option Mem) → Mem → Mem → Prop} (hSt : St_choiceFor Inv) {n : Nat} (hn : n < 512) (hnL : 3 * n + 2 < L) (hL : L ≤ 1536) {hs : HS} {fl : Nat → Int64} {M K : Mem} (hI : Inv n (cts hs) M K) {ls : Array Slot} {H : Heap} {locs : List Loc} {cells slots : Nat} (hcs : cells + 17 ≤ 601024) (hss : slots + 322 ≤ 7293034) (hl : lv_has ls 9 [(0, .ref b), (1, .ref (a 0)), (2, .ref (am 0)), (3, .ref o), (4, .int (nI (3 * n)))]) (hP : va_P (dC, dI) vwCl (wLaw cI cZ cS cL hs o fl a M am K ++ RW cI cZ hs) H) (hD : va_D A (wLaw cI cZ cS cL hs o fl a M am K ++ RW cI cZ hs)) (hS : va_S A s.heap H locs) (kk9 : ∀ (hs' : HS) (fl' : Nat → Int64) (M' K' : Mem) (ls : Array Slot) (H : Heap) (locs : List Loc), Inv (n + 1) (cts hs') M' K' → lv_has ls 9 [(0, .ref b), (1, .ref (a 0)), (2, .ref (am 0)), (3, .ref o), (4, .int (nI (3 * n)))] → va_P (dC, dI) vwCl (wLaw cI cZ cS cL hs' o fl' a M' am K' ++ RW cI cZ hs') H → va_D A (wLaw cI cZ cS cL hs' o fl' a M' am K' ++ RW cI cZ hs') → va_S A s.heap H locs → W p l e room_1 s m #[Value.ref b] below meth c H locs (cells + 17) (slots + 322) Q (F0 m 3556 ls [])) : W p l e room_1 s m #[Value.ref b] below meth c H locs cells slots Q (F0 m 3008 ls []) := by
  obtain ⟨hx, hb, hml, hown, hts, hK, hNW, hEX, hNC, hA, hXs, hbl, hbA, hst⟩ := X0
  have hK8 : va_K (dC, dI) vwCl (tys8 cI cZ cS) s := hK.sub (tys' := tys8 cI cZ cS) [0, 1, 2] rfl
  have hK2 : va_K (dC, dI) vwCl [(cI, .int), (cZ, .boolean)] s := hK.sub (tys' := [(cI, .int), (cZ, .boolean)]) [0, 1] rfl
  obtain ⟨r, kk, y, hf8, hA9, hf9, h9k, hval, hI9⟩ := hSt n (cts hs) M K (xs (3 * n + 1)) hn hI
  refine lv_aload_n hx hb dL_law_3008 rfl (lv_at hl 1 rfl) ?_
  refine lv_aload_n hx hb dL_law_3009 rfl (lv_at hl 0 rfl) ?_
  refine lv_iload hx hb dL_law_3010 (lv_at hl 4 rfl) ?_
  refine lv_iconst (v := (1 : Int32)) hx hb dL_law_3012 (by decide) ?_
  refine lv_iadd hx hb dL_law_3013 ?_
  rw [show nI (3 * n) + (1 : Int32) = nI (3 * n + 1) from nI_add (3 * n) 1]
  refine va_sld hx hb hXs hbl hbA hS (vp_in_nI (by omega) (by omega)) dL_law_3014 ?_
  rw [nI_clamp (show 3 * n + 1 < 2 ^ 31 by omega)]
  refine lv_aload_n hx hb dL_law_3015 rfl (lv_at hl 3 rfl) ?_
  have hPc := hP.part (X := (wLaw cI cZ cS cL hs o fl a M am K)) (cx := (wL cI cZ cS cL (fS hs) (fG hs) o fl a M)) [0, 1, 2, 3, 4, 5, 6, 7, 8, 9, 10, 11, 12, 13, 14, 15, 16, 17, 18, 19, 20, 21, 22, 23, 24, 25, 26, 27, 28, 29, 30, 31, 32, 33, 34, 35, 36, 37, 38, 39, 40, 41, 42] rfl
  have hDc := hD.part (X := (wLaw cI cZ cS cL hs o fl a M am K)) (cx := (wL cI cZ cS cL (fS hs) (fG hs) o fl a M)) [0, 1, 2, 3, 4, 5, 6, 7, 8, 9, 10, 11, 12, 13, 14, 15, 16, 17, 18, 19, 20, 21, 22, 23, 24, 25, 26, 27, 28, 29, 30, 31, 32, 33, 34, 35, 36, 37, 38, 39, 40, 41, 42] (by decide) rfl
  have hFc := va_freeP (X := (wLaw cI cZ cS cL hs o fl a M am K)) (cx := (wL cI cZ cS cL (fS hs) (fG hs) o fl a M)) hD hS hA [0, 1, 2, 3, 4, 5, 6, 7, 8, 9, 10, 11, 12, 13, 14, 15, 16, 17, 18, 19, 20, 21, 22, 23, 24, 25, 26, 27, 28, 29, 30, 31, 32, 33, 34, 35, 36, 37, 38, 39, 40, 41, 42] rfl
  refine va_calli (vx_runSW (As := [.ref (a 0), .int ((xs (3 * n + 1))), .ref o]) (rest := []) ⟨hx, hb, hml, hown, hts⟩ (w_L_choiceFor l hst dC dI cI cZ cS cL hs o fl a H.size M ((xs (3 * n + 1))) r kk hf8 hA9) (vx_cwSW 3 hts gL_law_L_choiceFor rfl rfl rfl (by decide +kernel) ⟨Nat.le_of_ble_eq_true rfl, Nat.le_of_ble_eq_true rfl⟩) ⟨T9.blind, T9.pre hPc hK hDc hNW (hEX.at hS hFc) hNC⟩ rfl rfl hl.1 rfl (lv_room (Nat.le_of_ble_eq_true rfl)) dL_law_3016 ⟨by show cells + 1 ≤ 601024; omega, by show slots + 6 ≤ 7293034; omega⟩) hS (fun q _ h => hFc q h) hFc (fun rv u t H1 locs ht hvm hw hB hz1 hk1 hS => ?_)
  obtain ⟨hw1, hw2, hout⟩ := hw
  obtain ⟨hs1, fl1⟩ := u
  have hw2 : hs1 = hs := hw2
  rw [hw1]
  obtain ⟨hP1, hD1⟩ := hB
  rw [ht] at hP1
  obtain ⟨hP, hD⟩ := va_joinP (X := (wLaw cI cZ cS cL hs o fl a M am K)) (cx := (wL cI cZ cS cL (fS hs) (fG hs) o fl a M)) (wr := (wX9 cI cZ am K)) (rx := (wL cI cZ cS cL (fS hs1) (fG hs1) o fl1 a M)) hP hD [0, 1, 2, 3, 4, 5, 6, 7, 8, 9, 10, 11, 12, 13, 14, 15, 16, 17, 18, 19, 20, 21, 22, 23, 24, 25, 26, 27, 28, 29, 30, 31, 32, 33, 34, 35, 36, 37, 38, 39, 40, 41, 42] [43, 44, 45, 46, 47, 48, 49, 50, 51] rfl rfl (by decide) (by decide) hk1 hFc hP1 hD1
  have hP := hP.part (cx := (wLaw cI cZ cS cL hs1 o fl1 a M am K)) [9, 10, 11, 12, 13, 14, 15, 16, 17, 18, 19, 20, 21, 22, 23, 24, 25, 26, 27, 28, 29, 30, 31, 32, 33, 34, 35, 36, 37, 38, 39, 40, 41, 42, 43, 44, 45, 46, 47, 48, 49, 50, 51, 0, 1, 2, 3, 4, 5, 6, 7, 8] rfl
  have hD := hD.part (cx := (wLaw cI cZ cS cL hs1 o fl1 a M am K)) [9, 10, 11, 12, 13, 14, 15, 16, 17, 18, 19, 20, 21, 22, 23, 24, 25, 26, 27, 28, 29, 30, 31, 32, 33, 34, 35, 36, 37, 38, 39, 40, 41, 42, 43, 44, 45, 46, 47, 48, 49, 50, 51, 0, 1, 2, 3, 4, 5, 6, 7, 8] (by decide) rfl
  generalize H1 = H at hP hS ⊢
  rw [← hw2] at hI9
  refine lv_istore (lv' := [(5, .int kk), (0, .ref b), (1, .ref (a 0)), (2, .ref (am 0)), (3, .ref o), (4, .int (nI (3 * n)))]) hx hb dL_law_3019 hl (by decide) rfl (fun ls hl => ?_)
  refine lv_aload_n hx hb dL_law_3021 rfl (lv_at hl 3 rfl) ?_
  refine lv_aload_n hx hb dL_law_3022 rfl (lv_at hl 1 rfl) ?_
  refine lv_iload hx hb dL_law_3023 (lv_at hl 5 rfl) ?_
  refine lv_iconst (v := (1 : Int32)) hx hb dL_law_3025 (by decide) ?_
  refine lv_iadd hx hb dL_law_3026 ?_
  rw [show nI (3 * n) + (1 : Int32) = nI (3 * n + 1) from nI_add (3 * n) 1]
  refine va_sld hx hb hXs hbl hbA hS (vp_in_nI (by omega) (by omega)) dL_law_3027 ?_
  rw [nI_clamp (show 3 * n + 1 < 2 ^ 31 by omega)]
  have hPc := P_head (ws := (wLaw cI cZ cS cL hs1 o fl1 a M am K)) (ws' := (wX9 cI cZ am K)) hP [43, 44, 45, 46, 47, 48, 49, 50, 51] rfl
  have hDc := D_head (ws := (wLaw cI cZ cS cL hs1 o fl1 a M am K)) (ws' := (wX9 cI cZ am K)) hD [43, 44, 45, 46, 47, 48, 49, 50, 51] (by decide) rfl
  have hFc := va_free (wc := (wX9 cI cZ am K)) hD hS hA [43, 44, 45, 46, 47, 48, 49, 50, 51] rfl
  refine va_calli (va_runV (As := [.int ((xs (3 * n + 1)))]) (rest := []) ⟨hx, hb, hml, hown, hts⟩ (c_X9_choiceFor l dC dI cI cZ am H.size K ((xs (3 * n + 1))) y hf9) (cwV 1 hts gL_law_X9_choiceFor rfl rfl rfl (by decide +kernel) ⟨Nat.le_of_ble_eq_true rfl, Nat.le_of_ble_eq_true rfl⟩) ⟨WR.blind, va_recv hK hP (ci := 9) (q0 := 43) rfl rfl, WR.pre hPc hK2 hDc hNW⟩ rfl rfl hl.1 rfl (lv_room (Nat.le_of_ble_eq_true rfl)) dL_law_3028 ⟨by show _ + 0 ≤ 601024; omega, by show _ + 0 ≤ 7293034; omega⟩) hS (fun q _ h => hFc q h) hFc (fun rv u t H1 locs ht hvm hw hB hz1 hk1 hS => ?_)
  obtain ⟨hP1, hD1⟩ := hB
  rw [ht] at hP1
  rw [hw]
  obtain ⟨hP, hD⟩ := join_app (ws := (wLaw cI cZ cS cL hs1 o fl1 a M am K)) (wr := (wL cI cZ cS cL (fS hs1) (fG hs1) o fl1 a M)) (w1 := (wX9 cI cZ am (sr K 0 (y.2 0)))) hP hD [43, 44, 45, 46, 47, 48, 49, 50, 51] [0, 1, 2, 3, 4, 5, 6, 7, 8, 9, 10, 11, 12, 13, 14, 15, 16, 17, 18, 19, 20, 21, 22, 23, 24, 25, 26, 27, 28, 29, 30, 31, 32, 33, 34, 35, 36, 37, 38, 39, 40, 41, 42] rfl rfl (by decide) (by decide) hk1 hFc hP1 hD1
  have hP : va_P (dC, dI) vwCl ((wLaw cI cZ cS cL hs1 o fl1 a M am (sr K 0 (y.2 0))) ++ RW cI cZ hs1) H1 := hP
  have hD : va_D A ((wLaw cI cZ cS cL hs1 o fl1 a M am (sr K 0 (y.2 0))) ++ RW cI cZ hs1) := hD
  generalize H1 = H at hP hS ⊢
  refine lv_istore (lv' := [(6, .int y.1), (5, .int kk), (0, .ref b), (1, .ref (a 0)), (2, .ref (am 0)), (3, .ref o), (4, .int (nI (3 * n)))]) hx hb dL_law_3031 hl (by decide) rfl (fun ls hl => ?_)
  refine lv_aload_n hx hb dL_law_3033 rfl (lv_at hl 4 rfl) ?_
  have hPc := P_head (ws := (wLaw cI cZ cS cL hs1 o fl1 a M am (sr K 0 (y.2 0)))) (ws' := (wX9 cI cZ am (sr K 0 (y.2 0)))) hP [43, 44, 45, 46, 47, 48, 49, 50, 51] rfl
  refine cRO (W.runV (As := []) (rest := []) ⟨hx, hb, hml, hown, hts⟩ (c_X9_thrown l dC dI cI cZ am (sr K 0 (y.2 0)) ((sr K 0 (y.2 0)) 0 0) rfl) (cwV 0 hts gL_law_X9_thrown rfl rfl rfl (by decide +kernel) ⟨Nat.le_of_ble_eq_true rfl, Nat.le_of_ble_eq_true rfl⟩) ⟨RO.blind, va_recv hK hP (ci := 9) (q0 := 43) rfl rfl, RO.pre hPc hK2 hNW⟩ rfl rfl hl.1 rfl (lv_room (Nat.le_of_ble_eq_true rfl)) dL_law_3034 ⟨by show _ + 0 ≤ 601024; omega, by show _ + 0 ≤ 7293034; omega⟩) ?_
  refine lv_iload hx hb dL_law_3037 (lv_at hl 1 rfl) ?_
  refine lv_icmp_eq (tgt := 3044) hx hb dL_law_3039 (by decide) (fun c9 => ?_) (fun c9 => absurd h9k c9)
  refine lv_iload hx hb dL_law_3044 (lv_at hl 1 rfl) ?_
  refine lv_if_ne (tgt := 3061) hx hb dL_law_3046 (by decide) (fun c9 => ?_) (fun c9 => ?_)
  · refine lv_goto (tgt := 3556) hx hb dL_law_3061 (by decide) ?_
    refine W.widen (k := cells + 17) (n := slots + 322) (by omega) (by omega) ?_
    exact kk9 hs1 fl1 _ _ _ H locs hI9 (lv_sub hl [2, 3, 4, 5, 6] rfl) hP hD hS
  obtain ⟨u, hr9⟩ := Ans_z hA9 c9
  have hv9 := hout u hr9
  have hu9 := hval u hr9
  refine lv_aload_n hx hb dL_law_3049 rfl (lv_at hl 5 rfl) ?_
  refine lv_iconst (v := (0 : Int32)) hx hb dL_law_3050 (by decide) ?_
  refine va_lald (D := (dC, dI)) (f := fl1) hx hb hK hP 0 3 rfl rfl (inb_in rfl) dL_law_3051 ?_
  refine lv_iload hx hb dL_law_3052 (lv_at hl 0 rfl) ?_
  refine lv_i2l (v := (y.1).toInt64) hx hb dL_law_3054 rfl ?_
  refine W.lcmp hx hb dL_law_3055 ?_
  refine lv_if_eq (tgt := 3061) hx hb dL_law_3056 (by decide) (fun c7 => ?_) (fun c7 => absurd (lg_eq (hv9.trans (congrArg Int32.toInt64 hu9))) c7)
  refine lv_goto (tgt := 3556) hx hb dL_law_3061 (by decide) ?_
  refine W.widen (k := cells + 17) (n := slots + 322) (by omega) (by omega) ?_
  exact kk9 hs1 fl1 _ _ _ H locs hI9 (lv_sub hl [2, 3, 4, 5, 6] rfl) hP hD hS
set_option maxHeartbeats 4000000 in
set_option maxRecDepth 100000 in
theorem lc_ticksByServing {p : Program} {l : Launch} {e : Env} {s : State} {m : MethodId} {below : List Frame} {meth : Method} {c : Code} {b L : Nat} {xs : Nat → Int32} {dC : Nat → ClassId} {dI : Nat → Nat → Nat} {cI cZ cS cL : ClassId} {A : Nat → Prop} {a am : Nat → Nat} {o : Nat} {Q : State → Prop} (X0 : LCx p l s m c b L xs dC dI cI cZ cS cL A) {Inv : Nat → (Nat → Option Mem) → Mem → Mem → Prop} (hSt : St_ticksByServing Inv) {n : Nat} (hn : n < 512) (hnL : 3 * n + 2 < L) (hL : L ≤ 1536) {hs : HS} {fl : Nat → Int64} {M K : Mem} (hI : Inv n (cts hs) M K) {ls : Array Slot} {H : Heap} {locs : List Loc} {cells slots : Nat} (hcs : cells + 17 ≤ 601024) (hss : slots + 322 ≤ 7293034) (hl : lv_has ls 9 [(0, .ref b), (1, .ref (a 0)), (2, .ref (am 0)), (3, .ref o), (4, .int (nI (3 * n)))]) (hP : va_P (dC, dI) vwCl (wLaw cI cZ cS cL hs o fl a M am K ++ RW cI cZ hs) H) (hD : va_D A (wLaw cI cZ cS cL hs o fl a M am K ++ RW cI cZ hs)) (hS : va_S A s.heap H locs) (kk9 : ∀ (hs' : HS) (fl' : Nat → Int64) (M' K' : Mem) (ls : Array Slot) (H : Heap) (locs : List Loc), Inv (n + 1) (cts hs') M' K' → lv_has ls 9 [(0, .ref b), (1, .ref (a 0)), (2, .ref (am 0)), (3, .ref o), (4, .int (nI (3 * n)))] → va_P (dC, dI) vwCl (wLaw cI cZ cS cL hs' o fl' a M' am K' ++ RW cI cZ hs') H → va_D A (wLaw cI cZ cS cL hs' o fl' a M' am K' ++ RW cI cZ hs') → va_S A s.heap H locs → W p l e room_1 s m #[Value.ref b] below meth c H locs (cells + 17) (slots + 322) Q (F0 m 3556 ls [])) : W p l e room_1 s m #[Value.ref b] below meth c H locs cells slots Q (F0 m 3064 ls []) := by
  obtain ⟨hx, hb, hml, hown, hts, hK, hNW, hEX, hNC, hA, hXs, hbl, hbA, hst⟩ := X0
  have hK8 : va_K (dC, dI) vwCl (tys8 cI cZ cS) s := hK.sub (tys' := tys8 cI cZ cS) [0, 1, 2] rfl
  have hK2 : va_K (dC, dI) vwCl [(cI, .int), (cZ, .boolean)] s := hK.sub (tys' := [(cI, .int), (cZ, .boolean)]) [0, 1] rfl
  obtain ⟨r, kk, z2, y, hf8, hA9, hf9, h9k, hval, hI9⟩ := hSt n (cts hs) M K (xs (3 * n + 1)) hn hI
  refine lv_aload_n hx hb dL_law_3064 rfl (lv_at hl 1 rfl) ?_
  refine lv_aload_n hx hb dL_law_3065 rfl (lv_at hl 0 rfl) ?_
  refine lv_iload hx hb dL_law_3066 (lv_at hl 4 rfl) ?_
  refine lv_iconst (v := (1 : Int32)) hx hb dL_law_3068 (by decide) ?_
  refine lv_iadd hx hb dL_law_3069 ?_
  rw [show nI (3 * n) + (1 : Int32) = nI (3 * n + 1) from nI_add (3 * n) 1]
  refine va_sld hx hb hXs hbl hbA hS (vp_in_nI (by omega) (by omega)) dL_law_3070 ?_
  rw [nI_clamp (show 3 * n + 1 < 2 ^ 31 by omega)]
  refine lv_aload_n hx hb dL_law_3071 rfl (lv_at hl 3 rfl) ?_
  have hPc := hP.part (X := (wLaw cI cZ cS cL hs o fl a M am K)) (cx := (wL cI cZ cS cL (fS hs) (fG hs) o fl a M)) [0, 1, 2, 3, 4, 5, 6, 7, 8, 9, 10, 11, 12, 13, 14, 15, 16, 17, 18, 19, 20, 21, 22, 23, 24, 25, 26, 27, 28, 29, 30, 31, 32, 33, 34, 35, 36, 37, 38, 39, 40, 41, 42] rfl
  have hDc := hD.part (X := (wLaw cI cZ cS cL hs o fl a M am K)) (cx := (wL cI cZ cS cL (fS hs) (fG hs) o fl a M)) [0, 1, 2, 3, 4, 5, 6, 7, 8, 9, 10, 11, 12, 13, 14, 15, 16, 17, 18, 19, 20, 21, 22, 23, 24, 25, 26, 27, 28, 29, 30, 31, 32, 33, 34, 35, 36, 37, 38, 39, 40, 41, 42] (by decide) rfl
  have hFc := va_freeP (X := (wLaw cI cZ cS cL hs o fl a M am K)) (cx := (wL cI cZ cS cL (fS hs) (fG hs) o fl a M)) hD hS hA [0, 1, 2, 3, 4, 5, 6, 7, 8, 9, 10, 11, 12, 13, 14, 15, 16, 17, 18, 19, 20, 21, 22, 23, 24, 25, 26, 27, 28, 29, 30, 31, 32, 33, 34, 35, 36, 37, 38, 39, 40, 41, 42] rfl
  refine va_calli (vx_runSW (As := [.ref (a 0), .int ((xs (3 * n + 1))), .ref o]) (rest := []) ⟨hx, hb, hml, hown, hts⟩ (w_L_ticksByServing l hst dC dI cI cZ cS cL hs o fl a H.size M ((xs (3 * n + 1))) r kk z2 hf8 hA9) (vx_cwSW 3 hts gL_law_L_ticksByServing rfl rfl rfl (by decide +kernel) ⟨Nat.le_of_ble_eq_true rfl, Nat.le_of_ble_eq_true rfl⟩) ⟨T9.blind, T9.pre hPc hK hDc hNW (hEX.at hS hFc) hNC⟩ rfl rfl hl.1 rfl (lv_room (Nat.le_of_ble_eq_true rfl)) dL_law_3072 ⟨by show cells + 1 ≤ 601024; omega, by show slots + 6 ≤ 7293034; omega⟩) hS (fun q _ h => hFc q h) hFc (fun rv u t H1 locs ht hvm hw hB hz1 hk1 hS => ?_)
  obtain ⟨hw1, hw2, hout⟩ := hw
  obtain ⟨hs1, fl1⟩ := u
  have hw2 : hs1 = hs := hw2
  rw [hw1]
  obtain ⟨hP1, hD1⟩ := hB
  rw [ht] at hP1
  obtain ⟨hP, hD⟩ := va_joinP (X := (wLaw cI cZ cS cL hs o fl a M am K)) (cx := (wL cI cZ cS cL (fS hs) (fG hs) o fl a M)) (wr := (wX9 cI cZ am K)) (rx := (wL cI cZ cS cL (fS hs1) (fG hs1) o fl1 a (sr (sr (sr (sr (sr (sr (sr (sr (sr (sr (sr (sr (sr (sr (sr M 17 (z2 17)) 18 (z2 18)) 19 (z2 19)) 20 (z2 20)) 21 (z2 21)) 22 (z2 22)) 23 (z2 23)) 24 (z2 24)) 25 (z2 25)) 27 (z2 27)) 28 (z2 28)) 29 (z2 29)) 30 (z2 30)) 31 (z2 31)) 32 (z2 32)))) hP hD [0, 1, 2, 3, 4, 5, 6, 7, 8, 9, 10, 11, 12, 13, 14, 15, 16, 17, 18, 19, 20, 21, 22, 23, 24, 25, 26, 27, 28, 29, 30, 31, 32, 33, 34, 35, 36, 37, 38, 39, 40, 41, 42] [43, 44, 45, 46, 47, 48, 49, 50, 51] rfl rfl (by decide) (by decide) hk1 hFc hP1 hD1
  have hP := hP.part (cx := (wLaw cI cZ cS cL hs1 o fl1 a (sr (sr (sr (sr (sr (sr (sr (sr (sr (sr (sr (sr (sr (sr (sr M 17 (z2 17)) 18 (z2 18)) 19 (z2 19)) 20 (z2 20)) 21 (z2 21)) 22 (z2 22)) 23 (z2 23)) 24 (z2 24)) 25 (z2 25)) 27 (z2 27)) 28 (z2 28)) 29 (z2 29)) 30 (z2 30)) 31 (z2 31)) 32 (z2 32)) am K)) [9, 10, 11, 12, 13, 14, 15, 16, 17, 18, 19, 20, 21, 22, 23, 24, 25, 26, 27, 28, 29, 30, 31, 32, 33, 34, 35, 36, 37, 38, 39, 40, 41, 42, 43, 44, 45, 46, 47, 48, 49, 50, 51, 0, 1, 2, 3, 4, 5, 6, 7, 8] rfl
  have hD := hD.part (cx := (wLaw cI cZ cS cL hs1 o fl1 a (sr (sr (sr (sr (sr (sr (sr (sr (sr (sr (sr (sr (sr (sr (sr M 17 (z2 17)) 18 (z2 18)) 19 (z2 19)) 20 (z2 20)) 21 (z2 21)) 22 (z2 22)) 23 (z2 23)) 24 (z2 24)) 25 (z2 25)) 27 (z2 27)) 28 (z2 28)) 29 (z2 29)) 30 (z2 30)) 31 (z2 31)) 32 (z2 32)) am K)) [9, 10, 11, 12, 13, 14, 15, 16, 17, 18, 19, 20, 21, 22, 23, 24, 25, 26, 27, 28, 29, 30, 31, 32, 33, 34, 35, 36, 37, 38, 39, 40, 41, 42, 43, 44, 45, 46, 47, 48, 49, 50, 51, 0, 1, 2, 3, 4, 5, 6, 7, 8] (by decide) rfl
  generalize H1 = H at hP hS ⊢
  rw [← hw2] at hI9
  refine lv_istore (lv' := [(5, .int kk), (0, .ref b), (1, .ref (a 0)), (2, .ref (am 0)), (3, .ref o), (4, .int (nI (3 * n)))]) hx hb dL_law_3075 hl (by decide) rfl (fun ls hl => ?_)
  refine lv_aload_n hx hb dL_law_3077 rfl (lv_at hl 3 rfl) ?_
  refine lv_aload_n hx hb dL_law_3078 rfl (lv_at hl 1 rfl) ?_
  refine lv_iload hx hb dL_law_3079 (lv_at hl 5 rfl) ?_
  refine lv_iconst (v := (1 : Int32)) hx hb dL_law_3081 (by decide) ?_
  refine lv_iadd hx hb dL_law_3082 ?_
  rw [show nI (3 * n) + (1 : Int32) = nI (3 * n + 1) from nI_add (3 * n) 1]
  refine va_sld hx hb hXs hbl hbA hS (vp_in_nI (by omega) (by omega)) dL_law_3083 ?_
  rw [nI_clamp (show 3 * n + 1 < 2 ^ 31 by omega)]
  have hPc := P_head (ws := (wLaw cI cZ cS cL hs1 o fl1 a (sr (sr (sr (sr (sr (sr (sr (sr (sr (sr (sr (sr (sr (sr (sr M 17 (z2 17)) 18 (z2 18)) 19 (z2 19)) 20 (z2 20)) 21 (z2 21)) 22 (z2 22)) 23 (z2 23)) 24 (z2 24)) 25 (z2 25)) 27 (z2 27)) 28 (z2 28)) 29 (z2 29)) 30 (z2 30)) 31 (z2 31)) 32 (z2 32)) am K)) (ws' := (wX9 cI cZ am K)) hP [43, 44, 45, 46, 47, 48, 49, 50, 51] rfl
  have hDc := D_head (ws := (wLaw cI cZ cS cL hs1 o fl1 a (sr (sr (sr (sr (sr (sr (sr (sr (sr (sr (sr (sr (sr (sr (sr M 17 (z2 17)) 18 (z2 18)) 19 (z2 19)) 20 (z2 20)) 21 (z2 21)) 22 (z2 22)) 23 (z2 23)) 24 (z2 24)) 25 (z2 25)) 27 (z2 27)) 28 (z2 28)) 29 (z2 29)) 30 (z2 30)) 31 (z2 31)) 32 (z2 32)) am K)) (ws' := (wX9 cI cZ am K)) hD [43, 44, 45, 46, 47, 48, 49, 50, 51] (by decide) rfl
  have hFc := va_free (wc := (wX9 cI cZ am K)) hD hS hA [43, 44, 45, 46, 47, 48, 49, 50, 51] rfl
  refine va_calli (va_runV (As := [.int ((xs (3 * n + 1)))]) (rest := []) ⟨hx, hb, hml, hown, hts⟩ (c_X9_ticksByServing l dC dI cI cZ am H.size K ((xs (3 * n + 1))) y hf9) (cwV 1 hts gL_law_X9_ticksByServing rfl rfl rfl (by decide +kernel) ⟨Nat.le_of_ble_eq_true rfl, Nat.le_of_ble_eq_true rfl⟩) ⟨WR.blind, va_recv hK hP (ci := 9) (q0 := 43) rfl rfl, WR.pre hPc hK2 hDc hNW⟩ rfl rfl hl.1 rfl (lv_room (Nat.le_of_ble_eq_true rfl)) dL_law_3084 ⟨by show _ + 0 ≤ 601024; omega, by show _ + 0 ≤ 7293034; omega⟩) hS (fun q _ h => hFc q h) hFc (fun rv u t H1 locs ht hvm hw hB hz1 hk1 hS => ?_)
  obtain ⟨hP1, hD1⟩ := hB
  rw [ht] at hP1
  rw [hw]
  obtain ⟨hP, hD⟩ := join_app (ws := (wLaw cI cZ cS cL hs1 o fl1 a (sr (sr (sr (sr (sr (sr (sr (sr (sr (sr (sr (sr (sr (sr (sr M 17 (z2 17)) 18 (z2 18)) 19 (z2 19)) 20 (z2 20)) 21 (z2 21)) 22 (z2 22)) 23 (z2 23)) 24 (z2 24)) 25 (z2 25)) 27 (z2 27)) 28 (z2 28)) 29 (z2 29)) 30 (z2 30)) 31 (z2 31)) 32 (z2 32)) am K)) (wr := (wL cI cZ cS cL (fS hs1) (fG hs1) o fl1 a (sr (sr (sr (sr (sr (sr (sr (sr (sr (sr (sr (sr (sr (sr (sr M 17 (z2 17)) 18 (z2 18)) 19 (z2 19)) 20 (z2 20)) 21 (z2 21)) 22 (z2 22)) 23 (z2 23)) 24 (z2 24)) 25 (z2 25)) 27 (z2 27)) 28 (z2 28)) 29 (z2 29)) 30 (z2 30)) 31 (z2 31)) 32 (z2 32)))) (w1 := (wX9 cI cZ am (sr (sr (sr (sr K 0 (y.2 0)) 1 (y.2 1)) 2 (y.2 2)) 8 (y.2 8)))) hP hD [43, 44, 45, 46, 47, 48, 49, 50, 51] [0, 1, 2, 3, 4, 5, 6, 7, 8, 9, 10, 11, 12, 13, 14, 15, 16, 17, 18, 19, 20, 21, 22, 23, 24, 25, 26, 27, 28, 29, 30, 31, 32, 33, 34, 35, 36, 37, 38, 39, 40, 41, 42] rfl rfl (by decide) (by decide) hk1 hFc hP1 hD1
  have hP : va_P (dC, dI) vwCl ((wLaw cI cZ cS cL hs1 o fl1 a (sr (sr (sr (sr (sr (sr (sr (sr (sr (sr (sr (sr (sr (sr (sr M 17 (z2 17)) 18 (z2 18)) 19 (z2 19)) 20 (z2 20)) 21 (z2 21)) 22 (z2 22)) 23 (z2 23)) 24 (z2 24)) 25 (z2 25)) 27 (z2 27)) 28 (z2 28)) 29 (z2 29)) 30 (z2 30)) 31 (z2 31)) 32 (z2 32)) am (sr (sr (sr (sr K 0 (y.2 0)) 1 (y.2 1)) 2 (y.2 2)) 8 (y.2 8))) ++ RW cI cZ hs1) H1 := hP
  have hD : va_D A ((wLaw cI cZ cS cL hs1 o fl1 a (sr (sr (sr (sr (sr (sr (sr (sr (sr (sr (sr (sr (sr (sr (sr M 17 (z2 17)) 18 (z2 18)) 19 (z2 19)) 20 (z2 20)) 21 (z2 21)) 22 (z2 22)) 23 (z2 23)) 24 (z2 24)) 25 (z2 25)) 27 (z2 27)) 28 (z2 28)) 29 (z2 29)) 30 (z2 30)) 31 (z2 31)) 32 (z2 32)) am (sr (sr (sr (sr K 0 (y.2 0)) 1 (y.2 1)) 2 (y.2 2)) 8 (y.2 8))) ++ RW cI cZ hs1) := hD
  generalize H1 = H at hP hS ⊢
  refine lv_istore (lv' := [(6, .int y.1), (5, .int kk), (0, .ref b), (1, .ref (a 0)), (2, .ref (am 0)), (3, .ref o), (4, .int (nI (3 * n)))]) hx hb dL_law_3087 hl (by decide) rfl (fun ls hl => ?_)
  refine lv_aload_n hx hb dL_law_3089 rfl (lv_at hl 4 rfl) ?_
  have hPc := P_head (ws := (wLaw cI cZ cS cL hs1 o fl1 a (sr (sr (sr (sr (sr (sr (sr (sr (sr (sr (sr (sr (sr (sr (sr M 17 (z2 17)) 18 (z2 18)) 19 (z2 19)) 20 (z2 20)) 21 (z2 21)) 22 (z2 22)) 23 (z2 23)) 24 (z2 24)) 25 (z2 25)) 27 (z2 27)) 28 (z2 28)) 29 (z2 29)) 30 (z2 30)) 31 (z2 31)) 32 (z2 32)) am (sr (sr (sr (sr K 0 (y.2 0)) 1 (y.2 1)) 2 (y.2 2)) 8 (y.2 8)))) (ws' := (wX9 cI cZ am (sr (sr (sr (sr K 0 (y.2 0)) 1 (y.2 1)) 2 (y.2 2)) 8 (y.2 8)))) hP [43, 44, 45, 46, 47, 48, 49, 50, 51] rfl
  refine cRO (W.runV (As := []) (rest := []) ⟨hx, hb, hml, hown, hts⟩ (c_X9_thrown l dC dI cI cZ am (sr (sr (sr (sr K 0 (y.2 0)) 1 (y.2 1)) 2 (y.2 2)) 8 (y.2 8)) ((sr (sr (sr (sr K 0 (y.2 0)) 1 (y.2 1)) 2 (y.2 2)) 8 (y.2 8)) 0 0) rfl) (cwV 0 hts gL_law_X9_thrown rfl rfl rfl (by decide +kernel) ⟨Nat.le_of_ble_eq_true rfl, Nat.le_of_ble_eq_true rfl⟩) ⟨RO.blind, va_recv hK hP (ci := 9) (q0 := 43) rfl rfl, RO.pre hPc hK2 hNW⟩ rfl rfl hl.1 rfl (lv_room (Nat.le_of_ble_eq_true rfl)) dL_law_3090 ⟨by show _ + 0 ≤ 601024; omega, by show _ + 0 ≤ 7293034; omega⟩) ?_
  refine lv_iload hx hb dL_law_3093 (lv_at hl 1 rfl) ?_
  refine lv_icmp_eq (tgt := 3100) hx hb dL_law_3095 (by decide) (fun c9 => ?_) (fun c9 => absurd h9k c9)
  refine lv_iload hx hb dL_law_3100 (lv_at hl 1 rfl) ?_
  refine lv_if_ne (tgt := 3117) hx hb dL_law_3102 (by decide) (fun c9 => ?_) (fun c9 => ?_)
  · refine lv_goto (tgt := 3556) hx hb dL_law_3117 (by decide) ?_
    refine W.widen (k := cells + 17) (n := slots + 322) (by omega) (by omega) ?_
    exact kk9 hs1 fl1 _ _ _ H locs hI9 (lv_sub hl [2, 3, 4, 5, 6] rfl) hP hD hS
  obtain ⟨u, hr9⟩ := Ans_z hA9 c9
  have hv9 := hout u hr9
  have hu9 := hval u hr9
  refine lv_aload_n hx hb dL_law_3105 rfl (lv_at hl 5 rfl) ?_
  refine lv_iconst (v := (0 : Int32)) hx hb dL_law_3106 (by decide) ?_
  refine va_lald (D := (dC, dI)) (f := fl1) hx hb hK hP 0 3 rfl rfl (inb_in rfl) dL_law_3107 ?_
  refine lv_iload hx hb dL_law_3108 (lv_at hl 0 rfl) ?_
  refine lv_i2l (v := (y.1).toInt64) hx hb dL_law_3110 rfl ?_
  refine W.lcmp hx hb dL_law_3111 ?_
  refine lv_if_eq (tgt := 3117) hx hb dL_law_3112 (by decide) (fun c7 => ?_) (fun c7 => absurd (lg_eq (hv9.trans (congrArg Int32.toInt64 hu9))) c7)
  refine lv_goto (tgt := 3556) hx hb dL_law_3117 (by decide) ?_
  refine W.widen (k := cells + 17) (n := slots + 322) (by omega) (by omega) ?_
  exact kk9 hs1 fl1 _ _ _ H locs hI9 (lv_sub hl [2, 3, 4, 5, 6] rfl) hP hD hS
set_option maxHeartbeats 4000000 in
set_option maxRecDepth 100000 in
theorem lc_ticksBySums {p : Program} {l : Launch} {e : Env} {s : State} {m : MethodId} {below : List Frame} {meth : Method} {c : Code} {b L : Nat} {xs : Nat → Int32} {dC : Nat → ClassId} {dI : Nat → Nat → Nat} {cI cZ cS cL : ClassId} {A : Nat → Prop} {a am : Nat → Nat} {o : Nat} {Q : State → Prop} (X0 : LCx p l s m c b L xs dC dI cI cZ cS cL A) {Inv : Nat → (Nat → Option Mem) → Mem → Mem → Prop} (hSt : St_ticksBySums Inv) {n : Nat} (hn : n < 512) (hnL : 3 * n + 2 < L) (hL : L ≤ 1536) {hs : HS} {fl : Nat → Int64} {M K : Mem} (hI : Inv n (cts hs) M K) {ls : Array Slot} {H : Heap} {locs : List Loc} {cells slots : Nat} (hcs : cells + 17 ≤ 601024) (hss : slots + 322 ≤ 7293034) (hl : lv_has ls 9 [(0, .ref b), (1, .ref (a 0)), (2, .ref (am 0)), (3, .ref o), (4, .int (nI (3 * n)))]) (hP : va_P (dC, dI) vwCl (wLaw cI cZ cS cL hs o fl a M am K ++ RW cI cZ hs) H) (hD : va_D A (wLaw cI cZ cS cL hs o fl a M am K ++ RW cI cZ hs)) (hS : va_S A s.heap H locs) (kk9 : ∀ (hs' : HS) (fl' : Nat → Int64) (M' K' : Mem) (ls : Array Slot) (H : Heap) (locs : List Loc), Inv (n + 1) (cts hs') M' K' → lv_has ls 9 [(0, .ref b), (1, .ref (a 0)), (2, .ref (am 0)), (3, .ref o), (4, .int (nI (3 * n)))] → va_P (dC, dI) vwCl (wLaw cI cZ cS cL hs' o fl' a M' am K' ++ RW cI cZ hs') H → va_D A (wLaw cI cZ cS cL hs' o fl' a M' am K' ++ RW cI cZ hs') → va_S A s.heap H locs → W p l e room_1 s m #[Value.ref b] below meth c H locs (cells + 17) (slots + 322) Q (F0 m 3556 ls [])) : W p l e room_1 s m #[Value.ref b] below meth c H locs cells slots Q (F0 m 3120 ls []) := by
  obtain ⟨hx, hb, hml, hown, hts, hK, hNW, hEX, hNC, hA, hXs, hbl, hbA, hst⟩ := X0
  have hK8 : va_K (dC, dI) vwCl (tys8 cI cZ cS) s := hK.sub (tys' := tys8 cI cZ cS) [0, 1, 2] rfl
  have hK2 : va_K (dC, dI) vwCl [(cI, .int), (cZ, .boolean)] s := hK.sub (tys' := [(cI, .int), (cZ, .boolean)]) [0, 1] rfl
  obtain ⟨r, kk, y, hf8, hA9, hf9, h9k, hval, hI9⟩ := hSt n (cts hs) M K (xs (3 * n + 1)) hn hI
  refine lv_aload_n hx hb dL_law_3120 rfl (lv_at hl 1 rfl) ?_
  refine lv_aload_n hx hb dL_law_3121 rfl (lv_at hl 0 rfl) ?_
  refine lv_iload hx hb dL_law_3122 (lv_at hl 4 rfl) ?_
  refine lv_iconst (v := (1 : Int32)) hx hb dL_law_3124 (by decide) ?_
  refine lv_iadd hx hb dL_law_3125 ?_
  rw [show nI (3 * n) + (1 : Int32) = nI (3 * n + 1) from nI_add (3 * n) 1]
  refine va_sld hx hb hXs hbl hbA hS (vp_in_nI (by omega) (by omega)) dL_law_3126 ?_
  rw [nI_clamp (show 3 * n + 1 < 2 ^ 31 by omega)]
  refine lv_aload_n hx hb dL_law_3127 rfl (lv_at hl 3 rfl) ?_
  have hPc := hP.part (X := (wLaw cI cZ cS cL hs o fl a M am K)) (cx := (wL cI cZ cS cL (fS hs) (fG hs) o fl a M)) [0, 1, 2, 3, 4, 5, 6, 7, 8, 9, 10, 11, 12, 13, 14, 15, 16, 17, 18, 19, 20, 21, 22, 23, 24, 25, 26, 27, 28, 29, 30, 31, 32, 33, 34, 35, 36, 37, 38, 39, 40, 41, 42] rfl
  have hDc := hD.part (X := (wLaw cI cZ cS cL hs o fl a M am K)) (cx := (wL cI cZ cS cL (fS hs) (fG hs) o fl a M)) [0, 1, 2, 3, 4, 5, 6, 7, 8, 9, 10, 11, 12, 13, 14, 15, 16, 17, 18, 19, 20, 21, 22, 23, 24, 25, 26, 27, 28, 29, 30, 31, 32, 33, 34, 35, 36, 37, 38, 39, 40, 41, 42] (by decide) rfl
  have hFc := va_freeP (X := (wLaw cI cZ cS cL hs o fl a M am K)) (cx := (wL cI cZ cS cL (fS hs) (fG hs) o fl a M)) hD hS hA [0, 1, 2, 3, 4, 5, 6, 7, 8, 9, 10, 11, 12, 13, 14, 15, 16, 17, 18, 19, 20, 21, 22, 23, 24, 25, 26, 27, 28, 29, 30, 31, 32, 33, 34, 35, 36, 37, 38, 39, 40, 41, 42] rfl
  refine va_calli (vx_runSW (As := [.ref (a 0), .int ((xs (3 * n + 1))), .ref o]) (rest := []) ⟨hx, hb, hml, hown, hts⟩ (w_L_ticksBySums l hst dC dI cI cZ cS cL hs o fl a H.size M ((xs (3 * n + 1))) r kk hf8 hA9) (vx_cwSW 3 hts gL_law_L_ticksBySums rfl rfl rfl (by decide +kernel) ⟨Nat.le_of_ble_eq_true rfl, Nat.le_of_ble_eq_true rfl⟩) ⟨T9.blind, T9.pre hPc hK hDc hNW (hEX.at hS hFc) hNC⟩ rfl rfl hl.1 rfl (lv_room (Nat.le_of_ble_eq_true rfl)) dL_law_3128 ⟨by show cells + 1 ≤ 601024; omega, by show slots + 6 ≤ 7293034; omega⟩) hS (fun q _ h => hFc q h) hFc (fun rv u t H1 locs ht hvm hw hB hz1 hk1 hS => ?_)
  obtain ⟨hw1, hw2, hout⟩ := hw
  obtain ⟨hs1, fl1⟩ := u
  have hw2 : hs1 = hs := hw2
  rw [hw1]
  obtain ⟨hP1, hD1⟩ := hB
  rw [ht] at hP1
  obtain ⟨hP, hD⟩ := va_joinP (X := (wLaw cI cZ cS cL hs o fl a M am K)) (cx := (wL cI cZ cS cL (fS hs) (fG hs) o fl a M)) (wr := (wX9 cI cZ am K)) (rx := (wL cI cZ cS cL (fS hs1) (fG hs1) o fl1 a M)) hP hD [0, 1, 2, 3, 4, 5, 6, 7, 8, 9, 10, 11, 12, 13, 14, 15, 16, 17, 18, 19, 20, 21, 22, 23, 24, 25, 26, 27, 28, 29, 30, 31, 32, 33, 34, 35, 36, 37, 38, 39, 40, 41, 42] [43, 44, 45, 46, 47, 48, 49, 50, 51] rfl rfl (by decide) (by decide) hk1 hFc hP1 hD1
  have hP := hP.part (cx := (wLaw cI cZ cS cL hs1 o fl1 a M am K)) [9, 10, 11, 12, 13, 14, 15, 16, 17, 18, 19, 20, 21, 22, 23, 24, 25, 26, 27, 28, 29, 30, 31, 32, 33, 34, 35, 36, 37, 38, 39, 40, 41, 42, 43, 44, 45, 46, 47, 48, 49, 50, 51, 0, 1, 2, 3, 4, 5, 6, 7, 8] rfl
  have hD := hD.part (cx := (wLaw cI cZ cS cL hs1 o fl1 a M am K)) [9, 10, 11, 12, 13, 14, 15, 16, 17, 18, 19, 20, 21, 22, 23, 24, 25, 26, 27, 28, 29, 30, 31, 32, 33, 34, 35, 36, 37, 38, 39, 40, 41, 42, 43, 44, 45, 46, 47, 48, 49, 50, 51, 0, 1, 2, 3, 4, 5, 6, 7, 8] (by decide) rfl
  generalize H1 = H at hP hS ⊢
  rw [← hw2] at hI9
  refine lv_istore (lv' := [(5, .int kk), (0, .ref b), (1, .ref (a 0)), (2, .ref (am 0)), (3, .ref o), (4, .int (nI (3 * n)))]) hx hb dL_law_3131 hl (by decide) rfl (fun ls hl => ?_)
  refine lv_aload_n hx hb dL_law_3133 rfl (lv_at hl 3 rfl) ?_
  refine lv_aload_n hx hb dL_law_3134 rfl (lv_at hl 1 rfl) ?_
  refine lv_iload hx hb dL_law_3135 (lv_at hl 5 rfl) ?_
  refine lv_iconst (v := (1 : Int32)) hx hb dL_law_3137 (by decide) ?_
  refine lv_iadd hx hb dL_law_3138 ?_
  rw [show nI (3 * n) + (1 : Int32) = nI (3 * n + 1) from nI_add (3 * n) 1]
  refine va_sld hx hb hXs hbl hbA hS (vp_in_nI (by omega) (by omega)) dL_law_3139 ?_
  rw [nI_clamp (show 3 * n + 1 < 2 ^ 31 by omega)]
  have hPc := P_head (ws := (wLaw cI cZ cS cL hs1 o fl1 a M am K)) (ws' := (wX9 cI cZ am K)) hP [43, 44, 45, 46, 47, 48, 49, 50, 51] rfl
  have hDc := D_head (ws := (wLaw cI cZ cS cL hs1 o fl1 a M am K)) (ws' := (wX9 cI cZ am K)) hD [43, 44, 45, 46, 47, 48, 49, 50, 51] (by decide) rfl
  have hFc := va_free (wc := (wX9 cI cZ am K)) hD hS hA [43, 44, 45, 46, 47, 48, 49, 50, 51] rfl
  refine va_calli (va_runV (As := [.int ((xs (3 * n + 1)))]) (rest := []) ⟨hx, hb, hml, hown, hts⟩ (c_X9_ticksBySums l dC dI cI cZ am H.size K ((xs (3 * n + 1))) y hf9) (cwV 1 hts gL_law_X9_ticksBySums rfl rfl rfl (by decide +kernel) ⟨Nat.le_of_ble_eq_true rfl, Nat.le_of_ble_eq_true rfl⟩) ⟨WR.blind, va_recv hK hP (ci := 9) (q0 := 43) rfl rfl, WR.pre hPc hK2 hDc hNW⟩ rfl rfl hl.1 rfl (lv_room (Nat.le_of_ble_eq_true rfl)) dL_law_3140 ⟨by show _ + 0 ≤ 601024; omega, by show _ + 0 ≤ 7293034; omega⟩) hS (fun q _ h => hFc q h) hFc (fun rv u t H1 locs ht hvm hw hB hz1 hk1 hS => ?_)
  obtain ⟨hP1, hD1⟩ := hB
  rw [ht] at hP1
  rw [hw]
  obtain ⟨hP, hD⟩ := join_app (ws := (wLaw cI cZ cS cL hs1 o fl1 a M am K)) (wr := (wL cI cZ cS cL (fS hs1) (fG hs1) o fl1 a M)) (w1 := (wX9 cI cZ am (sr (sr (sr (sr K 0 (y.2 0)) 1 (y.2 1)) 2 (y.2 2)) 8 (y.2 8)))) hP hD [43, 44, 45, 46, 47, 48, 49, 50, 51] [0, 1, 2, 3, 4, 5, 6, 7, 8, 9, 10, 11, 12, 13, 14, 15, 16, 17, 18, 19, 20, 21, 22, 23, 24, 25, 26, 27, 28, 29, 30, 31, 32, 33, 34, 35, 36, 37, 38, 39, 40, 41, 42] rfl rfl (by decide) (by decide) hk1 hFc hP1 hD1
  have hP : va_P (dC, dI) vwCl ((wLaw cI cZ cS cL hs1 o fl1 a M am (sr (sr (sr (sr K 0 (y.2 0)) 1 (y.2 1)) 2 (y.2 2)) 8 (y.2 8))) ++ RW cI cZ hs1) H1 := hP
  have hD : va_D A ((wLaw cI cZ cS cL hs1 o fl1 a M am (sr (sr (sr (sr K 0 (y.2 0)) 1 (y.2 1)) 2 (y.2 2)) 8 (y.2 8))) ++ RW cI cZ hs1) := hD
  generalize H1 = H at hP hS ⊢
  refine lv_istore (lv' := [(6, .int y.1), (5, .int kk), (0, .ref b), (1, .ref (a 0)), (2, .ref (am 0)), (3, .ref o), (4, .int (nI (3 * n)))]) hx hb dL_law_3143 hl (by decide) rfl (fun ls hl => ?_)
  refine lv_aload_n hx hb dL_law_3145 rfl (lv_at hl 4 rfl) ?_
  have hPc := P_head (ws := (wLaw cI cZ cS cL hs1 o fl1 a M am (sr (sr (sr (sr K 0 (y.2 0)) 1 (y.2 1)) 2 (y.2 2)) 8 (y.2 8)))) (ws' := (wX9 cI cZ am (sr (sr (sr (sr K 0 (y.2 0)) 1 (y.2 1)) 2 (y.2 2)) 8 (y.2 8)))) hP [43, 44, 45, 46, 47, 48, 49, 50, 51] rfl
  refine cRO (W.runV (As := []) (rest := []) ⟨hx, hb, hml, hown, hts⟩ (c_X9_thrown l dC dI cI cZ am (sr (sr (sr (sr K 0 (y.2 0)) 1 (y.2 1)) 2 (y.2 2)) 8 (y.2 8)) ((sr (sr (sr (sr K 0 (y.2 0)) 1 (y.2 1)) 2 (y.2 2)) 8 (y.2 8)) 0 0) rfl) (cwV 0 hts gL_law_X9_thrown rfl rfl rfl (by decide +kernel) ⟨Nat.le_of_ble_eq_true rfl, Nat.le_of_ble_eq_true rfl⟩) ⟨RO.blind, va_recv hK hP (ci := 9) (q0 := 43) rfl rfl, RO.pre hPc hK2 hNW⟩ rfl rfl hl.1 rfl (lv_room (Nat.le_of_ble_eq_true rfl)) dL_law_3146 ⟨by show _ + 0 ≤ 601024; omega, by show _ + 0 ≤ 7293034; omega⟩) ?_
  refine lv_iload hx hb dL_law_3149 (lv_at hl 1 rfl) ?_
  refine lv_icmp_eq (tgt := 3156) hx hb dL_law_3151 (by decide) (fun c9 => ?_) (fun c9 => absurd h9k c9)
  refine lv_iload hx hb dL_law_3156 (lv_at hl 1 rfl) ?_
  refine lv_if_ne (tgt := 3173) hx hb dL_law_3158 (by decide) (fun c9 => ?_) (fun c9 => ?_)
  · refine lv_goto (tgt := 3556) hx hb dL_law_3173 (by decide) ?_
    refine W.widen (k := cells + 17) (n := slots + 322) (by omega) (by omega) ?_
    exact kk9 hs1 fl1 _ _ _ H locs hI9 (lv_sub hl [2, 3, 4, 5, 6] rfl) hP hD hS
  obtain ⟨u, hr9⟩ := Ans_z hA9 c9
  have hv9 := hout u hr9
  have hu9 := hval u hr9
  refine lv_aload_n hx hb dL_law_3161 rfl (lv_at hl 5 rfl) ?_
  refine lv_iconst (v := (0 : Int32)) hx hb dL_law_3162 (by decide) ?_
  refine va_lald (D := (dC, dI)) (f := fl1) hx hb hK hP 0 3 rfl rfl (inb_in rfl) dL_law_3163 ?_
  refine lv_iload hx hb dL_law_3164 (lv_at hl 0 rfl) ?_
  refine lv_i2l (v := (y.1).toInt64) hx hb dL_law_3166 rfl ?_
  refine W.lcmp hx hb dL_law_3167 ?_
  refine lv_if_eq (tgt := 3173) hx hb dL_law_3168 (by decide) (fun c7 => ?_) (fun c7 => absurd (lg_eq (hv9.trans (congrArg Int32.toInt64 hu9))) c7)
  refine lv_goto (tgt := 3556) hx hb dL_law_3173 (by decide) ?_
  refine W.widen (k := cells + 17) (n := slots + 322) (by omega) (by omega) ?_
  exact kk9 hs1 fl1 _ _ _ H locs hI9 (lv_sub hl [2, 3, 4, 5, 6] rfl) hP hD hS
set_option maxHeartbeats 4000000 in
set_option maxRecDepth 100000 in
theorem lc_cheapestOrder {p : Program} {l : Launch} {e : Env} {s : State} {m : MethodId} {below : List Frame} {meth : Method} {c : Code} {b L : Nat} {xs : Nat → Int32} {dC : Nat → ClassId} {dI : Nat → Nat → Nat} {cI cZ cS cL : ClassId} {A : Nat → Prop} {a am : Nat → Nat} {o : Nat} {Q : State → Prop} (X0 : LCx p l s m c b L xs dC dI cI cZ cS cL A) {Inv : Nat → (Nat → Option Mem) → Mem → Mem → Prop} (hSt : St_cheapestOrder Inv) {n : Nat} (hn : n < 512) (hnL : 3 * n + 2 < L) (hL : L ≤ 1536) {hs : HS} {fl : Nat → Int64} {M K : Mem} (hI : Inv n (cts hs) M K) {ls : Array Slot} {H : Heap} {locs : List Loc} {cells slots : Nat} (hcs : cells + 17 ≤ 601024) (hss : slots + 322 ≤ 7293034) (hl : lv_has ls 9 [(0, .ref b), (1, .ref (a 0)), (2, .ref (am 0)), (3, .ref o), (4, .int (nI (3 * n)))]) (hP : va_P (dC, dI) vwCl (wLaw cI cZ cS cL hs o fl a M am K ++ RW cI cZ hs) H) (hD : va_D A (wLaw cI cZ cS cL hs o fl a M am K ++ RW cI cZ hs)) (hS : va_S A s.heap H locs) (kk9 : ∀ (hs' : HS) (fl' : Nat → Int64) (M' K' : Mem) (ls : Array Slot) (H : Heap) (locs : List Loc), Inv (n + 1) (cts hs') M' K' → lv_has ls 9 [(0, .ref b), (1, .ref (a 0)), (2, .ref (am 0)), (3, .ref o), (4, .int (nI (3 * n)))] → va_P (dC, dI) vwCl (wLaw cI cZ cS cL hs' o fl' a M' am K' ++ RW cI cZ hs') H → va_D A (wLaw cI cZ cS cL hs' o fl' a M' am K' ++ RW cI cZ hs') → va_S A s.heap H locs → W p l e room_1 s m #[Value.ref b] below meth c H locs (cells + 17) (slots + 322) Q (F0 m 3556 ls [])) : W p l e room_1 s m #[Value.ref b] below meth c H locs cells slots Q (F0 m 3176 ls []) := by
  obtain ⟨hx, hb, hml, hown, hts, hK, hNW, hEX, hNC, hA, hXs, hbl, hbA, hst⟩ := X0
  have hK8 : va_K (dC, dI) vwCl (tys8 cI cZ cS) s := hK.sub (tys' := tys8 cI cZ cS) [0, 1, 2] rfl
  have hK2 : va_K (dC, dI) vwCl [(cI, .int), (cZ, .boolean)] s := hK.sub (tys' := [(cI, .int), (cZ, .boolean)]) [0, 1] rfl
  obtain ⟨r, kk, z2, y, hf8, hA9, hf9, h9k, hval, hI9⟩ := hSt n (cts hs) M K  hn hI
  refine lv_aload_n hx hb dL_law_3176 rfl (lv_at hl 1 rfl) ?_
  refine lv_aload_n hx hb dL_law_3177 rfl (lv_at hl 3 rfl) ?_
  have hPc := hP.part (X := (wLaw cI cZ cS cL hs o fl a M am K)) (cx := (wL cI cZ cS cL (fS hs) (fG hs) o fl a M)) [0, 1, 2, 3, 4, 5, 6, 7, 8, 9, 10, 11, 12, 13, 14, 15, 16, 17, 18, 19, 20, 21, 22, 23, 24, 25, 26, 27, 28, 29, 30, 31, 32, 33, 34, 35, 36, 37, 38, 39, 40, 41, 42] rfl
  have hDc := hD.part (X := (wLaw cI cZ cS cL hs o fl a M am K)) (cx := (wL cI cZ cS cL (fS hs) (fG hs) o fl a M)) [0, 1, 2, 3, 4, 5, 6, 7, 8, 9, 10, 11, 12, 13, 14, 15, 16, 17, 18, 19, 20, 21, 22, 23, 24, 25, 26, 27, 28, 29, 30, 31, 32, 33, 34, 35, 36, 37, 38, 39, 40, 41, 42] (by decide) rfl
  have hFc := va_freeP (X := (wLaw cI cZ cS cL hs o fl a M am K)) (cx := (wL cI cZ cS cL (fS hs) (fG hs) o fl a M)) hD hS hA [0, 1, 2, 3, 4, 5, 6, 7, 8, 9, 10, 11, 12, 13, 14, 15, 16, 17, 18, 19, 20, 21, 22, 23, 24, 25, 26, 27, 28, 29, 30, 31, 32, 33, 34, 35, 36, 37, 38, 39, 40, 41, 42] rfl
  refine va_calli (vx_runSW (As := [.ref (a 0), .ref o]) (rest := []) ⟨hx, hb, hml, hown, hts⟩ (w_L_cheapestOrder l hst dC dI cI cZ cS cL hs o fl a H.size M r kk z2 hf8 hA9) (vx_cwSW 2 hts gL_law_L_cheapestOrder rfl rfl rfl (by decide +kernel) ⟨Nat.le_of_ble_eq_true rfl, Nat.le_of_ble_eq_true rfl⟩) ⟨T9.blind, T9.pre hPc hK hDc hNW (hEX.at hS hFc) hNC⟩ rfl rfl hl.1 rfl (lv_room (Nat.le_of_ble_eq_true rfl)) dL_law_3178 ⟨by show cells + 1 ≤ 601024; omega, by show slots + 6 ≤ 7293034; omega⟩) hS (fun q _ h => hFc q h) hFc (fun rv u t H1 locs ht hvm hw hB hz1 hk1 hS => ?_)
  obtain ⟨hw1, hw2, hout⟩ := hw
  obtain ⟨hs1, fl1⟩ := u
  have hw2 : hs1 = hs := hw2
  rw [hw1]
  obtain ⟨hP1, hD1⟩ := hB
  rw [ht] at hP1
  obtain ⟨hP, hD⟩ := va_joinP (X := (wLaw cI cZ cS cL hs o fl a M am K)) (cx := (wL cI cZ cS cL (fS hs) (fG hs) o fl a M)) (wr := (wX9 cI cZ am K)) (rx := (wL cI cZ cS cL (fS hs1) (fG hs1) o fl1 a (sr (sr (sr (sr (sr (sr (sr (sr (sr (sr (sr (sr (sr (sr (sr M 17 (z2 17)) 18 (z2 18)) 19 (z2 19)) 20 (z2 20)) 21 (z2 21)) 22 (z2 22)) 23 (z2 23)) 24 (z2 24)) 25 (z2 25)) 27 (z2 27)) 28 (z2 28)) 29 (z2 29)) 30 (z2 30)) 31 (z2 31)) 32 (z2 32)))) hP hD [0, 1, 2, 3, 4, 5, 6, 7, 8, 9, 10, 11, 12, 13, 14, 15, 16, 17, 18, 19, 20, 21, 22, 23, 24, 25, 26, 27, 28, 29, 30, 31, 32, 33, 34, 35, 36, 37, 38, 39, 40, 41, 42] [43, 44, 45, 46, 47, 48, 49, 50, 51] rfl rfl (by decide) (by decide) hk1 hFc hP1 hD1
  have hP := hP.part (cx := (wLaw cI cZ cS cL hs1 o fl1 a (sr (sr (sr (sr (sr (sr (sr (sr (sr (sr (sr (sr (sr (sr (sr M 17 (z2 17)) 18 (z2 18)) 19 (z2 19)) 20 (z2 20)) 21 (z2 21)) 22 (z2 22)) 23 (z2 23)) 24 (z2 24)) 25 (z2 25)) 27 (z2 27)) 28 (z2 28)) 29 (z2 29)) 30 (z2 30)) 31 (z2 31)) 32 (z2 32)) am K)) [9, 10, 11, 12, 13, 14, 15, 16, 17, 18, 19, 20, 21, 22, 23, 24, 25, 26, 27, 28, 29, 30, 31, 32, 33, 34, 35, 36, 37, 38, 39, 40, 41, 42, 43, 44, 45, 46, 47, 48, 49, 50, 51, 0, 1, 2, 3, 4, 5, 6, 7, 8] rfl
  have hD := hD.part (cx := (wLaw cI cZ cS cL hs1 o fl1 a (sr (sr (sr (sr (sr (sr (sr (sr (sr (sr (sr (sr (sr (sr (sr M 17 (z2 17)) 18 (z2 18)) 19 (z2 19)) 20 (z2 20)) 21 (z2 21)) 22 (z2 22)) 23 (z2 23)) 24 (z2 24)) 25 (z2 25)) 27 (z2 27)) 28 (z2 28)) 29 (z2 29)) 30 (z2 30)) 31 (z2 31)) 32 (z2 32)) am K)) [9, 10, 11, 12, 13, 14, 15, 16, 17, 18, 19, 20, 21, 22, 23, 24, 25, 26, 27, 28, 29, 30, 31, 32, 33, 34, 35, 36, 37, 38, 39, 40, 41, 42, 43, 44, 45, 46, 47, 48, 49, 50, 51, 0, 1, 2, 3, 4, 5, 6, 7, 8] (by decide) rfl
  generalize H1 = H at hP hS ⊢
  rw [← hw2] at hI9
  refine lv_istore (lv' := [(5, .int kk), (0, .ref b), (1, .ref (a 0)), (2, .ref (am 0)), (3, .ref o), (4, .int (nI (3 * n)))]) hx hb dL_law_3181 hl (by decide) rfl (fun ls hl => ?_)
  refine lv_aload_n hx hb dL_law_3183 rfl (lv_at hl 3 rfl) ?_
  have hPc := P_head (ws := (wLaw cI cZ cS cL hs1 o fl1 a (sr (sr (sr (sr (sr (sr (sr (sr (sr (sr (sr (sr (sr (sr (sr M 17 (z2 17)) 18 (z2 18)) 19 (z2 19)) 20 (z2 20)) 21 (z2 21)) 22 (z2 22)) 23 (z2 23)) 24 (z2 24)) 25 (z2 25)) 27 (z2 27)) 28 (z2 28)) 29 (z2 29)) 30 (z2 30)) 31 (z2 31)) 32 (z2 32)) am K)) (ws' := (wX9 cI cZ am K)) hP [43, 44, 45, 46, 47, 48, 49, 50, 51] rfl
  have hDc := D_head (ws := (wLaw cI cZ cS cL hs1 o fl1 a (sr (sr (sr (sr (sr (sr (sr (sr (sr (sr (sr (sr (sr (sr (sr M 17 (z2 17)) 18 (z2 18)) 19 (z2 19)) 20 (z2 20)) 21 (z2 21)) 22 (z2 22)) 23 (z2 23)) 24 (z2 24)) 25 (z2 25)) 27 (z2 27)) 28 (z2 28)) 29 (z2 29)) 30 (z2 30)) 31 (z2 31)) 32 (z2 32)) am K)) (ws' := (wX9 cI cZ am K)) hD [43, 44, 45, 46, 47, 48, 49, 50, 51] (by decide) rfl
  have hFc := va_free (wc := (wX9 cI cZ am K)) hD hS hA [43, 44, 45, 46, 47, 48, 49, 50, 51] rfl
  refine va_calli (va_runV (As := []) (rest := []) ⟨hx, hb, hml, hown, hts⟩ (c_X9_cheapestOrder l dC dI cI cZ am H.size K y hf9) (cwV 0 hts gL_law_X9_cheapestOrder rfl rfl rfl (by decide +kernel) ⟨Nat.le_of_ble_eq_true rfl, Nat.le_of_ble_eq_true rfl⟩) ⟨WR.blind, va_recv hK hP (ci := 9) (q0 := 43) rfl rfl, WR.pre hPc hK2 hDc hNW⟩ rfl rfl hl.1 rfl (lv_room (Nat.le_of_ble_eq_true rfl)) dL_law_3184 ⟨by show _ + 0 ≤ 601024; omega, by show _ + 0 ≤ 7293034; omega⟩) hS (fun q _ h => hFc q h) hFc (fun rv u t H1 locs ht hvm hw hB hz1 hk1 hS => ?_)
  obtain ⟨hP1, hD1⟩ := hB
  rw [ht] at hP1
  rw [hw]
  obtain ⟨hP, hD⟩ := join_app (ws := (wLaw cI cZ cS cL hs1 o fl1 a (sr (sr (sr (sr (sr (sr (sr (sr (sr (sr (sr (sr (sr (sr (sr M 17 (z2 17)) 18 (z2 18)) 19 (z2 19)) 20 (z2 20)) 21 (z2 21)) 22 (z2 22)) 23 (z2 23)) 24 (z2 24)) 25 (z2 25)) 27 (z2 27)) 28 (z2 28)) 29 (z2 29)) 30 (z2 30)) 31 (z2 31)) 32 (z2 32)) am K)) (wr := (wL cI cZ cS cL (fS hs1) (fG hs1) o fl1 a (sr (sr (sr (sr (sr (sr (sr (sr (sr (sr (sr (sr (sr (sr (sr M 17 (z2 17)) 18 (z2 18)) 19 (z2 19)) 20 (z2 20)) 21 (z2 21)) 22 (z2 22)) 23 (z2 23)) 24 (z2 24)) 25 (z2 25)) 27 (z2 27)) 28 (z2 28)) 29 (z2 29)) 30 (z2 30)) 31 (z2 31)) 32 (z2 32)))) (w1 := (wX9 cI cZ am (sr (sr (sr (sr K 0 (y.2 0)) 1 (y.2 1)) 2 (y.2 2)) 8 (y.2 8)))) hP hD [43, 44, 45, 46, 47, 48, 49, 50, 51] [0, 1, 2, 3, 4, 5, 6, 7, 8, 9, 10, 11, 12, 13, 14, 15, 16, 17, 18, 19, 20, 21, 22, 23, 24, 25, 26, 27, 28, 29, 30, 31, 32, 33, 34, 35, 36, 37, 38, 39, 40, 41, 42] rfl rfl (by decide) (by decide) hk1 hFc hP1 hD1
  have hP : va_P (dC, dI) vwCl ((wLaw cI cZ cS cL hs1 o fl1 a (sr (sr (sr (sr (sr (sr (sr (sr (sr (sr (sr (sr (sr (sr (sr M 17 (z2 17)) 18 (z2 18)) 19 (z2 19)) 20 (z2 20)) 21 (z2 21)) 22 (z2 22)) 23 (z2 23)) 24 (z2 24)) 25 (z2 25)) 27 (z2 27)) 28 (z2 28)) 29 (z2 29)) 30 (z2 30)) 31 (z2 31)) 32 (z2 32)) am (sr (sr (sr (sr K 0 (y.2 0)) 1 (y.2 1)) 2 (y.2 2)) 8 (y.2 8))) ++ RW cI cZ hs1) H1 := hP
  have hD : va_D A ((wLaw cI cZ cS cL hs1 o fl1 a (sr (sr (sr (sr (sr (sr (sr (sr (sr (sr (sr (sr (sr (sr (sr M 17 (z2 17)) 18 (z2 18)) 19 (z2 19)) 20 (z2 20)) 21 (z2 21)) 22 (z2 22)) 23 (z2 23)) 24 (z2 24)) 25 (z2 25)) 27 (z2 27)) 28 (z2 28)) 29 (z2 29)) 30 (z2 30)) 31 (z2 31)) 32 (z2 32)) am (sr (sr (sr (sr K 0 (y.2 0)) 1 (y.2 1)) 2 (y.2 2)) 8 (y.2 8))) ++ RW cI cZ hs1) := hD
  generalize H1 = H at hP hS ⊢
  refine lv_istore (lv' := [(6, .int y.1), (5, .int kk), (0, .ref b), (1, .ref (a 0)), (2, .ref (am 0)), (3, .ref o), (4, .int (nI (3 * n)))]) hx hb dL_law_3187 hl (by decide) rfl (fun ls hl => ?_)
  refine lv_aload_n hx hb dL_law_3189 rfl (lv_at hl 4 rfl) ?_
  have hPc := P_head (ws := (wLaw cI cZ cS cL hs1 o fl1 a (sr (sr (sr (sr (sr (sr (sr (sr (sr (sr (sr (sr (sr (sr (sr M 17 (z2 17)) 18 (z2 18)) 19 (z2 19)) 20 (z2 20)) 21 (z2 21)) 22 (z2 22)) 23 (z2 23)) 24 (z2 24)) 25 (z2 25)) 27 (z2 27)) 28 (z2 28)) 29 (z2 29)) 30 (z2 30)) 31 (z2 31)) 32 (z2 32)) am (sr (sr (sr (sr K 0 (y.2 0)) 1 (y.2 1)) 2 (y.2 2)) 8 (y.2 8)))) (ws' := (wX9 cI cZ am (sr (sr (sr (sr K 0 (y.2 0)) 1 (y.2 1)) 2 (y.2 2)) 8 (y.2 8)))) hP [43, 44, 45, 46, 47, 48, 49, 50, 51] rfl
  refine cRO (W.runV (As := []) (rest := []) ⟨hx, hb, hml, hown, hts⟩ (c_X9_thrown l dC dI cI cZ am (sr (sr (sr (sr K 0 (y.2 0)) 1 (y.2 1)) 2 (y.2 2)) 8 (y.2 8)) ((sr (sr (sr (sr K 0 (y.2 0)) 1 (y.2 1)) 2 (y.2 2)) 8 (y.2 8)) 0 0) rfl) (cwV 0 hts gL_law_X9_thrown rfl rfl rfl (by decide +kernel) ⟨Nat.le_of_ble_eq_true rfl, Nat.le_of_ble_eq_true rfl⟩) ⟨RO.blind, va_recv hK hP (ci := 9) (q0 := 43) rfl rfl, RO.pre hPc hK2 hNW⟩ rfl rfl hl.1 rfl (lv_room (Nat.le_of_ble_eq_true rfl)) dL_law_3190 ⟨by show _ + 0 ≤ 601024; omega, by show _ + 0 ≤ 7293034; omega⟩) ?_
  refine lv_iload hx hb dL_law_3193 (lv_at hl 1 rfl) ?_
  refine lv_icmp_eq (tgt := 3200) hx hb dL_law_3195 (by decide) (fun c9 => ?_) (fun c9 => absurd h9k c9)
  refine lv_iload hx hb dL_law_3200 (lv_at hl 1 rfl) ?_
  refine lv_if_ne (tgt := 3217) hx hb dL_law_3202 (by decide) (fun c9 => ?_) (fun c9 => ?_)
  · refine lv_goto (tgt := 3556) hx hb dL_law_3217 (by decide) ?_
    refine W.widen (k := cells + 17) (n := slots + 322) (by omega) (by omega) ?_
    exact kk9 hs1 fl1 _ _ _ H locs hI9 (lv_sub hl [2, 3, 4, 5, 6] rfl) hP hD hS
  obtain ⟨u, hr9⟩ := Ans_z hA9 c9
  have hv9 := hout u hr9
  have hu9 := hval u hr9
  refine lv_aload_n hx hb dL_law_3205 rfl (lv_at hl 5 rfl) ?_
  refine lv_iconst (v := (0 : Int32)) hx hb dL_law_3206 (by decide) ?_
  refine va_lald (D := (dC, dI)) (f := fl1) hx hb hK hP 0 3 rfl rfl (inb_in rfl) dL_law_3207 ?_
  refine lv_iload hx hb dL_law_3208 (lv_at hl 0 rfl) ?_
  refine lv_i2l (v := (y.1).toInt64) hx hb dL_law_3210 rfl ?_
  refine W.lcmp hx hb dL_law_3211 ?_
  refine lv_if_eq (tgt := 3217) hx hb dL_law_3212 (by decide) (fun c7 => ?_) (fun c7 => absurd (lg_eq (hv9.trans (congrArg Int32.toInt64 hu9))) c7)
  refine lv_goto (tgt := 3556) hx hb dL_law_3217 (by decide) ?_
  refine W.widen (k := cells + 17) (n := slots + 322) (by omega) (by omega) ?_
  exact kk9 hs1 fl1 _ _ _ H locs hI9 (lv_sub hl [2, 3, 4, 5, 6] rfl) hP hD hS
set_option maxHeartbeats 4000000 in
set_option maxRecDepth 100000 in
theorem lc_servable {p : Program} {l : Launch} {e : Env} {s : State} {m : MethodId} {below : List Frame} {meth : Method} {c : Code} {b L : Nat} {xs : Nat → Int32} {dC : Nat → ClassId} {dI : Nat → Nat → Nat} {cI cZ cS cL : ClassId} {A : Nat → Prop} {a am : Nat → Nat} {o : Nat} {Q : State → Prop} (X0 : LCx p l s m c b L xs dC dI cI cZ cS cL A) {Inv : Nat → (Nat → Option Mem) → Mem → Mem → Prop} (hSt : St_servable Inv) {n : Nat} (hn : n < 512) (hnL : 3 * n + 2 < L) (hL : L ≤ 1536) {hs : HS} {fl : Nat → Int64} {M K : Mem} (hI : Inv n (cts hs) M K) {ls : Array Slot} {H : Heap} {locs : List Loc} {cells slots : Nat} (hcs : cells + 17 ≤ 601024) (hss : slots + 322 ≤ 7293034) (hl : lv_has ls 9 [(0, .ref b), (1, .ref (a 0)), (2, .ref (am 0)), (3, .ref o), (4, .int (nI (3 * n)))]) (hP : va_P (dC, dI) vwCl (wLaw cI cZ cS cL hs o fl a M am K ++ RW cI cZ hs) H) (hD : va_D A (wLaw cI cZ cS cL hs o fl a M am K ++ RW cI cZ hs)) (hS : va_S A s.heap H locs) (kk9 : ∀ (hs' : HS) (fl' : Nat → Int64) (M' K' : Mem) (ls : Array Slot) (H : Heap) (locs : List Loc), Inv (n + 1) (cts hs') M' K' → lv_has ls 9 [(0, .ref b), (1, .ref (a 0)), (2, .ref (am 0)), (3, .ref o), (4, .int (nI (3 * n)))] → va_P (dC, dI) vwCl (wLaw cI cZ cS cL hs' o fl' a M' am K' ++ RW cI cZ hs') H → va_D A (wLaw cI cZ cS cL hs' o fl' a M' am K' ++ RW cI cZ hs') → va_S A s.heap H locs → W p l e room_1 s m #[Value.ref b] below meth c H locs (cells + 17) (slots + 322) Q (F0 m 3556 ls [])) : W p l e room_1 s m #[Value.ref b] below meth c H locs cells slots Q (F0 m 3220 ls []) := by
  obtain ⟨hx, hb, hml, hown, hts, hK, hNW, hEX, hNC, hA, hXs, hbl, hbA, hst⟩ := X0
  have hK8 : va_K (dC, dI) vwCl (tys8 cI cZ cS) s := hK.sub (tys' := tys8 cI cZ cS) [0, 1, 2] rfl
  have hK2 : va_K (dC, dI) vwCl [(cI, .int), (cZ, .boolean)] s := hK.sub (tys' := [(cI, .int), (cZ, .boolean)]) [0, 1] rfl
  obtain ⟨r, kk, z2, y, hf8, hA9, hf9, h9k, hval, hI9⟩ := hSt n (cts hs) M K  hn hI
  refine lv_aload_n hx hb dL_law_3220 rfl (lv_at hl 1 rfl) ?_
  refine lv_aload_n hx hb dL_law_3221 rfl (lv_at hl 3 rfl) ?_
  have hPc := hP.part (X := (wLaw cI cZ cS cL hs o fl a M am K)) (cx := (wL cI cZ cS cL (fS hs) (fG hs) o fl a M)) [0, 1, 2, 3, 4, 5, 6, 7, 8, 9, 10, 11, 12, 13, 14, 15, 16, 17, 18, 19, 20, 21, 22, 23, 24, 25, 26, 27, 28, 29, 30, 31, 32, 33, 34, 35, 36, 37, 38, 39, 40, 41, 42] rfl
  have hDc := hD.part (X := (wLaw cI cZ cS cL hs o fl a M am K)) (cx := (wL cI cZ cS cL (fS hs) (fG hs) o fl a M)) [0, 1, 2, 3, 4, 5, 6, 7, 8, 9, 10, 11, 12, 13, 14, 15, 16, 17, 18, 19, 20, 21, 22, 23, 24, 25, 26, 27, 28, 29, 30, 31, 32, 33, 34, 35, 36, 37, 38, 39, 40, 41, 42] (by decide) rfl
  have hFc := va_freeP (X := (wLaw cI cZ cS cL hs o fl a M am K)) (cx := (wL cI cZ cS cL (fS hs) (fG hs) o fl a M)) hD hS hA [0, 1, 2, 3, 4, 5, 6, 7, 8, 9, 10, 11, 12, 13, 14, 15, 16, 17, 18, 19, 20, 21, 22, 23, 24, 25, 26, 27, 28, 29, 30, 31, 32, 33, 34, 35, 36, 37, 38, 39, 40, 41, 42] rfl
  refine va_calli (vx_runSW (As := [.ref (a 0), .ref o]) (rest := []) ⟨hx, hb, hml, hown, hts⟩ (w_L_servable l hst dC dI cI cZ cS cL hs o fl a H.size M r kk z2 hf8 hA9) (vx_cwSW 2 hts gL_law_L_servable rfl rfl rfl (by decide +kernel) ⟨Nat.le_of_ble_eq_true rfl, Nat.le_of_ble_eq_true rfl⟩) ⟨T9.blind, T9.pre hPc hK hDc hNW (hEX.at hS hFc) hNC⟩ rfl rfl hl.1 rfl (lv_room (Nat.le_of_ble_eq_true rfl)) dL_law_3222 ⟨by show cells + 1 ≤ 601024; omega, by show slots + 6 ≤ 7293034; omega⟩) hS (fun q _ h => hFc q h) hFc (fun rv u t H1 locs ht hvm hw hB hz1 hk1 hS => ?_)
  obtain ⟨hw1, hw2, hout⟩ := hw
  obtain ⟨hs1, fl1⟩ := u
  have hw2 : hs1 = hs := hw2
  rw [hw1]
  obtain ⟨hP1, hD1⟩ := hB
  rw [ht] at hP1
  obtain ⟨hP, hD⟩ := va_joinP (X := (wLaw cI cZ cS cL hs o fl a M am K)) (cx := (wL cI cZ cS cL (fS hs) (fG hs) o fl a M)) (wr := (wX9 cI cZ am K)) (rx := (wL cI cZ cS cL (fS hs1) (fG hs1) o fl1 a (sr (sr (sr (sr (sr (sr (sr (sr (sr (sr (sr (sr (sr (sr (sr M 17 (z2 17)) 18 (z2 18)) 19 (z2 19)) 20 (z2 20)) 21 (z2 21)) 22 (z2 22)) 23 (z2 23)) 24 (z2 24)) 25 (z2 25)) 27 (z2 27)) 28 (z2 28)) 29 (z2 29)) 30 (z2 30)) 31 (z2 31)) 32 (z2 32)))) hP hD [0, 1, 2, 3, 4, 5, 6, 7, 8, 9, 10, 11, 12, 13, 14, 15, 16, 17, 18, 19, 20, 21, 22, 23, 24, 25, 26, 27, 28, 29, 30, 31, 32, 33, 34, 35, 36, 37, 38, 39, 40, 41, 42] [43, 44, 45, 46, 47, 48, 49, 50, 51] rfl rfl (by decide) (by decide) hk1 hFc hP1 hD1
  have hP := hP.part (cx := (wLaw cI cZ cS cL hs1 o fl1 a (sr (sr (sr (sr (sr (sr (sr (sr (sr (sr (sr (sr (sr (sr (sr M 17 (z2 17)) 18 (z2 18)) 19 (z2 19)) 20 (z2 20)) 21 (z2 21)) 22 (z2 22)) 23 (z2 23)) 24 (z2 24)) 25 (z2 25)) 27 (z2 27)) 28 (z2 28)) 29 (z2 29)) 30 (z2 30)) 31 (z2 31)) 32 (z2 32)) am K)) [9, 10, 11, 12, 13, 14, 15, 16, 17, 18, 19, 20, 21, 22, 23, 24, 25, 26, 27, 28, 29, 30, 31, 32, 33, 34, 35, 36, 37, 38, 39, 40, 41, 42, 43, 44, 45, 46, 47, 48, 49, 50, 51, 0, 1, 2, 3, 4, 5, 6, 7, 8] rfl
  have hD := hD.part (cx := (wLaw cI cZ cS cL hs1 o fl1 a (sr (sr (sr (sr (sr (sr (sr (sr (sr (sr (sr (sr (sr (sr (sr M 17 (z2 17)) 18 (z2 18)) 19 (z2 19)) 20 (z2 20)) 21 (z2 21)) 22 (z2 22)) 23 (z2 23)) 24 (z2 24)) 25 (z2 25)) 27 (z2 27)) 28 (z2 28)) 29 (z2 29)) 30 (z2 30)) 31 (z2 31)) 32 (z2 32)) am K)) [9, 10, 11, 12, 13, 14, 15, 16, 17, 18, 19, 20, 21, 22, 23, 24, 25, 26, 27, 28, 29, 30, 31, 32, 33, 34, 35, 36, 37, 38, 39, 40, 41, 42, 43, 44, 45, 46, 47, 48, 49, 50, 51, 0, 1, 2, 3, 4, 5, 6, 7, 8] (by decide) rfl
  generalize H1 = H at hP hS ⊢
  rw [← hw2] at hI9
  refine lv_istore (lv' := [(5, .int kk), (0, .ref b), (1, .ref (a 0)), (2, .ref (am 0)), (3, .ref o), (4, .int (nI (3 * n)))]) hx hb dL_law_3225 hl (by decide) rfl (fun ls hl => ?_)
  refine lv_aload_n hx hb dL_law_3227 rfl (lv_at hl 3 rfl) ?_
  have hPc := P_head (ws := (wLaw cI cZ cS cL hs1 o fl1 a (sr (sr (sr (sr (sr (sr (sr (sr (sr (sr (sr (sr (sr (sr (sr M 17 (z2 17)) 18 (z2 18)) 19 (z2 19)) 20 (z2 20)) 21 (z2 21)) 22 (z2 22)) 23 (z2 23)) 24 (z2 24)) 25 (z2 25)) 27 (z2 27)) 28 (z2 28)) 29 (z2 29)) 30 (z2 30)) 31 (z2 31)) 32 (z2 32)) am K)) (ws' := (wX9 cI cZ am K)) hP [43, 44, 45, 46, 47, 48, 49, 50, 51] rfl
  have hDc := D_head (ws := (wLaw cI cZ cS cL hs1 o fl1 a (sr (sr (sr (sr (sr (sr (sr (sr (sr (sr (sr (sr (sr (sr (sr M 17 (z2 17)) 18 (z2 18)) 19 (z2 19)) 20 (z2 20)) 21 (z2 21)) 22 (z2 22)) 23 (z2 23)) 24 (z2 24)) 25 (z2 25)) 27 (z2 27)) 28 (z2 28)) 29 (z2 29)) 30 (z2 30)) 31 (z2 31)) 32 (z2 32)) am K)) (ws' := (wX9 cI cZ am K)) hD [43, 44, 45, 46, 47, 48, 49, 50, 51] (by decide) rfl
  have hFc := va_free (wc := (wX9 cI cZ am K)) hD hS hA [43, 44, 45, 46, 47, 48, 49, 50, 51] rfl
  refine va_calli (va_runV (As := []) (rest := []) ⟨hx, hb, hml, hown, hts⟩ (c_X9_servable l dC dI cI cZ am H.size K y hf9) (cwV 0 hts gL_law_X9_servable rfl rfl rfl (by decide +kernel) ⟨Nat.le_of_ble_eq_true rfl, Nat.le_of_ble_eq_true rfl⟩) ⟨WR.blind, va_recv hK hP (ci := 9) (q0 := 43) rfl rfl, WR.pre hPc hK2 hDc hNW⟩ rfl rfl hl.1 rfl (lv_room (Nat.le_of_ble_eq_true rfl)) dL_law_3228 ⟨by show _ + 0 ≤ 601024; omega, by show _ + 0 ≤ 7293034; omega⟩) hS (fun q _ h => hFc q h) hFc (fun rv u t H1 locs ht hvm hw hB hz1 hk1 hS => ?_)
  obtain ⟨hP1, hD1⟩ := hB
  rw [ht] at hP1
  rw [hw]
  obtain ⟨hP, hD⟩ := join_app (ws := (wLaw cI cZ cS cL hs1 o fl1 a (sr (sr (sr (sr (sr (sr (sr (sr (sr (sr (sr (sr (sr (sr (sr M 17 (z2 17)) 18 (z2 18)) 19 (z2 19)) 20 (z2 20)) 21 (z2 21)) 22 (z2 22)) 23 (z2 23)) 24 (z2 24)) 25 (z2 25)) 27 (z2 27)) 28 (z2 28)) 29 (z2 29)) 30 (z2 30)) 31 (z2 31)) 32 (z2 32)) am K)) (wr := (wL cI cZ cS cL (fS hs1) (fG hs1) o fl1 a (sr (sr (sr (sr (sr (sr (sr (sr (sr (sr (sr (sr (sr (sr (sr M 17 (z2 17)) 18 (z2 18)) 19 (z2 19)) 20 (z2 20)) 21 (z2 21)) 22 (z2 22)) 23 (z2 23)) 24 (z2 24)) 25 (z2 25)) 27 (z2 27)) 28 (z2 28)) 29 (z2 29)) 30 (z2 30)) 31 (z2 31)) 32 (z2 32)))) (w1 := (wX9 cI cZ am (sr (sr (sr (sr K 0 (y.2 0)) 1 (y.2 1)) 2 (y.2 2)) 8 (y.2 8)))) hP hD [43, 44, 45, 46, 47, 48, 49, 50, 51] [0, 1, 2, 3, 4, 5, 6, 7, 8, 9, 10, 11, 12, 13, 14, 15, 16, 17, 18, 19, 20, 21, 22, 23, 24, 25, 26, 27, 28, 29, 30, 31, 32, 33, 34, 35, 36, 37, 38, 39, 40, 41, 42] rfl rfl (by decide) (by decide) hk1 hFc hP1 hD1
  have hP : va_P (dC, dI) vwCl ((wLaw cI cZ cS cL hs1 o fl1 a (sr (sr (sr (sr (sr (sr (sr (sr (sr (sr (sr (sr (sr (sr (sr M 17 (z2 17)) 18 (z2 18)) 19 (z2 19)) 20 (z2 20)) 21 (z2 21)) 22 (z2 22)) 23 (z2 23)) 24 (z2 24)) 25 (z2 25)) 27 (z2 27)) 28 (z2 28)) 29 (z2 29)) 30 (z2 30)) 31 (z2 31)) 32 (z2 32)) am (sr (sr (sr (sr K 0 (y.2 0)) 1 (y.2 1)) 2 (y.2 2)) 8 (y.2 8))) ++ RW cI cZ hs1) H1 := hP
  have hD : va_D A ((wLaw cI cZ cS cL hs1 o fl1 a (sr (sr (sr (sr (sr (sr (sr (sr (sr (sr (sr (sr (sr (sr (sr M 17 (z2 17)) 18 (z2 18)) 19 (z2 19)) 20 (z2 20)) 21 (z2 21)) 22 (z2 22)) 23 (z2 23)) 24 (z2 24)) 25 (z2 25)) 27 (z2 27)) 28 (z2 28)) 29 (z2 29)) 30 (z2 30)) 31 (z2 31)) 32 (z2 32)) am (sr (sr (sr (sr K 0 (y.2 0)) 1 (y.2 1)) 2 (y.2 2)) 8 (y.2 8))) ++ RW cI cZ hs1) := hD
  generalize H1 = H at hP hS ⊢
  refine lv_istore (lv' := [(6, .int y.1), (5, .int kk), (0, .ref b), (1, .ref (a 0)), (2, .ref (am 0)), (3, .ref o), (4, .int (nI (3 * n)))]) hx hb dL_law_3231 hl (by decide) rfl (fun ls hl => ?_)
  refine lv_aload_n hx hb dL_law_3233 rfl (lv_at hl 4 rfl) ?_
  have hPc := P_head (ws := (wLaw cI cZ cS cL hs1 o fl1 a (sr (sr (sr (sr (sr (sr (sr (sr (sr (sr (sr (sr (sr (sr (sr M 17 (z2 17)) 18 (z2 18)) 19 (z2 19)) 20 (z2 20)) 21 (z2 21)) 22 (z2 22)) 23 (z2 23)) 24 (z2 24)) 25 (z2 25)) 27 (z2 27)) 28 (z2 28)) 29 (z2 29)) 30 (z2 30)) 31 (z2 31)) 32 (z2 32)) am (sr (sr (sr (sr K 0 (y.2 0)) 1 (y.2 1)) 2 (y.2 2)) 8 (y.2 8)))) (ws' := (wX9 cI cZ am (sr (sr (sr (sr K 0 (y.2 0)) 1 (y.2 1)) 2 (y.2 2)) 8 (y.2 8)))) hP [43, 44, 45, 46, 47, 48, 49, 50, 51] rfl
  refine cRO (W.runV (As := []) (rest := []) ⟨hx, hb, hml, hown, hts⟩ (c_X9_thrown l dC dI cI cZ am (sr (sr (sr (sr K 0 (y.2 0)) 1 (y.2 1)) 2 (y.2 2)) 8 (y.2 8)) ((sr (sr (sr (sr K 0 (y.2 0)) 1 (y.2 1)) 2 (y.2 2)) 8 (y.2 8)) 0 0) rfl) (cwV 0 hts gL_law_X9_thrown rfl rfl rfl (by decide +kernel) ⟨Nat.le_of_ble_eq_true rfl, Nat.le_of_ble_eq_true rfl⟩) ⟨RO.blind, va_recv hK hP (ci := 9) (q0 := 43) rfl rfl, RO.pre hPc hK2 hNW⟩ rfl rfl hl.1 rfl (lv_room (Nat.le_of_ble_eq_true rfl)) dL_law_3234 ⟨by show _ + 0 ≤ 601024; omega, by show _ + 0 ≤ 7293034; omega⟩) ?_
  refine lv_iload hx hb dL_law_3237 (lv_at hl 1 rfl) ?_
  refine lv_icmp_eq (tgt := 3244) hx hb dL_law_3239 (by decide) (fun c9 => ?_) (fun c9 => absurd h9k c9)
  refine lv_iload hx hb dL_law_3244 (lv_at hl 1 rfl) ?_
  refine lv_if_ne (tgt := 3261) hx hb dL_law_3246 (by decide) (fun c9 => ?_) (fun c9 => ?_)
  · refine lv_goto (tgt := 3556) hx hb dL_law_3261 (by decide) ?_
    refine W.widen (k := cells + 17) (n := slots + 322) (by omega) (by omega) ?_
    exact kk9 hs1 fl1 _ _ _ H locs hI9 (lv_sub hl [2, 3, 4, 5, 6] rfl) hP hD hS
  obtain ⟨u, hr9⟩ := Ans_z hA9 c9
  have hv9 := hout u hr9
  have hu9 := hval u hr9
  refine lv_aload_n hx hb dL_law_3249 rfl (lv_at hl 5 rfl) ?_
  refine lv_iconst (v := (0 : Int32)) hx hb dL_law_3250 (by decide) ?_
  refine va_lald (D := (dC, dI)) (f := fl1) hx hb hK hP 0 3 rfl rfl (inb_in rfl) dL_law_3251 ?_
  refine lv_iload hx hb dL_law_3252 (lv_at hl 0 rfl) ?_
  refine lv_i2l (v := (y.1).toInt64) hx hb dL_law_3254 rfl ?_
  refine W.lcmp hx hb dL_law_3255 ?_
  refine lv_if_eq (tgt := 3261) hx hb dL_law_3256 (by decide) (fun c7 => ?_) (fun c7 => absurd (lg_eq (hv9.trans (congrArg Int32.toInt64 hu9))) c7)
  refine lv_goto (tgt := 3556) hx hb dL_law_3261 (by decide) ?_
  refine W.widen (k := cells + 17) (n := slots + 322) (by omega) (by omega) ?_
  exact kk9 hs1 fl1 _ _ _ H locs hI9 (lv_sub hl [2, 3, 4, 5, 6] rfl) hP hD hS
set_option maxHeartbeats 4000000 in
set_option maxRecDepth 100000 in
theorem lc_ticks {p : Program} {l : Launch} {e : Env} {s : State} {m : MethodId} {below : List Frame} {meth : Method} {c : Code} {b L : Nat} {xs : Nat → Int32} {dC : Nat → ClassId} {dI : Nat → Nat → Nat} {cI cZ cS cL : ClassId} {A : Nat → Prop} {a am : Nat → Nat} {o : Nat} {Q : State → Prop} (X0 : LCx p l s m c b L xs dC dI cI cZ cS cL A) {Inv : Nat → (Nat → Option Mem) → Mem → Mem → Prop} (hSt : St_ticks Inv) {n : Nat} (hn : n < 512) (hnL : 3 * n + 2 < L) (hL : L ≤ 1536) {hs : HS} {fl : Nat → Int64} {M K : Mem} (hI : Inv n (cts hs) M K) {ls : Array Slot} {H : Heap} {locs : List Loc} {cells slots : Nat} (hcs : cells + 17 ≤ 601024) (hss : slots + 322 ≤ 7293034) (hl : lv_has ls 9 [(0, .ref b), (1, .ref (a 0)), (2, .ref (am 0)), (3, .ref o), (4, .int (nI (3 * n)))]) (hP : va_P (dC, dI) vwCl (wLaw cI cZ cS cL hs o fl a M am K ++ RW cI cZ hs) H) (hD : va_D A (wLaw cI cZ cS cL hs o fl a M am K ++ RW cI cZ hs)) (hS : va_S A s.heap H locs) (kk9 : ∀ (hs' : HS) (fl' : Nat → Int64) (M' K' : Mem) (ls : Array Slot) (H : Heap) (locs : List Loc), Inv (n + 1) (cts hs') M' K' → lv_has ls 9 [(0, .ref b), (1, .ref (a 0)), (2, .ref (am 0)), (3, .ref o), (4, .int (nI (3 * n)))] → va_P (dC, dI) vwCl (wLaw cI cZ cS cL hs' o fl' a M' am K' ++ RW cI cZ hs') H → va_D A (wLaw cI cZ cS cL hs' o fl' a M' am K' ++ RW cI cZ hs') → va_S A s.heap H locs → W p l e room_1 s m #[Value.ref b] below meth c H locs (cells + 17) (slots + 322) Q (F0 m 3556 ls [])) : W p l e room_1 s m #[Value.ref b] below meth c H locs cells slots Q (F0 m 3264 ls []) := by
  obtain ⟨hx, hb, hml, hown, hts, hK, hNW, hEX, hNC, hA, hXs, hbl, hbA, hst⟩ := X0
  have hK8 : va_K (dC, dI) vwCl (tys8 cI cZ cS) s := hK.sub (tys' := tys8 cI cZ cS) [0, 1, 2] rfl
  have hK2 : va_K (dC, dI) vwCl [(cI, .int), (cZ, .boolean)] s := hK.sub (tys' := [(cI, .int), (cZ, .boolean)]) [0, 1] rfl
  obtain ⟨z, y, hf8, hf9, hEq, hI9⟩ := hSt n (cts hs) M K hn hI
  refine lv_aload_n hx hb dL_law_3264 rfl (lv_at hl 1 rfl) ?_
  have hPc := P_head (ws := (wLaw cI cZ cS cL hs o fl a M am K)) (ws' := (wX8 cI cZ cS (fS hs) (fG hs) a M)) hP [1, 2, 3, 4, 5, 6, 7, 8, 9, 10, 11, 12, 13, 14, 15, 16, 17, 18, 19, 20, 21, 22, 23, 24, 25, 26, 27, 28, 29, 30, 31, 32, 33, 34, 35, 36, 37, 38, 39, 40, 41, 42] rfl
  refine cRO (W.runV (As := []) (rest := []) ⟨hx, hb, hml, hown, hts⟩ (c_X8_ticks l dC dI cI cZ cS (fS hs) (fG hs) a M (z) hf8) (cwV 0 hts gL_law_X8_ticks rfl rfl rfl (by decide +kernel) ⟨Nat.le_of_ble_eq_true rfl, Nat.le_of_ble_eq_true rfl⟩) ⟨RO8.blind, va_recv hK hP (ci := 8) (q0 := 1) rfl rfl, RO8.pre hPc hK8 hNW⟩ rfl rfl hl.1 rfl (lv_room (Nat.le_of_ble_eq_true rfl)) dL_law_3265 ⟨by show cells + 0 ≤ 601024; omega, by show slots + 0 ≤ 7293034; omega⟩) ?_
  refine lv_aload_n hx hb dL_law_3268 rfl (lv_at hl 2 rfl) ?_
  have hPc := P_head (ws := (wLaw cI cZ cS cL hs o fl a M am K)) (ws' := (wX9 cI cZ am K)) hP [43, 44, 45, 46, 47, 48, 49, 50, 51] rfl
  have hDc := D_head (ws := (wLaw cI cZ cS cL hs o fl a M am K)) (ws' := (wX9 cI cZ am K)) hD [43, 44, 45, 46, 47, 48, 49, 50, 51] (by decide) rfl
  have hFc := va_free (wc := (wX9 cI cZ am K)) hD hS hA [43, 44, 45, 46, 47, 48, 49, 50, 51] rfl
  refine va_calli (va_runV (As := []) (rest := [.int z]) ⟨hx, hb, hml, hown, hts⟩ (c_X9_ticks l dC dI cI cZ am H.size K y hf9) (cwV 0 hts gL_law_X9_ticks rfl rfl rfl (by decide +kernel) ⟨Nat.le_of_ble_eq_true rfl, Nat.le_of_ble_eq_true rfl⟩) ⟨WR.blind, va_recv hK hP (ci := 9) (q0 := 43) rfl rfl, WR.pre hPc hK2 hDc hNW⟩ rfl rfl hl.1 rfl (lv_room (Nat.le_of_ble_eq_true rfl)) dL_law_3269 ⟨by show _ + 0 ≤ 601024; omega, by show _ + 0 ≤ 7293034; omega⟩) hS (fun q _ h => hFc q h) hFc (fun rv u t H1 locs ht hvm hw hB hz1 hk1 hS => ?_)
  obtain ⟨hP1, hD1⟩ := hB
  rw [ht] at hP1
  rw [hw]
  obtain ⟨hP, hD⟩ := join_app (ws := (wLaw cI cZ cS cL hs o fl a M am K)) (wr := (wL cI cZ cS cL (fS hs) (fG hs) o fl a M)) (w1 := (wX9 cI cZ am (sr K 0 (y.2 0)))) hP hD [43, 44, 45, 46, 47, 48, 49, 50, 51] [0, 1, 2, 3, 4, 5, 6, 7, 8, 9, 10, 11, 12, 13, 14, 15, 16, 17, 18, 19, 20, 21, 22, 23, 24, 25, 26, 27, 28, 29, 30, 31, 32, 33, 34, 35, 36, 37, 38, 39, 40, 41, 42] rfl rfl (by decide) (by decide) hk1 hFc hP1 hD1
  have hP : va_P (dC, dI) vwCl ((wLaw cI cZ cS cL hs o fl a M am (sr K 0 (y.2 0))) ++ RW cI cZ hs) H1 := hP
  have hD : va_D A ((wLaw cI cZ cS cL hs o fl a M am (sr K 0 (y.2 0))) ++ RW cI cZ hs) := hD
  generalize H1 = H at hP hS ⊢
  refine lv_icmp_eq (tgt := 3556) hx hb dL_law_3272 (by decide) (fun c9 => ?_) (fun c9 => absurd hEq c9)
  refine W.widen (k := cells + 17) (n := slots + 322) (by omega) (by omega) ?_
  exact kk9 hs fl _ _ _ H locs hI9 (lv_sub hl [0, 1, 2, 3, 4] rfl) hP hD hS
set_option maxHeartbeats 4000000 in
set_option maxRecDepth 100000 in
theorem lc_fetches {p : Program} {l : Launch} {e : Env} {s : State} {m : MethodId} {below : List Frame} {meth : Method} {c : Code} {b L : Nat} {xs : Nat → Int32} {dC : Nat → ClassId} {dI : Nat → Nat → Nat} {cI cZ cS cL : ClassId} {A : Nat → Prop} {a am : Nat → Nat} {o : Nat} {Q : State → Prop} (X0 : LCx p l s m c b L xs dC dI cI cZ cS cL A) {Inv : Nat → (Nat → Option Mem) → Mem → Mem → Prop} (hSt : St_fetches Inv) {n : Nat} (hn : n < 512) (hnL : 3 * n + 2 < L) (hL : L ≤ 1536) {hs : HS} {fl : Nat → Int64} {M K : Mem} (hI : Inv n (cts hs) M K) {ls : Array Slot} {H : Heap} {locs : List Loc} {cells slots : Nat} (hcs : cells + 17 ≤ 601024) (hss : slots + 322 ≤ 7293034) (hl : lv_has ls 9 [(0, .ref b), (1, .ref (a 0)), (2, .ref (am 0)), (3, .ref o), (4, .int (nI (3 * n)))]) (hP : va_P (dC, dI) vwCl (wLaw cI cZ cS cL hs o fl a M am K ++ RW cI cZ hs) H) (hD : va_D A (wLaw cI cZ cS cL hs o fl a M am K ++ RW cI cZ hs)) (hS : va_S A s.heap H locs) (kk9 : ∀ (hs' : HS) (fl' : Nat → Int64) (M' K' : Mem) (ls : Array Slot) (H : Heap) (locs : List Loc), Inv (n + 1) (cts hs') M' K' → lv_has ls 9 [(0, .ref b), (1, .ref (a 0)), (2, .ref (am 0)), (3, .ref o), (4, .int (nI (3 * n)))] → va_P (dC, dI) vwCl (wLaw cI cZ cS cL hs' o fl' a M' am K' ++ RW cI cZ hs') H → va_D A (wLaw cI cZ cS cL hs' o fl' a M' am K' ++ RW cI cZ hs') → va_S A s.heap H locs → W p l e room_1 s m #[Value.ref b] below meth c H locs (cells + 17) (slots + 322) Q (F0 m 3556 ls [])) : W p l e room_1 s m #[Value.ref b] below meth c H locs cells slots Q (F0 m 3277 ls []) := by
  obtain ⟨hx, hb, hml, hown, hts, hK, hNW, hEX, hNC, hA, hXs, hbl, hbA, hst⟩ := X0
  have hK8 : va_K (dC, dI) vwCl (tys8 cI cZ cS) s := hK.sub (tys' := tys8 cI cZ cS) [0, 1, 2] rfl
  have hK2 : va_K (dC, dI) vwCl [(cI, .int), (cZ, .boolean)] s := hK.sub (tys' := [(cI, .int), (cZ, .boolean)]) [0, 1] rfl
  obtain ⟨z, y, hf8, hf9, hEq, hI9⟩ := hSt n (cts hs) M K hn hI
  refine lv_aload_n hx hb dL_law_3277 rfl (lv_at hl 1 rfl) ?_
  have hPc := P_head (ws := (wLaw cI cZ cS cL hs o fl a M am K)) (ws' := (wX8 cI cZ cS (fS hs) (fG hs) a M)) hP [1, 2, 3, 4, 5, 6, 7, 8, 9, 10, 11, 12, 13, 14, 15, 16, 17, 18, 19, 20, 21, 22, 23, 24, 25, 26, 27, 28, 29, 30, 31, 32, 33, 34, 35, 36, 37, 38, 39, 40, 41, 42] rfl
  refine cRO (W.runV (As := []) (rest := []) ⟨hx, hb, hml, hown, hts⟩ (c_X8_fetches l dC dI cI cZ cS (fS hs) (fG hs) a M (z) hf8) (cwV 0 hts gL_law_X8_fetches rfl rfl rfl (by decide +kernel) ⟨Nat.le_of_ble_eq_true rfl, Nat.le_of_ble_eq_true rfl⟩) ⟨RO8.blind, va_recv hK hP (ci := 8) (q0 := 1) rfl rfl, RO8.pre hPc hK8 hNW⟩ rfl rfl hl.1 rfl (lv_room (Nat.le_of_ble_eq_true rfl)) dL_law_3278 ⟨by show cells + 0 ≤ 601024; omega, by show slots + 0 ≤ 7293034; omega⟩) ?_
  refine lv_aload_n hx hb dL_law_3281 rfl (lv_at hl 2 rfl) ?_
  have hPc := P_head (ws := (wLaw cI cZ cS cL hs o fl a M am K)) (ws' := (wX9 cI cZ am K)) hP [43, 44, 45, 46, 47, 48, 49, 50, 51] rfl
  have hDc := D_head (ws := (wLaw cI cZ cS cL hs o fl a M am K)) (ws' := (wX9 cI cZ am K)) hD [43, 44, 45, 46, 47, 48, 49, 50, 51] (by decide) rfl
  have hFc := va_free (wc := (wX9 cI cZ am K)) hD hS hA [43, 44, 45, 46, 47, 48, 49, 50, 51] rfl
  refine va_calli (va_runV (As := []) (rest := [.int z]) ⟨hx, hb, hml, hown, hts⟩ (c_X9_fetches l dC dI cI cZ am H.size K y hf9) (cwV 0 hts gL_law_X9_fetches rfl rfl rfl (by decide +kernel) ⟨Nat.le_of_ble_eq_true rfl, Nat.le_of_ble_eq_true rfl⟩) ⟨WR.blind, va_recv hK hP (ci := 9) (q0 := 43) rfl rfl, WR.pre hPc hK2 hDc hNW⟩ rfl rfl hl.1 rfl (lv_room (Nat.le_of_ble_eq_true rfl)) dL_law_3282 ⟨by show _ + 0 ≤ 601024; omega, by show _ + 0 ≤ 7293034; omega⟩) hS (fun q _ h => hFc q h) hFc (fun rv u t H1 locs ht hvm hw hB hz1 hk1 hS => ?_)
  obtain ⟨hP1, hD1⟩ := hB
  rw [ht] at hP1
  rw [hw]
  obtain ⟨hP, hD⟩ := join_app (ws := (wLaw cI cZ cS cL hs o fl a M am K)) (wr := (wL cI cZ cS cL (fS hs) (fG hs) o fl a M)) (w1 := (wX9 cI cZ am (sr K 0 (y.2 0)))) hP hD [43, 44, 45, 46, 47, 48, 49, 50, 51] [0, 1, 2, 3, 4, 5, 6, 7, 8, 9, 10, 11, 12, 13, 14, 15, 16, 17, 18, 19, 20, 21, 22, 23, 24, 25, 26, 27, 28, 29, 30, 31, 32, 33, 34, 35, 36, 37, 38, 39, 40, 41, 42] rfl rfl (by decide) (by decide) hk1 hFc hP1 hD1
  have hP : va_P (dC, dI) vwCl ((wLaw cI cZ cS cL hs o fl a M am (sr K 0 (y.2 0))) ++ RW cI cZ hs) H1 := hP
  have hD : va_D A ((wLaw cI cZ cS cL hs o fl a M am (sr K 0 (y.2 0))) ++ RW cI cZ hs) := hD
  generalize H1 = H at hP hS ⊢
  refine lv_icmp_eq (tgt := 3556) hx hb dL_law_3285 (by decide) (fun c9 => ?_) (fun c9 => absurd hEq c9)
  refine W.widen (k := cells + 17) (n := slots + 322) (by omega) (by omega) ?_
  exact kk9 hs fl _ _ _ H locs hI9 (lv_sub hl [0, 1, 2, 3, 4] rfl) hP hD hS
set_option maxHeartbeats 4000000 in
set_option maxRecDepth 100000 in
theorem lc_served {p : Program} {l : Launch} {e : Env} {s : State} {m : MethodId} {below : List Frame} {meth : Method} {c : Code} {b L : Nat} {xs : Nat → Int32} {dC : Nat → ClassId} {dI : Nat → Nat → Nat} {cI cZ cS cL : ClassId} {A : Nat → Prop} {a am : Nat → Nat} {o : Nat} {Q : State → Prop} (X0 : LCx p l s m c b L xs dC dI cI cZ cS cL A) {Inv : Nat → (Nat → Option Mem) → Mem → Mem → Prop} (hSt : St_served Inv) {n : Nat} (hn : n < 512) (hnL : 3 * n + 2 < L) (hL : L ≤ 1536) {hs : HS} {fl : Nat → Int64} {M K : Mem} (hI : Inv n (cts hs) M K) {ls : Array Slot} {H : Heap} {locs : List Loc} {cells slots : Nat} (hcs : cells + 17 ≤ 601024) (hss : slots + 322 ≤ 7293034) (hl : lv_has ls 9 [(0, .ref b), (1, .ref (a 0)), (2, .ref (am 0)), (3, .ref o), (4, .int (nI (3 * n)))]) (hP : va_P (dC, dI) vwCl (wLaw cI cZ cS cL hs o fl a M am K ++ RW cI cZ hs) H) (hD : va_D A (wLaw cI cZ cS cL hs o fl a M am K ++ RW cI cZ hs)) (hS : va_S A s.heap H locs) (kk9 : ∀ (hs' : HS) (fl' : Nat → Int64) (M' K' : Mem) (ls : Array Slot) (H : Heap) (locs : List Loc), Inv (n + 1) (cts hs') M' K' → lv_has ls 9 [(0, .ref b), (1, .ref (a 0)), (2, .ref (am 0)), (3, .ref o), (4, .int (nI (3 * n)))] → va_P (dC, dI) vwCl (wLaw cI cZ cS cL hs' o fl' a M' am K' ++ RW cI cZ hs') H → va_D A (wLaw cI cZ cS cL hs' o fl' a M' am K' ++ RW cI cZ hs') → va_S A s.heap H locs → W p l e room_1 s m #[Value.ref b] below meth c H locs (cells + 17) (slots + 322) Q (F0 m 3556 ls [])) : W p l e room_1 s m #[Value.ref b] below meth c H locs cells slots Q (F0 m 3290 ls []) := by
  obtain ⟨hx, hb, hml, hown, hts, hK, hNW, hEX, hNC, hA, hXs, hbl, hbA, hst⟩ := X0
  have hK8 : va_K (dC, dI) vwCl (tys8 cI cZ cS) s := hK.sub (tys' := tys8 cI cZ cS) [0, 1, 2] rfl
  have hK2 : va_K (dC, dI) vwCl [(cI, .int), (cZ, .boolean)] s := hK.sub (tys' := [(cI, .int), (cZ, .boolean)]) [0, 1] rfl
  obtain ⟨z, y, hf8, hf9, hEq, hI9⟩ := hSt n (cts hs) M K hn hI
  refine lv_aload_n hx hb dL_law_3290 rfl (lv_at hl 1 rfl) ?_
  have hPc := P_head (ws := (wLaw cI cZ cS cL hs o fl a M am K)) (ws' := (wX8 cI cZ cS (fS hs) (fG hs) a M)) hP [1, 2, 3, 4, 5, 6, 7, 8, 9, 10, 11, 12, 13, 14, 15, 16, 17, 18, 19, 20, 21, 22, 23, 24, 25, 26, 27, 28, 29, 30, 31, 32, 33, 34, 35, 36, 37, 38, 39, 40, 41, 42] rfl
  refine cRO (W.runV (As := []) (rest := []) ⟨hx, hb, hml, hown, hts⟩ (c_X8_served l dC dI cI cZ cS (fS hs) (fG hs) a M (z) hf8) (cwV 0 hts gL_law_X8_served rfl rfl rfl (by decide +kernel) ⟨Nat.le_of_ble_eq_true rfl, Nat.le_of_ble_eq_true rfl⟩) ⟨RO8.blind, va_recv hK hP (ci := 8) (q0 := 1) rfl rfl, RO8.pre hPc hK8 hNW⟩ rfl rfl hl.1 rfl (lv_room (Nat.le_of_ble_eq_true rfl)) dL_law_3291 ⟨by show cells + 0 ≤ 601024; omega, by show slots + 0 ≤ 7293034; omega⟩) ?_
  refine lv_aload_n hx hb dL_law_3294 rfl (lv_at hl 2 rfl) ?_
  have hPc := P_head (ws := (wLaw cI cZ cS cL hs o fl a M am K)) (ws' := (wX9 cI cZ am K)) hP [43, 44, 45, 46, 47, 48, 49, 50, 51] rfl
  have hDc := D_head (ws := (wLaw cI cZ cS cL hs o fl a M am K)) (ws' := (wX9 cI cZ am K)) hD [43, 44, 45, 46, 47, 48, 49, 50, 51] (by decide) rfl
  have hFc := va_free (wc := (wX9 cI cZ am K)) hD hS hA [43, 44, 45, 46, 47, 48, 49, 50, 51] rfl
  refine va_calli (va_runV (As := []) (rest := [.int z]) ⟨hx, hb, hml, hown, hts⟩ (c_X9_served l dC dI cI cZ am H.size K y hf9) (cwV 0 hts gL_law_X9_served rfl rfl rfl (by decide +kernel) ⟨Nat.le_of_ble_eq_true rfl, Nat.le_of_ble_eq_true rfl⟩) ⟨WR.blind, va_recv hK hP (ci := 9) (q0 := 43) rfl rfl, WR.pre hPc hK2 hDc hNW⟩ rfl rfl hl.1 rfl (lv_room (Nat.le_of_ble_eq_true rfl)) dL_law_3295 ⟨by show _ + 0 ≤ 601024; omega, by show _ + 0 ≤ 7293034; omega⟩) hS (fun q _ h => hFc q h) hFc (fun rv u t H1 locs ht hvm hw hB hz1 hk1 hS => ?_)
  obtain ⟨hP1, hD1⟩ := hB
  rw [ht] at hP1
  rw [hw]
  obtain ⟨hP, hD⟩ := join_app (ws := (wLaw cI cZ cS cL hs o fl a M am K)) (wr := (wL cI cZ cS cL (fS hs) (fG hs) o fl a M)) (w1 := (wX9 cI cZ am (sr K 0 (y.2 0)))) hP hD [43, 44, 45, 46, 47, 48, 49, 50, 51] [0, 1, 2, 3, 4, 5, 6, 7, 8, 9, 10, 11, 12, 13, 14, 15, 16, 17, 18, 19, 20, 21, 22, 23, 24, 25, 26, 27, 28, 29, 30, 31, 32, 33, 34, 35, 36, 37, 38, 39, 40, 41, 42] rfl rfl (by decide) (by decide) hk1 hFc hP1 hD1
  have hP : va_P (dC, dI) vwCl ((wLaw cI cZ cS cL hs o fl a M am (sr K 0 (y.2 0))) ++ RW cI cZ hs) H1 := hP
  have hD : va_D A ((wLaw cI cZ cS cL hs o fl a M am (sr K 0 (y.2 0))) ++ RW cI cZ hs) := hD
  generalize H1 = H at hP hS ⊢
  refine lv_icmp_eq (tgt := 3556) hx hb dL_law_3298 (by decide) (fun c9 => ?_) (fun c9 => absurd hEq c9)
  refine W.widen (k := cells + 17) (n := slots + 322) (by omega) (by omega) ?_
  exact kk9 hs fl _ _ _ H locs hI9 (lv_sub hl [0, 1, 2, 3, 4] rfl) hP hD hS
set_option maxHeartbeats 4000000 in
set_option maxRecDepth 100000 in
theorem lc_fetchTicks {p : Program} {l : Launch} {e : Env} {s : State} {m : MethodId} {below : List Frame} {meth : Method} {c : Code} {b L : Nat} {xs : Nat → Int32} {dC : Nat → ClassId} {dI : Nat → Nat → Nat} {cI cZ cS cL : ClassId} {A : Nat → Prop} {a am : Nat → Nat} {o : Nat} {Q : State → Prop} (X0 : LCx p l s m c b L xs dC dI cI cZ cS cL A) {Inv : Nat → (Nat → Option Mem) → Mem → Mem → Prop} (hSt : St_fetchTicks Inv) {n : Nat} (hn : n < 512) (hnL : 3 * n + 2 < L) (hL : L ≤ 1536) {hs : HS} {fl : Nat → Int64} {M K : Mem} (hI : Inv n (cts hs) M K) {ls : Array Slot} {H : Heap} {locs : List Loc} {cells slots : Nat} (hcs : cells + 17 ≤ 601024) (hss : slots + 322 ≤ 7293034) (hl : lv_has ls 9 [(0, .ref b), (1, .ref (a 0)), (2, .ref (am 0)), (3, .ref o), (4, .int (nI (3 * n)))]) (hP : va_P (dC, dI) vwCl (wLaw cI cZ cS cL hs o fl a M am K ++ RW cI cZ hs) H) (hD : va_D A (wLaw cI cZ cS cL hs o fl a M am K ++ RW cI cZ hs)) (hS : va_S A s.heap H locs) (kk9 : ∀ (hs' : HS) (fl' : Nat → Int64) (M' K' : Mem) (ls : Array Slot) (H : Heap) (locs : List Loc), Inv (n + 1) (cts hs') M' K' → lv_has ls 9 [(0, .ref b), (1, .ref (a 0)), (2, .ref (am 0)), (3, .ref o), (4, .int (nI (3 * n)))] → va_P (dC, dI) vwCl (wLaw cI cZ cS cL hs' o fl' a M' am K' ++ RW cI cZ hs') H → va_D A (wLaw cI cZ cS cL hs' o fl' a M' am K' ++ RW cI cZ hs') → va_S A s.heap H locs → W p l e room_1 s m #[Value.ref b] below meth c H locs (cells + 17) (slots + 322) Q (F0 m 3556 ls [])) : W p l e room_1 s m #[Value.ref b] below meth c H locs cells slots Q (F0 m 3303 ls []) := by
  obtain ⟨hx, hb, hml, hown, hts, hK, hNW, hEX, hNC, hA, hXs, hbl, hbA, hst⟩ := X0
  have hK8 : va_K (dC, dI) vwCl (tys8 cI cZ cS) s := hK.sub (tys' := tys8 cI cZ cS) [0, 1, 2] rfl
  have hK2 : va_K (dC, dI) vwCl [(cI, .int), (cZ, .boolean)] s := hK.sub (tys' := [(cI, .int), (cZ, .boolean)]) [0, 1] rfl
  obtain ⟨r, kk, y, hf8, hA9, hf9, h9k, hval, hI9⟩ := hSt n (cts hs) M K (xs (3 * n + 1)) hn hI
  refine lv_aload_n hx hb dL_law_3303 rfl (lv_at hl 1 rfl) ?_
  refine lv_aload_n hx hb dL_law_3304 rfl (lv_at hl 0 rfl) ?_
  refine lv_iload hx hb dL_law_3305 (lv_at hl 4 rfl) ?_
  refine lv_iconst (v := (1 : Int32)) hx hb dL_law_3307 (by decide) ?_
  refine lv_iadd hx hb dL_law_3308 ?_
  rw [show nI (3 * n) + (1 : Int32) = nI (3 * n + 1) from nI_add (3 * n) 1]
  refine va_sld hx hb hXs hbl hbA hS (vp_in_nI (by omega) (by omega)) dL_law_3309 ?_
  rw [nI_clamp (show 3 * n + 1 < 2 ^ 31 by omega)]
  refine lv_aload_n hx hb dL_law_3310 rfl (lv_at hl 3 rfl) ?_
  have hPc := hP.part (X := (wLaw cI cZ cS cL hs o fl a M am K)) (cx := (wL cI cZ cS cL (fS hs) (fG hs) o fl a M)) [0, 1, 2, 3, 4, 5, 6, 7, 8, 9, 10, 11, 12, 13, 14, 15, 16, 17, 18, 19, 20, 21, 22, 23, 24, 25, 26, 27, 28, 29, 30, 31, 32, 33, 34, 35, 36, 37, 38, 39, 40, 41, 42] rfl
  have hDc := hD.part (X := (wLaw cI cZ cS cL hs o fl a M am K)) (cx := (wL cI cZ cS cL (fS hs) (fG hs) o fl a M)) [0, 1, 2, 3, 4, 5, 6, 7, 8, 9, 10, 11, 12, 13, 14, 15, 16, 17, 18, 19, 20, 21, 22, 23, 24, 25, 26, 27, 28, 29, 30, 31, 32, 33, 34, 35, 36, 37, 38, 39, 40, 41, 42] (by decide) rfl
  have hFc := va_freeP (X := (wLaw cI cZ cS cL hs o fl a M am K)) (cx := (wL cI cZ cS cL (fS hs) (fG hs) o fl a M)) hD hS hA [0, 1, 2, 3, 4, 5, 6, 7, 8, 9, 10, 11, 12, 13, 14, 15, 16, 17, 18, 19, 20, 21, 22, 23, 24, 25, 26, 27, 28, 29, 30, 31, 32, 33, 34, 35, 36, 37, 38, 39, 40, 41, 42] rfl
  refine va_calli (vx_runSW (As := [.ref (a 0), .int ((xs (3 * n + 1))), .ref o]) (rest := []) ⟨hx, hb, hml, hown, hts⟩ (w_L_fetchTicks l hst dC dI cI cZ cS cL hs o fl a H.size M ((xs (3 * n + 1))) r kk hf8 hA9) (vx_cwSW 3 hts gL_law_L_fetchTicks rfl rfl rfl (by decide +kernel) ⟨Nat.le_of_ble_eq_true rfl, Nat.le_of_ble_eq_true rfl⟩) ⟨T9.blind, T9.pre hPc hK hDc hNW (hEX.at hS hFc) hNC⟩ rfl rfl hl.1 rfl (lv_room (Nat.le_of_ble_eq_true rfl)) dL_law_3311 ⟨by show cells + 1 ≤ 601024; omega, by show slots + 6 ≤ 7293034; omega⟩) hS (fun q _ h => hFc q h) hFc (fun rv u t H1 locs ht hvm hw hB hz1 hk1 hS => ?_)
  obtain ⟨hw1, hw2, hout⟩ := hw
  obtain ⟨hs1, fl1⟩ := u
  have hw2 : hs1 = hs := hw2
  rw [hw1]
  obtain ⟨hP1, hD1⟩ := hB
  rw [ht] at hP1
  obtain ⟨hP, hD⟩ := va_joinP (X := (wLaw cI cZ cS cL hs o fl a M am K)) (cx := (wL cI cZ cS cL (fS hs) (fG hs) o fl a M)) (wr := (wX9 cI cZ am K)) (rx := (wL cI cZ cS cL (fS hs1) (fG hs1) o fl1 a M)) hP hD [0, 1, 2, 3, 4, 5, 6, 7, 8, 9, 10, 11, 12, 13, 14, 15, 16, 17, 18, 19, 20, 21, 22, 23, 24, 25, 26, 27, 28, 29, 30, 31, 32, 33, 34, 35, 36, 37, 38, 39, 40, 41, 42] [43, 44, 45, 46, 47, 48, 49, 50, 51] rfl rfl (by decide) (by decide) hk1 hFc hP1 hD1
  have hP := hP.part (cx := (wLaw cI cZ cS cL hs1 o fl1 a M am K)) [9, 10, 11, 12, 13, 14, 15, 16, 17, 18, 19, 20, 21, 22, 23, 24, 25, 26, 27, 28, 29, 30, 31, 32, 33, 34, 35, 36, 37, 38, 39, 40, 41, 42, 43, 44, 45, 46, 47, 48, 49, 50, 51, 0, 1, 2, 3, 4, 5, 6, 7, 8] rfl
  have hD := hD.part (cx := (wLaw cI cZ cS cL hs1 o fl1 a M am K)) [9, 10, 11, 12, 13, 14, 15, 16, 17, 18, 19, 20, 21, 22, 23, 24, 25, 26, 27, 28, 29, 30, 31, 32, 33, 34, 35, 36, 37, 38, 39, 40, 41, 42, 43, 44, 45, 46, 47, 48, 49, 50, 51, 0, 1, 2, 3, 4, 5, 6, 7, 8] (by decide) rfl
  generalize H1 = H at hP hS ⊢
  rw [← hw2] at hI9
  refine lv_istore (lv' := [(5, .int kk), (0, .ref b), (1, .ref (a 0)), (2, .ref (am 0)), (3, .ref o), (4, .int (nI (3 * n)))]) hx hb dL_law_3314 hl (by decide) rfl (fun ls hl => ?_)
  refine lv_aload_n hx hb dL_law_3316 rfl (lv_at hl 3 rfl) ?_
  refine lv_aload_n hx hb dL_law_3317 rfl (lv_at hl 1 rfl) ?_
  refine lv_iload hx hb dL_law_3318 (lv_at hl 5 rfl) ?_
  refine lv_iconst (v := (1 : Int32)) hx hb dL_law_3320 (by decide) ?_
  refine lv_iadd hx hb dL_law_3321 ?_
  rw [show nI (3 * n) + (1 : Int32) = nI (3 * n + 1) from nI_add (3 * n) 1]
  refine va_sld hx hb hXs hbl hbA hS (vp_in_nI (by omega) (by omega)) dL_law_3322 ?_
  rw [nI_clamp (show 3 * n + 1 < 2 ^ 31 by omega)]
  have hPc := P_head (ws := (wLaw cI cZ cS cL hs1 o fl1 a M am K)) (ws' := (wX9 cI cZ am K)) hP [43, 44, 45, 46, 47, 48, 49, 50, 51] rfl
  have hDc := D_head (ws := (wLaw cI cZ cS cL hs1 o fl1 a M am K)) (ws' := (wX9 cI cZ am K)) hD [43, 44, 45, 46, 47, 48, 49, 50, 51] (by decide) rfl
  have hFc := va_free (wc := (wX9 cI cZ am K)) hD hS hA [43, 44, 45, 46, 47, 48, 49, 50, 51] rfl
  refine va_calli (va_runV (As := [.int ((xs (3 * n + 1)))]) (rest := []) ⟨hx, hb, hml, hown, hts⟩ (c_X9_fetchTicks l dC dI cI cZ am H.size K ((xs (3 * n + 1))) y hf9) (cwV 1 hts gL_law_X9_fetchTicks rfl rfl rfl (by decide +kernel) ⟨Nat.le_of_ble_eq_true rfl, Nat.le_of_ble_eq_true rfl⟩) ⟨WR.blind, va_recv hK hP (ci := 9) (q0 := 43) rfl rfl, WR.pre hPc hK2 hDc hNW⟩ rfl rfl hl.1 rfl (lv_room (Nat.le_of_ble_eq_true rfl)) dL_law_3323 ⟨by show _ + 0 ≤ 601024; omega, by show _ + 0 ≤ 7293034; omega⟩) hS (fun q _ h => hFc q h) hFc (fun rv u t H1 locs ht hvm hw hB hz1 hk1 hS => ?_)
  obtain ⟨hP1, hD1⟩ := hB
  rw [ht] at hP1
  rw [hw]
  obtain ⟨hP, hD⟩ := join_app (ws := (wLaw cI cZ cS cL hs1 o fl1 a M am K)) (wr := (wL cI cZ cS cL (fS hs1) (fG hs1) o fl1 a M)) (w1 := (wX9 cI cZ am (sr K 0 (y.2 0)))) hP hD [43, 44, 45, 46, 47, 48, 49, 50, 51] [0, 1, 2, 3, 4, 5, 6, 7, 8, 9, 10, 11, 12, 13, 14, 15, 16, 17, 18, 19, 20, 21, 22, 23, 24, 25, 26, 27, 28, 29, 30, 31, 32, 33, 34, 35, 36, 37, 38, 39, 40, 41, 42] rfl rfl (by decide) (by decide) hk1 hFc hP1 hD1
  have hP : va_P (dC, dI) vwCl ((wLaw cI cZ cS cL hs1 o fl1 a M am (sr K 0 (y.2 0))) ++ RW cI cZ hs1) H1 := hP
  have hD : va_D A ((wLaw cI cZ cS cL hs1 o fl1 a M am (sr K 0 (y.2 0))) ++ RW cI cZ hs1) := hD
  generalize H1 = H at hP hS ⊢
  refine lv_istore (lv' := [(6, .int y.1), (5, .int kk), (0, .ref b), (1, .ref (a 0)), (2, .ref (am 0)), (3, .ref o), (4, .int (nI (3 * n)))]) hx hb dL_law_3326 hl (by decide) rfl (fun ls hl => ?_)
  refine lv_aload_n hx hb dL_law_3328 rfl (lv_at hl 4 rfl) ?_
  have hPc := P_head (ws := (wLaw cI cZ cS cL hs1 o fl1 a M am (sr K 0 (y.2 0)))) (ws' := (wX9 cI cZ am (sr K 0 (y.2 0)))) hP [43, 44, 45, 46, 47, 48, 49, 50, 51] rfl
  refine cRO (W.runV (As := []) (rest := []) ⟨hx, hb, hml, hown, hts⟩ (c_X9_thrown l dC dI cI cZ am (sr K 0 (y.2 0)) ((sr K 0 (y.2 0)) 0 0) rfl) (cwV 0 hts gL_law_X9_thrown rfl rfl rfl (by decide +kernel) ⟨Nat.le_of_ble_eq_true rfl, Nat.le_of_ble_eq_true rfl⟩) ⟨RO.blind, va_recv hK hP (ci := 9) (q0 := 43) rfl rfl, RO.pre hPc hK2 hNW⟩ rfl rfl hl.1 rfl (lv_room (Nat.le_of_ble_eq_true rfl)) dL_law_3329 ⟨by show _ + 0 ≤ 601024; omega, by show _ + 0 ≤ 7293034; omega⟩) ?_
  refine lv_iload hx hb dL_law_3332 (lv_at hl 1 rfl) ?_
  refine lv_icmp_eq (tgt := 3339) hx hb dL_law_3334 (by decide) (fun c9 => ?_) (fun c9 => absurd h9k c9)
  refine lv_iload hx hb dL_law_3339 (lv_at hl 1 rfl) ?_
  refine lv_if_ne (tgt := 3356) hx hb dL_law_3341 (by decide) (fun c9 => ?_) (fun c9 => ?_)
  · refine lv_goto (tgt := 3556) hx hb dL_law_3356 (by decide) ?_
    refine W.widen (k := cells + 17) (n := slots + 322) (by omega) (by omega) ?_
    exact kk9 hs1 fl1 _ _ _ H locs hI9 (lv_sub hl [2, 3, 4, 5, 6] rfl) hP hD hS
  obtain ⟨u, hr9⟩ := Ans_z hA9 c9
  have hv9 := hout u hr9
  have hu9 := hval u hr9
  refine lv_aload_n hx hb dL_law_3344 rfl (lv_at hl 5 rfl) ?_
  refine lv_iconst (v := (0 : Int32)) hx hb dL_law_3345 (by decide) ?_
  refine va_lald (D := (dC, dI)) (f := fl1) hx hb hK hP 0 3 rfl rfl (inb_in rfl) dL_law_3346 ?_
  refine lv_iload hx hb dL_law_3347 (lv_at hl 0 rfl) ?_
  refine lv_i2l (v := (y.1).toInt64) hx hb dL_law_3349 rfl ?_
  refine W.lcmp hx hb dL_law_3350 ?_
  refine lv_if_eq (tgt := 3356) hx hb dL_law_3351 (by decide) (fun c7 => ?_) (fun c7 => absurd (lg_eq (hv9.trans (congrArg Int32.toInt64 hu9))) c7)
  refine lv_goto (tgt := 3556) hx hb dL_law_3356 (by decide) ?_
  refine W.widen (k := cells + 17) (n := slots + 322) (by omega) (by omega) ?_
  exact kk9 hs1 fl1 _ _ _ H locs hI9 (lv_sub hl [2, 3, 4, 5, 6] rfl) hP hD hS
set_option maxHeartbeats 4000000 in
set_option maxRecDepth 100000 in
theorem lc_heaviest {p : Program} {l : Launch} {e : Env} {s : State} {m : MethodId} {below : List Frame} {meth : Method} {c : Code} {b L : Nat} {xs : Nat → Int32} {dC : Nat → ClassId} {dI : Nat → Nat → Nat} {cI cZ cS cL : ClassId} {A : Nat → Prop} {a am : Nat → Nat} {o : Nat} {Q : State → Prop} (X0 : LCx p l s m c b L xs dC dI cI cZ cS cL A) {Inv : Nat → (Nat → Option Mem) → Mem → Mem → Prop} (hSt : St_heaviest Inv) {n : Nat} (hn : n < 512) (hnL : 3 * n + 2 < L) (hL : L ≤ 1536) {hs : HS} {fl : Nat → Int64} {M K : Mem} (hI : Inv n (cts hs) M K) {ls : Array Slot} {H : Heap} {locs : List Loc} {cells slots : Nat} (hcs : cells + 17 ≤ 601024) (hss : slots + 322 ≤ 7293034) (hl : lv_has ls 9 [(0, .ref b), (1, .ref (a 0)), (2, .ref (am 0)), (3, .ref o), (4, .int (nI (3 * n)))]) (hP : va_P (dC, dI) vwCl (wLaw cI cZ cS cL hs o fl a M am K ++ RW cI cZ hs) H) (hD : va_D A (wLaw cI cZ cS cL hs o fl a M am K ++ RW cI cZ hs)) (hS : va_S A s.heap H locs) (kk9 : ∀ (hs' : HS) (fl' : Nat → Int64) (M' K' : Mem) (ls : Array Slot) (H : Heap) (locs : List Loc), Inv (n + 1) (cts hs') M' K' → lv_has ls 9 [(0, .ref b), (1, .ref (a 0)), (2, .ref (am 0)), (3, .ref o), (4, .int (nI (3 * n)))] → va_P (dC, dI) vwCl (wLaw cI cZ cS cL hs' o fl' a M' am K' ++ RW cI cZ hs') H → va_D A (wLaw cI cZ cS cL hs' o fl' a M' am K' ++ RW cI cZ hs') → va_S A s.heap H locs → W p l e room_1 s m #[Value.ref b] below meth c H locs (cells + 17) (slots + 322) Q (F0 m 3556 ls [])) : W p l e room_1 s m #[Value.ref b] below meth c H locs cells slots Q (F0 m 3359 ls []) := by
  obtain ⟨hx, hb, hml, hown, hts, hK, hNW, hEX, hNC, hA, hXs, hbl, hbA, hst⟩ := X0
  have hK8 : va_K (dC, dI) vwCl (tys8 cI cZ cS) s := hK.sub (tys' := tys8 cI cZ cS) [0, 1, 2] rfl
  have hK2 : va_K (dC, dI) vwCl [(cI, .int), (cZ, .boolean)] s := hK.sub (tys' := [(cI, .int), (cZ, .boolean)]) [0, 1] rfl
  obtain ⟨r, kk, y, hf8, hA9, hf9, h9k, hval, hI9⟩ := hSt n (cts hs) M K  hn hI
  refine lv_aload_n hx hb dL_law_3359 rfl (lv_at hl 1 rfl) ?_
  refine lv_aload_n hx hb dL_law_3360 rfl (lv_at hl 3 rfl) ?_
  have hPc := hP.part (X := (wLaw cI cZ cS cL hs o fl a M am K)) (cx := (wL cI cZ cS cL (fS hs) (fG hs) o fl a M)) [0, 1, 2, 3, 4, 5, 6, 7, 8, 9, 10, 11, 12, 13, 14, 15, 16, 17, 18, 19, 20, 21, 22, 23, 24, 25, 26, 27, 28, 29, 30, 31, 32, 33, 34, 35, 36, 37, 38, 39, 40, 41, 42] rfl
  have hDc := hD.part (X := (wLaw cI cZ cS cL hs o fl a M am K)) (cx := (wL cI cZ cS cL (fS hs) (fG hs) o fl a M)) [0, 1, 2, 3, 4, 5, 6, 7, 8, 9, 10, 11, 12, 13, 14, 15, 16, 17, 18, 19, 20, 21, 22, 23, 24, 25, 26, 27, 28, 29, 30, 31, 32, 33, 34, 35, 36, 37, 38, 39, 40, 41, 42] (by decide) rfl
  have hFc := va_freeP (X := (wLaw cI cZ cS cL hs o fl a M am K)) (cx := (wL cI cZ cS cL (fS hs) (fG hs) o fl a M)) hD hS hA [0, 1, 2, 3, 4, 5, 6, 7, 8, 9, 10, 11, 12, 13, 14, 15, 16, 17, 18, 19, 20, 21, 22, 23, 24, 25, 26, 27, 28, 29, 30, 31, 32, 33, 34, 35, 36, 37, 38, 39, 40, 41, 42] rfl
  refine va_calli (vx_runSW (As := [.ref (a 0), .ref o]) (rest := []) ⟨hx, hb, hml, hown, hts⟩ (w_L_heaviest l hst dC dI cI cZ cS cL hs o fl a H.size M r kk hf8 hA9) (vx_cwSW 2 hts gL_law_L_heaviest rfl rfl rfl (by decide +kernel) ⟨Nat.le_of_ble_eq_true rfl, Nat.le_of_ble_eq_true rfl⟩) ⟨T9.blind, T9.pre hPc hK hDc hNW (hEX.at hS hFc) hNC⟩ rfl rfl hl.1 rfl (lv_room (Nat.le_of_ble_eq_true rfl)) dL_law_3361 ⟨by show cells + 1 ≤ 601024; omega, by show slots + 6 ≤ 7293034; omega⟩) hS (fun q _ h => hFc q h) hFc (fun rv u t H1 locs ht hvm hw hB hz1 hk1 hS => ?_)
  obtain ⟨hw1, hw2, hout⟩ := hw
  obtain ⟨hs1, fl1⟩ := u
  have hw2 : hs1 = hs := hw2
  rw [hw1]
  obtain ⟨hP1, hD1⟩ := hB
  rw [ht] at hP1
  obtain ⟨hP, hD⟩ := va_joinP (X := (wLaw cI cZ cS cL hs o fl a M am K)) (cx := (wL cI cZ cS cL (fS hs) (fG hs) o fl a M)) (wr := (wX9 cI cZ am K)) (rx := (wL cI cZ cS cL (fS hs1) (fG hs1) o fl1 a M)) hP hD [0, 1, 2, 3, 4, 5, 6, 7, 8, 9, 10, 11, 12, 13, 14, 15, 16, 17, 18, 19, 20, 21, 22, 23, 24, 25, 26, 27, 28, 29, 30, 31, 32, 33, 34, 35, 36, 37, 38, 39, 40, 41, 42] [43, 44, 45, 46, 47, 48, 49, 50, 51] rfl rfl (by decide) (by decide) hk1 hFc hP1 hD1
  have hP := hP.part (cx := (wLaw cI cZ cS cL hs1 o fl1 a M am K)) [9, 10, 11, 12, 13, 14, 15, 16, 17, 18, 19, 20, 21, 22, 23, 24, 25, 26, 27, 28, 29, 30, 31, 32, 33, 34, 35, 36, 37, 38, 39, 40, 41, 42, 43, 44, 45, 46, 47, 48, 49, 50, 51, 0, 1, 2, 3, 4, 5, 6, 7, 8] rfl
  have hD := hD.part (cx := (wLaw cI cZ cS cL hs1 o fl1 a M am K)) [9, 10, 11, 12, 13, 14, 15, 16, 17, 18, 19, 20, 21, 22, 23, 24, 25, 26, 27, 28, 29, 30, 31, 32, 33, 34, 35, 36, 37, 38, 39, 40, 41, 42, 43, 44, 45, 46, 47, 48, 49, 50, 51, 0, 1, 2, 3, 4, 5, 6, 7, 8] (by decide) rfl
  generalize H1 = H at hP hS ⊢
  rw [← hw2] at hI9
  refine lv_istore (lv' := [(5, .int kk), (0, .ref b), (1, .ref (a 0)), (2, .ref (am 0)), (3, .ref o), (4, .int (nI (3 * n)))]) hx hb dL_law_3364 hl (by decide) rfl (fun ls hl => ?_)
  refine lv_aload_n hx hb dL_law_3366 rfl (lv_at hl 3 rfl) ?_
  have hPc := P_head (ws := (wLaw cI cZ cS cL hs1 o fl1 a M am K)) (ws' := (wX9 cI cZ am K)) hP [43, 44, 45, 46, 47, 48, 49, 50, 51] rfl
  have hDc := D_head (ws := (wLaw cI cZ cS cL hs1 o fl1 a M am K)) (ws' := (wX9 cI cZ am K)) hD [43, 44, 45, 46, 47, 48, 49, 50, 51] (by decide) rfl
  have hFc := va_free (wc := (wX9 cI cZ am K)) hD hS hA [43, 44, 45, 46, 47, 48, 49, 50, 51] rfl
  refine va_calli (va_runV (As := []) (rest := []) ⟨hx, hb, hml, hown, hts⟩ (c_X9_heaviest l dC dI cI cZ am H.size K y hf9) (cwV 0 hts gL_law_X9_heaviest rfl rfl rfl (by decide +kernel) ⟨Nat.le_of_ble_eq_true rfl, Nat.le_of_ble_eq_true rfl⟩) ⟨WR.blind, va_recv hK hP (ci := 9) (q0 := 43) rfl rfl, WR.pre hPc hK2 hDc hNW⟩ rfl rfl hl.1 rfl (lv_room (Nat.le_of_ble_eq_true rfl)) dL_law_3367 ⟨by show _ + 0 ≤ 601024; omega, by show _ + 0 ≤ 7293034; omega⟩) hS (fun q _ h => hFc q h) hFc (fun rv u t H1 locs ht hvm hw hB hz1 hk1 hS => ?_)
  obtain ⟨hP1, hD1⟩ := hB
  rw [ht] at hP1
  rw [hw]
  obtain ⟨hP, hD⟩ := join_app (ws := (wLaw cI cZ cS cL hs1 o fl1 a M am K)) (wr := (wL cI cZ cS cL (fS hs1) (fG hs1) o fl1 a M)) (w1 := (wX9 cI cZ am (sr K 0 (y.2 0)))) hP hD [43, 44, 45, 46, 47, 48, 49, 50, 51] [0, 1, 2, 3, 4, 5, 6, 7, 8, 9, 10, 11, 12, 13, 14, 15, 16, 17, 18, 19, 20, 21, 22, 23, 24, 25, 26, 27, 28, 29, 30, 31, 32, 33, 34, 35, 36, 37, 38, 39, 40, 41, 42] rfl rfl (by decide) (by decide) hk1 hFc hP1 hD1
  have hP : va_P (dC, dI) vwCl ((wLaw cI cZ cS cL hs1 o fl1 a M am (sr K 0 (y.2 0))) ++ RW cI cZ hs1) H1 := hP
  have hD : va_D A ((wLaw cI cZ cS cL hs1 o fl1 a M am (sr K 0 (y.2 0))) ++ RW cI cZ hs1) := hD
  generalize H1 = H at hP hS ⊢
  refine lv_istore (lv' := [(6, .int y.1), (5, .int kk), (0, .ref b), (1, .ref (a 0)), (2, .ref (am 0)), (3, .ref o), (4, .int (nI (3 * n)))]) hx hb dL_law_3370 hl (by decide) rfl (fun ls hl => ?_)
  refine lv_aload_n hx hb dL_law_3372 rfl (lv_at hl 4 rfl) ?_
  have hPc := P_head (ws := (wLaw cI cZ cS cL hs1 o fl1 a M am (sr K 0 (y.2 0)))) (ws' := (wX9 cI cZ am (sr K 0 (y.2 0)))) hP [43, 44, 45, 46, 47, 48, 49, 50, 51] rfl
  refine cRO (W.runV (As := []) (rest := []) ⟨hx, hb, hml, hown, hts⟩ (c_X9_thrown l dC dI cI cZ am (sr K 0 (y.2 0)) ((sr K 0 (y.2 0)) 0 0) rfl) (cwV 0 hts gL_law_X9_thrown rfl rfl rfl (by decide +kernel) ⟨Nat.le_of_ble_eq_true rfl, Nat.le_of_ble_eq_true rfl⟩) ⟨RO.blind, va_recv hK hP (ci := 9) (q0 := 43) rfl rfl, RO.pre hPc hK2 hNW⟩ rfl rfl hl.1 rfl (lv_room (Nat.le_of_ble_eq_true rfl)) dL_law_3373 ⟨by show _ + 0 ≤ 601024; omega, by show _ + 0 ≤ 7293034; omega⟩) ?_
  refine lv_iload hx hb dL_law_3376 (lv_at hl 1 rfl) ?_
  refine lv_icmp_eq (tgt := 3383) hx hb dL_law_3378 (by decide) (fun c9 => ?_) (fun c9 => absurd h9k c9)
  refine lv_iload hx hb dL_law_3383 (lv_at hl 1 rfl) ?_
  refine lv_if_ne (tgt := 3400) hx hb dL_law_3385 (by decide) (fun c9 => ?_) (fun c9 => ?_)
  · refine lv_goto (tgt := 3556) hx hb dL_law_3400 (by decide) ?_
    refine W.widen (k := cells + 17) (n := slots + 322) (by omega) (by omega) ?_
    exact kk9 hs1 fl1 _ _ _ H locs hI9 (lv_sub hl [2, 3, 4, 5, 6] rfl) hP hD hS
  obtain ⟨u, hr9⟩ := Ans_z hA9 c9
  have hv9 := hout u hr9
  have hu9 := hval u hr9
  refine lv_aload_n hx hb dL_law_3388 rfl (lv_at hl 5 rfl) ?_
  refine lv_iconst (v := (0 : Int32)) hx hb dL_law_3389 (by decide) ?_
  refine va_lald (D := (dC, dI)) (f := fl1) hx hb hK hP 0 3 rfl rfl (inb_in rfl) dL_law_3390 ?_
  refine lv_iload hx hb dL_law_3391 (lv_at hl 0 rfl) ?_
  refine lv_i2l (v := (y.1).toInt64) hx hb dL_law_3393 rfl ?_
  refine W.lcmp hx hb dL_law_3394 ?_
  refine lv_if_eq (tgt := 3400) hx hb dL_law_3395 (by decide) (fun c7 => ?_) (fun c7 => absurd (lg_eq (hv9.trans (congrArg Int32.toInt64 hu9))) c7)
  refine lv_goto (tgt := 3556) hx hb dL_law_3400 (by decide) ?_
  refine W.widen (k := cells + 17) (n := slots + 322) (by omega) (by omega) ?_
  exact kk9 hs1 fl1 _ _ _ H locs hI9 (lv_sub hl [2, 3, 4, 5, 6] rfl) hP hD hS
set_option maxHeartbeats 4000000 in
set_option maxRecDepth 100000 in
theorem lc_mostFetched {p : Program} {l : Launch} {e : Env} {s : State} {m : MethodId} {below : List Frame} {meth : Method} {c : Code} {b L : Nat} {xs : Nat → Int32} {dC : Nat → ClassId} {dI : Nat → Nat → Nat} {cI cZ cS cL : ClassId} {A : Nat → Prop} {a am : Nat → Nat} {o : Nat} {Q : State → Prop} (X0 : LCx p l s m c b L xs dC dI cI cZ cS cL A) {Inv : Nat → (Nat → Option Mem) → Mem → Mem → Prop} (hSt : St_mostFetched Inv) {n : Nat} (hn : n < 512) (hnL : 3 * n + 2 < L) (hL : L ≤ 1536) {hs : HS} {fl : Nat → Int64} {M K : Mem} (hI : Inv n (cts hs) M K) {ls : Array Slot} {H : Heap} {locs : List Loc} {cells slots : Nat} (hcs : cells + 17 ≤ 601024) (hss : slots + 322 ≤ 7293034) (hl : lv_has ls 9 [(0, .ref b), (1, .ref (a 0)), (2, .ref (am 0)), (3, .ref o), (4, .int (nI (3 * n)))]) (hP : va_P (dC, dI) vwCl (wLaw cI cZ cS cL hs o fl a M am K ++ RW cI cZ hs) H) (hD : va_D A (wLaw cI cZ cS cL hs o fl a M am K ++ RW cI cZ hs)) (hS : va_S A s.heap H locs) (kk9 : ∀ (hs' : HS) (fl' : Nat → Int64) (M' K' : Mem) (ls : Array Slot) (H : Heap) (locs : List Loc), Inv (n + 1) (cts hs') M' K' → lv_has ls 9 [(0, .ref b), (1, .ref (a 0)), (2, .ref (am 0)), (3, .ref o), (4, .int (nI (3 * n)))] → va_P (dC, dI) vwCl (wLaw cI cZ cS cL hs' o fl' a M' am K' ++ RW cI cZ hs') H → va_D A (wLaw cI cZ cS cL hs' o fl' a M' am K' ++ RW cI cZ hs') → va_S A s.heap H locs → W p l e room_1 s m #[Value.ref b] below meth c H locs (cells + 17) (slots + 322) Q (F0 m 3556 ls [])) : W p l e room_1 s m #[Value.ref b] below meth c H locs cells slots Q (F0 m 3403 ls []) := by
  obtain ⟨hx, hb, hml, hown, hts, hK, hNW, hEX, hNC, hA, hXs, hbl, hbA, hst⟩ := X0
  have hK8 : va_K (dC, dI) vwCl (tys8 cI cZ cS) s := hK.sub (tys' := tys8 cI cZ cS) [0, 1, 2] rfl
  have hK2 : va_K (dC, dI) vwCl [(cI, .int), (cZ, .boolean)] s := hK.sub (tys' := [(cI, .int), (cZ, .boolean)]) [0, 1] rfl
  obtain ⟨r, kk, y, hf8, hA9, hf9, h9k, hval, hI9⟩ := hSt n (cts hs) M K  hn hI
  refine lv_aload_n hx hb dL_law_3403 rfl (lv_at hl 1 rfl) ?_
  refine lv_aload_n hx hb dL_law_3404 rfl (lv_at hl 3 rfl) ?_
  have hPc := hP.part (X := (wLaw cI cZ cS cL hs o fl a M am K)) (cx := (wL cI cZ cS cL (fS hs) (fG hs) o fl a M)) [0, 1, 2, 3, 4, 5, 6, 7, 8, 9, 10, 11, 12, 13, 14, 15, 16, 17, 18, 19, 20, 21, 22, 23, 24, 25, 26, 27, 28, 29, 30, 31, 32, 33, 34, 35, 36, 37, 38, 39, 40, 41, 42] rfl
  have hDc := hD.part (X := (wLaw cI cZ cS cL hs o fl a M am K)) (cx := (wL cI cZ cS cL (fS hs) (fG hs) o fl a M)) [0, 1, 2, 3, 4, 5, 6, 7, 8, 9, 10, 11, 12, 13, 14, 15, 16, 17, 18, 19, 20, 21, 22, 23, 24, 25, 26, 27, 28, 29, 30, 31, 32, 33, 34, 35, 36, 37, 38, 39, 40, 41, 42] (by decide) rfl
  have hFc := va_freeP (X := (wLaw cI cZ cS cL hs o fl a M am K)) (cx := (wL cI cZ cS cL (fS hs) (fG hs) o fl a M)) hD hS hA [0, 1, 2, 3, 4, 5, 6, 7, 8, 9, 10, 11, 12, 13, 14, 15, 16, 17, 18, 19, 20, 21, 22, 23, 24, 25, 26, 27, 28, 29, 30, 31, 32, 33, 34, 35, 36, 37, 38, 39, 40, 41, 42] rfl
  refine va_calli (vx_runSW (As := [.ref (a 0), .ref o]) (rest := []) ⟨hx, hb, hml, hown, hts⟩ (w_L_mostFetched l hst dC dI cI cZ cS cL hs o fl a H.size M r kk hf8 hA9) (vx_cwSW 2 hts gL_law_L_mostFetched rfl rfl rfl (by decide +kernel) ⟨Nat.le_of_ble_eq_true rfl, Nat.le_of_ble_eq_true rfl⟩) ⟨T9.blind, T9.pre hPc hK hDc hNW (hEX.at hS hFc) hNC⟩ rfl rfl hl.1 rfl (lv_room (Nat.le_of_ble_eq_true rfl)) dL_law_3405 ⟨by show cells + 1 ≤ 601024; omega, by show slots + 6 ≤ 7293034; omega⟩) hS (fun q _ h => hFc q h) hFc (fun rv u t H1 locs ht hvm hw hB hz1 hk1 hS => ?_)
  obtain ⟨hw1, hw2, hout⟩ := hw
  obtain ⟨hs1, fl1⟩ := u
  have hw2 : hs1 = hs := hw2
  rw [hw1]
  obtain ⟨hP1, hD1⟩ := hB
  rw [ht] at hP1
  obtain ⟨hP, hD⟩ := va_joinP (X := (wLaw cI cZ cS cL hs o fl a M am K)) (cx := (wL cI cZ cS cL (fS hs) (fG hs) o fl a M)) (wr := (wX9 cI cZ am K)) (rx := (wL cI cZ cS cL (fS hs1) (fG hs1) o fl1 a M)) hP hD [0, 1, 2, 3, 4, 5, 6, 7, 8, 9, 10, 11, 12, 13, 14, 15, 16, 17, 18, 19, 20, 21, 22, 23, 24, 25, 26, 27, 28, 29, 30, 31, 32, 33, 34, 35, 36, 37, 38, 39, 40, 41, 42] [43, 44, 45, 46, 47, 48, 49, 50, 51] rfl rfl (by decide) (by decide) hk1 hFc hP1 hD1
  have hP := hP.part (cx := (wLaw cI cZ cS cL hs1 o fl1 a M am K)) [9, 10, 11, 12, 13, 14, 15, 16, 17, 18, 19, 20, 21, 22, 23, 24, 25, 26, 27, 28, 29, 30, 31, 32, 33, 34, 35, 36, 37, 38, 39, 40, 41, 42, 43, 44, 45, 46, 47, 48, 49, 50, 51, 0, 1, 2, 3, 4, 5, 6, 7, 8] rfl
  have hD := hD.part (cx := (wLaw cI cZ cS cL hs1 o fl1 a M am K)) [9, 10, 11, 12, 13, 14, 15, 16, 17, 18, 19, 20, 21, 22, 23, 24, 25, 26, 27, 28, 29, 30, 31, 32, 33, 34, 35, 36, 37, 38, 39, 40, 41, 42, 43, 44, 45, 46, 47, 48, 49, 50, 51, 0, 1, 2, 3, 4, 5, 6, 7, 8] (by decide) rfl
  generalize H1 = H at hP hS ⊢
  rw [← hw2] at hI9
  refine lv_istore (lv' := [(5, .int kk), (0, .ref b), (1, .ref (a 0)), (2, .ref (am 0)), (3, .ref o), (4, .int (nI (3 * n)))]) hx hb dL_law_3408 hl (by decide) rfl (fun ls hl => ?_)
  refine lv_aload_n hx hb dL_law_3410 rfl (lv_at hl 3 rfl) ?_
  have hPc := P_head (ws := (wLaw cI cZ cS cL hs1 o fl1 a M am K)) (ws' := (wX9 cI cZ am K)) hP [43, 44, 45, 46, 47, 48, 49, 50, 51] rfl
  have hDc := D_head (ws := (wLaw cI cZ cS cL hs1 o fl1 a M am K)) (ws' := (wX9 cI cZ am K)) hD [43, 44, 45, 46, 47, 48, 49, 50, 51] (by decide) rfl
  have hFc := va_free (wc := (wX9 cI cZ am K)) hD hS hA [43, 44, 45, 46, 47, 48, 49, 50, 51] rfl
  refine va_calli (va_runV (As := []) (rest := []) ⟨hx, hb, hml, hown, hts⟩ (c_X9_mostFetched l dC dI cI cZ am H.size K y hf9) (cwV 0 hts gL_law_X9_mostFetched rfl rfl rfl (by decide +kernel) ⟨Nat.le_of_ble_eq_true rfl, Nat.le_of_ble_eq_true rfl⟩) ⟨WR.blind, va_recv hK hP (ci := 9) (q0 := 43) rfl rfl, WR.pre hPc hK2 hDc hNW⟩ rfl rfl hl.1 rfl (lv_room (Nat.le_of_ble_eq_true rfl)) dL_law_3411 ⟨by show _ + 0 ≤ 601024; omega, by show _ + 0 ≤ 7293034; omega⟩) hS (fun q _ h => hFc q h) hFc (fun rv u t H1 locs ht hvm hw hB hz1 hk1 hS => ?_)
  obtain ⟨hP1, hD1⟩ := hB
  rw [ht] at hP1
  rw [hw]
  obtain ⟨hP, hD⟩ := join_app (ws := (wLaw cI cZ cS cL hs1 o fl1 a M am K)) (wr := (wL cI cZ cS cL (fS hs1) (fG hs1) o fl1 a M)) (w1 := (wX9 cI cZ am (sr K 0 (y.2 0)))) hP hD [43, 44, 45, 46, 47, 48, 49, 50, 51] [0, 1, 2, 3, 4, 5, 6, 7, 8, 9, 10, 11, 12, 13, 14, 15, 16, 17, 18, 19, 20, 21, 22, 23, 24, 25, 26, 27, 28, 29, 30, 31, 32, 33, 34, 35, 36, 37, 38, 39, 40, 41, 42] rfl rfl (by decide) (by decide) hk1 hFc hP1 hD1
  have hP : va_P (dC, dI) vwCl ((wLaw cI cZ cS cL hs1 o fl1 a M am (sr K 0 (y.2 0))) ++ RW cI cZ hs1) H1 := hP
  have hD : va_D A ((wLaw cI cZ cS cL hs1 o fl1 a M am (sr K 0 (y.2 0))) ++ RW cI cZ hs1) := hD
  generalize H1 = H at hP hS ⊢
  refine lv_istore (lv' := [(6, .int y.1), (5, .int kk), (0, .ref b), (1, .ref (a 0)), (2, .ref (am 0)), (3, .ref o), (4, .int (nI (3 * n)))]) hx hb dL_law_3414 hl (by decide) rfl (fun ls hl => ?_)
  refine lv_aload_n hx hb dL_law_3416 rfl (lv_at hl 4 rfl) ?_
  have hPc := P_head (ws := (wLaw cI cZ cS cL hs1 o fl1 a M am (sr K 0 (y.2 0)))) (ws' := (wX9 cI cZ am (sr K 0 (y.2 0)))) hP [43, 44, 45, 46, 47, 48, 49, 50, 51] rfl
  refine cRO (W.runV (As := []) (rest := []) ⟨hx, hb, hml, hown, hts⟩ (c_X9_thrown l dC dI cI cZ am (sr K 0 (y.2 0)) ((sr K 0 (y.2 0)) 0 0) rfl) (cwV 0 hts gL_law_X9_thrown rfl rfl rfl (by decide +kernel) ⟨Nat.le_of_ble_eq_true rfl, Nat.le_of_ble_eq_true rfl⟩) ⟨RO.blind, va_recv hK hP (ci := 9) (q0 := 43) rfl rfl, RO.pre hPc hK2 hNW⟩ rfl rfl hl.1 rfl (lv_room (Nat.le_of_ble_eq_true rfl)) dL_law_3417 ⟨by show _ + 0 ≤ 601024; omega, by show _ + 0 ≤ 7293034; omega⟩) ?_
  refine lv_iload hx hb dL_law_3420 (lv_at hl 1 rfl) ?_
  refine lv_icmp_eq (tgt := 3427) hx hb dL_law_3422 (by decide) (fun c9 => ?_) (fun c9 => absurd h9k c9)
  refine lv_iload hx hb dL_law_3427 (lv_at hl 1 rfl) ?_
  refine lv_if_ne (tgt := 3444) hx hb dL_law_3429 (by decide) (fun c9 => ?_) (fun c9 => ?_)
  · refine lv_goto (tgt := 3556) hx hb dL_law_3444 (by decide) ?_
    refine W.widen (k := cells + 17) (n := slots + 322) (by omega) (by omega) ?_
    exact kk9 hs1 fl1 _ _ _ H locs hI9 (lv_sub hl [2, 3, 4, 5, 6] rfl) hP hD hS
  obtain ⟨u, hr9⟩ := Ans_z hA9 c9
  have hv9 := hout u hr9
  have hu9 := hval u hr9
  refine lv_aload_n hx hb dL_law_3432 rfl (lv_at hl 5 rfl) ?_
  refine lv_iconst (v := (0 : Int32)) hx hb dL_law_3433 (by decide) ?_
  refine va_lald (D := (dC, dI)) (f := fl1) hx hb hK hP 0 3 rfl rfl (inb_in rfl) dL_law_3434 ?_
  refine lv_iload hx hb dL_law_3435 (lv_at hl 0 rfl) ?_
  refine lv_i2l (v := (y.1).toInt64) hx hb dL_law_3437 rfl ?_
  refine W.lcmp hx hb dL_law_3438 ?_
  refine lv_if_eq (tgt := 3444) hx hb dL_law_3439 (by decide) (fun c7 => ?_) (fun c7 => absurd (lg_eq (hv9.trans (congrArg Int32.toInt64 hu9))) c7)
  refine lv_goto (tgt := 3556) hx hb dL_law_3444 (by decide) ?_
  refine W.widen (k := cells + 17) (n := slots + 322) (by omega) (by omega) ?_
  exact kk9 hs1 fl1 _ _ _ H locs hI9 (lv_sub hl [2, 3, 4, 5, 6] rfl) hP hD hS
set_option maxHeartbeats 4000000 in
set_option maxRecDepth 100000 in
theorem lc_usedWays {p : Program} {l : Launch} {e : Env} {s : State} {m : MethodId} {below : List Frame} {meth : Method} {c : Code} {b L : Nat} {xs : Nat → Int32} {dC : Nat → ClassId} {dI : Nat → Nat → Nat} {cI cZ cS cL : ClassId} {A : Nat → Prop} {a am : Nat → Nat} {o : Nat} {Q : State → Prop} (X0 : LCx p l s m c b L xs dC dI cI cZ cS cL A) {Inv : Nat → (Nat → Option Mem) → Mem → Mem → Prop} (hSt : St_usedWays Inv) {n : Nat} (hn : n < 512) (hnL : 3 * n + 2 < L) (hL : L ≤ 1536) {hs : HS} {fl : Nat → Int64} {M K : Mem} (hI : Inv n (cts hs) M K) {ls : Array Slot} {H : Heap} {locs : List Loc} {cells slots : Nat} (hcs : cells + 17 ≤ 601024) (hss : slots + 322 ≤ 7293034) (hl : lv_has ls 9 [(0, .ref b), (1, .ref (a 0)), (2, .ref (am 0)), (3, .ref o), (4, .int (nI (3 * n)))]) (hP : va_P (dC, dI) vwCl (wLaw cI cZ cS cL hs o fl a M am K ++ RW cI cZ hs) H) (hD : va_D A (wLaw cI cZ cS cL hs o fl a M am K ++ RW cI cZ hs)) (hS : va_S A s.heap H locs) (kk9 : ∀ (hs' : HS) (fl' : Nat → Int64) (M' K' : Mem) (ls : Array Slot) (H : Heap) (locs : List Loc), Inv (n + 1) (cts hs') M' K' → lv_has ls 9 [(0, .ref b), (1, .ref (a 0)), (2, .ref (am 0)), (3, .ref o), (4, .int (nI (3 * n)))] → va_P (dC, dI) vwCl (wLaw cI cZ cS cL hs' o fl' a M' am K' ++ RW cI cZ hs') H → va_D A (wLaw cI cZ cS cL hs' o fl' a M' am K' ++ RW cI cZ hs') → va_S A s.heap H locs → W p l e room_1 s m #[Value.ref b] below meth c H locs (cells + 17) (slots + 322) Q (F0 m 3556 ls [])) : W p l e room_1 s m #[Value.ref b] below meth c H locs cells slots Q (F0 m 3447 ls []) := by
  obtain ⟨hx, hb, hml, hown, hts, hK, hNW, hEX, hNC, hA, hXs, hbl, hbA, hst⟩ := X0
  have hK8 : va_K (dC, dI) vwCl (tys8 cI cZ cS) s := hK.sub (tys' := tys8 cI cZ cS) [0, 1, 2] rfl
  have hK2 : va_K (dC, dI) vwCl [(cI, .int), (cZ, .boolean)] s := hK.sub (tys' := [(cI, .int), (cZ, .boolean)]) [0, 1] rfl
  obtain ⟨z, y, hf8, hf9, hEq, hI9⟩ := hSt n (cts hs) M K hn hI
  refine lv_aload_n hx hb dL_law_3447 rfl (lv_at hl 1 rfl) ?_
  have hPc := P_head (ws := (wLaw cI cZ cS cL hs o fl a M am K)) (ws' := (wX8 cI cZ cS (fS hs) (fG hs) a M)) hP [1, 2, 3, 4, 5, 6, 7, 8, 9, 10, 11, 12, 13, 14, 15, 16, 17, 18, 19, 20, 21, 22, 23, 24, 25, 26, 27, 28, 29, 30, 31, 32, 33, 34, 35, 36, 37, 38, 39, 40, 41, 42] rfl
  refine cRO (W.runV (As := []) (rest := []) ⟨hx, hb, hml, hown, hts⟩ (c_X8_usedWays l dC dI cI cZ cS (fS hs) (fG hs) a M (z) hf8) (cwV 0 hts gL_law_X8_usedWays rfl rfl rfl (by decide +kernel) ⟨Nat.le_of_ble_eq_true rfl, Nat.le_of_ble_eq_true rfl⟩) ⟨RO8.blind, va_recv hK hP (ci := 8) (q0 := 1) rfl rfl, RO8.pre hPc hK8 hNW⟩ rfl rfl hl.1 rfl (lv_room (Nat.le_of_ble_eq_true rfl)) dL_law_3448 ⟨by show cells + 0 ≤ 601024; omega, by show slots + 0 ≤ 7293034; omega⟩) ?_
  refine lv_aload_n hx hb dL_law_3451 rfl (lv_at hl 2 rfl) ?_
  have hPc := P_head (ws := (wLaw cI cZ cS cL hs o fl a M am K)) (ws' := (wX9 cI cZ am K)) hP [43, 44, 45, 46, 47, 48, 49, 50, 51] rfl
  have hDc := D_head (ws := (wLaw cI cZ cS cL hs o fl a M am K)) (ws' := (wX9 cI cZ am K)) hD [43, 44, 45, 46, 47, 48, 49, 50, 51] (by decide) rfl
  have hFc := va_free (wc := (wX9 cI cZ am K)) hD hS hA [43, 44, 45, 46, 47, 48, 49, 50, 51] rfl
  refine va_calli (va_runV (As := []) (rest := [.int z]) ⟨hx, hb, hml, hown, hts⟩ (c_X9_usedWays l dC dI cI cZ am H.size K y hf9) (cwV 0 hts gL_law_X9_usedWays rfl rfl rfl (by decide +kernel) ⟨Nat.le_of_ble_eq_true rfl, Nat.le_of_ble_eq_true rfl⟩) ⟨WR.blind, va_recv hK hP (ci := 9) (q0 := 43) rfl rfl, WR.pre hPc hK2 hDc hNW⟩ rfl rfl hl.1 rfl (lv_room (Nat.le_of_ble_eq_true rfl)) dL_law_3452 ⟨by show _ + 0 ≤ 601024; omega, by show _ + 0 ≤ 7293034; omega⟩) hS (fun q _ h => hFc q h) hFc (fun rv u t H1 locs ht hvm hw hB hz1 hk1 hS => ?_)
  obtain ⟨hP1, hD1⟩ := hB
  rw [ht] at hP1
  rw [hw]
  obtain ⟨hP, hD⟩ := join_app (ws := (wLaw cI cZ cS cL hs o fl a M am K)) (wr := (wL cI cZ cS cL (fS hs) (fG hs) o fl a M)) (w1 := (wX9 cI cZ am (sr K 0 (y.2 0)))) hP hD [43, 44, 45, 46, 47, 48, 49, 50, 51] [0, 1, 2, 3, 4, 5, 6, 7, 8, 9, 10, 11, 12, 13, 14, 15, 16, 17, 18, 19, 20, 21, 22, 23, 24, 25, 26, 27, 28, 29, 30, 31, 32, 33, 34, 35, 36, 37, 38, 39, 40, 41, 42] rfl rfl (by decide) (by decide) hk1 hFc hP1 hD1
  have hP : va_P (dC, dI) vwCl ((wLaw cI cZ cS cL hs o fl a M am (sr K 0 (y.2 0))) ++ RW cI cZ hs) H1 := hP
  have hD : va_D A ((wLaw cI cZ cS cL hs o fl a M am (sr K 0 (y.2 0))) ++ RW cI cZ hs) := hD
  generalize H1 = H at hP hS ⊢
  refine lv_icmp_eq (tgt := 3556) hx hb dL_law_3455 (by decide) (fun c9 => ?_) (fun c9 => absurd hEq c9)
  refine W.widen (k := cells + 17) (n := slots + 322) (by omega) (by omega) ?_
  exact kk9 hs fl _ _ _ H locs hI9 (lv_sub hl [0, 1, 2, 3, 4] rfl) hP hD hS
