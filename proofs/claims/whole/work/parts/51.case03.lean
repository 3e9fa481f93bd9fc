set_option maxHeartbeats 4000000 in
set_option maxRecDepth 100000 in
theorem lc_freeBySlots {p : Program} {l : Launch} {e : Env} {s : State} {m : MethodId} {below : List Frame} {meth : Method} {c : Code} {b L : Nat} {xs : Nat → Int32} {dC : Nat → ClassId} {dI : Nat → Nat → Nat} {cI cZ cS cL : ClassId} {A : Nat → Prop} {a am : Nat → Nat} {o : Nat} {Q : State → Prop} (X0 : LCx p l s m c b L xs dC dI cI cZ cS cL A) {Inv : Nat → (Nat → Option Mem) → Mem → Mem → Prop} (hSt : St_freeBySlots Inv) {n : Nat} (hn : n < 512) (hnL : 3 * n + 2 < L) (hL : L ≤ 1536) {hs : HS} {fl : Nat → Int64} {M K : Mem} (hI : Inv n (cts hs) M K) {ls : Array Slot} {H : Heap} {locs : List Loc} {cells slots : Nat} (hcs : cells + 17 ≤ 601024) (hss : slots + 322 ≤ 7293034) (hl : lv_has ls 9 [(0, .ref b), (1, .ref (a 0)), (2, .ref (am 0)), (3, .ref o), (4, .int (nI (3 * n)))]) (hP : va_P (dC, dI) vwCl (wLaw cI cZ cS cL hs o fl a M am K ++ RW cI cZ hs) H) (hD : va_D A (wLaw cI cZ cS cL hs o fl a M am K ++ RW cI cZ hs)) (hS : va_S A s.heap H locs) (kk9 : ∀ (hs' : HS) (fl' : Nat → Int64) (M' K' : Mem) (ls : Array Slot) (H : Heap) (locs : List Loc), Inv (n + 1) (cts hs') M' K' → lv_has ls 9 [(0, .ref b), (1, .ref (a 0)), (2, .ref (am 0)), (3, .ref o), (4, .int (nI (3 * n)))] → va_P (dC, dI) vwCl (wLaw cI cZ cS cL hs' o fl' a M' am K' ++ RW cI cZ hs') H → va_D A (wLaw cI cZ cS cL hs' o fl' a M' am K' ++ RW cI cZ hs') → va_S A s.heap H locs → W p l e room_1 s m #[Value.ref b] below meth c H locs (cells + 17) (slots + 322) Q (F0 m 3556 ls [])) : W p l e room_1 s m #[Value.ref b] below meth c H locs cells slots Q (F0 m 1951 ls []) := by
  obtain ⟨hx, hb, hml, hown, hts, hK, hNW, hEX, hNC, hA, hXs, hbl, hbA, hst⟩ := X0
  have hK8 : va_K (dC, dI) vwCl (tys8 cI cZ cS) s := hK.sub (tys' := tys8 cI cZ cS) [0, 1, 2] rfl
  have hK2 : va_K (dC, dI) vwCl [(cI, .int), (cZ, .boolean)] s := hK.sub (tys' := [(cI, .int), (cZ, .boolean)]) [0, 1] rfl
  obtain ⟨z, y, hf8, hf9, hEq, hI9⟩ := hSt n (cts hs) M K hn hI
  refine lv_aload_n hx hb dL_law_1951 rfl (lv_at hl 1 rfl) ?_
  have hPc := P_head (ws := (wLaw cI cZ cS cL hs o fl a M am K)) (ws' := (wX8 cI cZ cS (fS hs) (fG hs) a M)) hP [1, 2, 3, 4, 5, 6, 7, 8, 9, 10, 11, 12, 13, 14, 15, 16, 17, 18, 19, 20, 21, 22, 23, 24, 25, 26, 27, 28, 29, 30, 31, 32, 33, 34, 35, 36, 37, 38, 39, 40, 41, 42] rfl
  refine cRO (W.runV (As := []) (rest := []) ⟨hx, hb, hml, hown, hts⟩ (c_X8_freeBySlots l dC dI cI cZ cS (fS hs) (fG hs) a M (z) hf8) (cwV 0 hts gL_law_X8_freeBySlots rfl rfl rfl (by decide +kernel) ⟨Nat.le_of_ble_eq_true rfl, Nat.le_of_ble_eq_true rfl⟩) ⟨RO8.blind, va_recv hK hP (ci := 8) (q0 := 1) rfl rfl, RO8.pre hPc hK8 hNW⟩ rfl rfl hl.1 rfl (lv_room (Nat.le_of_ble_eq_true rfl)) dL_law_1952 ⟨by show cells + 0 ≤ 601024; omega, by show slots + 0 ≤ 7293034; omega⟩) ?_
  refine lv_aload_n hx hb dL_law_1955 rfl (lv_at hl 2 rfl) ?_
  have hPc := P_head (ws := (wLaw cI cZ cS cL hs o fl a M am K)) (ws' := (wX9 cI cZ am K)) hP [43, 44, 45, 46, 47, 48, 49, 50, 51] rfl
  have hDc := D_head (ws := (wLaw cI cZ cS cL hs o fl a M am K)) (ws' := (wX9 cI cZ am K)) hD [43, 44, 45, 46, 47, 48, 49, 50, 51] (by decide) rfl
  have hFc := va_free (wc := (wX9 cI cZ am K)) hD hS hA [43, 44, 45, 46, 47, 48, 49, 50, 51] rfl
  refine va_calli (va_runV (As := []) (rest := [.int z]) ⟨hx, hb, hml, hown, hts⟩ (c_X9_freeBySlots l dC dI cI cZ am H.size K y hf9) (cwV 0 hts gL_law_X9_freeBySlots rfl rfl rfl (by decide +kernel) ⟨Nat.le_of_ble_eq_true rfl, Nat.le_of_ble_eq_true rfl⟩) ⟨WR.blind, va_recv hK hP (ci := 9) (q0 := 43) rfl rfl, WR.pre hPc hK2 hDc hNW⟩ rfl rfl hl.1 rfl (lv_room (Nat.le_of_ble_eq_true rfl)) dL_law_1956 ⟨by show _ + 0 ≤ 601024; omega, by show _ + 0 ≤ 7293034; omega⟩) hS (fun q _ h => hFc q h) hFc (fun rv u t H1 locs ht hvm hw hB hz1 hk1 hS => ?_)
  obtain ⟨hP1, hD1⟩ := hB
  rw [ht] at hP1
  rw [hw]
  obtain ⟨hP, hD⟩ := join_app (ws := (wLaw cI cZ cS cL hs o fl a M am K)) (wr := (wL cI cZ cS cL (fS hs) (fG hs) o fl a M)) (w1 := (wX9 cI cZ am (sr K 0 (y.2 0)))) hP hD [43, 44, 45, 46, 47, 48, 49, 50, 51] [0, 1, 2, 3, 4, 5, 6, 7, 8, 9, 10, 11, 12, 13, 14, 15, 16, 17, 18, 19, 20, 21, 22, 23, 24, 25, 26, 27, 28, 29, 30, 31, 32, 33, 34, 35, 36, 37, 38, 39, 40, 41, 42] rfl rfl (by decide) (by decide) hk1 hFc hP1 hD1
  have hP : va_P (dC, dI) vwCl ((wLaw cI cZ cS cL hs o fl a M am (sr K 0 (y.2 0))) ++ RW cI cZ hs) H1 := hP
  have hD : va_D A ((wLaw cI cZ cS cL hs o fl a M am (sr K 0 (y.2 0))) ++ RW cI cZ hs) := hD
  generalize H1 = H at hP hS ⊢
  refine lv_icmp_eq (tgt := 3556) hx hb dL_law_1959 (by decide) (fun c9 => ?_) (fun c9 => absurd hEq c9)
  refine W.widen (k := cells + 17) (n := slots + 322) (by omega) (by omega) ?_
  exact kk9 hs fl _ _ _ H locs hI9 (lv_sub hl [0, 1, 2, 3, 4] rfl) hP hD hS
set_option maxHeartbeats 4000000 in
set_option maxRecDepth 100000 in
theorem lc_freeByHeights {p : Program} {l : Launch} {e : Env} {s : State} {m : MethodId} {below : List Frame} {meth : Method} {c : Code} {b L : Nat} {xs : Nat → Int32} {dC : Nat → ClassId} {dI : Nat → Nat → Nat} {cI cZ cS cL : ClassId} {A : Nat → Prop} {a am : Nat → Nat} {o : Nat} {Q : State → Prop} (X0 : LCx p l s m c b L xs dC dI cI cZ cS cL A) {Inv : Nat → (Nat → Option Mem) → Mem → Mem → Prop} (hSt : St_freeByHeights Inv) {n : Nat} (hn : n < 512) (hnL : 3 * n + 2 < L) (hL : L ≤ 1536) {hs : HS} {fl : Nat → Int64} {M K : Mem} (hI : Inv n (cts hs) M K) {ls : Array Slot} {H : Heap} {locs : List Loc} {cells slots : Nat} (hcs : cells + 17 ≤ 601024) (hss : slots + 322 ≤ 7293034) (hl : lv_has ls 9 [(0, .ref b), (1, .ref (a 0)), (2, .ref (am 0)), (3, .ref o), (4, .int (nI (3 * n)))]) (hP : va_P (dC, dI) vwCl (wLaw cI cZ cS cL hs o fl a M am K ++ RW cI cZ hs) H) (hD : va_D A (wLaw cI cZ cS cL hs o fl a M am K ++ RW cI cZ hs)) (hS : va_S A s.heap H locs) (kk9 : ∀ (hs' : HS) (fl' : Nat → Int64) (M' K' : Mem) (ls : Array Slot) (H : Heap) (locs : List Loc), Inv (n + 1) (cts hs') M' K' → lv_has ls 9 [(0, .ref b), (1, .ref (a 0)), (2, .ref (am 0)), (3, .ref o), (4, .int (nI (3 * n)))] → va_P (dC, dI) vwCl (wLaw cI cZ cS cL hs' o fl' a M' am K' ++ RW cI cZ hs') H → va_D A (wLaw cI cZ cS cL hs' o fl' a M' am K' ++ RW cI cZ hs') → va_S A s.heap H locs → W p l e room_1 s m #[Value.ref b] below meth c H locs (cells + 17) (slots + 322) Q (F0 m 3556 ls [])) : W p l e room_1 s m #[Value.ref b] below meth c H locs cells slots Q (F0 m 1964 ls []) := by
  obtain ⟨hx, hb, hml, hown, hts, hK, hNW, hEX, hNC, hA, hXs, hbl, hbA, hst⟩ := X0
  have hK8 : va_K (dC, dI) vwCl (tys8 cI cZ cS) s := hK.sub (tys' := tys8 cI cZ cS) [0, 1, 2] rfl
  have hK2 : va_K (dC, dI) vwCl [(cI, .int), (cZ, .boolean)] s := hK.sub (tys' := [(cI, .int), (cZ, .boolean)]) [0, 1] rfl
  obtain ⟨z, y, hf8, hf9, hEq, hI9⟩ := hSt n (cts hs) M K hn hI
  refine lv_aload_n hx hb dL_law_1964 rfl (lv_at hl 1 rfl) ?_
  have hPc := P_head (ws := (wLaw cI cZ cS cL hs o fl a M am K)) (ws' := (wX8 cI cZ cS (fS hs) (fG hs) a M)) hP [1, 2, 3, 4, 5, 6, 7, 8, 9, 10, 11, 12, 13, 14, 15, 16, 17, 18, 19, 20, 21, 22, 23, 24, 25, 26, 27, 28, 29, 30, 31, 32, 33, 34, 35, 36, 37, 38, 39, 40, 41, 42] rfl
  refine cRO (W.runV (As := []) (rest := []) ⟨hx, hb, hml, hown, hts⟩ (c_X8_freeByHeights l dC dI cI cZ cS (fS hs) (fG hs) a M (z) hf8) (cwV 0 hts gL_law_X8_freeByHeights rfl rfl rfl (by decide +kernel) ⟨Nat.le_of_ble_eq_true rfl, Nat.le_of_ble_eq_true rfl⟩) ⟨RO8.blind, va_recv hK hP (ci := 8) (q0 := 1) rfl rfl, RO8.pre hPc hK8 hNW⟩ rfl rfl hl.1 rfl (lv_room (Nat.le_of_ble_eq_true rfl)) dL_law_1965 ⟨by show cells + 0 ≤ 601024; omega, by show slots + 0 ≤ 7293034; omega⟩) ?_
  refine lv_aload_n hx hb dL_law_1968 rfl (lv_at hl 2 rfl) ?_
  have hPc := P_head (ws := (wLaw cI cZ cS cL hs o fl a M am K)) (ws' := (wX9 cI cZ am K)) hP [43, 44, 45, 46, 47, 48, 49, 50, 51] rfl
  have hDc := D_head (ws := (wLaw cI cZ cS cL hs o fl a M am K)) (ws' := (wX9 cI cZ am K)) hD [43, 44, 45, 46, 47, 48, 49, 50, 51] (by decide) rfl
  have hFc := va_free (wc := (wX9 cI cZ am K)) hD hS hA [43, 44, 45, 46, 47, 48, 49, 50, 51] rfl
  refine va_calli (va_runV (As := []) (rest := [.int z]) ⟨hx, hb, hml, hown, hts⟩ (c_X9_freeByHeights l dC dI cI cZ am H.size K y hf9) (cwV 0 hts gL_law_X9_freeByHeights rfl rfl rfl (by decide +kernel) ⟨Nat.le_of_ble_eq_true rfl, Nat.le_of_ble_eq_true rfl⟩) ⟨WR.blind, va_recv hK hP (ci := 9) (q0 := 43) rfl rfl, WR.pre hPc hK2 hDc hNW⟩ rfl rfl hl.1 rfl (lv_room (Nat.le_of_ble_eq_true rfl)) dL_law_1969 ⟨by show _ + 0 ≤ 601024; omega, by show _ + 0 ≤ 7293034; omega⟩) hS (fun q _ h => hFc q h) hFc (fun rv u t H1 locs ht hvm hw hB hz1 hk1 hS => ?_)
  obtain ⟨hP1, hD1⟩ := hB
  rw [ht] at hP1
  rw [hw]
  obtain ⟨hP, hD⟩ := join_app (ws := (wLaw cI cZ cS cL hs o fl a M am K)) (wr := (wL cI cZ cS cL (fS hs) (fG hs) o fl a M)) (w1 := (wX9 cI cZ am (sr K 0 (y.2 0)))) hP hD [43, 44, 45, 46, 47, 48, 49, 50, 51] [0, 1, 2, 3, 4, 5, 6, 7, 8, 9, 10, 11, 12, 13, 14, 15, 16, 17, 18, 19, 20, 21, 22, 23, 24, 25, 26, 27, 28, 29, 30, 31, 32, 33, 34, 35, 36, 37, 38, 39, 40, 41, 42] rfl rfl (by decide) (by decide) hk1 hFc hP1 hD1
  have hP : va_P (dC, dI) vwCl ((wLaw cI cZ cS cL hs o fl a M am (sr K 0 (y.2 0))) ++ RW cI cZ hs) H1 := hP
  have hD : va_D A ((wLaw cI cZ cS cL hs o fl a M am (sr K 0 (y.2 0))) ++ RW cI cZ hs) := hD
  generalize H1 = H at hP hS ⊢
  refine lv_icmp_eq (tgt := 3556) hx hb dL_law_1972 (by decide) (fun c9 => ?_) (fun c9 => absurd hEq c9)
  refine W.widen (k := cells + 17) (n := slots + 322) (by omega) (by omega) ?_
  exact kk9 hs fl _ _ _ H locs hI9 (lv_sub hl [0, 1, 2, 3, 4] rfl) hP hD hS
set_option maxHeartbeats 4000000 in
set_option maxRecDepth 100000 in
theorem lc_firstPlace {p : Program} {l : Launch} {e : Env} {s : State} {m : MethodId} {below : List Frame} {meth : Method} {c : Code} {b L : Nat} {xs : Nat → Int32} {dC : Nat → ClassId} {dI : Nat → Nat → Nat} {cI cZ cS cL : ClassId} {A : Nat → Prop} {a am : Nat → Nat} {o : Nat} {Q : State → Prop} (X0 : LCx p l s m c b L xs dC dI cI cZ cS cL A) {Inv : Nat → (Nat → Option Mem) → Mem → Mem → Prop} (hSt : St_firstPlace Inv) {n : Nat} (hn : n < 512) (hnL : 3 * n + 2 < L) (hL : L ≤ 1536) {hs : HS} {fl : Nat → Int64} {M K : Mem} (hI : Inv n (cts hs) M K) {ls : Array Slot} {H : Heap} {locs : List Loc} {cells slots : Nat} (hcs : cells + 17 ≤ 601024) (hss : slots + 322 ≤ 7293034) (hl : lv_has ls 9 [(0, .ref b), (1, .ref (a 0)), (2, .ref (am 0)), (3, .ref o), (4, .int (nI (3 * n)))]) (hP : va_P (dC, dI) vwCl (wLaw cI cZ cS cL hs o fl a M am K ++ RW cI cZ hs) H) (hD : va_D A (wLaw cI cZ cS cL hs o fl a M am K ++ RW cI cZ hs)) (hS : va_S A s.heap H locs) (kk9 : ∀ (hs' : HS) (fl' : Nat → Int64) (M' K' : Mem) (ls : Array Slot) (H : Heap) (locs : List Loc), Inv (n + 1) (cts hs') M' K' → lv_has ls 9 [(0, .ref b), (1, .ref (a 0)), (2, .ref (am 0)), (3, .ref o), (4, .int (nI (3 * n)))] → va_P (dC, dI) vwCl (wLaw cI cZ cS cL hs' o fl' a M' am K' ++ RW cI cZ hs') H → va_D A (wLaw cI cZ cS cL hs' o fl' a M' am K' ++ RW cI cZ hs') → va_S A s.heap H locs → W p l e room_1 s m #[Value.ref b] below meth c H locs (cells + 17) (slots + 322) Q (F0 m 3556 ls [])) : W p l e room_1 s m #[Value.ref b] below meth c H locs cells slots Q (F0 m 1977 ls []) := by
  obtain ⟨hx, hb, hml, hown, hts, hK, hNW, hEX, hNC, hA, hXs, hbl, hbA, hst⟩ := X0
  have hK8 : va_K (dC, dI) vwCl (tys8 cI cZ cS) s := hK.sub (tys' := tys8 cI cZ cS) [0, 1, 2] rfl
  have hK2 : va_K (dC, dI) vwCl [(cI, .int), (cZ, .boolean)] s := hK.sub (tys' := [(cI, .int), (cZ, .boolean)]) [0, 1] rfl
  obtain ⟨r, kk, y, hf8, hA9, hf9, h9k, hval, hI9⟩ := hSt n (cts hs) M K (xs (3 * n + 1)) hn hI
  refine lv_aload_n hx hb dL_law_1977 rfl (lv_at hl 1 rfl) ?_
  refine lv_aload_n hx hb dL_law_1978 rfl (lv_at hl 0 rfl) ?_
  refine lv_iload hx hb dL_law_1979 (lv_at hl 4 rfl) ?_
  refine lv_iconst (v := (1 : Int32)) hx hb dL_law_1981 (by decide) ?_
  refine lv_iadd hx hb dL_law_1982 ?_
  rw [show nI (3 * n) + (1 : Int32) = nI (3 * n + 1) from nI_add (3 * n) 1]
  refine va_sld hx hb hXs hbl hbA hS (vp_in_nI (by omega) (by omega)) dL_law_1983 ?_
  rw [nI_clamp (show 3 * n + 1 < 2 ^ 31 by omega)]
  refine lv_aload_n hx hb dL_law_1984 rfl (lv_at hl 3 rfl) ?_
  have hPc := hP.part (X := (wLaw cI cZ cS cL hs o fl a M am K)) (cx := (wL cI cZ cS cL (fS hs) (fG hs) o fl a M)) [0, 1, 2, 3, 4, 5, 6, 7, 8, 9, 10, 11, 12, 13, 14, 15, 16, 17, 18, 19, 20, 21, 22, 23, 24, 25, 26, 27, 28, 29, 30, 31, 32, 33, 34, 35, 36, 37, 38, 39, 40, 41, 42] rfl
  have hDc := hD.part (X := (wLaw cI cZ cS cL hs o fl a M am K)) (cx := (wL cI cZ cS cL (fS hs) (fG hs) o fl a M)) [0, 1, 2, 3, 4, 5, 6, 7, 8, 9, 10, 11, 12, 13, 14, 15, 16, 17, 18, 19, 20, 21, 22, 23, 24, 25, 26, 27, 28, 29, 30, 31, 32, 33, 34, 35, 36, 37, 38, 39, 40, 41, 42] (by decide) rfl
  have hFc := va_freeP (X := (wLaw cI cZ cS cL hs o fl a M am K)) (cx := (wL cI cZ cS cL (fS hs) (fG hs) o fl a M)) hD hS hA [0, 1, 2, 3, 4, 5, 6, 7, 8, 9, 10, 11, 12, 13, 14, 15, 16, 17, 18, 19, 20, 21, 22, 23, 24, 25, 26, 27, 28, 29, 30, 31, 32, 33, 34, 35, 36, 37, 38, 39, 40, 41, 42] rfl
  refine va_calli (vx_runSW (As := [.ref (a 0), .int ((xs (3 * n + 1))), .ref o]) (rest := []) ⟨hx, hb, hml, hown, hts⟩ (w_L_firstPlace l hst dC dI cI cZ cS cL hs o fl a H.size M ((xs (3 * n + 1))) r kk hf8 hA9) (vx_cwSW 3 hts gL_law_L_firstPlace rfl rfl rfl (by decide +kernel) ⟨Nat.le_of_ble_eq_true rfl, Nat.le_of_ble_eq_true rfl⟩) ⟨T9.blind, T9.pre hPc hK hDc hNW (hEX.at hS hFc) hNC⟩ rfl rfl hl.1 rfl (lv_room (Nat.le_of_ble_eq_true rfl)) dL_law_1985 ⟨by show cells + 1 ≤ 601024; omega, by show slots + 6 ≤ 7293034; omega⟩) hS (fun q _ h => hFc q h) hFc (fun rv u t H1 locs ht hvm hw hB hz1 hk1 hS => ?_)
  obtain ⟨hw1, hw2, hout⟩ := hw
  obtain ⟨hs1, fl1⟩ := u
  have hw2 : hs1 = hs := hw2
  rw [hw1]
  obtain ⟨hP1, hD1⟩ := hB
  rw [ht] at hP1
  obtain ⟨hP, hD⟩ := va_joinP (X := (wLaw cI cZ cS cL hs o fl a M am K)) (cx := (wL cI cZ cS cL (fS hs) (fG hs) o fl a M)) (wr := (wX9 cI cZ am K)) (rx := (wL cI cZ cS cL (fS hs1) (fG hs1) o fl1 a M)) hP hD [0, 1, 2, 3, 4, 5, 6, 7, 8, 9, 10, 11, 12, 13, 14, 15, 16, 17, 18, 19, 20, 21, 22, 23, 24, 25, 26, 27, 28, 29, 30, 31, 32, 33, 34, 35, 36, 37, 38, 39, 40, 41, 42] [43, 44, 45, 46, 47, 48, 49, 50, 51] rfl rfl (by decide) (by decide) hk1 hFc hP1 hD1
  have hP := hP.part (cx := (wLaw cI cZ cS cL hs1 o fl1 a M am K)) [9, 10, 11, 12, 13, 14, 15, 16, 17, 18, 19, 20, 21, 22, 23, 24, 25, 26, 27, 28, 29, 30, 31, 32, 33, 34, 35, 36, 37, 38, 39, 40, 41, 42, 43, 44, 45, 46, 47, 48, 49, 50, 51, 0, 1, 2, 3, 4, 5, 6, 7, 8] rfl
  have hD := hD.part (cx := (wLaw cI cZ cS cL hs1 o fl1 a M am K)) [9, 10, 11, 12, 13, 14, 15, 16, 17, 18, 19, 20, 21, 22, 23, 24, 25, 26, 27, 28, 29, 30, 31, 32, 33, 34, 35, 36, 37, 38, 39, 40, 41, 42, 43, 44, 45, 46, 47, 48, 49, 50, 51, 0, 1, 2, 3, 4, 5, 6, 7, 8] (by decide) rfl
  generalize H1 = H at hP hS ⊢
  rw [← hw2] at hI9
  refine lv_istore (lv' := [(5, .int kk), (0, .ref b), (1, .ref (a 0)), (2, .ref (am 0)), (3, .ref o), (4, .int (nI (3 * n)))]) hx hb dL_law_1988 hl (by decide) rfl (fun ls hl => ?_)
  refine lv_aload_n hx hb dL_law_1990 rfl (lv_at hl 3 rfl) ?_
  refine lv_aload_n hx hb dL_law_1991 rfl (lv_at hl 1 rfl) ?_
  refine lv_iload hx hb dL_law_1992 (lv_at hl 5 rfl) ?_
  refine lv_iconst (v := (1 : Int32)) hx hb dL_law_1994 (by decide) ?_
  refine lv_iadd hx hb dL_law_1995 ?_
  rw [show nI (3 * n) + (1 : Int32) = nI (3 * n + 1) from nI_add (3 * n) 1]
  refine va_sld hx hb hXs hbl hbA hS (vp_in_nI (by omega) (by omega)) dL_law_1996 ?_
  rw [nI_clamp (show 3 * n + 1 < 2 ^ 31 by omega)]
  have hPc := P_head (ws := (wLaw cI cZ cS cL hs1 o fl1 a M am K)) (ws' := (wX9 cI cZ am K)) hP [43, 44, 45, 46, 47, 48, 49, 50, 51] rfl
  have hDc := D_head (ws := (wLaw cI cZ cS cL hs1 o fl1 a M am K)) (ws' := (wX9 cI cZ am K)) hD [43, 44, 45, 46, 47, 48, 49, 50, 51] (by decide) rfl
  have hFc := va_free (wc := (wX9 cI cZ am K)) hD hS hA [43, 44, 45, 46, 47, 48, 49, 50, 51] rfl
  refine va_calli (va_runV (As := [.int ((xs (3 * n + 1)))]) (rest := []) ⟨hx, hb, hml, hown, hts⟩ (c_X9_firstPlace l dC dI cI cZ am H.size K ((xs (3 * n + 1))) y hf9) (cwV 1 hts gL_law_X9_firstPlace rfl rfl rfl (by decide +kernel) ⟨Nat.le_of_ble_eq_true rfl, Nat.le_of_ble_eq_true rfl⟩) ⟨WR.blind, va_recv hK hP (ci := 9) (q0 := 43) rfl rfl, WR.pre hPc hK2 hDc hNW⟩ rfl rfl hl.1 rfl (lv_room (Nat.le_of_ble_eq_true rfl)) dL_law_1997 ⟨by show _ + 0 ≤ 601024; omega, by show _ + 0 ≤ 7293034; omega⟩) hS (fun q _ h => hFc q h) hFc (fun rv u t H1 locs ht hvm hw hB hz1 hk1 hS => ?_)
  obtain ⟨hP1, hD1⟩ := hB
  rw [ht] at hP1
  rw [hw]
  obtain ⟨hP, hD⟩ := join_app (ws := (wLaw cI cZ cS cL hs1 o fl1 a M am K)) (wr := (wL cI cZ cS cL (fS hs1) (fG hs1) o fl1 a M)) (w1 := (wX9 cI cZ am (sr K 0 (y.2 0)))) hP hD [43, 44, 45, 46, 47, 48, 49, 50, 51] [0, 1, 2, 3, 4, 5, 6, 7, 8, 9, 10, 11, 12, 13, 14, 15, 16, 17, 18, 19, 20, 21, 22, 23, 24, 25, 26, 27, 28, 29, 30, 31, 32, 33, 34, 35, 36, 37, 38, 39, 40, 41, 42] rfl rfl (by decide) (by decide) hk1 hFc hP1 hD1
  have hP : va_P (dC, dI) vwCl ((wLaw cI cZ cS cL hs1 o fl1 a M am (sr K 0 (y.2 0))) ++ RW cI cZ hs1) H1 := hP
  have hD : va_D A ((wLaw cI cZ cS cL hs1 o fl1 a M am (sr K 0 (y.2 0))) ++ RW cI cZ hs1) := hD
  generalize H1 = H at hP hS ⊢
  refine lv_istore (lv' := [(6, .int y.1), (5, .int kk), (0, .ref b), (1, .ref (a 0)), (2, .ref (am 0)), (3, .ref o), (4, .int (nI (3 * n)))]) hx hb dL_law_2000 hl (by decide) rfl (fun ls hl => ?_)
  refine lv_aload_n hx hb dL_law_2002 rfl (lv_at hl 4 rfl) ?_
  have hPc := P_head (ws := (wLaw cI cZ cS cL hs1 o fl1 a M am (sr K 0 (y.2 0)))) (ws' := (wX9 cI cZ am (sr K 0 (y.2 0)))) hP [43, 44, 45, 46, 47, 48, 49, 50, 51] rfl
  refine cRO (W.runV (As := []) (rest := []) ⟨hx, hb, hml, hown, hts⟩ (c_X9_thrown l dC dI cI cZ am (sr K 0 (y.2 0)) ((sr K 0 (y.2 0)) 0 0) rfl) (cwV 0 hts gL_law_X9_thrown rfl rfl rfl (by decide +kernel) ⟨Nat.le_of_ble_eq_true rfl, Nat.le_of_ble_eq_true rfl⟩) ⟨RO.blind, va_recv hK hP (ci := 9) (q0 := 43) rfl rfl, RO.pre hPc hK2 hNW⟩ rfl rfl hl.1 rfl (lv_room (Nat.le_of_ble_eq_true rfl)) dL_law_2003 ⟨by show _ + 0 ≤ 601024; omega, by show _ + 0 ≤ 7293034; omega⟩) ?_
  refine lv_iload hx hb dL_law_2006 (lv_at hl 1 rfl) ?_
  refine lv_icmp_eq (tgt := 2013) hx hb dL_law_2008 (by decide) (fun c9 => ?_) (fun c9 => absurd h9k c9)
  refine lv_iload hx hb dL_law_2013 (lv_at hl 1 rfl) ?_
  refine lv_if_ne (tgt := 2030) hx hb dL_law_2015 (by decide) (fun c9 => ?_) (fun c9 => ?_)
  · refine lv_goto (tgt := 3556) hx hb dL_law_2030 (by decide) ?_
    refine W.widen (k := cells + 17) (n := slots + 322) (by omega) (by omega) ?_
    exact kk9 hs1 fl1 _ _ _ H locs hI9 (lv_sub hl [2, 3, 4, 5, 6] rfl) hP hD hS
  obtain ⟨u, hr9⟩ := Ans_z hA9 c9
  have hv9 := hout u hr9
  have hu9 := hval u hr9
  refine lv_aload_n hx hb dL_law_2018 rfl (lv_at hl 5 rfl) ?_
  refine lv_iconst (v := (0 : Int32)) hx hb dL_law_2019 (by decide) ?_
  refine va_lald (D := (dC, dI)) (f := fl1) hx hb hK hP 0 3 rfl rfl (inb_in rfl) dL_law_2020 ?_
  refine lv_iload hx hb dL_law_2021 (lv_at hl 0 rfl) ?_
  refine lv_i2l (v := (y.1).toInt64) hx hb dL_law_2023 rfl ?_
  refine W.lcmp hx hb dL_law_2024 ?_
  refine lv_if_eq (tgt := 2030) hx hb dL_law_2025 (by decide) (fun c7 => ?_) (fun c7 => absurd (lg_eq (hv9.trans (congrArg Int32.toInt64 hu9))) c7)
  refine lv_goto (tgt := 3556) hx hb dL_law_2030 (by decide) ?_
  refine W.widen (k := cells + 17) (n := slots + 322) (by omega) (by omega) ?_
  exact kk9 hs1 fl1 _ _ _ H locs hI9 (lv_sub hl [2, 3, 4, 5, 6] rfl) hP hD hS
set_option maxHeartbeats 4000000 in
set_option maxRecDepth 100000 in
theorem lc_longestGap {p : Program} {l : Launch} {e : Env} {s : State} {m : MethodId} {below : List Frame} {meth : Method} {c : Code} {b L : Nat} {xs : Nat → Int32} {dC : Nat → ClassId} {dI : Nat → Nat → Nat} {cI cZ cS cL : ClassId} {A : Nat → Prop} {a am : Nat → Nat} {o : Nat} {Q : State → Prop} (X0 : LCx p l s m c b L xs dC dI cI cZ cS cL A) {Inv : Nat → (Nat → Option Mem) → Mem → Mem → Prop} (hSt : St_longestGap Inv) {n : Nat} (hn : n < 512) (hnL : 3 * n + 2 < L) (hL : L ≤ 1536) {hs : HS} {fl : Nat → Int64} {M K : Mem} (hI : Inv n (cts hs) M K) {ls : Array Slot} {H : Heap} {locs : List Loc} {cells slots : Nat} (hcs : cells + 17 ≤ 601024) (hss : slots + 322 ≤ 7293034) (hl : lv_has ls 9 [(0, .ref b), (1, .ref (a 0)), (2, .ref (am 0)), (3, .ref o), (4, .int (nI (3 * n)))]) (hP : va_P (dC, dI) vwCl (wLaw cI cZ cS cL hs o fl a M am K ++ RW cI cZ hs) H) (hD : va_D A (wLaw cI cZ cS cL hs o fl a M am K ++ RW cI cZ hs)) (hS : va_S A s.heap H locs) (kk9 : ∀ (hs' : HS) (fl' : Nat → Int64) (M' K' : Mem) (ls : Array Slot) (H : Heap) (locs : List Loc), Inv (n + 1) (cts hs') M' K' → lv_has ls 9 [(0, .ref b), (1, .ref (a 0)), (2, .ref (am 0)), (3, .ref o), (4, .int (nI (3 * n)))] → va_P (dC, dI) vwCl (wLaw cI cZ cS cL hs' o fl' a M' am K' ++ RW cI cZ hs') H → va_D A (wLaw cI cZ cS cL hs' o fl' a M' am K' ++ RW cI cZ hs') → va_S A s.heap H locs → W p l e room_1 s m #[Value.ref b] below meth c H locs (cells + 17) (slots + 322) Q (F0 m 3556 ls [])) : W p l e room_1 s m #[Value.ref b] below meth c H locs cells slots Q (F0 m 2033 ls []) := by
  obtain ⟨hx, hb, hml, hown, hts, hK, hNW, hEX, hNC, hA, hXs, hbl, hbA, hst⟩ := X0
  have hK8 : va_K (dC, dI) vwCl (tys8 cI cZ cS) s := hK.sub (tys' := tys8 cI cZ cS) [0, 1, 2] rfl
  have hK2 : va_K (dC, dI) vwCl [(cI, .int), (cZ, .boolean)] s := hK.sub (tys' := [(cI, .int), (cZ, .boolean)]) [0, 1] rfl
  obtain ⟨r, kk, y, hf8, hA9, hf9, h9k, hval, hI9⟩ := hSt n (cts hs) M K (xs (3 * n + 1)) hn hI
  refine lv_aload_n hx hb dL_law_2033 rfl (lv_at hl 1 rfl) ?_
  refine lv_aload_n hx hb dL_law_2034 rfl (lv_at hl 0 rfl) ?_
  refine lv_iload hx hb dL_law_2035 (lv_at hl 4 rfl) ?_
  refine lv_iconst (v := (1 : Int32)) hx hb dL_law_2037 (by decide) ?_
  refine lv_iadd hx hb dL_law_2038 ?_
  rw [show nI (3 * n) + (1 : Int32) = nI (3 * n + 1) from nI_add (3 * n) 1]
  refine va_sld hx hb hXs hbl hbA hS (vp_in_nI (by omega) (by omega)) dL_law_2039 ?_
  rw [nI_clamp (show 3 * n + 1 < 2 ^ 31 by omega)]
  refine lv_aload_n hx hb dL_law_2040 rfl (lv_at hl 3 rfl) ?_
  have hPc := hP.part (X := (wLaw cI cZ cS cL hs o fl a M am K)) (cx := (wL cI cZ cS cL (fS hs) (fG hs) o fl a M)) [0, 1, 2, 3, 4, 5, 6, 7, 8, 9, 10, 11, 12, 13, 14, 15, 16, 17, 18, 19, 20, 21, 22, 23, 24, 25, 26, 27, 28, 29, 30, 31, 32, 33, 34, 35, 36, 37, 38, 39, 40, 41, 42] rfl
  have hDc := hD.part (X := (wLaw cI cZ cS cL hs o fl a M am K)) (cx := (wL cI cZ cS cL (fS hs) (fG hs) o fl a M)) [0, 1, 2, 3, 4, 5, 6, 7, 8, 9, 10, 11, 12, 13, 14, 15, 16, 17, 18, 19, 20, 21, 22, 23, 24, 25, 26, 27, 28, 29, 30, 31, 32, 33, 34, 35, 36, 37, 38, 39, 40, 41, 42] (by decide) rfl
  have hFc := va_freeP (X := (wLaw cI cZ cS cL hs o fl a M am K)) (cx := (wL cI cZ cS cL (fS hs) (fG hs) o fl a M)) hD hS hA [0, 1, 2, 3, 4, 5, 6, 7, 8, 9, 10, 11, 12, 13, 14, 15, 16, 17, 18, 19, 20, 21, 22, 23, 24, 25, 26, 27, 28, 29, 30, 31, 32, 33, 34, 35, 36, 37, 38, 39, 40, 41, 42] rfl
  refine va_calli (vx_runSW (As := [.ref (a 0), .int ((xs (3 * n + 1))), .ref o]) (rest := []) ⟨hx, hb, hml, hown, hts⟩ (w_L_longestGap l hst dC dI cI cZ cS cL hs o fl a H.size M ((xs (3 * n + 1))) r kk hf8 hA9) (vx_cwSW 3 hts gL_law_L_longestGap rfl rfl rfl (by decide +kernel) ⟨Nat.le_of_ble_eq_true rfl, Nat.le_of_ble_eq_true rfl⟩) ⟨T9.blind, T9.pre hPc hK hDc hNW (hEX.at hS hFc) hNC⟩ rfl rfl hl.1 rfl (lv_room (Nat.le_of_ble_eq_true rfl)) dL_law_2041 ⟨by show cells + 1 ≤ 601024; omega, by show slots + 6 ≤ 7293034; omega⟩) hS (fun q _ h => hFc q h) hFc (fun rv u t H1 locs ht hvm hw hB hz1 hk1 hS => ?_)
  obtain ⟨hw1, hw2, hout⟩ := hw
  obtain ⟨hs1, fl1⟩ := u
  have hw2 : hs1 = hs := hw2
  rw [hw1]
  obtain ⟨hP1, hD1⟩ := hB
  rw [ht] at hP1
  obtain ⟨hP, hD⟩ := va_joinP (X := (wLaw cI cZ cS cL hs o fl a M am K)) (cx := (wL cI cZ cS cL (fS hs) (fG hs) o fl a M)) (wr := (wX9 cI cZ am K)) (rx := (wL cI cZ cS cL (fS hs1) (fG hs1) o fl1 a M)) hP hD [0, 1, 2, 3, 4, 5, 6, 7, 8, 9, 10, 11, 12, 13, 14, 15, 16, 17, 18, 19, 20, 21, 22, 23, 24, 25, 26, 27, 28, 29, 30, 31, 32, 33, 34, 35, 36, 37, 38, 39, 40, 41, 42] [43, 44, 45, 46, 47, 48, 49, 50, 51] rfl rfl (by decide) (by decide) hk1 hFc hP1 hD1
  have hP := hP.part (cx := (wLaw cI cZ cS cL hs1 o fl1 a M am K)) [9, 10, 11, 12, 13, 14, 15, 16, 17, 18, 19, 20, 21, 22, 23, 24, 25, 26, 27, 28, 29, 30, 31, 32, 33, 34, 35, 36, 37, 38, 39, 40, 41, 42, 43, 44, 45, 46, 47, 48, 49, 50, 51, 0, 1, 2, 3, 4, 5, 6, 7, 8] rfl
  have hD := hD.part (cx := (wLaw cI cZ cS cL hs1 o fl1 a M am K)) [9, 10, 11, 12, 13, 14, 15, 16, 17, 18, 19, 20, 21, 22, 23, 24, 25, 26, 27, 28, 29, 30, 31, 32, 33, 34, 35, 36, 37, 38, 39, 40, 41, 42, 43, 44, 45, 46, 47, 48, 49, 50, 51, 0, 1, 2, 3, 4, 5, 6, 7, 8] (by decide) rfl
  generalize H1 = H at hP hS ⊢
  rw [← hw2] at hI9
  refine lv_istore (lv' := [(5, .int kk), (0, .ref b), (1, .ref (a 0)), (2, .ref (am 0)), (3, .ref o), (4, .int (nI (3 * n)))]) hx hb dL_law_2044 hl (by decide) rfl (fun ls hl => ?_)
  refine lv_aload_n hx hb dL_law_2046 rfl (lv_at hl 3 rfl) ?_
  refine lv_aload_n hx hb dL_law_2047 rfl (lv_at hl 1 rfl) ?_
  refine lv_iload hx hb dL_law_2048 (lv_at hl 5 rfl) ?_
  refine lv_iconst (v := (1 : Int32)) hx hb dL_law_2050 (by decide) ?_
  refine lv_iadd hx hb dL_law_2051 ?_
  rw [show nI (3 * n) + (1 : Int32) = nI (3 * n + 1) from nI_add (3 * n) 1]
  refine va_sld hx hb hXs hbl hbA hS (vp_in_nI (by omega) (by omega)) dL_law_2052 ?_
  rw [nI_clamp (show 3 * n + 1 < 2 ^ 31 by omega)]
  have hPc := P_head (ws := (wLaw cI cZ cS cL hs1 o fl1 a M am K)) (ws' := (wX9 cI cZ am K)) hP [43, 44, 45, 46, 47, 48, 49, 50, 51] rfl
  have hDc := D_head (ws := (wLaw cI cZ cS cL hs1 o fl1 a M am K)) (ws' := (wX9 cI cZ am K)) hD [43, 44, 45, 46, 47, 48, 49, 50, 51] (by decide) rfl
  have hFc := va_free (wc := (wX9 cI cZ am K)) hD hS hA [43, 44, 45, 46, 47, 48, 49, 50, 51] rfl
  refine va_calli (va_runV (As := [.int ((xs (3 * n + 1)))]) (rest := []) ⟨hx, hb, hml, hown, hts⟩ (c_X9_longestGap l dC dI cI cZ am H.size K ((xs (3 * n + 1))) y hf9) (cwV 1 hts gL_law_X9_longestGap rfl rfl rfl (by decide +kernel) ⟨Nat.le_of_ble_eq_true rfl, Nat.le_of_ble_eq_true rfl⟩) ⟨WR.blind, va_recv hK hP (ci := 9) (q0 := 43) rfl rfl, WR.pre hPc hK2 hDc hNW⟩ rfl rfl hl.1 rfl (lv_room (Nat.le_of_ble_eq_true rfl)) dL_law_2053 ⟨by show _ + 0 ≤ 601024; omega, by show _ + 0 ≤ 7293034; omega⟩) hS (fun q _ h => hFc q h) hFc (fun rv u t H1 locs ht hvm hw hB hz1 hk1 hS => ?_)
  obtain ⟨hP1, hD1⟩ := hB
  rw [ht] at hP1
  rw [hw]
  obtain ⟨hP, hD⟩ := join_app (ws := (wLaw cI cZ cS cL hs1 o fl1 a M am K)) (wr := (wL cI cZ cS cL (fS hs1) (fG hs1) o fl1 a M)) (w1 := (wX9 cI cZ am (sr K 0 (y.2 0)))) hP hD [43, 44, 45, 46, 47, 48, 49, 50, 51] [0, 1, 2, 3, 4, 5, 6, 7, 8, 9, 10, 11, 12, 13, 14, 15, 16, 17, 18, 19, 20, 21, 22, 23, 24, 25, 26, 27, 28, 29, 30, 31, 32, 33, 34, 35, 36, 37, 38, 39, 40, 41, 42] rfl rfl (by decide) (by decide) hk1 hFc hP1 hD1
  have hP : va_P (dC, dI) vwCl ((wLaw cI cZ cS cL hs1 o fl1 a M am (sr K 0 (y.2 0))) ++ RW cI cZ hs1) H1 := hP
  have hD : va_D A ((wLaw cI cZ cS cL hs1 o fl1 a M am (sr K 0 (y.2 0))) ++ RW cI cZ hs1) := hD
  generalize H1 = H at hP hS ⊢
  refine lv_istore (lv' := [(6, .int y.1), (5, .int kk), (0, .ref b), (1, .ref (a 0)), (2, .ref (am 0)), (3, .ref o), (4, .int (nI (3 * n)))]) hx hb dL_law_2056 hl (by decide) rfl (fun ls hl => ?_)
  refine lv_aload_n hx hb dL_law_2058 rfl (lv_at hl 4 rfl) ?_
  have hPc := P_head (ws := (wLaw cI cZ cS cL hs1 o fl1 a M am (sr K 0 (y.2 0)))) (ws' := (wX9 cI cZ am (sr K 0 (y.2 0)))) hP [43, 44, 45, 46, 47, 48, 49, 50, 51] rfl
  refine cRO (W.runV (As := []) (rest := []) ⟨hx, hb, hml, hown, hts⟩ (c_X9_thrown l dC dI cI cZ am (sr K 0 (y.2 0)) ((sr K 0 (y.2 0)) 0 0) rfl) (cwV 0 hts gL_law_X9_thrown rfl rfl rfl (by decide +kernel) ⟨Nat.le_of_ble_eq_true rfl, Nat.le_of_ble_eq_true rfl⟩) ⟨RO.blind, va_recv hK hP (ci := 9) (q0 := 43) rfl rfl, RO.pre hPc hK2 hNW⟩ rfl rfl hl.1 rfl (lv_room (Nat.le_of_ble_eq_true rfl)) dL_law_2059 ⟨by show _ + 0 ≤ 601024; omega, by show _ + 0 ≤ 7293034; omega⟩) ?_
  refine lv_iload hx hb dL_law_2062 (lv_at hl 1 rfl) ?_
  refine lv_icmp_eq (tgt := 2069) hx hb dL_law_2064 (by decide) (fun c9 => ?_) (fun c9 => absurd h9k c9)
  refine lv_iload hx hb dL_law_2069 (lv_at hl 1 rfl) ?_
  refine lv_if_ne (tgt := 2086) hx hb dL_law_2071 (by decide) (fun c9 => ?_) (fun c9 => ?_)
  · refine lv_goto (tgt := 3556) hx hb dL_law_2086 (by decide) ?_
    refine W.widen (k := cells + 17) (n := slots + 322) (by omega) (by omega) ?_
    exact kk9 hs1 fl1 _ _ _ H locs hI9 (lv_sub hl [2, 3, 4, 5, 6] rfl) hP hD hS
  obtain ⟨u, hr9⟩ := Ans_z hA9 c9
  have hv9 := hout u hr9
  have hu9 := hval u hr9
  refine lv_aload_n hx hb dL_law_2074 rfl (lv_at hl 5 rfl) ?_
  refine lv_iconst (v := (0 : Int32)) hx hb dL_law_2075 (by decide) ?_
  refine va_lald (D := (dC, dI)) (f := fl1) hx hb hK hP 0 3 rfl rfl (inb_in rfl) dL_law_2076 ?_
  refine lv_iload hx hb dL_law_2077 (lv_at hl 0 rfl) ?_
  refine lv_i2l (v := (y.1).toInt64) hx hb dL_law_2079 rfl ?_
  refine W.lcmp hx hb dL_law_2080 ?_
  refine lv_if_eq (tgt := 2086) hx hb dL_law_2081 (by decide) (fun c7 => ?_) (fun c7 => absurd (lg_eq (hv9.trans (congrArg Int32.toInt64 hu9))) c7)
  refine lv_goto (tgt := 3556) hx hb dL_law_2086 (by decide) ?_
  refine W.widen (k := cells + 17) (n := slots + 322) (by omega) (by omega) ?_
  exact kk9 hs1 fl1 _ _ _ H locs hI9 (lv_sub hl [2, 3, 4, 5, 6] rfl) hP hD hS
set_option maxHeartbeats 4000000 in
set_option maxRecDepth 100000 in
theorem lc_lift {p : Program} {l : Launch} {e : Env} {s : State} {m : MethodId} {below : List Frame} {meth : Method} {c : Code} {b L : Nat} {xs : Nat → Int32} {dC : Nat → ClassId} {dI : Nat → Nat → Nat} {cI cZ cS cL : ClassId} {A : Nat → Prop} {a am : Nat → Nat} {o : Nat} {Q : State → Prop} (X0 : LCx p l s m c b L xs dC dI cI cZ cS cL A) {Inv : Nat → (Nat → Option Mem) → Mem → Mem → Prop} (hSt : St_lift Inv) {n : Nat} (hn : n < 512) (hnL : 3 * n + 2 < L) (hL : L ≤ 1536) {hs : HS} {fl : Nat → Int64} {M K : Mem} (hI : Inv n (cts hs) M K) {ls : Array Slot} {H : Heap} {locs : List Loc} {cells slots : Nat} (hcs : cells + 17 ≤ 601024) (hss : slots + 322 ≤ 7293034) (hl : lv_has ls 9 [(0, .ref b), (1, .ref (a 0)), (2, .ref (am 0)), (3, .ref o), (4, .int (nI (3 * n)))]) (hP : va_P (dC, dI) vwCl (wLaw cI cZ cS cL hs o fl a M am K ++ RW cI cZ hs) H) (hD : va_D A (wLaw cI cZ cS cL hs o fl a M am K ++ RW cI cZ hs)) (hS : va_S A s.heap H locs) (kk9 : ∀ (hs' : HS) (fl' : Nat → Int64) (M' K' : Mem) (ls : Array Slot) (H : Heap) (locs : List Loc), Inv (n + 1) (cts hs') M' K' → lv_has ls 9 [(0, .ref b), (1, .ref (a 0)), (2, .ref (am 0)), (3, .ref o), (4, .int (nI (3 * n)))] → va_P (dC, dI) vwCl (wLaw cI cZ cS cL hs' o fl' a M' am K' ++ RW cI cZ hs') H → va_D A (wLaw cI cZ cS cL hs' o fl' a M' am K' ++ RW cI cZ hs') → va_S A s.heap H locs → W p l e room_1 s m #[Value.ref b] below meth c H locs (cells + 17) (slots + 322) Q (F0 m 3556 ls [])) : W p l e room_1 s m #[Value.ref b] below meth c H locs cells slots Q (F0 m 2089 ls []) := by
  obtain ⟨hx, hb, hml, hown, hts, hK, hNW, hEX, hNC, hA, hXs, hbl, hbA, hst⟩ := X0
  have hK8 : va_K (dC, dI) vwCl (tys8 cI cZ cS) s := hK.sub (tys' := tys8 cI cZ cS) [0, 1, 2] rfl
  have hK2 : va_K (dC, dI) vwCl [(cI, .int), (cZ, .boolean)] s := hK.sub (tys' := [(cI, .int), (cZ, .boolean)]) [0, 1] rfl
  obtain ⟨z, y, hf8, hf9, hEq, hI9⟩ := hSt n (cts hs) M K hn hI
  refine lv_aload_n hx hb dL_law_2089 rfl (lv_at hl 1 rfl) ?_
  have hPc := P_head (ws := (wLaw cI cZ cS cL hs o fl a M am K)) (ws' := (wX8 cI cZ cS (fS hs) (fG hs) a M)) hP [1, 2, 3, 4, 5, 6, 7, 8, 9, 10, 11, 12, 13, 14, 15, 16, 17, 18, 19, 20, 21, 22, 23, 24, 25, 26, 27, 28, 29, 30, 31, 32, 33, 34, 35, 36, 37, 38, 39, 40, 41, 42] rfl
  refine cRO (W.runV (As := []) (rest := []) ⟨hx, hb, hml, hown, hts⟩ (c_X8_lift l dC dI cI cZ cS (fS hs) (fG hs) a M (z) hf8) (cwV 0 hts gL_law_X8_lift rfl rfl rfl (by decide +kernel) ⟨Nat.le_of_ble_eq_true rfl, Nat.le_of_ble_eq_true rfl⟩) ⟨RO8.blind, va_recv hK hP (ci := 8) (q0 := 1) rfl rfl, RO8.pre hPc hK8 hNW⟩ rfl rfl hl.1 rfl (lv_room (Nat.le_of_ble_eq_true rfl)) dL_law_2090 ⟨by show cells + 0 ≤ 601024; omega, by show slots + 0 ≤ 7293034; omega⟩) ?_
  refine lv_aload_n hx hb dL_law_2093 rfl (lv_at hl 2 rfl) ?_
  have hPc := P_head (ws := (wLaw cI cZ cS cL hs o fl a M am K)) (ws' := (wX9 cI cZ am K)) hP [43, 44, 45, 46, 47, 48, 49, 50, 51] rfl
  have hDc := D_head (ws := (wLaw cI cZ cS cL hs o fl a M am K)) (ws' := (wX9 cI cZ am K)) hD [43, 44, 45, 46, 47, 48, 49, 50, 51] (by decide) rfl
  have hFc := va_free (wc := (wX9 cI cZ am K)) hD hS hA [43, 44, 45, 46, 47, 48, 49, 50, 51] rfl
  refine va_calli (va_runV (As := []) (rest := [.int z]) ⟨hx, hb, hml, hown, hts⟩ (c_X9_lift l dC dI cI cZ am H.size K y hf9) (cwV 0 hts gL_law_X9_lift rfl rfl rfl (by decide +kernel) ⟨Nat.le_of_ble_eq_true rfl, Nat.le_of_ble_eq_true rfl⟩) ⟨WR.blind, va_recv hK hP (ci := 9) (q0 := 43) rfl rfl, WR.pre hPc hK2 hDc hNW⟩ rfl rfl hl.1 rfl (lv_room (Nat.le_of_ble_eq_true rfl)) dL_law_2094 ⟨by show _ + 0 ≤ 601024; omega, by show _ + 0 ≤ 7293034; omega⟩) hS (fun q _ h => hFc q h) hFc (fun rv u t H1 locs ht hvm hw hB hz1 hk1 hS => ?_)
  obtain ⟨hP1, hD1⟩ := hB
  rw [ht] at hP1
  rw [hw]
  obtain ⟨hP, hD⟩ := join_app (ws := (wLaw cI cZ cS cL hs o fl a M am K)) (wr := (wL cI cZ cS cL (fS hs) (fG hs) o fl a M)) (w1 := (wX9 cI cZ am (sr K 0 (y.2 0)))) hP hD [43, 44, 45, 46, 47, 48, 49, 50, 51] [0, 1, 2, 3, 4, 5, 6, 7, 8, 9, 10, 11, 12, 13, 14, 15, 16, 17, 18, 19, 20, 21, 22, 23, 24, 25, 26, 27, 28, 29, 30, 31, 32, 33, 34, 35, 36, 37, 38, 39, 40, 41, 42] rfl rfl (by decide) (by decide) hk1 hFc hP1 hD1
  have hP : va_P (dC, dI) vwCl ((wLaw cI cZ cS cL hs o fl a M am (sr K 0 (y.2 0))) ++ RW cI cZ hs) H1 := hP
  have hD : va_D A ((wLaw cI cZ cS cL hs o fl a M am (sr K 0 (y.2 0))) ++ RW cI cZ hs) := hD
  generalize H1 = H at hP hS ⊢
  refine lv_icmp_eq (tgt := 3556) hx hb dL_law_2097 (by decide) (fun c9 => ?_) (fun c9 => absurd hEq c9)
  refine W.widen (k := cells + 17) (n := slots + 322) (by omega) (by omega) ?_
  exact kk9 hs fl _ _ _ H locs hI9 (lv_sub hl [0, 1, 2, 3, 4] rfl) hP hD hS
set_option maxHeartbeats 4000000 in
set_option maxRecDepth 100000 in
theorem lc_isKeptPlace {p : Program} {l : Launch} {e : Env} {s : State} {m : MethodId} {below : List Frame} {meth : Method} {c : Code} {b L : Nat} {xs : Nat → Int32} {dC : Nat → ClassId} {dI : Nat → Nat → Nat} {cI cZ cS cL : ClassId} {A : Nat → Prop} {a am : Nat → Nat} {o : Nat} {Q : State → Prop} (X0 : LCx p l s m c b L xs dC dI cI cZ cS cL A) {Inv : Nat → (Nat → Option Mem) → Mem → Mem → Prop} (hSt : St_isKeptPlace Inv) {n : Nat} (hn : n < 512) (hnL : 3 * n + 2 < L) (hL : L ≤ 1536) {hs : HS} {fl : Nat → Int64} {M K : Mem} (hI : Inv n (cts hs) M K) {ls : Array Slot} {H : Heap} {locs : List Loc} {cells slots : Nat} (hcs : cells + 17 ≤ 601024) (hss : slots + 322 ≤ 7293034) (hl : lv_has ls 9 [(0, .ref b), (1, .ref (a 0)), (2, .ref (am 0)), (3, .ref o), (4, .int (nI (3 * n)))]) (hP : va_P (dC, dI) vwCl (wLaw cI cZ cS cL hs o fl a M am K ++ RW cI cZ hs) H) (hD : va_D A (wLaw cI cZ cS cL hs o fl a M am K ++ RW cI cZ hs)) (hS : va_S A s.heap H locs) (kk9 : ∀ (hs' : HS) (fl' : Nat → Int64) (M' K' : Mem) (ls : Array Slot) (H : Heap) (locs : List Loc), Inv (n + 1) (cts hs') M' K' → lv_has ls 9 [(0, .ref b), (1, .ref (a 0)), (2, .ref (am 0)), (3, .ref o), (4, .int (nI (3 * n)))] → va_P (dC, dI) vwCl (wLaw cI cZ cS cL hs' o fl' a M' am K' ++ RW cI cZ hs') H → va_D A (wLaw cI cZ cS cL hs' o fl' a M' am K' ++ RW cI cZ hs') → va_S A s.heap H locs → W p l e room_1 s m #[Value.ref b] below meth c H locs (cells + 17) (slots + 322) Q (F0 m 3556 ls [])) : W p l e room_1 s m #[Value.ref b] below meth c H locs cells slots Q (F0 m 2102 ls []) := by
  obtain ⟨hx, hb, hml, hown, hts, hK, hNW, hEX, hNC, hA, hXs, hbl, hbA, hst⟩ := X0
  have hK8 : va_K (dC, dI) vwCl (tys8 cI cZ cS) s := hK.sub (tys' := tys8 cI cZ cS) [0, 1, 2] rfl
  have hK2 : va_K (dC, dI) vwCl [(cI, .int), (cZ, .boolean)] s := hK.sub (tys' := [(cI, .int), (cZ, .boolean)]) [0, 1] rfl
  obtain ⟨z, y, hf8, hf9, hEq, hI9⟩ := hSt n (cts hs) M K hn hI
  refine lv_aload_n hx hb dL_law_2102 rfl (lv_at hl 1 rfl) ?_
  have hPc := P_head (ws := (wLaw cI cZ cS cL hs o fl a M am K)) (ws' := (wX8 cI cZ cS (fS hs) (fG hs) a M)) hP [1, 2, 3, 4, 5, 6, 7, 8, 9, 10, 11, 12, 13, 14, 15, 16, 17, 18, 19, 20, 21, 22, 23, 24, 25, 26, 27, 28, 29, 30, 31, 32, 33, 34, 35, 36, 37, 38, 39, 40, 41, 42] rfl
  refine cRO (W.runV (As := []) (rest := []) ⟨hx, hb, hml, hown, hts⟩ (c_X8_isKeptPlace l dC dI cI cZ cS (fS hs) (fG hs) a M (z) hf8) (cwV 0 hts gL_law_X8_isKeptPlace rfl rfl rfl (by decide +kernel) ⟨Nat.le_of_ble_eq_true rfl, Nat.le_of_ble_eq_true rfl⟩) ⟨RO8.blind, va_recv hK hP (ci := 8) (q0 := 1) rfl rfl, RO8.pre hPc hK8 hNW⟩ rfl rfl hl.1 rfl (lv_room (Nat.le_of_ble_eq_true rfl)) dL_law_2103 ⟨by show cells + 0 ≤ 601024; omega, by show slots + 0 ≤ 7293034; omega⟩) ?_
  refine lv_aload_n hx hb dL_law_2106 rfl (lv_at hl 2 rfl) ?_
  have hPc := P_head (ws := (wLaw cI cZ cS cL hs o fl a M am K)) (ws' := (wX9 cI cZ am K)) hP [43, 44, 45, 46, 47, 48, 49, 50, 51] rfl
  have hDc := D_head (ws := (wLaw cI cZ cS cL hs o fl a M am K)) (ws' := (wX9 cI cZ am K)) hD [43, 44, 45, 46, 47, 48, 49, 50, 51] (by decide) rfl
  have hFc := va_free (wc := (wX9 cI cZ am K)) hD hS hA [43, 44, 45, 46, 47, 48, 49, 50, 51] rfl
  refine va_calli (va_runV (As := []) (rest := [.int z]) ⟨hx, hb, hml, hown, hts⟩ (c_X9_isKeptPlace l dC dI cI cZ am H.size K y hf9) (cwV 0 hts gL_law_X9_isKeptPlace rfl rfl rfl (by decide +kernel) ⟨Nat.le_of_ble_eq_true rfl, Nat.le_of_ble_eq_true rfl⟩) ⟨WR.blind, va_recv hK hP (ci := 9) (q0 := 43) rfl rfl, WR.pre hPc hK2 hDc hNW⟩ rfl rfl hl.1 rfl (lv_room (Nat.le_of_ble_eq_true rfl)) dL_law_2107 ⟨by show _ + 0 ≤ 601024; omega, by show _ + 0 ≤ 7293034; omega⟩) hS (fun q _ h => hFc q h) hFc (fun rv u t H1 locs ht hvm hw hB hz1 hk1 hS => ?_)
  obtain ⟨hP1, hD1⟩ := hB
  rw [ht] at hP1
  rw [hw]
  obtain ⟨hP, hD⟩ := join_app (ws := (wLaw cI cZ cS cL hs o fl a M am K)) (wr := (wL cI cZ cS cL (fS hs) (fG hs) o fl a M)) (w1 := (wX9 cI cZ am (sr K 0 (y.2 0)))) hP hD [43, 44, 45, 46, 47, 48, 49, 50, 51] [0, 1, 2, 3, 4, 5, 6, 7, 8, 9, 10, 11, 12, 13, 14, 15, 16, 17, 18, 19, 20, 21, 22, 23, 24, 25, 26, 27, 28, 29, 30, 31, 32, 33, 34, 35, 36, 37, 38, 39, 40, 41, 42] rfl rfl (by decide) (by decide) hk1 hFc hP1 hD1
  have hP : va_P (dC, dI) vwCl ((wLaw cI cZ cS cL hs o fl a M am (sr K 0 (y.2 0))) ++ RW cI cZ hs) H1 := hP
  have hD : va_D A ((wLaw cI cZ cS cL hs o fl a M am (sr K 0 (y.2 0))) ++ RW cI cZ hs) := hD
  generalize H1 = H at hP hS ⊢
  refine lv_icmp_eq (tgt := 3556) hx hb dL_law_2110 (by decide) (fun c9 => ?_) (fun c9 => absurd hEq c9)
  refine W.widen (k := cells + 17) (n := slots + 322) (by omega) (by omega) ?_
  exact kk9 hs fl _ _ _ H locs hI9 (lv_sub hl [0, 1, 2, 3, 4] rfl) hP hD hS
set_option maxHeartbeats 4000000 in
set_option maxRecDepth 100000 in
theorem lc_wouldPack {p : Program} {l : Launch} {e : Env} {s : State} {m : MethodId} {below : List Frame} {meth : Method} {c : Code} {b L : Nat} {xs : Nat → Int32} {dC : Nat → ClassId} {dI : Nat → Nat → Nat} {cI cZ cS cL : ClassId} {A : Nat → Prop} {a am : Nat → Nat} {o : Nat} {Q : State → Prop} (X0 : LCx p l s m c b L xs dC dI cI cZ cS cL A) {Inv : Nat → (Nat → Option Mem) → Mem → Mem → Prop} (hSt : St_wouldPack Inv) {n : Nat} (hn : n < 512) (hnL : 3 * n + 2 < L) (hL : L ≤ 1536) {hs : HS} {fl : Nat → Int64} {M K : Mem} (hI : Inv n (cts hs) M K) {ls : Array Slot} {H : Heap} {locs : List Loc} {cells slots : Nat} (hcs : cells + 17 ≤ 601024) (hss : slots + 322 ≤ 7293034) (hl : lv_has ls 9 [(0, .ref b), (1, .ref (a 0)), (2, .ref (am 0)), (3, .ref o), (4, .int (nI (3 * n)))]) (hP : va_P (dC, dI) vwCl (wLaw cI cZ cS cL hs o fl a M am K ++ RW cI cZ hs) H) (hD : va_D A (wLaw cI cZ cS cL hs o fl a M am K ++ RW cI cZ hs)) (hS : va_S A s.heap H locs) (kk9 : ∀ (hs' : HS) (fl' : Nat → Int64) (M' K' : Mem) (ls : Array Slot) (H : Heap) (locs : List Loc), Inv (n + 1) (cts hs') M' K' → lv_has ls 9 [(0, .ref b), (1, .ref (a 0)), (2, .ref (am 0)), (3, .ref o), (4, .int (nI (3 * n)))] → va_P (dC, dI) vwCl (wLaw cI cZ cS cL hs' o fl' a M' am K' ++ RW cI cZ hs') H → va_D A (wLaw cI cZ cS cL hs' o fl' a M' am K' ++ RW cI cZ hs') → va_S A s.heap H locs → W p l e room_1 s m #[Value.ref b] below meth c H locs (cells + 17) (slots + 322) Q (F0 m 3556 ls [])) : W p l e room_1 s m #[Value.ref b] below meth c H locs cells slots Q (F0 m 2115 ls []) := by
  obtain ⟨hx, hb, hml, hown, hts, hK, hNW, hEX, hNC, hA, hXs, hbl, hbA, hst⟩ := X0
  have hK8 : va_K (dC, dI) vwCl (tys8 cI cZ cS) s := hK.sub (tys' := tys8 cI cZ cS) [0, 1, 2] rfl
  have hK2 : va_K (dC, dI) vwCl [(cI, .int), (cZ, .boolean)] s := hK.sub (tys' := [(cI, .int), (cZ, .boolean)]) [0, 1] rfl
  obtain ⟨r, kk, z2, y, hf8, hA9, hf9, h9k, hval, hI9⟩ := hSt n (cts hs) M K  hn hI
  refine lv_aload_n hx hb dL_law_2115 rfl (lv_at hl 1 rfl) ?_
  refine lv_aload_n hx hb dL_law_2116 rfl (lv_at hl 3 rfl) ?_
  have hPc := hP.part (X := (wLaw cI cZ cS cL hs o fl a M am K)) (cx := (wL cI cZ cS cL (fS hs) (fG hs) o fl a M)) [0, 1, 2, 3, 4, 5, 6, 7, 8, 9, 10, 11, 12, 13, 14, 15, 16, 17, 18, 19, 20, 21, 22, 23, 24, 25, 26, 27, 28, 29, 30, 31, 32, 33, 34, 35, 36, 37, 38, 39, 40, 41, 42] rfl
  have hDc := hD.part (X := (wLaw cI cZ cS cL hs o fl a M am K)) (cx := (wL cI cZ cS cL (fS hs) (fG hs) o fl a M)) [0, 1, 2, 3, 4, 5, 6, 7, 8, 9, 10, 11, 12, 13, 14, 15, 16, 17, 18, 19, 20, 21, 22, 23, 24, 25, 26, 27, 28, 29, 30, 31, 32, 33, 34, 35, 36, 37, 38, 39, 40, 41, 42] (by decide) rfl
  have hFc := va_freeP (X := (wLaw cI cZ cS cL hs o fl a M am K)) (cx := (wL cI cZ cS cL (fS hs) (fG hs) o fl a M)) hD hS hA [0, 1, 2, 3, 4, 5, 6, 7, 8, 9, 10, 11, 12, 13, 14, 15, 16, 17, 18, 19, 20, 21, 22, 23, 24, 25, 26, 27, 28, 29, 30, 31, 32, 33, 34, 35, 36, 37, 38, 39, 40, 41, 42] rfl
  refine va_calli (vx_runSW (As := [.ref (a 0), .ref o]) (rest := []) ⟨hx, hb, hml, hown, hts⟩ (w_L_wouldPack l hst dC dI cI cZ cS cL hs o fl a H.size M r kk z2 hf8 hA9) (vx_cwSW 2 hts gL_law_L_wouldPack rfl rfl rfl (by decide +kernel) ⟨Nat.le_of_ble_eq_true rfl, Nat.le_of_ble_eq_true rfl⟩) ⟨T9.blind, T9.pre hPc hK hDc hNW (hEX.at hS hFc) hNC⟩ rfl rfl hl.1 rfl (lv_room (Nat.le_of_ble_eq_true rfl)) dL_law_2117 ⟨by show cells + 1 ≤ 601024; omega, by show slots + 6 ≤ 7293034; omega⟩) hS (fun q _ h => hFc q h) hFc (fun rv u t H1 locs ht hvm hw hB hz1 hk1 hS => ?_)
  obtain ⟨hw1, hw2, hout⟩ := hw
  obtain ⟨hs1, fl1⟩ := u
  have hw2 : hs1 = hs := hw2
  rw [hw1]
  obtain ⟨hP1, hD1⟩ := hB
  rw [ht] at hP1
  obtain ⟨hP, hD⟩ := va_joinP (X := (wLaw cI cZ cS cL hs o fl a M am K)) (cx := (wL cI cZ cS cL (fS hs) (fG hs) o fl a M)) (wr := (wX9 cI cZ am K)) (rx := (wL cI cZ cS cL (fS hs1) (fG hs1) o fl1 a (sr M 40 (z2 40)))) hP hD [0, 1, 2, 3, 4, 5, 6, 7, 8, 9, 10, 11, 12, 13, 14, 15, 16, 17, 18, 19, 20, 21, 22, 23, 24, 25, 26, 27, 28, 29, 30, 31, 32, 33, 34, 35, 36, 37, 38, 39, 40, 41, 42] [43, 44, 45, 46, 47, 48, 49, 50, 51] rfl rfl (by decide) (by decide) hk1 hFc hP1 hD1
  have hP := hP.part (cx := (wLaw cI cZ cS cL hs1 o fl1 a (sr M 40 (z2 40)) am K)) [9, 10, 11, 12, 13, 14, 15, 16, 17, 18, 19, 20, 21, 22, 23, 24, 25, 26, 27, 28, 29, 30, 31, 32, 33, 34, 35, 36, 37, 38, 39, 40, 41, 42, 43, 44, 45, 46, 47, 48, 49, 50, 51, 0, 1, 2, 3, 4, 5, 6, 7, 8] rfl
  have hD := hD.part (cx := (wLaw cI cZ cS cL hs1 o fl1 a (sr M 40 (z2 40)) am K)) [9, 10, 11, 12, 13, 14, 15, 16, 17, 18, 19, 20, 21, 22, 23, 24, 25, 26, 27, 28, 29, 30, 31, 32, 33, 34, 35, 36, 37, 38, 39, 40, 41, 42, 43, 44, 45, 46, 47, 48, 49, 50, 51, 0, 1, 2, 3, 4, 5, 6, 7, 8] (by decide) rfl
  generalize H1 = H at hP hS ⊢
  rw [← hw2] at hI9
  refine lv_istore (lv' := [(5, .int kk), (0, .ref b), (1, .ref (a 0)), (2, .ref (am 0)), (3, .ref o), (4, .int (nI (3 * n)))]) hx hb dL_law_2120 hl (by decide) rfl (fun ls hl => ?_)
  refine lv_aload_n hx hb dL_law_2122 rfl (lv_at hl 3 rfl) ?_
  have hPc := P_head (ws := (wLaw cI cZ cS cL hs1 o fl1 a (sr M 40 (z2 40)) am K)) (ws' := (wX9 cI cZ am K)) hP [43, 44, 45, 46, 47, 48, 49, 50, 51] rfl
  have hDc := D_head (ws := (wLaw cI cZ cS cL hs1 o fl1 a (sr M 40 (z2 40)) am K)) (ws' := (wX9 cI cZ am K)) hD [43, 44, 45, 46, 47, 48, 49, 50, 51] (by decide) rfl
  have hFc := va_free (wc := (wX9 cI cZ am K)) hD hS hA [43, 44, 45, 46, 47, 48, 49, 50, 51] rfl
  refine va_calli (va_runV (As := []) (rest := []) ⟨hx, hb, hml, hown, hts⟩ (c_X9_wouldPack l dC dI cI cZ am H.size K y hf9) (cwV 0 hts gL_law_X9_wouldPack rfl rfl rfl (by decide +kernel) ⟨Nat.le_of_ble_eq_true rfl, Nat.le_of_ble_eq_true rfl⟩) ⟨WR.blind, va_recv hK hP (ci := 9) (q0 := 43) rfl rfl, WR.pre hPc hK2 hDc hNW⟩ rfl rfl hl.1 rfl (lv_room (Nat.le_of_ble_eq_true rfl)) dL_law_2123 ⟨by show _ + 0 ≤ 601024; omega, by show _ + 0 ≤ 7293034; omega⟩) hS (fun q _ h => hFc q h) hFc (fun rv u t H1 locs ht hvm hw hB hz1 hk1 hS => ?_)
  obtain ⟨hP1, hD1⟩ := hB
  rw [ht] at hP1
  rw [hw]
  obtain ⟨hP, hD⟩ := join_app (ws := (wLaw cI cZ cS cL hs1 o fl1 a (sr M 40 (z2 40)) am K)) (wr := (wL cI cZ cS cL (fS hs1) (fG hs1) o fl1 a (sr M 40 (z2 40)))) (w1 := (wX9 cI cZ am (sr (sr (sr K 0 (y.2 0)) 1 (y.2 1)) 2 (y.2 2)))) hP hD [43, 44, 45, 46, 47, 48, 49, 50, 51] [0, 1, 2, 3, 4, 5, 6, 7, 8, 9, 10, 11, 12, 13, 14, 15, 16, 17, 18, 19, 20, 21, 22, 23, 24, 25, 26, 27, 28, 29, 30, 31, 32, 33, 34, 35, 36, 37, 38, 39, 40, 41, 42] rfl rfl (by decide) (by decide) hk1 hFc hP1 hD1
  have hP : va_P (dC, dI) vwCl ((wLaw cI cZ cS cL hs1 o fl1 a (sr M 40 (z2 40)) am (sr (sr (sr K 0 (y.2 0)) 1 (y.2 1)) 2 (y.2 2))) ++ RW cI cZ hs1) H1 := hP
  have hD : va_D A ((wLaw cI cZ cS cL hs1 o fl1 a (sr M 40 (z2 40)) am (sr (sr (sr K 0 (y.2 0)) 1 (y.2 1)) 2 (y.2 2))) ++ RW cI cZ hs1) := hD
  generalize H1 = H at hP hS ⊢
  refine lv_istore (lv' := [(6, .int y.1), (5, .int kk), (0, .ref b), (1, .ref (a 0)), (2, .ref (am 0)), (3, .ref o), (4, .int (nI (3 * n)))]) hx hb dL_law_2126 hl (by decide) rfl (fun ls hl => ?_)
  refine lv_aload_n hx hb dL_law_2128 rfl (lv_at hl 4 rfl) ?_
  have hPc := P_head (ws := (wLaw cI cZ cS cL hs1 o fl1 a (sr M 40 (z2 40)) am (sr (sr (sr K 0 (y.2 0)) 1 (y.2 1)) 2 (y.2 2)))) (ws' := (wX9 cI cZ am (sr (sr (sr K 0 (y.2 0)) 1 (y.2 1)) 2 (y.2 2)))) hP [43, 44, 45, 46, 47, 48, 49, 50, 51] rfl
  refine cRO (W.runV (As := []) (rest := []) ⟨hx, hb, hml, hown, hts⟩ (c_X9_thrown l dC dI cI cZ am (sr (sr (sr K 0 (y.2 0)) 1 (y.2 1)) 2 (y.2 2)) ((sr (sr (sr K 0 (y.2 0)) 1 (y.2 1)) 2 (y.2 2)) 0 0) rfl) (cwV 0 hts gL_law_X9_thrown rfl rfl rfl (by decide +kernel) ⟨Nat.le_of_ble_eq_true rfl, Nat.le_of_ble_eq_true rfl⟩) ⟨RO.blind, va_recv hK hP (ci := 9) (q0 := 43) rfl rfl, RO.pre hPc hK2 hNW⟩ rfl rfl hl.1 rfl (lv_room (Nat.le_of_ble_eq_true rfl)) dL_law_2129 ⟨by show _ + 0 ≤ 601024; omega, by show _ + 0 ≤ 7293034; omega⟩) ?_
  refine lv_iload hx hb dL_law_2132 (lv_at hl 1 rfl) ?_
  refine lv_icmp_eq (tgt := 2139) hx hb dL_law_2134 (by decide) (fun c9 => ?_) (fun c9 => absurd h9k c9)
  refine lv_iload hx hb dL_law_2139 (lv_at hl 1 rfl) ?_
  refine lv_if_ne (tgt := 2156) hx hb dL_law_2141 (by decide) (fun c9 => ?_) (fun c9 => ?_)
  · refine lv_goto (tgt := 3556) hx hb dL_law_2156 (by decide) ?_
    refine W.widen (k := cells + 17) (n := slots + 322) (by omega) (by omega) ?_
    exact kk9 hs1 fl1 _ _ _ H locs hI9 (lv_sub hl [2, 3, 4, 5, 6] rfl) hP hD hS
  obtain ⟨u, hr9⟩ := Ans_z hA9 c9
  have hv9 := hout u hr9
  have hu9 := hval u hr9
  refine lv_aload_n hx hb dL_law_2144 rfl (lv_at hl 5 rfl) ?_
  refine lv_iconst (v := (0 : Int32)) hx hb dL_law_2145 (by decide) ?_
  refine va_lald (D := (dC, dI)) (f := fl1) hx hb hK hP 0 3 rfl rfl (inb_in rfl) dL_law_2146 ?_
  refine lv_iload hx hb dL_law_2147 (lv_at hl 0 rfl) ?_
  refine lv_i2l (v := (y.1).toInt64) hx hb dL_law_2149 rfl ?_
  refine W.lcmp hx hb dL_law_2150 ?_
  refine lv_if_eq (tgt := 2156) hx hb dL_law_2151 (by decide) (fun c7 => ?_) (fun c7 => absurd (lg_eq (hv9.trans (congrArg Int32.toInt64 hu9))) c7)
  refine lv_goto (tgt := 3556) hx hb dL_law_2156 (by decide) ?_
  refine W.widen (k := cells + 17) (n := slots + 322) (by omega) (by omega) ?_
  exact kk9 hs1 fl1 _ _ _ H locs hI9 (lv_sub hl [2, 3, 4, 5, 6] rfl) hP hD hS
set_option maxHeartbeats 4000000 in
set_option maxRecDepth 100000 in
theorem lc_sideWeight {p : Program} {l : Launch} {e : Env} {s : State} {m : MethodId} {below : List Frame} {meth : Method} {c : Code} {b L : Nat} {xs : Nat → Int32} {dC : Nat → ClassId} {dI : Nat → Nat → Nat} {cI cZ cS cL : ClassId} {A : Nat → Prop} {a am : Nat → Nat} {o : Nat} {Q : State → Prop} (X0 : LCx p l s m c b L xs dC dI cI cZ cS cL A) {Inv : Nat → (Nat → Option Mem) → Mem → Mem → Prop} (hSt : St_sideWeight Inv) {n : Nat} (hn : n < 512) (hnL : 3 * n + 2 < L) (hL : L ≤ 1536) {hs : HS} {fl : Nat → Int64} {M K : Mem} (hI : Inv n (cts hs) M K) {ls : Array Slot} {H : Heap} {locs : List Loc} {cells slots : Nat} (hcs : cells + 17 ≤ 601024) (hss : slots + 322 ≤ 7293034) (hl : lv_has ls 9 [(0, .ref b), (1, .ref (a 0)), (2, .ref (am 0)), (3, .ref o), (4, .int (nI (3 * n)))]) (hP : va_P (dC, dI) vwCl (wLaw cI cZ cS cL hs o fl a M am K ++ RW cI cZ hs) H) (hD : va_D A (wLaw cI cZ cS cL hs o fl a M am K ++ RW cI cZ hs)) (hS : va_S A s.heap H locs) (kk9 : ∀ (hs' : HS) (fl' : Nat → Int64) (M' K' : Mem) (ls : Array Slot) (H : Heap) (locs : List Loc), Inv (n + 1) (cts hs') M' K' → lv_has ls 9 [(0, .ref b), (1, .ref (a 0)), (2, .ref (am 0)), (3, .ref o), (4, .int (nI (3 * n)))] → va_P (dC, dI) vwCl (wLaw cI cZ cS cL hs' o fl' a M' am K' ++ RW cI cZ hs') H → va_D A (wLaw cI cZ cS cL hs' o fl' a M' am K' ++ RW cI cZ hs') → va_S A s.heap H locs → W p l e room_1 s m #[Value.ref b] below meth c H locs (cells + 17) (slots + 322) Q (F0 m 3556 ls [])) : W p l e room_1 s m #[Value.ref b] below meth c H locs cells slots Q (F0 m 2159 ls []) := by
  obtain ⟨hx, hb, hml, hown, hts, hK, hNW, hEX, hNC, hA, hXs, hbl, hbA, hst⟩ := X0
  have hK8 : va_K (dC, dI) vwCl (tys8 cI cZ cS) s := hK.sub (tys' := tys8 cI cZ cS) [0, 1, 2] rfl
  have hK2 : va_K (dC, dI) vwCl [(cI, .int), (cZ, .boolean)] s := hK.sub (tys' := [(cI, .int), (cZ, .boolean)]) [0, 1] rfl
  obtain ⟨r, kk, y, hf8, hA9, hf9, h9k, hval, hI9⟩ := hSt n (cts hs) M K (xs (3 * n + 1)) hn hI
  refine lv_aload_n hx hb dL_law_2159 rfl (lv_at hl 1 rfl) ?_
  refine lv_aload_n hx hb dL_law_2160 rfl (lv_at hl 0 rfl) ?_
  refine lv_iload hx hb dL_law_2161 (lv_at hl 4 rfl) ?_
  refine lv_iconst (v := (1 : Int32)) hx hb dL_law_2163 (by decide) ?_
  refine lv_iadd hx hb dL_law_2164 ?_
  rw [show nI (3 * n) + (1 : Int32) = nI (3 * n + 1) from nI_add (3 * n) 1]
  refine va_sld hx hb hXs hbl hbA hS (vp_in_nI (by omega) (by omega)) dL_law_2165 ?_
  rw [nI_clamp (show 3 * n + 1 < 2 ^ 31 by omega)]
  refine lv_aload_n hx hb dL_law_2166 rfl (lv_at hl 3 rfl) ?_
  have hPc := hP.part (X := (wLaw cI cZ cS cL hs o fl a M am K)) (cx := (wL cI cZ cS cL (fS hs) (fG hs) o fl a M)) [0, 1, 2, 3, 4, 5, 6, 7, 8, 9, 10, 11, 12, 13, 14, 15, 16, 17, 18, 19, 20, 21, 22, 23, 24, 25, 26, 27, 28, 29, 30, 31, 32, 33, 34, 35, 36, 37, 38, 39, 40, 41, 42] rfl
  have hDc := hD.part (X := (wLaw cI cZ cS cL hs o fl a M am K)) (cx := (wL cI cZ cS cL (fS hs) (fG hs) o fl a M)) [0, 1, 2, 3, 4, 5, 6, 7, 8, 9, 10, 11, 12, 13, 14, 15, 16, 17, 18, 19, 20, 21, 22, 23, 24, 25, 26, 27, 28, 29, 30, 31, 32, 33, 34, 35, 36, 37, 38, 39, 40, 41, 42] (by decide) rfl
  have hFc := va_freeP (X := (wLaw cI cZ cS cL hs o fl a M am K)) (cx := (wL cI cZ cS cL (fS hs) (fG hs) o fl a M)) hD hS hA [0, 1, 2, 3, 4, 5, 6, 7, 8, 9, 10, 11, 12, 13, 14, 15, 16, 17, 18, 19, 20, 21, 22, 23, 24, 25, 26, 27, 28, 29, 30, 31, 32, 33, 34, 35, 36, 37, 38, 39, 40, 41, 42] rfl
  refine va_calli (vx_runSW (As := [.ref (a 0), .int ((xs (3 * n + 1))), .ref o]) (rest := []) ⟨hx, hb, hml, hown, hts⟩ (w_L_sideWeight l hst dC dI cI cZ cS cL hs o fl a H.size M ((xs (3 * n + 1))) r kk hf8 hA9) (vx_cwSW 3 hts gL_law_L_sideWeight rfl rfl rfl (by decide +kernel) ⟨Nat.le_of_ble_eq_true rfl, Nat.le_of_ble_eq_true rfl⟩) ⟨T9.blind, T9.pre hPc hK hDc hNW (hEX.at hS hFc) hNC⟩ rfl rfl hl.1 rfl (lv_room (Nat.le_of_ble_eq_true rfl)) dL_law_2167 ⟨by show cells + 1 ≤ 601024; omega, by show slots + 6 ≤ 7293034; omega⟩) hS (fun q _ h => hFc q h) hFc (fun rv u t H1 locs ht hvm hw hB hz1 hk1 hS => ?_)
  obtain ⟨hw1, hw2, hout⟩ := hw
  obtain ⟨hs1, fl1⟩ := u
  have hw2 : hs1 = hs := hw2
  rw [hw1]
  obtain ⟨hP1, hD1⟩ := hB
  rw [ht] at hP1
  obtain ⟨hP, hD⟩ := va_joinP (X := (wLaw cI cZ cS cL hs o fl a M am K)) (cx := (wL cI cZ cS cL (fS hs) (fG hs) o fl a M)) (wr := (wX9 cI cZ am K)) (rx := (wL cI cZ cS cL (fS hs1) (fG hs1) o fl1 a M)) hP hD [0, 1, 2, 3, 4, 5, 6, 7, 8, 9, 10, 11, 12, 13, 14, 15, 16, 17, 18, 19, 20, 21, 22, 23, 24, 25, 26, 27, 28, 29, 30, 31, 32, 33, 34, 35, 36, 37, 38, 39, 40, 41, 42] [43, 44, 45, 46, 47, 48, 49, 50, 51] rfl rfl (by decide) (by decide) hk1 hFc hP1 hD1
  have hP := hP.part (cx := (wLaw cI cZ cS cL hs1 o fl1 a M am K)) [9, 10, 11, 12, 13, 14, 15, 16, 17, 18, 19, 20, 21, 22, 23, 24, 25, 26, 27, 28, 29, 30, 31, 32, 33, 34, 35, 36, 37, 38, 39, 40, 41, 42, 43, 44, 45, 46, 47, 48, 49, 50, 51, 0, 1, 2, 3, 4, 5, 6, 7, 8] rfl
  have hD := hD.part (cx := (wLaw cI cZ cS cL hs1 o fl1 a M am K)) [9, 10, 11, 12, 13, 14, 15, 16, 17, 18, 19, 20, 21, 22, 23, 24, 25, 26, 27, 28, 29, 30, 31, 32, 33, 34, 35, 36, 37, 38, 39, 40, 41, 42, 43, 44, 45, 46, 47, 48, 49, 50, 51, 0, 1, 2, 3, 4, 5, 6, 7, 8] (by decide) rfl
  generalize H1 = H at hP hS ⊢
  rw [← hw2] at hI9
  refine lv_istore (lv' := [(5, .int kk), (0, .ref b), (1, .ref (a 0)), (2, .ref (am 0)), (3, .ref o), (4, .int (nI (3 * n)))]) hx hb dL_law_2170 hl (by decide) rfl (fun ls hl => ?_)
  refine lv_aload_n hx hb dL_law_2172 rfl (lv_at hl 3 rfl) ?_
  refine lv_aload_n hx hb dL_law_2173 rfl (lv_at hl 1 rfl) ?_
  refine lv_iload hx hb dL_law_2174 (lv_at hl 5 rfl) ?_
  refine lv_iconst (v := (1 : Int32)) hx hb dL_law_2176 (by decide) ?_
  refine lv_iadd hx hb dL_law_2177 ?_
  rw [show nI (3 * n) + (1 : Int32) = nI (3 * n + 1) from nI_add (3 * n) 1]
  refine va_sld hx hb hXs hbl hbA hS (vp_in_nI (by omega) (by omega)) dL_law_2178 ?_
  rw [nI_clamp (show 3 * n + 1 < 2 ^ 31 by omega)]
  have hPc := P_head (ws := (wLaw cI cZ cS cL hs1 o fl1 a M am K)) (ws' := (wX9 cI cZ am K)) hP [43, 44, 45, 46, 47, 48, 49, 50, 51] rfl
  have hDc := D_head (ws := (wLaw cI cZ cS cL hs1 o fl1 a M am K)) (ws' := (wX9 cI cZ am K)) hD [43, 44, 45, 46, 47, 48, 49, 50, 51] (by decide) rfl
  have hFc := va_free (wc := (wX9 cI cZ am K)) hD hS hA [43, 44, 45, 46, 47, 48, 49, 50, 51] rfl
  refine va_calli (va_runV (As := [.int ((xs (3 * n + 1)))]) (rest := []) ⟨hx, hb, hml, hown, hts⟩ (c_X9_sideWeight l dC dI cI cZ am H.size K ((xs (3 * n + 1))) y hf9) (cwV 1 hts gL_law_X9_sideWeight rfl rfl rfl (by decide +kernel) ⟨Nat.le_of_ble_eq_true rfl, Nat.le_of_ble_eq_true rfl⟩) ⟨WR.blind, va_recv hK hP (ci := 9) (q0 := 43) rfl rfl, WR.pre hPc hK2 hDc hNW⟩ rfl rfl hl.1 rfl (lv_room (Nat.le_of_ble_eq_true rfl)) dL_law_2179 ⟨by show _ + 0 ≤ 601024; omega, by show _ + 0 ≤ 7293034; omega⟩) hS (fun q _ h => hFc q h) hFc (fun rv u t H1 locs ht hvm hw hB hz1 hk1 hS => ?_)
  obtain ⟨hP1, hD1⟩ := hB
  rw [ht] at hP1
  rw [hw]
  obtain ⟨hP, hD⟩ := join_app (ws := (wLaw cI cZ cS cL hs1 o fl1 a M am K)) (wr := (wL cI cZ cS cL (fS hs1) (fG hs1) o fl1 a M)) (w1 := (wX9 cI cZ am (sr K 0 (y.2 0)))) hP hD [43, 44, 45, 46, 47, 48, 49, 50, 51] [0, 1, 2, 3, 4, 5, 6, 7, 8, 9, 10, 11, 12, 13, 14, 15, 16, 17, 18, 19, 20, 21, 22, 23, 24, 25, 26, 27, 28, 29, 30, 31, 32, 33, 34, 35, 36, 37, 38, 39, 40, 41, 42] rfl rfl (by decide) (by decide) hk1 hFc hP1 hD1
  have hP : va_P (dC, dI) vwCl ((wLaw cI cZ cS cL hs1 o fl1 a M am (sr K 0 (y.2 0))) ++ RW cI cZ hs1) H1 := hP
  have hD : va_D A ((wLaw cI cZ cS cL hs1 o fl1 a M am (sr K 0 (y.2 0))) ++ RW cI cZ hs1) := hD
  generalize H1 = H at hP hS ⊢
  refine lv_istore (lv' := [(6, .int y.1), (5, .int kk), (0, .ref b), (1, .ref (a 0)), (2, .ref (am 0)), (3, .ref o), (4, .int (nI (3 * n)))]) hx hb dL_law_2182 hl (by decide) rfl (fun ls hl => ?_)
  refine lv_aload_n hx hb dL_law_2184 rfl (lv_at hl 4 rfl) ?_
  have hPc := P_head (ws := (wLaw cI cZ cS cL hs1 o fl1 a M am (sr K 0 (y.2 0)))) (ws' := (wX9 cI cZ am (sr K 0 (y.2 0)))) hP [43, 44, 45, 46, 47, 48, 49, 50, 51] rfl
  refine cRO (W.runV (As := []) (rest := []) ⟨hx, hb, hml, hown, hts⟩ (c_X9_thrown l dC dI cI cZ am (sr K 0 (y.2 0)) ((sr K 0 (y.2 0)) 0 0) rfl) (cwV 0 hts gL_law_X9_thrown rfl rfl rfl (by decide +kernel) ⟨Nat.le_of_ble_eq_true rfl, Nat.le_of_ble_eq_true rfl⟩) ⟨RO.blind, va_recv hK hP (ci := 9) (q0 := 43) rfl rfl, RO.pre hPc hK2 hNW⟩ rfl rfl hl.1 rfl (lv_room (Nat.le_of_ble_eq_true rfl)) dL_law_2185 ⟨by show _ + 0 ≤ 601024; omega, by show _ + 0 ≤ 7293034; omega⟩) ?_
  refine lv_iload hx hb dL_law_2188 (lv_at hl 1 rfl) ?_
  refine lv_icmp_eq (tgt := 2195) hx hb dL_law_2190 (by decide) (fun c9 => ?_) (fun c9 => absurd h9k c9)
  refine lv_iload hx hb dL_law_2195 (lv_at hl 1 rfl) ?_
  refine lv_if_ne (tgt := 2212) hx hb dL_law_2197 (by decide) (fun c9 => ?_) (fun c9 => ?_)
  · refine lv_goto (tgt := 3556) hx hb dL_law_2212 (by decide) ?_
    refine W.widen (k := cells + 17) (n := slots + 322) (by omega) (by omega) ?_
    exact kk9 hs1 fl1 _ _ _ H locs hI9 (lv_sub hl [2, 3, 4, 5, 6] rfl) hP hD hS
  obtain ⟨u, hr9⟩ := Ans_z hA9 c9
  have hv9 := hout u hr9
  have hu9 := hval u hr9
  refine lv_aload_n hx hb dL_law_2200 rfl (lv_at hl 5 rfl) ?_
  refine lv_iconst (v := (0 : Int32)) hx hb dL_law_2201 (by decide) ?_
  refine va_lald (D := (dC, dI)) (f := fl1) hx hb hK hP 0 3 rfl rfl (inb_in rfl) dL_law_2202 ?_
  refine lv_iload hx hb dL_law_2203 (lv_at hl 0 rfl) ?_
  refine lv_i2l (v := (y.1).toInt64) hx hb dL_law_2205 rfl ?_
  refine W.lcmp hx hb dL_law_2206 ?_
  refine lv_if_eq (tgt := 2212) hx hb dL_law_2207 (by decide) (fun c7 => ?_) (fun c7 => absurd (lg_eq (hv9.trans (congrArg Int32.toInt64 hu9))) c7)
  refine lv_goto (tgt := 3556) hx hb dL_law_2212 (by decide) ?_
  refine W.widen (k := cells + 17) (n := slots + 322) (by omega) (by omega) ?_
  exact kk9 hs1 fl1 _ _ _ H locs hI9 (lv_sub hl [2, 3, 4, 5, 6] rfl) hP hD hS
set_option maxHeartbeats 4000000 in
set_option maxRecDepth 100000 in
theorem lc_trips {p : Program} {l : Launch} {e : Env} {s : State} {m : MethodId} {below : List Frame} {meth : Method} {c : Code} {b L : Nat} {xs : Nat → Int32} {dC : Nat → ClassId} {dI : Nat → Nat → Nat} {cI cZ cS cL : ClassId} {A : Nat → Prop} {a am : Nat → Nat} {o : Nat} {Q : State → Prop} (X0 : LCx p l s m c b L xs dC dI cI cZ cS cL A) {Inv : Nat → (Nat → Option Mem) → Mem → Mem → Prop} (hSt : St_trips Inv) {n : Nat} (hn : n < 512) (hnL : 3 * n + 2 < L) (hL : L ≤ 1536) {hs : HS} {fl : Nat → Int64} {M K : Mem} (hI : Inv n (cts hs) M K) {ls : Array Slot} {H : Heap} {locs : List Loc} {cells slots : Nat} (hcs : cells + 17 ≤ 601024) (hss : slots + 322 ≤ 7293034) (hl : lv_has ls 9 [(0, .ref b), (1, .ref (a 0)), (2, .ref (am 0)), (3, .ref o), (4, .int (nI (3 * n)))]) (hP : va_P (dC, dI) vwCl (wLaw cI cZ cS cL hs o fl a M am K ++ RW cI cZ hs) H) (hD : va_D A (wLaw cI cZ cS cL hs o fl a M am K ++ RW cI cZ hs)) (hS : va_S A s.heap H locs) (kk9 : ∀ (hs' : HS) (fl' : Nat → Int64) (M' K' : Mem) (ls : Array Slot) (H : Heap) (locs : List Loc), Inv (n + 1) (cts hs') M' K' → lv_has ls 9 [(0, .ref b), (1, .ref (a 0)), (2, .ref (am 0)), (3, .ref o), (4, .int (nI (3 * n)))] → va_P (dC, dI) vwCl (wLaw cI cZ cS cL hs' o fl' a M' am K' ++ RW cI cZ hs') H → va_D A (wLaw cI cZ cS cL hs' o fl' a M' am K' ++ RW cI cZ hs') → va_S A s.heap H locs → W p l e room_1 s m #[Value.ref b] below meth c H locs (cells + 17) (slots + 322) Q (F0 m 3556 ls [])) : W p l e room_1 s m #[Value.ref b] below meth c H locs cells slots Q (F0 m 2215 ls []) := by
  obtain ⟨hx, hb, hml, hown, hts, hK, hNW, hEX, hNC, hA, hXs, hbl, hbA, hst⟩ := X0
  have hK8 : va_K (dC, dI) vwCl (tys8 cI cZ cS) s := hK.sub (tys' := tys8 cI cZ cS) [0, 1, 2] rfl
  have hK2 : va_K (dC, dI) vwCl [(cI, .int), (cZ, .boolean)] s := hK.sub (tys' := [(cI, .int), (cZ, .boolean)]) [0, 1] rfl
  obtain ⟨z, y, hf8, hf9, hEq, hI9⟩ := hSt n (cts hs) M K hn hI
  refine lv_aload_n hx hb dL_law_2215 rfl (lv_at hl 1 rfl) ?_
  have hPc := P_head (ws := (wLaw cI cZ cS cL hs o fl a M am K)) (ws' := (wX8 cI cZ cS (fS hs) (fG hs) a M)) hP [1, 2, 3, 4, 5, 6, 7, 8, 9, 10, 11, 12, 13, 14, 15, 16, 17, 18, 19, 20, 21, 22, 23, 24, 25, 26, 27, 28, 29, 30, 31, 32, 33, 34, 35, 36, 37, 38, 39, 40, 41, 42] rfl
  refine cRO (W.runV (As := []) (rest := []) ⟨hx, hb, hml, hown, hts⟩ (c_X8_trips l dC dI cI cZ cS (fS hs) (fG hs) a M (z) hf8) (cwV 0 hts gL_law_X8_trips rfl rfl rfl (by decide +kernel) ⟨Nat.le_of_ble_eq_true rfl, Nat.le_of_ble_eq_true rfl⟩) ⟨RO8.blind, va_recv hK hP (ci := 8) (q0 := 1) rfl rfl, RO8.pre hPc hK8 hNW⟩ rfl rfl hl.1 rfl (lv_room (Nat.le_of_ble_eq_true rfl)) dL_law_2216 ⟨by show cells + 0 ≤ 601024; omega, by show slots + 0 ≤ 7293034; omega⟩) ?_
  refine lv_aload_n hx hb dL_law_2219 rfl (lv_at hl 2 rfl) ?_
  have hPc := P_head (ws := (wLaw cI cZ cS cL hs o fl a M am K)) (ws' := (wX9 cI cZ am K)) hP [43, 44, 45, 46, 47, 48, 49, 50, 51] rfl
  have hDc := D_head (ws := (wLaw cI cZ cS cL hs o fl a M am K)) (ws' := (wX9 cI cZ am K)) hD [43, 44, 45, 46, 47, 48, 49, 50, 51] (by decide) rfl
  have hFc := va_free (wc := (wX9 cI cZ am K)) hD hS hA [43, 44, 45, 46, 47, 48, 49, 50, 51] rfl
  refine va_calli (va_runV (As := []) (rest := [.int z]) ⟨hx, hb, hml, hown, hts⟩ (c_X9_trips l dC dI cI cZ am H.size K y hf9) (cwV 0 hts gL_law_X9_trips rfl rfl rfl (by decide +kernel) ⟨Nat.le_of_ble_eq_true rfl, Nat.le_of_ble_eq_true rfl⟩) ⟨WR.blind, va_recv hK hP (ci := 9) (q0 := 43) rfl rfl, WR.pre hPc hK2 hDc hNW⟩ rfl rfl hl.1 rfl (lv_room (Nat.le_of_ble_eq_true rfl)) dL_law_2220 ⟨by show _ + 0 ≤ 601024; omega, by show _ + 0 ≤ 7293034; omega⟩) hS (fun q _ h => hFc q h) hFc (fun rv u t H1 locs ht hvm hw hB hz1 hk1 hS => ?_)
  obtain ⟨hP1, hD1⟩ := hB
  rw [ht] at hP1
  rw [hw]
  obtain ⟨hP, hD⟩ := join_app (ws := (wLaw cI cZ cS cL hs o fl a M am K)) (wr := (wL cI cZ cS cL (fS hs) (fG hs) o fl a M)) (w1 := (wX9 cI cZ am (sr K 0 (y.2 0)))) hP hD [43, 44, 45, 46, 47, 48, 49, 50, 51] [0, 1, 2, 3, 4, 5, 6, 7, 8, 9, 10, 11, 12, 13, 14, 15, 16, 17, 18, 19, 20, 21, 22, 23, 24, 25, 26, 27, 28, 29, 30, 31, 32, 33, 34, 35, 36, 37, 38, 39, 40, 41, 42] rfl rfl (by decide) (by decide) hk1 hFc hP1 hD1
  have hP : va_P (dC, dI) vwCl ((wLaw cI cZ cS cL hs o fl a M am (sr K 0 (y.2 0))) ++ RW cI cZ hs) H1 := hP
  have hD : va_D A ((wLaw cI cZ cS cL hs o fl a M am (sr K 0 (y.2 0))) ++ RW cI cZ hs) := hD
  generalize H1 = H at hP hS ⊢
  refine lv_icmp_eq (tgt := 3556) hx hb dL_law_2223 (by decide) (fun c9 => ?_) (fun c9 => absurd hEq c9)
  refine W.widen (k := cells + 17) (n := slots + 322) (by omega) (by omega) ?_
  exact kk9 hs fl _ _ _ H locs hI9 (lv_sub hl [0, 1, 2, 3, 4] rfl) hP hD hS
set_option maxHeartbeats 4000000 in
set_option maxRecDepth 100000 in
theorem lc_tripTicks {p : Program} {l : Launch} {e : Env} {s : State} {m : MethodId} {below : List Frame} {meth : Method} {c : Code} {b L : Nat} {xs : Nat → Int32} {dC : Nat → ClassId} {dI : Nat → Nat → Nat} {cI cZ cS cL : ClassId} {A : Nat → Prop} {a am : Nat → Nat} {o : Nat} {Q : State → Prop} (X0 : LCx p l s m c b L xs dC dI cI cZ cS cL A) {Inv : Nat → (Nat → Option Mem) → Mem → Mem → Prop} (hSt : St_tripTicks Inv) {n : Nat} (hn : n < 512) (hnL : 3 * n + 2 < L) (hL : L ≤ 1536) {hs : HS} {fl : Nat → Int64} {M K : Mem} (hI : Inv n (cts hs) M K) {ls : Array Slot} {H : Heap} {locs : List Loc} {cells slots : Nat} (hcs : cells + 17 ≤ 601024) (hss : slots + 322 ≤ 7293034) (hl : lv_has ls 9 [(0, .ref b), (1, .ref (a 0)), (2, .ref (am 0)), (3, .ref o), (4, .int (nI (3 * n)))]) (hP : va_P (dC, dI) vwCl (wLaw cI cZ cS cL hs o fl a M am K ++ RW cI cZ hs) H) (hD : va_D A (wLaw cI cZ cS cL hs o fl a M am K ++ RW cI cZ hs)) (hS : va_S A s.heap H locs) (kk9 : ∀ (hs' : HS) (fl' : Nat → Int64) (M' K' : Mem) (ls : Array Slot) (H : Heap) (locs : List Loc), Inv (n + 1) (cts hs') M' K' → lv_has ls 9 [(0, .ref b), (1, .ref (a 0)), (2, .ref (am 0)), (3, .ref o), (4, .int (nI (3 * n)))] → va_P (dC, dI) vwCl (wLaw cI cZ cS cL hs' o fl' a M' am K' ++ RW cI cZ hs') H → va_D A (wLaw cI cZ cS cL hs' o fl' a M' am K' ++ RW cI cZ hs') → va_S A s.heap H locs → W p l e room_1 s m #[Value.ref b] below meth c H locs (cells + 17) (slots + 322) Q (F0 m 3556 ls [])) : W p l e room_1 s m #[Value.ref b] below meth c H locs cells slots Q (F0 m 2228 ls []) := by
  obtain ⟨hx, hb, hml, hown, hts, hK, hNW, hEX, hNC, hA, hXs, hbl, hbA, hst⟩ := X0
  have hK8 : va_K (dC, dI) vwCl (tys8 cI cZ cS) s := hK.sub (tys' := tys8 cI cZ cS) [0, 1, 2] rfl
  have hK2 : va_K (dC, dI) vwCl [(cI, .int), (cZ, .boolean)] s := hK.sub (tys' := [(cI, .int), (cZ, .boolean)]) [0, 1] rfl
  obtain ⟨r, kk, y, hf8, hA9, hf9, h9k, hval, hI9⟩ := hSt n (cts hs) M K (xs (3 * n + 1)) hn hI
  refine lv_aload_n hx hb dL_law_2228 rfl (lv_at hl 1 rfl) ?_
  refine lv_aload_n hx hb dL_law_2229 rfl (lv_at hl 0 rfl) ?_
  refine lv_iload hx hb dL_law_2230 (lv_at hl 4 rfl) ?_
  refine lv_iconst (v := (1 : Int32)) hx hb dL_law_2232 (by decide) ?_
  refine lv_iadd hx hb dL_law_2233 ?_
  rw [show nI (3 * n) + (1 : Int32) = nI (3 * n + 1) from nI_add (3 * n) 1]
  refine va_sld hx hb hXs hbl hbA hS (vp_in_nI (by omega) (by omega)) dL_law_2234 ?_
  rw [nI_clamp (show 3 * n + 1 < 2 ^ 31 by omega)]
  refine lv_aload_n hx hb dL_law_2235 rfl (lv_at hl 3 rfl) ?_
  have hPc := hP.part (X := (wLaw cI cZ cS cL hs o fl a M am K)) (cx := (wL cI cZ cS cL (fS hs) (fG hs) o fl a M)) [0, 1, 2, 3, 4, 5, 6, 7, 8, 9, 10, 11, 12, 13, 14, 15, 16, 17, 18, 19, 20, 21, 22, 23, 24, 25, 26, 27, 28, 29, 30, 31, 32, 33, 34, 35, 36, 37, 38, 39, 40, 41, 42] rfl
  have hDc := hD.part (X := (wLaw cI cZ cS cL hs o fl a M am K)) (cx := (wL cI cZ cS cL (fS hs) (fG hs) o fl a M)) [0, 1, 2, 3, 4, 5, 6, 7, 8, 9, 10, 11, 12, 13, 14, 15, 16, 17, 18, 19, 20, 21, 22, 23, 24, 25, 26, 27, 28, 29, 30, 31, 32, 33, 34, 35, 36, 37, 38, 39, 40, 41, 42] (by decide) rfl
  have hFc := va_freeP (X := (wLaw cI cZ cS cL hs o fl a M am K)) (cx := (wL cI cZ cS cL (fS hs) (fG hs) o fl a M)) hD hS hA [0, 1, 2, 3, 4, 5, 6, 7, 8, 9, 10, 11, 12, 13, 14, 15, 16, 17, 18, 19, 20, 21, 22, 23, 24, 25, 26, 27, 28, 29, 30, 31, 32, 33, 34, 35, 36, 37, 38, 39, 40, 41, 42] rfl
  refine va_calli (vx_runSW (As := [.ref (a 0), .int ((xs (3 * n + 1))), .ref o]) (rest := []) ⟨hx, hb, hml, hown, hts⟩ (w_L_tripTicks l hst dC dI cI cZ cS cL hs o fl a H.size M ((xs (3 * n + 1))) r kk hf8 hA9) (vx_cwSW 3 hts gL_law_L_tripTicks rfl rfl rfl (by decide +kernel) ⟨Nat.le_of_ble_eq_true rfl, Nat.le_of_ble_eq_true rfl⟩) ⟨T9.blind, T9.pre hPc hK hDc hNW (hEX.at hS hFc) hNC⟩ rfl rfl hl.1 rfl (lv_room (Nat.le_of_ble_eq_true rfl)) dL_law_2236 ⟨by show cells + 1 ≤ 601024; omega, by show slots + 6 ≤ 7293034; omega⟩) hS (fun q _ h => hFc q h) hFc (fun rv u t H1 locs ht hvm hw hB hz1 hk1 hS => ?_)
  obtain ⟨hw1, hw2, hout⟩ := hw
  obtain ⟨hs1, fl1⟩ := u
  have hw2 : hs1 = hs := hw2
  rw [hw1]
  obtain ⟨hP1, hD1⟩ := hB
  rw [ht] at hP1
  obtain ⟨hP, hD⟩ := va_joinP (X := (wLaw cI cZ cS cL hs o fl a M am K)) (cx := (wL cI cZ cS cL (fS hs) (fG hs) o fl a M)) (wr := (wX9 cI cZ am K)) (rx := (wL cI cZ cS cL (fS hs1) (fG hs1) o fl1 a M)) hP hD [0, 1, 2, 3, 4, 5, 6, 7, 8, 9, 10, 11, 12, 13, 14, 15, 16, 17, 18, 19, 20, 21, 22, 23, 24, 25, 26, 27, 28, 29, 30, 31, 32, 33, 34, 35, 36, 37, 38, 39, 40, 41, 42] [43, 44, 45, 46, 47, 48, 49, 50, 51] rfl rfl (by decide) (by decide) hk1 hFc hP1 hD1
  have hP := hP.part (cx := (wLaw cI cZ cS cL hs1 o fl1 a M am K)) [9, 10, 11, 12, 13, 14, 15, 16, 17, 18, 19, 20, 21, 22, 23, 24, 25, 26, 27, 28, 29, 30, 31, 32, 33, 34, 35, 36, 37, 38, 39, 40, 41, 42, 43, 44, 45, 46, 47, 48, 49, 50, 51, 0, 1, 2, 3, 4, 5, 6, 7, 8] rfl
  have hD := hD.part (cx := (wLaw cI cZ cS cL hs1 o fl1 a M am K)) [9, 10, 11, 12, 13, 14, 15, 16, 17, 18, 19, 20, 21, 22, 23, 24, 25, 26, 27, 28, 29, 30, 31, 32, 33, 34, 35, 36, 37, 38, 39, 40, 41, 42, 43, 44, 45, 46, 47, 48, 49, 50, 51, 0, 1, 2, 3, 4, 5, 6, 7, 8] (by decide) rfl
  generalize H1 = H at hP hS ⊢
  rw [← hw2] at hI9
  refine lv_istore (lv' := [(5, .int kk), (0, .ref b), (1, .ref (a 0)), (2, .ref (am 0)), (3, .ref o), (4, .int (nI (3 * n)))]) hx hb dL_law_2239 hl (by decide) rfl (fun ls hl => ?_)
  refine lv_aload_n hx hb dL_law_2241 rfl (lv_at hl 3 rfl) ?_
  refine lv_aload_n hx hb dL_law_2242 rfl (lv_at hl 1 rfl) ?_
  refine lv_iload hx hb dL_law_2243 (lv_at hl 5 rfl) ?_
  refine lv_iconst (v := (1 : Int32)) hx hb dL_law_2245 (by decide) ?_
  refine lv_iadd hx hb dL_law_2246 ?_
  rw [show nI (3 * n) + (1 : Int32) = nI (3 * n + 1) from nI_add (3 * n) 1]
  refine va_sld hx hb hXs hbl hbA hS (vp_in_nI (by omega) (by omega)) dL_law_2247 ?_
  rw [nI_clamp (show 3 * n + 1 < 2 ^ 31 by omega)]
  have hPc := P_head (ws := (wLaw cI cZ cS cL hs1 o fl1 a M am K)) (ws' := (wX9 cI cZ am K)) hP [43, 44, 45, 46, 47, 48, 49, 50, 51] rfl
  have hDc := D_head (ws := (wLaw cI cZ cS cL hs1 o fl1 a M am K)) (ws' := (wX9 cI cZ am K)) hD [43, 44, 45, 46, 47, 48, 49, 50, 51] (by decide) rfl
  have hFc := va_free (wc := (wX9 cI cZ am K)) hD hS hA [43, 44, 45, 46, 47, 48, 49, 50, 51] rfl
  refine va_calli (va_runV (As := [.int ((xs (3 * n + 1)))]) (rest := []) ⟨hx, hb, hml, hown, hts⟩ (c_X9_tripTicks l dC dI cI cZ am H.size K ((xs (3 * n + 1))) y hf9) (cwV 1 hts gL_law_X9_tripTicks rfl rfl rfl (by decide +kernel) ⟨Nat.le_of_ble_eq_true rfl, Nat.le_of_ble_eq_true rfl⟩) ⟨WR.blind, va_recv hK hP (ci := 9) (q0 := 43) rfl rfl, WR.pre hPc hK2 hDc hNW⟩ rfl rfl hl.1 rfl (lv_room (Nat.le_of_ble_eq_true rfl)) dL_law_2248 ⟨by show _ + 0 ≤ 601024; omega, by show _ + 0 ≤ 7293034; omega⟩) hS (fun q _ h => hFc q h) hFc (fun rv u t H1 locs ht hvm hw hB hz1 hk1 hS => ?_)
  obtain ⟨hP1, hD1⟩ := hB
  rw [ht] at hP1
  rw [hw]
  obtain ⟨hP, hD⟩ := join_app (ws := (wLaw cI cZ cS cL hs1 o fl1 a M am K)) (wr := (wL cI cZ cS cL (fS hs1) (fG hs1) o fl1 a M)) (w1 := (wX9 cI cZ am (sr K 0 (y.2 0)))) hP hD [43, 44, 45, 46, 47, 48, 49, 50, 51] [0, 1, 2, 3, 4, 5, 6, 7, 8, 9, 10, 11, 12, 13, 14, 15, 16, 17, 18, 19, 20, 21, 22, 23, 24, 25, 26, 27, 28, 29, 30, 31, 32, 33, 34, 35, 36, 37, 38, 39, 40, 41, 42] rfl rfl (by decide) (by decide) hk1 hFc hP1 hD1
  have hP : va_P (dC, dI) vwCl ((wLaw cI cZ cS cL hs1 o fl1 a M am (sr K 0 (y.2 0))) ++ RW cI cZ hs1) H1 := hP
  have hD : va_D A ((wLaw cI cZ cS cL hs1 o fl1 a M am (sr K 0 (y.2 0))) ++ RW cI cZ hs1) := hD
  generalize H1 = H at hP hS ⊢
  refine lv_istore (lv' := [(6, .int y.1), (5, .int kk), (0, .ref b), (1, .ref (a 0)), (2, .ref (am 0)), (3, .ref o), (4, .int (nI (3 * n)))]) hx hb dL_law_2251 hl (by decide) rfl (fun ls hl => ?_)
  refine lv_aload_n hx hb dL_law_2253 rfl (lv_at hl 4 rfl) ?_
  have hPc := P_head (ws := (wLaw cI cZ cS cL hs1 o fl1 a M am (sr K 0 (y.2 0)))) (ws' := (wX9 cI cZ am (sr K 0 (y.2 0)))) hP [43, 44, 45, 46, 47, 48, 49, 50, 51] rfl
  refine cRO (W.runV (As := []) (rest := []) ⟨hx, hb, hml, hown, hts⟩ (c_X9_thrown l dC dI cI cZ am (sr K 0 (y.2 0)) ((sr K 0 (y.2 0)) 0 0) rfl) (cwV 0 hts gL_law_X9_thrown rfl rfl rfl (by decide +kernel) ⟨Nat.le_of_ble_eq_true rfl, Nat.le_of_ble_eq_true rfl⟩) ⟨RO.blind, va_recv hK hP (ci := 9) (q0 := 43) rfl rfl, RO.pre hPc hK2 hNW⟩ rfl rfl hl.1 rfl (lv_room (Nat.le_of_ble_eq_true rfl)) dL_law_2254 ⟨by show _ + 0 ≤ 601024; omega, by show _ + 0 ≤ 7293034; omega⟩) ?_
  refine lv_iload hx hb dL_law_2257 (lv_at hl 1 rfl) ?_
  refine lv_icmp_eq (tgt := 2264) hx hb dL_law_2259 (by decide) (fun c9 => ?_) (fun c9 => absurd h9k c9)
  refine lv_iload hx hb dL_law_2264 (lv_at hl 1 rfl) ?_
  refine lv_if_ne (tgt := 2281) hx hb dL_law_2266 (by decide) (fun c9 => ?_) (fun c9 => ?_)
  · refine lv_goto (tgt := 3556) hx hb dL_law_2281 (by decide) ?_
    refine W.widen (k := cells + 17) (n := slots + 322) (by omega) (by omega) ?_
    exact kk9 hs1 fl1 _ _ _ H locs hI9 (lv_sub hl [2, 3, 4, 5, 6] rfl) hP hD hS
  obtain ⟨u, hr9⟩ := Ans_z hA9 c9
  have hv9 := hout u hr9
  have hu9 := hval u hr9
  refine lv_aload_n hx hb dL_law_2269 rfl (lv_at hl 5 rfl) ?_
  refine lv_iconst (v := (0 : Int32)) hx hb dL_law_2270 (by decide) ?_
  refine va_lald (D := (dC, dI)) (f := fl1) hx hb hK hP 0 3 rfl rfl (inb_in rfl) dL_law_2271 ?_
  refine lv_iload hx hb dL_law_2272 (lv_at hl 0 rfl) ?_
  refine lv_i2l (v := (y.1).toInt64) hx hb dL_law_2274 rfl ?_
  refine W.lcmp hx hb dL_law_2275 ?_
  refine lv_if_eq (tgt := 2281) hx hb dL_law_2276 (by decide) (fun c7 => ?_) (fun c7 => absurd (lg_eq (hv9.trans (congrArg Int32.toInt64 hu9))) c7)
  refine lv_goto (tgt := 3556) hx hb dL_law_2281 (by decide) ?_
  refine W.widen (k := cells + 17) (n := slots + 322) (by omega) (by omega) ?_
  exact kk9 hs1 fl1 _ _ _ H locs hI9 (lv_sub hl [2, 3, 4, 5, 6] rfl) hP hD hS
set_option maxHeartbeats 4000000 in
set_option maxRecDepth 100000 in
theorem lc_wasFetch {p : Program} {l : Launch} {e : Env} {s : State} {m : MethodId} {below : List Frame} {meth : Method} {c : Code} {b L : Nat} {xs : Nat → Int32} {dC : Nat → ClassId} {dI : Nat → Nat → Nat} {cI cZ cS cL : ClassId} {A : Nat → Prop} {a am : Nat → Nat} {o : Nat} {Q : State → Prop} (X0 : LCx p l s m c b L xs dC dI cI cZ cS cL A) {Inv : Nat → (Nat → Option Mem) → Mem → Mem → Prop} (hSt : St_wasFetch Inv) {n : Nat} (hn : n < 512) (hnL : 3 * n + 2 < L) (hL : L ≤ 1536) {hs : HS} {fl : Nat → Int64} {M K : Mem} (hI : Inv n (cts hs) M K) {ls : Array Slot} {H : Heap} {locs : List Loc} {cells slots : Nat} (hcs : cells + 17 ≤ 601024) (hss : slots + 322 ≤ 7293034) (hl : lv_has ls 9 [(0, .ref b), (1, .ref (a 0)), (2, .ref (am 0)), (3, .ref o), (4, .int (nI (3 * n)))]) (hP : va_P (dC, dI) vwCl (wLaw cI cZ cS cL hs o fl a M am K ++ RW cI cZ hs) H) (hD : va_D A (wLaw cI cZ cS cL hs o fl a M am K ++ RW cI cZ hs)) (hS : va_S A s.heap H locs) (kk9 : ∀ (hs' : HS) (fl' : Nat → Int64) (M' K' : Mem) (ls : Array Slot) (H : Heap) (locs : List Loc), Inv (n + 1) (cts hs') M' K' → lv_has ls 9 [(0, .ref b), (1, .ref (a 0)), (2, .ref (am 0)), (3, .ref o), (4, .int (nI (3 * n)))] → va_P (dC, dI) vwCl (wLaw cI cZ cS cL hs' o fl' a M' am K' ++ RW cI cZ hs') H → va_D A (wLaw cI cZ cS cL hs' o fl' a M' am K' ++ RW cI cZ hs') → va_S A s.heap H locs → W p l e room_1 s m #[Value.ref b] below meth c H locs (cells + 17) (slots + 322) Q (F0 m 3556 ls [])) : W p l e room_1 s m #[Value.ref b] below meth c H locs cells slots Q (F0 m 2284 ls []) := by
  obtain ⟨hx, hb, hml, hown, hts, hK, hNW, hEX, hNC, hA, hXs, hbl, hbA, hst⟩ := X0
  have hK8 : va_K (dC, dI) vwCl (tys8 cI cZ cS) s := hK.sub (tys' := tys8 cI cZ cS) [0, 1, 2] rfl
  have hK2 : va_K (dC, dI) vwCl [(cI, .int), (cZ, .boolean)] s := hK.sub (tys' := [(cI, .int), (cZ, .boolean)]) [0, 1] rfl
  obtain ⟨r, kk, y, hf8, hA9, hf9, h9k, hval, hI9⟩ := hSt n (cts hs) M K (xs (3 * n + 1)) hn hI
  refine lv_aload_n hx hb dL_law_2284 rfl (lv_at hl 1 rfl) ?_
  refine lv_aload_n hx hb dL_law_2285 rfl (lv_at hl 0 rfl) ?_
  refine lv_iload hx hb dL_law_2286 (lv_at hl 4 rfl) ?_
  refine lv_iconst (v := (1 : Int32)) hx hb dL_law_2288 (by decide) ?_
  refine lv_iadd hx hb dL_law_2289 ?_
  rw [show nI (3 * n) + (1 : Int32) = nI (3 * n + 1) from nI_add (3 * n) 1]
  refine va_sld hx hb hXs hbl hbA hS (vp_in_nI (by omega) (by omega)) dL_law_2290 ?_
  rw [nI_clamp (show 3 * n + 1 < 2 ^ 31 by omega)]
  refine lv_aload_n hx hb dL_law_2291 rfl (lv_at hl 3 rfl) ?_
  have hPc := hP.part (X := (wLaw cI cZ cS cL hs o fl a M am K)) (cx := (wL cI cZ cS cL (fS hs) (fG hs) o fl a M)) [0, 1, 2, 3, 4, 5, 6, 7, 8, 9, 10, 11, 12, 13, 14, 15, 16, 17, 18, 19, 20, 21, 22, 23, 24, 25, 26, 27, 28, 29, 30, 31, 32, 33, 34, 35, 36, 37, 38, 39, 40, 41, 42] rfl
  have hDc := hD.part (X := (wLaw cI cZ cS cL hs o fl a M am K)) (cx := (wL cI cZ cS cL (fS hs) (fG hs) o fl a M)) [0, 1, 2, 3, 4, 5, 6, 7, 8, 9, 10, 11, 12, 13, 14, 15, 16, 17, 18, 19, 20, 21, 22, 23, 24, 25, 26, 27, 28, 29, 30, 31, 32, 33, 34, 35, 36, 37, 38, 39, 40, 41, 42] (by decide) rfl
  have hFc := va_freeP (X := (wLaw cI cZ cS cL hs o fl a M am K)) (cx := (wL cI cZ cS cL (fS hs) (fG hs) o fl a M)) hD hS hA [0, 1, 2, 3, 4, 5, 6, 7, 8, 9, 10, 11, 12, 13, 14, 15, 16, 17, 18, 19, 20, 21, 22, 23, 24, 25, 26, 27, 28, 29, 30, 31, 32, 33, 34, 35, 36, 37, 38, 39, 40, 41, 42] rfl
  refine va_calli (vx_runSW (As := [.ref (a 0), .int ((xs (3 * n + 1))), .ref o]) (rest := []) ⟨hx, hb, hml, hown, hts⟩ (w_L_wasFetch l hst dC dI cI cZ cS cL hs o fl a H.size M ((xs (3 * n + 1))) r kk hf8 hA9) (vx_cwSW 3 hts gL_law_L_wasFetch rfl rfl rfl (by decide +kernel) ⟨Nat.le_of_ble_eq_true rfl, Nat.le_of_ble_eq_true rfl⟩) ⟨T9.blind, T9.pre hPc hK hDc hNW (hEX.at hS hFc) hNC⟩ rfl rfl hl.1 rfl (lv_room (Nat.le_of_ble_eq_true rfl)) dL_law_2292 ⟨by show cells + 1 ≤ 601024; omega, by show slots + 6 ≤ 7293034; omega⟩) hS (fun q _ h => hFc q h) hFc (fun rv u t H1 locs ht hvm hw hB hz1 hk1 hS => ?_)
  obtain ⟨hw1, hw2, hout⟩ := hw
  obtain ⟨hs1, fl1⟩ := u
  have hw2 : hs1 = hs := hw2
  rw [hw1]
  obtain ⟨hP1, hD1⟩ := hB
  rw [ht] at hP1
  obtain ⟨hP, hD⟩ := va_joinP (X := (wLaw cI cZ cS cL hs o fl a M am K)) (cx := (wL cI cZ cS cL (fS hs) (fG hs) o fl a M)) (wr := (wX9 cI cZ am K)) (rx := (wL cI cZ cS cL (fS hs1) (fG hs1) o fl1 a M)) hP hD [0, 1, 2, 3, 4, 5, 6, 7, 8, 9, 10, 11, 12, 13, 14, 15, 16, 17, 18, 19, 20, 21, 22, 23, 24, 25, 26, 27, 28, 29, 30, 31, 32, 33, 34, 35, 36, 37, 38, 39, 40, 41, 42] [43, 44, 45, 46, 47, 48, 49, 50, 51] rfl rfl (by decide) (by decide) hk1 hFc hP1 hD1
  have hP := hP.part (cx := (wLaw cI cZ cS cL hs1 o fl1 a M am K)) [9, 10, 11, 12, 13, 14, 15, 16, 17, 18, 19, 20, 21, 22, 23, 24, 25, 26, 27, 28, 29, 30, 31, 32, 33, 34, 35, 36, 37, 38, 39, 40, 41, 42, 43, 44, 45, 46, 47, 48, 49, 50, 51, 0, 1, 2, 3, 4, 5, 6, 7, 8] rfl
  have hD := hD.part (cx := (wLaw cI cZ cS cL hs1 o fl1 a M am K)) [9, 10, 11, 12, 13, 14, 15, 16, 17, 18, 19, 20, 21, 22, 23, 24, 25, 26, 27, 28, 29, 30, 31, 32, 33, 34, 35, 36, 37, 38, 39, 40, 41, 42, 43, 44, 45, 46, 47, 48, 49, 50, 51, 0, 1, 2, 3, 4, 5, 6, 7, 8] (by decide) rfl
  generalize H1 = H at hP hS ⊢
  rw [← hw2] at hI9
  refine lv_istore (lv' := [(5, .int kk), (0, .ref b), (1, .ref (a 0)), (2, .ref (am 0)), (3, .ref o), (4, .int (nI (3 * n)))]) hx hb dL_law_2295 hl (by decide) rfl (fun ls hl => ?_)
  refine lv_aload_n hx hb dL_law_2297 rfl (lv_at hl 3 rfl) ?_
  refine lv_aload_n hx hb dL_law_2298 rfl (lv_at hl 1 rfl) ?_
  refine lv_iload hx hb dL_law_2299 (lv_at hl 5 rfl) ?_
  refine lv_iconst (v := (1 : Int32)) hx hb dL_law_2301 (by decide) ?_
  refine lv_iadd hx hb dL_law_2302 ?_
  rw [show nI (3 * n) + (1 : Int32) = nI (3 * n + 1) from nI_add (3 * n) 1]
  refine va_sld hx hb hXs hbl hbA hS (vp_in_nI (by omega) (by omega)) dL_law_2303 ?_
  rw [nI_clamp (show 3 * n + 1 < 2 ^ 31 by omega)]
  have hPc := P_head (ws := (wLaw cI cZ cS cL hs1 o fl1 a M am K)) (ws' := (wX9 cI cZ am K)) hP [43, 44, 45, 46, 47, 48, 49, 50, 51] rfl
  have hDc := D_head (ws := (wLaw cI cZ cS cL hs1 o fl1 a M am K)) (ws' := (wX9 cI cZ am K)) hD [43, 44, 45, 46, 47, 48, 49, 50, 51] (by decide) rfl
  have hFc := va_free (wc := (wX9 cI cZ am K)) hD hS hA [43, 44, 45, 46, 47, 48, 49, 50, 51] rfl
  refine va_calli (va_runV (As := [.int ((xs (3 * n + 1)))]) (rest := []) ⟨hx, hb, hml, hown, hts⟩ (c_X9_wasFetch l dC dI cI cZ am H.size K ((xs (3 * n + 1))) y hf9) (cwV 1 hts gL_law_X9_wasFetch rfl rfl rfl (by decide +kernel) ⟨Nat.le_of_ble_eq_true rfl, Nat.le_of_ble_eq_true rfl⟩) ⟨WR.blind, va_recv hK hP (ci := 9) (q0 := 43) rfl rfl, WR.pre hPc hK2 hDc hNW⟩ rfl rfl hl.1 rfl (lv_room (Nat.le_of_ble_eq_true rfl)) dL_law_2304 ⟨by show _ + 0 ≤ 601024; omega, by show _ + 0 ≤ 7293034; omega⟩) hS (fun q _ h => hFc q h) hFc (fun rv u t H1 locs ht hvm hw hB hz1 hk1 hS => ?_)
  obtain ⟨hP1, hD1⟩ := hB
  rw [ht] at hP1
  rw [hw]
  obtain ⟨hP, hD⟩ := join_app (ws := (wLaw cI cZ cS cL hs1 o fl1 a M am K)) (wr := (wL cI cZ cS cL (fS hs1) (fG hs1) o fl1 a M)) (w1 := (wX9 cI cZ am (sr K 0 (y.2 0)))) hP hD [43, 44, 45, 46, 47, 48, 49, 50, 51] [0, 1, 2, 3, 4, 5, 6, 7, 8, 9, 10, 11, 12, 13, 14, 15, 16, 17, 18, 19, 20, 21, 22, 23, 24, 25, 26, 27, 28, 29, 30, 31, 32, 33, 34, 35, 36, 37, 38, 39, 40, 41, 42] rfl rfl (by decide) (by decide) hk1 hFc hP1 hD1
  have hP : va_P (dC, dI) vwCl ((wLaw cI cZ cS cL hs1 o fl1 a M am (sr K 0 (y.2 0))) ++ RW cI cZ hs1) H1 := hP
  have hD : va_D A ((wLaw cI cZ cS cL hs1 o fl1 a M am (sr K 0 (y.2 0))) ++ RW cI cZ hs1) := hD
  generalize H1 = H at hP hS ⊢
  refine lv_istore (lv' := [(6, .int y.1), (5, .int kk), (0, .ref b), (1, .ref (a 0)), (2, .ref (am 0)), (3, .ref o), (4, .int (nI (3 * n)))]) hx hb dL_law_2307 hl (by decide) rfl (fun ls hl => ?_)
  refine lv_aload_n hx hb dL_law_2309 rfl (lv_at hl 4 rfl) ?_
  have hPc := P_head (ws := (wLaw cI cZ cS cL hs1 o fl1 a M am (sr K 0 (y.2 0)))) (ws' := (wX9 cI cZ am (sr K 0 (y.2 0)))) hP [43, 44, 45, 46, 47, 48, 49, 50, 51] rfl
  refine cRO (W.runV (As := []) (rest := []) ⟨hx, hb, hml, hown, hts⟩ (c_X9_thrown l dC dI cI cZ am (sr K 0 (y.2 0)) ((sr K 0 (y.2 0)) 0 0) rfl) (cwV 0 hts gL_law_X9_thrown rfl rfl rfl (by decide +kernel) ⟨Nat.le_of_ble_eq_true rfl, Nat.le_of_ble_eq_true rfl⟩) ⟨RO.blind, va_recv hK hP (ci := 9) (q0 := 43) rfl rfl, RO.pre hPc hK2 hNW⟩ rfl rfl hl.1 rfl (lv_room (Nat.le_of_ble_eq_true rfl)) dL_law_2310 ⟨by show _ + 0 ≤ 601024; omega, by show _ + 0 ≤ 7293034; omega⟩) ?_
  refine lv_iload hx hb dL_law_2313 (lv_at hl 1 rfl) ?_
  refine lv_icmp_eq (tgt := 2320) hx hb dL_law_2315 (by decide) (fun c9 => ?_) (fun c9 => absurd h9k c9)
  refine lv_iload hx hb dL_law_2320 (lv_at hl 1 rfl) ?_
  refine lv_if_ne (tgt := 2344) hx hb dL_law_2322 (by decide) (fun c9 => ?_) (fun c9 => ?_)
  · refine lv_goto (tgt := 3556) hx hb dL_law_2344 (by decide) ?_
    refine W.widen (k := cells + 17) (n := slots + 322) (by omega) (by omega) ?_
    exact kk9 hs1 fl1 _ _ _ H locs hI9 (lv_sub hl [2, 3, 4, 5, 6] rfl) hP hD hS
  obtain ⟨u, hr9⟩ := Ans_z hA9 c9
  have hv9 := hout u hr9
  have hu9 := hval u hr9
  refine lv_aload_n hx hb dL_law_2325 rfl (lv_at hl 5 rfl) ?_
  refine lv_iconst (v := (0 : Int32)) hx hb dL_law_2326 (by decide) ?_
  refine va_lald (D := (dC, dI)) (f := fl1) hx hb hK hP 0 3 rfl rfl (inb_in rfl) dL_law_2327 ?_
  refine lv_iload hx hb dL_law_2328 (lv_at hl 0 rfl) ?_
  refine lv_if_eq (tgt := 2337) hx hb dL_law_2330 (by decide) (fun c8 => ?_) (fun c8 => ?_)
  · refine lv_lconst (v := (0 : Int64)) hx hb dL_law_2337 (by decide) ?_
    refine W.lcmp hx hb dL_law_2338 ?_
    refine lv_if_eq (tgt := 2344) hx hb dL_law_2339 (by decide) (fun c7 => ?_) (fun c7 => absurd (lg_eq (hv9.trans (if_pos (hu9.trans c8)))) c7)
    refine lv_goto (tgt := 3556) hx hb dL_law_2344 (by decide) ?_
    refine W.widen (k := cells + 17) (n := slots + 322) (by omega) (by omega) ?_
    exact kk9 hs1 fl1 _ _ _ H locs hI9 (lv_sub hl [2, 3, 4, 5, 6] rfl) hP hD hS
  · refine lv_lconst (v := (1 : Int64)) hx hb dL_law_2333 (by decide) ?_
    refine lv_goto (tgt := 2338) hx hb dL_law_2334 (by decide) ?_
    refine W.lcmp hx hb dL_law_2338 ?_
    refine lv_if_eq (tgt := 2344) hx hb dL_law_2339 (by decide) (fun c7 => ?_) (fun c7 => absurd (lg_eq (hv9.trans (if_neg (fun h => c8 (hu9.symm.trans h))))) c7)
    refine lv_goto (tgt := 3556) hx hb dL_law_2344 (by decide) ?_
    refine W.widen (k := cells + 17) (n := slots + 322) (by omega) (by omega) ?_
    exact kk9 hs1 fl1 _ _ _ H locs hI9 (lv_sub hl [2, 3, 4, 5, 6] rfl) hP hD hS
set_option maxHeartbeats 4000000 in
set_option maxRecDepth 100000 in
theorem lc_weightOfKind {p : Program} {l : Launch} {e : Env} {s : State} {m : MethodId} {below : List Frame} {meth : Method} {c : Code} {b L : Nat} {xs : Nat → Int32} {dC : Nat → ClassId} {dI : Nat → Nat → Nat} {cI cZ cS cL : ClassId} {A : Nat → Prop} {a am : Nat → Nat} {o : Nat} {Q : State → Prop} (X0 : LCx p l s m c b L xs dC dI cI cZ cS cL A) {Inv : Nat → (Nat → Option Mem) → Mem → Mem → Prop} (hSt : St_weightOfKind Inv) {n : Nat} (hn : n < 512) (hnL : 3 * n + 2 < L) (hL : L ≤ 1536) {hs : HS} {fl : Nat → Int64} {M K : Mem} (hI : Inv n (cts hs) M K) {ls : Array Slot} {H : Heap} {locs : List Loc} {cells slots : Nat} (hcs : cells + 17 ≤ 601024) (hss : slots + 322 ≤ 7293034) (hl : lv_has ls 9 [(0, .ref b), (1, .ref (a 0)), (2, .ref (am 0)), (3, .ref o), (4, .int (nI (3 * n)))]) (hP : va_P (dC, dI) vwCl (wLaw cI cZ cS cL hs o fl a M am K ++ RW cI cZ hs) H) (hD : va_D A (wLaw cI cZ cS cL hs o fl a M am K ++ RW cI cZ hs)) (hS : va_S A s.heap H locs) (kk9 : ∀ (hs' : HS) (fl' : Nat → Int64) (M' K' : Mem) (ls : Array Slot) (H : Heap) (locs : List Loc), Inv (n + 1) (cts hs') M' K' → lv_has ls 9 [(0, .ref b), (1, .ref (a 0)), (2, .ref (am 0)), (3, .ref o), (4, .int (nI (3 * n)))] → va_P (dC, dI) vwCl (wLaw cI cZ cS cL hs' o fl' a M' am K' ++ RW cI cZ hs') H → va_D A (wLaw cI cZ cS cL hs' o fl' a M' am K' ++ RW cI cZ hs') → va_S A s.heap H locs → W p l e room_1 s m #[Value.ref b] below meth c H locs (cells + 17) (slots + 322) Q (F0 m 3556 ls [])) : W p l e room_1 s m #[Value.ref b] below meth c H locs cells slots Q (F0 m 2347 ls []) := by
  obtain ⟨hx, hb, hml, hown, hts, hK, hNW, hEX, hNC, hA, hXs, hbl, hbA, hst⟩ := X0
  have hK8 : va_K (dC, dI) vwCl (tys8 cI cZ cS) s := hK.sub (tys' := tys8 cI cZ cS) [0, 1, 2] rfl
  have hK2 : va_K (dC, dI) vwCl [(cI, .int), (cZ, .boolean)] s := hK.sub (tys' := [(cI, .int), (cZ, .boolean)]) [0, 1] rfl
  obtain ⟨r, kk, y, hf8, hA9, hf9, h9k, hval, hI9⟩ := hSt n (cts hs) M K (xs (3 * n + 1)) hn hI
  refine lv_aload_n hx hb dL_law_2347 rfl (lv_at hl 1 rfl) ?_
  refine lv_aload_n hx hb dL_law_2348 rfl (lv_at hl 0 rfl) ?_
  refine lv_iload hx hb dL_law_2349 (lv_at hl 4 rfl) ?_
  refine lv_iconst (v := (1 : Int32)) hx hb dL_law_2351 (by decide) ?_
  refine lv_iadd hx hb dL_law_2352 ?_
  rw [show nI (3 * n) + (1 : Int32) = nI (3 * n + 1) from nI_add (3 * n) 1]
  refine va_sld hx hb hXs hbl hbA hS (vp_in_nI (by omega) (by omega)) dL_law_2353 ?_
  rw [nI_clamp (show 3 * n + 1 < 2 ^ 31 by omega)]
  refine lv_aload_n hx hb dL_law_2354 rfl (lv_at hl 3 rfl) ?_
  have hPc := hP.part (X := (wLaw cI cZ cS cL hs o fl a M am K)) (cx := (wL cI cZ cS cL (fS hs) (fG hs) o fl a M)) [0, 1, 2, 3, 4, 5, 6, 7, 8, 9, 10, 11, 12, 13, 14, 15, 16, 17, 18, 19, 20, 21, 22, 23, 24, 25, 26, 27, 28, 29, 30, 31, 32, 33, 34, 35, 36, 37, 38, 39, 40, 41, 42] rfl
  have hDc := hD.part (X := (wLaw cI cZ cS cL hs o fl a M am K)) (cx := (wL cI cZ cS cL (fS hs) (fG hs) o fl a M)) [0, 1, 2, 3, 4, 5, 6, 7, 8, 9, 10, 11, 12, 13, 14, 15, 16, 17, 18, 19, 20, 21, 22, 23, 24, 25, 26, 27, 28, 29, 30, 31, 32, 33, 34, 35, 36, 37, 38, 39, 40, 41, 42] (by decide) rfl
  have hFc := va_freeP (X := (wLaw cI cZ cS cL hs o fl a M am K)) (cx := (wL cI cZ cS cL (fS hs) (fG hs) o fl a M)) hD hS hA [0, 1, 2, 3, 4, 5, 6, 7, 8, 9, 10, 11, 12, 13, 14, 15, 16, 17, 18, 19, 20, 21, 22, 23, 24, 25, 26, 27, 28, 29, 30, 31, 32, 33, 34, 35, 36, 37, 38, 39, 40, 41, 42] rfl
  refine va_calli (vx_runSW (As := [.ref (a 0), .int ((xs (3 * n + 1))), .ref o]) (rest := []) ⟨hx, hb, hml, hown, hts⟩ (w_L_weightOfKind l hst dC dI cI cZ cS cL hs o fl a H.size M ((xs (3 * n + 1))) r kk hf8 hA9) (vx_cwSW 3 hts gL_law_L_weightOfKind rfl rfl rfl (by decide +kernel) ⟨Nat.le_of_ble_eq_true rfl, Nat.le_of_ble_eq_true rfl⟩) ⟨T9.blind, T9.pre hPc hK hDc hNW (hEX.at hS hFc) hNC⟩ rfl rfl hl.1 rfl (lv_room (Nat.le_of_ble_eq_true rfl)) dL_law_2355 ⟨by show cells + 1 ≤ 601024; omega, by show slots + 6 ≤ 7293034; omega⟩) hS (fun q _ h => hFc q h) hFc (fun rv u t H1 locs ht hvm hw hB hz1 hk1 hS => ?_)
  obtain ⟨hw1, hw2, hout⟩ := hw
  obtain ⟨hs1, fl1⟩ := u
  have hw2 : hs1 = hs := hw2
  rw [hw1]
  obtain ⟨hP1, hD1⟩ := hB
  rw [ht] at hP1
  obtain ⟨hP, hD⟩ := va_joinP (X := (wLaw cI cZ cS cL hs o fl a M am K)) (cx := (wL cI cZ cS cL (fS hs) (fG hs) o fl a M)) (wr := (wX9 cI cZ am K)) (rx := (wL cI cZ cS cL (fS hs1) (fG hs1) o fl1 a M)) hP hD [0, 1, 2, 3, 4, 5, 6, 7, 8, 9, 10, 11, 12, 13, 14, 15, 16, 17, 18, 19, 20, 21, 22, 23, 24, 25, 26, 27, 28, 29, 30, 31, 32, 33, 34, 35, 36, 37, 38, 39, 40, 41, 42] [43, 44, 45, 46, 47, 48, 49, 50, 51] rfl rfl (by decide) (by decide) hk1 hFc hP1 hD1
  have hP := hP.part (cx := (wLaw cI cZ cS cL hs1 o fl1 a M am K)) [9, 10, 11, 12, 13, 14, 15, 16, 17, 18, 19, 20, 21, 22, 23, 24, 25, 26, 27, 28, 29, 30, 31, 32, 33, 34, 35, 36, 37, 38, 39, 40, 41, 42, 43, 44, 45, 46, 47, 48, 49, 50, 51, 0, 1, 2, 3, 4, 5, 6, 7, 8] rfl
  have hD := hD.part (cx := (wLaw cI cZ cS cL hs1 o fl1 a M am K)) [9, 10, 11, 12, 13, 14, 15, 16, 17, 18, 19, 20, 21, 22, 23, 24, 25, 26, 27, 28, 29, 30, 31, 32, 33, 34, 35, 36, 37, 38, 39, 40, 41, 42, 43, 44, 45, 46, 47, 48, 49, 50, 51, 0, 1, 2, 3, 4, 5, 6, 7, 8] (by decide) rfl
  generalize H1 = H at hP hS ⊢
  rw [← hw2] at hI9
  refine lv_istore (lv' := [(5, .int kk), (0, .ref b), (1, .ref (a 0)), (2, .ref (am 0)), (3, .ref o), (4, .int (nI (3 * n)))]) hx hb dL_law_2358 hl (by decide) rfl (fun ls hl => ?_)
  refine lv_aload_n hx hb dL_law_2360 rfl (lv_at hl 3 rfl) ?_
  refine lv_aload_n hx hb dL_law_2361 rfl (lv_at hl 1 rfl) ?_
  refine lv_iload hx hb dL_law_2362 (lv_at hl 5 rfl) ?_
  refine lv_iconst (v := (1 : Int32)) hx hb dL_law_2364 (by decide) ?_
  refine lv_iadd hx hb dL_law_2365 ?_
  rw [show nI (3 * n) + (1 : Int32) = nI (3 * n + 1) from nI_add (3 * n) 1]
  refine va_sld hx hb hXs hbl hbA hS (vp_in_nI (by omega) (by omega)) dL_law_2366 ?_
  rw [nI_clamp (show 3 * n + 1 < 2 ^ 31 by omega)]
  have hPc := P_head (ws := (wLaw cI cZ cS cL hs1 o fl1 a M am K)) (ws' := (wX9 cI cZ am K)) hP [43, 44, 45, 46, 47, 48, 49, 50, 51] rfl
  have hDc := D_head (ws := (wLaw cI cZ cS cL hs1 o fl1 a M am K)) (ws' := (wX9 cI cZ am K)) hD [43, 44, 45, 46, 47, 48, 49, 50, 51] (by decide) rfl
  have hFc := va_free (wc := (wX9 cI cZ am K)) hD hS hA [43, 44, 45, 46, 47, 48, 49, 50, 51] rfl
  refine va_calli (va_runV (As := [.int ((xs (3 * n + 1)))]) (rest := []) ⟨hx, hb, hml, hown, hts⟩ (c_X9_weightOfKind l dC dI cI cZ am H.size K ((xs (3 * n + 1))) y hf9) (cwV 1 hts gL_law_X9_weightOfKind rfl rfl rfl (by decide +kernel) ⟨Nat.le_of_ble_eq_true rfl, Nat.le_of_ble_eq_true rfl⟩) ⟨WR.blind, va_recv hK hP (ci := 9) (q0 := 43) rfl rfl, WR.pre hPc hK2 hDc hNW⟩ rfl rfl hl.1 rfl (lv_room (Nat.le_of_ble_eq_true rfl)) dL_law_2367 ⟨by show _ + 0 ≤ 601024; omega, by show _ + 0 ≤ 7293034; omega⟩) hS (fun q _ h => hFc q h) hFc (fun rv u t H1 locs ht hvm hw hB hz1 hk1 hS => ?_)
  obtain ⟨hP1, hD1⟩ := hB
  rw [ht] at hP1
  rw [hw]
  obtain ⟨hP, hD⟩ := join_app (ws := (wLaw cI cZ cS cL hs1 o fl1 a M am K)) (wr := (wL cI cZ cS cL (fS hs1) (fG hs1) o fl1 a M)) (w1 := (wX9 cI cZ am (sr K 0 (y.2 0)))) hP hD [43, 44, 45, 46, 47, 48, 49, 50, 51] [0, 1, 2, 3, 4, 5, 6, 7, 8, 9, 10, 11, 12, 13, 14, 15, 16, 17, 18, 19, 20, 21, 22, 23, 24, 25, 26, 27, 28, 29, 30, 31, 32, 33, 34, 35, 36, 37, 38, 39, 40, 41, 42] rfl rfl (by decide) (by decide) hk1 hFc hP1 hD1
  have hP : va_P (dC, dI) vwCl ((wLaw cI cZ cS cL hs1 o fl1 a M am (sr K 0 (y.2 0))) ++ RW cI cZ hs1) H1 := hP
  have hD : va_D A ((wLaw cI cZ cS cL hs1 o fl1 a M am (sr K 0 (y.2 0))) ++ RW cI cZ hs1) := hD
  generalize H1 = H at hP hS ⊢
  refine lv_istore (lv' := [(6, .int y.1), (5, .int kk), (0, .ref b), (1, .ref (a 0)), (2, .ref (am 0)), (3, .ref o), (4, .int (nI (3 * n)))]) hx hb dL_law_2370 hl (by decide) rfl (fun ls hl => ?_)
  refine lv_aload_n hx hb dL_law_2372 rfl (lv_at hl 4 rfl) ?_
  have hPc := P_head (ws := (wLaw cI cZ cS cL hs1 o fl1 a M am (sr K 0 (y.2 0)))) (ws' := (wX9 cI cZ am (sr K 0 (y.2 0)))) hP [43, 44, 45, 46, 47, 48, 49, 50, 51] rfl
  refine cRO (W.runV (As := []) (rest := []) ⟨hx, hb, hml, hown, hts⟩ (c_X9_thrown l dC dI cI cZ am (sr K 0 (y.2 0)) ((sr K 0 (y.2 0)) 0 0) rfl) (cwV 0 hts gL_law_X9_thrown rfl rfl rfl (by decide +kernel) ⟨Nat.le_of_ble_eq_true rfl, Nat.le_of_ble_eq_true rfl⟩) ⟨RO.blind, va_recv hK hP (ci := 9) (q0 := 43) rfl rfl, RO.pre hPc hK2 hNW⟩ rfl rfl hl.1 rfl (lv_room (Nat.le_of_ble_eq_true rfl)) dL_law_2373 ⟨by show _ + 0 ≤ 601024; omega, by show _ + 0 ≤ 7293034; omega⟩) ?_
  refine lv_iload hx hb dL_law_2376 (lv_at hl 1 rfl) ?_
  refine lv_icmp_eq (tgt := 2383) hx hb dL_law_2378 (by decide) (fun c9 => ?_) (fun c9 => absurd h9k c9)
  refine lv_iload hx hb dL_law_2383 (lv_at hl 1 rfl) ?_
  refine lv_if_ne (tgt := 2400) hx hb dL_law_2385 (by decide) (fun c9 => ?_) (fun c9 => ?_)
  · refine lv_goto (tgt := 3556) hx hb dL_law_2400 (by decide) ?_
    refine W.widen (k := cells + 17) (n := slots + 322) (by omega) (by omega) ?_
    exact kk9 hs1 fl1 _ _ _ H locs hI9 (lv_sub hl [2, 3, 4, 5, 6] rfl) hP hD hS
  obtain ⟨u, hr9⟩ := Ans_z hA9 c9
  have hv9 := hout u hr9
  have hu9 := hval u hr9
  refine lv_aload_n hx hb dL_law_2388 rfl (lv_at hl 5 rfl) ?_
  refine lv_iconst (v := (0 : Int32)) hx hb dL_law_2389 (by decide) ?_
  refine va_lald (D := (dC, dI)) (f := fl1) hx hb hK hP 0 3 rfl rfl (inb_in rfl) dL_law_2390 ?_
  refine lv_iload hx hb dL_law_2391 (lv_at hl 0 rfl) ?_
  refine lv_i2l (v := (y.1).toInt64) hx hb dL_law_2393 rfl ?_
  refine W.lcmp hx hb dL_law_2394 ?_
  refine lv_if_eq (tgt := 2400) hx hb dL_law_2395 (by decide) (fun c7 => ?_) (fun c7 => absurd (lg_eq (hv9.trans (congrArg Int32.toInt64 hu9))) c7)
  refine lv_goto (tgt := 3556) hx hb dL_law_2400 (by decide) ?_
  refine W.widen (k := cells + 17) (n := slots + 322) (by omega) (by omega) ?_
  exact kk9 hs1 fl1 _ _ _ H locs hI9 (lv_sub hl [2, 3, 4, 5, 6] rfl) hP hD hS
set_option maxHeartbeats 4000000 in
set_option maxRecDepth 100000 in
theorem lc_stockByShelves {p : Program} {l : Launch} {e : Env} {s : State} {m : MethodId} {below : List Frame} {meth : Method} {c : Code} {b L : Nat} {xs : Nat → Int32} {dC : Nat → ClassId} {dI : Nat → Nat → Nat} {cI cZ cS cL : ClassId} {A : Nat → Prop} {a am : Nat → Nat} {o : Nat} {Q : State → Prop} (X0 : LCx p l s m c b L xs dC dI cI cZ cS cL A) {Inv : Nat → (Nat → Option Mem) → Mem → Mem → Prop} (hSt : St_stockByShelves Inv) {n : Nat} (hn : n < 512) (hnL : 3 * n + 2 < L) (hL : L ≤ 1536) {hs : HS} {fl : Nat → Int64} {M K : Mem} (hI : Inv n (cts hs) M K) {ls : Array Slot} {H : Heap} {locs : List Loc} {cells slots : Nat} (hcs : cells + 17 ≤ 601024) (hss : slots + 322 ≤ 7293034) (hl : lv_has ls 9 [(0, .ref b), (1, .ref (a 0)), (2, .ref (am 0)), (3, .ref o), (4, .int (nI (3 * n)))]) (hP : va_P (dC, dI) vwCl (wLaw cI cZ cS cL hs o fl a M am K ++ RW cI cZ hs) H) (hD : va_D A (wLaw cI cZ cS cL hs o fl a M am K ++ RW cI cZ hs)) (hS : va_S A s.heap H locs) (kk9 : ∀ (hs' : HS) (fl' : Nat → Int64) (M' K' : Mem) (ls : Array Slot) (H : Heap) (locs : List Loc), Inv (n + 1) (cts hs') M' K' → lv_has ls 9 [(0, .ref b), (1, .ref (a 0)), (2, .ref (am 0)), (3, .ref o), (4, .int (nI (3 * n)))] → va_P (dC, dI) vwCl (wLaw cI cZ cS cL hs' o fl' a M' am K' ++ RW cI cZ hs') H → va_D A (wLaw cI cZ cS cL hs' o fl' a M' am K' ++ RW cI cZ hs') → va_S A s.heap H locs → W p l e room_1 s m #[Value.ref b] below meth c H locs (cells + 17) (slots + 322) Q (F0 m 3556 ls [])) : W p l e room_1 s m #[Value.ref b] below meth c H locs cells slots Q (F0 m 2403 ls []) := by
  obtain ⟨hx, hb, hml, hown, hts, hK, hNW, hEX, hNC, hA, hXs, hbl, hbA, hst⟩ := X0
  have hK8 : va_K (dC, dI) vwCl (tys8 cI cZ cS) s := hK.sub (tys' := tys8 cI cZ cS) [0, 1, 2] rfl
  have hK2 : va_K (dC, dI) vwCl [(cI, .int), (cZ, .boolean)] s := hK.sub (tys' := [(cI, .int), (cZ, .boolean)]) [0, 1] rfl
  obtain ⟨r, kk, y, hf8, hA9, hf9, h9k, hval, hI9⟩ := hSt n (cts hs) M K (xs (3 * n + 1)) hn hI
  refine lv_aload_n hx hb dL_law_2403 rfl (lv_at hl 1 rfl) ?_
  refine lv_aload_n hx hb dL_law_2404 rfl (lv_at hl 0 rfl) ?_
  refine lv_iload hx hb dL_law_2405 (lv_at hl 4 rfl) ?_
  refine lv_iconst (v := (1 : Int32)) hx hb dL_law_2407 (by decide) ?_
  refine lv_iadd hx hb dL_law_2408 ?_
  rw [show nI (3 * n) + (1 : Int32) = nI (3 * n + 1) from nI_add (3 * n) 1]
  refine va_sld hx hb hXs hbl hbA hS (vp_in_nI (by omega) (by omega)) dL_law_2409 ?_
  rw [nI_clamp (show 3 * n + 1 < 2 ^ 31 by omega)]
  refine lv_aload_n hx hb dL_law_2410 rfl (lv_at hl 3 rfl) ?_
  have hPc := hP.part (X := (wLaw cI cZ cS cL hs o fl a M am K)) (cx := (wL cI cZ cS cL (fS hs) (fG hs) o fl a M)) [0, 1, 2, 3, 4, 5, 6, 7, 8, 9, 10, 11, 12, 13, 14, 15, 16, 17, 18, 19, 20, 21, 22, 23, 24, 25, 26, 27, 28, 29, 30, 31, 32, 33, 34, 35, 36, 37, 38, 39, 40, 41, 42] rfl
  have hDc := hD.part (X := (wLaw cI cZ cS cL hs o fl a M am K)) (cx := (wL cI cZ cS cL (fS hs) (fG hs) o fl a M)) [0, 1, 2, 3, 4, 5, 6, 7, 8, 9, 10, 11, 12, 13, 14, 15, 16, 17, 18, 19, 20, 21, 22, 23, 24, 25, 26, 27, 28, 29, 30, 31, 32, 33, 34, 35, 36, 37, 38, 39, 40, 41, 42] (by decide) rfl
  have hFc := va_freeP (X := (wLaw cI cZ cS cL hs o fl a M am K)) (cx := (wL cI cZ cS cL (fS hs) (fG hs) o fl a M)) hD hS hA [0, 1, 2, 3, 4, 5, 6, 7, 8, 9, 10, 11, 12, 13, 14, 15, 16, 17, 18, 19, 20, 21, 22, 23, 24, 25, 26, 27, 28, 29, 30, 31, 32, 33, 34, 35, 36, 37, 38, 39, 40, 41, 42] rfl
  refine va_calli (vx_runSW (As := [.ref (a 0), .int ((xs (3 * n + 1))), .ref o]) (rest := []) ⟨hx, hb, hml, hown, hts⟩ (w_L_stockByShelves l hst dC dI cI cZ cS cL hs o fl a H.size M ((xs (3 * n + 1))) r kk hf8 hA9) (vx_cwSW 3 hts gL_law_L_stockByShelves rfl rfl rfl (by decide +kernel) ⟨Nat.le_of_ble_eq_true rfl, Nat.le_of_ble_eq_true rfl⟩) ⟨T9.blind, T9.pre hPc hK hDc hNW (hEX.at hS hFc) hNC⟩ rfl rfl hl.1 rfl (lv_room (Nat.le_of_ble_eq_true rfl)) dL_law_2411 ⟨by show cells + 1 ≤ 601024; omega, by show slots + 6 ≤ 7293034; omega⟩) hS (fun q _ h => hFc q h) hFc (fun rv u t H1 locs ht hvm hw hB hz1 hk1 hS => ?_)
  obtain ⟨hw1, hw2, hout⟩ := hw
  obtain ⟨hs1, fl1⟩ := u
  have hw2 : hs1 = hs := hw2
  rw [hw1]
  obtain ⟨hP1, hD1⟩ := hB
  rw [ht] at hP1
  obtain ⟨hP, hD⟩ := va_joinP (X := (wLaw cI cZ cS cL hs o fl a M am K)) (cx := (wL cI cZ cS cL (fS hs) (fG hs) o fl a M)) (wr := (wX9 cI cZ am K)) (rx := (wL cI cZ cS cL (fS hs1) (fG hs1) o fl1 a M)) hP hD [0, 1, 2, 3, 4, 5, 6, 7, 8, 9, 10, 11, 12, 13, 14, 15, 16, 17, 18, 19, 20, 21, 22, 23, 24, 25, 26, 27, 28, 29, 30, 31, 32, 33, 34, 35, 36, 37, 38, 39, 40, 41, 42] [43, 44, 45, 46, 47, 48, 49, 50, 51] rfl rfl (by decide) (by decide) hk1 hFc hP1 hD1
  have hP := hP.part (cx := (wLaw cI cZ cS cL hs1 o fl1 a M am K)) [9, 10, 11, 12, 13, 14, 15, 16, 17, 18, 19, 20, 21, 22, 23, 24, 25, 26, 27, 28, 29, 30, 31, 32, 33, 34, 35, 36, 37, 38, 39, 40, 41, 42, 43, 44, 45, 46, 47, 48, 49, 50, 51, 0, 1, 2, 3, 4, 5, 6, 7, 8] rfl
  have hD := hD.part (cx := (wLaw cI cZ cS cL hs1 o fl1 a M am K)) [9, 10, 11, 12, 13, 14, 15, 16, 17, 18, 19, 20, 21, 22, 23, 24, 25, 26, 27, 28, 29, 30, 31, 32, 33, 34, 35, 36, 37, 38, 39, 40, 41, 42, 43, 44, 45, 46, 47, 48, 49, 50, 51, 0, 1, 2, 3, 4, 5, 6, 7, 8] (by decide) rfl
  generalize H1 = H at hP hS ⊢
  rw [← hw2] at hI9
  refine lv_istore (lv' := [(5, .int kk), (0, .ref b), (1, .ref (a 0)), (2, .ref (am 0)), (3, .ref o), (4, .int (nI (3 * n)))]) hx hb dL_law_2414 hl (by decide) rfl (fun ls hl => ?_)
  refine lv_aload_n hx hb dL_law_2416 rfl (lv_at hl 3 rfl) ?_
  refine lv_aload_n hx hb dL_law_2417 rfl (lv_at hl 1 rfl) ?_
  refine lv_iload hx hb dL_law_2418 (lv_at hl 5 rfl) ?_
  refine lv_iconst (v := (1 : Int32)) hx hb dL_law_2420 (by decide) ?_
  refine lv_iadd hx hb dL_law_2421 ?_
  rw [show nI (3 * n) + (1 : Int32) = nI (3 * n + 1) from nI_add (3 * n) 1]
  refine va_sld hx hb hXs hbl hbA hS (vp_in_nI (by omega) (by omega)) dL_law_2422 ?_
  rw [nI_clamp (show 3 * n + 1 < 2 ^ 31 by omega)]
  have hPc := P_head (ws := (wLaw cI cZ cS cL hs1 o fl1 a M am K)) (ws' := (wX9 cI cZ am K)) hP [43, 44, 45, 46, 47, 48, 49, 50, 51] rfl
  have hDc := D_head (ws := (wLaw cI cZ cS cL hs1 o fl1 a M am K)) (ws' := (wX9 cI cZ am K)) hD [43, 44, 45, 46, 47, 48, 49, 50, 51] (by decide) rfl
  have hFc := va_free (wc := (wX9 cI cZ am K)) hD hS hA [43, 44, 45, 46, 47, 48, 49, 50, 51] rfl
  refine va_calli (va_runV (As := [.int ((xs (3 * n + 1)))]) (rest := []) ⟨hx, hb, hml, hown, hts⟩ (c_X9_stockByShelves l dC dI cI cZ am H.size K ((xs (3 * n + 1))) y hf9) (cwV 1 hts gL_law_X9_stockByShelves rfl rfl rfl (by decide +kernel) ⟨Nat.le_of_ble_eq_true rfl, Nat.le_of_ble_eq_true rfl⟩) ⟨WR.blind, va_recv hK hP (ci := 9) (q0 := 43) rfl rfl, WR.pre hPc hK2 hDc hNW⟩ rfl rfl hl.1 rfl (lv_room (Nat.le_of_ble_eq_true rfl)) dL_law_2423 ⟨by show _ + 0 ≤ 601024; omega, by show _ + 0 ≤ 7293034; omega⟩) hS (fun q _ h => hFc q h) hFc (fun rv u t H1 locs ht hvm hw hB hz1 hk1 hS => ?_)
  obtain ⟨hP1, hD1⟩ := hB
  rw [ht] at hP1
  rw [hw]
  obtain ⟨hP, hD⟩ := join_app (ws := (wLaw cI cZ cS cL hs1 o fl1 a M am K)) (wr := (wL cI cZ cS cL (fS hs1) (fG hs1) o fl1 a M)) (w1 := (wX9 cI cZ am (sr K 0 (y.2 0)))) hP hD [43, 44, 45, 46, 47, 48, 49, 50, 51] [0, 1, 2, 3, 4, 5, 6, 7, 8, 9, 10, 11, 12, 13, 14, 15, 16, 17, 18, 19, 20, 21, 22, 23, 24, 25, 26, 27, 28, 29, 30, 31, 32, 33, 34, 35, 36, 37, 38, 39, 40, 41, 42] rfl rfl (by decide) (by decide) hk1 hFc hP1 hD1
  have hP : va_P (dC, dI) vwCl ((wLaw cI cZ cS cL hs1 o fl1 a M am (sr K 0 (y.2 0))) ++ RW cI cZ hs1) H1 := hP
  have hD : va_D A ((wLaw cI cZ cS cL hs1 o fl1 a M am (sr K 0 (y.2 0))) ++ RW cI cZ hs1) := hD
  generalize H1 = H at hP hS ⊢
  refine lv_istore (lv' := [(6, .int y.1), (5, .int kk), (0, .ref b), (1, .ref (a 0)), (2, .ref (am 0)), (3, .ref o), (4, .int (nI (3 * n)))]) hx hb dL_law_2426 hl (by decide) rfl (fun ls hl => ?_)
  refine lv_aload_n hx hb dL_law_2428 rfl (lv_at hl 4 rfl) ?_
  have hPc := P_head (ws := (wLaw cI cZ cS cL hs1 o fl1 a M am (sr K 0 (y.2 0)))) (ws' := (wX9 cI cZ am (sr K 0 (y.2 0)))) hP [43, 44, 45, 46, 47, 48, 49, 50, 51] rfl
  refine cRO (W.runV (As := []) (rest := []) ⟨hx, hb, hml, hown, hts⟩ (c_X9_thrown l dC dI cI cZ am (sr K 0 (y.2 0)) ((sr K 0 (y.2 0)) 0 0) rfl) (cwV 0 hts gL_law_X9_thrown rfl rfl rfl (by decide +kernel) ⟨Nat.le_of_ble_eq_true rfl, Nat.le_of_ble_eq_true rfl⟩) ⟨RO.blind, va_recv hK hP (ci := 9) (q0 := 43) rfl rfl, RO.pre hPc hK2 hNW⟩ rfl rfl hl.1 rfl (lv_room (Nat.le_of_ble_eq_true rfl)) dL_law_2429 ⟨by show _ + 0 ≤ 601024; omega, by show _ + 0 ≤ 7293034; omega⟩) ?_
  refine lv_iload hx hb dL_law_2432 (lv_at hl 1 rfl) ?_
  refine lv_icmp_eq (tgt := 2439) hx hb dL_law_2434 (by decide) (fun c9 => ?_) (fun c9 => absurd h9k c9)
  refine lv_iload hx hb dL_law_2439 (lv_at hl 1 rfl) ?_
  refine lv_if_ne (tgt := 2456) hx hb dL_law_2441 (by decide) (fun c9 => ?_) (fun c9 => ?_)
  · refine lv_goto (tgt := 3556) hx hb dL_law_2456 (by decide) ?_
    refine W.widen (k := cells + 17) (n := slots + 322) (by omega) (by omega) ?_
    exact kk9 hs1 fl1 _ _ _ H locs hI9 (lv_sub hl [2, 3, 4, 5, 6] rfl) hP hD hS
  obtain ⟨u, hr9⟩ := Ans_z hA9 c9
  have hv9 := hout u hr9
  have hu9 := hval u hr9
  refine lv_aload_n hx hb dL_law_2444 rfl (lv_at hl 5 rfl) ?_
  refine lv_iconst (v := (0 : Int32)) hx hb dL_law_2445 (by decide) ?_
  refine va_lald (D := (dC, dI)) (f := fl1) hx hb hK hP 0 3 rfl rfl (inb_in rfl) dL_law_2446 ?_
  refine lv_iload hx hb dL_law_2447 (lv_at hl 0 rfl) ?_
  refine lv_i2l (v := (y.1).toInt64) hx hb dL_law_2449 rfl ?_
  refine W.lcmp hx hb dL_law_2450 ?_
  refine lv_if_eq (tgt := 2456) hx hb dL_law_2451 (by decide) (fun c7 => ?_) (fun c7 => absurd (lg_eq (hv9.trans (congrArg Int32.toInt64 hu9))) c7)
  refine lv_goto (tgt := 3556) hx hb dL_law_2456 (by decide) ?_
  refine W.widen (k := cells + 17) (n := slots + 322) (by omega) (by omega) ?_
  exact kk9 hs1 fl1 _ _ _ H locs hI9 (lv_sub hl [2, 3, 4, 5, 6] rfl) hP hD hS
