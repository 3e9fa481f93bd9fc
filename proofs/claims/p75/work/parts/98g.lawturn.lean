set_option maxHeartbeats 4000000 in
set_option maxRecDepth 100000 in
theorem lw_286 {p : Program} {l : Launch} {e : Env} {s : State} {m : MethodId} {below : List Frame} {meth : Method} {c : Code} {b L : Nat} {xs : Nat → Int32} {dC : Nat → ClassId} {dI : Nat → Nat → Nat} {cI cZ cS : ClassId} {A : Nat → Prop} {a : Nat → Nat} {Q : State → Prop} (X0 : LCx p s m c b L xs dC dI cI cZ cS A) {n : Nat} (hn : n < 40) {cells slots : Nat} (hcs : cells + 32 ≤ 600172) (hss : slots + 632 ≤ 7300668) {hs : HS} {M : Mem} {c1 d1 : Nat} (hc1 : c1 ≤ cells + 32) (hd1 : d1 ≤ slots + 632) (hO : HO (n + 1) (cts hs) M) {ls : Array Slot} {H : Heap} {locs : List Loc} (hl : lv_has ls 12 [(2, .int (nI n)), (0, .ref b), (1, .ref (a 0))]) (hP : va_P (dC, dI) vwCl (wX8 cI cZ cS (fS hs) (fG hs) a M ++ RW cI cZ hs) H) (hD : va_D A (wX8 cI cZ cS (fS hs) (fG hs) a M ++ RW cI cZ hs)) (hS : va_S A s.heap H locs) (kk9 : ∀ (hs' : HS) (M' : Mem) (ls : Array Slot) (H : Heap) (locs : List Loc), XI (n + 1) (cts hs') M' → lv_has ls 12 [(2, .int (nI n)), (0, .ref b), (1, .ref (a 0))] → va_P (dC, dI) vwCl (wX8 cI cZ cS (fS hs') (fG hs') a M' ++ RW cI cZ hs') H → va_D A (wX8 cI cZ cS (fS hs') (fG hs') a M' ++ RW cI cZ hs') → va_S A s.heap H locs → W p l e room_1 s m #[Value.ref b] below meth c H locs (cells + 32) (slots + 632) Q (F0 m 295 ls [])) : W p l e room_1 s m #[Value.ref b] below meth c H locs (c1) (d1) Q (F0 m 286 ls []) := by
  obtain ⟨hx, hb, hml, hown, hts, hK, hNW, hA, hXs, hbl, hbA, hLb⟩ := id X0
  obtain ⟨z, hz1, hz2, hz3⟩ := hO
  refine lv_aload_n hx hb dL_law_286 rfl (lv_at hl 2 rfl) ?_
  have hPc := (P_app hP).1
  have hDc := (D_split hD).1
  have hFc := va_free (wc := (wX8 cI cZ cS (fS hs) (fG hs) a M)) hD hS hA [0, 1, 2, 3, 4, 5, 6, 7, 8, 9, 10, 11, 12, 13, 14, 15, 16, 17, 18, 19, 20, 21, 22, 23, 24, 25, 26, 27, 28, 29, 30, 31, 32, 33, 34, 35, 36, 37, 38, 39, 40, 41] rfl
  refine va_calli (va_runS (As := [.ref (a 0)]) (rest := []) ⟨hx, hb, hml, hown, hts⟩ (c_L_holds l dC dI cI cZ cS (fS hs) (fG hs) a H.size M z hz1) (va_cwS 1 hts gL_law_L_holds rfl rfl rfl (by decide +kernel) ⟨Nat.le_of_ble_eq_true rfl, Nat.le_of_ble_eq_true rfl⟩) ⟨WR8.blind, WR8.pre hPc hK hDc hNW⟩ rfl rfl hl.1 rfl (lv_room (Nat.le_of_ble_eq_true rfl)) dL_law_287 ⟨by show c1 + 0 ≤ 600172; omega, by show d1 + 0 ≤ 7300668; omega⟩) hS (fun q _ h => hFc q h) hFc (fun rv u t H1 locs ht hvm hw hB hz1 hk1 hS => ?_)
  obtain ⟨hP1, hD1⟩ := hB
  rw [ht] at hP1
  subst hw
  obtain ⟨hP, hD⟩ := join_app (ws := (wX8 cI cZ cS (fS hs) (fG hs) a M)) (wr := []) (w1 := _) hP hD [0, 1, 2, 3, 4, 5, 6, 7, 8, 9, 10, 11, 12, 13, 14, 15, 16, 17, 18, 19, 20, 21, 22, 23, 24, 25, 26, 27, 28, 29, 30, 31, 32, 33, 34, 35, 36, 37, 38, 39, 40, 41] [] rfl rfl (by decide) (by decide) hk1 hFc hP1 hD1
  have hP : va_P (dC, dI) vwCl ((wX8 cI cZ cS (fS hs) (fG hs) a (sr M 41 (z.2 41))) ++ RW cI cZ hs) H1 := hP
  have hD : va_D A ((wX8 cI cZ cS (fS hs) (fG hs) a (sr M 41 (z.2 41))) ++ RW cI cZ hs) := hD
  generalize H1 = H at hP hS ⊢
  rw [hz2]
  refine lv_if_ne (tgt := 295) hx hb dL_law_290 (by decide) (fun c9 => ?_) (fun c9 => absurd c9 (nI_ne0 (n := 1) (by omega) (by omega)))
  refine W.widen (k := cells + 32) (n := slots + 632) (by omega) (by omega) ?_
  exact kk9 hs _ ls H locs hz3 hl hP hD hS
set_option maxHeartbeats 4000000 in
set_option maxRecDepth 100000 in
theorem lw_131 {p : Program} {l : Launch} {e : Env} {s : State} {m : MethodId} {below : List Frame} {meth : Method} {c : Code} {b L : Nat} {xs : Nat → Int32} {dC : Nat → ClassId} {dI : Nat → Nat → Nat} {cI cZ cS : ClassId} {A : Nat → Prop} {a : Nat → Nat} {Q : State → Prop} (X0 : LCx p s m c b L xs dC dI cI cZ cS A) {n : Nat} (hn : n < 40) {cells slots : Nat} (hcs : cells + 32 ≤ 600172) (hss : slots + 632 ≤ 7300668) {hs : HS} {M : Mem} (hI : XI n (cts hs) M) (v : Int32) {ls : Array Slot} {H : Heap} {locs : List Loc} (hl : lv_has ls 12 [(3, .int v), (2, .int (nI n)), (0, .ref b), (1, .ref (a 0))]) (hP : va_P (dC, dI) vwCl (wX8 cI cZ cS (fS hs) (fG hs) a M ++ RW cI cZ hs) H) (hD : va_D A (wX8 cI cZ cS (fS hs) (fG hs) a M ++ RW cI cZ hs)) (hS : va_S A s.heap H locs) (kk9 : ∀ (hs' : HS) (M' : Mem) (ls : Array Slot) (H : Heap) (locs : List Loc), XI (n + 1) (cts hs') M' → lv_has ls 12 [(2, .int (nI n)), (0, .ref b), (1, .ref (a 0))] → va_P (dC, dI) vwCl (wX8 cI cZ cS (fS hs') (fG hs') a M' ++ RW cI cZ hs') H → va_D A (wX8 cI cZ cS (fS hs') (fG hs') a M' ++ RW cI cZ hs') → va_S A s.heap H locs → W p l e room_1 s m #[Value.ref b] below meth c H locs (cells + 32) (slots + 632) Q (F0 m 295 ls [])) : W p l e room_1 s m #[Value.ref b] below meth c H locs (cells) (slots) Q (F0 m 131 ls []) := by
  obtain ⟨hx, hb, hml, hown, hts, hK, hNW, hA, hXs, hbl, hbA, hLb⟩ := id X0
  refine lv_aload_n hx hb dL_law_131 rfl (lv_at hl 2 rfl) ?_
  refine lv_iconst (v := (2 : Int32)) hx hb dL_law_132 (by decide) ?_
  refine lv_iload_n hx hb dL_law_133 rfl (lv_at hl 1 rfl) ?_
  refine lv_imul hx hb dL_law_134 ?_
  rw [show (2 : Int32) * nI n = nI (2 * n) from pk_mul 2 n]
  refine lv_iconst (v := (1 : Int32)) hx hb dL_law_135 (by decide) ?_
  refine lv_iadd hx hb dL_law_136 ?_
  rw [show nI (2 * n) + (1 : Int32) = nI (2 * n + 1) from nI_add (2 * n) 1]
  refine cRO (W.runS (As := [.ref b, .int (nI (2 * n + 1))]) (rest := []) ⟨hx, hb, hml, hown, hts⟩ (c_L_cell l b L xs hLb (k := 2 * n + 1) (by omega)) (va_cwS 2 hts gL_law_L_cell rfl rfl rfl (by decide +kernel) ⟨Nat.le_of_ble_eq_true rfl, Nat.le_of_ble_eq_true rfl⟩) ⟨XC.blind, XC.pre hXs hbl hbA hS⟩ rfl rfl hl.1 rfl (lv_room (Nat.le_of_ble_eq_true rfl)) dL_law_137 ⟨by show cells + 0 ≤ 600172; omega, by show slots + 0 ≤ 7300668; omega⟩) ?_
  generalize xcell L xs (2 * n + 1) = x
  obtain ⟨t1, s1, h6, ht1, hs1, hT⟩ := xj_turn hn hI v x
  refine lv_istore (lv' := [(4, .int x), (3, .int v), (2, .int (nI n)), (0, .ref b), (1, .ref (a 0))]) hx hb dL_law_140 hl (by decide) rfl (fun ls hl => ?_)
  refine lv_aload_n hx hb dL_law_142 rfl (lv_at hl 4 rfl) ?_
  have hPc := (P_app hP).1
  refine cRO (W.runS (As := [.ref (a 0)]) (rest := []) ⟨hx, hb, hml, hown, hts⟩ (c_L_told l dC dI cI cZ cS (fS hs) (fG hs) a M t1 ht1) (va_cwS 1 hts gL_law_L_told rfl rfl rfl (by decide +kernel) ⟨Nat.le_of_ble_eq_true rfl, Nat.le_of_ble_eq_true rfl⟩) ⟨RO8.blind, RO8.pre hPc hK hNW⟩ rfl rfl hl.1 rfl (lv_room (Nat.le_of_ble_eq_true rfl)) dL_law_143 ⟨by show cells + 0 ≤ 600172; omega, by show slots + 0 ≤ 7300668; omega⟩) ?_
  refine lv_lstore (lv' := [(5, .long t1), (4, .int x), (3, .int v), (2, .int (nI n)), (0, .ref b), (1, .ref (a 0))]) hx hb dL_law_146 hl (by decide) rfl (fun ls hl => ?_)
  refine lv_aload_n hx hb dL_law_148 rfl (lv_at hl 5 rfl) ?_
  have hPc := (P_app hP).1
  refine cRO (W.runV (As := []) (rest := []) ⟨hx, hb, hml, hown, hts⟩ (c_X8_savedStates l dC dI cI cZ cS (fS hs) (fG hs) a M (nI s1) hs1) (cwV 0 hts gL_law_X8_savedStates rfl rfl rfl (by decide +kernel) ⟨Nat.le_of_ble_eq_true rfl, Nat.le_of_ble_eq_true rfl⟩) ⟨RO8.blind, va_recv hK hP (ci := 8) (q0 := 0) rfl rfl, RO8.pre hPc hK hNW⟩ rfl rfl hl.1 rfl (lv_room (Nat.le_of_ble_eq_true rfl)) dL_law_149 ⟨by show cells + 0 ≤ 600172; omega, by show slots + 0 ≤ 7300668; omega⟩) ?_
  refine lv_istore (lv' := [(7, .int (nI s1)), (5, .long t1), (4, .int x), (3, .int v), (2, .int (nI n)), (0, .ref b), (1, .ref (a 0))]) hx hb dL_law_152 hl (by decide) rfl (fun ls hl => ?_)
  refine lv_aload_n hx hb dL_law_154 rfl (lv_at hl 6 rfl) ?_
  refine lv_iload_n hx hb dL_law_155 rfl (lv_at hl 3 rfl) ?_
  refine lv_iload hx hb dL_law_156 (lv_at hl 2 rfl) ?_
  rcases hT with ⟨ha, hO⟩ | ⟨z2, z3, t2, ha, ht2, hs2, hO, z4, hu, hs4, ht4, z5, z6, ha5, ht5, hO5⟩
  · have hPc := hP.part (X := (wX8 cI cZ cS (fS hs) (fG hs) a M)) (cx := (wX8 cI cZ cS (fS hs) (fG hs) a M)) [0, 1, 2, 3, 4, 5, 6, 7, 8, 9, 10, 11, 12, 13, 14, 15, 16, 17, 18, 19, 20, 21, 22, 23, 24, 25, 26, 27, 28, 29, 30, 31, 32, 33, 34, 35, 36, 37, 38, 39, 40, 41] rfl
    have hDc := hD.part (X := (wX8 cI cZ cS (fS hs) (fG hs) a M)) (cx := (wX8 cI cZ cS (fS hs) (fG hs) a M)) [0, 1, 2, 3, 4, 5, 6, 7, 8, 9, 10, 11, 12, 13, 14, 15, 16, 17, 18, 19, 20, 21, 22, 23, 24, 25, 26, 27, 28, 29, 30, 31, 32, 33, 34, 35, 36, 37, 38, 39, 40, 41] (by decide) rfl
    have hFc := va_freeP (X := (wX8 cI cZ cS (fS hs) (fG hs) a M)) (cx := (wX8 cI cZ cS (fS hs) (fG hs) a M)) hD hS hA [0, 1, 2, 3, 4, 5, 6, 7, 8, 9, 10, 11, 12, 13, 14, 15, 16, 17, 18, 19, 20, 21, 22, 23, 24, 25, 26, 27, 28, 29, 30, 31, 32, 33, 34, 35, 36, 37, 38, 39, 40, 41] rfl
    refine va_calli (va_runS (As := [.ref (a 0), .int v, .int x]) (rest := []) ⟨hx, hb, hml, hown, hts⟩ (n_L_act l dC dI cI cZ cS hs a H.size M v x (nI 0) M (cts hs) ha) (va_cwS 3 hts gL_law_L_act rfl rfl rfl (by decide +kernel) ⟨Nat.le_of_ble_eq_true rfl, Nat.le_of_ble_eq_true rfl⟩) ⟨WR8.blind, WR8.pre hPc hK hDc hNW⟩ rfl rfl hl.1 rfl (lv_room (Nat.le_of_ble_eq_true rfl)) dL_law_158 ⟨by show cells + 16 ≤ 600172; omega, by show slots + 316 ≤ 7300668; omega⟩) hS (fun q _ h => hFc q h) hFc (fun rv hs1_ t H1 locs ht hvm hw hB hz1 hk1 hS => ?_)
    obtain ⟨hw1, hh1⟩ := hw
    subst hw1
    obtain ⟨hP1, hD1⟩ := hB
    rw [ht] at hP1
    have hP := hP1
    have hD := hD1.weaken (fun k q _ h => hFc q.1 h)
    have hP : va_P (dC, dI) vwCl ((wX8 cI cZ cS (fS hs1_) (fG hs1_) a M) ++ RW cI cZ hs1_) H1 := hP
    have hD : va_D A ((wX8 cI cZ cS (fS hs1_) (fG hs1_) a M) ++ RW cI cZ hs1_) := hD
    generalize H1 = H at hP hS ⊢
    refine lv_istore (lv' := [(8, .int (nI 0)), (7, .int (nI s1)), (5, .long t1), (4, .int x), (3, .int v), (2, .int (nI n)), (0, .ref b), (1, .ref (a 0))]) hx hb dL_law_161 hl (by decide) rfl (fun ls hl => ?_)
    refine lv_aload_n hx hb dL_law_163 rfl (lv_at hl 7 rfl) ?_
    have hPc := (P_app hP).1
    refine cRO (W.runS (As := [.ref (a 0)]) (rest := []) ⟨hx, hb, hml, hown, hts⟩ (c_L_told l dC dI cI cZ cS (fS hs1_) (fG hs1_) a M t1 ht1) (va_cwS 1 hts gL_law_L_told rfl rfl rfl (by decide +kernel) ⟨Nat.le_of_ble_eq_true rfl, Nat.le_of_ble_eq_true rfl⟩) ⟨RO8.blind, RO8.pre hPc hK hNW⟩ rfl rfl hl.1 rfl (lv_room (Nat.le_of_ble_eq_true rfl)) dL_law_164 ⟨by show cells + 16 + 0 ≤ 600172; omega, by show slots + 316 + 0 ≤ 7300668; omega⟩) ?_
    refine lv_lstore (lv' := [(9, .long t1), (8, .int (nI 0)), (7, .int (nI s1)), (5, .long t1), (4, .int x), (3, .int v), (2, .int (nI n)), (0, .ref b), (1, .ref (a 0))]) hx hb dL_law_167 hl (by decide) rfl (fun ls hl => ?_)
    refine lv_iload hx hb dL_law_169 (lv_at hl 1 rfl) ?_
    refine lv_if_ne (tgt := 194) hx hb dL_law_171 (by decide) (fun c9 => absurd rfl c9) (fun c9 => ?_)
    refine lv_lload hx hb dL_law_174 (lv_at hl 0 rfl) ?_
    refine lv_lload hx hb dL_law_176 (lv_at hl 3 rfl) ?_
    refine W.lcmp hx hb dL_law_178 ?_
    refine lv_if_ne (tgt := 217) hx hb dL_law_179 (by decide) (fun c9 => absurd (lg_eq rfl) c9) (fun c9 => ?_)
    refine lv_aload_n hx hb dL_law_182 rfl (lv_at hl 8 rfl) ?_
    have hPc := (P_app hP).1
    refine cRO (W.runV (As := []) (rest := []) ⟨hx, hb, hml, hown, hts⟩ (c_X8_savedStates l dC dI cI cZ cS (fS hs1_) (fG hs1_) a M (nI s1) hs1) (cwV 0 hts gL_law_X8_savedStates rfl rfl rfl (by decide +kernel) ⟨Nat.le_of_ble_eq_true rfl, Nat.le_of_ble_eq_true rfl⟩) ⟨RO8.blind, va_recv hK hP (ci := 8) (q0 := 0) rfl rfl, RO8.pre hPc hK hNW⟩ rfl rfl hl.1 rfl (lv_room (Nat.le_of_ble_eq_true rfl)) dL_law_183 ⟨by show cells + 16 + 0 ≤ 600172; omega, by show slots + 316 + 0 ≤ 7300668; omega⟩) ?_
    refine lv_iload hx hb dL_law_186 (lv_at hl 2 rfl) ?_
    refine lv_icmp_eq (tgt := 219) hx hb dL_law_188 (by decide) (fun c9 => ?_) (fun c9 => absurd rfl c9)
    refine lv_iload hx hb dL_law_219 (lv_at hl 1 rfl) ?_
    refine lv_if_eq (tgt := 286) hx hb dL_law_221 (by decide) (fun c9 => ?_) (fun c9 => absurd rfl c9)
    rw [← hh1] at hO
    exact lw_286 X0 hn hcs hss (hs := hs1_) (c1 := cells + 16) (d1 := slots + 316) (by omega) (by omega) hO (lv_sub hl [6, 7, 8] rfl) hP hD hS kk9
  · have hPc := hP.part (X := (wX8 cI cZ cS (fS hs) (fG hs) a M)) (cx := (wX8 cI cZ cS (fS hs) (fG hs) a M)) [0, 1, 2, 3, 4, 5, 6, 7, 8, 9, 10, 11, 12, 13, 14, 15, 16, 17, 18, 19, 20, 21, 22, 23, 24, 25, 26, 27, 28, 29, 30, 31, 32, 33, 34, 35, 36, 37, 38, 39, 40, 41] rfl
    have hDc := hD.part (X := (wX8 cI cZ cS (fS hs) (fG hs) a M)) (cx := (wX8 cI cZ cS (fS hs) (fG hs) a M)) [0, 1, 2, 3, 4, 5, 6, 7, 8, 9, 10, 11, 12, 13, 14, 15, 16, 17, 18, 19, 20, 21, 22, 23, 24, 25, 26, 27, 28, 29, 30, 31, 32, 33, 34, 35, 36, 37, 38, 39, 40, 41] (by decide) rfl
    have hFc := va_freeP (X := (wX8 cI cZ cS (fS hs) (fG hs) a M)) (cx := (wX8 cI cZ cS (fS hs) (fG hs) a M)) hD hS hA [0, 1, 2, 3, 4, 5, 6, 7, 8, 9, 10, 11, 12, 13, 14, 15, 16, 17, 18, 19, 20, 21, 22, 23, 24, 25, 26, 27, 28, 29, 30, 31, 32, 33, 34, 35, 36, 37, 38, 39, 40, 41] rfl
    refine va_calli (va_runS (As := [.ref (a 0), .int v, .int x]) (rest := []) ⟨hx, hb, hml, hown, hts⟩ (n_L_act l dC dI cI cZ cS hs a H.size M v x (nI 1) z2 z3 ha) (va_cwS 3 hts gL_law_L_act rfl rfl rfl (by decide +kernel) ⟨Nat.le_of_ble_eq_true rfl, Nat.le_of_ble_eq_true rfl⟩) ⟨WR8.blind, WR8.pre hPc hK hDc hNW⟩ rfl rfl hl.1 rfl (lv_room (Nat.le_of_ble_eq_true rfl)) dL_law_158 ⟨by show cells + 16 ≤ 600172; omega, by show slots + 316 ≤ 7300668; omega⟩) hS (fun q _ h => hFc q h) hFc (fun rv hs1_ t H1 locs ht hvm hw hB hz1 hk1 hS => ?_)
    obtain ⟨hw1, hh1⟩ := hw
    subst hw1
    obtain ⟨hP1, hD1⟩ := hB
    rw [ht] at hP1
    have hP := hP1
    have hD := hD1.weaken (fun k q _ h => hFc q.1 h)
    have hP : va_P (dC, dI) vwCl ((wX8 cI cZ cS (fS hs1_) (fG hs1_) a z2) ++ RW cI cZ hs1_) H1 := hP
    have hD : va_D A ((wX8 cI cZ cS (fS hs1_) (fG hs1_) a z2) ++ RW cI cZ hs1_) := hD
    generalize H1 = H at hP hS ⊢
    subst hh1
    refine lv_istore (lv' := [(8, .int (nI 1)), (7, .int (nI s1)), (5, .long t1), (4, .int x), (3, .int v), (2, .int (nI n)), (0, .ref b), (1, .ref (a 0))]) hx hb dL_law_161 hl (by decide) rfl (fun ls hl => ?_)
    refine lv_aload_n hx hb dL_law_163 rfl (lv_at hl 7 rfl) ?_
    have hPc := (P_app hP).1
    refine cRO (W.runS (As := [.ref (a 0)]) (rest := []) ⟨hx, hb, hml, hown, hts⟩ (c_L_told l dC dI cI cZ cS (fS hs1_) (fG hs1_) a z2 t2 ht2) (va_cwS 1 hts gL_law_L_told rfl rfl rfl (by decide +kernel) ⟨Nat.le_of_ble_eq_true rfl, Nat.le_of_ble_eq_true rfl⟩) ⟨RO8.blind, RO8.pre hPc hK hNW⟩ rfl rfl hl.1 rfl (lv_room (Nat.le_of_ble_eq_true rfl)) dL_law_164 ⟨by show cells + 16 + 0 ≤ 600172; omega, by show slots + 316 + 0 ≤ 7300668; omega⟩) ?_
    refine lv_lstore (lv' := [(9, .long t2), (8, .int (nI 1)), (7, .int (nI s1)), (5, .long t1), (4, .int x), (3, .int v), (2, .int (nI n)), (0, .ref b), (1, .ref (a 0))]) hx hb dL_law_167 hl (by decide) rfl (fun ls hl => ?_)
    refine lv_iload hx hb dL_law_169 (lv_at hl 1 rfl) ?_
    refine lv_if_ne (tgt := 194) hx hb dL_law_171 (by decide) (fun c9 => ?_) (fun c9 => absurd c9 (nI_ne0 (n := 1) (by omega) (by omega)))
    refine lv_aload_n hx hb dL_law_194 rfl (lv_at hl 8 rfl) ?_
    have hPc := (P_app hP).1
    refine cRO (W.runV (As := []) (rest := []) ⟨hx, hb, hml, hown, hts⟩ (c_X8_savedStates l dC dI cI cZ cS (fS hs1_) (fG hs1_) a z2 (nI (zh_n s1)) hs2) (cwV 0 hts gL_law_X8_savedStates rfl rfl rfl (by decide +kernel) ⟨Nat.le_of_ble_eq_true rfl, Nat.le_of_ble_eq_true rfl⟩) ⟨RO8.blind, va_recv hK hP (ci := 8) (q0 := 0) rfl rfl, RO8.pre hPc hK hNW⟩ rfl rfl hl.1 rfl (lv_room (Nat.le_of_ble_eq_true rfl)) dL_law_195 ⟨by show cells + 16 + 0 ≤ 600172; omega, by show slots + 316 + 0 ≤ 7300668; omega⟩) ?_
    refine lv_iload hx hb dL_law_198 (lv_at hl 2 rfl) ?_
    refine lv_bipush (v := (6 : Int32)) hx hb dL_law_200 (by decide) ?_
    have h219 : ∀ ls : Array Slot, lv_has ls 12 [(9, .long t2), (8, .int (nI 1)), (7, .int (nI s1)), (5, .long t1), (4, .int x), (3, .int v), (2, .int (nI n)), (0, .ref b), (1, .ref (a 0))] → W p l e room_1 s m #[Value.ref b] below meth c H locs (cells + 16) (slots + 316) Q (F0 m 219 ls []) := by
      intro ls hl
      refine lv_iload hx hb dL_law_219 (lv_at hl 1 rfl) ?_
      refine lv_if_eq (tgt := 286) hx hb dL_law_221 (by decide) (fun c9 => absurd c9 (nI_ne0 (n := 1) (by omega) (by omega))) (fun c9 => ?_)
      refine lv_iload_n hx hb dL_law_224 rfl (lv_at hl 5 rfl) ?_
      refine lv_bipush (v := (20 : Int32)) hx hb dL_law_225 (by decide) ?_
      refine lv_ishr hx hb dL_law_227 ?_
      refine lv_iconst (v := (1 : Int32)) hx hb dL_law_228 (by decide) ?_
      refine lv_iand hx hb dL_law_229 ?_
      refine lv_if_ne (tgt := 286) hx hb dL_law_230 (by decide) (fun c9 => ?_) (fun c9 => ?_)
      · exact lw_286 X0 hn hcs hss (hs := hs1_) (c1 := cells + 16) (d1 := slots + 316) (by omega) (by omega) hO (lv_sub hl [6, 7, 8] rfl) hP hD hS kk9
      · refine lv_aload_n hx hb dL_law_233 rfl (lv_at hl 8 rfl) ?_
        have hPc := (P_app hP).1
        refine cRO (W.runV (As := []) (rest := []) ⟨hx, hb, hml, hown, hts⟩ (c_X8_savedStates l dC dI cI cZ cS (fS hs1_) (fG hs1_) a z2 (nI (zh_n s1)) hs2) (cwV 0 hts gL_law_X8_savedStates rfl rfl rfl (by decide +kernel) ⟨Nat.le_of_ble_eq_true rfl, Nat.le_of_ble_eq_true rfl⟩) ⟨RO8.blind, va_recv hK hP (ci := 8) (q0 := 0) rfl rfl, RO8.pre hPc hK hNW⟩ rfl rfl hl.1 rfl (lv_room (Nat.le_of_ble_eq_true rfl)) dL_law_234 ⟨by show cells + 16 + 0 ≤ 600172; omega, by show slots + 316 + 0 ≤ 7300668; omega⟩) ?_
        refine lv_iconst (v := (1 : Int32)) hx hb dL_law_237 (by decide) ?_
        refine lv_isub hx hb dL_law_238 ?_
        rw [show nI (zh_n s1) - (1 : Int32) = nI (zh_n s1 - 1) from pk_sub (zh_n_pos s1)]
        refine lv_istore (lv' := [(11, .int (nI (zh_n s1 - 1))), (9, .long t2), (8, .int (nI 1)), (7, .int (nI s1)), (5, .long t1), (4, .int x), (3, .int v), (2, .int (nI n)), (0, .ref b), (1, .ref (a 0))]) hx hb dL_law_239 hl (by decide) rfl (fun ls hl => ?_)
        refine lv_aload_n hx hb dL_law_241 rfl (lv_at hl 9 rfl) ?_
        have hPc := hP.part (X := (wX8 cI cZ cS (fS hs1_) (fG hs1_) a z2)) (cx := (wX8 cI cZ cS (fS hs1_) (fG hs1_) a z2)) [0, 1, 2, 3, 4, 5, 6, 7, 8, 9, 10, 11, 12, 13, 14, 15, 16, 17, 18, 19, 20, 21, 22, 23, 24, 25, 26, 27, 28, 29, 30, 31, 32, 33, 34, 35, 36, 37, 38, 39, 40, 41] rfl
        have hDc := hD.part (X := (wX8 cI cZ cS (fS hs1_) (fG hs1_) a z2)) (cx := (wX8 cI cZ cS (fS hs1_) (fG hs1_) a z2)) [0, 1, 2, 3, 4, 5, 6, 7, 8, 9, 10, 11, 12, 13, 14, 15, 16, 17, 18, 19, 20, 21, 22, 23, 24, 25, 26, 27, 28, 29, 30, 31, 32, 33, 34, 35, 36, 37, 38, 39, 40, 41] (by decide) rfl
        have hFc := va_freeP (X := (wX8 cI cZ cS (fS hs1_) (fG hs1_) a z2)) (cx := (wX8 cI cZ cS (fS hs1_) (fG hs1_) a z2)) hD hS hA [0, 1, 2, 3, 4, 5, 6, 7, 8, 9, 10, 11, 12, 13, 14, 15, 16, 17, 18, 19, 20, 21, 22, 23, 24, 25, 26, 27, 28, 29, 30, 31, 32, 33, 34, 35, 36, 37, 38, 39, 40, 41] rfl
        refine va_callv (va_runV (As := []) (rest := []) ⟨hx, hb, hml, hown, hts⟩ (n_X8_undo l dC dI cI cZ cS hs1_ a H.size z2 z4 (cts hs1_) hu) (cwV 0 hts gL_law_X8_undo rfl rfl rfl (by decide +kernel) ⟨Nat.le_of_ble_eq_true rfl, Nat.le_of_ble_eq_true rfl⟩) ⟨WR8.blind, va_recv hK hP (ci := 8) (q0 := 0) rfl rfl, WR8.pre hPc hK hDc hNW⟩ rfl rfl hl.1 rfl (lv_room (Nat.le_of_ble_eq_true rfl)) dL_law_242 ⟨by show cells + 16 + 0 ≤ 600172; omega, by show slots + 316 + 0 ≤ 7300668; omega⟩) hS (fun q _ h => hFc q h) hFc (fun hs2_ t H1 locs ht hvm hw hB hz1 hk1 hS => ?_)
        have hh2 := hw
        obtain ⟨hP1, hD1⟩ := hB
        rw [ht] at hP1
        have hP := hP1
        have hD := hD1.weaken (fun k q _ h => hFc q.1 h)
        have hP : va_P (dC, dI) vwCl ((wX8 cI cZ cS (fS hs2_) (fG hs2_) a z4) ++ RW cI cZ hs2_) H1 := hP
        have hD : va_D A ((wX8 cI cZ cS (fS hs2_) (fG hs2_) a z4) ++ RW cI cZ hs2_) := hD
        generalize H1 = H at hP hS ⊢
        rw [← hh2] at ha5
        refine lv_aload_n hx hb dL_law_245 rfl (lv_at hl 9 rfl) ?_
        have hPc := (P_app hP).1
        refine cRO (W.runV (As := []) (rest := []) ⟨hx, hb, hml, hown, hts⟩ (c_X8_savedStates l dC dI cI cZ cS (fS hs2_) (fG hs2_) a z4 (nI (zh_n s1 - 1)) hs4) (cwV 0 hts gL_law_X8_savedStates rfl rfl rfl (by decide +kernel) ⟨Nat.le_of_ble_eq_true rfl, Nat.le_of_ble_eq_true rfl⟩) ⟨RO8.blind, va_recv hK hP (ci := 8) (q0 := 0) rfl rfl, RO8.pre hPc hK hNW⟩ rfl rfl hl.1 rfl (lv_room (Nat.le_of_ble_eq_true rfl)) dL_law_246 ⟨by show cells + 16 + 0 + 0 ≤ 600172; omega, by show slots + 316 + 0 + 0 ≤ 7300668; omega⟩) ?_
        refine lv_iload hx hb dL_law_249 (lv_at hl 0 rfl) ?_
        refine lv_icmp_ne (tgt := 284) hx hb dL_law_251 (by decide) (fun c9 => absurd rfl c9) (fun c9 => ?_)
        refine lv_aload_n hx hb dL_law_254 rfl (lv_at hl 9 rfl) ?_
        have hPc := (P_app hP).1
        refine cRO (W.runS (As := [.ref (a 0)]) (rest := []) ⟨hx, hb, hml, hown, hts⟩ (c_L_told l dC dI cI cZ cS (fS hs2_) (fG hs2_) a z4 t1 ht4) (va_cwS 1 hts gL_law_L_told rfl rfl rfl (by decide +kernel) ⟨Nat.le_of_ble_eq_true rfl, Nat.le_of_ble_eq_true rfl⟩) ⟨RO8.blind, RO8.pre hPc hK hNW⟩ rfl rfl hl.1 rfl (lv_room (Nat.le_of_ble_eq_true rfl)) dL_law_255 ⟨by show cells + 16 + 0 + 0 ≤ 600172; omega, by show slots + 316 + 0 + 0 ≤ 7300668; omega⟩) ?_
        refine lv_lload hx hb dL_law_258 (lv_at hl 4 rfl) ?_
        refine W.lcmp hx hb dL_law_260 ?_
        refine lv_if_ne (tgt := 284) hx hb dL_law_261 (by decide) (fun c9 => absurd (lg_eq rfl) c9) (fun c9 => ?_)
        refine lv_aload_n hx hb dL_law_264 rfl (lv_at hl 9 rfl) ?_
        refine lv_iload_n hx hb dL_law_265 rfl (lv_at hl 6 rfl) ?_
        refine lv_iload hx hb dL_law_266 (lv_at hl 5 rfl) ?_
        have hPc := hP.part (X := (wX8 cI cZ cS (fS hs2_) (fG hs2_) a z4)) (cx := (wX8 cI cZ cS (fS hs2_) (fG hs2_) a z4)) [0, 1, 2, 3, 4, 5, 6, 7, 8, 9, 10, 11, 12, 13, 14, 15, 16, 17, 18, 19, 20, 21, 22, 23, 24, 25, 26, 27, 28, 29, 30, 31, 32, 33, 34, 35, 36, 37, 38, 39, 40, 41] rfl
        have hDc := hD.part (X := (wX8 cI cZ cS (fS hs2_) (fG hs2_) a z4)) (cx := (wX8 cI cZ cS (fS hs2_) (fG hs2_) a z4)) [0, 1, 2, 3, 4, 5, 6, 7, 8, 9, 10, 11, 12, 13, 14, 15, 16, 17, 18, 19, 20, 21, 22, 23, 24, 25, 26, 27, 28, 29, 30, 31, 32, 33, 34, 35, 36, 37, 38, 39, 40, 41] (by decide) rfl
        have hFc := va_freeP (X := (wX8 cI cZ cS (fS hs2_) (fG hs2_) a z4)) (cx := (wX8 cI cZ cS (fS hs2_) (fG hs2_) a z4)) hD hS hA [0, 1, 2, 3, 4, 5, 6, 7, 8, 9, 10, 11, 12, 13, 14, 15, 16, 17, 18, 19, 20, 21, 22, 23, 24, 25, 26, 27, 28, 29, 30, 31, 32, 33, 34, 35, 36, 37, 38, 39, 40, 41] rfl
        refine va_calli (va_runS (As := [.ref (a 0), .int v, .int x]) (rest := []) ⟨hx, hb, hml, hown, hts⟩ (n_L_act l dC dI cI cZ cS hs2_ a H.size z4 v x (nI 1) z5 z6 ha5) (va_cwS 3 hts gL_law_L_act rfl rfl rfl (by decide +kernel) ⟨Nat.le_of_ble_eq_true rfl, Nat.le_of_ble_eq_true rfl⟩) ⟨WR8.blind, WR8.pre hPc hK hDc hNW⟩ rfl rfl hl.1 rfl (lv_room (Nat.le_of_ble_eq_true rfl)) dL_law_268 ⟨by show cells + 16 + 0 + 16 ≤ 600172; omega, by show slots + 316 + 0 + 316 ≤ 7300668; omega⟩) hS (fun q _ h => hFc q h) hFc (fun rv hs3_ t H1 locs ht hvm hw hB hz1 hk1 hS => ?_)
        obtain ⟨hw1, hh3⟩ := hw
        subst hw1
        obtain ⟨hP1, hD1⟩ := hB
        rw [ht] at hP1
        have hP := hP1
        have hD := hD1.weaken (fun k q _ h => hFc q.1 h)
        have hP : va_P (dC, dI) vwCl ((wX8 cI cZ cS (fS hs3_) (fG hs3_) a z5) ++ RW cI cZ hs3_) H1 := hP
        have hD : va_D A ((wX8 cI cZ cS (fS hs3_) (fG hs3_) a z5) ++ RW cI cZ hs3_) := hD
        generalize H1 = H at hP hS ⊢
        subst hh3
        refine lv_if_eq (tgt := 284) hx hb dL_law_271 (by decide) (fun c9 => absurd c9 (nI_ne0 (n := 1) (by omega) (by omega))) (fun c9 => ?_)
        refine lv_aload_n hx hb dL_law_274 rfl (lv_at hl 9 rfl) ?_
        have hPc := (P_app hP).1
        refine cRO (W.runS (As := [.ref (a 0)]) (rest := []) ⟨hx, hb, hml, hown, hts⟩ (c_L_told l dC dI cI cZ cS (fS hs3_) (fG hs3_) a z5 t2 ht5) (va_cwS 1 hts gL_law_L_told rfl rfl rfl (by decide +kernel) ⟨Nat.le_of_ble_eq_true rfl, Nat.le_of_ble_eq_true rfl⟩) ⟨RO8.blind, RO8.pre hPc hK hNW⟩ rfl rfl hl.1 rfl (lv_room (Nat.le_of_ble_eq_true rfl)) dL_law_275 ⟨by show cells + 16 + 0 + 16 + 0 ≤ 600172; omega, by show slots + 316 + 0 + 316 + 0 ≤ 7300668; omega⟩) ?_
        refine lv_lload hx hb dL_law_278 (lv_at hl 1 rfl) ?_
        refine W.lcmp hx hb dL_law_280 ?_
        refine lv_if_eq (tgt := 286) hx hb dL_law_281 (by decide) (fun c9 => ?_) (fun c9 => absurd (lg_eq rfl) c9)
        exact lw_286 X0 hn hcs hss (hs := hs3_) (c1 := cells + 16 + 0 + 16) (d1 := slots + 316 + 0 + 316) (by omega) (by omega) hO5 (lv_sub hl [7, 8, 9] rfl) hP hD hS kk9
    refine lv_icmp_ge (tgt := 212) hx hb dL_law_202 (by decide) (fun c9 => ?_) (fun c9 => ?_)
    · have q : ¬ s1 < 6 := fun h => Int32.lt_irrefl (Int32.lt_of_lt_of_le (nI_lt h (by omega)) c9)
      have qe : zh_n s1 = 6 := if_neg q
      refine lv_bipush (v := (6 : Int32)) hx hb dL_law_212 (by decide) ?_
      refine lv_icmp_eq (tgt := 219) hx hb dL_law_214 (by decide) (fun c9 => ?_) (fun c9 => absurd (congrArg nI qe) c9)
      exact h219 _ hl
    · have q : s1 < 6 := Nat.not_le.mp fun h => c9 (nI_le h (by omega))
      have qe : zh_n s1 = s1 + 1 := if_pos q
      refine lv_iload hx hb dL_law_205 (lv_at hl 2 rfl) ?_
      refine lv_iconst (v := (1 : Int32)) hx hb dL_law_207 (by decide) ?_
      refine lv_iadd hx hb dL_law_208 ?_
      rw [show nI s1 + (1 : Int32) = nI (s1 + 1) from nI_add s1 1]
      refine lv_goto (tgt := 214) hx hb dL_law_209 (by decide) ?_
      refine lv_icmp_eq (tgt := 219) hx hb dL_law_214 (by decide) (fun c9 => ?_) (fun c9 => absurd (congrArg nI qe) c9)
      exact h219 _ hl
set_option maxHeartbeats 4000000 in
set_option maxRecDepth 100000 in
theorem lw_79 {p : Program} {l : Launch} {e : Env} {s : State} {m : MethodId} {below : List Frame} {meth : Method} {c : Code} {b L : Nat} {xs : Nat → Int32} {dC : Nat → ClassId} {dI : Nat → Nat → Nat} {cI cZ cS : ClassId} {A : Nat → Prop} {a : Nat → Nat} {Q : State → Prop} (X0 : LCx p s m c b L xs dC dI cI cZ cS A) {n : Nat} (hn : n < 40) {cells slots : Nat} (hcs : cells + 32 ≤ 600172) (hss : slots + 632 ≤ 7300668) {hs : HS} {M : Mem} (hI : XI n (cts hs) M) {ls : Array Slot} {H : Heap} {locs : List Loc} (hl : lv_has ls 12 [(2, .int (nI n)), (0, .ref b), (1, .ref (a 0))]) (hP : va_P (dC, dI) vwCl (wX8 cI cZ cS (fS hs) (fG hs) a M ++ RW cI cZ hs) H) (hD : va_D A (wX8 cI cZ cS (fS hs) (fG hs) a M ++ RW cI cZ hs)) (hS : va_S A s.heap H locs) (kk9 : ∀ (hs' : HS) (M' : Mem) (ls : Array Slot) (H : Heap) (locs : List Loc), XI (n + 1) (cts hs') M' → lv_has ls 12 [(2, .int (nI n)), (0, .ref b), (1, .ref (a 0))] → va_P (dC, dI) vwCl (wX8 cI cZ cS (fS hs') (fG hs') a M' ++ RW cI cZ hs') H → va_D A (wX8 cI cZ cS (fS hs') (fG hs') a M' ++ RW cI cZ hs') → va_S A s.heap H locs → W p l e room_1 s m #[Value.ref b] below meth c H locs (cells + 32) (slots + 632) Q (F0 m 295 ls [])) : W p l e room_1 s m #[Value.ref b] below meth c H locs (cells) (slots) Q (F0 m 79 ls []) := by
  obtain ⟨hx, hb, hml, hown, hts, hK, hNW, hA, hXs, hbl, hbA, hLb⟩ := id X0
  refine lv_aload_n hx hb dL_law_79 rfl (lv_at hl 1 rfl) ?_
  refine lv_iconst (v := (2 : Int32)) hx hb dL_law_80 (by decide) ?_
  refine lv_iload_n hx hb dL_law_81 rfl (lv_at hl 0 rfl) ?_
  refine lv_imul hx hb dL_law_82 ?_
  rw [show (2 : Int32) * nI n = nI (2 * n) from pk_mul 2 n]
  refine cRO (W.runS (As := [.ref b, .int (nI (2 * n))]) (rest := []) ⟨hx, hb, hml, hown, hts⟩ (c_L_cell l b L xs hLb (k := 2 * n) (by omega)) (va_cwS 2 hts gL_law_L_cell rfl rfl rfl (by decide +kernel) ⟨Nat.le_of_ble_eq_true rfl, Nat.le_of_ble_eq_true rfl⟩) ⟨XC.blind, XC.pre hXs hbl hbA hS⟩ rfl rfl hl.1 rfl (lv_room (Nat.le_of_ble_eq_true rfl)) dL_law_83 ⟨by show cells + 0 ≤ 600172; omega, by show slots + 0 ≤ 7300668; omega⟩) ?_
  generalize xcell L xs (2 * n) = v0
  refine lv_istore_n (lv' := [(3, .int v0), (2, .int (nI n)), (0, .ref b), (1, .ref (a 0))]) hx hb dL_law_86 rfl hl (by decide) rfl (fun ls hl => ?_)
  have h130 : ∀ (v : Int32) (ls : Array Slot), lv_has ls 12 [(3, .int v0), (2, .int (nI n)), (0, .ref b), (1, .ref (a 0))] → W p l e room_1 s m #[Value.ref b] below meth c H locs (cells) (slots) Q (F0 m 130 ls [.int v]) := by
    intro v ls hl
    refine lv_istore_n (lv' := [(3, .int v), (2, .int (nI n)), (0, .ref b), (1, .ref (a 0))]) hx hb dL_law_130 rfl hl (by decide) rfl (fun ls hl => ?_)
    exact lw_131 X0 hn hcs hss hI v (lv_sub hl [0, 1, 2, 3] rfl) hP hD hS kk9
  refine lv_iload_n hx hb dL_law_87 rfl (lv_at hl 1 rfl) ?_
  refine lv_iconst (v := (3 : Int32)) hx hb dL_law_88 (by decide) ?_
  refine lv_icmp_ge (tgt := 99) hx hb dL_law_89 (by decide) (fun c9 => ?_) (fun c9 => ?_)
  · refine lv_iload_n hx hb dL_law_99 rfl (lv_at hl 1 rfl) ?_
    refine lv_iconst (v := (3 : Int32)) hx hb dL_law_100 (by decide) ?_
    refine lv_icmp_ne (tgt := 113) hx hb dL_law_101 (by decide) (fun c9 => ?_) (fun c9 => ?_)
    · refine lv_iload_n hx hb dL_law_113 rfl (lv_at hl 1 rfl) ?_
      refine lv_bipush (v := (6 : Int32)) hx hb dL_law_114 (by decide) ?_
      refine lv_icmp_ge (tgt := 129) hx hb dL_law_116 (by decide) (fun c9 => ?_) (fun c9 => ?_)
      · refine lv_iload_n hx hb dL_law_129 rfl (lv_at hl 0 rfl) ?_
        exact h130 _ ls hl
      · refine lv_iload_n hx hb dL_law_119 rfl (lv_at hl 0 rfl) ?_
        refine lv_bipush (v := (-16 : Int32)) hx hb dL_law_120 (by decide) ?_
        refine lv_iand hx hb dL_law_122 ?_
        refine lv_bipush (v := (6 : Int32)) hx hb dL_law_123 (by decide) ?_
        refine lv_ior hx hb dL_law_125 ?_
        refine lv_goto (tgt := 130) hx hb dL_law_126 (by decide) ?_
        exact h130 _ ls hl
    · refine lv_iload_n hx hb dL_law_104 rfl (lv_at hl 0 rfl) ?_
      refine lv_bipush (v := (-16 : Int32)) hx hb dL_law_105 (by decide) ?_
      refine lv_iand hx hb dL_law_107 ?_
      refine lv_iconst (v := (4 : Int32)) hx hb dL_law_108 (by decide) ?_
      refine lv_ior hx hb dL_law_109 ?_
      refine lv_goto (tgt := 130) hx hb dL_law_110 (by decide) ?_
      exact h130 _ ls hl
  · refine lv_iload_n hx hb dL_law_92 rfl (lv_at hl 0 rfl) ?_
    refine lv_bipush (v := (-16 : Int32)) hx hb dL_law_93 (by decide) ?_
    refine lv_iand hx hb dL_law_95 ?_
    refine lv_goto (tgt := 130) hx hb dL_law_96 (by decide) ?_
    exact h130 _ ls hl
set_option maxHeartbeats 4000000 in
set_option maxRecDepth 100000 in
theorem lw_loop {p : Program} {l : Launch} {e : Env} {s : State} {m : MethodId} {below : List Frame} {meth : Method} {c : Code} {b L : Nat} {xs : Nat → Int32} {dC : Nat → ClassId} {dI : Nat → Nat → Nat} {cI cZ cS : ClassId} {A : Nat → Prop} {a : Nat → Nat} {Q : State → Prop} (X0 : LCx p s m c b L xs dC dI cI cZ cS A) (hend : ∀ (H : Heap) (locs : List Loc) (cells slots : Nat) (ls : Array Slot), (∀ q ∈ locs, A q.base) → cells ≤ 600172 → slots ≤ 7300668 → W p l e room_1 s m #[Value.ref b] below meth c H locs (cells) (slots) Q (F0 m 301 ls [])) : ∀ (k n : Nat), n + k = 40 → ∀ (hs : HS) (M : Mem), XI n (cts hs) M → ∀ (ls : Array Slot) (H : Heap) (locs : List Loc) (cells slots : Nat), cells + 32 * k ≤ 600172 → slots + 632 * k ≤ 7300668 → lv_has ls 12 [(2, .int (nI n)), (0, .ref b), (1, .ref (a 0))] → va_P (dC, dI) vwCl (wX8 cI cZ cS (fS hs) (fG hs) a M ++ RW cI cZ hs) H → va_D A (wX8 cI cZ cS (fS hs) (fG hs) a M ++ RW cI cZ hs) → va_S A s.heap H locs → W p l e room_1 s m #[Value.ref b] below meth c H locs (cells) (slots) Q (F0 m 73 ls []) := by
  obtain ⟨hx, hb, hml, hown, hts, hK, hNW, hA, hXs, hbl, hbA, hLb⟩ := id X0
  intro k
  induction k with
  | zero =>
    intro n hn hs M hI ls H locs cells slots hcs hss hl hP hD hS
    have hn : n = 40 := by omega
    subst hn
    refine lv_iload_n hx hb dL_law_73 rfl (lv_at hl 0 rfl) ?_
    refine lv_bipush (v := (40 : Int32)) hx hb dL_law_74 (by decide) ?_
    refine lv_icmp_ge (tgt := 301) hx hb dL_law_76 (by decide) (fun c9 => hend H locs cells slots ls hS.2.2 (by omega) (by omega)) (fun c9 => absurd (Int32.le_refl (nI 40)) c9)
  | succ k ih =>
    intro n hn hs M hI ls H locs cells slots hcs hss hl hP hD hS
    have hn2 : n < 40 := by omega
    refine lv_iload_n hx hb dL_law_73 rfl (lv_at hl 0 rfl) ?_
    refine lv_bipush (v := (40 : Int32)) hx hb dL_law_74 (by decide) ?_
    refine lv_icmp_ge (tgt := 301) hx hb dL_law_76 (by decide) (fun c9 => (Int32.lt_irrefl (Int32.lt_of_lt_of_le (nI_lt hn2 (by omega)) c9)).elim) (fun c9 => ?_)
    refine lw_79 X0 hn2 (cells := cells) (slots := slots) (by omega) (by omega) hI hl hP hD hS (fun hs M ls H locs hI hl hP hD hS => ?_)
    refine lv_iinc (v := nI (n + 1)) (lv' := [(2, .int (nI (n + 1))), (0, .ref b), (1, .ref (a 0))]) hx hb dL_law_295 hl (k := 0) rfl (nI_add n 1) (by decide) rfl (fun ls hl => ?_)
    refine lv_goto (tgt := 73) hx hb dL_law_298 (by decide) ?_
    exact ih (n + 1) (by omega) hs M hI ls H locs (cells + 32) (slots + 632) (by omega) (by omega) hl hP hD hS
