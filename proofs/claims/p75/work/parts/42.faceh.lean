set_option maxHeartbeats 4000000 in
set_option maxRecDepth 100000 in
theorem n_X8_addShelf (l : Launch) (dC : Nat → ClassId) (dI : Nat → Nat → Nat) (cI cZ cS : ClassId) (hs : HS) (a : Nat → Nat) (sz : Nat) (M : Mem) (a1 : Int32) (z1 : Int32) (z2 : Mem) (z3 : Nat → Option Mem) (hf : fX8_addShelf (cts hs) M a1 = some (Sum.inr z1, z2, z3)) : Met l yX8_addShelf wsX8_addShelf ({ frames := 4, cells := 16, slots := 316, locals := 124 } : Room) (va_Pc [.ref (a 0), .int a1] (WR8 (dC, dI) cI cZ cS (wX8 cI cZ cS (fS hs) (fG hs) a M ++ RW cI cZ hs) sz)) (va_Qi (S := HS) (fun r hs' => r = z1 ∧ cts hs' = z3) (fun hs' t => WE (dC, dI) cI cZ (wX8 cI cZ cS (fS hs') (fG hs') a z2 ++ RW cI cZ hs') (va_A (wX8 cI cZ cS (fS hs) (fG hs) a M ++ RW cI cZ hs) sz) t) (va_A (wX8 cI cZ cS (fS hs) (fG hs) a M ++ RW cI cZ hs) sz)) 16 316 (va_A (wX8 cI cZ cS (fS hs) (fG hs) a M ++ RW cI cZ hs) sz) := by
  refine Met.ofW (cc := cX8_addShelf) (maxL := 3) (ret := (some .int)) (by decide) rfl ?_
  intro p e s m args below meth c s₁ B hml hv
  obtain ⟨rfl, hsz, hP, hK, hD0, hNW⟩ := hv
  have hx := B.exec
  have hb := B.bytes
  have hr := B.returns
  have hts := atoms_spec (ws := wsX8_addShelf) B.pre
  have hown : s.vm.findClass RX8 = some m.cls := findClass_of_methodNamed B.named
  have hlocks := B.notSynchronized
  have hK2 : va_K (dC, dI) vwCl [(cI, .int), (cZ, .boolean)] s := hK.sub (tys' := [(cI, .int), (cZ, .boolean)]) [0, 1] rfl
  have hinX8 : ∀ w ∈ u_ws RX8 TX8 6, w ∈ wsX8_addShelf := by decide +kernel
  have hw1 := hts (.fieldLink RX8 12 "GlideShelves" "now" "LGlideShelves$State;") (by decide +kernel)
  have hinX6 : ∀ w ∈ u_ws RX6 TX6 5, w ∈ wsX8_addShelf := by decide +kernel
  have hinX7 : ∀ w ∈ u_ws RX7 TX7 6, w ∈ wsX8_addShelf := by decide +kernel
  have hw4 := hts (.initialized RX7) (by decide +kernel)
  have hw5 := hts (.instanceMethod yX7_firstFree) (by decide +kernel)
  have hw6 := hts (.selects RX7 yX7_firstFree yX7_firstFree) (by decide +kernel)
  have hw7 := hts (.fieldLink RX8 22 "GlideShelves" "history" "LGlideShelves$History;") (by decide +kernel)
  have hw8 := hts (.initialized RX1) (by decide +kernel)
  have hw9 := hts (.instanceMethod yX1_save) (by decide +kernel)
  have hw10 := hts (.selects RX1 yX1_save yX1_save) (by decide +kernel)
  have hw11 := hts (.instanceMethod yX7_addAt) (by decide +kernel)
  have hw12 := hts (.selects RX7 yX7_addAt yX7_addAt) (by decide +kernel)
  subst hsz
  have hD := hD0.self (sz := s.heap.size)
  generalize hAe : va_A (wX8 cI cZ cS (fS hs) (fG hs) a M ++ RW cI cZ hs) s.heap.size = A at hD ⊢
  have hA : ∀ q : Nat, s.heap.size ≤ q → A q := fun q h => by rw [← hAe]; exact Or.inr h
  have hS : va_S A s.heap s.heap [] := va_S.rf
  have hl := lv_entry ([.ref (a 0), .int a1]) (n := 3) (Nat.le_of_ble_eq_true rfl)
  rw [lg_entry_eq]
  generalize (lg_sl ([.ref (a 0), .int a1]) ++ List.replicate (3 - (lg_sl ([.ref (a 0), .int a1])).length) Slot.unset).toArray = ls at hl ⊢
  have hl : lv_has ls 3 [(0, .ref (a 0)), (1, .int a1)] := hl
  unfold fX8_addShelf at hf
  suffices hgo : ∀ (H : Heap) (locs : List Loc), va_P (dC, dI) vwCl (wX8 cI cZ cS (fS hs) (fG hs) a M ++ RW cI cZ hs) H → va_D A (wX8 cI cZ cS (fS hs) (fG hs) a M ++ RW cI cZ hs) → va_S A s.heap H locs → W p l e (headSpec wsX8_addShelf ({ frames := 4, cells := 16, slots := 316, locals := 124 } : Room)).room s m ([.ref (a 0), .int a1] : List Value).toArray below meth c H locs 0 0 (MQ below (va_Qi (S := HS) (fun r hs' => r = z1 ∧ cts hs' = z3) (fun hs' t => WE (dC, dI) cI cZ (wX8 cI cZ cS (fS hs') (fG hs') a z2 ++ RW cI cZ hs') A t) A) ([.ref (a 0), .int a1] : List Value).toArray s 16 316 A) (F0 m 0 ls []) from hgo _ _ hP hD hS
  intro H locs hP hD hS
  refine lv_aload_n hx hb dX8_addShelf_0 rfl (lv_at hl 0 rfl) ?_
  refine lv_iload_n hx hb dX8_addShelf_1 rfl (lv_at hl 1 rfl) ?_
  obtain ⟨r2, hc2, hf⟩ := bi_s hf
  rcases r2 with E9 | r2
  · have e9 := so_e hf
    cases e9
  have hf := sel_r hf
  refine cROv (W.runV (As := [.int a1]) (rest := []) ⟨hx, hb, hml, hown, hts⟩ (n_X8_requireHeight l dC dI cI cZ cS (fS hs) (fG hs) a M a1  hc2) (cwV 1 hts gX8_addShelf_X8_requireHeight rfl rfl rfl (by decide +kernel) ⟨Nat.le_of_ble_eq_true rfl, Nat.le_of_ble_eq_true rfl⟩) ⟨RO8.blind, va_recv hK hP (ci := 8) (q0 := 0) rfl rfl, RO8.pre (P_app hP).1 hK hNW⟩ rfl rfl hl.1 rfl (lv_room (Nat.le_of_ble_eq_true rfl)) dX8_addShelf_2 ⟨Nat.le_of_ble_eq_true rfl, Nat.le_of_ble_eq_true rfl⟩) ?_
  refine lv_aload_n hx hb dX8_addShelf_5 rfl (lv_at hl 0 rfl) ?_
  refine va_get (D := (dC, dI)) (ci := 8) (v := .ref (a 1)) (C := RX8) (T := TX8) (N := 6) hx hb hts hinX8 hown hK hP 0 rfl rfl 0 (by decide) hw1 (fun _ h9 => h9) rfl dX8_addShelf_6 ?_
  refine va_getN (D := (dC, dI)) (ci := 6) (v := .ref (a 2)) (C := RX6) (T := TX6) (N := 5) hx hb hts hinX6 hown hK hP 1 rfl rfl 0 (by decide) (nw23 hNW) (fun _ h9 => h9) rfl dX8_addShelf_9 ?_
  refine va_getN (D := (dC, dI)) (ci := 7) (v := .int (M 2 0)) (C := RX7) (T := TX7) (N := 6) hx hb hts hinX7 hown hK hP 2 rfl rfl 0 (by decide) (nw24 hNW) (fun _ h9 => h9) rfl dX8_addShelf_12 ?_
  refine lv_bipush (v := (12 : Int32)) hx hb dX8_addShelf_15 (by decide) ?_
  refine lv_icmp_lt (tgt := 30) hx hb dX8_addShelf_17 (by decide) (fun c9 => ?_) (fun c9 => ?_)
  · have hf := it_t hf c9
    refine lv_aload_n hx hb dX8_addShelf_30 rfl (lv_at hl 0 rfl) ?_
    obtain ⟨r31, hc31, hf⟩ := bi_s hf
    rcases r31 with E9 | r31
    · have e9 := so_e hf
      cases e9
    have hf := sel_r hf
    refine cROv (W.runV (As := []) (rest := []) ⟨hx, hb, hml, hown, hts⟩ (n_X8_requireEmptyWindow l dC dI cI cZ cS (fS hs) (fG hs) a M  hc31) (cwV 0 hts gX8_addShelf_X8_requireEmptyWindow rfl rfl rfl (by decide +kernel) ⟨Nat.le_of_ble_eq_true rfl, Nat.le_of_ble_eq_true rfl⟩) ⟨RO8.blind, va_recv hK hP (ci := 8) (q0 := 0) rfl rfl, RO8.pre (P_app hP).1 hK hNW⟩ rfl rfl hl.1 rfl (lv_room (Nat.le_of_ble_eq_true rfl)) dX8_addShelf_31 ⟨Nat.le_of_ble_eq_true rfl, Nat.le_of_ble_eq_true rfl⟩) ?_
    refine lv_aload_n hx hb dX8_addShelf_34 rfl (lv_at hl 0 rfl) ?_
    refine va_get (D := (dC, dI)) (ci := 8) (v := .ref (a 1)) (C := RX8) (T := TX8) (N := 6) hx hb hts hinX8 hown hK hP 0 rfl rfl 0 (by decide) hw1 (fun _ h9 => h9) rfl dX8_addShelf_35 ?_
    refine va_getN (D := (dC, dI)) (ci := 6) (v := .ref (a 2)) (C := RX6) (T := TX6) (N := 5) hx hb hts hinX6 hown hK hP 1 rfl rfl 0 (by decide) (nw23 hNW) (fun _ h9 => h9) rfl dX8_addShelf_38 ?_
    refine lv_iload_n hx hb dX8_addShelf_41 rfl (lv_at hl 1 rfl) ?_
    obtain ⟨r42, hc42, hf⟩ := bi_s hf
    have hPc := P_head (ws := (wX8 cI cZ cS (fS hs) (fG hs) a M)) (ws' := (wX7 cI cZ (ofs 2 a) (ofs 2 M))) hP [2, 3, 4, 5, 6] rfl
    refine cRO (va_Run.run (va_runVN (As := [.int a1]) (rest := []) ⟨hx, hb, hml, hown, hts⟩ (c_X7_firstFree l dC dI cI cZ (ofs 2 a) (ofs 2 M) a1 r42 hc42) ⟨va_cnB 1 hts gX8_addShelf_X7_firstFree_n64 rfl rfl rfl (nw66 hNW) hw4 (by decide +kernel) ⟨Nat.le_of_ble_eq_true rfl, Nat.le_of_ble_eq_true rfl⟩, hw5, hw6⟩ ⟨RO.blind, va_recv hK hP (ci := 7) (q0 := 2) rfl rfl, RO.pre hPc hK2 hNW⟩ rfl rfl hl.1 rfl (lv_room (Nat.le_of_ble_eq_true rfl)) dX8_addShelf_42 ⟨Nat.le_of_ble_eq_true rfl, Nat.le_of_ble_eq_true rfl⟩)) ?_
    refine lv_istore_n (lv' := [(2, .int r42), (0, .ref (a 0)), (1, .int a1)]) hx hb dX8_addShelf_45 rfl hl (by decide) rfl (fun ls hl => ?_)
    refine lv_iload_n hx hb dX8_addShelf_46 rfl (lv_at hl 0 rfl) ?_
    refine lv_iconst (v := (-1 : Int32)) hx hb dX8_addShelf_47 (by decide) ?_
    refine lv_icmp_ne (tgt := 61) hx hb dX8_addShelf_48 (by decide) (fun c9 => ?_) (fun c9 => ?_)
    · have hf := it_t hf c9
      refine lv_aload_n hx hb dX8_addShelf_61 rfl (lv_at hl 1 rfl) ?_
      refine va_get (D := (dC, dI)) (ci := 8) (v := .ref (a 33)) (C := RX8) (T := TX8) (N := 6) hx hb hts hinX8 hown hK hP 0 rfl rfl 2 (by decide) hw7 (fun _ h9 => h9) rfl dX8_addShelf_62 ?_
      refine lv_aload_n hx hb dX8_addShelf_65 rfl (lv_at hl 1 rfl) ?_
      refine va_get (D := (dC, dI)) (ci := 8) (v := .ref (a 1)) (C := RX8) (T := TX8) (N := 6) hx hb hts hinX8 hown hK hP 0 rfl rfl 0 (by decide) hw1 (fun _ h9 => h9) rfl dX8_addShelf_66 ?_
      have hf := inrs_s hf
      obtain ⟨q69, hc69, hf⟩ := bi_s hf
      have hPc := hP.part (X := (wX8 cI cZ cS (fS hs) (fG hs) a M)) (cx := (wX1s cI cZ cS (fS hs) (fG hs) (pk [33, 34, 35, 1, 2, 3, 4, 5, 6, 7, 8, 9, 10, 11, 12, 13, 14, 15, 16] a) (pk [33, 34, 35, 1, 2, 3, 4, 5, 6, 7, 8, 9, 10, 11, 12, 13, 14, 15, 16] M))) [33, 34, 35, 1, 2, 3, 4, 5, 6, 7, 8, 9, 10, 11, 12, 13, 14, 15, 16] rfl
      have hDc := hD.part (X := (wX8 cI cZ cS (fS hs) (fG hs) a M)) (cx := (wX1s cI cZ cS (fS hs) (fG hs) (pk [33, 34, 35, 1, 2, 3, 4, 5, 6, 7, 8, 9, 10, 11, 12, 13, 14, 15, 16] a) (pk [33, 34, 35, 1, 2, 3, 4, 5, 6, 7, 8, 9, 10, 11, 12, 13, 14, 15, 16] M))) [33, 34, 35, 1, 2, 3, 4, 5, 6, 7, 8, 9, 10, 11, 12, 13, 14, 15, 16] (by decide) rfl
      have hFc := va_freeP (X := (wX8 cI cZ cS (fS hs) (fG hs) a M)) (cx := (wX1s cI cZ cS (fS hs) (fG hs) (pk [33, 34, 35, 1, 2, 3, 4, 5, 6, 7, 8, 9, 10, 11, 12, 13, 14, 15, 16] a) (pk [33, 34, 35, 1, 2, 3, 4, 5, 6, 7, 8, 9, 10, 11, 12, 13, 14, 15, 16] M))) hD hS hA [33, 34, 35, 1, 2, 3, 4, 5, 6, 7, 8, 9, 10, 11, 12, 13, 14, 15, 16] rfl
      refine va_callv (va_runVN (As := [.ref (a 1)]) (rest := []) ⟨hx, hb, hml, hown, hts⟩ (c_X1_save l dC dI cI cZ cS hs (pk [33, 34, 35, 1, 2, 3, 4, 5, 6, 7, 8, 9, 10, 11, 12, 13, 14, 15, 16] a) H.size (pk [33, 34, 35, 1, 2, 3, 4, 5, 6, 7, 8, 9, 10, 11, 12, 13, 14, 15, 16] M) q69 hc69) ⟨va_cnB 1 hts gX8_addShelf_X1_save_n70 rfl rfl rfl (nw67 hNW) hw8 (by decide +kernel) ⟨Nat.le_of_ble_eq_true rfl, Nat.le_of_ble_eq_true rfl⟩, hw9, hw10⟩ ⟨WR8.blind, va_recv hK hP (ci := 1) (q0 := 33) rfl rfl, WR8.pre hPc hK hDc hNW⟩ rfl rfl hl.1 rfl (lv_room (Nat.le_of_ble_eq_true rfl)) dX8_addShelf_69 ⟨Nat.le_of_ble_eq_true rfl, Nat.le_of_ble_eq_true rfl⟩) hS (fun q _ h => hFc q h) hFc (fun hs1 t H1 locs ht hvm hw hB hz1 hk1 hS => ?_)
      obtain ⟨hh1, hh6, hh7⟩ := hw
      obtain ⟨hP1, hD1⟩ := hB
      rw [ht] at hP1
      rw [fX1_save_rows hc69] at hP1 hD1
      obtain ⟨hP, hD⟩ := va_joinP (X := (wX8 cI cZ cS (fS hs) (fG hs) a M)) (cx := (wX1s cI cZ cS (fS hs) (fG hs) (pk [33, 34, 35, 1, 2, 3, 4, 5, 6, 7, 8, 9, 10, 11, 12, 13, 14, 15, 16] a) (pk [33, 34, 35, 1, 2, 3, 4, 5, 6, 7, 8, 9, 10, 11, 12, 13, 14, 15, 16] M))) (wr := [(a 0, .inr (8, [.ref (a 1), .ref (a 17), .ref (a 33), .ref (a 36), .ref (a 40), .ref (a 41)])), (a 17, .inr (6, [.ref (a 18), .ref (a 23), .ref (a 26), .ref (a 31), .int (M 17 4)])), (a 18, .inr (7, [.int (M 18 0), .int (M 18 1), .ref (a 19), .ref (a 20), .ref (a 21), .ref (a 22)])), (a 19, .inl (cI, 12, .inl (M 19))), (a 20, .inl (cI, 12, .inl (M 20))), (a 21, .inl (cI, 12, .inl (M 21))), (a 22, .inl (cI, 120, .inl (M 22))), (a 23, .inr (2, [.int (M 23 0), .int (M 23 1), .int (M 23 2), .int (M 23 3), .int (M 23 4), .ref (a 24), .ref (a 25)])), (a 24, .inl (cI, 8, .inl (M 24))), (a 25, .inl (cZ, 8, .inl (M 25))), (a 26, .inr (0, [.ref (a 27), .ref (a 28), .ref (a 29), .ref (a 30)])), (a 27, .inl (cI, 10, .inl (M 27))), (a 28, .inl (cI, 10, .inl (M 28))), (a 29, .inl (cI, 10, .inl (M 29))), (a 30, .inl (cI, 10, .inl (M 30))), (a 31, .inr (3, [.int (M 31 0), .ref (a 32)])), (a 32, .inl (cI, 80, .inl (M 32))), (a 36, .inr (5, [.int (M 36 0), .ref (a 37), .ref (a 38)])), (a 37, .inl (cI, 60, .inl (M 37))), (a 38, .inr (4, [.int (M 38 0), .int (M 38 1), .ref (a 39)])), (a 39, .inl (cI, 10, .inl (M 39))), (a 40, .inl (cI, 12, .inl (M 40))), (a 41, .inl (cI, 10, .inl (M 41)))]) (rx := (wX1s cI cZ cS (fS hs1) (fG hs1) (pk [33, 34, 35, 1, 2, 3, 4, 5, 6, 7, 8, 9, 10, 11, 12, 13, 14, 15, 16] a) (sr (pk [33, 34, 35, 1, 2, 3, 4, 5, 6, 7, 8, 9, 10, 11, 12, 13, 14, 15, 16] M) 0 (q69.1 0)))) hP hD [33, 34, 35, 1, 2, 3, 4, 5, 6, 7, 8, 9, 10, 11, 12, 13, 14, 15, 16] [0, 17, 18, 19, 20, 21, 22, 23, 24, 25, 26, 27, 28, 29, 30, 31, 32, 36, 37, 38, 39, 40, 41] rfl rfl (by decide) (by decide) hk1 hFc hP1 hD1
      have hP := P_perm (ws' := (wX8 cI cZ cS (fS hs1) (fG hs1) a (sr M 33 (q69.1 0)))) hP [0, 26, 27, 28, 29, 30, 31, 32, 33, 34, 35, 36, 37, 38, 39, 40, 41, 1, 2, 3, 4, 5, 6, 7, 8, 9, 10, 11, 12, 13, 14, 15, 16, 23, 24, 25, 17, 18, 19, 20, 21, 22] rfl
      have hD := D_perm (ws' := (wX8 cI cZ cS (fS hs1) (fG hs1) a (sr M 33 (q69.1 0)))) hD [0, 26, 27, 28, 29, 30, 31, 32, 33, 34, 35, 36, 37, 38, 39, 40, 41, 1, 2, 3, 4, 5, 6, 7, 8, 9, 10, 11, 12, 13, 14, 15, 16, 23, 24, 25, 17, 18, 19, 20, 21, 22] (by decide) rfl
      generalize H1 = H at hP hS ⊢
      refine lv_aload_n hx hb dX8_addShelf_72 rfl (lv_at hl 1 rfl) ?_
      refine va_get (D := (dC, dI)) (ci := 8) (v := .ref (a 1)) (C := RX8) (T := TX8) (N := 6) hx hb hts hinX8 hown hK hP 0 rfl rfl 0 (by decide) hw1 (fun _ h9 => h9) rfl dX8_addShelf_73 ?_
      refine va_getN (D := (dC, dI)) (ci := 6) (v := .ref (a 2)) (C := RX6) (T := TX6) (N := 5) hx hb hts hinX6 hown hK hP 1 rfl rfl 0 (by decide) (nw23 hNW) (fun _ h9 => h9) rfl dX8_addShelf_76 ?_
      refine lv_iload_n hx hb dX8_addShelf_79 rfl (lv_at hl 0 rfl) ?_
      refine lv_iload_n hx hb dX8_addShelf_80 rfl (lv_at hl 2 rfl) ?_
      obtain ⟨r81, hc81, hf⟩ := bi_s hf
      have hPc := P_head (ws := (wX8 cI cZ cS (fS hs1) (fG hs1) a (sr M 33 (q69.1 0)))) (ws' := (wX7 cI cZ (ofs 2 a) (ofs 2 (sr M 33 (q69.1 0))))) hP [2, 3, 4, 5, 6] rfl
      have hDc := D_head (ws := (wX8 cI cZ cS (fS hs1) (fG hs1) a (sr M 33 (q69.1 0)))) (ws' := (wX7 cI cZ (ofs 2 a) (ofs 2 (sr M 33 (q69.1 0))))) hD [2, 3, 4, 5, 6] (by decide) rfl
      have hFc := va_free (wc := (wX7 cI cZ (ofs 2 a) (ofs 2 (sr M 33 (q69.1 0))))) hD hS hA [2, 3, 4, 5, 6] rfl
      refine va_calli (va_runVN (As := [.int r42, .int a1]) (rest := []) ⟨hx, hb, hml, hown, hts⟩ (c_X7_addAt l dC dI cI cZ (ofs 2 a) H.size (ofs 2 (sr M 33 (q69.1 0))) r42 a1 r81 hc81) ⟨va_cnB 2 hts gX8_addShelf_X7_addAt_n74 rfl rfl rfl (nw68 hNW) hw4 (by decide +kernel) ⟨Nat.le_of_ble_eq_true rfl, Nat.le_of_ble_eq_true rfl⟩, hw11, hw12⟩ ⟨WR.blind, va_recv hK hP (ci := 7) (q0 := 2) rfl rfl, WR.pre hPc hK2 hDc hNW⟩ rfl rfl hl.1 rfl (lv_room (Nat.le_of_ble_eq_true rfl)) dX8_addShelf_81 ⟨Nat.le_of_ble_eq_true rfl, Nat.le_of_ble_eq_true rfl⟩) hS (fun q _ h => hFc q h) hFc (fun rv u t H1 locs ht hvm hw hB hz1 hk1 hS => ?_)
      obtain ⟨hP1, hD1⟩ := hB
      rw [ht] at hP1
      subst hw
      obtain ⟨hP, hD⟩ := join_app (ws := (wX8 cI cZ cS (fS hs1) (fG hs1) a (sr M 33 (q69.1 0)))) (wr := [(a 0, .inr (8, [.ref (a 1), .ref (a 17), .ref (a 33), .ref (a 36), .ref (a 40), .ref (a 41)])), (a 1, .inr (6, [.ref (a 2), .ref (a 7), .ref (a 10), .ref (a 15), .int (M 1 4)])), (a 7, .inr (2, [.int (M 7 0), .int (M 7 1), .int (M 7 2), .int (M 7 3), .int (M 7 4), .ref (a 8), .ref (a 9)])), (a 8, .inl (cI, 8, .inl (M 8))), (a 9, .inl (cZ, 8, .inl (M 9))), (a 10, .inr (0, [.ref (a 11), .ref (a 12), .ref (a 13), .ref (a 14)])), (a 11, .inl (cI, 10, .inl (M 11))), (a 12, .inl (cI, 10, .inl (M 12))), (a 13, .inl (cI, 10, .inl (M 13))), (a 14, .inl (cI, 10, .inl (M 14))), (a 15, .inr (3, [.int (M 15 0), .ref (a 16)])), (a 16, .inl (cI, 80, .inl (M 16))), (a 17, .inr (6, [.ref (a 18), .ref (a 23), .ref (a 26), .ref (a 31), .int (M 17 4)])), (a 18, .inr (7, [.int (M 18 0), .int (M 18 1), .ref (a 19), .ref (a 20), .ref (a 21), .ref (a 22)])), (a 19, .inl (cI, 12, .inl (M 19))), (a 20, .inl (cI, 12, .inl (M 20))), (a 21, .inl (cI, 12, .inl (M 21))), (a 22, .inl (cI, 120, .inl (M 22))), (a 23, .inr (2, [.int (M 23 0), .int (M 23 1), .int (M 23 2), .int (M 23 3), .int (M 23 4), .ref (a 24), .ref (a 25)])), (a 24, .inl (cI, 8, .inl (M 24))), (a 25, .inl (cZ, 8, .inl (M 25))), (a 26, .inr (0, [.ref (a 27), .ref (a 28), .ref (a 29), .ref (a 30)])), (a 27, .inl (cI, 10, .inl (M 27))), (a 28, .inl (cI, 10, .inl (M 28))), (a 29, .inl (cI, 10, .inl (M 29))), (a 30, .inl (cI, 10, .inl (M 30))), (a 31, .inr (3, [.int (M 31 0), .ref (a 32)])), (a 32, .inl (cI, 80, .inl (M 32))), (a 33, .inr (1, [.int ((q69.1 0) 0), .ref (a 34), .ref (a 35)])), (a 34, .inl (cS, 6, .inr (.inr (.inr (.inr (fS hs1)))))), (a 35, .inl (cS, 2, .inr (.inr (.inr (.inr (fG hs1)))))), (a 36, .inr (5, [.int (M 36 0), .ref (a 37), .ref (a 38)])), (a 37, .inl (cI, 60, .inl (M 37))), (a 38, .inr (4, [.int (M 38 0), .int (M 38 1), .ref (a 39)])), (a 39, .inl (cI, 10, .inl (M 39))), (a 40, .inl (cI, 12, .inl (M 40))), (a 41, .inl (cI, 10, .inl (M 41)))]) (w1 := (wX7 cI cZ (ofs 2 a) (sr (sr (sr (sr (sr (ofs 2 (sr M 33 (q69.1 0))) 0 (r81.2 0)) 1 (r81.2 1)) 2 (r81.2 2)) 3 (r81.2 3)) 4 (r81.2 4)))) hP hD [2, 3, 4, 5, 6] [0, 1, 7, 8, 9, 10, 11, 12, 13, 14, 15, 16, 17, 18, 19, 20, 21, 22, 23, 24, 25, 26, 27, 28, 29, 30, 31, 32, 33, 34, 35, 36, 37, 38, 39, 40, 41] rfl rfl (by decide) (by decide) hk1 hFc hP1 hD1
      have hP := P_perm (ws' := (wX8 cI cZ cS (fS hs1) (fG hs1) a (sr (sr (sr (sr (sr (sr M 2 (r81.2 0)) 3 (r81.2 1)) 4 (r81.2 2)) 5 (r81.2 3)) 6 (r81.2 4)) 33 (q69.1 0)))) hP [0, 1, 37, 38, 39, 40, 41, 2, 3, 4, 5, 6, 7, 8, 9, 10, 11, 12, 13, 14, 15, 16, 17, 18, 19, 20, 21, 22, 23, 24, 25, 26, 27, 28, 29, 30, 31, 32, 33, 34, 35, 36] rfl
      have hD := D_perm (ws' := (wX8 cI cZ cS (fS hs1) (fG hs1) a (sr (sr (sr (sr (sr (sr M 2 (r81.2 0)) 3 (r81.2 1)) 4 (r81.2 2)) 5 (r81.2 3)) 6 (r81.2 4)) 33 (q69.1 0)))) hD [0, 1, 37, 38, 39, 40, 41, 2, 3, 4, 5, 6, 7, 8, 9, 10, 11, 12, 13, 14, 15, 16, 17, 18, 19, 20, 21, 22, 23, 24, 25, 26, 27, 28, 29, 30, 31, 32, 33, 34, 35, 36] (by decide) rfl
      generalize H1 = H at hP hS ⊢
      have e9 := so_e hf
      cases e9
      exact W.iret hx hb hr (fun t ht hW => ⟨⟨_, hs1, rfl, ⟨rfl, hh1⟩, WE.mk hP hD ht⟩, hS.F ht⟩) hS.2.2 dX8_addShelf_84
    · have hf := it_n hf c9
      have e9 := so_e hf
      cases e9
  · have hf := it_f hf c9
    have e9 := so_e hf
    cases e9
set_option maxHeartbeats 4000000 in
set_option maxRecDepth 100000 in
theorem n_X8_scrap (l : Launch) (dC : Nat → ClassId) (dI : Nat → Nat → Nat) (cI cZ cS : ClassId) (hs : HS) (a : Nat → Nat) (sz : Nat) (M : Mem) (a1 : Int32) (z1 : Int32) (z2 : Mem) (z3 : Nat → Option Mem) (hf : fX8_scrap (cts hs) M a1 = some (Sum.inr z1, z2, z3)) : Met l yX8_scrap wsX8_scrap ({ frames := 4, cells := 16, slots := 316, locals := 124 } : Room) (va_Pc [.ref (a 0), .int a1] (WR8 (dC, dI) cI cZ cS (wX8 cI cZ cS (fS hs) (fG hs) a M ++ RW cI cZ hs) sz)) (va_Qi (S := HS) (fun r hs' => r = z1 ∧ cts hs' = z3) (fun hs' t => WE (dC, dI) cI cZ (wX8 cI cZ cS (fS hs') (fG hs') a z2 ++ RW cI cZ hs') (va_A (wX8 cI cZ cS (fS hs) (fG hs) a M ++ RW cI cZ hs) sz) t) (va_A (wX8 cI cZ cS (fS hs) (fG hs) a M ++ RW cI cZ hs) sz)) 16 316 (va_A (wX8 cI cZ cS (fS hs) (fG hs) a M ++ RW cI cZ hs) sz) := by
  refine Met.ofW (cc := cX8_scrap) (maxL := 3) (ret := (some .int)) (by decide) rfl ?_
  intro p e s m args below meth c s₁ B hml hv
  obtain ⟨rfl, hsz, hP, hK, hD0, hNW⟩ := hv
  have hx := B.exec
  have hb := B.bytes
  have hr := B.returns
  have hts := atoms_spec (ws := wsX8_scrap) B.pre
  have hown : s.vm.findClass RX8 = some m.cls := findClass_of_methodNamed B.named
  have hlocks := B.notSynchronized
  have hK2 : va_K (dC, dI) vwCl [(cI, .int), (cZ, .boolean)] s := hK.sub (tys' := [(cI, .int), (cZ, .boolean)]) [0, 1] rfl
  have hinX8 : ∀ w ∈ u_ws RX8 TX8 6, w ∈ wsX8_scrap := by decide +kernel
  have hw1 := hts (.fieldLink RX8 12 "GlideShelves" "now" "LGlideShelves$State;") (by decide +kernel)
  have hinX6 : ∀ w ∈ u_ws RX6 TX6 5, w ∈ wsX8_scrap := by decide +kernel
  have hinX7 : ∀ w ∈ u_ws RX7 TX7 6, w ∈ wsX8_scrap := by decide +kernel
  have hw4 := hts (.initialized RX7) (by decide +kernel)
  have hw5 := hts (.instanceMethod yX7_isEmpty) (by decide +kernel)
  have hw6 := hts (.selects RX7 yX7_isEmpty yX7_isEmpty) (by decide +kernel)
  have hw7 := hts (.fieldLink RX8 22 "GlideShelves" "history" "LGlideShelves$History;") (by decide +kernel)
  have hw8 := hts (.initialized RX1) (by decide +kernel)
  have hw9 := hts (.instanceMethod yX1_save) (by decide +kernel)
  have hw10 := hts (.selects RX1 yX1_save yX1_save) (by decide +kernel)
  have hw11 := hts (.instanceMethod yX7_remove) (by decide +kernel)
  have hw12 := hts (.selects RX7 yX7_remove yX7_remove) (by decide +kernel)
  subst hsz
  have hD := hD0.self (sz := s.heap.size)
  generalize hAe : va_A (wX8 cI cZ cS (fS hs) (fG hs) a M ++ RW cI cZ hs) s.heap.size = A at hD ⊢
  have hA : ∀ q : Nat, s.heap.size ≤ q → A q := fun q h => by rw [← hAe]; exact Or.inr h
  have hS : va_S A s.heap s.heap [] := va_S.rf
  have hl := lv_entry ([.ref (a 0), .int a1]) (n := 3) (Nat.le_of_ble_eq_true rfl)
  rw [lg_entry_eq]
  generalize (lg_sl ([.ref (a 0), .int a1]) ++ List.replicate (3 - (lg_sl ([.ref (a 0), .int a1])).length) Slot.unset).toArray = ls at hl ⊢
  have hl : lv_has ls 3 [(0, .ref (a 0)), (1, .int a1)] := hl
  unfold fX8_scrap at hf
  suffices hgo : ∀ (H : Heap) (locs : List Loc), va_P (dC, dI) vwCl (wX8 cI cZ cS (fS hs) (fG hs) a M ++ RW cI cZ hs) H → va_D A (wX8 cI cZ cS (fS hs) (fG hs) a M ++ RW cI cZ hs) → va_S A s.heap H locs → W p l e (headSpec wsX8_scrap ({ frames := 4, cells := 16, slots := 316, locals := 124 } : Room)).room s m ([.ref (a 0), .int a1] : List Value).toArray below meth c H locs 0 0 (MQ below (va_Qi (S := HS) (fun r hs' => r = z1 ∧ cts hs' = z3) (fun hs' t => WE (dC, dI) cI cZ (wX8 cI cZ cS (fS hs') (fG hs') a z2 ++ RW cI cZ hs') A t) A) ([.ref (a 0), .int a1] : List Value).toArray s 16 316 A) (F0 m 0 ls []) from hgo _ _ hP hD hS
  intro H locs hP hD hS
  refine lv_aload_n hx hb dX8_scrap_0 rfl (lv_at hl 0 rfl) ?_
  refine lv_iload_n hx hb dX8_scrap_1 rfl (lv_at hl 1 rfl) ?_
  obtain ⟨r2, hc2, hf⟩ := bi_s hf
  rcases r2 with E9 | r2
  · have e9 := so_e hf
    cases e9
  have hf := sel_r hf
  refine cROv (W.runV (As := [.int a1]) (rest := []) ⟨hx, hb, hml, hown, hts⟩ (n_X8_requireShelf l dC dI cI cZ cS (fS hs) (fG hs) a M a1  hc2) (cwV 1 hts gX8_scrap_X8_requireShelf rfl rfl rfl (by decide +kernel) ⟨Nat.le_of_ble_eq_true rfl, Nat.le_of_ble_eq_true rfl⟩) ⟨RO8.blind, va_recv hK hP (ci := 8) (q0 := 0) rfl rfl, RO8.pre (P_app hP).1 hK hNW⟩ rfl rfl hl.1 rfl (lv_room (Nat.le_of_ble_eq_true rfl)) dX8_scrap_2 ⟨Nat.le_of_ble_eq_true rfl, Nat.le_of_ble_eq_true rfl⟩) ?_
  refine lv_iload_n hx hb dX8_scrap_5 rfl (lv_at hl 1 rfl) ?_
  refine lv_aload_n hx hb dX8_scrap_6 rfl (lv_at hl 0 rfl) ?_
  refine va_get (D := (dC, dI)) (ci := 8) (v := .ref (a 1)) (C := RX8) (T := TX8) (N := 6) hx hb hts hinX8 hown hK hP 0 rfl rfl 0 (by decide) hw1 (fun _ h9 => h9) rfl dX8_scrap_7 ?_
  refine va_getN (D := (dC, dI)) (ci := 6) (v := .ref (a 2)) (C := RX6) (T := TX6) (N := 5) hx hb hts hinX6 hown hK hP 1 rfl rfl 0 (by decide) (nw23 hNW) (fun _ h9 => h9) rfl dX8_scrap_10 ?_
  refine va_getN (D := (dC, dI)) (ci := 7) (v := .int (M 2 1)) (C := RX7) (T := TX7) (N := 6) hx hb hts hinX7 hown hK hP 2 rfl rfl 1 (by decide) (nw25 hNW) (fun _ h9 => h9) rfl dX8_scrap_13 ?_
  refine lv_icmp_ne (tgt := 29) hx hb dX8_scrap_16 (by decide) (fun c9 => ?_) (fun c9 => ?_)
  · have hf := it_t hf c9
    refine lv_aload_n hx hb dX8_scrap_29 rfl (lv_at hl 0 rfl) ?_
    refine va_get (D := (dC, dI)) (ci := 8) (v := .ref (a 1)) (C := RX8) (T := TX8) (N := 6) hx hb hts hinX8 hown hK hP 0 rfl rfl 0 (by decide) hw1 (fun _ h9 => h9) rfl dX8_scrap_30 ?_
    refine va_getN (D := (dC, dI)) (ci := 6) (v := .ref (a 2)) (C := RX6) (T := TX6) (N := 5) hx hb hts hinX6 hown hK hP 1 rfl rfl 0 (by decide) (nw23 hNW) (fun _ h9 => h9) rfl dX8_scrap_33 ?_
    refine lv_iload_n hx hb dX8_scrap_36 rfl (lv_at hl 1 rfl) ?_
    obtain ⟨r37, hc37, hf⟩ := bi_s hf
    have hPc := P_head (ws := (wX8 cI cZ cS (fS hs) (fG hs) a M)) (ws' := (wX7 cI cZ (ofs 2 a) (ofs 2 M))) hP [2, 3, 4, 5, 6] rfl
    refine cRO (va_Run.run (va_runVN (As := [.int a1]) (rest := []) ⟨hx, hb, hml, hown, hts⟩ (c_X7_isEmpty l dC dI cI cZ (ofs 2 a) (ofs 2 M) a1 r37 hc37) ⟨va_cnB 1 hts gX8_scrap_X7_isEmpty_n86 rfl rfl rfl (nw69 hNW) hw4 (by decide +kernel) ⟨Nat.le_of_ble_eq_true rfl, Nat.le_of_ble_eq_true rfl⟩, hw5, hw6⟩ ⟨RO.blind, va_recv hK hP (ci := 7) (q0 := 2) rfl rfl, RO.pre hPc hK2 hNW⟩ rfl rfl hl.1 rfl (lv_room (Nat.le_of_ble_eq_true rfl)) dX8_scrap_37 ⟨Nat.le_of_ble_eq_true rfl, Nat.le_of_ble_eq_true rfl⟩)) ?_
    refine lv_if_ne (tgt := 53) hx hb dX8_scrap_40 (by decide) (fun c9 => ?_) (fun c9 => ?_)
    · have hf := it_t hf c9
      refine lv_aload_n hx hb dX8_scrap_53 rfl (lv_at hl 0 rfl) ?_
      refine va_get (D := (dC, dI)) (ci := 8) (v := .ref (a 33)) (C := RX8) (T := TX8) (N := 6) hx hb hts hinX8 hown hK hP 0 rfl rfl 2 (by decide) hw7 (fun _ h9 => h9) rfl dX8_scrap_54 ?_
      refine lv_aload_n hx hb dX8_scrap_57 rfl (lv_at hl 0 rfl) ?_
      refine va_get (D := (dC, dI)) (ci := 8) (v := .ref (a 1)) (C := RX8) (T := TX8) (N := 6) hx hb hts hinX8 hown hK hP 0 rfl rfl 0 (by decide) hw1 (fun _ h9 => h9) rfl dX8_scrap_58 ?_
      have hf := inrs_s hf
      obtain ⟨q61, hc61, hf⟩ := bi_s hf
      have hPc := hP.part (X := (wX8 cI cZ cS (fS hs) (fG hs) a M)) (cx := (wX1s cI cZ cS (fS hs) (fG hs) (pk [33, 34, 35, 1, 2, 3, 4, 5, 6, 7, 8, 9, 10, 11, 12, 13, 14, 15, 16] a) (pk [33, 34, 35, 1, 2, 3, 4, 5, 6, 7, 8, 9, 10, 11, 12, 13, 14, 15, 16] M))) [33, 34, 35, 1, 2, 3, 4, 5, 6, 7, 8, 9, 10, 11, 12, 13, 14, 15, 16] rfl
      have hDc := hD.part (X := (wX8 cI cZ cS (fS hs) (fG hs) a M)) (cx := (wX1s cI cZ cS (fS hs) (fG hs) (pk [33, 34, 35, 1, 2, 3, 4, 5, 6, 7, 8, 9, 10, 11, 12, 13, 14, 15, 16] a) (pk [33, 34, 35, 1, 2, 3, 4, 5, 6, 7, 8, 9, 10, 11, 12, 13, 14, 15, 16] M))) [33, 34, 35, 1, 2, 3, 4, 5, 6, 7, 8, 9, 10, 11, 12, 13, 14, 15, 16] (by decide) rfl
      have hFc := va_freeP (X := (wX8 cI cZ cS (fS hs) (fG hs) a M)) (cx := (wX1s cI cZ cS (fS hs) (fG hs) (pk [33, 34, 35, 1, 2, 3, 4, 5, 6, 7, 8, 9, 10, 11, 12, 13, 14, 15, 16] a) (pk [33, 34, 35, 1, 2, 3, 4, 5, 6, 7, 8, 9, 10, 11, 12, 13, 14, 15, 16] M))) hD hS hA [33, 34, 35, 1, 2, 3, 4, 5, 6, 7, 8, 9, 10, 11, 12, 13, 14, 15, 16] rfl
      refine va_callv (va_runVN (As := [.ref (a 1)]) (rest := []) ⟨hx, hb, hml, hown, hts⟩ (c_X1_save l dC dI cI cZ cS hs (pk [33, 34, 35, 1, 2, 3, 4, 5, 6, 7, 8, 9, 10, 11, 12, 13, 14, 15, 16] a) H.size (pk [33, 34, 35, 1, 2, 3, 4, 5, 6, 7, 8, 9, 10, 11, 12, 13, 14, 15, 16] M) q61 hc61) ⟨va_cnB 1 hts gX8_scrap_X1_save_n70 rfl rfl rfl (nw67 hNW) hw8 (by decide +kernel) ⟨Nat.le_of_ble_eq_true rfl, Nat.le_of_ble_eq_true rfl⟩, hw9, hw10⟩ ⟨WR8.blind, va_recv hK hP (ci := 1) (q0 := 33) rfl rfl, WR8.pre hPc hK hDc hNW⟩ rfl rfl hl.1 rfl (lv_room (Nat.le_of_ble_eq_true rfl)) dX8_scrap_61 ⟨Nat.le_of_ble_eq_true rfl, Nat.le_of_ble_eq_true rfl⟩) hS (fun q _ h => hFc q h) hFc (fun hs1 t H1 locs ht hvm hw hB hz1 hk1 hS => ?_)
      obtain ⟨hh1, hh6, hh7⟩ := hw
      obtain ⟨hP1, hD1⟩ := hB
      rw [ht] at hP1
      rw [fX1_save_rows hc61] at hP1 hD1
      obtain ⟨hP, hD⟩ := va_joinP (X := (wX8 cI cZ cS (fS hs) (fG hs) a M)) (cx := (wX1s cI cZ cS (fS hs) (fG hs) (pk [33, 34, 35, 1, 2, 3, 4, 5, 6, 7, 8, 9, 10, 11, 12, 13, 14, 15, 16] a) (pk [33, 34, 35, 1, 2, 3, 4, 5, 6, 7, 8, 9, 10, 11, 12, 13, 14, 15, 16] M))) (wr := [(a 0, .inr (8, [.ref (a 1), .ref (a 17), .ref (a 33), .ref (a 36), .ref (a 40), .ref (a 41)])), (a 17, .inr (6, [.ref (a 18), .ref (a 23), .ref (a 26), .ref (a 31), .int (M 17 4)])), (a 18, .inr (7, [.int (M 18 0), .int (M 18 1), .ref (a 19), .ref (a 20), .ref (a 21), .ref (a 22)])), (a 19, .inl (cI, 12, .inl (M 19))), (a 20, .inl (cI, 12, .inl (M 20))), (a 21, .inl (cI, 12, .inl (M 21))), (a 22, .inl (cI, 120, .inl (M 22))), (a 23, .inr (2, [.int (M 23 0), .int (M 23 1), .int (M 23 2), .int (M 23 3), .int (M 23 4), .ref (a 24), .ref (a 25)])), (a 24, .inl (cI, 8, .inl (M 24))), (a 25, .inl (cZ, 8, .inl (M 25))), (a 26, .inr (0, [.ref (a 27), .ref (a 28), .ref (a 29), .ref (a 30)])), (a 27, .inl (cI, 10, .inl (M 27))), (a 28, .inl (cI, 10, .inl (M 28))), (a 29, .inl (cI, 10, .inl (M 29))), (a 30, .inl (cI, 10, .inl (M 30))), (a 31, .inr (3, [.int (M 31 0), .ref (a 32)])), (a 32, .inl (cI, 80, .inl (M 32))), (a 36, .inr (5, [.int (M 36 0), .ref (a 37), .ref (a 38)])), (a 37, .inl (cI, 60, .inl (M 37))), (a 38, .inr (4, [.int (M 38 0), .int (M 38 1), .ref (a 39)])), (a 39, .inl (cI, 10, .inl (M 39))), (a 40, .inl (cI, 12, .inl (M 40))), (a 41, .inl (cI, 10, .inl (M 41)))]) (rx := (wX1s cI cZ cS (fS hs1) (fG hs1) (pk [33, 34, 35, 1, 2, 3, 4, 5, 6, 7, 8, 9, 10, 11, 12, 13, 14, 15, 16] a) (sr (pk [33, 34, 35, 1, 2, 3, 4, 5, 6, 7, 8, 9, 10, 11, 12, 13, 14, 15, 16] M) 0 (q61.1 0)))) hP hD [33, 34, 35, 1, 2, 3, 4, 5, 6, 7, 8, 9, 10, 11, 12, 13, 14, 15, 16] [0, 17, 18, 19, 20, 21, 22, 23, 24, 25, 26, 27, 28, 29, 30, 31, 32, 36, 37, 38, 39, 40, 41] rfl rfl (by decide) (by decide) hk1 hFc hP1 hD1
      have hP := P_perm (ws' := (wX8 cI cZ cS (fS hs1) (fG hs1) a (sr M 33 (q61.1 0)))) hP [0, 26, 27, 28, 29, 30, 31, 32, 33, 34, 35, 36, 37, 38, 39, 40, 41, 1, 2, 3, 4, 5, 6, 7, 8, 9, 10, 11, 12, 13, 14, 15, 16, 23, 24, 25, 17, 18, 19, 20, 21, 22] rfl
      have hD := D_perm (ws' := (wX8 cI cZ cS (fS hs1) (fG hs1) a (sr M 33 (q61.1 0)))) hD [0, 26, 27, 28, 29, 30, 31, 32, 33, 34, 35, 36, 37, 38, 39, 40, 41, 1, 2, 3, 4, 5, 6, 7, 8, 9, 10, 11, 12, 13, 14, 15, 16, 23, 24, 25, 17, 18, 19, 20, 21, 22] (by decide) rfl
      generalize H1 = H at hP hS ⊢
      refine lv_aload_n hx hb dX8_scrap_64 rfl (lv_at hl 0 rfl) ?_
      refine va_get (D := (dC, dI)) (ci := 8) (v := .ref (a 1)) (C := RX8) (T := TX8) (N := 6) hx hb hts hinX8 hown hK hP 0 rfl rfl 0 (by decide) hw1 (fun _ h9 => h9) rfl dX8_scrap_65 ?_
      refine va_getN (D := (dC, dI)) (ci := 6) (v := .ref (a 2)) (C := RX6) (T := TX6) (N := 5) hx hb hts hinX6 hown hK hP 1 rfl rfl 0 (by decide) (nw23 hNW) (fun _ h9 => h9) rfl dX8_scrap_68 ?_
      refine va_getN (D := (dC, dI)) (ci := 7) (v := .ref (a 3)) (C := RX7) (T := TX7) (N := 6) hx hb hts hinX7 hown hK hP 2 rfl rfl 2 (by decide) (nw26 hNW) (fun _ h9 => h9) rfl dX8_scrap_71 ?_
      refine lv_iload_n hx hb dX8_scrap_74 rfl (lv_at hl 1 rfl) ?_
      obtain ⟨hi, hf⟩ := gd_s hf
      refine va_iald (D := (dC, dI)) (f := (M 3)) hx hb hK hP 3 0 rfl rfl (inb_in hi) dX8_scrap_75 ?_
      refine lv_istore_n (lv' := [(2, .int (M 3 a1.toNatClampNeg)), (0, .ref (a 0)), (1, .int a1)]) hx hb dX8_scrap_76 rfl hl (by decide) rfl (fun ls hl => ?_)
      refine lv_aload_n hx hb dX8_scrap_77 rfl (lv_at hl 1 rfl) ?_
      refine va_get (D := (dC, dI)) (ci := 8) (v := .ref (a 1)) (C := RX8) (T := TX8) (N := 6) hx hb hts hinX8 hown hK hP 0 rfl rfl 0 (by decide) hw1 (fun _ h9 => h9) rfl dX8_scrap_78 ?_
      refine va_getN (D := (dC, dI)) (ci := 6) (v := .ref (a 2)) (C := RX6) (T := TX6) (N := 5) hx hb hts hinX6 hown hK hP 1 rfl rfl 0 (by decide) (nw23 hNW) (fun _ h9 => h9) rfl dX8_scrap_81 ?_
      refine lv_iload_n hx hb dX8_scrap_84 rfl (lv_at hl 2 rfl) ?_
      obtain ⟨r85, hc85, hf⟩ := bi_s hf
      have hPc := P_head (ws := (wX8 cI cZ cS (fS hs1) (fG hs1) a (sr M 33 (q61.1 0)))) (ws' := (wX7 cI cZ (ofs 2 a) (ofs 2 (sr M 33 (q61.1 0))))) hP [2, 3, 4, 5, 6] rfl
      have hDc := D_head (ws := (wX8 cI cZ cS (fS hs1) (fG hs1) a (sr M 33 (q61.1 0)))) (ws' := (wX7 cI cZ (ofs 2 a) (ofs 2 (sr M 33 (q61.1 0))))) hD [2, 3, 4, 5, 6] (by decide) rfl
      have hFc := va_free (wc := (wX7 cI cZ (ofs 2 a) (ofs 2 (sr M 33 (q61.1 0))))) hD hS hA [2, 3, 4, 5, 6] rfl
      refine va_callv (va_runVN (As := [.int a1]) (rest := []) ⟨hx, hb, hml, hown, hts⟩ (c_X7_remove l dC dI cI cZ (ofs 2 a) H.size (ofs 2 (sr M 33 (q61.1 0))) a1 r85 hc85) ⟨va_cnB 1 hts gX8_scrap_X7_remove_n95 rfl rfl rfl (nw70 hNW) hw4 (by decide +kernel) ⟨Nat.le_of_ble_eq_true rfl, Nat.le_of_ble_eq_true rfl⟩, hw11, hw12⟩ ⟨WR.blind, va_recv hK hP (ci := 7) (q0 := 2) rfl rfl, WR.pre hPc hK2 hDc hNW⟩ rfl rfl hl.1 rfl (lv_room (Nat.le_of_ble_eq_true rfl)) dX8_scrap_85 ⟨Nat.le_of_ble_eq_true rfl, Nat.le_of_ble_eq_true rfl⟩) hS (fun q _ h => hFc q h) hFc (fun u t H1 locs ht hvm hw hB hz1 hk1 hS => ?_)
      obtain ⟨hP1, hD1⟩ := hB
      rw [ht] at hP1
      obtain ⟨hP, hD⟩ := join_app (ws := (wX8 cI cZ cS (fS hs1) (fG hs1) a (sr M 33 (q61.1 0)))) (wr := [(a 0, .inr (8, [.ref (a 1), .ref (a 17), .ref (a 33), .ref (a 36), .ref (a 40), .ref (a 41)])), (a 1, .inr (6, [.ref (a 2), .ref (a 7), .ref (a 10), .ref (a 15), .int (M 1 4)])), (a 7, .inr (2, [.int (M 7 0), .int (M 7 1), .int (M 7 2), .int (M 7 3), .int (M 7 4), .ref (a 8), .ref (a 9)])), (a 8, .inl (cI, 8, .inl (M 8))), (a 9, .inl (cZ, 8, .inl (M 9))), (a 10, .inr (0, [.ref (a 11), .ref (a 12), .ref (a 13), .ref (a 14)])), (a 11, .inl (cI, 10, .inl (M 11))), (a 12, .inl (cI, 10, .inl (M 12))), (a 13, .inl (cI, 10, .inl (M 13))), (a 14, .inl (cI, 10, .inl (M 14))), (a 15, .inr (3, [.int (M 15 0), .ref (a 16)])), (a 16, .inl (cI, 80, .inl (M 16))), (a 17, .inr (6, [.ref (a 18), .ref (a 23), .ref (a 26), .ref (a 31), .int (M 17 4)])), (a 18, .inr (7, [.int (M 18 0), .int (M 18 1), .ref (a 19), .ref (a 20), .ref (a 21), .ref (a 22)])), (a 19, .inl (cI, 12, .inl (M 19))), (a 20, .inl (cI, 12, .inl (M 20))), (a 21, .inl (cI, 12, .inl (M 21))), (a 22, .inl (cI, 120, .inl (M 22))), (a 23, .inr (2, [.int (M 23 0), .int (M 23 1), .int (M 23 2), .int (M 23 3), .int (M 23 4), .ref (a 24), .ref (a 25)])), (a 24, .inl (cI, 8, .inl (M 24))), (a 25, .inl (cZ, 8, .inl (M 25))), (a 26, .inr (0, [.ref (a 27), .ref (a 28), .ref (a 29), .ref (a 30)])), (a 27, .inl (cI, 10, .inl (M 27))), (a 28, .inl (cI, 10, .inl (M 28))), (a 29, .inl (cI, 10, .inl (M 29))), (a 30, .inl (cI, 10, .inl (M 30))), (a 31, .inr (3, [.int (M 31 0), .ref (a 32)])), (a 32, .inl (cI, 80, .inl (M 32))), (a 33, .inr (1, [.int ((q61.1 0) 0), .ref (a 34), .ref (a 35)])), (a 34, .inl (cS, 6, .inr (.inr (.inr (.inr (fS hs1)))))), (a 35, .inl (cS, 2, .inr (.inr (.inr (.inr (fG hs1)))))), (a 36, .inr (5, [.int (M 36 0), .ref (a 37), .ref (a 38)])), (a 37, .inl (cI, 60, .inl (M 37))), (a 38, .inr (4, [.int (M 38 0), .int (M 38 1), .ref (a 39)])), (a 39, .inl (cI, 10, .inl (M 39))), (a 40, .inl (cI, 12, .inl (M 40))), (a 41, .inl (cI, 10, .inl (M 41)))]) (w1 := (wX7 cI cZ (ofs 2 a) (sr (sr (sr (sr (sr (ofs 2 (sr M 33 (q61.1 0))) 0 (r85 0)) 1 (r85 1)) 2 (r85 2)) 3 (r85 3)) 4 (r85 4)))) hP hD [2, 3, 4, 5, 6] [0, 1, 7, 8, 9, 10, 11, 12, 13, 14, 15, 16, 17, 18, 19, 20, 21, 22, 23, 24, 25, 26, 27, 28, 29, 30, 31, 32, 33, 34, 35, 36, 37, 38, 39, 40, 41] rfl rfl (by decide) (by decide) hk1 hFc hP1 hD1
      have hP := P_perm (ws' := (wX8 cI cZ cS (fS hs1) (fG hs1) a (sr (sr (sr (sr (sr (sr M 2 (r85 0)) 3 (r85 1)) 4 (r85 2)) 5 (r85 3)) 6 (r85 4)) 33 (q61.1 0)))) hP [0, 1, 37, 38, 39, 40, 41, 2, 3, 4, 5, 6, 7, 8, 9, 10, 11, 12, 13, 14, 15, 16, 17, 18, 19, 20, 21, 22, 23, 24, 25, 26, 27, 28, 29, 30, 31, 32, 33, 34, 35, 36] rfl
      have hD := D_perm (ws' := (wX8 cI cZ cS (fS hs1) (fG hs1) a (sr (sr (sr (sr (sr (sr M 2 (r85 0)) 3 (r85 1)) 4 (r85 2)) 5 (r85 3)) 6 (r85 4)) 33 (q61.1 0)))) hD [0, 1, 37, 38, 39, 40, 41, 2, 3, 4, 5, 6, 7, 8, 9, 10, 11, 12, 13, 14, 15, 16, 17, 18, 19, 20, 21, 22, 23, 24, 25, 26, 27, 28, 29, 30, 31, 32, 33, 34, 35, 36] (by decide) rfl
      generalize H1 = H at hP hS ⊢
      refine lv_iload_n hx hb dX8_scrap_88 rfl (lv_at hl 0 rfl) ?_
      have e9 := so_e hf
      cases e9
      exact W.iret hx hb hr (fun t ht hW => ⟨⟨_, hs1, rfl, ⟨rfl, hh1⟩, WE.mk hP hD ht⟩, hS.F ht⟩) hS.2.2 dX8_scrap_89
    · have hf := it_n hf c9
      have e9 := so_e hf
      cases e9
  · have hf := it_n hf c9
    have e9 := so_e hf
    cases e9
set_option maxHeartbeats 4000000 in
set_option maxRecDepth 100000 in
theorem n_X8_fetch (l : Launch) (dC : Nat → ClassId) (dI : Nat → Nat → Nat) (cI cZ cS : ClassId) (hs : HS) (a : Nat → Nat) (sz : Nat) (M : Mem) (a1 : Int32) (z1 : Int32) (z2 : Mem) (z3 : Nat → Option Mem) (hf : fX8_fetch (cts hs) M a1 = some (Sum.inr z1, z2, z3)) : Met l yX8_fetch wsX8_fetch ({ frames := 4, cells := 16, slots := 316, locals := 124 } : Room) (va_Pc [.ref (a 0), .int a1] (WR8 (dC, dI) cI cZ cS (wX8 cI cZ cS (fS hs) (fG hs) a M ++ RW cI cZ hs) sz)) (va_Qi (S := HS) (fun r hs' => r = z1 ∧ cts hs' = z3) (fun hs' t => WE (dC, dI) cI cZ (wX8 cI cZ cS (fS hs') (fG hs') a z2 ++ RW cI cZ hs') (va_A (wX8 cI cZ cS (fS hs) (fG hs) a M ++ RW cI cZ hs) sz) t) (va_A (wX8 cI cZ cS (fS hs) (fG hs) a M ++ RW cI cZ hs) sz)) 16 316 (va_A (wX8 cI cZ cS (fS hs) (fG hs) a M ++ RW cI cZ hs) sz) := by
  refine Met.ofW (cc := cX8_fetch) (maxL := 2) (ret := (some .int)) (by decide) rfl ?_
  intro p e s m args below meth c s₁ B hml hv
  obtain ⟨rfl, hsz, hP, hK, hD0, hNW⟩ := hv
  have hx := B.exec
  have hb := B.bytes
  have hr := B.returns
  have hts := atoms_spec (ws := wsX8_fetch) B.pre
  have hown : s.vm.findClass RX8 = some m.cls := findClass_of_methodNamed B.named
  have hlocks := B.notSynchronized
  have hK2 : va_K (dC, dI) vwCl [(cI, .int), (cZ, .boolean)] s := hK.sub (tys' := [(cI, .int), (cZ, .boolean)]) [0, 1] rfl
  have hinX8 : ∀ w ∈ u_ws RX8 TX8 6, w ∈ wsX8_fetch := by decide +kernel
  have hw1 := hts (.fieldLink RX8 22 "GlideShelves" "history" "LGlideShelves$History;") (by decide +kernel)
  have hw2 := hts (.fieldLink RX8 12 "GlideShelves" "now" "LGlideShelves$State;") (by decide +kernel)
  have hw3 := hts (.initialized RX1) (by decide +kernel)
  have hw4 := hts (.instanceMethod yX1_save) (by decide +kernel)
  have hw5 := hts (.selects RX1 yX1_save yX1_save) (by decide +kernel)
  have hw6 := hts (.initialized RX6) (by decide +kernel)
  have hw7 := hts (.instanceMethod yX6_bring) (by decide +kernel)
  have hw8 := hts (.selects RX6 yX6_bring yX6_bring) (by decide +kernel)
  subst hsz
  have hD := hD0.self (sz := s.heap.size)
  generalize hAe : va_A (wX8 cI cZ cS (fS hs) (fG hs) a M ++ RW cI cZ hs) s.heap.size = A at hD ⊢
  have hA : ∀ q : Nat, s.heap.size ≤ q → A q := fun q h => by rw [← hAe]; exact Or.inr h
  have hS : va_S A s.heap s.heap [] := va_S.rf
  have hl := lv_entry ([.ref (a 0), .int a1]) (n := 2) (Nat.le_of_ble_eq_true rfl)
  rw [lg_entry_eq]
  generalize (lg_sl ([.ref (a 0), .int a1]) ++ List.replicate (2 - (lg_sl ([.ref (a 0), .int a1])).length) Slot.unset).toArray = ls at hl ⊢
  have hl : lv_has ls 2 [(0, .ref (a 0)), (1, .int a1)] := hl
  unfold fX8_fetch at hf
  suffices hgo : ∀ (H : Heap) (locs : List Loc), va_P (dC, dI) vwCl (wX8 cI cZ cS (fS hs) (fG hs) a M ++ RW cI cZ hs) H → va_D A (wX8 cI cZ cS (fS hs) (fG hs) a M ++ RW cI cZ hs) → va_S A s.heap H locs → W p l e (headSpec wsX8_fetch ({ frames := 4, cells := 16, slots := 316, locals := 124 } : Room)).room s m ([.ref (a 0), .int a1] : List Value).toArray below meth c H locs 0 0 (MQ below (va_Qi (S := HS) (fun r hs' => r = z1 ∧ cts hs' = z3) (fun hs' t => WE (dC, dI) cI cZ (wX8 cI cZ cS (fS hs') (fG hs') a z2 ++ RW cI cZ hs') A t) A) ([.ref (a 0), .int a1] : List Value).toArray s 16 316 A) (F0 m 0 ls []) from hgo _ _ hP hD hS
  intro H locs hP hD hS
  refine lv_aload_n hx hb dX8_fetch_0 rfl (lv_at hl 0 rfl) ?_
  refine lv_iload_n hx hb dX8_fetch_1 rfl (lv_at hl 1 rfl) ?_
  obtain ⟨r2, hc2, hf⟩ := bi_s hf
  rcases r2 with E9 | r2
  · have e9 := so_e hf
    cases e9
  have hf := sel_r hf
  refine cROv (W.runV (As := [.int a1]) (rest := []) ⟨hx, hb, hml, hown, hts⟩ (n_X8_requireShelf l dC dI cI cZ cS (fS hs) (fG hs) a M a1  hc2) (cwV 1 hts gX8_fetch_X8_requireShelf rfl rfl rfl (by decide +kernel) ⟨Nat.le_of_ble_eq_true rfl, Nat.le_of_ble_eq_true rfl⟩) ⟨RO8.blind, va_recv hK hP (ci := 8) (q0 := 0) rfl rfl, RO8.pre (P_app hP).1 hK hNW⟩ rfl rfl hl.1 rfl (lv_room (Nat.le_of_ble_eq_true rfl)) dX8_fetch_2 ⟨Nat.le_of_ble_eq_true rfl, Nat.le_of_ble_eq_true rfl⟩) ?_
  refine lv_aload_n hx hb dX8_fetch_5 rfl (lv_at hl 0 rfl) ?_
  obtain ⟨r6, hc6, hf⟩ := bi_s hf
  rcases r6 with E9 | r6
  · have e9 := so_e hf
    cases e9
  have hf := sel_r hf
  refine cROv (W.runV (As := []) (rest := []) ⟨hx, hb, hml, hown, hts⟩ (n_X8_requireEmptyWindow l dC dI cI cZ cS (fS hs) (fG hs) a M  hc6) (cwV 0 hts gX8_fetch_X8_requireEmptyWindow rfl rfl rfl (by decide +kernel) ⟨Nat.le_of_ble_eq_true rfl, Nat.le_of_ble_eq_true rfl⟩) ⟨RO8.blind, va_recv hK hP (ci := 8) (q0 := 0) rfl rfl, RO8.pre (P_app hP).1 hK hNW⟩ rfl rfl hl.1 rfl (lv_room (Nat.le_of_ble_eq_true rfl)) dX8_fetch_6 ⟨Nat.le_of_ble_eq_true rfl, Nat.le_of_ble_eq_true rfl⟩) ?_
  refine lv_aload_n hx hb dX8_fetch_9 rfl (lv_at hl 0 rfl) ?_
  refine va_get (D := (dC, dI)) (ci := 8) (v := .ref (a 33)) (C := RX8) (T := TX8) (N := 6) hx hb hts hinX8 hown hK hP 0 rfl rfl 2 (by decide) hw1 (fun _ h9 => h9) rfl dX8_fetch_10 ?_
  refine lv_aload_n hx hb dX8_fetch_13 rfl (lv_at hl 0 rfl) ?_
  refine va_get (D := (dC, dI)) (ci := 8) (v := .ref (a 1)) (C := RX8) (T := TX8) (N := 6) hx hb hts hinX8 hown hK hP 0 rfl rfl 0 (by decide) hw2 (fun _ h9 => h9) rfl dX8_fetch_14 ?_
  have hf := inrs_s hf
  obtain ⟨q17, hc17, hf⟩ := bi_s hf
  have hPc := hP.part (X := (wX8 cI cZ cS (fS hs) (fG hs) a M)) (cx := (wX1s cI cZ cS (fS hs) (fG hs) (pk [33, 34, 35, 1, 2, 3, 4, 5, 6, 7, 8, 9, 10, 11, 12, 13, 14, 15, 16] a) (pk [33, 34, 35, 1, 2, 3, 4, 5, 6, 7, 8, 9, 10, 11, 12, 13, 14, 15, 16] M))) [33, 34, 35, 1, 2, 3, 4, 5, 6, 7, 8, 9, 10, 11, 12, 13, 14, 15, 16] rfl
  have hDc := hD.part (X := (wX8 cI cZ cS (fS hs) (fG hs) a M)) (cx := (wX1s cI cZ cS (fS hs) (fG hs) (pk [33, 34, 35, 1, 2, 3, 4, 5, 6, 7, 8, 9, 10, 11, 12, 13, 14, 15, 16] a) (pk [33, 34, 35, 1, 2, 3, 4, 5, 6, 7, 8, 9, 10, 11, 12, 13, 14, 15, 16] M))) [33, 34, 35, 1, 2, 3, 4, 5, 6, 7, 8, 9, 10, 11, 12, 13, 14, 15, 16] (by decide) rfl
  have hFc := va_freeP (X := (wX8 cI cZ cS (fS hs) (fG hs) a M)) (cx := (wX1s cI cZ cS (fS hs) (fG hs) (pk [33, 34, 35, 1, 2, 3, 4, 5, 6, 7, 8, 9, 10, 11, 12, 13, 14, 15, 16] a) (pk [33, 34, 35, 1, 2, 3, 4, 5, 6, 7, 8, 9, 10, 11, 12, 13, 14, 15, 16] M))) hD hS hA [33, 34, 35, 1, 2, 3, 4, 5, 6, 7, 8, 9, 10, 11, 12, 13, 14, 15, 16] rfl
  refine va_callv (va_runVN (As := [.ref (a 1)]) (rest := []) ⟨hx, hb, hml, hown, hts⟩ (c_X1_save l dC dI cI cZ cS hs (pk [33, 34, 35, 1, 2, 3, 4, 5, 6, 7, 8, 9, 10, 11, 12, 13, 14, 15, 16] a) H.size (pk [33, 34, 35, 1, 2, 3, 4, 5, 6, 7, 8, 9, 10, 11, 12, 13, 14, 15, 16] M) q17 hc17) ⟨va_cnB 1 hts gX8_fetch_X1_save_n70 rfl rfl rfl (nw67 hNW) hw3 (by decide +kernel) ⟨Nat.le_of_ble_eq_true rfl, Nat.le_of_ble_eq_true rfl⟩, hw4, hw5⟩ ⟨WR8.blind, va_recv hK hP (ci := 1) (q0 := 33) rfl rfl, WR8.pre hPc hK hDc hNW⟩ rfl rfl hl.1 rfl (lv_room (Nat.le_of_ble_eq_true rfl)) dX8_fetch_17 ⟨Nat.le_of_ble_eq_true rfl, Nat.le_of_ble_eq_true rfl⟩) hS (fun q _ h => hFc q h) hFc (fun hs1 t H1 locs ht hvm hw hB hz1 hk1 hS => ?_)
  obtain ⟨hh1, hh6, hh7⟩ := hw
  obtain ⟨hP1, hD1⟩ := hB
  rw [ht] at hP1
  rw [fX1_save_rows hc17] at hP1 hD1
  obtain ⟨hP, hD⟩ := va_joinP (X := (wX8 cI cZ cS (fS hs) (fG hs) a M)) (cx := (wX1s cI cZ cS (fS hs) (fG hs) (pk [33, 34, 35, 1, 2, 3, 4, 5, 6, 7, 8, 9, 10, 11, 12, 13, 14, 15, 16] a) (pk [33, 34, 35, 1, 2, 3, 4, 5, 6, 7, 8, 9, 10, 11, 12, 13, 14, 15, 16] M))) (wr := [(a 0, .inr (8, [.ref (a 1), .ref (a 17), .ref (a 33), .ref (a 36), .ref (a 40), .ref (a 41)])), (a 17, .inr (6, [.ref (a 18), .ref (a 23), .ref (a 26), .ref (a 31), .int (M 17 4)])), (a 18, .inr (7, [.int (M 18 0), .int (M 18 1), .ref (a 19), .ref (a 20), .ref (a 21), .ref (a 22)])), (a 19, .inl (cI, 12, .inl (M 19))), (a 20, .inl (cI, 12, .inl (M 20))), (a 21, .inl (cI, 12, .inl (M 21))), (a 22, .inl (cI, 120, .inl (M 22))), (a 23, .inr (2, [.int (M 23 0), .int (M 23 1), .int (M 23 2), .int (M 23 3), .int (M 23 4), .ref (a 24), .ref (a 25)])), (a 24, .inl (cI, 8, .inl (M 24))), (a 25, .inl (cZ, 8, .inl (M 25))), (a 26, .inr (0, [.ref (a 27), .ref (a 28), .ref (a 29), .ref (a 30)])), (a 27, .inl (cI, 10, .inl (M 27))), (a 28, .inl (cI, 10, .inl (M 28))), (a 29, .inl (cI, 10, .inl (M 29))), (a 30, .inl (cI, 10, .inl (M 30))), (a 31, .inr (3, [.int (M 31 0), .ref (a 32)])), (a 32, .inl (cI, 80, .inl (M 32))), (a 36, .inr (5, [.int (M 36 0), .ref (a 37), .ref (a 38)])), (a 37, .inl (cI, 60, .inl (M 37))), (a 38, .inr (4, [.int (M 38 0), .int (M 38 1), .ref (a 39)])), (a 39, .inl (cI, 10, .inl (M 39))), (a 40, .inl (cI, 12, .inl (M 40))), (a 41, .inl (cI, 10, .inl (M 41)))]) (rx := (wX1s cI cZ cS (fS hs1) (fG hs1) (pk [33, 34, 35, 1, 2, 3, 4, 5, 6, 7, 8, 9, 10, 11, 12, 13, 14, 15, 16] a) (sr (pk [33, 34, 35, 1, 2, 3, 4, 5, 6, 7, 8, 9, 10, 11, 12, 13, 14, 15, 16] M) 0 (q17.1 0)))) hP hD [33, 34, 35, 1, 2, 3, 4, 5, 6, 7, 8, 9, 10, 11, 12, 13, 14, 15, 16] [0, 17, 18, 19, 20, 21, 22, 23, 24, 25, 26, 27, 28, 29, 30, 31, 32, 36, 37, 38, 39, 40, 41] rfl rfl (by decide) (by decide) hk1 hFc hP1 hD1
  have hP := P_perm (ws' := (wX8 cI cZ cS (fS hs1) (fG hs1) a (sr M 33 (q17.1 0)))) hP [0, 26, 27, 28, 29, 30, 31, 32, 33, 34, 35, 36, 37, 38, 39, 40, 41, 1, 2, 3, 4, 5, 6, 7, 8, 9, 10, 11, 12, 13, 14, 15, 16, 23, 24, 25, 17, 18, 19, 20, 21, 22] rfl
  have hD := D_perm (ws' := (wX8 cI cZ cS (fS hs1) (fG hs1) a (sr M 33 (q17.1 0)))) hD [0, 26, 27, 28, 29, 30, 31, 32, 33, 34, 35, 36, 37, 38, 39, 40, 41, 1, 2, 3, 4, 5, 6, 7, 8, 9, 10, 11, 12, 13, 14, 15, 16, 23, 24, 25, 17, 18, 19, 20, 21, 22] (by decide) rfl
  generalize H1 = H at hP hS ⊢
  refine lv_aload_n hx hb dX8_fetch_20 rfl (lv_at hl 0 rfl) ?_
  refine va_get (D := (dC, dI)) (ci := 8) (v := .ref (a 1)) (C := RX8) (T := TX8) (N := 6) hx hb hts hinX8 hown hK hP 0 rfl rfl 0 (by decide) hw2 (fun _ h9 => h9) rfl dX8_fetch_21 ?_
  refine lv_iload_n hx hb dX8_fetch_24 rfl (lv_at hl 1 rfl) ?_
  obtain ⟨r25, hc25, hf⟩ := bi_s hf
  have hPc := P_head (ws := (wX8 cI cZ cS (fS hs1) (fG hs1) a (sr M 33 (q17.1 0)))) (ws' := (wX6 cI cZ (ofs 1 a) (ofs 1 (sr M 33 (q17.1 0))))) hP [1, 2, 3, 4, 5, 6, 7, 8, 9, 10, 11, 12, 13, 14, 15, 16] rfl
  have hDc := D_head (ws := (wX8 cI cZ cS (fS hs1) (fG hs1) a (sr M 33 (q17.1 0)))) (ws' := (wX6 cI cZ (ofs 1 a) (ofs 1 (sr M 33 (q17.1 0))))) hD [1, 2, 3, 4, 5, 6, 7, 8, 9, 10, 11, 12, 13, 14, 15, 16] (by decide) rfl
  have hFc := va_free (wc := (wX6 cI cZ (ofs 1 a) (ofs 1 (sr M 33 (q17.1 0))))) hD hS hA [1, 2, 3, 4, 5, 6, 7, 8, 9, 10, 11, 12, 13, 14, 15, 16] rfl
  refine va_calli (va_runVN (As := [.int a1]) (rest := []) ⟨hx, hb, hml, hown, hts⟩ (c_X6_bring l dC dI cI cZ (ofs 1 a) H.size (ofs 1 (sr M 33 (q17.1 0))) a1 r25 hc25) ⟨va_cnB 1 hts gX8_fetch_X6_bring_n98 rfl rfl rfl (nw71 hNW) hw6 (by decide +kernel) ⟨Nat.le_of_ble_eq_true rfl, Nat.le_of_ble_eq_true rfl⟩, hw7, hw8⟩ ⟨WR.blind, va_recv hK hP (ci := 6) (q0 := 1) rfl rfl, WR.pre hPc hK2 hDc hNW⟩ rfl rfl hl.1 rfl (lv_room (Nat.le_of_ble_eq_true rfl)) dX8_fetch_25 ⟨Nat.le_of_ble_eq_true rfl, Nat.le_of_ble_eq_true rfl⟩) hS (fun q _ h => hFc q h) hFc (fun rv u t H1 locs ht hvm hw hB hz1 hk1 hS => ?_)
  obtain ⟨hP1, hD1⟩ := hB
  rw [ht] at hP1
  subst hw
  obtain ⟨hP, hD⟩ := join_app (ws := (wX8 cI cZ cS (fS hs1) (fG hs1) a (sr M 33 (q17.1 0)))) (wr := [(a 0, .inr (8, [.ref (a 1), .ref (a 17), .ref (a 33), .ref (a 36), .ref (a 40), .ref (a 41)])), (a 17, .inr (6, [.ref (a 18), .ref (a 23), .ref (a 26), .ref (a 31), .int (M 17 4)])), (a 18, .inr (7, [.int (M 18 0), .int (M 18 1), .ref (a 19), .ref (a 20), .ref (a 21), .ref (a 22)])), (a 19, .inl (cI, 12, .inl (M 19))), (a 20, .inl (cI, 12, .inl (M 20))), (a 21, .inl (cI, 12, .inl (M 21))), (a 22, .inl (cI, 120, .inl (M 22))), (a 23, .inr (2, [.int (M 23 0), .int (M 23 1), .int (M 23 2), .int (M 23 3), .int (M 23 4), .ref (a 24), .ref (a 25)])), (a 24, .inl (cI, 8, .inl (M 24))), (a 25, .inl (cZ, 8, .inl (M 25))), (a 26, .inr (0, [.ref (a 27), .ref (a 28), .ref (a 29), .ref (a 30)])), (a 27, .inl (cI, 10, .inl (M 27))), (a 28, .inl (cI, 10, .inl (M 28))), (a 29, .inl (cI, 10, .inl (M 29))), (a 30, .inl (cI, 10, .inl (M 30))), (a 31, .inr (3, [.int (M 31 0), .ref (a 32)])), (a 32, .inl (cI, 80, .inl (M 32))), (a 33, .inr (1, [.int ((q17.1 0) 0), .ref (a 34), .ref (a 35)])), (a 34, .inl (cS, 6, .inr (.inr (.inr (.inr (fS hs1)))))), (a 35, .inl (cS, 2, .inr (.inr (.inr (.inr (fG hs1)))))), (a 36, .inr (5, [.int (M 36 0), .ref (a 37), .ref (a 38)])), (a 37, .inl (cI, 60, .inl (M 37))), (a 38, .inr (4, [.int (M 38 0), .int (M 38 1), .ref (a 39)])), (a 39, .inl (cI, 10, .inl (M 39))), (a 40, .inl (cI, 12, .inl (M 40))), (a 41, .inl (cI, 10, .inl (M 41)))]) (w1 := (wX6 cI cZ (ofs 1 a) (sr (sr (sr (sr (sr (ofs 1 (sr M 33 (q17.1 0))) 1 (r25.2 1)) 4 (r25.2 4)) 6 (r25.2 6)) 7 (r25.2 7)) 8 (r25.2 8)))) hP hD [1, 2, 3, 4, 5, 6, 7, 8, 9, 10, 11, 12, 13, 14, 15, 16] [0, 17, 18, 19, 20, 21, 22, 23, 24, 25, 26, 27, 28, 29, 30, 31, 32, 33, 34, 35, 36, 37, 38, 39, 40, 41] rfl rfl (by decide) (by decide) hk1 hFc hP1 hD1
  have hP := P_perm (ws' := (wX8 cI cZ cS (fS hs1) (fG hs1) a (sr (sr (sr (sr (sr (sr M 2 (r25.2 1)) 5 (r25.2 4)) 7 (r25.2 6)) 8 (r25.2 7)) 9 (r25.2 8)) 33 (q17.1 0)))) hP [0, 26, 27, 28, 29, 30, 31, 32, 33, 34, 35, 36, 37, 38, 39, 40, 41, 1, 2, 3, 4, 5, 6, 7, 8, 9, 10, 11, 12, 13, 14, 15, 16, 17, 18, 19, 20, 21, 22, 23, 24, 25] rfl
  have hD := D_perm (ws' := (wX8 cI cZ cS (fS hs1) (fG hs1) a (sr (sr (sr (sr (sr (sr M 2 (r25.2 1)) 5 (r25.2 4)) 7 (r25.2 6)) 8 (r25.2 7)) 9 (r25.2 8)) 33 (q17.1 0)))) hD [0, 26, 27, 28, 29, 30, 31, 32, 33, 34, 35, 36, 37, 38, 39, 40, 41, 1, 2, 3, 4, 5, 6, 7, 8, 9, 10, 11, 12, 13, 14, 15, 16, 17, 18, 19, 20, 21, 22, 23, 24, 25] (by decide) rfl
  generalize H1 = H at hP hS ⊢
  have e9 := so_e hf
  cases e9
  exact W.iret hx hb hr (fun t ht hW => ⟨⟨_, hs1, rfl, ⟨rfl, hh1⟩, WE.mk hP hD ht⟩, hS.F ht⟩) hS.2.2 dX8_fetch_28
set_option maxHeartbeats 4000000 in
set_option maxRecDepth 100000 in
theorem n_X8_stow (l : Launch) (dC : Nat → ClassId) (dI : Nat → Nat → Nat) (cI cZ cS : ClassId) (hs : HS) (a : Nat → Nat) (sz : Nat) (M : Mem) (z1 : Int32) (z2 : Mem) (z3 : Nat → Option Mem) (hf : fX8_stow (cts hs) M  = some (Sum.inr z1, z2, z3)) : Met l yX8_stow wsX8_stow ({ frames := 4, cells := 16, slots := 316, locals := 124 } : Room) (va_Pc [.ref (a 0)] (WR8 (dC, dI) cI cZ cS (wX8 cI cZ cS (fS hs) (fG hs) a M ++ RW cI cZ hs) sz)) (va_Qi (S := HS) (fun r hs' => r = z1 ∧ cts hs' = z3) (fun hs' t => WE (dC, dI) cI cZ (wX8 cI cZ cS (fS hs') (fG hs') a z2 ++ RW cI cZ hs') (va_A (wX8 cI cZ cS (fS hs) (fG hs) a M ++ RW cI cZ hs) sz) t) (va_A (wX8 cI cZ cS (fS hs) (fG hs) a M ++ RW cI cZ hs) sz)) 16 316 (va_A (wX8 cI cZ cS (fS hs) (fG hs) a M ++ RW cI cZ hs) sz) := by
  refine Met.ofW (cc := cX8_stow) (maxL := 1) (ret := (some .int)) (by decide) rfl ?_
  intro p e s m args below meth c s₁ B hml hv
  obtain ⟨rfl, hsz, hP, hK, hD0, hNW⟩ := hv
  have hx := B.exec
  have hb := B.bytes
  have hr := B.returns
  have hts := atoms_spec (ws := wsX8_stow) B.pre
  have hown : s.vm.findClass RX8 = some m.cls := findClass_of_methodNamed B.named
  have hlocks := B.notSynchronized
  have hK2 : va_K (dC, dI) vwCl [(cI, .int), (cZ, .boolean)] s := hK.sub (tys' := [(cI, .int), (cZ, .boolean)]) [0, 1] rfl
  have hinX8 : ∀ w ∈ u_ws RX8 TX8 6, w ∈ wsX8_stow := by decide +kernel
  have hw1 := hts (.fieldLink RX8 22 "GlideShelves" "history" "LGlideShelves$History;") (by decide +kernel)
  have hw2 := hts (.fieldLink RX8 12 "GlideShelves" "now" "LGlideShelves$State;") (by decide +kernel)
  have hw3 := hts (.initialized RX1) (by decide +kernel)
  have hw4 := hts (.instanceMethod yX1_save) (by decide +kernel)
  have hw5 := hts (.selects RX1 yX1_save yX1_save) (by decide +kernel)
  have hw6 := hts (.initialized RX6) (by decide +kernel)
  have hw7 := hts (.instanceMethod yX6_putBack) (by decide +kernel)
  have hw8 := hts (.selects RX6 yX6_putBack yX6_putBack) (by decide +kernel)
  subst hsz
  have hD := hD0.self (sz := s.heap.size)
  generalize hAe : va_A (wX8 cI cZ cS (fS hs) (fG hs) a M ++ RW cI cZ hs) s.heap.size = A at hD ⊢
  have hA : ∀ q : Nat, s.heap.size ≤ q → A q := fun q h => by rw [← hAe]; exact Or.inr h
  have hS : va_S A s.heap s.heap [] := va_S.rf
  have hl := lv_entry ([.ref (a 0)]) (n := 1) (Nat.le_of_ble_eq_true rfl)
  rw [lg_entry_eq]
  generalize (lg_sl ([.ref (a 0)]) ++ List.replicate (1 - (lg_sl ([.ref (a 0)])).length) Slot.unset).toArray = ls at hl ⊢
  have hl : lv_has ls 1 [(0, .ref (a 0))] := hl
  unfold fX8_stow at hf
  suffices hgo : ∀ (H : Heap) (locs : List Loc), va_P (dC, dI) vwCl (wX8 cI cZ cS (fS hs) (fG hs) a M ++ RW cI cZ hs) H → va_D A (wX8 cI cZ cS (fS hs) (fG hs) a M ++ RW cI cZ hs) → va_S A s.heap H locs → W p l e (headSpec wsX8_stow ({ frames := 4, cells := 16, slots := 316, locals := 124 } : Room)).room s m ([.ref (a 0)] : List Value).toArray below meth c H locs 0 0 (MQ below (va_Qi (S := HS) (fun r hs' => r = z1 ∧ cts hs' = z3) (fun hs' t => WE (dC, dI) cI cZ (wX8 cI cZ cS (fS hs') (fG hs') a z2 ++ RW cI cZ hs') A t) A) ([.ref (a 0)] : List Value).toArray s 16 316 A) (F0 m 0 ls []) from hgo _ _ hP hD hS
  intro H locs hP hD hS
  refine lv_aload_n hx hb dX8_stow_0 rfl (lv_at hl 0 rfl) ?_
  obtain ⟨r1, hc1, hf⟩ := bi_s hf
  rcases r1 with E9 | r1
  · have e9 := so_e hf
    cases e9
  have hf := sel_r hf
  refine cROv (W.runV (As := []) (rest := []) ⟨hx, hb, hml, hown, hts⟩ (n_X8_requireShelfAtWindow l dC dI cI cZ cS (fS hs) (fG hs) a M  hc1) (cwV 0 hts gX8_stow_X8_requireShelfAtWindow rfl rfl rfl (by decide +kernel) ⟨Nat.le_of_ble_eq_true rfl, Nat.le_of_ble_eq_true rfl⟩) ⟨RO8.blind, va_recv hK hP (ci := 8) (q0 := 0) rfl rfl, RO8.pre (P_app hP).1 hK hNW⟩ rfl rfl hl.1 rfl (lv_room (Nat.le_of_ble_eq_true rfl)) dX8_stow_1 ⟨Nat.le_of_ble_eq_true rfl, Nat.le_of_ble_eq_true rfl⟩) ?_
  refine lv_aload_n hx hb dX8_stow_4 rfl (lv_at hl 0 rfl) ?_
  refine va_get (D := (dC, dI)) (ci := 8) (v := .ref (a 33)) (C := RX8) (T := TX8) (N := 6) hx hb hts hinX8 hown hK hP 0 rfl rfl 2 (by decide) hw1 (fun _ h9 => h9) rfl dX8_stow_5 ?_
  refine lv_aload_n hx hb dX8_stow_8 rfl (lv_at hl 0 rfl) ?_
  refine va_get (D := (dC, dI)) (ci := 8) (v := .ref (a 1)) (C := RX8) (T := TX8) (N := 6) hx hb hts hinX8 hown hK hP 0 rfl rfl 0 (by decide) hw2 (fun _ h9 => h9) rfl dX8_stow_9 ?_
  have hf := inrs_s hf
  obtain ⟨q12, hc12, hf⟩ := bi_s hf
  have hPc := hP.part (X := (wX8 cI cZ cS (fS hs) (fG hs) a M)) (cx := (wX1s cI cZ cS (fS hs) (fG hs) (pk [33, 34, 35, 1, 2, 3, 4, 5, 6, 7, 8, 9, 10, 11, 12, 13, 14, 15, 16] a) (pk [33, 34, 35, 1, 2, 3, 4, 5, 6, 7, 8, 9, 10, 11, 12, 13, 14, 15, 16] M))) [33, 34, 35, 1, 2, 3, 4, 5, 6, 7, 8, 9, 10, 11, 12, 13, 14, 15, 16] rfl
  have hDc := hD.part (X := (wX8 cI cZ cS (fS hs) (fG hs) a M)) (cx := (wX1s cI cZ cS (fS hs) (fG hs) (pk [33, 34, 35, 1, 2, 3, 4, 5, 6, 7, 8, 9, 10, 11, 12, 13, 14, 15, 16] a) (pk [33, 34, 35, 1, 2, 3, 4, 5, 6, 7, 8, 9, 10, 11, 12, 13, 14, 15, 16] M))) [33, 34, 35, 1, 2, 3, 4, 5, 6, 7, 8, 9, 10, 11, 12, 13, 14, 15, 16] (by decide) rfl
  have hFc := va_freeP (X := (wX8 cI cZ cS (fS hs) (fG hs) a M)) (cx := (wX1s cI cZ cS (fS hs) (fG hs) (pk [33, 34, 35, 1, 2, 3, 4, 5, 6, 7, 8, 9, 10, 11, 12, 13, 14, 15, 16] a) (pk [33, 34, 35, 1, 2, 3, 4, 5, 6, 7, 8, 9, 10, 11, 12, 13, 14, 15, 16] M))) hD hS hA [33, 34, 35, 1, 2, 3, 4, 5, 6, 7, 8, 9, 10, 11, 12, 13, 14, 15, 16] rfl
  refine va_callv (va_runVN (As := [.ref (a 1)]) (rest := []) ⟨hx, hb, hml, hown, hts⟩ (c_X1_save l dC dI cI cZ cS hs (pk [33, 34, 35, 1, 2, 3, 4, 5, 6, 7, 8, 9, 10, 11, 12, 13, 14, 15, 16] a) H.size (pk [33, 34, 35, 1, 2, 3, 4, 5, 6, 7, 8, 9, 10, 11, 12, 13, 14, 15, 16] M) q12 hc12) ⟨va_cnB 1 hts gX8_stow_X1_save_n70 rfl rfl rfl (nw67 hNW) hw3 (by decide +kernel) ⟨Nat.le_of_ble_eq_true rfl, Nat.le_of_ble_eq_true rfl⟩, hw4, hw5⟩ ⟨WR8.blind, va_recv hK hP (ci := 1) (q0 := 33) rfl rfl, WR8.pre hPc hK hDc hNW⟩ rfl rfl hl.1 rfl (lv_room (Nat.le_of_ble_eq_true rfl)) dX8_stow_12 ⟨Nat.le_of_ble_eq_true rfl, Nat.le_of_ble_eq_true rfl⟩) hS (fun q _ h => hFc q h) hFc (fun hs1 t H1 locs ht hvm hw hB hz1 hk1 hS => ?_)
  obtain ⟨hh1, hh6, hh7⟩ := hw
  obtain ⟨hP1, hD1⟩ := hB
  rw [ht] at hP1
  rw [fX1_save_rows hc12] at hP1 hD1
  obtain ⟨hP, hD⟩ := va_joinP (X := (wX8 cI cZ cS (fS hs) (fG hs) a M)) (cx := (wX1s cI cZ cS (fS hs) (fG hs) (pk [33, 34, 35, 1, 2, 3, 4, 5, 6, 7, 8, 9, 10, 11, 12, 13, 14, 15, 16] a) (pk [33, 34, 35, 1, 2, 3, 4, 5, 6, 7, 8, 9, 10, 11, 12, 13, 14, 15, 16] M))) (wr := [(a 0, .inr (8, [.ref (a 1), .ref (a 17), .ref (a 33), .ref (a 36), .ref (a 40), .ref (a 41)])), (a 17, .inr (6, [.ref (a 18), .ref (a 23), .ref (a 26), .ref (a 31), .int (M 17 4)])), (a 18, .inr (7, [.int (M 18 0), .int (M 18 1), .ref (a 19), .ref (a 20), .ref (a 21), .ref (a 22)])), (a 19, .inl (cI, 12, .inl (M 19))), (a 20, .inl (cI, 12, .inl (M 20))), (a 21, .inl (cI, 12, .inl (M 21))), (a 22, .inl (cI, 120, .inl (M 22))), (a 23, .inr (2, [.int (M 23 0), .int (M 23 1), .int (M 23 2), .int (M 23 3), .int (M 23 4), .ref (a 24), .ref (a 25)])), (a 24, .inl (cI, 8, .inl (M 24))), (a 25, .inl (cZ, 8, .inl (M 25))), (a 26, .inr (0, [.ref (a 27), .ref (a 28), .ref (a 29), .ref (a 30)])), (a 27, .inl (cI, 10, .inl (M 27))), (a 28, .inl (cI, 10, .inl (M 28))), (a 29, .inl (cI, 10, .inl (M 29))), (a 30, .inl (cI, 10, .inl (M 30))), (a 31, .inr (3, [.int (M 31 0), .ref (a 32)])), (a 32, .inl (cI, 80, .inl (M 32))), (a 36, .inr (5, [.int (M 36 0), .ref (a 37), .ref (a 38)])), (a 37, .inl (cI, 60, .inl (M 37))), (a 38, .inr (4, [.int (M 38 0), .int (M 38 1), .ref (a 39)])), (a 39, .inl (cI, 10, .inl (M 39))), (a 40, .inl (cI, 12, .inl (M 40))), (a 41, .inl (cI, 10, .inl (M 41)))]) (rx := (wX1s cI cZ cS (fS hs1) (fG hs1) (pk [33, 34, 35, 1, 2, 3, 4, 5, 6, 7, 8, 9, 10, 11, 12, 13, 14, 15, 16] a) (sr (pk [33, 34, 35, 1, 2, 3, 4, 5, 6, 7, 8, 9, 10, 11, 12, 13, 14, 15, 16] M) 0 (q12.1 0)))) hP hD [33, 34, 35, 1, 2, 3, 4, 5, 6, 7, 8, 9, 10, 11, 12, 13, 14, 15, 16] [0, 17, 18, 19, 20, 21, 22, 23, 24, 25, 26, 27, 28, 29, 30, 31, 32, 36, 37, 38, 39, 40, 41] rfl rfl (by decide) (by decide) hk1 hFc hP1 hD1
  have hP := P_perm (ws' := (wX8 cI cZ cS (fS hs1) (fG hs1) a (sr M 33 (q12.1 0)))) hP [0, 26, 27, 28, 29, 30, 31, 32, 33, 34, 35, 36, 37, 38, 39, 40, 41, 1, 2, 3, 4, 5, 6, 7, 8, 9, 10, 11, 12, 13, 14, 15, 16, 23, 24, 25, 17, 18, 19, 20, 21, 22] rfl
  have hD := D_perm (ws' := (wX8 cI cZ cS (fS hs1) (fG hs1) a (sr M 33 (q12.1 0)))) hD [0, 26, 27, 28, 29, 30, 31, 32, 33, 34, 35, 36, 37, 38, 39, 40, 41, 1, 2, 3, 4, 5, 6, 7, 8, 9, 10, 11, 12, 13, 14, 15, 16, 23, 24, 25, 17, 18, 19, 20, 21, 22] (by decide) rfl
  generalize H1 = H at hP hS ⊢
  refine lv_aload_n hx hb dX8_stow_15 rfl (lv_at hl 0 rfl) ?_
  refine va_get (D := (dC, dI)) (ci := 8) (v := .ref (a 1)) (C := RX8) (T := TX8) (N := 6) hx hb hts hinX8 hown hK hP 0 rfl rfl 0 (by decide) hw2 (fun _ h9 => h9) rfl dX8_stow_16 ?_
  obtain ⟨r19, hc19, hf⟩ := bi_s hf
  have hPc := P_head (ws := (wX8 cI cZ cS (fS hs1) (fG hs1) a (sr M 33 (q12.1 0)))) (ws' := (wX6 cI cZ (ofs 1 a) (ofs 1 (sr M 33 (q12.1 0))))) hP [1, 2, 3, 4, 5, 6, 7, 8, 9, 10, 11, 12, 13, 14, 15, 16] rfl
  have hDc := D_head (ws := (wX8 cI cZ cS (fS hs1) (fG hs1) a (sr M 33 (q12.1 0)))) (ws' := (wX6 cI cZ (ofs 1 a) (ofs 1 (sr M 33 (q12.1 0))))) hD [1, 2, 3, 4, 5, 6, 7, 8, 9, 10, 11, 12, 13, 14, 15, 16] (by decide) rfl
  have hFc := va_free (wc := (wX6 cI cZ (ofs 1 a) (ofs 1 (sr M 33 (q12.1 0))))) hD hS hA [1, 2, 3, 4, 5, 6, 7, 8, 9, 10, 11, 12, 13, 14, 15, 16] rfl
  refine va_calli (va_runVN (As := []) (rest := []) ⟨hx, hb, hml, hown, hts⟩ (c_X6_putBack l dC dI cI cZ (ofs 1 a) H.size (ofs 1 (sr M 33 (q12.1 0))) r19 hc19) ⟨va_cnB 0 hts gX8_stow_X6_putBack_n104 rfl rfl rfl (nw40 hNW) hw6 (by decide +kernel) ⟨Nat.le_of_ble_eq_true rfl, Nat.le_of_ble_eq_true rfl⟩, hw7, hw8⟩ ⟨WR.blind, va_recv hK hP (ci := 6) (q0 := 1) rfl rfl, WR.pre hPc hK2 hDc hNW⟩ rfl rfl hl.1 rfl (lv_room (Nat.le_of_ble_eq_true rfl)) dX8_stow_19 ⟨Nat.le_of_ble_eq_true rfl, Nat.le_of_ble_eq_true rfl⟩) hS (fun q _ h => hFc q h) hFc (fun rv u t H1 locs ht hvm hw hB hz1 hk1 hS => ?_)
  obtain ⟨hP1, hD1⟩ := hB
  rw [ht] at hP1
  subst hw
  obtain ⟨hP, hD⟩ := join_app (ws := (wX8 cI cZ cS (fS hs1) (fG hs1) a (sr M 33 (q12.1 0)))) (wr := [(a 0, .inr (8, [.ref (a 1), .ref (a 17), .ref (a 33), .ref (a 36), .ref (a 40), .ref (a 41)])), (a 17, .inr (6, [.ref (a 18), .ref (a 23), .ref (a 26), .ref (a 31), .int (M 17 4)])), (a 18, .inr (7, [.int (M 18 0), .int (M 18 1), .ref (a 19), .ref (a 20), .ref (a 21), .ref (a 22)])), (a 19, .inl (cI, 12, .inl (M 19))), (a 20, .inl (cI, 12, .inl (M 20))), (a 21, .inl (cI, 12, .inl (M 21))), (a 22, .inl (cI, 120, .inl (M 22))), (a 23, .inr (2, [.int (M 23 0), .int (M 23 1), .int (M 23 2), .int (M 23 3), .int (M 23 4), .ref (a 24), .ref (a 25)])), (a 24, .inl (cI, 8, .inl (M 24))), (a 25, .inl (cZ, 8, .inl (M 25))), (a 26, .inr (0, [.ref (a 27), .ref (a 28), .ref (a 29), .ref (a 30)])), (a 27, .inl (cI, 10, .inl (M 27))), (a 28, .inl (cI, 10, .inl (M 28))), (a 29, .inl (cI, 10, .inl (M 29))), (a 30, .inl (cI, 10, .inl (M 30))), (a 31, .inr (3, [.int (M 31 0), .ref (a 32)])), (a 32, .inl (cI, 80, .inl (M 32))), (a 33, .inr (1, [.int ((q12.1 0) 0), .ref (a 34), .ref (a 35)])), (a 34, .inl (cS, 6, .inr (.inr (.inr (.inr (fS hs1)))))), (a 35, .inl (cS, 2, .inr (.inr (.inr (.inr (fG hs1)))))), (a 36, .inr (5, [.int (M 36 0), .ref (a 37), .ref (a 38)])), (a 37, .inl (cI, 60, .inl (M 37))), (a 38, .inr (4, [.int (M 38 0), .int (M 38 1), .ref (a 39)])), (a 39, .inl (cI, 10, .inl (M 39))), (a 40, .inl (cI, 12, .inl (M 40))), (a 41, .inl (cI, 10, .inl (M 41)))]) (w1 := (wX6 cI cZ (ofs 1 a) (sr (sr (sr (sr (sr (ofs 1 (sr M 33 (q12.1 0))) 1 (r19.2 1)) 3 (r19.2 3)) 6 (r19.2 6)) 7 (r19.2 7)) 8 (r19.2 8)))) hP hD [1, 2, 3, 4, 5, 6, 7, 8, 9, 10, 11, 12, 13, 14, 15, 16] [0, 17, 18, 19, 20, 21, 22, 23, 24, 25, 26, 27, 28, 29, 30, 31, 32, 33, 34, 35, 36, 37, 38, 39, 40, 41] rfl rfl (by decide) (by decide) hk1 hFc hP1 hD1
  have hP := P_perm (ws' := (wX8 cI cZ cS (fS hs1) (fG hs1) a (sr (sr (sr (sr (sr (sr M 2 (r19.2 1)) 4 (r19.2 3)) 7 (r19.2 6)) 8 (r19.2 7)) 9 (r19.2 8)) 33 (q12.1 0)))) hP [0, 26, 27, 28, 29, 30, 31, 32, 33, 34, 35, 36, 37, 38, 39, 40, 41, 1, 2, 3, 4, 5, 6, 7, 8, 9, 10, 11, 12, 13, 14, 15, 16, 17, 18, 19, 20, 21, 22, 23, 24, 25] rfl
  have hD := D_perm (ws' := (wX8 cI cZ cS (fS hs1) (fG hs1) a (sr (sr (sr (sr (sr (sr M 2 (r19.2 1)) 4 (r19.2 3)) 7 (r19.2 6)) 8 (r19.2 7)) 9 (r19.2 8)) 33 (q12.1 0)))) hD [0, 26, 27, 28, 29, 30, 31, 32, 33, 34, 35, 36, 37, 38, 39, 40, 41, 1, 2, 3, 4, 5, 6, 7, 8, 9, 10, 11, 12, 13, 14, 15, 16, 17, 18, 19, 20, 21, 22, 23, 24, 25] (by decide) rfl
  generalize H1 = H at hP hS ⊢
  have e9 := so_e hf
  cases e9
  exact W.iret hx hb hr (fun t ht hW => ⟨⟨_, hs1, rfl, ⟨rfl, hh1⟩, WE.mk hP hD ht⟩, hS.F ht⟩) hS.2.2 dX8_stow_22
set_option maxHeartbeats 4000000 in
set_option maxRecDepth 100000 in
theorem n_X8_fill (l : Launch) (dC : Nat → ClassId) (dI : Nat → Nat → Nat) (cI cZ cS : ClassId) (hs : HS) (a : Nat → Nat) (sz : Nat) (M : Mem) (a1 : Int32) (a2 : Int32) (z1 : Int32) (z2 : Mem) (z3 : Nat → Option Mem) (hf : fX8_fill (cts hs) M a1 a2 = some (Sum.inr z1, z2, z3)) : Met l yX8_fill wsX8_fill ({ frames := 4, cells := 16, slots := 316, locals := 124 } : Room) (va_Pc [.ref (a 0), .int a1, .int a2] (WR8 (dC, dI) cI cZ cS (wX8 cI cZ cS (fS hs) (fG hs) a M ++ RW cI cZ hs) sz)) (va_Qi (S := HS) (fun r hs' => r = z1 ∧ cts hs' = z3) (fun hs' t => WE (dC, dI) cI cZ (wX8 cI cZ cS (fS hs') (fG hs') a z2 ++ RW cI cZ hs') (va_A (wX8 cI cZ cS (fS hs) (fG hs) a M ++ RW cI cZ hs) sz) t) (va_A (wX8 cI cZ cS (fS hs) (fG hs) a M ++ RW cI cZ hs) sz)) 16 316 (va_A (wX8 cI cZ cS (fS hs) (fG hs) a M ++ RW cI cZ hs) sz) := by
  refine Met.ofW (cc := cX8_fill) (maxL := 4) (ret := (some .int)) (by decide) rfl ?_
  intro p e s m args below meth c s₁ B hml hv
  obtain ⟨rfl, hsz, hP, hK, hD0, hNW⟩ := hv
  have hx := B.exec
  have hb := B.bytes
  have hr := B.returns
  have hts := atoms_spec (ws := wsX8_fill) B.pre
  have hown : s.vm.findClass RX8 = some m.cls := findClass_of_methodNamed B.named
  have hlocks := B.notSynchronized
  have hK2 : va_K (dC, dI) vwCl [(cI, .int), (cZ, .boolean)] s := hK.sub (tys' := [(cI, .int), (cZ, .boolean)]) [0, 1] rfl
  have hinX8 : ∀ w ∈ u_ws RX8 TX8 6, w ∈ wsX8_fill := by decide +kernel
  have hw1 := hts (.fieldLink RX8 12 "GlideShelves" "now" "LGlideShelves$State;") (by decide +kernel)
  have hinX6 : ∀ w ∈ u_ws RX6 TX6 5, w ∈ wsX8_fill := by decide +kernel
  have hinX7 : ∀ w ∈ u_ws RX7 TX7 6, w ∈ wsX8_fill := by decide +kernel
  have hw4 := hts (.initialized RX6) (by decide +kernel)
  have hw5 := hts (.instanceMethod yX6_weighShelf) (by decide +kernel)
  have hw6 := hts (.selects RX6 yX6_weighShelf yX6_weighShelf) (by decide +kernel)
  have hinX0 : ∀ w ∈ u_ws RX0 TX0 4, w ∈ wsX8_fill := by decide +kernel
  have hw8 := hts (.fieldLink RX8 22 "GlideShelves" "history" "LGlideShelves$History;") (by decide +kernel)
  have hw9 := hts (.initialized RX1) (by decide +kernel)
  have hw10 := hts (.instanceMethod yX1_save) (by decide +kernel)
  have hw11 := hts (.selects RX1 yX1_save yX1_save) (by decide +kernel)
  have hw12 := hts (.initialized RX7) (by decide +kernel)
  have hw13 := hts (.instanceMethod yX7_change) (by decide +kernel)
  have hw14 := hts (.selects RX7 yX7_change yX7_change) (by decide +kernel)
  subst hsz
  have hD := hD0.self (sz := s.heap.size)
  generalize hAe : va_A (wX8 cI cZ cS (fS hs) (fG hs) a M ++ RW cI cZ hs) s.heap.size = A at hD ⊢
  have hA : ∀ q : Nat, s.heap.size ≤ q → A q := fun q h => by rw [← hAe]; exact Or.inr h
  have hS : va_S A s.heap s.heap [] := va_S.rf
  have hl := lv_entry ([.ref (a 0), .int a1, .int a2]) (n := 4) (Nat.le_of_ble_eq_true rfl)
  rw [lg_entry_eq]
  generalize (lg_sl ([.ref (a 0), .int a1, .int a2]) ++ List.replicate (4 - (lg_sl ([.ref (a 0), .int a1, .int a2])).length) Slot.unset).toArray = ls at hl ⊢
  have hl : lv_has ls 4 [(0, .ref (a 0)), (1, .int a1), (2, .int a2)] := hl
  unfold fX8_fill at hf
  suffices hgo : ∀ (H : Heap) (locs : List Loc), va_P (dC, dI) vwCl (wX8 cI cZ cS (fS hs) (fG hs) a M ++ RW cI cZ hs) H → va_D A (wX8 cI cZ cS (fS hs) (fG hs) a M ++ RW cI cZ hs) → va_S A s.heap H locs → W p l e (headSpec wsX8_fill ({ frames := 4, cells := 16, slots := 316, locals := 124 } : Room)).room s m ([.ref (a 0), .int a1, .int a2] : List Value).toArray below meth c H locs 0 0 (MQ below (va_Qi (S := HS) (fun r hs' => r = z1 ∧ cts hs' = z3) (fun hs' t => WE (dC, dI) cI cZ (wX8 cI cZ cS (fS hs') (fG hs') a z2 ++ RW cI cZ hs') A t) A) ([.ref (a 0), .int a1, .int a2] : List Value).toArray s 16 316 A) (F0 m 0 ls []) from hgo _ _ hP hD hS
  intro H locs hP hD hS
  refine lv_aload_n hx hb dX8_fill_0 rfl (lv_at hl 0 rfl) ?_
  refine lv_iload_n hx hb dX8_fill_1 rfl (lv_at hl 1 rfl) ?_
  obtain ⟨r2, hc2, hf⟩ := bi_s hf
  rcases r2 with E9 | r2
  · have e9 := so_e hf
    cases e9
  have hf := sel_r hf
  refine cROv (W.runV (As := [.int a1]) (rest := []) ⟨hx, hb, hml, hown, hts⟩ (n_X8_requireKind l dC dI cI cZ cS (fS hs) (fG hs) a M a1  hc2) (cwV 1 hts gX8_fill_X8_requireKind rfl rfl rfl (by decide +kernel) ⟨Nat.le_of_ble_eq_true rfl, Nat.le_of_ble_eq_true rfl⟩) ⟨RO8.blind, va_recv hK hP (ci := 8) (q0 := 0) rfl rfl, RO8.pre (P_app hP).1 hK hNW⟩ rfl rfl hl.1 rfl (lv_room (Nat.le_of_ble_eq_true rfl)) dX8_fill_2 ⟨Nat.le_of_ble_eq_true rfl, Nat.le_of_ble_eq_true rfl⟩) ?_
  refine lv_aload_n hx hb dX8_fill_5 rfl (lv_at hl 0 rfl) ?_
  refine lv_iload_n hx hb dX8_fill_6 rfl (lv_at hl 2 rfl) ?_
  obtain ⟨r7, hc7, hf⟩ := bi_s hf
  rcases r7 with E9 | r7
  · have e9 := so_e hf
    cases e9
  have hf := sel_r hf
  refine cROv (W.runV (As := [.int a2]) (rest := []) ⟨hx, hb, hml, hown, hts⟩ (n_X8_requireMany l dC dI cI cZ cS (fS hs) (fG hs) a M a2  hc7) (cwV 1 hts gX8_fill_X8_requireMany rfl rfl rfl (by decide +kernel) ⟨Nat.le_of_ble_eq_true rfl, Nat.le_of_ble_eq_true rfl⟩) ⟨RO8.blind, va_recv hK hP (ci := 8) (q0 := 0) rfl rfl, RO8.pre (P_app hP).1 hK hNW⟩ rfl rfl hl.1 rfl (lv_room (Nat.le_of_ble_eq_true rfl)) dX8_fill_7 ⟨Nat.le_of_ble_eq_true rfl, Nat.le_of_ble_eq_true rfl⟩) ?_
  refine lv_aload_n hx hb dX8_fill_10 rfl (lv_at hl 0 rfl) ?_
  obtain ⟨r11, hc11, hf⟩ := bi_s hf
  rcases r11 with E9 | r11
  · have e9 := so_e hf
    cases e9
  have hf := sel_r hf
  refine cROv (W.runV (As := []) (rest := []) ⟨hx, hb, hml, hown, hts⟩ (n_X8_requireShelfAtWindow l dC dI cI cZ cS (fS hs) (fG hs) a M  hc11) (cwV 0 hts gX8_fill_X8_requireShelfAtWindow rfl rfl rfl (by decide +kernel) ⟨Nat.le_of_ble_eq_true rfl, Nat.le_of_ble_eq_true rfl⟩) ⟨RO8.blind, va_recv hK hP (ci := 8) (q0 := 0) rfl rfl, RO8.pre (P_app hP).1 hK hNW⟩ rfl rfl hl.1 rfl (lv_room (Nat.le_of_ble_eq_true rfl)) dX8_fill_11 ⟨Nat.le_of_ble_eq_true rfl, Nat.le_of_ble_eq_true rfl⟩) ?_
  refine lv_aload_n hx hb dX8_fill_14 rfl (lv_at hl 0 rfl) ?_
  refine va_get (D := (dC, dI)) (ci := 8) (v := .ref (a 1)) (C := RX8) (T := TX8) (N := 6) hx hb hts hinX8 hown hK hP 0 rfl rfl 0 (by decide) hw1 (fun _ h9 => h9) rfl dX8_fill_15 ?_
  refine va_getN (D := (dC, dI)) (ci := 6) (v := .ref (a 2)) (C := RX6) (T := TX6) (N := 5) hx hb hts hinX6 hown hK hP 1 rfl rfl 0 (by decide) (nw23 hNW) (fun _ h9 => h9) rfl dX8_fill_18 ?_
  refine va_getN (D := (dC, dI)) (ci := 7) (v := .int (M 2 1)) (C := RX7) (T := TX7) (N := 6) hx hb hts hinX7 hown hK hP 2 rfl rfl 1 (by decide) (nw25 hNW) (fun _ h9 => h9) rfl dX8_fill_21 ?_
  refine lv_istore_n (lv' := [(3, .int (M 2 1)), (0, .ref (a 0)), (1, .int a1), (2, .int a2)]) hx hb dX8_fill_24 rfl hl (by decide) rfl (fun ls hl => ?_)
  refine lv_aload_n hx hb dX8_fill_25 rfl (lv_at hl 1 rfl) ?_
  refine va_get (D := (dC, dI)) (ci := 8) (v := .ref (a 1)) (C := RX8) (T := TX8) (N := 6) hx hb hts hinX8 hown hK hP 0 rfl rfl 0 (by decide) hw1 (fun _ h9 => h9) rfl dX8_fill_26 ?_
  refine lv_iload_n hx hb dX8_fill_29 rfl (lv_at hl 0 rfl) ?_
  obtain ⟨r30, hc30, hf⟩ := bi_s hf
  have hPc := P_head (ws := (wX8 cI cZ cS (fS hs) (fG hs) a M)) (ws' := (wX6 cI cZ (ofs 1 a) (ofs 1 M))) hP [1, 2, 3, 4, 5, 6, 7, 8, 9, 10, 11, 12, 13, 14, 15, 16] rfl
  refine cRO (va_Run.run (va_runVN (As := [.int (M 2 1)]) (rest := []) ⟨hx, hb, hml, hown, hts⟩ (c_X6_weighShelf l dC dI cI cZ (ofs 1 a) (ofs 1 M) (M 2 1) r30 hc30) ⟨va_cnB 1 hts gX8_fill_X6_weighShelf_n141 rfl rfl rfl (nw42 hNW) hw4 (by decide +kernel) ⟨Nat.le_of_ble_eq_true rfl, Nat.le_of_ble_eq_true rfl⟩, hw5, hw6⟩ ⟨RO.blind, va_recv hK hP (ci := 6) (q0 := 1) rfl rfl, RO.pre hPc hK2 hNW⟩ rfl rfl hl.1 rfl (lv_room (Nat.le_of_ble_eq_true rfl)) dX8_fill_30 ⟨Nat.le_of_ble_eq_true rfl, Nat.le_of_ble_eq_true rfl⟩)) ?_
  refine lv_iload_n hx hb dX8_fill_33 rfl (lv_at hl 3 rfl) ?_
  refine lv_aload_n hx hb dX8_fill_34 rfl (lv_at hl 1 rfl) ?_
  refine va_get (D := (dC, dI)) (ci := 8) (v := .ref (a 1)) (C := RX8) (T := TX8) (N := 6) hx hb hts hinX8 hown hK hP 0 rfl rfl 0 (by decide) hw1 (fun _ h9 => h9) rfl dX8_fill_35 ?_
  refine va_getN (D := (dC, dI)) (ci := 6) (v := .ref (a 10)) (C := RX6) (T := TX6) (N := 5) hx hb hts hinX6 hown hK hP 1 rfl rfl 2 (by decide) (nw0 hNW) (fun _ h9 => h9) rfl dX8_fill_38 ?_
  refine va_getN (D := (dC, dI)) (ci := 0) (v := .ref (a 11)) (C := RX0) (T := TX0) (N := 4) hx hb hts hinX0 hown hK hP 10 rfl rfl 0 (by decide) (nw1 hNW) (fun _ h9 => h9) rfl dX8_fill_41 ?_
  refine lv_iload_n hx hb dX8_fill_44 rfl (lv_at hl 2 rfl) ?_
  obtain ⟨hi, hf⟩ := gd_s hf
  refine va_iald (D := (dC, dI)) (f := (M 11)) hx hb hK hP 11 0 rfl rfl (inb_in hi) dX8_fill_45 ?_
  refine lv_imul hx hb dX8_fill_46 ?_
  refine lv_iadd hx hb dX8_fill_47 ?_
  refine lv_sipush (v := (150 : Int32)) hx hb dX8_fill_48 (by decide) ?_
  refine lv_icmp_le (tgt := 64) hx hb dX8_fill_51 (by decide) (fun c9 => ?_) (fun c9 => ?_)
  · have hf := it_t hf c9
    refine lv_aload_n hx hb dX8_fill_64 rfl (lv_at hl 1 rfl) ?_
    refine va_get (D := (dC, dI)) (ci := 8) (v := .ref (a 33)) (C := RX8) (T := TX8) (N := 6) hx hb hts hinX8 hown hK hP 0 rfl rfl 2 (by decide) hw8 (fun _ h9 => h9) rfl dX8_fill_65 ?_
    refine lv_aload_n hx hb dX8_fill_68 rfl (lv_at hl 1 rfl) ?_
    refine va_get (D := (dC, dI)) (ci := 8) (v := .ref (a 1)) (C := RX8) (T := TX8) (N := 6) hx hb hts hinX8 hown hK hP 0 rfl rfl 0 (by decide) hw1 (fun _ h9 => h9) rfl dX8_fill_69 ?_
    have hf := inrs_s hf
    obtain ⟨q72, hc72, hf⟩ := bi_s hf
    have hPc := hP.part (X := (wX8 cI cZ cS (fS hs) (fG hs) a M)) (cx := (wX1s cI cZ cS (fS hs) (fG hs) (pk [33, 34, 35, 1, 2, 3, 4, 5, 6, 7, 8, 9, 10, 11, 12, 13, 14, 15, 16] a) (pk [33, 34, 35, 1, 2, 3, 4, 5, 6, 7, 8, 9, 10, 11, 12, 13, 14, 15, 16] M))) [33, 34, 35, 1, 2, 3, 4, 5, 6, 7, 8, 9, 10, 11, 12, 13, 14, 15, 16] rfl
    have hDc := hD.part (X := (wX8 cI cZ cS (fS hs) (fG hs) a M)) (cx := (wX1s cI cZ cS (fS hs) (fG hs) (pk [33, 34, 35, 1, 2, 3, 4, 5, 6, 7, 8, 9, 10, 11, 12, 13, 14, 15, 16] a) (pk [33, 34, 35, 1, 2, 3, 4, 5, 6, 7, 8, 9, 10, 11, 12, 13, 14, 15, 16] M))) [33, 34, 35, 1, 2, 3, 4, 5, 6, 7, 8, 9, 10, 11, 12, 13, 14, 15, 16] (by decide) rfl
    have hFc := va_freeP (X := (wX8 cI cZ cS (fS hs) (fG hs) a M)) (cx := (wX1s cI cZ cS (fS hs) (fG hs) (pk [33, 34, 35, 1, 2, 3, 4, 5, 6, 7, 8, 9, 10, 11, 12, 13, 14, 15, 16] a) (pk [33, 34, 35, 1, 2, 3, 4, 5, 6, 7, 8, 9, 10, 11, 12, 13, 14, 15, 16] M))) hD hS hA [33, 34, 35, 1, 2, 3, 4, 5, 6, 7, 8, 9, 10, 11, 12, 13, 14, 15, 16] rfl
    refine va_callv (va_runVN (As := [.ref (a 1)]) (rest := []) ⟨hx, hb, hml, hown, hts⟩ (c_X1_save l dC dI cI cZ cS hs (pk [33, 34, 35, 1, 2, 3, 4, 5, 6, 7, 8, 9, 10, 11, 12, 13, 14, 15, 16] a) H.size (pk [33, 34, 35, 1, 2, 3, 4, 5, 6, 7, 8, 9, 10, 11, 12, 13, 14, 15, 16] M) q72 hc72) ⟨va_cnB 1 hts gX8_fill_X1_save_n70 rfl rfl rfl (nw67 hNW) hw9 (by decide +kernel) ⟨Nat.le_of_ble_eq_true rfl, Nat.le_of_ble_eq_true rfl⟩, hw10, hw11⟩ ⟨WR8.blind, va_recv hK hP (ci := 1) (q0 := 33) rfl rfl, WR8.pre hPc hK hDc hNW⟩ rfl rfl hl.1 rfl (lv_room (Nat.le_of_ble_eq_true rfl)) dX8_fill_72 ⟨Nat.le_of_ble_eq_true rfl, Nat.le_of_ble_eq_true rfl⟩) hS (fun q _ h => hFc q h) hFc (fun hs1 t H1 locs ht hvm hw hB hz1 hk1 hS => ?_)
    obtain ⟨hh1, hh6, hh7⟩ := hw
    obtain ⟨hP1, hD1⟩ := hB
    rw [ht] at hP1
    rw [fX1_save_rows hc72] at hP1 hD1
    obtain ⟨hP, hD⟩ := va_joinP (X := (wX8 cI cZ cS (fS hs) (fG hs) a M)) (cx := (wX1s cI cZ cS (fS hs) (fG hs) (pk [33, 34, 35, 1, 2, 3, 4, 5, 6, 7, 8, 9, 10, 11, 12, 13, 14, 15, 16] a) (pk [33, 34, 35, 1, 2, 3, 4, 5, 6, 7, 8, 9, 10, 11, 12, 13, 14, 15, 16] M))) (wr := [(a 0, .inr (8, [.ref (a 1), .ref (a 17), .ref (a 33), .ref (a 36), .ref (a 40), .ref (a 41)])), (a 17, .inr (6, [.ref (a 18), .ref (a 23), .ref (a 26), .ref (a 31), .int (M 17 4)])), (a 18, .inr (7, [.int (M 18 0), .int (M 18 1), .ref (a 19), .ref (a 20), .ref (a 21), .ref (a 22)])), (a 19, .inl (cI, 12, .inl (M 19))), (a 20, .inl (cI, 12, .inl (M 20))), (a 21, .inl (cI, 12, .inl (M 21))), (a 22, .inl (cI, 120, .inl (M 22))), (a 23, .inr (2, [.int (M 23 0), .int (M 23 1), .int (M 23 2), .int (M 23 3), .int (M 23 4), .ref (a 24), .ref (a 25)])), (a 24, .inl (cI, 8, .inl (M 24))), (a 25, .inl (cZ, 8, .inl (M 25))), (a 26, .inr (0, [.ref (a 27), .ref (a 28), .ref (a 29), .ref (a 30)])), (a 27, .inl (cI, 10, .inl (M 27))), (a 28, .inl (cI, 10, .inl (M 28))), (a 29, .inl (cI, 10, .inl (M 29))), (a 30, .inl (cI, 10, .inl (M 30))), (a 31, .inr (3, [.int (M 31 0), .ref (a 32)])), (a 32, .inl (cI, 80, .inl (M 32))), (a 36, .inr (5, [.int (M 36 0), .ref (a 37), .ref (a 38)])), (a 37, .inl (cI, 60, .inl (M 37))), (a 38, .inr (4, [.int (M 38 0), .int (M 38 1), .ref (a 39)])), (a 39, .inl (cI, 10, .inl (M 39))), (a 40, .inl (cI, 12, .inl (M 40))), (a 41, .inl (cI, 10, .inl (M 41)))]) (rx := (wX1s cI cZ cS (fS hs1) (fG hs1) (pk [33, 34, 35, 1, 2, 3, 4, 5, 6, 7, 8, 9, 10, 11, 12, 13, 14, 15, 16] a) (sr (pk [33, 34, 35, 1, 2, 3, 4, 5, 6, 7, 8, 9, 10, 11, 12, 13, 14, 15, 16] M) 0 (q72.1 0)))) hP hD [33, 34, 35, 1, 2, 3, 4, 5, 6, 7, 8, 9, 10, 11, 12, 13, 14, 15, 16] [0, 17, 18, 19, 20, 21, 22, 23, 24, 25, 26, 27, 28, 29, 30, 31, 32, 36, 37, 38, 39, 40, 41] rfl rfl (by decide) (by decide) hk1 hFc hP1 hD1
    have hP := P_perm (ws' := (wX8 cI cZ cS (fS hs1) (fG hs1) a (sr M 33 (q72.1 0)))) hP [0, 26, 27, 28, 29, 30, 31, 32, 33, 34, 35, 36, 37, 38, 39, 40, 41, 1, 2, 3, 4, 5, 6, 7, 8, 9, 10, 11, 12, 13, 14, 15, 16, 23, 24, 25, 17, 18, 19, 20, 21, 22] rfl
    have hD := D_perm (ws' := (wX8 cI cZ cS (fS hs1) (fG hs1) a (sr M 33 (q72.1 0)))) hD [0, 26, 27, 28, 29, 30, 31, 32, 33, 34, 35, 36, 37, 38, 39, 40, 41, 1, 2, 3, 4, 5, 6, 7, 8, 9, 10, 11, 12, 13, 14, 15, 16, 23, 24, 25, 17, 18, 19, 20, 21, 22] (by decide) rfl
    generalize H1 = H at hP hS ⊢
    refine lv_aload_n hx hb dX8_fill_75 rfl (lv_at hl 1 rfl) ?_
    refine va_get (D := (dC, dI)) (ci := 8) (v := .ref (a 1)) (C := RX8) (T := TX8) (N := 6) hx hb hts hinX8 hown hK hP 0 rfl rfl 0 (by decide) hw1 (fun _ h9 => h9) rfl dX8_fill_76 ?_
    refine va_getN (D := (dC, dI)) (ci := 6) (v := .ref (a 10)) (C := RX6) (T := TX6) (N := 5) hx hb hts hinX6 hown hK hP 1 rfl rfl 2 (by decide) (nw0 hNW) (fun _ h9 => h9) rfl dX8_fill_79 ?_
    refine va_getN (D := (dC, dI)) (ci := 0) (v := .ref (a 13)) (C := RX0) (T := TX0) (N := 4) hx hb hts hinX0 hown hK hP 10 rfl rfl 2 (by decide) (nw2 hNW) (fun _ h9 => h9) rfl dX8_fill_82 ?_
    refine lv_iload_n hx hb dX8_fill_85 rfl (lv_at hl 2 rfl) ?_
    refine lv_dup2_11 hx hb dX8_fill_86 rfl rfl ?_
    obtain ⟨hi, hf⟩ := gd_s hf
    refine va_iald (D := (dC, dI)) (f := (M 13)) hx hb hK hP 13 0 rfl rfl (inb_in hi) dX8_fill_87 ?_
    refine lv_iload_n hx hb dX8_fill_88 rfl (lv_at hl 3 rfl) ?_
    refine lv_iadd hx hb dX8_fill_89 ?_
    obtain ⟨hi, hf⟩ := gd_s hf
    refine va_iast (D := (dC, dI)) (f := (M 13)) hx hb hK hP hD hS 13 0 rfl rfl (inb_in hi) dX8_fill_90 (fun H locs hP hD hS => ?_)
    have hP : va_P (dC, dI) vwCl (wX8 cI cZ cS (fS hs1) (fG hs1) a (sr (sr M 13 (upd (M 13) a1.toNatClampNeg ((M 13 a1.toNatClampNeg) + a2))) 33 (q72.1 0)) ++ RW cI cZ hs1) H := hP
    have hD : va_D A (wX8 cI cZ cS (fS hs1) (fG hs1) a (sr (sr M 13 (upd (M 13) a1.toNatClampNeg ((M 13 a1.toNatClampNeg) + a2))) 33 (q72.1 0)) ++ RW cI cZ hs1) := hD
    refine lv_aload_n hx hb dX8_fill_91 rfl (lv_at hl 1 rfl) ?_
    refine va_get (D := (dC, dI)) (ci := 8) (v := .ref (a 1)) (C := RX8) (T := TX8) (N := 6) hx hb hts hinX8 hown hK hP 0 rfl rfl 0 (by decide) hw1 (fun _ h9 => h9) rfl dX8_fill_92 ?_
    refine va_getN (D := (dC, dI)) (ci := 6) (v := .ref (a 2)) (C := RX6) (T := TX6) (N := 5) hx hb hts hinX6 hown hK hP 1 rfl rfl 0 (by decide) (nw23 hNW) (fun _ h9 => h9) rfl dX8_fill_95 ?_
    refine lv_iload_n hx hb dX8_fill_98 rfl (lv_at hl 0 rfl) ?_
    refine lv_iload_n hx hb dX8_fill_99 rfl (lv_at hl 2 rfl) ?_
    refine lv_iload_n hx hb dX8_fill_100 rfl (lv_at hl 3 rfl) ?_
    obtain ⟨r101, hc101, hf⟩ := bi_s hf
    have hPc := P_head (ws := (wX8 cI cZ cS (fS hs1) (fG hs1) a (sr (sr M 13 (upd (M 13) a1.toNatClampNeg ((M 13 a1.toNatClampNeg) + a2))) 33 (q72.1 0)))) (ws' := (wX7 cI cZ (ofs 2 a) (ofs 2 (sr (sr M 13 (upd (M 13) a1.toNatClampNeg ((M 13 a1.toNatClampNeg) + a2))) 33 (q72.1 0))))) hP [2, 3, 4, 5, 6] rfl
    have hDc := D_head (ws := (wX8 cI cZ cS (fS hs1) (fG hs1) a (sr (sr M 13 (upd (M 13) a1.toNatClampNeg ((M 13 a1.toNatClampNeg) + a2))) 33 (q72.1 0)))) (ws' := (wX7 cI cZ (ofs 2 a) (ofs 2 (sr (sr M 13 (upd (M 13) a1.toNatClampNeg ((M 13 a1.toNatClampNeg) + a2))) 33 (q72.1 0))))) hD [2, 3, 4, 5, 6] (by decide) rfl
    have hFc := va_free (wc := (wX7 cI cZ (ofs 2 a) (ofs 2 (sr (sr M 13 (upd (M 13) a1.toNatClampNeg ((M 13 a1.toNatClampNeg) + a2))) 33 (q72.1 0))))) hD hS hA [2, 3, 4, 5, 6] rfl
    refine va_calli (va_runVN (As := [.int (M 2 1), .int a1, .int a2]) (rest := []) ⟨hx, hb, hml, hown, hts⟩ (c_X7_change l dC dI cI cZ (ofs 2 a) H.size (ofs 2 (sr (sr M 13 (upd (M 13) a1.toNatClampNeg ((M 13 a1.toNatClampNeg) + a2))) 33 (q72.1 0))) (M 2 1) a1 a2 r101 hc101) ⟨va_cnB 3 hts gX8_fill_X7_change_n158 rfl rfl rfl (nw43 hNW) hw12 (by decide +kernel) ⟨Nat.le_of_ble_eq_true rfl, Nat.le_of_ble_eq_true rfl⟩, hw13, hw14⟩ ⟨WR.blind, va_recv hK hP (ci := 7) (q0 := 2) rfl rfl, WR.pre hPc hK2 hDc hNW⟩ rfl rfl hl.1 rfl (lv_room (Nat.le_of_ble_eq_true rfl)) dX8_fill_101 ⟨Nat.le_of_ble_eq_true rfl, Nat.le_of_ble_eq_true rfl⟩) hS (fun q _ h => hFc q h) hFc (fun rv u t H1 locs ht hvm hw hB hz1 hk1 hS => ?_)
    obtain ⟨hP1, hD1⟩ := hB
    rw [ht] at hP1
    subst hw
    obtain ⟨hP, hD⟩ := join_app (ws := (wX8 cI cZ cS (fS hs1) (fG hs1) a (sr (sr M 13 (upd (M 13) a1.toNatClampNeg ((M 13 a1.toNatClampNeg) + a2))) 33 (q72.1 0)))) (wr := [(a 0, .inr (8, [.ref (a 1), .ref (a 17), .ref (a 33), .ref (a 36), .ref (a 40), .ref (a 41)])), (a 1, .inr (6, [.ref (a 2), .ref (a 7), .ref (a 10), .ref (a 15), .int (M 1 4)])), (a 7, .inr (2, [.int (M 7 0), .int (M 7 1), .int (M 7 2), .int (M 7 3), .int (M 7 4), .ref (a 8), .ref (a 9)])), (a 8, .inl (cI, 8, .inl (M 8))), (a 9, .inl (cZ, 8, .inl (M 9))), (a 10, .inr (0, [.ref (a 11), .ref (a 12), .ref (a 13), .ref (a 14)])), (a 11, .inl (cI, 10, .inl (M 11))), (a 12, .inl (cI, 10, .inl (M 12))), (a 13, .inl (cI, 10, .inl (upd (M 13) a1.toNatClampNeg ((M 13 a1.toNatClampNeg) + a2)))), (a 14, .inl (cI, 10, .inl (M 14))), (a 15, .inr (3, [.int (M 15 0), .ref (a 16)])), (a 16, .inl (cI, 80, .inl (M 16))), (a 17, .inr (6, [.ref (a 18), .ref (a 23), .ref (a 26), .ref (a 31), .int (M 17 4)])), (a 18, .inr (7, [.int (M 18 0), .int (M 18 1), .ref (a 19), .ref (a 20), .ref (a 21), .ref (a 22)])), (a 19, .inl (cI, 12, .inl (M 19))), (a 20, .inl (cI, 12, .inl (M 20))), (a 21, .inl (cI, 12, .inl (M 21))), (a 22, .inl (cI, 120, .inl (M 22))), (a 23, .inr (2, [.int (M 23 0), .int (M 23 1), .int (M 23 2), .int (M 23 3), .int (M 23 4), .ref (a 24), .ref (a 25)])), (a 24, .inl (cI, 8, .inl (M 24))), (a 25, .inl (cZ, 8, .inl (M 25))), (a 26, .inr (0, [.ref (a 27), .ref (a 28), .ref (a 29), .ref (a 30)])), (a 27, .inl (cI, 10, .inl (M 27))), (a 28, .inl (cI, 10, .inl (M 28))), (a 29, .inl (cI, 10, .inl (M 29))), (a 30, .inl (cI, 10, .inl (M 30))), (a 31, .inr (3, [.int (M 31 0), .ref (a 32)])), (a 32, .inl (cI, 80, .inl (M 32))), (a 33, .inr (1, [.int ((q72.1 0) 0), .ref (a 34), .ref (a 35)])), (a 34, .inl (cS, 6, .inr (.inr (.inr (.inr (fS hs1)))))), (a 35, .inl (cS, 2, .inr (.inr (.inr (.inr (fG hs1)))))), (a 36, .inr (5, [.int (M 36 0), .ref (a 37), .ref (a 38)])), (a 37, .inl (cI, 60, .inl (M 37))), (a 38, .inr (4, [.int (M 38 0), .int (M 38 1), .ref (a 39)])), (a 39, .inl (cI, 10, .inl (M 39))), (a 40, .inl (cI, 12, .inl (M 40))), (a 41, .inl (cI, 10, .inl (M 41)))]) (w1 := (wX7 cI cZ (ofs 2 a) (sr (ofs 2 (sr (sr M 13 (upd (M 13) a1.toNatClampNeg ((M 13 a1.toNatClampNeg) + a2))) 33 (q72.1 0))) 4 (r101.2 4)))) hP hD [2, 3, 4, 5, 6] [0, 1, 7, 8, 9, 10, 11, 12, 13, 14, 15, 16, 17, 18, 19, 20, 21, 22, 23, 24, 25, 26, 27, 28, 29, 30, 31, 32, 33, 34, 35, 36, 37, 38, 39, 40, 41] rfl rfl (by decide) (by decide) hk1 hFc hP1 hD1
    have hP := P_perm (ws' := (wX8 cI cZ cS (fS hs1) (fG hs1) a (sr (sr (sr M 6 (r101.2 4)) 13 (upd (M 13) a1.toNatClampNeg ((M 13 a1.toNatClampNeg) + a2))) 33 (q72.1 0)))) hP [0, 1, 37, 38, 39, 40, 41, 2, 3, 4, 5, 6, 7, 8, 9, 10, 11, 12, 13, 14, 15, 16, 17, 18, 19, 20, 21, 22, 23, 24, 25, 26, 27, 28, 29, 30, 31, 32, 33, 34, 35, 36] rfl
    have hD := D_perm (ws' := (wX8 cI cZ cS (fS hs1) (fG hs1) a (sr (sr (sr M 6 (r101.2 4)) 13 (upd (M 13) a1.toNatClampNeg ((M 13 a1.toNatClampNeg) + a2))) 33 (q72.1 0)))) hD [0, 1, 37, 38, 39, 40, 41, 2, 3, 4, 5, 6, 7, 8, 9, 10, 11, 12, 13, 14, 15, 16, 17, 18, 19, 20, 21, 22, 23, 24, 25, 26, 27, 28, 29, 30, 31, 32, 33, 34, 35, 36] (by decide) rfl
    generalize H1 = H at hP hS ⊢
    have e9 := so_e hf
    cases e9
    exact W.iret hx hb hr (fun t ht hW => ⟨⟨_, hs1, rfl, ⟨rfl, hh1⟩, WE.mk hP hD ht⟩, hS.F ht⟩) hS.2.2 dX8_fill_104
  · have hf := it_f hf c9
    have e9 := so_e hf
    cases e9
set_option maxHeartbeats 4000000 in
set_option maxRecDepth 100000 in
theorem n_X8_take (l : Launch) (dC : Nat → ClassId) (dI : Nat → Nat → Nat) (cI cZ cS : ClassId) (hs : HS) (a : Nat → Nat) (sz : Nat) (M : Mem) (a1 : Int32) (a2 : Int32) (z1 : Int32) (z2 : Mem) (z3 : Nat → Option Mem) (hf : fX8_take (cts hs) M a1 a2 = some (Sum.inr z1, z2, z3)) : Met l yX8_take wsX8_take ({ frames := 4, cells := 16, slots := 316, locals := 124 } : Room) (va_Pc [.ref (a 0), .int a1, .int a2] (WR8 (dC, dI) cI cZ cS (wX8 cI cZ cS (fS hs) (fG hs) a M ++ RW cI cZ hs) sz)) (va_Qi (S := HS) (fun r hs' => r = z1 ∧ cts hs' = z3) (fun hs' t => WE (dC, dI) cI cZ (wX8 cI cZ cS (fS hs') (fG hs') a z2 ++ RW cI cZ hs') (va_A (wX8 cI cZ cS (fS hs) (fG hs) a M ++ RW cI cZ hs) sz) t) (va_A (wX8 cI cZ cS (fS hs) (fG hs) a M ++ RW cI cZ hs) sz)) 16 316 (va_A (wX8 cI cZ cS (fS hs) (fG hs) a M ++ RW cI cZ hs) sz) := by
  refine Met.ofW (cc := cX8_take) (maxL := 4) (ret := (some .int)) (by decide) rfl ?_
  intro p e s m args below meth c s₁ B hml hv
  obtain ⟨rfl, hsz, hP, hK, hD0, hNW⟩ := hv
  have hx := B.exec
  have hb := B.bytes
  have hr := B.returns
  have hts := atoms_spec (ws := wsX8_take) B.pre
  have hown : s.vm.findClass RX8 = some m.cls := findClass_of_methodNamed B.named
  have hlocks := B.notSynchronized
  have hK2 : va_K (dC, dI) vwCl [(cI, .int), (cZ, .boolean)] s := hK.sub (tys' := [(cI, .int), (cZ, .boolean)]) [0, 1] rfl
  have hinX8 : ∀ w ∈ u_ws RX8 TX8 6, w ∈ wsX8_take := by decide +kernel
  have hw1 := hts (.fieldLink RX8 12 "GlideShelves" "now" "LGlideShelves$State;") (by decide +kernel)
  have hinX6 : ∀ w ∈ u_ws RX6 TX6 5, w ∈ wsX8_take := by decide +kernel
  have hinX7 : ∀ w ∈ u_ws RX7 TX7 6, w ∈ wsX8_take := by decide +kernel
  have hw4 := hts (.initialized RX7) (by decide +kernel)
  have hw5 := hts (.instanceMethod yX7_countIn) (by decide +kernel)
  have hw6 := hts (.selects RX7 yX7_countIn yX7_countIn) (by decide +kernel)
  have hw7 := hts (.fieldLink RX8 22 "GlideShelves" "history" "LGlideShelves$History;") (by decide +kernel)
  have hw8 := hts (.initialized RX1) (by decide +kernel)
  have hw9 := hts (.instanceMethod yX1_save) (by decide +kernel)
  have hw10 := hts (.selects RX1 yX1_save yX1_save) (by decide +kernel)
  have hinX0 : ∀ w ∈ u_ws RX0 TX0 4, w ∈ wsX8_take := by decide +kernel
  have hw12 := hts (.instanceMethod yX7_change) (by decide +kernel)
  have hw13 := hts (.selects RX7 yX7_change yX7_change) (by decide +kernel)
  subst hsz
  have hD := hD0.self (sz := s.heap.size)
  generalize hAe : va_A (wX8 cI cZ cS (fS hs) (fG hs) a M ++ RW cI cZ hs) s.heap.size = A at hD ⊢
  have hA : ∀ q : Nat, s.heap.size ≤ q → A q := fun q h => by rw [← hAe]; exact Or.inr h
  have hS : va_S A s.heap s.heap [] := va_S.rf
  have hl := lv_entry ([.ref (a 0), .int a1, .int a2]) (n := 4) (Nat.le_of_ble_eq_true rfl)
  rw [lg_entry_eq]
  generalize (lg_sl ([.ref (a 0), .int a1, .int a2]) ++ List.replicate (4 - (lg_sl ([.ref (a 0), .int a1, .int a2])).length) Slot.unset).toArray = ls at hl ⊢
  have hl : lv_has ls 4 [(0, .ref (a 0)), (1, .int a1), (2, .int a2)] := hl
  unfold fX8_take at hf
  suffices hgo : ∀ (H : Heap) (locs : List Loc), va_P (dC, dI) vwCl (wX8 cI cZ cS (fS hs) (fG hs) a M ++ RW cI cZ hs) H → va_D A (wX8 cI cZ cS (fS hs) (fG hs) a M ++ RW cI cZ hs) → va_S A s.heap H locs → W p l e (headSpec wsX8_take ({ frames := 4, cells := 16, slots := 316, locals := 124 } : Room)).room s m ([.ref (a 0), .int a1, .int a2] : List Value).toArray below meth c H locs 0 0 (MQ below (va_Qi (S := HS) (fun r hs' => r = z1 ∧ cts hs' = z3) (fun hs' t => WE (dC, dI) cI cZ (wX8 cI cZ cS (fS hs') (fG hs') a z2 ++ RW cI cZ hs') A t) A) ([.ref (a 0), .int a1, .int a2] : List Value).toArray s 16 316 A) (F0 m 0 ls []) from hgo _ _ hP hD hS
  intro H locs hP hD hS
  refine lv_aload_n hx hb dX8_take_0 rfl (lv_at hl 0 rfl) ?_
  refine lv_iload_n hx hb dX8_take_1 rfl (lv_at hl 1 rfl) ?_
  obtain ⟨r2, hc2, hf⟩ := bi_s hf
  rcases r2 with E9 | r2
  · have e9 := so_e hf
    cases e9
  have hf := sel_r hf
  refine cROv (W.runV (As := [.int a1]) (rest := []) ⟨hx, hb, hml, hown, hts⟩ (n_X8_requireKind l dC dI cI cZ cS (fS hs) (fG hs) a M a1  hc2) (cwV 1 hts gX8_take_X8_requireKind rfl rfl rfl (by decide +kernel) ⟨Nat.le_of_ble_eq_true rfl, Nat.le_of_ble_eq_true rfl⟩) ⟨RO8.blind, va_recv hK hP (ci := 8) (q0 := 0) rfl rfl, RO8.pre (P_app hP).1 hK hNW⟩ rfl rfl hl.1 rfl (lv_room (Nat.le_of_ble_eq_true rfl)) dX8_take_2 ⟨Nat.le_of_ble_eq_true rfl, Nat.le_of_ble_eq_true rfl⟩) ?_
  refine lv_aload_n hx hb dX8_take_5 rfl (lv_at hl 0 rfl) ?_
  refine lv_iload_n hx hb dX8_take_6 rfl (lv_at hl 2 rfl) ?_
  obtain ⟨r7, hc7, hf⟩ := bi_s hf
  rcases r7 with E9 | r7
  · have e9 := so_e hf
    cases e9
  have hf := sel_r hf
  refine cROv (W.runV (As := [.int a2]) (rest := []) ⟨hx, hb, hml, hown, hts⟩ (n_X8_requireMany l dC dI cI cZ cS (fS hs) (fG hs) a M a2  hc7) (cwV 1 hts gX8_take_X8_requireMany rfl rfl rfl (by decide +kernel) ⟨Nat.le_of_ble_eq_true rfl, Nat.le_of_ble_eq_true rfl⟩) ⟨RO8.blind, va_recv hK hP (ci := 8) (q0 := 0) rfl rfl, RO8.pre (P_app hP).1 hK hNW⟩ rfl rfl hl.1 rfl (lv_room (Nat.le_of_ble_eq_true rfl)) dX8_take_7 ⟨Nat.le_of_ble_eq_true rfl, Nat.le_of_ble_eq_true rfl⟩) ?_
  refine lv_aload_n hx hb dX8_take_10 rfl (lv_at hl 0 rfl) ?_
  obtain ⟨r11, hc11, hf⟩ := bi_s hf
  rcases r11 with E9 | r11
  · have e9 := so_e hf
    cases e9
  have hf := sel_r hf
  refine cROv (W.runV (As := []) (rest := []) ⟨hx, hb, hml, hown, hts⟩ (n_X8_requireShelfAtWindow l dC dI cI cZ cS (fS hs) (fG hs) a M  hc11) (cwV 0 hts gX8_take_X8_requireShelfAtWindow rfl rfl rfl (by decide +kernel) ⟨Nat.le_of_ble_eq_true rfl, Nat.le_of_ble_eq_true rfl⟩) ⟨RO8.blind, va_recv hK hP (ci := 8) (q0 := 0) rfl rfl, RO8.pre (P_app hP).1 hK hNW⟩ rfl rfl hl.1 rfl (lv_room (Nat.le_of_ble_eq_true rfl)) dX8_take_11 ⟨Nat.le_of_ble_eq_true rfl, Nat.le_of_ble_eq_true rfl⟩) ?_
  refine lv_aload_n hx hb dX8_take_14 rfl (lv_at hl 0 rfl) ?_
  refine va_get (D := (dC, dI)) (ci := 8) (v := .ref (a 1)) (C := RX8) (T := TX8) (N := 6) hx hb hts hinX8 hown hK hP 0 rfl rfl 0 (by decide) hw1 (fun _ h9 => h9) rfl dX8_take_15 ?_
  refine va_getN (D := (dC, dI)) (ci := 6) (v := .ref (a 2)) (C := RX6) (T := TX6) (N := 5) hx hb hts hinX6 hown hK hP 1 rfl rfl 0 (by decide) (nw23 hNW) (fun _ h9 => h9) rfl dX8_take_18 ?_
  refine va_getN (D := (dC, dI)) (ci := 7) (v := .int (M 2 1)) (C := RX7) (T := TX7) (N := 6) hx hb hts hinX7 hown hK hP 2 rfl rfl 1 (by decide) (nw25 hNW) (fun _ h9 => h9) rfl dX8_take_21 ?_
  refine lv_istore_n (lv' := [(3, .int (M 2 1)), (0, .ref (a 0)), (1, .int a1), (2, .int a2)]) hx hb dX8_take_24 rfl hl (by decide) rfl (fun ls hl => ?_)
  refine lv_aload_n hx hb dX8_take_25 rfl (lv_at hl 1 rfl) ?_
  refine va_get (D := (dC, dI)) (ci := 8) (v := .ref (a 1)) (C := RX8) (T := TX8) (N := 6) hx hb hts hinX8 hown hK hP 0 rfl rfl 0 (by decide) hw1 (fun _ h9 => h9) rfl dX8_take_26 ?_
  refine va_getN (D := (dC, dI)) (ci := 6) (v := .ref (a 2)) (C := RX6) (T := TX6) (N := 5) hx hb hts hinX6 hown hK hP 1 rfl rfl 0 (by decide) (nw23 hNW) (fun _ h9 => h9) rfl dX8_take_29 ?_
  refine lv_iload_n hx hb dX8_take_32 rfl (lv_at hl 0 rfl) ?_
  refine lv_iload_n hx hb dX8_take_33 rfl (lv_at hl 2 rfl) ?_
  obtain ⟨r34, hc34, hf⟩ := bi_s hf
  have hPc := P_head (ws := (wX8 cI cZ cS (fS hs) (fG hs) a M)) (ws' := (wX7 cI cZ (ofs 2 a) (ofs 2 M))) hP [2, 3, 4, 5, 6] rfl
  refine cRO (va_Run.run (va_runVN (As := [.int (M 2 1), .int a1]) (rest := []) ⟨hx, hb, hml, hown, hts⟩ (c_X7_countIn l dC dI cI cZ (ofs 2 a) (ofs 2 M) (M 2 1) a1 r34 hc34) ⟨va_cnB 2 hts gX8_take_X7_countIn_n162 rfl rfl rfl (nw44 hNW) hw4 (by decide +kernel) ⟨Nat.le_of_ble_eq_true rfl, Nat.le_of_ble_eq_true rfl⟩, hw5, hw6⟩ ⟨RO.blind, va_recv hK hP (ci := 7) (q0 := 2) rfl rfl, RO.pre hPc hK2 hNW⟩ rfl rfl hl.1 rfl (lv_room (Nat.le_of_ble_eq_true rfl)) dX8_take_34 ⟨Nat.le_of_ble_eq_true rfl, Nat.le_of_ble_eq_true rfl⟩)) ?_
  refine lv_iload_n hx hb dX8_take_37 rfl (lv_at hl 3 rfl) ?_
  refine lv_icmp_ge (tgt := 51) hx hb dX8_take_38 (by decide) (fun c9 => ?_) (fun c9 => ?_)
  · have hf := it_t hf c9
    refine lv_aload_n hx hb dX8_take_51 rfl (lv_at hl 1 rfl) ?_
    refine va_get (D := (dC, dI)) (ci := 8) (v := .ref (a 33)) (C := RX8) (T := TX8) (N := 6) hx hb hts hinX8 hown hK hP 0 rfl rfl 2 (by decide) hw7 (fun _ h9 => h9) rfl dX8_take_52 ?_
    refine lv_aload_n hx hb dX8_take_55 rfl (lv_at hl 1 rfl) ?_
    refine va_get (D := (dC, dI)) (ci := 8) (v := .ref (a 1)) (C := RX8) (T := TX8) (N := 6) hx hb hts hinX8 hown hK hP 0 rfl rfl 0 (by decide) hw1 (fun _ h9 => h9) rfl dX8_take_56 ?_
    have hf := inrs_s hf
    obtain ⟨q59, hc59, hf⟩ := bi_s hf
    have hPc := hP.part (X := (wX8 cI cZ cS (fS hs) (fG hs) a M)) (cx := (wX1s cI cZ cS (fS hs) (fG hs) (pk [33, 34, 35, 1, 2, 3, 4, 5, 6, 7, 8, 9, 10, 11, 12, 13, 14, 15, 16] a) (pk [33, 34, 35, 1, 2, 3, 4, 5, 6, 7, 8, 9, 10, 11, 12, 13, 14, 15, 16] M))) [33, 34, 35, 1, 2, 3, 4, 5, 6, 7, 8, 9, 10, 11, 12, 13, 14, 15, 16] rfl
    have hDc := hD.part (X := (wX8 cI cZ cS (fS hs) (fG hs) a M)) (cx := (wX1s cI cZ cS (fS hs) (fG hs) (pk [33, 34, 35, 1, 2, 3, 4, 5, 6, 7, 8, 9, 10, 11, 12, 13, 14, 15, 16] a) (pk [33, 34, 35, 1, 2, 3, 4, 5, 6, 7, 8, 9, 10, 11, 12, 13, 14, 15, 16] M))) [33, 34, 35, 1, 2, 3, 4, 5, 6, 7, 8, 9, 10, 11, 12, 13, 14, 15, 16] (by decide) rfl
    have hFc := va_freeP (X := (wX8 cI cZ cS (fS hs) (fG hs) a M)) (cx := (wX1s cI cZ cS (fS hs) (fG hs) (pk [33, 34, 35, 1, 2, 3, 4, 5, 6, 7, 8, 9, 10, 11, 12, 13, 14, 15, 16] a) (pk [33, 34, 35, 1, 2, 3, 4, 5, 6, 7, 8, 9, 10, 11, 12, 13, 14, 15, 16] M))) hD hS hA [33, 34, 35, 1, 2, 3, 4, 5, 6, 7, 8, 9, 10, 11, 12, 13, 14, 15, 16] rfl
    refine va_callv (va_runVN (As := [.ref (a 1)]) (rest := []) ⟨hx, hb, hml, hown, hts⟩ (c_X1_save l dC dI cI cZ cS hs (pk [33, 34, 35, 1, 2, 3, 4, 5, 6, 7, 8, 9, 10, 11, 12, 13, 14, 15, 16] a) H.size (pk [33, 34, 35, 1, 2, 3, 4, 5, 6, 7, 8, 9, 10, 11, 12, 13, 14, 15, 16] M) q59 hc59) ⟨va_cnB 1 hts gX8_take_X1_save_n70 rfl rfl rfl (nw67 hNW) hw8 (by decide +kernel) ⟨Nat.le_of_ble_eq_true rfl, Nat.le_of_ble_eq_true rfl⟩, hw9, hw10⟩ ⟨WR8.blind, va_recv hK hP (ci := 1) (q0 := 33) rfl rfl, WR8.pre hPc hK hDc hNW⟩ rfl rfl hl.1 rfl (lv_room (Nat.le_of_ble_eq_true rfl)) dX8_take_59 ⟨Nat.le_of_ble_eq_true rfl, Nat.le_of_ble_eq_true rfl⟩) hS (fun q _ h => hFc q h) hFc (fun hs1 t H1 locs ht hvm hw hB hz1 hk1 hS => ?_)
    obtain ⟨hh1, hh6, hh7⟩ := hw
    obtain ⟨hP1, hD1⟩ := hB
    rw [ht] at hP1
    rw [fX1_save_rows hc59] at hP1 hD1
    obtain ⟨hP, hD⟩ := va_joinP (X := (wX8 cI cZ cS (fS hs) (fG hs) a M)) (cx := (wX1s cI cZ cS (fS hs) (fG hs) (pk [33, 34, 35, 1, 2, 3, 4, 5, 6, 7, 8, 9, 10, 11, 12, 13, 14, 15, 16] a) (pk [33, 34, 35, 1, 2, 3, 4, 5, 6, 7, 8, 9, 10, 11, 12, 13, 14, 15, 16] M))) (wr := [(a 0, .inr (8, [.ref (a 1), .ref (a 17), .ref (a 33), .ref (a 36), .ref (a 40), .ref (a 41)])), (a 17, .inr (6, [.ref (a 18), .ref (a 23), .ref (a 26), .ref (a 31), .int (M 17 4)])), (a 18, .inr (7, [.int (M 18 0), .int (M 18 1), .ref (a 19), .ref (a 20), .ref (a 21), .ref (a 22)])), (a 19, .inl (cI, 12, .inl (M 19))), (a 20, .inl (cI, 12, .inl (M 20))), (a 21, .inl (cI, 12, .inl (M 21))), (a 22, .inl (cI, 120, .inl (M 22))), (a 23, .inr (2, [.int (M 23 0), .int (M 23 1), .int (M 23 2), .int (M 23 3), .int (M 23 4), .ref (a 24), .ref (a 25)])), (a 24, .inl (cI, 8, .inl (M 24))), (a 25, .inl (cZ, 8, .inl (M 25))), (a 26, .inr (0, [.ref (a 27), .ref (a 28), .ref (a 29), .ref (a 30)])), (a 27, .inl (cI, 10, .inl (M 27))), (a 28, .inl (cI, 10, .inl (M 28))), (a 29, .inl (cI, 10, .inl (M 29))), (a 30, .inl (cI, 10, .inl (M 30))), (a 31, .inr (3, [.int (M 31 0), .ref (a 32)])), (a 32, .inl (cI, 80, .inl (M 32))), (a 36, .inr (5, [.int (M 36 0), .ref (a 37), .ref (a 38)])), (a 37, .inl (cI, 60, .inl (M 37))), (a 38, .inr (4, [.int (M 38 0), .int (M 38 1), .ref (a 39)])), (a 39, .inl (cI, 10, .inl (M 39))), (a 40, .inl (cI, 12, .inl (M 40))), (a 41, .inl (cI, 10, .inl (M 41)))]) (rx := (wX1s cI cZ cS (fS hs1) (fG hs1) (pk [33, 34, 35, 1, 2, 3, 4, 5, 6, 7, 8, 9, 10, 11, 12, 13, 14, 15, 16] a) (sr (pk [33, 34, 35, 1, 2, 3, 4, 5, 6, 7, 8, 9, 10, 11, 12, 13, 14, 15, 16] M) 0 (q59.1 0)))) hP hD [33, 34, 35, 1, 2, 3, 4, 5, 6, 7, 8, 9, 10, 11, 12, 13, 14, 15, 16] [0, 17, 18, 19, 20, 21, 22, 23, 24, 25, 26, 27, 28, 29, 30, 31, 32, 36, 37, 38, 39, 40, 41] rfl rfl (by decide) (by decide) hk1 hFc hP1 hD1
    have hP := P_perm (ws' := (wX8 cI cZ cS (fS hs1) (fG hs1) a (sr M 33 (q59.1 0)))) hP [0, 26, 27, 28, 29, 30, 31, 32, 33, 34, 35, 36, 37, 38, 39, 40, 41, 1, 2, 3, 4, 5, 6, 7, 8, 9, 10, 11, 12, 13, 14, 15, 16, 23, 24, 25, 17, 18, 19, 20, 21, 22] rfl
    have hD := D_perm (ws' := (wX8 cI cZ cS (fS hs1) (fG hs1) a (sr M 33 (q59.1 0)))) hD [0, 26, 27, 28, 29, 30, 31, 32, 33, 34, 35, 36, 37, 38, 39, 40, 41, 1, 2, 3, 4, 5, 6, 7, 8, 9, 10, 11, 12, 13, 14, 15, 16, 23, 24, 25, 17, 18, 19, 20, 21, 22] (by decide) rfl
    generalize H1 = H at hP hS ⊢
    refine lv_aload_n hx hb dX8_take_62 rfl (lv_at hl 1 rfl) ?_
    refine va_get (D := (dC, dI)) (ci := 8) (v := .ref (a 1)) (C := RX8) (T := TX8) (N := 6) hx hb hts hinX8 hown hK hP 0 rfl rfl 0 (by decide) hw1 (fun _ h9 => h9) rfl dX8_take_63 ?_
    refine va_getN (D := (dC, dI)) (ci := 6) (v := .ref (a 10)) (C := RX6) (T := TX6) (N := 5) hx hb hts hinX6 hown hK hP 1 rfl rfl 2 (by decide) (nw0 hNW) (fun _ h9 => h9) rfl dX8_take_66 ?_
    refine va_getN (D := (dC, dI)) (ci := 0) (v := .ref (a 14)) (C := RX0) (T := TX0) (N := 4) hx hb hts hinX0 hown hK hP 10 rfl rfl 3 (by decide) (nw3 hNW) (fun _ h9 => h9) rfl dX8_take_69 ?_
    refine lv_iload_n hx hb dX8_take_72 rfl (lv_at hl 2 rfl) ?_
    refine lv_dup2_11 hx hb dX8_take_73 rfl rfl ?_
    obtain ⟨hi, hf⟩ := gd_s hf
    refine va_iald (D := (dC, dI)) (f := (M 14)) hx hb hK hP 14 0 rfl rfl (inb_in hi) dX8_take_74 ?_
    refine lv_iload_n hx hb dX8_take_75 rfl (lv_at hl 3 rfl) ?_
    refine lv_iadd hx hb dX8_take_76 ?_
    obtain ⟨hi, hf⟩ := gd_s hf
    refine va_iast (D := (dC, dI)) (f := (M 14)) hx hb hK hP hD hS 14 0 rfl rfl (inb_in hi) dX8_take_77 (fun H locs hP hD hS => ?_)
    have hP : va_P (dC, dI) vwCl (wX8 cI cZ cS (fS hs1) (fG hs1) a (sr (sr M 14 (upd (M 14) a1.toNatClampNeg ((M 14 a1.toNatClampNeg) + a2))) 33 (q59.1 0)) ++ RW cI cZ hs1) H := hP
    have hD : va_D A (wX8 cI cZ cS (fS hs1) (fG hs1) a (sr (sr M 14 (upd (M 14) a1.toNatClampNeg ((M 14 a1.toNatClampNeg) + a2))) 33 (q59.1 0)) ++ RW cI cZ hs1) := hD
    refine lv_aload_n hx hb dX8_take_78 rfl (lv_at hl 1 rfl) ?_
    refine va_get (D := (dC, dI)) (ci := 8) (v := .ref (a 1)) (C := RX8) (T := TX8) (N := 6) hx hb hts hinX8 hown hK hP 0 rfl rfl 0 (by decide) hw1 (fun _ h9 => h9) rfl dX8_take_79 ?_
    refine va_getN (D := (dC, dI)) (ci := 6) (v := .ref (a 2)) (C := RX6) (T := TX6) (N := 5) hx hb hts hinX6 hown hK hP 1 rfl rfl 0 (by decide) (nw23 hNW) (fun _ h9 => h9) rfl dX8_take_82 ?_
    refine lv_iload_n hx hb dX8_take_85 rfl (lv_at hl 0 rfl) ?_
    refine lv_iload_n hx hb dX8_take_86 rfl (lv_at hl 2 rfl) ?_
    refine lv_iload_n hx hb dX8_take_87 rfl (lv_at hl 3 rfl) ?_
    refine lv_ineg hx hb dX8_take_88 ?_
    obtain ⟨r89, hc89, hf⟩ := bi_s hf
    have hPc := P_head (ws := (wX8 cI cZ cS (fS hs1) (fG hs1) a (sr (sr M 14 (upd (M 14) a1.toNatClampNeg ((M 14 a1.toNatClampNeg) + a2))) 33 (q59.1 0)))) (ws' := (wX7 cI cZ (ofs 2 a) (ofs 2 (sr (sr M 14 (upd (M 14) a1.toNatClampNeg ((M 14 a1.toNatClampNeg) + a2))) 33 (q59.1 0))))) hP [2, 3, 4, 5, 6] rfl
    have hDc := D_head (ws := (wX8 cI cZ cS (fS hs1) (fG hs1) a (sr (sr M 14 (upd (M 14) a1.toNatClampNeg ((M 14 a1.toNatClampNeg) + a2))) 33 (q59.1 0)))) (ws' := (wX7 cI cZ (ofs 2 a) (ofs 2 (sr (sr M 14 (upd (M 14) a1.toNatClampNeg ((M 14 a1.toNatClampNeg) + a2))) 33 (q59.1 0))))) hD [2, 3, 4, 5, 6] (by decide) rfl
    have hFc := va_free (wc := (wX7 cI cZ (ofs 2 a) (ofs 2 (sr (sr M 14 (upd (M 14) a1.toNatClampNeg ((M 14 a1.toNatClampNeg) + a2))) 33 (q59.1 0))))) hD hS hA [2, 3, 4, 5, 6] rfl
    refine va_calli (va_runVN (As := [.int (M 2 1), .int a1, .int (-a2)]) (rest := []) ⟨hx, hb, hml, hown, hts⟩ (c_X7_change l dC dI cI cZ (ofs 2 a) H.size (ofs 2 (sr (sr M 14 (upd (M 14) a1.toNatClampNeg ((M 14 a1.toNatClampNeg) + a2))) 33 (q59.1 0))) (M 2 1) a1 (-a2) r89 hc89) ⟨va_cnB 3 hts gX8_take_X7_change_n158 rfl rfl rfl (nw43 hNW) hw4 (by decide +kernel) ⟨Nat.le_of_ble_eq_true rfl, Nat.le_of_ble_eq_true rfl⟩, hw12, hw13⟩ ⟨WR.blind, va_recv hK hP (ci := 7) (q0 := 2) rfl rfl, WR.pre hPc hK2 hDc hNW⟩ rfl rfl hl.1 rfl (lv_room (Nat.le_of_ble_eq_true rfl)) dX8_take_89 ⟨Nat.le_of_ble_eq_true rfl, Nat.le_of_ble_eq_true rfl⟩) hS (fun q _ h => hFc q h) hFc (fun rv u t H1 locs ht hvm hw hB hz1 hk1 hS => ?_)
    obtain ⟨hP1, hD1⟩ := hB
    rw [ht] at hP1
    subst hw
    obtain ⟨hP, hD⟩ := join_app (ws := (wX8 cI cZ cS (fS hs1) (fG hs1) a (sr (sr M 14 (upd (M 14) a1.toNatClampNeg ((M 14 a1.toNatClampNeg) + a2))) 33 (q59.1 0)))) (wr := [(a 0, .inr (8, [.ref (a 1), .ref (a 17), .ref (a 33), .ref (a 36), .ref (a 40), .ref (a 41)])), (a 1, .inr (6, [.ref (a 2), .ref (a 7), .ref (a 10), .ref (a 15), .int (M 1 4)])), (a 7, .inr (2, [.int (M 7 0), .int (M 7 1), .int (M 7 2), .int (M 7 3), .int (M 7 4), .ref (a 8), .ref (a 9)])), (a 8, .inl (cI, 8, .inl (M 8))), (a 9, .inl (cZ, 8, .inl (M 9))), (a 10, .inr (0, [.ref (a 11), .ref (a 12), .ref (a 13), .ref (a 14)])), (a 11, .inl (cI, 10, .inl (M 11))), (a 12, .inl (cI, 10, .inl (M 12))), (a 13, .inl (cI, 10, .inl (M 13))), (a 14, .inl (cI, 10, .inl (upd (M 14) a1.toNatClampNeg ((M 14 a1.toNatClampNeg) + a2)))), (a 15, .inr (3, [.int (M 15 0), .ref (a 16)])), (a 16, .inl (cI, 80, .inl (M 16))), (a 17, .inr (6, [.ref (a 18), .ref (a 23), .ref (a 26), .ref (a 31), .int (M 17 4)])), (a 18, .inr (7, [.int (M 18 0), .int (M 18 1), .ref (a 19), .ref (a 20), .ref (a 21), .ref (a 22)])), (a 19, .inl (cI, 12, .inl (M 19))), (a 20, .inl (cI, 12, .inl (M 20))), (a 21, .inl (cI, 12, .inl (M 21))), (a 22, .inl (cI, 120, .inl (M 22))), (a 23, .inr (2, [.int (M 23 0), .int (M 23 1), .int (M 23 2), .int (M 23 3), .int (M 23 4), .ref (a 24), .ref (a 25)])), (a 24, .inl (cI, 8, .inl (M 24))), (a 25, .inl (cZ, 8, .inl (M 25))), (a 26, .inr (0, [.ref (a 27), .ref (a 28), .ref (a 29), .ref (a 30)])), (a 27, .inl (cI, 10, .inl (M 27))), (a 28, .inl (cI, 10, .inl (M 28))), (a 29, .inl (cI, 10, .inl (M 29))), (a 30, .inl (cI, 10, .inl (M 30))), (a 31, .inr (3, [.int (M 31 0), .ref (a 32)])), (a 32, .inl (cI, 80, .inl (M 32))), (a 33, .inr (1, [.int ((q59.1 0) 0), .ref (a 34), .ref (a 35)])), (a 34, .inl (cS, 6, .inr (.inr (.inr (.inr (fS hs1)))))), (a 35, .inl (cS, 2, .inr (.inr (.inr (.inr (fG hs1)))))), (a 36, .inr (5, [.int (M 36 0), .ref (a 37), .ref (a 38)])), (a 37, .inl (cI, 60, .inl (M 37))), (a 38, .inr (4, [.int (M 38 0), .int (M 38 1), .ref (a 39)])), (a 39, .inl (cI, 10, .inl (M 39))), (a 40, .inl (cI, 12, .inl (M 40))), (a 41, .inl (cI, 10, .inl (M 41)))]) (w1 := (wX7 cI cZ (ofs 2 a) (sr (ofs 2 (sr (sr M 14 (upd (M 14) a1.toNatClampNeg ((M 14 a1.toNatClampNeg) + a2))) 33 (q59.1 0))) 4 (r89.2 4)))) hP hD [2, 3, 4, 5, 6] [0, 1, 7, 8, 9, 10, 11, 12, 13, 14, 15, 16, 17, 18, 19, 20, 21, 22, 23, 24, 25, 26, 27, 28, 29, 30, 31, 32, 33, 34, 35, 36, 37, 38, 39, 40, 41] rfl rfl (by decide) (by decide) hk1 hFc hP1 hD1
    have hP := P_perm (ws' := (wX8 cI cZ cS (fS hs1) (fG hs1) a (sr (sr (sr M 6 (r89.2 4)) 14 (upd (M 14) a1.toNatClampNeg ((M 14 a1.toNatClampNeg) + a2))) 33 (q59.1 0)))) hP [0, 1, 37, 38, 39, 40, 41, 2, 3, 4, 5, 6, 7, 8, 9, 10, 11, 12, 13, 14, 15, 16, 17, 18, 19, 20, 21, 22, 23, 24, 25, 26, 27, 28, 29, 30, 31, 32, 33, 34, 35, 36] rfl
    have hD := D_perm (ws' := (wX8 cI cZ cS (fS hs1) (fG hs1) a (sr (sr (sr M 6 (r89.2 4)) 14 (upd (M 14) a1.toNatClampNeg ((M 14 a1.toNatClampNeg) + a2))) 33 (q59.1 0)))) hD [0, 1, 37, 38, 39, 40, 41, 2, 3, 4, 5, 6, 7, 8, 9, 10, 11, 12, 13, 14, 15, 16, 17, 18, 19, 20, 21, 22, 23, 24, 25, 26, 27, 28, 29, 30, 31, 32, 33, 34, 35, 36] (by decide) rfl
    generalize H1 = H at hP hS ⊢
    have e9 := so_e hf
    cases e9
    exact W.iret hx hb hr (fun t ht hW => ⟨⟨_, hs1, rfl, ⟨rfl, hh1⟩, WE.mk hP hD ht⟩, hS.F ht⟩) hS.2.2 dX8_take_92
  · have hf := it_f hf c9
    have e9 := so_e hf
    cases e9
set_option maxHeartbeats 4000000 in
set_option maxRecDepth 100000 in
theorem n_X8_accept (l : Launch) (dC : Nat → ClassId) (dI : Nat → Nat → Nat) (cI cZ cS : ClassId) (hs : HS) (a : Nat → Nat) (sz : Nat) (M : Mem) (z1 : Int32) (z2 : Mem) (z3 : Nat → Option Mem) (hf : fX8_accept (cts hs) M  = some (Sum.inr z1, z2, z3)) : Met l yX8_accept wsX8_accept ({ frames := 4, cells := 16, slots := 316, locals := 124 } : Room) (va_Pc [.ref (a 0)] (WR8 (dC, dI) cI cZ cS (wX8 cI cZ cS (fS hs) (fG hs) a M ++ RW cI cZ hs) sz)) (va_Qi (S := HS) (fun r hs' => r = z1 ∧ cts hs' = z3) (fun hs' t => WE (dC, dI) cI cZ (wX8 cI cZ cS (fS hs') (fG hs') a z2 ++ RW cI cZ hs') (va_A (wX8 cI cZ cS (fS hs) (fG hs) a M ++ RW cI cZ hs) sz) t) (va_A (wX8 cI cZ cS (fS hs) (fG hs) a M ++ RW cI cZ hs) sz)) 16 316 (va_A (wX8 cI cZ cS (fS hs) (fG hs) a M ++ RW cI cZ hs) sz) := by
  refine Met.ofW (cc := cX8_accept) (maxL := 2) (ret := (some .int)) (by decide) rfl ?_
  intro p e s m args below meth c s₁ B hml hv
  obtain ⟨rfl, hsz, hP, hK, hD0, hNW⟩ := hv
  have hx := B.exec
  have hb := B.bytes
  have hr := B.returns
  have hts := atoms_spec (ws := wsX8_accept) B.pre
  have hown : s.vm.findClass RX8 = some m.cls := findClass_of_methodNamed B.named
  have hlocks := B.notSynchronized
  have hK2 : va_K (dC, dI) vwCl [(cI, .int), (cZ, .boolean)] s := hK.sub (tys' := [(cI, .int), (cZ, .boolean)]) [0, 1] rfl
  have hinX8 : ∀ w ∈ u_ws RX8 TX8 6, w ∈ wsX8_accept := by decide +kernel
  have hw1 := hts (.fieldLink RX8 29 "GlideShelves" "buffer" "LGlideShelves$OrderText;") (by decide +kernel)
  have hw2 := hts (.initialized RX5) (by decide +kernel)
  have hw3 := hts (.instanceMethod yX5_isOrder) (by decide +kernel)
  have hw4 := hts (.selects RX5 yX5_isOrder yX5_isOrder) (by decide +kernel)
  have hw5 := hts (.fieldLink RX8 12 "GlideShelves" "now" "LGlideShelves$State;") (by decide +kernel)
  have hinX6 : ∀ w ∈ u_ws RX6 TX6 5, w ∈ wsX8_accept := by decide +kernel
  have hinX3 : ∀ w ∈ u_ws RX3 TX3 2, w ∈ wsX8_accept := by decide +kernel
  have hw8 := hts (.fieldLink RX8 22 "GlideShelves" "history" "LGlideShelves$History;") (by decide +kernel)
  have hw9 := hts (.initialized RX1) (by decide +kernel)
  have hw10 := hts (.instanceMethod yX1_save) (by decide +kernel)
  have hw11 := hts (.selects RX1 yX1_save yX1_save) (by decide +kernel)
  have hinX5 : ∀ w ∈ u_ws RX5 TX5 3, w ∈ wsX8_accept := by decide +kernel
  have hinX4 : ∀ w ∈ u_ws RX4 TX4 3, w ∈ wsX8_accept := by decide +kernel
  have hw14 := hts (.initialized RX3) (by decide +kernel)
  have hw15 := hts (.instanceMethod yX3_add) (by decide +kernel)
  have hw16 := hts (.selects RX3 yX3_add yX3_add) (by decide +kernel)
  subst hsz
  have hD := hD0.self (sz := s.heap.size)
  generalize hAe : va_A (wX8 cI cZ cS (fS hs) (fG hs) a M ++ RW cI cZ hs) s.heap.size = A at hD ⊢
  have hA : ∀ q : Nat, s.heap.size ≤ q → A q := fun q h => by rw [← hAe]; exact Or.inr h
  have hS : va_S A s.heap s.heap [] := va_S.rf
  have hl := lv_entry ([.ref (a 0)]) (n := 2) (Nat.le_of_ble_eq_true rfl)
  rw [lg_entry_eq]
  generalize (lg_sl ([.ref (a 0)]) ++ List.replicate (2 - (lg_sl ([.ref (a 0)])).length) Slot.unset).toArray = ls at hl ⊢
  have hl : lv_has ls 2 [(0, .ref (a 0))] := hl
  unfold fX8_accept at hf
  suffices hgo : ∀ (H : Heap) (locs : List Loc), va_P (dC, dI) vwCl (wX8 cI cZ cS (fS hs) (fG hs) a M ++ RW cI cZ hs) H → va_D A (wX8 cI cZ cS (fS hs) (fG hs) a M ++ RW cI cZ hs) → va_S A s.heap H locs → W p l e (headSpec wsX8_accept ({ frames := 4, cells := 16, slots := 316, locals := 124 } : Room)).room s m ([.ref (a 0)] : List Value).toArray below meth c H locs 0 0 (MQ below (va_Qi (S := HS) (fun r hs' => r = z1 ∧ cts hs' = z3) (fun hs' t => WE (dC, dI) cI cZ (wX8 cI cZ cS (fS hs') (fG hs') a z2 ++ RW cI cZ hs') A t) A) ([.ref (a 0)] : List Value).toArray s 16 316 A) (F0 m 0 ls []) from hgo _ _ hP hD hS
  intro H locs hP hD hS
  refine lv_aload_n hx hb dX8_accept_0 rfl (lv_at hl 0 rfl) ?_
  refine va_get (D := (dC, dI)) (ci := 8) (v := .ref (a 36)) (C := RX8) (T := TX8) (N := 6) hx hb hts hinX8 hown hK hP 0 rfl rfl 3 (by decide) hw1 (fun _ h9 => h9) rfl dX8_accept_1 ?_
  obtain ⟨r4, hc4, hf⟩ := bi_s hf
  have hPc := P_head (ws := (wX8 cI cZ cS (fS hs) (fG hs) a M)) (ws' := (wX5 cI cZ (ofs 36 a) (ofs 36 M))) hP [36, 37, 38, 39] rfl
  have hDc := D_head (ws := (wX8 cI cZ cS (fS hs) (fG hs) a M)) (ws' := (wX5 cI cZ (ofs 36 a) (ofs 36 M))) hD [36, 37, 38, 39] (by decide) rfl
  have hFc := va_free (wc := (wX5 cI cZ (ofs 36 a) (ofs 36 M))) hD hS hA [36, 37, 38, 39] rfl
  refine va_calli (va_runVN (As := []) (rest := []) ⟨hx, hb, hml, hown, hts⟩ (c_X5_isOrder l dC dI cI cZ (ofs 36 a) H.size (ofs 36 M) r4 hc4) ⟨va_cnB 0 hts gX8_accept_X5_isOrder_n170 rfl rfl rfl (nw45 hNW) hw2 (by decide +kernel) ⟨Nat.le_of_ble_eq_true rfl, Nat.le_of_ble_eq_true rfl⟩, hw3, hw4⟩ ⟨WR.blind, va_recv hK hP (ci := 5) (q0 := 36) rfl rfl, WR.pre hPc hK2 hDc hNW⟩ rfl rfl hl.1 rfl (lv_room (Nat.le_of_ble_eq_true rfl)) dX8_accept_4 ⟨Nat.le_of_ble_eq_true rfl, Nat.le_of_ble_eq_true rfl⟩) hS (fun q _ h => hFc q h) hFc (fun rv u t H1 locs ht hvm hw hB hz1 hk1 hS => ?_)
  obtain ⟨hP1, hD1⟩ := hB
  rw [ht] at hP1
  subst hw
  obtain ⟨hP, hD⟩ := join_app (ws := (wX8 cI cZ cS (fS hs) (fG hs) a M)) (wr := [(a 0, .inr (8, [.ref (a 1), .ref (a 17), .ref (a 33), .ref (a 36), .ref (a 40), .ref (a 41)])), (a 1, .inr (6, [.ref (a 2), .ref (a 7), .ref (a 10), .ref (a 15), .int (M 1 4)])), (a 2, .inr (7, [.int (M 2 0), .int (M 2 1), .ref (a 3), .ref (a 4), .ref (a 5), .ref (a 6)])), (a 3, .inl (cI, 12, .inl (M 3))), (a 4, .inl (cI, 12, .inl (M 4))), (a 5, .inl (cI, 12, .inl (M 5))), (a 6, .inl (cI, 120, .inl (M 6))), (a 7, .inr (2, [.int (M 7 0), .int (M 7 1), .int (M 7 2), .int (M 7 3), .int (M 7 4), .ref (a 8), .ref (a 9)])), (a 8, .inl (cI, 8, .inl (M 8))), (a 9, .inl (cZ, 8, .inl (M 9))), (a 10, .inr (0, [.ref (a 11), .ref (a 12), .ref (a 13), .ref (a 14)])), (a 11, .inl (cI, 10, .inl (M 11))), (a 12, .inl (cI, 10, .inl (M 12))), (a 13, .inl (cI, 10, .inl (M 13))), (a 14, .inl (cI, 10, .inl (M 14))), (a 15, .inr (3, [.int (M 15 0), .ref (a 16)])), (a 16, .inl (cI, 80, .inl (M 16))), (a 17, .inr (6, [.ref (a 18), .ref (a 23), .ref (a 26), .ref (a 31), .int (M 17 4)])), (a 18, .inr (7, [.int (M 18 0), .int (M 18 1), .ref (a 19), .ref (a 20), .ref (a 21), .ref (a 22)])), (a 19, .inl (cI, 12, .inl (M 19))), (a 20, .inl (cI, 12, .inl (M 20))), (a 21, .inl (cI, 12, .inl (M 21))), (a 22, .inl (cI, 120, .inl (M 22))), (a 23, .inr (2, [.int (M 23 0), .int (M 23 1), .int (M 23 2), .int (M 23 3), .int (M 23 4), .ref (a 24), .ref (a 25)])), (a 24, .inl (cI, 8, .inl (M 24))), (a 25, .inl (cZ, 8, .inl (M 25))), (a 26, .inr (0, [.ref (a 27), .ref (a 28), .ref (a 29), .ref (a 30)])), (a 27, .inl (cI, 10, .inl (M 27))), (a 28, .inl (cI, 10, .inl (M 28))), (a 29, .inl (cI, 10, .inl (M 29))), (a 30, .inl (cI, 10, .inl (M 30))), (a 31, .inr (3, [.int (M 31 0), .ref (a 32)])), (a 32, .inl (cI, 80, .inl (M 32))), (a 33, .inr (1, [.int (M 33 0), .ref (a 34), .ref (a 35)])), (a 34, .inl (cS, 6, .inr (.inr (.inr (.inr (fS hs)))))), (a 35, .inl (cS, 2, .inr (.inr (.inr (.inr (fG hs)))))), (a 40, .inl (cI, 12, .inl (M 40))), (a 41, .inl (cI, 10, .inl (M 41)))]) (w1 := (wX5 cI cZ (ofs 36 a) (sr (sr (ofs 36 M) 2 (r4.2 2)) 3 (r4.2 3)))) hP hD [36, 37, 38, 39] [0, 1, 2, 3, 4, 5, 6, 7, 8, 9, 10, 11, 12, 13, 14, 15, 16, 17, 18, 19, 20, 21, 22, 23, 24, 25, 26, 27, 28, 29, 30, 31, 32, 33, 34, 35, 40, 41] rfl rfl (by decide) (by decide) hk1 hFc hP1 hD1
  have hP := P_perm (ws' := (wX8 cI cZ cS (fS hs) (fG hs) a (sr (sr M 38 (r4.2 2)) 39 (r4.2 3)))) hP [0, 1, 2, 3, 4, 5, 6, 7, 8, 9, 10, 11, 12, 13, 14, 15, 16, 17, 18, 19, 20, 21, 22, 23, 24, 25, 26, 27, 28, 29, 30, 31, 32, 33, 34, 35, 38, 39, 40, 41, 36, 37] rfl
  have hD := D_perm (ws' := (wX8 cI cZ cS (fS hs) (fG hs) a (sr (sr M 38 (r4.2 2)) 39 (r4.2 3)))) hD [0, 1, 2, 3, 4, 5, 6, 7, 8, 9, 10, 11, 12, 13, 14, 15, 16, 17, 18, 19, 20, 21, 22, 23, 24, 25, 26, 27, 28, 29, 30, 31, 32, 33, 34, 35, 38, 39, 40, 41, 36, 37] (by decide) rfl
  generalize H1 = H at hP hS ⊢
  refine lv_if_ne (tgt := 20) hx hb dX8_accept_7 (by decide) (fun c9 => ?_) (fun c9 => ?_)
  · have hf := it_t hf c9
    refine lv_aload_n hx hb dX8_accept_20 rfl (lv_at hl 0 rfl) ?_
    refine va_get (D := (dC, dI)) (ci := 8) (v := .ref (a 1)) (C := RX8) (T := TX8) (N := 6) hx hb hts hinX8 hown hK hP 0 rfl rfl 0 (by decide) hw5 (fun _ h9 => h9) rfl dX8_accept_21 ?_
    refine va_getN (D := (dC, dI)) (ci := 6) (v := .ref (a 15)) (C := RX6) (T := TX6) (N := 5) hx hb hts hinX6 hown hK hP 1 rfl rfl 3 (by decide) (nw4 hNW) (fun _ h9 => h9) rfl dX8_accept_24 ?_
    refine va_getN (D := (dC, dI)) (ci := 3) (v := .int (M 15 0)) (C := RX3) (T := TX3) (N := 2) hx hb hts hinX3 hown hK hP 15 rfl rfl 0 (by decide) (nw5 hNW) (fun _ h9 => h9) rfl dX8_accept_27 ?_
    refine lv_bipush (v := (8 : Int32)) hx hb dX8_accept_30 (by decide) ?_
    refine lv_icmp_lt (tgt := 45) hx hb dX8_accept_32 (by decide) (fun c9 => ?_) (fun c9 => ?_)
    · have hf := it_t hf c9
      refine lv_aload_n hx hb dX8_accept_45 rfl (lv_at hl 0 rfl) ?_
      refine va_get (D := (dC, dI)) (ci := 8) (v := .ref (a 33)) (C := RX8) (T := TX8) (N := 6) hx hb hts hinX8 hown hK hP 0 rfl rfl 2 (by decide) hw8 (fun _ h9 => h9) rfl dX8_accept_46 ?_
      refine lv_aload_n hx hb dX8_accept_49 rfl (lv_at hl 0 rfl) ?_
      refine va_get (D := (dC, dI)) (ci := 8) (v := .ref (a 1)) (C := RX8) (T := TX8) (N := 6) hx hb hts hinX8 hown hK hP 0 rfl rfl 0 (by decide) hw5 (fun _ h9 => h9) rfl dX8_accept_50 ?_
      have hf := inrs_s hf
      obtain ⟨q53, hc53, hf⟩ := bi_s hf
      have hPc := hP.part (X := (wX8 cI cZ cS (fS hs) (fG hs) a (sr (sr M 38 (r4.2 2)) 39 (r4.2 3)))) (cx := (wX1s cI cZ cS (fS hs) (fG hs) (pk [33, 34, 35, 1, 2, 3, 4, 5, 6, 7, 8, 9, 10, 11, 12, 13, 14, 15, 16] a) (pk [33, 34, 35, 1, 2, 3, 4, 5, 6, 7, 8, 9, 10, 11, 12, 13, 14, 15, 16] (sr (sr M 38 (r4.2 2)) 39 (r4.2 3))))) [33, 34, 35, 1, 2, 3, 4, 5, 6, 7, 8, 9, 10, 11, 12, 13, 14, 15, 16] rfl
      have hDc := hD.part (X := (wX8 cI cZ cS (fS hs) (fG hs) a (sr (sr M 38 (r4.2 2)) 39 (r4.2 3)))) (cx := (wX1s cI cZ cS (fS hs) (fG hs) (pk [33, 34, 35, 1, 2, 3, 4, 5, 6, 7, 8, 9, 10, 11, 12, 13, 14, 15, 16] a) (pk [33, 34, 35, 1, 2, 3, 4, 5, 6, 7, 8, 9, 10, 11, 12, 13, 14, 15, 16] (sr (sr M 38 (r4.2 2)) 39 (r4.2 3))))) [33, 34, 35, 1, 2, 3, 4, 5, 6, 7, 8, 9, 10, 11, 12, 13, 14, 15, 16] (by decide) rfl
      have hFc := va_freeP (X := (wX8 cI cZ cS (fS hs) (fG hs) a (sr (sr M 38 (r4.2 2)) 39 (r4.2 3)))) (cx := (wX1s cI cZ cS (fS hs) (fG hs) (pk [33, 34, 35, 1, 2, 3, 4, 5, 6, 7, 8, 9, 10, 11, 12, 13, 14, 15, 16] a) (pk [33, 34, 35, 1, 2, 3, 4, 5, 6, 7, 8, 9, 10, 11, 12, 13, 14, 15, 16] (sr (sr M 38 (r4.2 2)) 39 (r4.2 3))))) hD hS hA [33, 34, 35, 1, 2, 3, 4, 5, 6, 7, 8, 9, 10, 11, 12, 13, 14, 15, 16] rfl
      refine va_callv (va_runVN (As := [.ref (a 1)]) (rest := []) ⟨hx, hb, hml, hown, hts⟩ (c_X1_save l dC dI cI cZ cS hs (pk [33, 34, 35, 1, 2, 3, 4, 5, 6, 7, 8, 9, 10, 11, 12, 13, 14, 15, 16] a) H.size (pk [33, 34, 35, 1, 2, 3, 4, 5, 6, 7, 8, 9, 10, 11, 12, 13, 14, 15, 16] (sr (sr M 38 (r4.2 2)) 39 (r4.2 3))) q53 hc53) ⟨va_cnB 1 hts gX8_accept_X1_save_n70 rfl rfl rfl (nw67 hNW) hw9 (by decide +kernel) ⟨Nat.le_of_ble_eq_true rfl, Nat.le_of_ble_eq_true rfl⟩, hw10, hw11⟩ ⟨WR8.blind, va_recv hK hP (ci := 1) (q0 := 33) rfl rfl, WR8.pre hPc hK hDc hNW⟩ rfl rfl hl.1 rfl (lv_room (Nat.le_of_ble_eq_true rfl)) dX8_accept_53 ⟨Nat.le_of_ble_eq_true rfl, Nat.le_of_ble_eq_true rfl⟩) hS (fun q _ h => hFc q h) hFc (fun hs1 t H1 locs ht hvm hw hB hz1 hk1 hS => ?_)
      obtain ⟨hh1, hh6, hh7⟩ := hw
      obtain ⟨hP1, hD1⟩ := hB
      rw [ht] at hP1
      rw [fX1_save_rows hc53] at hP1 hD1
      obtain ⟨hP, hD⟩ := va_joinP (X := (wX8 cI cZ cS (fS hs) (fG hs) a (sr (sr M 38 (r4.2 2)) 39 (r4.2 3)))) (cx := (wX1s cI cZ cS (fS hs) (fG hs) (pk [33, 34, 35, 1, 2, 3, 4, 5, 6, 7, 8, 9, 10, 11, 12, 13, 14, 15, 16] a) (pk [33, 34, 35, 1, 2, 3, 4, 5, 6, 7, 8, 9, 10, 11, 12, 13, 14, 15, 16] (sr (sr M 38 (r4.2 2)) 39 (r4.2 3))))) (wr := [(a 0, .inr (8, [.ref (a 1), .ref (a 17), .ref (a 33), .ref (a 36), .ref (a 40), .ref (a 41)])), (a 17, .inr (6, [.ref (a 18), .ref (a 23), .ref (a 26), .ref (a 31), .int (M 17 4)])), (a 18, .inr (7, [.int (M 18 0), .int (M 18 1), .ref (a 19), .ref (a 20), .ref (a 21), .ref (a 22)])), (a 19, .inl (cI, 12, .inl (M 19))), (a 20, .inl (cI, 12, .inl (M 20))), (a 21, .inl (cI, 12, .inl (M 21))), (a 22, .inl (cI, 120, .inl (M 22))), (a 23, .inr (2, [.int (M 23 0), .int (M 23 1), .int (M 23 2), .int (M 23 3), .int (M 23 4), .ref (a 24), .ref (a 25)])), (a 24, .inl (cI, 8, .inl (M 24))), (a 25, .inl (cZ, 8, .inl (M 25))), (a 26, .inr (0, [.ref (a 27), .ref (a 28), .ref (a 29), .ref (a 30)])), (a 27, .inl (cI, 10, .inl (M 27))), (a 28, .inl (cI, 10, .inl (M 28))), (a 29, .inl (cI, 10, .inl (M 29))), (a 30, .inl (cI, 10, .inl (M 30))), (a 31, .inr (3, [.int (M 31 0), .ref (a 32)])), (a 32, .inl (cI, 80, .inl (M 32))), (a 36, .inr (5, [.int (M 36 0), .ref (a 37), .ref (a 38)])), (a 37, .inl (cI, 60, .inl (M 37))), (a 38, .inr (4, [.int ((r4.2 2) 0), .int ((r4.2 2) 1), .ref (a 39)])), (a 39, .inl (cI, 10, .inl (r4.2 3))), (a 40, .inl (cI, 12, .inl (M 40))), (a 41, .inl (cI, 10, .inl (M 41)))]) (rx := (wX1s cI cZ cS (fS hs1) (fG hs1) (pk [33, 34, 35, 1, 2, 3, 4, 5, 6, 7, 8, 9, 10, 11, 12, 13, 14, 15, 16] a) (sr (pk [33, 34, 35, 1, 2, 3, 4, 5, 6, 7, 8, 9, 10, 11, 12, 13, 14, 15, 16] (sr (sr M 38 (r4.2 2)) 39 (r4.2 3))) 0 (q53.1 0)))) hP hD [33, 34, 35, 1, 2, 3, 4, 5, 6, 7, 8, 9, 10, 11, 12, 13, 14, 15, 16] [0, 17, 18, 19, 20, 21, 22, 23, 24, 25, 26, 27, 28, 29, 30, 31, 32, 36, 37, 38, 39, 40, 41] rfl rfl (by decide) (by decide) hk1 hFc hP1 hD1
      have hP := P_perm (ws' := (wX8 cI cZ cS (fS hs1) (fG hs1) a (sr (sr (sr M 33 (q53.1 0)) 38 (r4.2 2)) 39 (r4.2 3)))) hP [0, 26, 27, 28, 29, 30, 31, 32, 33, 34, 35, 36, 37, 38, 39, 40, 41, 1, 2, 3, 4, 5, 6, 7, 8, 9, 10, 11, 12, 13, 14, 15, 16, 23, 24, 25, 17, 18, 19, 20, 21, 22] rfl
      have hD := D_perm (ws' := (wX8 cI cZ cS (fS hs1) (fG hs1) a (sr (sr (sr M 33 (q53.1 0)) 38 (r4.2 2)) 39 (r4.2 3)))) hD [0, 26, 27, 28, 29, 30, 31, 32, 33, 34, 35, 36, 37, 38, 39, 40, 41, 1, 2, 3, 4, 5, 6, 7, 8, 9, 10, 11, 12, 13, 14, 15, 16, 23, 24, 25, 17, 18, 19, 20, 21, 22] (by decide) rfl
      generalize H1 = H at hP hS ⊢
      refine lv_aload_n hx hb dX8_accept_56 rfl (lv_at hl 0 rfl) ?_
      refine va_get (D := (dC, dI)) (ci := 8) (v := .ref (a 1)) (C := RX8) (T := TX8) (N := 6) hx hb hts hinX8 hown hK hP 0 rfl rfl 0 (by decide) hw5 (fun _ h9 => h9) rfl dX8_accept_57 ?_
      refine va_getN (D := (dC, dI)) (ci := 6) (v := .ref (a 15)) (C := RX6) (T := TX6) (N := 5) hx hb hts hinX6 hown hK hP 1 rfl rfl 3 (by decide) (nw4 hNW) (fun _ h9 => h9) rfl dX8_accept_60 ?_
      refine lv_aload_n hx hb dX8_accept_63 rfl (lv_at hl 0 rfl) ?_
      refine va_get (D := (dC, dI)) (ci := 8) (v := .ref (a 36)) (C := RX8) (T := TX8) (N := 6) hx hb hts hinX8 hown hK hP 0 rfl rfl 3 (by decide) hw1 (fun _ h9 => h9) rfl dX8_accept_64 ?_
      refine va_getN (D := (dC, dI)) (ci := 5) (v := .ref (a 38)) (C := RX5) (T := TX5) (N := 3) hx hb hts hinX5 hown hK hP 36 rfl rfl 2 (by decide) (nw6 hNW) (fun _ h9 => h9) rfl dX8_accept_67 ?_
      refine va_getN (D := (dC, dI)) (ci := 4) (v := .ref (a 39)) (C := RX4) (T := TX4) (N := 3) hx hb hts hinX4 hown hK hP 38 rfl rfl 2 (by decide) (nw7 hNW) (fun _ h9 => h9) rfl dX8_accept_70 ?_
      obtain ⟨r73, hc73, hf⟩ := bi_s hf
      have hPc := P_head (ws := (wX8 cI cZ cS (fS hs1) (fG hs1) a (sr (sr (sr M 33 (q53.1 0)) 38 (r4.2 2)) 39 (r4.2 3)))) (ws' := (wX3_add cI cZ (pk [15, 16, 39] a) (pk [15, 16, 39] (sr (sr (sr M 33 (q53.1 0)) 38 (r4.2 2)) 39 (r4.2 3))))) hP [15, 16, 39] rfl
      have hDc := D_head (ws := (wX8 cI cZ cS (fS hs1) (fG hs1) a (sr (sr (sr M 33 (q53.1 0)) 38 (r4.2 2)) 39 (r4.2 3)))) (ws' := (wX3_add cI cZ (pk [15, 16, 39] a) (pk [15, 16, 39] (sr (sr (sr M 33 (q53.1 0)) 38 (r4.2 2)) 39 (r4.2 3))))) hD [15, 16, 39] (by decide) rfl
      have hFc := va_free (wc := (wX3_add cI cZ (pk [15, 16, 39] a) (pk [15, 16, 39] (sr (sr (sr M 33 (q53.1 0)) 38 (r4.2 2)) 39 (r4.2 3))))) hD hS hA [15, 16, 39] rfl
      refine va_calli (va_runVN (As := [.ref (a 39)]) (rest := []) ⟨hx, hb, hml, hown, hts⟩ (c_X3_add l dC dI cI cZ (pk [15, 16, 39] a) H.size (pk [15, 16, 39] (sr (sr (sr M 33 (q53.1 0)) 38 (r4.2 2)) 39 (r4.2 3))) r73 hc73) ⟨va_cnB 1 hts gX8_accept_X3_add_n197 rfl rfl rfl (nw46 hNW) hw14 (by decide +kernel) ⟨Nat.le_of_ble_eq_true rfl, Nat.le_of_ble_eq_true rfl⟩, hw15, hw16⟩ ⟨WR.blind, va_recv hK hP (ci := 3) (q0 := 15) rfl rfl, WR.pre hPc hK2 hDc hNW⟩ rfl rfl hl.1 rfl (lv_room (Nat.le_of_ble_eq_true rfl)) dX8_accept_73 ⟨Nat.le_of_ble_eq_true rfl, Nat.le_of_ble_eq_true rfl⟩) hS (fun q _ h => hFc q h) hFc (fun rv u t H1 locs ht hvm hw hB hz1 hk1 hS => ?_)
      obtain ⟨hP1, hD1⟩ := hB
      rw [ht] at hP1
      subst hw
      obtain ⟨hP, hD⟩ := join_app (ws := (wX8 cI cZ cS (fS hs1) (fG hs1) a (sr (sr (sr M 33 (q53.1 0)) 38 (r4.2 2)) 39 (r4.2 3)))) (wr := [(a 0, .inr (8, [.ref (a 1), .ref (a 17), .ref (a 33), .ref (a 36), .ref (a 40), .ref (a 41)])), (a 1, .inr (6, [.ref (a 2), .ref (a 7), .ref (a 10), .ref (a 15), .int (M 1 4)])), (a 2, .inr (7, [.int (M 2 0), .int (M 2 1), .ref (a 3), .ref (a 4), .ref (a 5), .ref (a 6)])), (a 3, .inl (cI, 12, .inl (M 3))), (a 4, .inl (cI, 12, .inl (M 4))), (a 5, .inl (cI, 12, .inl (M 5))), (a 6, .inl (cI, 120, .inl (M 6))), (a 7, .inr (2, [.int (M 7 0), .int (M 7 1), .int (M 7 2), .int (M 7 3), .int (M 7 4), .ref (a 8), .ref (a 9)])), (a 8, .inl (cI, 8, .inl (M 8))), (a 9, .inl (cZ, 8, .inl (M 9))), (a 10, .inr (0, [.ref (a 11), .ref (a 12), .ref (a 13), .ref (a 14)])), (a 11, .inl (cI, 10, .inl (M 11))), (a 12, .inl (cI, 10, .inl (M 12))), (a 13, .inl (cI, 10, .inl (M 13))), (a 14, .inl (cI, 10, .inl (M 14))), (a 17, .inr (6, [.ref (a 18), .ref (a 23), .ref (a 26), .ref (a 31), .int (M 17 4)])), (a 18, .inr (7, [.int (M 18 0), .int (M 18 1), .ref (a 19), .ref (a 20), .ref (a 21), .ref (a 22)])), (a 19, .inl (cI, 12, .inl (M 19))), (a 20, .inl (cI, 12, .inl (M 20))), (a 21, .inl (cI, 12, .inl (M 21))), (a 22, .inl (cI, 120, .inl (M 22))), (a 23, .inr (2, [.int (M 23 0), .int (M 23 1), .int (M 23 2), .int (M 23 3), .int (M 23 4), .ref (a 24), .ref (a 25)])), (a 24, .inl (cI, 8, .inl (M 24))), (a 25, .inl (cZ, 8, .inl (M 25))), (a 26, .inr (0, [.ref (a 27), .ref (a 28), .ref (a 29), .ref (a 30)])), (a 27, .inl (cI, 10, .inl (M 27))), (a 28, .inl (cI, 10, .inl (M 28))), (a 29, .inl (cI, 10, .inl (M 29))), (a 30, .inl (cI, 10, .inl (M 30))), (a 31, .inr (3, [.int (M 31 0), .ref (a 32)])), (a 32, .inl (cI, 80, .inl (M 32))), (a 33, .inr (1, [.int ((q53.1 0) 0), .ref (a 34), .ref (a 35)])), (a 34, .inl (cS, 6, .inr (.inr (.inr (.inr (fS hs1)))))), (a 35, .inl (cS, 2, .inr (.inr (.inr (.inr (fG hs1)))))), (a 36, .inr (5, [.int (M 36 0), .ref (a 37), .ref (a 38)])), (a 37, .inl (cI, 60, .inl (M 37))), (a 38, .inr (4, [.int ((r4.2 2) 0), .int ((r4.2 2) 1), .ref (a 39)])), (a 40, .inl (cI, 12, .inl (M 40))), (a 41, .inl (cI, 10, .inl (M 41)))]) (w1 := (wX3_add cI cZ (pk [15, 16, 39] a) (sr (sr (pk [15, 16, 39] (sr (sr (sr M 33 (q53.1 0)) 38 (r4.2 2)) 39 (r4.2 3))) 0 (r73.2 0)) 1 (r73.2 1)))) hP hD [15, 16, 39] [0, 1, 2, 3, 4, 5, 6, 7, 8, 9, 10, 11, 12, 13, 14, 17, 18, 19, 20, 21, 22, 23, 24, 25, 26, 27, 28, 29, 30, 31, 32, 33, 34, 35, 36, 37, 38, 40, 41] rfl rfl (by decide) (by decide) hk1 hFc hP1 hD1
      have hP := P_perm (ws' := (wX8 cI cZ cS (fS hs1) (fG hs1) a (sr (sr (sr (sr (sr M 15 (r73.2 0)) 16 (r73.2 1)) 33 (q53.1 0)) 38 (r4.2 2)) 39 (r4.2 3)))) hP [0, 1, 2, 3, 4, 5, 6, 7, 8, 9, 10, 11, 12, 13, 14, 39, 40, 15, 16, 17, 18, 19, 20, 21, 22, 23, 24, 25, 26, 27, 28, 29, 30, 31, 32, 33, 34, 35, 36, 41, 37, 38] rfl
      have hD := D_perm (ws' := (wX8 cI cZ cS (fS hs1) (fG hs1) a (sr (sr (sr (sr (sr M 15 (r73.2 0)) 16 (r73.2 1)) 33 (q53.1 0)) 38 (r4.2 2)) 39 (r4.2 3)))) hD [0, 1, 2, 3, 4, 5, 6, 7, 8, 9, 10, 11, 12, 13, 14, 39, 40, 15, 16, 17, 18, 19, 20, 21, 22, 23, 24, 25, 26, 27, 28, 29, 30, 31, 32, 33, 34, 35, 36, 41, 37, 38] (by decide) rfl
      generalize H1 = H at hP hS ⊢
      refine lv_istore_n (lv' := [(1, .int r73.1), (0, .ref (a 0))]) hx hb dX8_accept_76 rfl hl (by decide) rfl (fun ls hl => ?_)
      refine lv_aload_n hx hb dX8_accept_77 rfl (lv_at hl 1 rfl) ?_
      refine va_get (D := (dC, dI)) (ci := 8) (v := .ref (a 36)) (C := RX8) (T := TX8) (N := 6) hx hb hts hinX8 hown hK hP 0 rfl rfl 3 (by decide) hw1 (fun _ h9 => h9) rfl dX8_accept_78 ?_
      refine lv_iconst (v := (0 : Int32)) hx hb dX8_accept_81 (by decide) ?_
      refine va_putN (D := (dC, dI)) (ci := 5) (v := .int (0 : Int32)) (ty := .int) (C := RX5) (T := TX5) (N := 3) hx hb hts hinX5 tyX5 tyX5_ok nmX5 hown hK hP hD hS 36 rfl rfl 0 (by decide) (nw8 hNW) (fun _ h9 => h9) rfl (by decide +kernel) rfl rfl (Nat.le_of_ble_eq_true rfl) dX8_accept_82 (fun H locs hP hD hS => ?_)
      have hP : va_P (dC, dI) vwCl (wX8 cI cZ cS (fS hs1) (fG hs1) a (sr (sr (sr (sr (sr (sr M 15 (r73.2 0)) 16 (r73.2 1)) 33 (q53.1 0)) 36 (upd (M 36) 0 (0 : Int32))) 38 (r4.2 2)) 39 (r4.2 3)) ++ RW cI cZ hs1) H := hP
      have hD : va_D A (wX8 cI cZ cS (fS hs1) (fG hs1) a (sr (sr (sr (sr (sr (sr M 15 (r73.2 0)) 16 (r73.2 1)) 33 (q53.1 0)) 36 (upd (M 36) 0 (0 : Int32))) 38 (r4.2 2)) 39 (r4.2 3)) ++ RW cI cZ hs1) := hD
      refine lv_iload_n hx hb dX8_accept_85 rfl (lv_at hl 0 rfl) ?_
      have e9 := so_e hf
      cases e9
      exact W.iret hx hb hr (fun t ht hW => ⟨⟨_, hs1, rfl, ⟨rfl, hh1⟩, WE.mk hP hD ht⟩, hS.F ht⟩) hS.2.2 dX8_accept_86
    · have hf := it_f hf c9
      have e9 := so_e hf
      cases e9
  · have hf := it_n hf c9
    have e9 := so_e hf
    cases e9
set_option maxHeartbeats 4000000 in
set_option maxRecDepth 100000 in
theorem n_X8_serveAll (l : Launch) (dC : Nat → ClassId) (dI : Nat → Nat → Nat) (cI cZ cS : ClassId) (hs : HS) (a : Nat → Nat) (sz : Nat) (M : Mem) (z1 : Int32) (z2 : Mem) (z3 : Nat → Option Mem) (hf : fX8_serveAll (cts hs) M  = some (Sum.inr z1, z2, z3)) : Met l yX8_serveAll wsX8_serveAll ({ frames := 6, cells := 16, slots := 316, locals := 156 } : Room) (va_Pc [.ref (a 0)] (WR8 (dC, dI) cI cZ cS (wX8 cI cZ cS (fS hs) (fG hs) a M ++ RW cI cZ hs) sz)) (va_Qi (S := HS) (fun r hs' => r = z1 ∧ cts hs' = z3) (fun hs' t => WE (dC, dI) cI cZ (wX8 cI cZ cS (fS hs') (fG hs') a z2 ++ RW cI cZ hs') (va_A (wX8 cI cZ cS (fS hs) (fG hs) a M ++ RW cI cZ hs) sz) t) (va_A (wX8 cI cZ cS (fS hs) (fG hs) a M ++ RW cI cZ hs) sz)) 16 316 (va_A (wX8 cI cZ cS (fS hs) (fG hs) a M ++ RW cI cZ hs) sz) := by
  refine Met.ofW (cc := cX8_serveAll) (maxL := 1) (ret := (some .int)) (by decide) rfl ?_
  intro p e s m args below meth c s₁ B hml hv
  obtain ⟨rfl, hsz, hP, hK, hD0, hNW⟩ := hv
  have hx := B.exec
  have hb := B.bytes
  have hr := B.returns
  have hts := atoms_spec (ws := wsX8_serveAll) B.pre
  have hown : s.vm.findClass RX8 = some m.cls := findClass_of_methodNamed B.named
  have hlocks := B.notSynchronized
  have hK2 : va_K (dC, dI) vwCl [(cI, .int), (cZ, .boolean)] s := hK.sub (tys' := [(cI, .int), (cZ, .boolean)]) [0, 1] rfl
  have hinX8 : ∀ w ∈ u_ws RX8 TX8 6, w ∈ wsX8_serveAll := by decide +kernel
  have hw1 := hts (.fieldLink RX8 22 "GlideShelves" "history" "LGlideShelves$History;") (by decide +kernel)
  have hw2 := hts (.fieldLink RX8 12 "GlideShelves" "now" "LGlideShelves$State;") (by decide +kernel)
  have hw3 := hts (.initialized RX1) (by decide +kernel)
  have hw4 := hts (.instanceMethod yX1_save) (by decide +kernel)
  have hw5 := hts (.selects RX1 yX1_save yX1_save) (by decide +kernel)
  have hw6 := hts (.initialized RX6) (by decide +kernel)
  have hw7 := hts (.instanceMethod yX6_serveEach) (by decide +kernel)
  have hw8 := hts (.selects RX6 yX6_serveEach yX6_serveEach) (by decide +kernel)
  subst hsz
  have hD := hD0.self (sz := s.heap.size)
  generalize hAe : va_A (wX8 cI cZ cS (fS hs) (fG hs) a M ++ RW cI cZ hs) s.heap.size = A at hD ⊢
  have hA : ∀ q : Nat, s.heap.size ≤ q → A q := fun q h => by rw [← hAe]; exact Or.inr h
  have hS : va_S A s.heap s.heap [] := va_S.rf
  have hl := lv_entry ([.ref (a 0)]) (n := 1) (Nat.le_of_ble_eq_true rfl)
  rw [lg_entry_eq]
  generalize (lg_sl ([.ref (a 0)]) ++ List.replicate (1 - (lg_sl ([.ref (a 0)])).length) Slot.unset).toArray = ls at hl ⊢
  have hl : lv_has ls 1 [(0, .ref (a 0))] := hl
  unfold fX8_serveAll at hf
  suffices hgo : ∀ (H : Heap) (locs : List Loc), va_P (dC, dI) vwCl (wX8 cI cZ cS (fS hs) (fG hs) a M ++ RW cI cZ hs) H → va_D A (wX8 cI cZ cS (fS hs) (fG hs) a M ++ RW cI cZ hs) → va_S A s.heap H locs → W p l e (headSpec wsX8_serveAll ({ frames := 6, cells := 16, slots := 316, locals := 156 } : Room)).room s m ([.ref (a 0)] : List Value).toArray below meth c H locs 0 0 (MQ below (va_Qi (S := HS) (fun r hs' => r = z1 ∧ cts hs' = z3) (fun hs' t => WE (dC, dI) cI cZ (wX8 cI cZ cS (fS hs') (fG hs') a z2 ++ RW cI cZ hs') A t) A) ([.ref (a 0)] : List Value).toArray s 16 316 A) (F0 m 0 ls []) from hgo _ _ hP hD hS
  intro H locs hP hD hS
  refine lv_aload_n hx hb dX8_serveAll_0 rfl (lv_at hl 0 rfl) ?_
  obtain ⟨r1, hc1, hf⟩ := bi_s hf
  rcases r1 with E9 | r1
  · have e9 := so_e hf
    cases e9
  have hf := sel_r hf
  refine cROv (W.runV (As := []) (rest := []) ⟨hx, hb, hml, hown, hts⟩ (n_X8_requireEmptyWindow l dC dI cI cZ cS (fS hs) (fG hs) a M  hc1) (cwV 0 hts gX8_serveAll_X8_requireEmptyWindow rfl rfl rfl (by decide +kernel) ⟨Nat.le_of_ble_eq_true rfl, Nat.le_of_ble_eq_true rfl⟩) ⟨RO8.blind, va_recv hK hP (ci := 8) (q0 := 0) rfl rfl, RO8.pre (P_app hP).1 hK hNW⟩ rfl rfl hl.1 rfl (lv_room (Nat.le_of_ble_eq_true rfl)) dX8_serveAll_1 ⟨Nat.le_of_ble_eq_true rfl, Nat.le_of_ble_eq_true rfl⟩) ?_
  refine lv_aload_n hx hb dX8_serveAll_4 rfl (lv_at hl 0 rfl) ?_
  refine va_get (D := (dC, dI)) (ci := 8) (v := .ref (a 33)) (C := RX8) (T := TX8) (N := 6) hx hb hts hinX8 hown hK hP 0 rfl rfl 2 (by decide) hw1 (fun _ h9 => h9) rfl dX8_serveAll_5 ?_
  refine lv_aload_n hx hb dX8_serveAll_8 rfl (lv_at hl 0 rfl) ?_
  refine va_get (D := (dC, dI)) (ci := 8) (v := .ref (a 1)) (C := RX8) (T := TX8) (N := 6) hx hb hts hinX8 hown hK hP 0 rfl rfl 0 (by decide) hw2 (fun _ h9 => h9) rfl dX8_serveAll_9 ?_
  have hf := inrs_s hf
  obtain ⟨q12, hc12, hf⟩ := bi_s hf
  have hPc := hP.part (X := (wX8 cI cZ cS (fS hs) (fG hs) a M)) (cx := (wX1s cI cZ cS (fS hs) (fG hs) (pk [33, 34, 35, 1, 2, 3, 4, 5, 6, 7, 8, 9, 10, 11, 12, 13, 14, 15, 16] a) (pk [33, 34, 35, 1, 2, 3, 4, 5, 6, 7, 8, 9, 10, 11, 12, 13, 14, 15, 16] M))) [33, 34, 35, 1, 2, 3, 4, 5, 6, 7, 8, 9, 10, 11, 12, 13, 14, 15, 16] rfl
  have hDc := hD.part (X := (wX8 cI cZ cS (fS hs) (fG hs) a M)) (cx := (wX1s cI cZ cS (fS hs) (fG hs) (pk [33, 34, 35, 1, 2, 3, 4, 5, 6, 7, 8, 9, 10, 11, 12, 13, 14, 15, 16] a) (pk [33, 34, 35, 1, 2, 3, 4, 5, 6, 7, 8, 9, 10, 11, 12, 13, 14, 15, 16] M))) [33, 34, 35, 1, 2, 3, 4, 5, 6, 7, 8, 9, 10, 11, 12, 13, 14, 15, 16] (by decide) rfl
  have hFc := va_freeP (X := (wX8 cI cZ cS (fS hs) (fG hs) a M)) (cx := (wX1s cI cZ cS (fS hs) (fG hs) (pk [33, 34, 35, 1, 2, 3, 4, 5, 6, 7, 8, 9, 10, 11, 12, 13, 14, 15, 16] a) (pk [33, 34, 35, 1, 2, 3, 4, 5, 6, 7, 8, 9, 10, 11, 12, 13, 14, 15, 16] M))) hD hS hA [33, 34, 35, 1, 2, 3, 4, 5, 6, 7, 8, 9, 10, 11, 12, 13, 14, 15, 16] rfl
  refine va_callv (va_runVN (As := [.ref (a 1)]) (rest := []) ⟨hx, hb, hml, hown, hts⟩ (c_X1_save l dC dI cI cZ cS hs (pk [33, 34, 35, 1, 2, 3, 4, 5, 6, 7, 8, 9, 10, 11, 12, 13, 14, 15, 16] a) H.size (pk [33, 34, 35, 1, 2, 3, 4, 5, 6, 7, 8, 9, 10, 11, 12, 13, 14, 15, 16] M) q12 hc12) ⟨va_cnB 1 hts gX8_serveAll_X1_save_n70 rfl rfl rfl (nw67 hNW) hw3 (by decide +kernel) ⟨Nat.le_of_ble_eq_true rfl, Nat.le_of_ble_eq_true rfl⟩, hw4, hw5⟩ ⟨WR8.blind, va_recv hK hP (ci := 1) (q0 := 33) rfl rfl, WR8.pre hPc hK hDc hNW⟩ rfl rfl hl.1 rfl (lv_room (Nat.le_of_ble_eq_true rfl)) dX8_serveAll_12 ⟨Nat.le_of_ble_eq_true rfl, Nat.le_of_ble_eq_true rfl⟩) hS (fun q _ h => hFc q h) hFc (fun hs1 t H1 locs ht hvm hw hB hz1 hk1 hS => ?_)
  obtain ⟨hh1, hh6, hh7⟩ := hw
  obtain ⟨hP1, hD1⟩ := hB
  rw [ht] at hP1
  rw [fX1_save_rows hc12] at hP1 hD1
  obtain ⟨hP, hD⟩ := va_joinP (X := (wX8 cI cZ cS (fS hs) (fG hs) a M)) (cx := (wX1s cI cZ cS (fS hs) (fG hs) (pk [33, 34, 35, 1, 2, 3, 4, 5, 6, 7, 8, 9, 10, 11, 12, 13, 14, 15, 16] a) (pk [33, 34, 35, 1, 2, 3, 4, 5, 6, 7, 8, 9, 10, 11, 12, 13, 14, 15, 16] M))) (wr := [(a 0, .inr (8, [.ref (a 1), .ref (a 17), .ref (a 33), .ref (a 36), .ref (a 40), .ref (a 41)])), (a 17, .inr (6, [.ref (a 18), .ref (a 23), .ref (a 26), .ref (a 31), .int (M 17 4)])), (a 18, .inr (7, [.int (M 18 0), .int (M 18 1), .ref (a 19), .ref (a 20), .ref (a 21), .ref (a 22)])), (a 19, .inl (cI, 12, .inl (M 19))), (a 20, .inl (cI, 12, .inl (M 20))), (a 21, .inl (cI, 12, .inl (M 21))), (a 22, .inl (cI, 120, .inl (M 22))), (a 23, .inr (2, [.int (M 23 0), .int (M 23 1), .int (M 23 2), .int (M 23 3), .int (M 23 4), .ref (a 24), .ref (a 25)])), (a 24, .inl (cI, 8, .inl (M 24))), (a 25, .inl (cZ, 8, .inl (M 25))), (a 26, .inr (0, [.ref (a 27), .ref (a 28), .ref (a 29), .ref (a 30)])), (a 27, .inl (cI, 10, .inl (M 27))), (a 28, .inl (cI, 10, .inl (M 28))), (a 29, .inl (cI, 10, .inl (M 29))), (a 30, .inl (cI, 10, .inl (M 30))), (a 31, .inr (3, [.int (M 31 0), .ref (a 32)])), (a 32, .inl (cI, 80, .inl (M 32))), (a 36, .inr (5, [.int (M 36 0), .ref (a 37), .ref (a 38)])), (a 37, .inl (cI, 60, .inl (M 37))), (a 38, .inr (4, [.int (M 38 0), .int (M 38 1), .ref (a 39)])), (a 39, .inl (cI, 10, .inl (M 39))), (a 40, .inl (cI, 12, .inl (M 40))), (a 41, .inl (cI, 10, .inl (M 41)))]) (rx := (wX1s cI cZ cS (fS hs1) (fG hs1) (pk [33, 34, 35, 1, 2, 3, 4, 5, 6, 7, 8, 9, 10, 11, 12, 13, 14, 15, 16] a) (sr (pk [33, 34, 35, 1, 2, 3, 4, 5, 6, 7, 8, 9, 10, 11, 12, 13, 14, 15, 16] M) 0 (q12.1 0)))) hP hD [33, 34, 35, 1, 2, 3, 4, 5, 6, 7, 8, 9, 10, 11, 12, 13, 14, 15, 16] [0, 17, 18, 19, 20, 21, 22, 23, 24, 25, 26, 27, 28, 29, 30, 31, 32, 36, 37, 38, 39, 40, 41] rfl rfl (by decide) (by decide) hk1 hFc hP1 hD1
  have hP := P_perm (ws' := (wX8 cI cZ cS (fS hs1) (fG hs1) a (sr M 33 (q12.1 0)))) hP [0, 26, 27, 28, 29, 30, 31, 32, 33, 34, 35, 36, 37, 38, 39, 40, 41, 1, 2, 3, 4, 5, 6, 7, 8, 9, 10, 11, 12, 13, 14, 15, 16, 23, 24, 25, 17, 18, 19, 20, 21, 22] rfl
  have hD := D_perm (ws' := (wX8 cI cZ cS (fS hs1) (fG hs1) a (sr M 33 (q12.1 0)))) hD [0, 26, 27, 28, 29, 30, 31, 32, 33, 34, 35, 36, 37, 38, 39, 40, 41, 1, 2, 3, 4, 5, 6, 7, 8, 9, 10, 11, 12, 13, 14, 15, 16, 23, 24, 25, 17, 18, 19, 20, 21, 22] (by decide) rfl
  generalize H1 = H at hP hS ⊢
  refine lv_aload_n hx hb dX8_serveAll_15 rfl (lv_at hl 0 rfl) ?_
  refine va_get (D := (dC, dI)) (ci := 8) (v := .ref (a 1)) (C := RX8) (T := TX8) (N := 6) hx hb hts hinX8 hown hK hP 0 rfl rfl 0 (by decide) hw2 (fun _ h9 => h9) rfl dX8_serveAll_16 ?_
  obtain ⟨r19, hc19, hf⟩ := bi_s hf
  have hPc := P_head (ws := (wX8 cI cZ cS (fS hs1) (fG hs1) a (sr M 33 (q12.1 0)))) (ws' := (wX6 cI cZ (ofs 1 a) (ofs 1 (sr M 33 (q12.1 0))))) hP [1, 2, 3, 4, 5, 6, 7, 8, 9, 10, 11, 12, 13, 14, 15, 16] rfl
  have hDc := D_head (ws := (wX8 cI cZ cS (fS hs1) (fG hs1) a (sr M 33 (q12.1 0)))) (ws' := (wX6 cI cZ (ofs 1 a) (ofs 1 (sr M 33 (q12.1 0))))) hD [1, 2, 3, 4, 5, 6, 7, 8, 9, 10, 11, 12, 13, 14, 15, 16] (by decide) rfl
  have hFc := va_free (wc := (wX6 cI cZ (ofs 1 a) (ofs 1 (sr M 33 (q12.1 0))))) hD hS hA [1, 2, 3, 4, 5, 6, 7, 8, 9, 10, 11, 12, 13, 14, 15, 16] rfl
  refine va_calli (va_runVN (As := []) (rest := []) ⟨hx, hb, hml, hown, hts⟩ (c_X6_serveEach l dC dI cI cZ (ofs 1 a) H.size (ofs 1 (sr M 33 (q12.1 0))) r19 hc19) ⟨va_cnB 0 hts gX8_serveAll_X6_serveEach_n216 rfl rfl rfl (nw49 hNW) hw6 (by decide +kernel) ⟨Nat.le_of_ble_eq_true rfl, Nat.le_of_ble_eq_true rfl⟩, hw7, hw8⟩ ⟨WR.blind, va_recv hK hP (ci := 6) (q0 := 1) rfl rfl, WR.pre hPc hK2 hDc hNW⟩ rfl rfl hl.1 rfl (lv_room (Nat.le_of_ble_eq_true rfl)) dX8_serveAll_19 ⟨Nat.le_of_ble_eq_true rfl, Nat.le_of_ble_eq_true rfl⟩) hS (fun q _ h => hFc q h) hFc (fun rv u t H1 locs ht hvm hw hB hz1 hk1 hS => ?_)
  obtain ⟨hP1, hD1⟩ := hB
  rw [ht] at hP1
  subst hw
  obtain ⟨hP, hD⟩ := join_app (ws := (wX8 cI cZ cS (fS hs1) (fG hs1) a (sr M 33 (q12.1 0)))) (wr := [(a 0, .inr (8, [.ref (a 1), .ref (a 17), .ref (a 33), .ref (a 36), .ref (a 40), .ref (a 41)])), (a 17, .inr (6, [.ref (a 18), .ref (a 23), .ref (a 26), .ref (a 31), .int (M 17 4)])), (a 18, .inr (7, [.int (M 18 0), .int (M 18 1), .ref (a 19), .ref (a 20), .ref (a 21), .ref (a 22)])), (a 19, .inl (cI, 12, .inl (M 19))), (a 20, .inl (cI, 12, .inl (M 20))), (a 21, .inl (cI, 12, .inl (M 21))), (a 22, .inl (cI, 120, .inl (M 22))), (a 23, .inr (2, [.int (M 23 0), .int (M 23 1), .int (M 23 2), .int (M 23 3), .int (M 23 4), .ref (a 24), .ref (a 25)])), (a 24, .inl (cI, 8, .inl (M 24))), (a 25, .inl (cZ, 8, .inl (M 25))), (a 26, .inr (0, [.ref (a 27), .ref (a 28), .ref (a 29), .ref (a 30)])), (a 27, .inl (cI, 10, .inl (M 27))), (a 28, .inl (cI, 10, .inl (M 28))), (a 29, .inl (cI, 10, .inl (M 29))), (a 30, .inl (cI, 10, .inl (M 30))), (a 31, .inr (3, [.int (M 31 0), .ref (a 32)])), (a 32, .inl (cI, 80, .inl (M 32))), (a 33, .inr (1, [.int ((q12.1 0) 0), .ref (a 34), .ref (a 35)])), (a 34, .inl (cS, 6, .inr (.inr (.inr (.inr (fS hs1)))))), (a 35, .inl (cS, 2, .inr (.inr (.inr (.inr (fG hs1)))))), (a 36, .inr (5, [.int (M 36 0), .ref (a 37), .ref (a 38)])), (a 37, .inl (cI, 60, .inl (M 37))), (a 38, .inr (4, [.int (M 38 0), .int (M 38 1), .ref (a 39)])), (a 39, .inl (cI, 10, .inl (M 39))), (a 40, .inl (cI, 12, .inl (M 40))), (a 41, .inl (cI, 10, .inl (M 41)))]) (w1 := (wX6 cI cZ (ofs 1 a) (sr (sr (sr (sr (sr (sr (sr (sr (sr (sr (sr (ofs 1 (sr M 33 (q12.1 0))) 0 (r19.2 0)) 1 (r19.2 1)) 3 (r19.2 3)) 4 (r19.2 4)) 5 (r19.2 5)) 6 (r19.2 6)) 7 (r19.2 7)) 8 (r19.2 8)) 13 (r19.2 13)) 14 (r19.2 14)) 15 (r19.2 15)))) hP hD [1, 2, 3, 4, 5, 6, 7, 8, 9, 10, 11, 12, 13, 14, 15, 16] [0, 17, 18, 19, 20, 21, 22, 23, 24, 25, 26, 27, 28, 29, 30, 31, 32, 33, 34, 35, 36, 37, 38, 39, 40, 41] rfl rfl (by decide) (by decide) hk1 hFc hP1 hD1
  have hP := P_perm (ws' := (wX8 cI cZ cS (fS hs1) (fG hs1) a (sr (sr (sr (sr (sr (sr (sr (sr (sr (sr (sr (sr M 1 (r19.2 0)) 2 (r19.2 1)) 4 (r19.2 3)) 5 (r19.2 4)) 6 (r19.2 5)) 7 (r19.2 6)) 8 (r19.2 7)) 9 (r19.2 8)) 14 (r19.2 13)) 15 (r19.2 14)) 16 (r19.2 15)) 33 (q12.1 0)))) hP [0, 26, 27, 28, 29, 30, 31, 32, 33, 34, 35, 36, 37, 38, 39, 40, 41, 1, 2, 3, 4, 5, 6, 7, 8, 9, 10, 11, 12, 13, 14, 15, 16, 17, 18, 19, 20, 21, 22, 23, 24, 25] rfl
  have hD := D_perm (ws' := (wX8 cI cZ cS (fS hs1) (fG hs1) a (sr (sr (sr (sr (sr (sr (sr (sr (sr (sr (sr (sr M 1 (r19.2 0)) 2 (r19.2 1)) 4 (r19.2 3)) 5 (r19.2 4)) 6 (r19.2 5)) 7 (r19.2 6)) 8 (r19.2 7)) 9 (r19.2 8)) 14 (r19.2 13)) 15 (r19.2 14)) 16 (r19.2 15)) 33 (q12.1 0)))) hD [0, 26, 27, 28, 29, 30, 31, 32, 33, 34, 35, 36, 37, 38, 39, 40, 41, 1, 2, 3, 4, 5, 6, 7, 8, 9, 10, 11, 12, 13, 14, 15, 16, 17, 18, 19, 20, 21, 22, 23, 24, 25] (by decide) rfl
  generalize H1 = H at hP hS ⊢
  have e9 := so_e hf
  cases e9
  exact W.iret hx hb hr (fun t ht hW => ⟨⟨_, hs1, rfl, ⟨rfl, hh1⟩, WE.mk hP hD ht⟩, hS.F ht⟩) hS.2.2 dX8_serveAll_22
set_option maxHeartbeats 4000000 in
set_option maxRecDepth 100000 in
theorem n_X8_changeLeast (l : Launch) (dC : Nat → ClassId) (dI : Nat → Nat → Nat) (cI cZ cS : ClassId) (hs : HS) (a : Nat → Nat) (sz : Nat) (M : Mem) (a1 : Int32) (a2 : Int32) (z1 : Int32) (z2 : Mem) (z3 : Nat → Option Mem) (hf : fX8_changeLeast (cts hs) M a1 a2 = some (Sum.inr z1, z2, z3)) : Met l yX8_changeLeast wsX8_changeLeast ({ frames := 4, cells := 16, slots := 316, locals := 124 } : Room) (va_Pc [.ref (a 0), .int a1, .int a2] (WR8 (dC, dI) cI cZ cS (wX8 cI cZ cS (fS hs) (fG hs) a M ++ RW cI cZ hs) sz)) (va_Qi (S := HS) (fun r hs' => r = z1 ∧ cts hs' = z3) (fun hs' t => WE (dC, dI) cI cZ (wX8 cI cZ cS (fS hs') (fG hs') a z2 ++ RW cI cZ hs') (va_A (wX8 cI cZ cS (fS hs) (fG hs) a M ++ RW cI cZ hs) sz) t) (va_A (wX8 cI cZ cS (fS hs) (fG hs) a M ++ RW cI cZ hs) sz)) 16 316 (va_A (wX8 cI cZ cS (fS hs) (fG hs) a M ++ RW cI cZ hs) sz) := by
  refine Met.ofW (cc := cX8_changeLeast) (maxL := 4) (ret := (some .int)) (by decide) rfl ?_
  intro p e s m args below meth c s₁ B hml hv
  obtain ⟨rfl, hsz, hP, hK, hD0, hNW⟩ := hv
  have hx := B.exec
  have hb := B.bytes
  have hr := B.returns
  have hts := atoms_spec (ws := wsX8_changeLeast) B.pre
  have hown : s.vm.findClass RX8 = some m.cls := findClass_of_methodNamed B.named
  have hlocks := B.notSynchronized
  have hK2 : va_K (dC, dI) vwCl [(cI, .int), (cZ, .boolean)] s := hK.sub (tys' := [(cI, .int), (cZ, .boolean)]) [0, 1] rfl
  have hinX8 : ∀ w ∈ u_ws RX8 TX8 6, w ∈ wsX8_changeLeast := by decide +kernel
  have hw1 := hts (.fieldLink RX8 22 "GlideShelves" "history" "LGlideShelves$History;") (by decide +kernel)
  have hw2 := hts (.fieldLink RX8 12 "GlideShelves" "now" "LGlideShelves$State;") (by decide +kernel)
  have hw3 := hts (.initialized RX1) (by decide +kernel)
  have hw4 := hts (.instanceMethod yX1_save) (by decide +kernel)
  have hw5 := hts (.selects RX1 yX1_save yX1_save) (by decide +kernel)
  have hinX6 : ∀ w ∈ u_ws RX6 TX6 5, w ∈ wsX8_changeLeast := by decide +kernel
  have hinX0 : ∀ w ∈ u_ws RX0 TX0 4, w ∈ wsX8_changeLeast := by decide +kernel
  subst hsz
  have hD := hD0.self (sz := s.heap.size)
  generalize hAe : va_A (wX8 cI cZ cS (fS hs) (fG hs) a M ++ RW cI cZ hs) s.heap.size = A at hD ⊢
  have hA : ∀ q : Nat, s.heap.size ≤ q → A q := fun q h => by rw [← hAe]; exact Or.inr h
  have hS : va_S A s.heap s.heap [] := va_S.rf
  have hl := lv_entry ([.ref (a 0), .int a1, .int a2]) (n := 4) (Nat.le_of_ble_eq_true rfl)
  rw [lg_entry_eq]
  generalize (lg_sl ([.ref (a 0), .int a1, .int a2]) ++ List.replicate (4 - (lg_sl ([.ref (a 0), .int a1, .int a2])).length) Slot.unset).toArray = ls at hl ⊢
  have hl : lv_has ls 4 [(0, .ref (a 0)), (1, .int a1), (2, .int a2)] := hl
  unfold fX8_changeLeast at hf
  suffices hgo : ∀ (H : Heap) (locs : List Loc), va_P (dC, dI) vwCl (wX8 cI cZ cS (fS hs) (fG hs) a M ++ RW cI cZ hs) H → va_D A (wX8 cI cZ cS (fS hs) (fG hs) a M ++ RW cI cZ hs) → va_S A s.heap H locs → W p l e (headSpec wsX8_changeLeast ({ frames := 4, cells := 16, slots := 316, locals := 124 } : Room)).room s m ([.ref (a 0), .int a1, .int a2] : List Value).toArray below meth c H locs 0 0 (MQ below (va_Qi (S := HS) (fun r hs' => r = z1 ∧ cts hs' = z3) (fun hs' t => WE (dC, dI) cI cZ (wX8 cI cZ cS (fS hs') (fG hs') a z2 ++ RW cI cZ hs') A t) A) ([.ref (a 0), .int a1, .int a2] : List Value).toArray s 16 316 A) (F0 m 0 ls []) from hgo _ _ hP hD hS
  intro H locs hP hD hS
  refine lv_aload_n hx hb dX8_changeLeast_0 rfl (lv_at hl 0 rfl) ?_
  refine lv_iload_n hx hb dX8_changeLeast_1 rfl (lv_at hl 1 rfl) ?_
  obtain ⟨r2, hc2, hf⟩ := bi_s hf
  rcases r2 with E9 | r2
  · have e9 := so_e hf
    cases e9
  have hf := sel_r hf
  refine cROv (W.runV (As := [.int a1]) (rest := []) ⟨hx, hb, hml, hown, hts⟩ (n_X8_requireKind l dC dI cI cZ cS (fS hs) (fG hs) a M a1  hc2) (cwV 1 hts gX8_changeLeast_X8_requireKind rfl rfl rfl (by decide +kernel) ⟨Nat.le_of_ble_eq_true rfl, Nat.le_of_ble_eq_true rfl⟩) ⟨RO8.blind, va_recv hK hP (ci := 8) (q0 := 0) rfl rfl, RO8.pre (P_app hP).1 hK hNW⟩ rfl rfl hl.1 rfl (lv_room (Nat.le_of_ble_eq_true rfl)) dX8_changeLeast_2 ⟨Nat.le_of_ble_eq_true rfl, Nat.le_of_ble_eq_true rfl⟩) ?_
  refine lv_iload_n hx hb dX8_changeLeast_5 rfl (lv_at hl 2 rfl) ?_
  refine lv_if_lt (tgt := 15) hx hb dX8_changeLeast_6 (by decide) (fun c9 => ?_) (fun c9 => ?_)
  · have hf := it_t hf c9
    have e9 := so_e hf
    cases e9
  · have hf := it_f hf c9
    refine lv_iload_n hx hb dX8_changeLeast_9 rfl (lv_at hl 2 rfl) ?_
    refine lv_bipush (v := (99 : Int32)) hx hb dX8_changeLeast_10 (by decide) ?_
    refine lv_icmp_le (tgt := 25) hx hb dX8_changeLeast_12 (by decide) (fun c9 => ?_) (fun c9 => ?_)
    · have hf := it_t hf c9
      refine lv_aload_n hx hb dX8_changeLeast_25 rfl (lv_at hl 0 rfl) ?_
      refine va_get (D := (dC, dI)) (ci := 8) (v := .ref (a 33)) (C := RX8) (T := TX8) (N := 6) hx hb hts hinX8 hown hK hP 0 rfl rfl 2 (by decide) hw1 (fun _ h9 => h9) rfl dX8_changeLeast_26 ?_
      refine lv_aload_n hx hb dX8_changeLeast_29 rfl (lv_at hl 0 rfl) ?_
      refine va_get (D := (dC, dI)) (ci := 8) (v := .ref (a 1)) (C := RX8) (T := TX8) (N := 6) hx hb hts hinX8 hown hK hP 0 rfl rfl 0 (by decide) hw2 (fun _ h9 => h9) rfl dX8_changeLeast_30 ?_
      have hf := inrs_s hf
      obtain ⟨q33, hc33, hf⟩ := bi_s hf
      have hPc := hP.part (X := (wX8 cI cZ cS (fS hs) (fG hs) a M)) (cx := (wX1s cI cZ cS (fS hs) (fG hs) (pk [33, 34, 35, 1, 2, 3, 4, 5, 6, 7, 8, 9, 10, 11, 12, 13, 14, 15, 16] a) (pk [33, 34, 35, 1, 2, 3, 4, 5, 6, 7, 8, 9, 10, 11, 12, 13, 14, 15, 16] M))) [33, 34, 35, 1, 2, 3, 4, 5, 6, 7, 8, 9, 10, 11, 12, 13, 14, 15, 16] rfl
      have hDc := hD.part (X := (wX8 cI cZ cS (fS hs) (fG hs) a M)) (cx := (wX1s cI cZ cS (fS hs) (fG hs) (pk [33, 34, 35, 1, 2, 3, 4, 5, 6, 7, 8, 9, 10, 11, 12, 13, 14, 15, 16] a) (pk [33, 34, 35, 1, 2, 3, 4, 5, 6, 7, 8, 9, 10, 11, 12, 13, 14, 15, 16] M))) [33, 34, 35, 1, 2, 3, 4, 5, 6, 7, 8, 9, 10, 11, 12, 13, 14, 15, 16] (by decide) rfl
      have hFc := va_freeP (X := (wX8 cI cZ cS (fS hs) (fG hs) a M)) (cx := (wX1s cI cZ cS (fS hs) (fG hs) (pk [33, 34, 35, 1, 2, 3, 4, 5, 6, 7, 8, 9, 10, 11, 12, 13, 14, 15, 16] a) (pk [33, 34, 35, 1, 2, 3, 4, 5, 6, 7, 8, 9, 10, 11, 12, 13, 14, 15, 16] M))) hD hS hA [33, 34, 35, 1, 2, 3, 4, 5, 6, 7, 8, 9, 10, 11, 12, 13, 14, 15, 16] rfl
      refine va_callv (va_runVN (As := [.ref (a 1)]) (rest := []) ⟨hx, hb, hml, hown, hts⟩ (c_X1_save l dC dI cI cZ cS hs (pk [33, 34, 35, 1, 2, 3, 4, 5, 6, 7, 8, 9, 10, 11, 12, 13, 14, 15, 16] a) H.size (pk [33, 34, 35, 1, 2, 3, 4, 5, 6, 7, 8, 9, 10, 11, 12, 13, 14, 15, 16] M) q33 hc33) ⟨va_cnB 1 hts gX8_changeLeast_X1_save_n70 rfl rfl rfl (nw67 hNW) hw3 (by decide +kernel) ⟨Nat.le_of_ble_eq_true rfl, Nat.le_of_ble_eq_true rfl⟩, hw4, hw5⟩ ⟨WR8.blind, va_recv hK hP (ci := 1) (q0 := 33) rfl rfl, WR8.pre hPc hK hDc hNW⟩ rfl rfl hl.1 rfl (lv_room (Nat.le_of_ble_eq_true rfl)) dX8_changeLeast_33 ⟨Nat.le_of_ble_eq_true rfl, Nat.le_of_ble_eq_true rfl⟩) hS (fun q _ h => hFc q h) hFc (fun hs1 t H1 locs ht hvm hw hB hz1 hk1 hS => ?_)
      obtain ⟨hh1, hh6, hh7⟩ := hw
      obtain ⟨hP1, hD1⟩ := hB
      rw [ht] at hP1
      rw [fX1_save_rows hc33] at hP1 hD1
      obtain ⟨hP, hD⟩ := va_joinP (X := (wX8 cI cZ cS (fS hs) (fG hs) a M)) (cx := (wX1s cI cZ cS (fS hs) (fG hs) (pk [33, 34, 35, 1, 2, 3, 4, 5, 6, 7, 8, 9, 10, 11, 12, 13, 14, 15, 16] a) (pk [33, 34, 35, 1, 2, 3, 4, 5, 6, 7, 8, 9, 10, 11, 12, 13, 14, 15, 16] M))) (wr := [(a 0, .inr (8, [.ref (a 1), .ref (a 17), .ref (a 33), .ref (a 36), .ref (a 40), .ref (a 41)])), (a 17, .inr (6, [.ref (a 18), .ref (a 23), .ref (a 26), .ref (a 31), .int (M 17 4)])), (a 18, .inr (7, [.int (M 18 0), .int (M 18 1), .ref (a 19), .ref (a 20), .ref (a 21), .ref (a 22)])), (a 19, .inl (cI, 12, .inl (M 19))), (a 20, .inl (cI, 12, .inl (M 20))), (a 21, .inl (cI, 12, .inl (M 21))), (a 22, .inl (cI, 120, .inl (M 22))), (a 23, .inr (2, [.int (M 23 0), .int (M 23 1), .int (M 23 2), .int (M 23 3), .int (M 23 4), .ref (a 24), .ref (a 25)])), (a 24, .inl (cI, 8, .inl (M 24))), (a 25, .inl (cZ, 8, .inl (M 25))), (a 26, .inr (0, [.ref (a 27), .ref (a 28), .ref (a 29), .ref (a 30)])), (a 27, .inl (cI, 10, .inl (M 27))), (a 28, .inl (cI, 10, .inl (M 28))), (a 29, .inl (cI, 10, .inl (M 29))), (a 30, .inl (cI, 10, .inl (M 30))), (a 31, .inr (3, [.int (M 31 0), .ref (a 32)])), (a 32, .inl (cI, 80, .inl (M 32))), (a 36, .inr (5, [.int (M 36 0), .ref (a 37), .ref (a 38)])), (a 37, .inl (cI, 60, .inl (M 37))), (a 38, .inr (4, [.int (M 38 0), .int (M 38 1), .ref (a 39)])), (a 39, .inl (cI, 10, .inl (M 39))), (a 40, .inl (cI, 12, .inl (M 40))), (a 41, .inl (cI, 10, .inl (M 41)))]) (rx := (wX1s cI cZ cS (fS hs1) (fG hs1) (pk [33, 34, 35, 1, 2, 3, 4, 5, 6, 7, 8, 9, 10, 11, 12, 13, 14, 15, 16] a) (sr (pk [33, 34, 35, 1, 2, 3, 4, 5, 6, 7, 8, 9, 10, 11, 12, 13, 14, 15, 16] M) 0 (q33.1 0)))) hP hD [33, 34, 35, 1, 2, 3, 4, 5, 6, 7, 8, 9, 10, 11, 12, 13, 14, 15, 16] [0, 17, 18, 19, 20, 21, 22, 23, 24, 25, 26, 27, 28, 29, 30, 31, 32, 36, 37, 38, 39, 40, 41] rfl rfl (by decide) (by decide) hk1 hFc hP1 hD1
      have hP := P_perm (ws' := (wX8 cI cZ cS (fS hs1) (fG hs1) a (sr M 33 (q33.1 0)))) hP [0, 26, 27, 28, 29, 30, 31, 32, 33, 34, 35, 36, 37, 38, 39, 40, 41, 1, 2, 3, 4, 5, 6, 7, 8, 9, 10, 11, 12, 13, 14, 15, 16, 23, 24, 25, 17, 18, 19, 20, 21, 22] rfl
      have hD := D_perm (ws' := (wX8 cI cZ cS (fS hs1) (fG hs1) a (sr M 33 (q33.1 0)))) hD [0, 26, 27, 28, 29, 30, 31, 32, 33, 34, 35, 36, 37, 38, 39, 40, 41, 1, 2, 3, 4, 5, 6, 7, 8, 9, 10, 11, 12, 13, 14, 15, 16, 23, 24, 25, 17, 18, 19, 20, 21, 22] (by decide) rfl
      generalize H1 = H at hP hS ⊢
      refine lv_aload_n hx hb dX8_changeLeast_36 rfl (lv_at hl 0 rfl) ?_
      refine va_get (D := (dC, dI)) (ci := 8) (v := .ref (a 1)) (C := RX8) (T := TX8) (N := 6) hx hb hts hinX8 hown hK hP 0 rfl rfl 0 (by decide) hw2 (fun _ h9 => h9) rfl dX8_changeLeast_37 ?_
      refine va_getN (D := (dC, dI)) (ci := 6) (v := .ref (a 10)) (C := RX6) (T := TX6) (N := 5) hx hb hts hinX6 hown hK hP 1 rfl rfl 2 (by decide) (nw0 hNW) (fun _ h9 => h9) rfl dX8_changeLeast_40 ?_
      refine va_getN (D := (dC, dI)) (ci := 0) (v := .ref (a 12)) (C := RX0) (T := TX0) (N := 4) hx hb hts hinX0 hown hK hP 10 rfl rfl 1 (by decide) (nw9 hNW) (fun _ h9 => h9) rfl dX8_changeLeast_43 ?_
      refine lv_iload_n hx hb dX8_changeLeast_46 rfl (lv_at hl 1 rfl) ?_
      obtain ⟨hi, hf⟩ := gd_s hf
      refine va_iald (D := (dC, dI)) (f := (M 12)) hx hb hK hP 12 0 rfl rfl (inb_in hi) dX8_changeLeast_47 ?_
      refine lv_istore_n (lv' := [(3, .int (M 12 a1.toNatClampNeg)), (0, .ref (a 0)), (1, .int a1), (2, .int a2)]) hx hb dX8_changeLeast_48 rfl hl (by decide) rfl (fun ls hl => ?_)
      refine lv_aload_n hx hb dX8_changeLeast_49 rfl (lv_at hl 1 rfl) ?_
      refine va_get (D := (dC, dI)) (ci := 8) (v := .ref (a 1)) (C := RX8) (T := TX8) (N := 6) hx hb hts hinX8 hown hK hP 0 rfl rfl 0 (by decide) hw2 (fun _ h9 => h9) rfl dX8_changeLeast_50 ?_
      refine va_getN (D := (dC, dI)) (ci := 6) (v := .ref (a 10)) (C := RX6) (T := TX6) (N := 5) hx hb hts hinX6 hown hK hP 1 rfl rfl 2 (by decide) (nw0 hNW) (fun _ h9 => h9) rfl dX8_changeLeast_53 ?_
      refine va_getN (D := (dC, dI)) (ci := 0) (v := .ref (a 12)) (C := RX0) (T := TX0) (N := 4) hx hb hts hinX0 hown hK hP 10 rfl rfl 1 (by decide) (nw9 hNW) (fun _ h9 => h9) rfl dX8_changeLeast_56 ?_
      refine lv_iload_n hx hb dX8_changeLeast_59 rfl (lv_at hl 2 rfl) ?_
      refine lv_iload_n hx hb dX8_changeLeast_60 rfl (lv_at hl 3 rfl) ?_
      obtain ⟨hi, hf⟩ := gd_s hf
      refine va_iast (D := (dC, dI)) (f := (M 12)) hx hb hK hP hD hS 12 0 rfl rfl (inb_in hi) dX8_changeLeast_61 (fun H locs hP hD hS => ?_)
      have hP : va_P (dC, dI) vwCl (wX8 cI cZ cS (fS hs1) (fG hs1) a (sr (sr M 12 (upd (M 12) a1.toNatClampNeg a2)) 33 (q33.1 0)) ++ RW cI cZ hs1) H := hP
      have hD : va_D A (wX8 cI cZ cS (fS hs1) (fG hs1) a (sr (sr M 12 (upd (M 12) a1.toNatClampNeg a2)) 33 (q33.1 0)) ++ RW cI cZ hs1) := hD
      refine lv_iload_n hx hb dX8_changeLeast_62 rfl (lv_at hl 0 rfl) ?_
      have e9 := so_e hf
      cases e9
      exact W.iret hx hb hr (fun t ht hW => ⟨⟨_, hs1, rfl, ⟨rfl, hh1⟩, WE.mk hP hD ht⟩, hS.F ht⟩) hS.2.2 dX8_changeLeast_63
    · have hf := it_f hf c9
      have e9 := so_e hf
      cases e9
set_option maxHeartbeats 4000000 in
set_option maxRecDepth 100000 in
theorem n_X8_turnRule (l : Launch) (dC : Nat → ClassId) (dI : Nat → Nat → Nat) (cI cZ cS : ClassId) (hs : HS) (a : Nat → Nat) (sz : Nat) (M : Mem) (z1 : Int32) (z2 : Mem) (z3 : Nat → Option Mem) (hf : fX8_turnRule (cts hs) M  = some (Sum.inr z1, z2, z3)) : Met l yX8_turnRule wsX8_turnRule ({ frames := 4, cells := 16, slots := 316, locals := 124 } : Room) (va_Pc [.ref (a 0)] (WR8 (dC, dI) cI cZ cS (wX8 cI cZ cS (fS hs) (fG hs) a M ++ RW cI cZ hs) sz)) (va_Qi (S := HS) (fun r hs' => r = z1 ∧ cts hs' = z3) (fun hs' t => WE (dC, dI) cI cZ (wX8 cI cZ cS (fS hs') (fG hs') a z2 ++ RW cI cZ hs') (va_A (wX8 cI cZ cS (fS hs) (fG hs) a M ++ RW cI cZ hs) sz) t) (va_A (wX8 cI cZ cS (fS hs) (fG hs) a M ++ RW cI cZ hs) sz)) 16 316 (va_A (wX8 cI cZ cS (fS hs) (fG hs) a M ++ RW cI cZ hs) sz) := by
  refine Met.ofW (cc := cX8_turnRule) (maxL := 1) (ret := (some .boolean)) (by decide) rfl ?_
  intro p e s m args below meth c s₁ B hml hv
  obtain ⟨rfl, hsz, hP, hK, hD0, hNW⟩ := hv
  have hx := B.exec
  have hb := B.bytes
  have hr := B.returns
  have hts := atoms_spec (ws := wsX8_turnRule) B.pre
  have hown : s.vm.findClass RX8 = some m.cls := findClass_of_methodNamed B.named
  have hlocks := B.notSynchronized
  have hK2 : va_K (dC, dI) vwCl [(cI, .int), (cZ, .boolean)] s := hK.sub (tys' := [(cI, .int), (cZ, .boolean)]) [0, 1] rfl
  have hinX8 : ∀ w ∈ u_ws RX8 TX8 6, w ∈ wsX8_turnRule := by decide +kernel
  have hw1 := hts (.fieldLink RX8 22 "GlideShelves" "history" "LGlideShelves$History;") (by decide +kernel)
  have hw2 := hts (.fieldLink RX8 12 "GlideShelves" "now" "LGlideShelves$State;") (by decide +kernel)
  have hw3 := hts (.initialized RX1) (by decide +kernel)
  have hw4 := hts (.instanceMethod yX1_save) (by decide +kernel)
  have hw5 := hts (.selects RX1 yX1_save yX1_save) (by decide +kernel)
  have hinX6 : ∀ w ∈ u_ws RX6 TX6 5, w ∈ wsX8_turnRule := by decide +kernel
  have hinX2 : ∀ w ∈ u_ws RX2 TX2 7, w ∈ wsX8_turnRule := by decide +kernel
  subst hsz
  have hD := hD0.self (sz := s.heap.size)
  generalize hAe : va_A (wX8 cI cZ cS (fS hs) (fG hs) a M ++ RW cI cZ hs) s.heap.size = A at hD ⊢
  have hA : ∀ q : Nat, s.heap.size ≤ q → A q := fun q h => by rw [← hAe]; exact Or.inr h
  have hS : va_S A s.heap s.heap [] := va_S.rf
  have hl := lv_entry ([.ref (a 0)]) (n := 1) (Nat.le_of_ble_eq_true rfl)
  rw [lg_entry_eq]
  generalize (lg_sl ([.ref (a 0)]) ++ List.replicate (1 - (lg_sl ([.ref (a 0)])).length) Slot.unset).toArray = ls at hl ⊢
  have hl : lv_has ls 1 [(0, .ref (a 0))] := hl
  unfold fX8_turnRule at hf
  suffices hgo : ∀ (H : Heap) (locs : List Loc), va_P (dC, dI) vwCl (wX8 cI cZ cS (fS hs) (fG hs) a M ++ RW cI cZ hs) H → va_D A (wX8 cI cZ cS (fS hs) (fG hs) a M ++ RW cI cZ hs) → va_S A s.heap H locs → W p l e (headSpec wsX8_turnRule ({ frames := 4, cells := 16, slots := 316, locals := 124 } : Room)).room s m ([.ref (a 0)] : List Value).toArray below meth c H locs 0 0 (MQ below (va_Qi (S := HS) (fun r hs' => r = z1 ∧ cts hs' = z3) (fun hs' t => WE (dC, dI) cI cZ (wX8 cI cZ cS (fS hs') (fG hs') a z2 ++ RW cI cZ hs') A t) A) ([.ref (a 0)] : List Value).toArray s 16 316 A) (F0 m 0 ls []) from hgo _ _ hP hD hS
  intro H locs hP hD hS
  refine lv_aload_n hx hb dX8_turnRule_0 rfl (lv_at hl 0 rfl) ?_
  refine va_get (D := (dC, dI)) (ci := 8) (v := .ref (a 33)) (C := RX8) (T := TX8) (N := 6) hx hb hts hinX8 hown hK hP 0 rfl rfl 2 (by decide) hw1 (fun _ h9 => h9) rfl dX8_turnRule_1 ?_
  refine lv_aload_n hx hb dX8_turnRule_4 rfl (lv_at hl 0 rfl) ?_
  refine va_get (D := (dC, dI)) (ci := 8) (v := .ref (a 1)) (C := RX8) (T := TX8) (N := 6) hx hb hts hinX8 hown hK hP 0 rfl rfl 0 (by decide) hw2 (fun _ h9 => h9) rfl dX8_turnRule_5 ?_
  have hf := inrs_s hf
  obtain ⟨q8, hc8, hf⟩ := bi_s hf
  have hPc := hP.part (X := (wX8 cI cZ cS (fS hs) (fG hs) a M)) (cx := (wX1s cI cZ cS (fS hs) (fG hs) (pk [33, 34, 35, 1, 2, 3, 4, 5, 6, 7, 8, 9, 10, 11, 12, 13, 14, 15, 16] a) (pk [33, 34, 35, 1, 2, 3, 4, 5, 6, 7, 8, 9, 10, 11, 12, 13, 14, 15, 16] M))) [33, 34, 35, 1, 2, 3, 4, 5, 6, 7, 8, 9, 10, 11, 12, 13, 14, 15, 16] rfl
  have hDc := hD.part (X := (wX8 cI cZ cS (fS hs) (fG hs) a M)) (cx := (wX1s cI cZ cS (fS hs) (fG hs) (pk [33, 34, 35, 1, 2, 3, 4, 5, 6, 7, 8, 9, 10, 11, 12, 13, 14, 15, 16] a) (pk [33, 34, 35, 1, 2, 3, 4, 5, 6, 7, 8, 9, 10, 11, 12, 13, 14, 15, 16] M))) [33, 34, 35, 1, 2, 3, 4, 5, 6, 7, 8, 9, 10, 11, 12, 13, 14, 15, 16] (by decide) rfl
  have hFc := va_freeP (X := (wX8 cI cZ cS (fS hs) (fG hs) a M)) (cx := (wX1s cI cZ cS (fS hs) (fG hs) (pk [33, 34, 35, 1, 2, 3, 4, 5, 6, 7, 8, 9, 10, 11, 12, 13, 14, 15, 16] a) (pk [33, 34, 35, 1, 2, 3, 4, 5, 6, 7, 8, 9, 10, 11, 12, 13, 14, 15, 16] M))) hD hS hA [33, 34, 35, 1, 2, 3, 4, 5, 6, 7, 8, 9, 10, 11, 12, 13, 14, 15, 16] rfl
  refine va_callv (va_runVN (As := [.ref (a 1)]) (rest := []) ⟨hx, hb, hml, hown, hts⟩ (c_X1_save l dC dI cI cZ cS hs (pk [33, 34, 35, 1, 2, 3, 4, 5, 6, 7, 8, 9, 10, 11, 12, 13, 14, 15, 16] a) H.size (pk [33, 34, 35, 1, 2, 3, 4, 5, 6, 7, 8, 9, 10, 11, 12, 13, 14, 15, 16] M) q8 hc8) ⟨va_cnB 1 hts gX8_turnRule_X1_save_n70 rfl rfl rfl (nw67 hNW) hw3 (by decide +kernel) ⟨Nat.le_of_ble_eq_true rfl, Nat.le_of_ble_eq_true rfl⟩, hw4, hw5⟩ ⟨WR8.blind, va_recv hK hP (ci := 1) (q0 := 33) rfl rfl, WR8.pre hPc hK hDc hNW⟩ rfl rfl hl.1 rfl (lv_room (Nat.le_of_ble_eq_true rfl)) dX8_turnRule_8 ⟨Nat.le_of_ble_eq_true rfl, Nat.le_of_ble_eq_true rfl⟩) hS (fun q _ h => hFc q h) hFc (fun hs1 t H1 locs ht hvm hw hB hz1 hk1 hS => ?_)
  obtain ⟨hh1, hh6, hh7⟩ := hw
  obtain ⟨hP1, hD1⟩ := hB
  rw [ht] at hP1
  rw [fX1_save_rows hc8] at hP1 hD1
  obtain ⟨hP, hD⟩ := va_joinP (X := (wX8 cI cZ cS (fS hs) (fG hs) a M)) (cx := (wX1s cI cZ cS (fS hs) (fG hs) (pk [33, 34, 35, 1, 2, 3, 4, 5, 6, 7, 8, 9, 10, 11, 12, 13, 14, 15, 16] a) (pk [33, 34, 35, 1, 2, 3, 4, 5, 6, 7, 8, 9, 10, 11, 12, 13, 14, 15, 16] M))) (wr := [(a 0, .inr (8, [.ref (a 1), .ref (a 17), .ref (a 33), .ref (a 36), .ref (a 40), .ref (a 41)])), (a 17, .inr (6, [.ref (a 18), .ref (a 23), .ref (a 26), .ref (a 31), .int (M 17 4)])), (a 18, .inr (7, [.int (M 18 0), .int (M 18 1), .ref (a 19), .ref (a 20), .ref (a 21), .ref (a 22)])), (a 19, .inl (cI, 12, .inl (M 19))), (a 20, .inl (cI, 12, .inl (M 20))), (a 21, .inl (cI, 12, .inl (M 21))), (a 22, .inl (cI, 120, .inl (M 22))), (a 23, .inr (2, [.int (M 23 0), .int (M 23 1), .int (M 23 2), .int (M 23 3), .int (M 23 4), .ref (a 24), .ref (a 25)])), (a 24, .inl (cI, 8, .inl (M 24))), (a 25, .inl (cZ, 8, .inl (M 25))), (a 26, .inr (0, [.ref (a 27), .ref (a 28), .ref (a 29), .ref (a 30)])), (a 27, .inl (cI, 10, .inl (M 27))), (a 28, .inl (cI, 10, .inl (M 28))), (a 29, .inl (cI, 10, .inl (M 29))), (a 30, .inl (cI, 10, .inl (M 30))), (a 31, .inr (3, [.int (M 31 0), .ref (a 32)])), (a 32, .inl (cI, 80, .inl (M 32))), (a 36, .inr (5, [.int (M 36 0), .ref (a 37), .ref (a 38)])), (a 37, .inl (cI, 60, .inl (M 37))), (a 38, .inr (4, [.int (M 38 0), .int (M 38 1), .ref (a 39)])), (a 39, .inl (cI, 10, .inl (M 39))), (a 40, .inl (cI, 12, .inl (M 40))), (a 41, .inl (cI, 10, .inl (M 41)))]) (rx := (wX1s cI cZ cS (fS hs1) (fG hs1) (pk [33, 34, 35, 1, 2, 3, 4, 5, 6, 7, 8, 9, 10, 11, 12, 13, 14, 15, 16] a) (sr (pk [33, 34, 35, 1, 2, 3, 4, 5, 6, 7, 8, 9, 10, 11, 12, 13, 14, 15, 16] M) 0 (q8.1 0)))) hP hD [33, 34, 35, 1, 2, 3, 4, 5, 6, 7, 8, 9, 10, 11, 12, 13, 14, 15, 16] [0, 17, 18, 19, 20, 21, 22, 23, 24, 25, 26, 27, 28, 29, 30, 31, 32, 36, 37, 38, 39, 40, 41] rfl rfl (by decide) (by decide) hk1 hFc hP1 hD1
  have hP := P_perm (ws' := (wX8 cI cZ cS (fS hs1) (fG hs1) a (sr M 33 (q8.1 0)))) hP [0, 26, 27, 28, 29, 30, 31, 32, 33, 34, 35, 36, 37, 38, 39, 40, 41, 1, 2, 3, 4, 5, 6, 7, 8, 9, 10, 11, 12, 13, 14, 15, 16, 23, 24, 25, 17, 18, 19, 20, 21, 22] rfl
  have hD := D_perm (ws' := (wX8 cI cZ cS (fS hs1) (fG hs1) a (sr M 33 (q8.1 0)))) hD [0, 26, 27, 28, 29, 30, 31, 32, 33, 34, 35, 36, 37, 38, 39, 40, 41, 1, 2, 3, 4, 5, 6, 7, 8, 9, 10, 11, 12, 13, 14, 15, 16, 23, 24, 25, 17, 18, 19, 20, 21, 22] (by decide) rfl
  generalize H1 = H at hP hS ⊢
  refine lv_aload_n hx hb dX8_turnRule_11 rfl (lv_at hl 0 rfl) ?_
  refine va_get (D := (dC, dI)) (ci := 8) (v := .ref (a 1)) (C := RX8) (T := TX8) (N := 6) hx hb hts hinX8 hown hK hP 0 rfl rfl 0 (by decide) hw2 (fun _ h9 => h9) rfl dX8_turnRule_12 ?_
  refine va_getN (D := (dC, dI)) (ci := 6) (v := .ref (a 7)) (C := RX6) (T := TX6) (N := 5) hx hb hts hinX6 hown hK hP 1 rfl rfl 1 (by decide) (nw10 hNW) (fun _ h9 => h9) rfl dX8_turnRule_15 ?_
  refine lv_aload_n hx hb dX8_turnRule_18 rfl (lv_at hl 0 rfl) ?_
  refine va_get (D := (dC, dI)) (ci := 8) (v := .ref (a 1)) (C := RX8) (T := TX8) (N := 6) hx hb hts hinX8 hown hK hP 0 rfl rfl 0 (by decide) hw2 (fun _ h9 => h9) rfl dX8_turnRule_19 ?_
  refine va_getN (D := (dC, dI)) (ci := 6) (v := .ref (a 7)) (C := RX6) (T := TX6) (N := 5) hx hb hts hinX6 hown hK hP 1 rfl rfl 1 (by decide) (nw10 hNW) (fun _ h9 => h9) rfl dX8_turnRule_22 ?_
  refine va_getN (D := (dC, dI)) (ci := 2) (v := .int (M 7 1)) (C := RX2) (T := TX2) (N := 7) hx hb hts hinX2 hown hK hP 7 rfl rfl 1 (by decide) (nw11 hNW) (fun _ h9 => h9) rfl dX8_turnRule_25 ?_
  refine lv_if_ne (tgt := 35) hx hb dX8_turnRule_28 (by decide) (fun c9 => ?_) (fun c9 => ?_)
  · have hf := it_t hf c9
    refine lv_iconst (v := (0 : Int32)) hx hb dX8_turnRule_35 (by decide) ?_
    obtain ⟨hz, hf⟩ := gd_s hf
    refine va_putN (D := (dC, dI)) (ci := 2) (v := .int (0 : Int32)) (ty := .boolean) (C := RX2) (T := TX2) (N := 7) hx hb hts hinX2 tyX2 tyX2_ok nmX2 hown hK hP hD hS 7 rfl rfl 1 (by decide) (nw11 hNW) (fun _ h9 => h9) rfl (by decide +kernel) (isb_nar hz) (isb_fit hz) (Nat.le_of_ble_eq_true rfl) dX8_turnRule_36 (fun H locs hP hD hS => ?_)
    have hP : va_P (dC, dI) vwCl (wX8 cI cZ cS (fS hs1) (fG hs1) a (sr (sr M 7 (upd (M 7) 1 (0 : Int32))) 33 (q8.1 0)) ++ RW cI cZ hs1) H := hP
    have hD : va_D A (wX8 cI cZ cS (fS hs1) (fG hs1) a (sr (sr M 7 (upd (M 7) 1 (0 : Int32))) 33 (q8.1 0)) ++ RW cI cZ hs1) := hD
    refine lv_aload_n hx hb dX8_turnRule_39 rfl (lv_at hl 0 rfl) ?_
    refine va_get (D := (dC, dI)) (ci := 8) (v := .ref (a 1)) (C := RX8) (T := TX8) (N := 6) hx hb hts hinX8 hown hK hP 0 rfl rfl 0 (by decide) hw2 (fun _ h9 => h9) rfl dX8_turnRule_40 ?_
    refine va_getN (D := (dC, dI)) (ci := 6) (v := .ref (a 7)) (C := RX6) (T := TX6) (N := 5) hx hb hts hinX6 hown hK hP 1 rfl rfl 1 (by decide) (nw10 hNW) (fun _ h9 => h9) rfl dX8_turnRule_43 ?_
    refine va_getN (D := (dC, dI)) (ci := 2) (v := .int (0 : Int32)) (C := RX2) (T := TX2) (N := 7) hx hb hts hinX2 hown hK hP 7 rfl rfl 1 (by decide) (nw11 hNW) (fun _ h9 => h9) rfl dX8_turnRule_46 ?_
    obtain ⟨hz, hf⟩ := gd_s hf
    have e9 := so_e hf
    cases e9
    exact W.zret hx hb hr (isb_nar hz) (fun t ht hW => ⟨⟨_, hs1, rfl, ⟨rfl, hh1⟩, WE.mk hP hD ht⟩, hS.F ht⟩) hS.2.2 dX8_turnRule_49
  · have hf := it_n hf c9
    refine lv_iconst (v := (1 : Int32)) hx hb dX8_turnRule_31 (by decide) ?_
    refine lv_goto (tgt := 36) hx hb dX8_turnRule_32 (by decide) ?_
    obtain ⟨hz, hf⟩ := gd_s hf
    refine va_putN (D := (dC, dI)) (ci := 2) (v := .int (1 : Int32)) (ty := .boolean) (C := RX2) (T := TX2) (N := 7) hx hb hts hinX2 tyX2 tyX2_ok nmX2 hown hK hP hD hS 7 rfl rfl 1 (by decide) (nw11 hNW) (fun _ h9 => h9) rfl (by decide +kernel) (isb_nar hz) (isb_fit hz) (Nat.le_of_ble_eq_true rfl) dX8_turnRule_36 (fun H locs hP hD hS => ?_)
    have hP : va_P (dC, dI) vwCl (wX8 cI cZ cS (fS hs1) (fG hs1) a (sr (sr M 7 (upd (M 7) 1 (1 : Int32))) 33 (q8.1 0)) ++ RW cI cZ hs1) H := hP
    have hD : va_D A (wX8 cI cZ cS (fS hs1) (fG hs1) a (sr (sr M 7 (upd (M 7) 1 (1 : Int32))) 33 (q8.1 0)) ++ RW cI cZ hs1) := hD
    refine lv_aload_n hx hb dX8_turnRule_39 rfl (lv_at hl 0 rfl) ?_
    refine va_get (D := (dC, dI)) (ci := 8) (v := .ref (a 1)) (C := RX8) (T := TX8) (N := 6) hx hb hts hinX8 hown hK hP 0 rfl rfl 0 (by decide) hw2 (fun _ h9 => h9) rfl dX8_turnRule_40 ?_
    refine va_getN (D := (dC, dI)) (ci := 6) (v := .ref (a 7)) (C := RX6) (T := TX6) (N := 5) hx hb hts hinX6 hown hK hP 1 rfl rfl 1 (by decide) (nw10 hNW) (fun _ h9 => h9) rfl dX8_turnRule_43 ?_
    refine va_getN (D := (dC, dI)) (ci := 2) (v := .int (1 : Int32)) (C := RX2) (T := TX2) (N := 7) hx hb hts hinX2 hown hK hP 7 rfl rfl 1 (by decide) (nw11 hNW) (fun _ h9 => h9) rfl dX8_turnRule_46 ?_
    obtain ⟨hz, hf⟩ := gd_s hf
    have e9 := so_e hf
    cases e9
    exact W.zret hx hb hr (isb_nar hz) (fun t ht hW => ⟨⟨_, hs1, rfl, ⟨rfl, hh1⟩, WE.mk hP hD ht⟩, hS.F ht⟩) hS.2.2 dX8_turnRule_49
set_option maxHeartbeats 4000000 in
set_option maxRecDepth 100000 in
theorem n_X8_undo (l : Launch) (dC : Nat → ClassId) (dI : Nat → Nat → Nat) (cI cZ cS : ClassId) (hs : HS) (a : Nat → Nat) (sz : Nat) (M : Mem) (z2 : Mem) (z3 : Nat → Option Mem) (hf : fX8_undo (cts hs) M  = some (Sum.inr (), z2, z3)) : Met l yX8_undo wsX8_undo ({ frames := 4, cells := 0, slots := 0, locals := 124 } : Room) (va_Pc [.ref (a 0)] (WR8 (dC, dI) cI cZ cS (wX8 cI cZ cS (fS hs) (fG hs) a M ++ RW cI cZ hs) sz)) (va_Qv (S := HS) (fun hs' => cts hs' = z3) (fun hs' t => WE (dC, dI) cI cZ (wX8 cI cZ cS (fS hs') (fG hs') a z2 ++ RW cI cZ hs') (va_A (wX8 cI cZ cS (fS hs) (fG hs) a M ++ RW cI cZ hs) sz) t) (va_A (wX8 cI cZ cS (fS hs) (fG hs) a M ++ RW cI cZ hs) sz)) 0 0 (va_A (wX8 cI cZ cS (fS hs) (fG hs) a M ++ RW cI cZ hs) sz) := by
  refine Met.ofW (cc := cX8_undo) (maxL := 1) (ret := none) (by decide) rfl ?_
  intro p e s m args below meth c s₁ B hml hv
  obtain ⟨rfl, hsz, hP, hK, hD0, hNW⟩ := hv
  have hx := B.exec
  have hb := B.bytes
  have hr := B.returns
  have hts := atoms_spec (ws := wsX8_undo) B.pre
  have hown : s.vm.findClass RX8 = some m.cls := findClass_of_methodNamed B.named
  have hlocks := B.notSynchronized
  have hK2 : va_K (dC, dI) vwCl [(cI, .int), (cZ, .boolean)] s := hK.sub (tys' := [(cI, .int), (cZ, .boolean)]) [0, 1] rfl
  have hinX8 : ∀ w ∈ u_ws RX8 TX8 6, w ∈ wsX8_undo := by decide +kernel
  have hw1 := hts (.fieldLink RX8 22 "GlideShelves" "history" "LGlideShelves$History;") (by decide +kernel)
  have hw2 := hts (.fieldLink RX8 12 "GlideShelves" "now" "LGlideShelves$State;") (by decide +kernel)
  have hw3 := hts (.initialized RX1) (by decide +kernel)
  have hw4 := hts (.instanceMethod yX1_restoreLatest) (by decide +kernel)
  have hw5 := hts (.selects RX1 yX1_restoreLatest yX1_restoreLatest) (by decide +kernel)
  subst hsz
  have hD := hD0.self (sz := s.heap.size)
  generalize hAe : va_A (wX8 cI cZ cS (fS hs) (fG hs) a M ++ RW cI cZ hs) s.heap.size = A at hD ⊢
  have hA : ∀ q : Nat, s.heap.size ≤ q → A q := fun q h => by rw [← hAe]; exact Or.inr h
  have hS : va_S A s.heap s.heap [] := va_S.rf
  have hl := lv_entry ([.ref (a 0)]) (n := 1) (Nat.le_of_ble_eq_true rfl)
  rw [lg_entry_eq]
  generalize (lg_sl ([.ref (a 0)]) ++ List.replicate (1 - (lg_sl ([.ref (a 0)])).length) Slot.unset).toArray = ls at hl ⊢
  have hl : lv_has ls 1 [(0, .ref (a 0))] := hl
  unfold fX8_undo at hf
  suffices hgo : ∀ (H : Heap) (locs : List Loc), va_P (dC, dI) vwCl (wX8 cI cZ cS (fS hs) (fG hs) a M ++ RW cI cZ hs) H → va_D A (wX8 cI cZ cS (fS hs) (fG hs) a M ++ RW cI cZ hs) → va_S A s.heap H locs → W p l e (headSpec wsX8_undo ({ frames := 4, cells := 0, slots := 0, locals := 124 } : Room)).room s m ([.ref (a 0)] : List Value).toArray below meth c H locs 0 0 (MQ below (va_Qv (S := HS) (fun hs' => cts hs' = z3) (fun hs' t => WE (dC, dI) cI cZ (wX8 cI cZ cS (fS hs') (fG hs') a z2 ++ RW cI cZ hs') A t) A) ([.ref (a 0)] : List Value).toArray s 0 0 A) (F0 m 0 ls []) from hgo _ _ hP hD hS
  intro H locs hP hD hS
  refine lv_aload_n hx hb dX8_undo_0 rfl (lv_at hl 0 rfl) ?_
  refine va_get (D := (dC, dI)) (ci := 8) (v := .ref (a 33)) (C := RX8) (T := TX8) (N := 6) hx hb hts hinX8 hown hK hP 0 rfl rfl 2 (by decide) hw1 (fun _ h9 => h9) rfl dX8_undo_1 ?_
  refine lv_aload_n hx hb dX8_undo_4 rfl (lv_at hl 0 rfl) ?_
  refine va_get (D := (dC, dI)) (ci := 8) (v := .ref (a 1)) (C := RX8) (T := TX8) (N := 6) hx hb hts hinX8 hown hK hP 0 rfl rfl 0 (by decide) hw2 (fun _ h9 => h9) rfl dX8_undo_5 ?_
  obtain ⟨q8, hc8, hf⟩ := bi_s hf
  have hPc := hP.part (X := (wX8 cI cZ cS (fS hs) (fG hs) a M)) (cx := (wX1s cI cZ cS (fS hs) (fG hs) (pk [33, 34, 35, 1, 2, 3, 4, 5, 6, 7, 8, 9, 10, 11, 12, 13, 14, 15, 16] a) (pk [33, 34, 35, 1, 2, 3, 4, 5, 6, 7, 8, 9, 10, 11, 12, 13, 14, 15, 16] M))) [33, 34, 35, 1, 2, 3, 4, 5, 6, 7, 8, 9, 10, 11, 12, 13, 14, 15, 16] rfl
  have hDc := hD.part (X := (wX8 cI cZ cS (fS hs) (fG hs) a M)) (cx := (wX1s cI cZ cS (fS hs) (fG hs) (pk [33, 34, 35, 1, 2, 3, 4, 5, 6, 7, 8, 9, 10, 11, 12, 13, 14, 15, 16] a) (pk [33, 34, 35, 1, 2, 3, 4, 5, 6, 7, 8, 9, 10, 11, 12, 13, 14, 15, 16] M))) [33, 34, 35, 1, 2, 3, 4, 5, 6, 7, 8, 9, 10, 11, 12, 13, 14, 15, 16] (by decide) rfl
  have hFc := va_freeP (X := (wX8 cI cZ cS (fS hs) (fG hs) a M)) (cx := (wX1s cI cZ cS (fS hs) (fG hs) (pk [33, 34, 35, 1, 2, 3, 4, 5, 6, 7, 8, 9, 10, 11, 12, 13, 14, 15, 16] a) (pk [33, 34, 35, 1, 2, 3, 4, 5, 6, 7, 8, 9, 10, 11, 12, 13, 14, 15, 16] M))) hD hS hA [33, 34, 35, 1, 2, 3, 4, 5, 6, 7, 8, 9, 10, 11, 12, 13, 14, 15, 16] rfl
  refine va_calli (va_runVN (As := [.ref (a 1)]) (rest := []) ⟨hx, hb, hml, hown, hts⟩ (c_X1_restoreLatest l dC dI cI cZ cS hs (pk [33, 34, 35, 1, 2, 3, 4, 5, 6, 7, 8, 9, 10, 11, 12, 13, 14, 15, 16] a) H.size (pk [33, 34, 35, 1, 2, 3, 4, 5, 6, 7, 8, 9, 10, 11, 12, 13, 14, 15, 16] M) q8 hc8) ⟨va_cnB 1 hts gX8_undo_X1_restoreLatest_n268 rfl rfl rfl (nw51 hNW) hw3 (by decide +kernel) ⟨Nat.le_of_ble_eq_true rfl, Nat.le_of_ble_eq_true rfl⟩, hw4, hw5⟩ ⟨WR8.blind, va_recv hK hP (ci := 1) (q0 := 33) rfl rfl, WR8.pre hPc hK hDc hNW⟩ rfl rfl hl.1 rfl (lv_room (Nat.le_of_ble_eq_true rfl)) dX8_undo_8 ⟨Nat.le_of_ble_eq_true rfl, Nat.le_of_ble_eq_true rfl⟩) hS (fun q _ h => hFc q h) hFc (fun rv u t H1 locs ht hvm hw hB hz1 hk1 hS => ?_)
  obtain ⟨hP1, hD1⟩ := hB
  rw [ht] at hP1
  subst hw
  obtain ⟨hP, hD⟩ := va_joinP (X := (wX8 cI cZ cS (fS hs) (fG hs) a M)) (cx := (wX1s cI cZ cS (fS hs) (fG hs) (pk [33, 34, 35, 1, 2, 3, 4, 5, 6, 7, 8, 9, 10, 11, 12, 13, 14, 15, 16] a) (pk [33, 34, 35, 1, 2, 3, 4, 5, 6, 7, 8, 9, 10, 11, 12, 13, 14, 15, 16] M))) (wr := [(a 0, .inr (8, [.ref (a 1), .ref (a 17), .ref (a 33), .ref (a 36), .ref (a 40), .ref (a 41)])), (a 17, .inr (6, [.ref (a 18), .ref (a 23), .ref (a 26), .ref (a 31), .int (M 17 4)])), (a 18, .inr (7, [.int (M 18 0), .int (M 18 1), .ref (a 19), .ref (a 20), .ref (a 21), .ref (a 22)])), (a 19, .inl (cI, 12, .inl (M 19))), (a 20, .inl (cI, 12, .inl (M 20))), (a 21, .inl (cI, 12, .inl (M 21))), (a 22, .inl (cI, 120, .inl (M 22))), (a 23, .inr (2, [.int (M 23 0), .int (M 23 1), .int (M 23 2), .int (M 23 3), .int (M 23 4), .ref (a 24), .ref (a 25)])), (a 24, .inl (cI, 8, .inl (M 24))), (a 25, .inl (cZ, 8, .inl (M 25))), (a 26, .inr (0, [.ref (a 27), .ref (a 28), .ref (a 29), .ref (a 30)])), (a 27, .inl (cI, 10, .inl (M 27))), (a 28, .inl (cI, 10, .inl (M 28))), (a 29, .inl (cI, 10, .inl (M 29))), (a 30, .inl (cI, 10, .inl (M 30))), (a 31, .inr (3, [.int (M 31 0), .ref (a 32)])), (a 32, .inl (cI, 80, .inl (M 32))), (a 36, .inr (5, [.int (M 36 0), .ref (a 37), .ref (a 38)])), (a 37, .inl (cI, 60, .inl (M 37))), (a 38, .inr (4, [.int (M 38 0), .int (M 38 1), .ref (a 39)])), (a 39, .inl (cI, 10, .inl (M 39))), (a 40, .inl (cI, 12, .inl (M 40))), (a 41, .inl (cI, 10, .inl (M 41)))]) (rx := (wX1s cI cZ cS (fS hs) (fG hs) (pk [33, 34, 35, 1, 2, 3, 4, 5, 6, 7, 8, 9, 10, 11, 12, 13, 14, 15, 16] a) q8.2)) hP hD [33, 34, 35, 1, 2, 3, 4, 5, 6, 7, 8, 9, 10, 11, 12, 13, 14, 15, 16] [0, 17, 18, 19, 20, 21, 22, 23, 24, 25, 26, 27, 28, 29, 30, 31, 32, 36, 37, 38, 39, 40, 41] rfl rfl (by decide) (by decide) hk1 hFc hP1 hD1
  have hP := P_perm (ws' := (wX8 cI cZ cS (fS hs) (fG hs) a (sr (sr (sr (sr (sr (sr (sr (sr (sr (sr (sr (sr (sr (sr (sr (sr (sr M 1 (q8.2 3)) 2 (q8.2 4)) 3 (q8.2 5)) 4 (q8.2 6)) 5 (q8.2 7)) 6 (q8.2 8)) 7 (q8.2 9)) 8 (q8.2 10)) 9 (q8.2 11)) 10 (q8.2 12)) 11 (q8.2 13)) 12 (q8.2 14)) 13 (q8.2 15)) 14 (q8.2 16)) 15 (q8.2 17)) 16 (q8.2 18)) 33 (q8.2 0)))) hP [0, 26, 27, 28, 29, 30, 31, 32, 33, 34, 35, 36, 37, 38, 39, 40, 41, 1, 2, 3, 4, 5, 6, 7, 8, 9, 10, 11, 12, 13, 14, 15, 16, 23, 24, 25, 17, 18, 19, 20, 21, 22] rfl
  have hD := D_perm (ws' := (wX8 cI cZ cS (fS hs) (fG hs) a (sr (sr (sr (sr (sr (sr (sr (sr (sr (sr (sr (sr (sr (sr (sr (sr (sr M 1 (q8.2 3)) 2 (q8.2 4)) 3 (q8.2 5)) 4 (q8.2 6)) 5 (q8.2 7)) 6 (q8.2 8)) 7 (q8.2 9)) 8 (q8.2 10)) 9 (q8.2 11)) 10 (q8.2 12)) 11 (q8.2 13)) 12 (q8.2 14)) 13 (q8.2 15)) 14 (q8.2 16)) 15 (q8.2 17)) 16 (q8.2 18)) 33 (q8.2 0)))) hD [0, 26, 27, 28, 29, 30, 31, 32, 33, 34, 35, 36, 37, 38, 39, 40, 41, 1, 2, 3, 4, 5, 6, 7, 8, 9, 10, 11, 12, 13, 14, 15, 16, 23, 24, 25, 17, 18, 19, 20, 21, 22] (by decide) rfl
  generalize H1 = H at hP hS ⊢
  refine lv_if_ne (tgt := 25) hx hb dX8_undo_11 (by decide) (fun c9 => ?_) (fun c9 => ?_)
  · have hf := it_t hf c9
    have e9 := so_e hf
    cases e9
    exact W.vret hx hb hr (fun t ht hW => ⟨⟨hs, rfl, rfl, WE.mk hP hD ht⟩, hS.F ht⟩) hS.2.2 dX8_undo_25
  · have hf := it_n hf c9
    have e9 := so_e hf
    cases e9
