set_option maxHeartbeats 4000000 in
set_option maxRecDepth 100000 in
theorem c_X8_fewestFound (l : Launch) (dC : Nat → ClassId) (dI : Nat → Nat → Nat) (cI cZ cS : ClassId) (f g : Nat → Option Nat) (a : Nat → Nat) (sz : Nat) (M : Mem) (a1 : Int32) (z : Int32 × Mem) (hf : fX8_fewestFound M a1 = some z) : Met l yX8_fewestFound wsX8_fewestFound ({ frames := 19, cells := 0, slots := 0, locals := 470 } : Room) (va_Pc [.ref (a 0), .int a1] (WR8 (dC, dI) cI cZ cS (wX8 cI cZ cS f g a M) sz)) (va_Qi (S := Unit) (fun r _ => r = z.1) (fun _ t => WE (dC, dI) cI cZ (wX8 cI cZ cS f g a (sr M 41 (z.2 41))) (va_A (wX8 cI cZ cS f g a M) sz) t) (va_A (wX8 cI cZ cS f g a M) sz)) 0 0 (va_A (wX8 cI cZ cS f g a M) sz) := by
  refine Met.ofW (cc := cX8_fewestFound) (maxL := 3) (ret := (some .int)) (by decide) rfl ?_
  intro p e s m args below meth c s₁ B hml hv
  obtain ⟨rfl, hsz, hP, hK, hD0, hNW⟩ := hv
  have hK2 : va_K (dC, dI) vwCl [(cI, .int), (cZ, .boolean)] s := hK.sub (tys' := [(cI, .int), (cZ, .boolean)]) [0, 1] rfl
  have hx := B.exec
  have hb := B.bytes
  have hr := B.returns
  have hts := atoms_spec (ws := wsX8_fewestFound) B.pre
  have hown : s.vm.findClass RX8 = some m.cls := findClass_of_methodNamed B.named
  have hlocks := B.notSynchronized
  have hinX8 : ∀ w ∈ u_ws RX8 TX8 6, w ∈ wsX8_fewestFound := by decide +kernel
  have hw1 := hts (.fieldLink RX8 37 "GlideShelves" "lacking" "[I") (by decide +kernel)
  have hw2 := hts (.fieldLink RX8 12 "GlideShelves" "now" "LGlideShelves$State;") (by decide +kernel)
  have hinX6 : ∀ w ∈ u_ws RX6 TX6 5, w ∈ wsX8_fewestFound := by decide +kernel
  have hw4 := hts (.initialized RX3) (by decide +kernel)
  have hw5 := hts (.instanceMethod yX3_wantedOf) (by decide +kernel)
  have hw6 := hts (.selects RX3 yX3_wantedOf yX3_wantedOf) (by decide +kernel)
  subst hsz
  have hD := hD0.self (sz := s.heap.size)
  generalize hAe : va_A (wX8 cI cZ cS f g a M) s.heap.size = A at hD ⊢
  have hA : ∀ q : Nat, s.heap.size ≤ q → A q := fun q h => by rw [← hAe]; exact Or.inr h
  have hS : va_S A s.heap s.heap [] := va_S.rf
  have hfX8_fewestFound_L2 : ∀ (n : Nat) (kx32 : Mem → Option (Int32 × Mem)) (hkx32 : ∀ (N : Mem), kx32 N = some z → ∀ (ls : Array Slot), lv_has ls 3 [(0, .ref (a 0))] → ∀ (H : Heap) (locs : List Loc), va_P (dC, dI) vwCl (wX8 cI cZ cS f g a (sr M 41 (N 41))) H → va_D A (wX8 cI cZ cS f g a (sr M 41 (N 41))) → va_S A s.heap H locs → W p l e (headSpec wsX8_fewestFound ({ frames := 19, cells := 0, slots := 0, locals := 470 } : Room)).room s m ([.ref (a 0), .int a1] : List Value).toArray below meth c H locs 0 0 (MQ below (va_Qi (S := Unit) (fun r _ => r = z.1) (fun _ t => WE (dC, dI) cI cZ (wX8 cI cZ cS f g a (sr M 41 (z.2 41))) A t) A) ([.ref (a 0), .int a1] : List Value).toArray s 0 0 A) (F0 m 32 ls [])), ∀ (N : Mem) (l1 : Int32) (l2 : Int32), fX8_fewestFound_L2 M n kx32 N l1 l2 = some z → ∀ (ls : Array Slot), lv_has ls 3 [(0, .ref (a 0)), (1, .int l1), (2, .int l2)] → ∀ (H : Heap) (locs : List Loc), va_P (dC, dI) vwCl (wX8 cI cZ cS f g a (sr M 41 (N 41))) H → va_D A (wX8 cI cZ cS f g a (sr M 41 (N 41))) → va_S A s.heap H locs → W p l e (headSpec wsX8_fewestFound ({ frames := 19, cells := 0, slots := 0, locals := 470 } : Room)).room s m ([.ref (a 0), .int a1] : List Value).toArray below meth c H locs 0 0 (MQ below (va_Qi (S := Unit) (fun r _ => r = z.1) (fun _ t => WE (dC, dI) cI cZ (wX8 cI cZ cS f g a (sr M 41 (z.2 41))) A t) A) ([.ref (a 0), .int a1] : List Value).toArray s 0 0 A) (F0 m 2 ls []) := by
    intro n
    induction n with
    | zero =>
      intro kx32 hkx32 N l1 l2 hf ls hl H locs hP hD hS
      rw [fX8_fewestFound_L2] at hf
      cases hf
    | succ n ih =>
      intro kx32 hkx32 N l1 l2 hf ls hl H locs hP hD hS
      rw [fX8_fewestFound_L2] at hf
      refine lv_iload_n hx hb dX8_fewestFound_2 rfl (lv_at hl 2 rfl) ?_
      refine lv_bipush (v := (10 : Int32)) hx hb dX8_fewestFound_3 (by decide) ?_
      refine lv_icmp_ge (tgt := 32) hx hb dX8_fewestFound_5 (by decide) (fun c9 => ?_) (fun c9 => ?_)
      · have hf := it_t hf c9
        exact hkx32 (sr M 41 (N 41)) hf _ (lv_sub hl [0] rfl) _ _ hP hD hS
      · have hf := it_f hf c9
        refine lv_aload_n hx hb dX8_fewestFound_8 rfl (lv_at hl 0 rfl) ?_
        refine va_get (D := (dC, dI)) (ci := 8) (v := .ref (a 41)) (C := RX8) (T := TX8) (N := 6) hx hb hts hinX8 hown hK hP 0 rfl rfl 5 (by decide) hw1 (fun _ h9 => h9) rfl dX8_fewestFound_9 ?_
        refine lv_iload_n hx hb dX8_fewestFound_12 rfl (lv_at hl 2 rfl) ?_
        refine lv_aload_n hx hb dX8_fewestFound_13 rfl (lv_at hl 0 rfl) ?_
        refine va_get (D := (dC, dI)) (ci := 8) (v := .ref (a 1)) (C := RX8) (T := TX8) (N := 6) hx hb hts hinX8 hown hK hP 0 rfl rfl 0 (by decide) hw2 (fun _ h9 => h9) rfl dX8_fewestFound_14 ?_
        refine va_getN (D := (dC, dI)) (ci := 6) (v := .ref (a 15)) (C := RX6) (T := TX6) (N := 5) hx hb hts hinX6 hown hK hP 1 rfl rfl 3 (by decide) (nw4 hNW) (fun _ h9 => h9) rfl dX8_fewestFound_17 ?_
        refine lv_iload_n hx hb dX8_fewestFound_20 rfl (lv_at hl 1 rfl) ?_
        refine lv_iload_n hx hb dX8_fewestFound_21 rfl (lv_at hl 2 rfl) ?_
        obtain ⟨r22, hc22, hf⟩ := bi_s hf
        have hPc := hP.sub (ws' := (wX3 cI cZ (ofs 15 a) (ofs 15 (sr M 41 (N 41))))) [15, 16] rfl
        refine cRO (va_Run.run (va_runVN (As := [.int l1, .int l2]) (rest := [.int l2, .ref (a 41)]) ⟨hx, hb, hml, hown, hts⟩ (c_X3_wantedOf l dC dI cI cZ (ofs 15 a) (ofs 15 (sr M 41 (N 41))) l1 l2 r22 hc22) ⟨va_cnB 2 hts gX8_fewestFound_X3_wantedOf_n326 rfl rfl rfl (nw59 hNW) hw4 (by decide +kernel) ⟨Nat.le_of_ble_eq_true rfl, Nat.le_of_ble_eq_true rfl⟩, hw5, hw6⟩ ⟨RO.blind, va_recv hK hP (ci := 3) (q0 := 15) rfl rfl, RO.pre hPc hK2 hNW⟩ rfl rfl hl.1 rfl (lv_room (Nat.le_of_ble_eq_true rfl)) dX8_fewestFound_22 ⟨Nat.le_of_ble_eq_true rfl, Nat.le_of_ble_eq_true rfl⟩)) ?_
        obtain ⟨hi, hf⟩ := gd_s hf
        refine va_iast (D := (dC, dI)) (f := (N 41)) hx hb hK hP hD hS 41 0 rfl rfl (inb_in hi) dX8_fewestFound_25 (fun H locs hP hD hS => ?_)
        have hP : va_P (dC, dI) vwCl (wX8 cI cZ cS f g a (sr M 41 (upd (N 41) l2.toNatClampNeg r22))) H := hP
        have hD : va_D A (wX8 cI cZ cS f g a (sr M 41 (upd (N 41) l2.toNatClampNeg r22))) := hD
        refine lv_iinc (v := (l2 + (1 : Int32))) (lv' := [(2, .int (l2 + (1 : Int32))), (0, .ref (a 0)), (1, .int l1)]) hx hb dX8_fewestFound_26 hl (k := 2) rfl rfl (by decide) rfl (fun ls hl => ?_)
        refine lv_goto (tgt := 2) hx hb dX8_fewestFound_29 (by decide) ?_
        exact ih kx32 hkx32 (sr M 41 (upd (N 41) l2.toNatClampNeg r22)) l1 (l2 + (1 : Int32)) hf _ (lv_sub hl [1, 2, 0] rfl) _ _ hP hD hS
  have hl := lv_entry ([.ref (a 0), .int a1]) (n := 3) (Nat.le_of_ble_eq_true rfl)
  rw [lg_entry_eq]
  generalize (lg_sl ([.ref (a 0), .int a1]) ++ List.replicate (3 - (lg_sl ([.ref (a 0), .int a1])).length) Slot.unset).toArray = ls at hl ⊢
  have hl : lv_has ls 3 [(0, .ref (a 0)), (1, .int a1)] := hl
  unfold fX8_fewestFound at hf
  suffices hgo : ∀ (H : Heap) (locs : List Loc), va_P (dC, dI) vwCl (wX8 cI cZ cS f g a M) H → va_D A (wX8 cI cZ cS f g a M) → va_S A s.heap H locs → W p l e (headSpec wsX8_fewestFound ({ frames := 19, cells := 0, slots := 0, locals := 470 } : Room)).room s m ([.ref (a 0), .int a1] : List Value).toArray below meth c H locs 0 0 (MQ below (va_Qi (S := Unit) (fun r _ => r = z.1) (fun _ t => WE (dC, dI) cI cZ (wX8 cI cZ cS f g a (sr M 41 (z.2 41))) A t) A) ([.ref (a 0), .int a1] : List Value).toArray s 0 0 A) (F0 m 0 ls []) from hgo _ _ hP hD hS
  intro H locs hP hD hS
  refine lv_iconst (v := (0 : Int32)) hx hb dX8_fewestFound_0 (by decide) ?_
  refine lv_istore_n (lv' := [(2, .int (0 : Int32)), (0, .ref (a 0)), (1, .int a1)]) hx hb dX8_fewestFound_1 rfl hl (by decide) rfl (fun ls hl => ?_)
  refine hfX8_fewestFound_L2 5000 _ (fun N hf ls hl H locs hP hD hS => ?_) M a1 (0 : Int32) hf _ (lv_sub hl [1, 2, 0] rfl) _ _ hP hD hS
  refine lv_aload_n hx hb dX8_fewestFound_32 rfl (lv_at hl 0 rfl) ?_
  refine va_get (D := (dC, dI)) (ci := 8) (v := .ref (a 1)) (C := RX8) (T := TX8) (N := 6) hx hb hts hinX8 hown hK hP 0 rfl rfl 0 (by decide) hw2 (fun _ h9 => h9) rfl dX8_fewestFound_33 ?_
  refine va_getN (D := (dC, dI)) (ci := 6) (v := .ref (a 2)) (C := RX6) (T := TX6) (N := 5) hx hb hts hinX6 hown hK hP 1 rfl rfl 0 (by decide) (nw23 hNW) (fun _ h9 => h9) rfl dX8_fewestFound_36 ?_
  refine lv_aload_n hx hb dX8_fewestFound_39 rfl (lv_at hl 0 rfl) ?_
  refine va_get (D := (dC, dI)) (ci := 8) (v := .ref (a 41)) (C := RX8) (T := TX8) (N := 6) hx hb hts hinX8 hown hK hP 0 rfl rfl 5 (by decide) hw1 (fun _ h9 => h9) rfl dX8_fewestFound_40 ?_
  refine lv_iconst (v := (0 : Int32)) hx hb dX8_fewestFound_43 (by decide) ?_
  refine lv_iconst (v := (0 : Int32)) hx hb dX8_fewestFound_44 (by decide) ?_
  refine lv_bipush (v := (13 : Int32)) hx hb dX8_fewestFound_45 (by decide) ?_
  obtain ⟨r47, hc47, hf⟩ := bi_s hf
  have hPc := hP.sub (ws' := (wX8_fewestFrom cI cZ (pk [2, 3, 4, 5, 6, 41] a) (pk [2, 3, 4, 5, 6, 41] (sr M 41 (N 41))))) [2, 3, 4, 5, 6, 41] rfl
  have hDc := hD.sub (ws' := (wX8_fewestFrom cI cZ (pk [2, 3, 4, 5, 6, 41] a) (pk [2, 3, 4, 5, 6, 41] (sr M 41 (N 41))))) [2, 3, 4, 5, 6, 41] (by decide) rfl
  have hFc := va_free (wc := (wX8_fewestFrom cI cZ (pk [2, 3, 4, 5, 6, 41] a) (pk [2, 3, 4, 5, 6, 41] (sr M 41 (N 41))))) hD hS hA [2, 3, 4, 5, 6, 41] rfl
  refine va_calli (va_runS (As := [.ref (a 2), .ref (a 41), .int (0 : Int32), .int (0 : Int32), .int (13 : Int32)]) (rest := []) ⟨hx, hb, hml, hown, hts⟩ (c_X8_fewestFrom_14 l dC dI cI cZ (pk [2, 3, 4, 5, 6, 41] a) H.size (pk [2, 3, 4, 5, 6, 41] (sr M 41 (N 41))) (0 : Int32) (0 : Int32) (13 : Int32) r47 hc47) (va_cwS 5 hts gX8_fewestFound_X8_fewestFrom rfl rfl rfl (by decide +kernel) ⟨Nat.le_of_ble_eq_true rfl, Nat.le_of_ble_eq_true rfl⟩) ⟨WR.blind, WR.pre hPc hK2 hDc hNW⟩ rfl rfl hl.1 rfl (lv_room (Nat.le_of_ble_eq_true rfl)) dX8_fewestFound_47 ⟨Nat.le_of_ble_eq_true rfl, Nat.le_of_ble_eq_true rfl⟩) hS (fun q _ h => hFc q h) hFc (fun rv u t H1 locs ht hvm hw hB hz1 hk1 hS => ?_)
  obtain ⟨hP1, hD1⟩ := hB
  rw [ht] at hP1
  subst hw
  obtain ⟨hP, hD⟩ := va_join (wr := [(a 0, .inr (8, [.ref (a 1), .ref (a 17), .ref (a 33), .ref (a 36), .ref (a 40), .ref (a 41)])), (a 1, .inr (6, [.ref (a 2), .ref (a 7), .ref (a 10), .ref (a 15), .int (M 1 4)])), (a 7, .inr (2, [.int (M 7 0), .int (M 7 1), .int (M 7 2), .int (M 7 3), .int (M 7 4), .ref (a 8), .ref (a 9)])), (a 8, .inl (cI, 8, .inl (M 8))), (a 9, .inl (cZ, 8, .inl (M 9))), (a 10, .inr (0, [.ref (a 11), .ref (a 12), .ref (a 13), .ref (a 14)])), (a 11, .inl (cI, 10, .inl (M 11))), (a 12, .inl (cI, 10, .inl (M 12))), (a 13, .inl (cI, 10, .inl (M 13))), (a 14, .inl (cI, 10, .inl (M 14))), (a 15, .inr (3, [.int (M 15 0), .ref (a 16)])), (a 16, .inl (cI, 80, .inl (M 16))), (a 17, .inr (6, [.ref (a 18), .ref (a 23), .ref (a 26), .ref (a 31), .int (M 17 4)])), (a 18, .inr (7, [.int (M 18 0), .int (M 18 1), .ref (a 19), .ref (a 20), .ref (a 21), .ref (a 22)])), (a 19, .inl (cI, 12, .inl (M 19))), (a 20, .inl (cI, 12, .inl (M 20))), (a 21, .inl (cI, 12, .inl (M 21))), (a 22, .inl (cI, 120, .inl (M 22))), (a 23, .inr (2, [.int (M 23 0), .int (M 23 1), .int (M 23 2), .int (M 23 3), .int (M 23 4), .ref (a 24), .ref (a 25)])), (a 24, .inl (cI, 8, .inl (M 24))), (a 25, .inl (cZ, 8, .inl (M 25))), (a 26, .inr (0, [.ref (a 27), .ref (a 28), .ref (a 29), .ref (a 30)])), (a 27, .inl (cI, 10, .inl (M 27))), (a 28, .inl (cI, 10, .inl (M 28))), (a 29, .inl (cI, 10, .inl (M 29))), (a 30, .inl (cI, 10, .inl (M 30))), (a 31, .inr (3, [.int (M 31 0), .ref (a 32)])), (a 32, .inl (cI, 80, .inl (M 32))), (a 33, .inr (1, [.int (M 33 0), .ref (a 34), .ref (a 35)])), (a 34, .inl (cS, 6, .inr (.inr (.inr (.inr f))))), (a 35, .inl (cS, 2, .inr (.inr (.inr (.inr g))))), (a 36, .inr (5, [.int (M 36 0), .ref (a 37), .ref (a 38)])), (a 37, .inl (cI, 60, .inl (M 37))), (a 38, .inr (4, [.int (M 38 0), .int (M 38 1), .ref (a 39)])), (a 39, .inl (cI, 10, .inl (M 39))), (a 40, .inl (cI, 12, .inl (M 40)))]) (w1 := (wX8_fewestFrom cI cZ (pk [2, 3, 4, 5, 6, 41] a) (sr (pk [2, 3, 4, 5, 6, 41] (sr M 41 (N 41))) 5 (r47.2 5)))) hP hD [2, 3, 4, 5, 6, 41] [0, 1, 7, 8, 9, 10, 11, 12, 13, 14, 15, 16, 17, 18, 19, 20, 21, 22, 23, 24, 25, 26, 27, 28, 29, 30, 31, 32, 33, 34, 35, 36, 37, 38, 39, 40] rfl rfl (by decide) (by decide) hk1 hFc hP1 hD1
  have hP := hP.sub (ws' := (wX8 cI cZ cS f g a (sr M 41 (r47.2 5)))) [0, 1, 36, 37, 38, 39, 40, 2, 3, 4, 5, 6, 7, 8, 9, 10, 11, 12, 13, 14, 15, 16, 17, 18, 19, 20, 21, 22, 23, 24, 25, 26, 27, 28, 29, 30, 31, 32, 33, 34, 35, 41] rfl
  have hD := hD.sub (ws' := (wX8 cI cZ cS f g a (sr M 41 (r47.2 5)))) [0, 1, 36, 37, 38, 39, 40, 2, 3, 4, 5, 6, 7, 8, 9, 10, 11, 12, 13, 14, 15, 16, 17, 18, 19, 20, 21, 22, 23, 24, 25, 26, 27, 28, 29, 30, 31, 32, 33, 34, 35, 41] (by decide) rfl
  generalize H1 = H at hP hS ⊢
  have e9 := so_e hf
  subst e9
  exact W.iret (v := r47.1) hx hb hr (fun t ht hW => ⟨⟨r47.1, (), rfl, rfl, WE.mk hP hD ht⟩, hS.F ht⟩) hS.2.2 dX8_fewestFound_50
set_option maxHeartbeats 4000000 in
set_option maxRecDepth 100000 in
theorem n_X8_fewestByGoing (l : Launch) (dC : Nat → ClassId) (dI : Nat → Nat → Nat) (cI cZ cS : ClassId) (f g : Nat → Option Nat) (a : Nat → Nat) (sz : Nat) (M : Mem) (a1 : Int32) (z1 : Int32) (z2 : Mem) (hf : fX8_fewestByGoing M a1 = some (Sum.inr z1, z2)) : Met l yX8_fewestByGoing wsX8_fewestByGoing ({ frames := 20, cells := 0, slots := 0, locals := 492 } : Room) (va_Pc [.ref (a 0), .int a1] (WR8 (dC, dI) cI cZ cS (wX8 cI cZ cS f g a M) sz)) (va_Qi (S := Unit) (fun r _ => r = z1) (fun _ t => WE (dC, dI) cI cZ (wX8 cI cZ cS f g a (sr M 41 (z2 41))) (va_A (wX8 cI cZ cS f g a M) sz) t) (va_A (wX8 cI cZ cS f g a M) sz)) 0 0 (va_A (wX8 cI cZ cS f g a M) sz) := by
  refine Met.ofW (cc := cX8_fewestByGoing) (maxL := 2) (ret := (some .int)) (by decide) rfl ?_
  intro p e s m args below meth c s₁ B hml hv
  obtain ⟨rfl, hsz, hP, hK, hD0, hNW⟩ := hv
  have hx := B.exec
  have hb := B.bytes
  have hr := B.returns
  have hts := atoms_spec (ws := wsX8_fewestByGoing) B.pre
  have hown : s.vm.findClass RX8 = some m.cls := findClass_of_methodNamed B.named
  have hlocks := B.notSynchronized
  have hK2 : va_K (dC, dI) vwCl [(cI, .int), (cZ, .boolean)] s := hK.sub (tys' := [(cI, .int), (cZ, .boolean)]) [0, 1] rfl
  subst hsz
  have hD := hD0.self (sz := s.heap.size)
  generalize hAe : va_A (wX8 cI cZ cS f g a M) s.heap.size = A at hD ⊢
  have hA : ∀ q : Nat, s.heap.size ≤ q → A q := fun q h => by rw [← hAe]; exact Or.inr h
  have hS : va_S A s.heap s.heap [] := va_S.rf
  have hl := lv_entry ([.ref (a 0), .int a1]) (n := 2) (Nat.le_of_ble_eq_true rfl)
  rw [lg_entry_eq]
  generalize (lg_sl ([.ref (a 0), .int a1]) ++ List.replicate (2 - (lg_sl ([.ref (a 0), .int a1])).length) Slot.unset).toArray = ls at hl ⊢
  have hl : lv_has ls 2 [(0, .ref (a 0)), (1, .int a1)] := hl
  unfold fX8_fewestByGoing at hf
  suffices hgo : ∀ (H : Heap) (locs : List Loc), va_P (dC, dI) vwCl (wX8 cI cZ cS f g a M) H → va_D A (wX8 cI cZ cS f g a M) → va_S A s.heap H locs → W p l e (headSpec wsX8_fewestByGoing ({ frames := 20, cells := 0, slots := 0, locals := 492 } : Room)).room s m ([.ref (a 0), .int a1] : List Value).toArray below meth c H locs 0 0 (MQ below (va_Qi (S := Unit) (fun r _ => r = z1) (fun _ t => WE (dC, dI) cI cZ (wX8 cI cZ cS f g a (sr M 41 (z2 41))) A t) A) ([.ref (a 0), .int a1] : List Value).toArray s 0 0 A) (F0 m 0 ls []) from hgo _ _ hP hD hS
  intro H locs hP hD hS
  refine lv_aload_n hx hb dX8_fewestByGoing_0 rfl (lv_at hl 0 rfl) ?_
  refine lv_iload_n hx hb dX8_fewestByGoing_1 rfl (lv_at hl 1 rfl) ?_
  obtain ⟨r2, hc2, hf⟩ := bi_s hf
  rcases r2 with E9 | r2
  · have e9 := so_e hf
    cases e9
  have hf := sel_r hf
  refine cROv (W.runV (As := [.int a1]) (rest := []) ⟨hx, hb, hml, hown, hts⟩ (n_X8_requireOrder l dC dI cI cZ cS f g a M a1  hc2) (cwV 1 hts gX8_fewestByGoing_X8_requireOrder rfl rfl rfl (by decide +kernel) ⟨Nat.le_of_ble_eq_true rfl, Nat.le_of_ble_eq_true rfl⟩) ⟨RO8.blind, va_recv hK hP (ci := 8) (q0 := 0) rfl rfl, RO8.pre hP hK hNW⟩ rfl rfl hl.1 rfl (lv_room (Nat.le_of_ble_eq_true rfl)) dX8_fewestByGoing_2 ⟨Nat.le_of_ble_eq_true rfl, Nat.le_of_ble_eq_true rfl⟩) ?_
  refine lv_aload_n hx hb dX8_fewestByGoing_5 rfl (lv_at hl 0 rfl) ?_
  refine lv_iload_n hx hb dX8_fewestByGoing_6 rfl (lv_at hl 1 rfl) ?_
  obtain ⟨r7, hc7, hf⟩ := bi_s hf
  rcases r7 with E9 | r7
  · have e9 := so_e hf
    cases e9
  have hf := sel_r hf
  refine cROv (W.runV (As := [.int a1]) (rest := []) ⟨hx, hb, hml, hown, hts⟩ (n_X8_requireServable l dC dI cI cZ cS f g a M a1  hc7) (cwV 1 hts gX8_fewestByGoing_X8_requireServable rfl rfl rfl (by decide +kernel) ⟨Nat.le_of_ble_eq_true rfl, Nat.le_of_ble_eq_true rfl⟩) ⟨RO8.blind, va_recv hK hP (ci := 8) (q0 := 0) rfl rfl, RO8.pre hP hK hNW⟩ rfl rfl hl.1 rfl (lv_room (Nat.le_of_ble_eq_true rfl)) dX8_fewestByGoing_7 ⟨Nat.le_of_ble_eq_true rfl, Nat.le_of_ble_eq_true rfl⟩) ?_
  refine lv_aload_n hx hb dX8_fewestByGoing_10 rfl (lv_at hl 0 rfl) ?_
  refine lv_iload_n hx hb dX8_fewestByGoing_11 rfl (lv_at hl 1 rfl) ?_
  obtain ⟨r12, hc12, hf⟩ := bi_s hf
  have hPc := hP
  have hDc := hD
  have hFc := va_free (wc := (wX8 cI cZ cS f g a M)) hD hS hA [0, 1, 2, 3, 4, 5, 6, 7, 8, 9, 10, 11, 12, 13, 14, 15, 16, 17, 18, 19, 20, 21, 22, 23, 24, 25, 26, 27, 28, 29, 30, 31, 32, 33, 34, 35, 36, 37, 38, 39, 40, 41] rfl
  refine va_calli (va_runV (As := [.int a1]) (rest := []) ⟨hx, hb, hml, hown, hts⟩ (c_X8_fewestFound l dC dI cI cZ cS f g a H.size M a1 r12 hc12) (cwV 1 hts gX8_fewestByGoing_X8_fewestFound rfl rfl rfl (by decide +kernel) ⟨Nat.le_of_ble_eq_true rfl, Nat.le_of_ble_eq_true rfl⟩) ⟨WR8.blind, va_recv hK hP (ci := 8) (q0 := 0) rfl rfl, WR8.pre hPc hK hDc hNW⟩ rfl rfl hl.1 rfl (lv_room (Nat.le_of_ble_eq_true rfl)) dX8_fewestByGoing_12 ⟨Nat.le_of_ble_eq_true rfl, Nat.le_of_ble_eq_true rfl⟩) hS (fun q _ h => hFc q h) hFc (fun rv u t H1 locs ht hvm hw hB hz1 hk1 hS => ?_)
  obtain ⟨hP1, hD1⟩ := hB
  rw [ht] at hP1
  subst hw
  have hP := hP1
  have hD := hD1.weaken (fun k q _ h => hFc q.1 h)
  have hP : va_P (dC, dI) vwCl (wX8 cI cZ cS f g a (sr M 41 (r12.2 41))) H1 := hP
  have hD : va_D A (wX8 cI cZ cS f g a (sr M 41 (r12.2 41))) := hD
  generalize H1 = H at hP hS ⊢
  have e9 := so_e hf
  cases e9
  exact W.iret hx hb hr (fun t ht hW => ⟨⟨_, (), rfl, rfl, WE.mk hP hD ht⟩, hS.F ht⟩) hS.2.2 dX8_fewestByGoing_15
set_option maxHeartbeats 4000000 in
set_option maxRecDepth 100000 in
theorem n_X8_requireEmptyWindow (l : Launch) (dC : Nat → ClassId) (dI : Nat → Nat → Nat) (cI cZ cS : ClassId) (f g : Nat → Option Nat) (a : Nat → Nat) (M : Mem) (hf : fX8_requireEmptyWindow M  = some (Sum.inr ())) : Met l yX8_requireEmptyWindow wsX8_requireEmptyWindow ({ frames := 0, cells := 0, slots := 0, locals := 0 } : Room) (va_Pc [.ref (a 0)] (RO8 (dC, dI) cI cZ cS (wX8 cI cZ cS f g a M))) (va_Sv (fun _ => True)) 0 0 (fun _ => False) := by
  refine Met.ofW (cc := cX8_requireEmptyWindow) (maxL := 1) (ret := none) (by decide) rfl ?_
  intro p e s m args below meth c s₁ B hml hv
  obtain ⟨rfl, hP, hK, hNW⟩ := hv
  have hx := B.exec
  have hb := B.bytes
  have hr := B.returns
  have hts := atoms_spec (ws := wsX8_requireEmptyWindow) B.pre
  have hown : s.vm.findClass RX8 = some m.cls := findClass_of_methodNamed B.named
  have hlocks := B.notSynchronized
  have hK2 : va_K (dC, dI) vwCl [(cI, .int), (cZ, .boolean)] s := hK.sub (tys' := [(cI, .int), (cZ, .boolean)]) [0, 1] rfl
  have hinX8 : ∀ w ∈ u_ws RX8 TX8 6, w ∈ wsX8_requireEmptyWindow := by decide +kernel
  have hw1 := hts (.fieldLink RX8 12 "GlideShelves" "now" "LGlideShelves$State;") (by decide +kernel)
  have hinX6 : ∀ w ∈ u_ws RX6 TX6 5, w ∈ wsX8_requireEmptyWindow := by decide +kernel
  have hinX7 : ∀ w ∈ u_ws RX7 TX7 6, w ∈ wsX8_requireEmptyWindow := by decide +kernel
  have hl := lv_entry ([.ref (a 0)]) (n := 1) (Nat.le_of_ble_eq_true rfl)
  rw [lg_entry_eq]
  generalize (lg_sl ([.ref (a 0)]) ++ List.replicate (1 - (lg_sl ([.ref (a 0)])).length) Slot.unset).toArray = ls at hl ⊢
  have hl : lv_has ls 1 [(0, .ref (a 0))] := hl
  unfold fX8_requireEmptyWindow at hf
  refine lv_aload_n hx hb dX8_requireEmptyWindow_0 rfl (lv_at hl 0 rfl) ?_
  refine va_get (D := (dC, dI)) (ci := 8) (v := .ref (a 1)) (C := RX8) (T := TX8) (N := 6) hx hb hts hinX8 hown hK hP 0 rfl rfl 0 (by decide) hw1 (fun _ h9 => h9) rfl dX8_requireEmptyWindow_1 ?_
  refine va_getN (D := (dC, dI)) (ci := 6) (v := .ref (a 2)) (C := RX6) (T := TX6) (N := 5) hx hb hts hinX6 hown hK hP 1 rfl rfl 0 (by decide) (nw23 hNW) (fun _ h9 => h9) rfl dX8_requireEmptyWindow_4 ?_
  refine va_getN (D := (dC, dI)) (ci := 7) (v := .int (M 2 1)) (C := RX7) (T := TX7) (N := 6) hx hb hts hinX7 hown hK hP 2 rfl rfl 1 (by decide) (nw25 hNW) (fun _ h9 => h9) rfl dX8_requireEmptyWindow_7 ?_
  refine lv_iconst (v := (-1 : Int32)) hx hb dX8_requireEmptyWindow_10 (by decide) ?_
  refine lv_icmp_eq (tgt := 25) hx hb dX8_requireEmptyWindow_11 (by decide) (fun c9 => ?_) (fun c9 => ?_)
  · have hf := it_t hf c9
    have e9 := so_e hf
    cases e9
    exact W.vret hx hb hr (fun t ht hW => ⟨rfl, trivial, ht⟩) fl0 dX8_requireEmptyWindow_25
  · have hf := it_f hf c9
    have e9 := so_e hf
    cases e9
set_option maxHeartbeats 4000000 in
set_option maxRecDepth 100000 in
theorem n_X8_servable (l : Launch) (dC : Nat → ClassId) (dI : Nat → Nat → Nat) (cI cZ cS : ClassId) (f g : Nat → Option Nat) (a : Nat → Nat) (sz : Nat) (M : Mem) (z1 : Int32) (z2 : Mem) (hf : fX8_servable M  = some (Sum.inr z1, z2)) : Met l yX8_servable wsX8_servable ({ frames := 6, cells := 0, slots := 0, locals := 156 } : Room) (va_Pc [.ref (a 0)] (WR8 (dC, dI) cI cZ cS (wX8 cI cZ cS f g a M) sz)) (va_Qi (S := Unit) (fun r _ => r = z1) (fun _ t => WE (dC, dI) cI cZ (wX8 cI cZ cS f g a (sr (sr (sr (sr (sr (sr (sr (sr (sr (sr (sr (sr (sr (sr (sr M 17 (z2 17)) 18 (z2 18)) 19 (z2 19)) 20 (z2 20)) 21 (z2 21)) 22 (z2 22)) 23 (z2 23)) 24 (z2 24)) 25 (z2 25)) 27 (z2 27)) 28 (z2 28)) 29 (z2 29)) 30 (z2 30)) 31 (z2 31)) 32 (z2 32))) (va_A (wX8 cI cZ cS f g a M) sz) t) (va_A (wX8 cI cZ cS f g a M) sz)) 0 0 (va_A (wX8 cI cZ cS f g a M) sz) := by
  refine Met.ofW (cc := cX8_servable) (maxL := 1) (ret := (some .int)) (by decide) rfl ?_
  intro p e s m args below meth c s₁ B hml hv
  obtain ⟨rfl, hsz, hP, hK, hD0, hNW⟩ := hv
  have hx := B.exec
  have hb := B.bytes
  have hr := B.returns
  have hts := atoms_spec (ws := wsX8_servable) B.pre
  have hown : s.vm.findClass RX8 = some m.cls := findClass_of_methodNamed B.named
  have hlocks := B.notSynchronized
  have hK2 : va_K (dC, dI) vwCl [(cI, .int), (cZ, .boolean)] s := hK.sub (tys' := [(cI, .int), (cZ, .boolean)]) [0, 1] rfl
  have hinX8 : ∀ w ∈ u_ws RX8 TX8 6, w ∈ wsX8_servable := by decide +kernel
  have hw1 := hts (.fieldLink RX8 16 "GlideShelves" "copy" "LGlideShelves$State;") (by decide +kernel)
  have hw2 := hts (.fieldLink RX8 12 "GlideShelves" "now" "LGlideShelves$State;") (by decide +kernel)
  have hw3 := hts (.initialized RX6) (by decide +kernel)
  have hw4 := hts (.instanceMethod yX6_copyFrom) (by decide +kernel)
  have hw5 := hts (.selects RX6 yX6_copyFrom yX6_copyFrom) (by decide +kernel)
  have hw6 := hts (.instanceMethod yX6_serveEach) (by decide +kernel)
  have hw7 := hts (.selects RX6 yX6_serveEach yX6_serveEach) (by decide +kernel)
  have hinX6 : ∀ w ∈ u_ws RX6 TX6 5, w ∈ wsX8_servable := by decide +kernel
  subst hsz
  have hD := hD0.self (sz := s.heap.size)
  generalize hAe : va_A (wX8 cI cZ cS f g a M) s.heap.size = A at hD ⊢
  have hA : ∀ q : Nat, s.heap.size ≤ q → A q := fun q h => by rw [← hAe]; exact Or.inr h
  have hS : va_S A s.heap s.heap [] := va_S.rf
  have hl := lv_entry ([.ref (a 0)]) (n := 1) (Nat.le_of_ble_eq_true rfl)
  rw [lg_entry_eq]
  generalize (lg_sl ([.ref (a 0)]) ++ List.replicate (1 - (lg_sl ([.ref (a 0)])).length) Slot.unset).toArray = ls at hl ⊢
  have hl : lv_has ls 1 [(0, .ref (a 0))] := hl
  unfold fX8_servable at hf
  suffices hgo : ∀ (H : Heap) (locs : List Loc), va_P (dC, dI) vwCl (wX8 cI cZ cS f g a M) H → va_D A (wX8 cI cZ cS f g a M) → va_S A s.heap H locs → W p l e (headSpec wsX8_servable ({ frames := 6, cells := 0, slots := 0, locals := 156 } : Room)).room s m ([.ref (a 0)] : List Value).toArray below meth c H locs 0 0 (MQ below (va_Qi (S := Unit) (fun r _ => r = z1) (fun _ t => WE (dC, dI) cI cZ (wX8 cI cZ cS f g a (sr (sr (sr (sr (sr (sr (sr (sr (sr (sr (sr (sr (sr (sr (sr M 17 (z2 17)) 18 (z2 18)) 19 (z2 19)) 20 (z2 20)) 21 (z2 21)) 22 (z2 22)) 23 (z2 23)) 24 (z2 24)) 25 (z2 25)) 27 (z2 27)) 28 (z2 28)) 29 (z2 29)) 30 (z2 30)) 31 (z2 31)) 32 (z2 32))) A t) A) ([.ref (a 0)] : List Value).toArray s 0 0 A) (F0 m 0 ls []) from hgo _ _ hP hD hS
  intro H locs hP hD hS
  refine lv_aload_n hx hb dX8_servable_0 rfl (lv_at hl 0 rfl) ?_
  obtain ⟨r1, hc1, hf⟩ := bi_s hf
  rcases r1 with E9 | r1
  · have e9 := so_e hf
    cases e9
  have hf := sel_r hf
  refine cROv (W.runV (As := []) (rest := []) ⟨hx, hb, hml, hown, hts⟩ (n_X8_requireEmptyWindow l dC dI cI cZ cS f g a M  hc1) (cwV 0 hts gX8_servable_X8_requireEmptyWindow rfl rfl rfl (by decide +kernel) ⟨Nat.le_of_ble_eq_true rfl, Nat.le_of_ble_eq_true rfl⟩) ⟨RO8.blind, va_recv hK hP (ci := 8) (q0 := 0) rfl rfl, RO8.pre hP hK hNW⟩ rfl rfl hl.1 rfl (lv_room (Nat.le_of_ble_eq_true rfl)) dX8_servable_1 ⟨Nat.le_of_ble_eq_true rfl, Nat.le_of_ble_eq_true rfl⟩) ?_
  refine lv_aload_n hx hb dX8_servable_4 rfl (lv_at hl 0 rfl) ?_
  refine va_get (D := (dC, dI)) (ci := 8) (v := .ref (a 17)) (C := RX8) (T := TX8) (N := 6) hx hb hts hinX8 hown hK hP 0 rfl rfl 1 (by decide) hw1 (fun _ h9 => h9) rfl dX8_servable_5 ?_
  refine lv_aload_n hx hb dX8_servable_8 rfl (lv_at hl 0 rfl) ?_
  refine va_get (D := (dC, dI)) (ci := 8) (v := .ref (a 1)) (C := RX8) (T := TX8) (N := 6) hx hb hts hinX8 hown hK hP 0 rfl rfl 0 (by decide) hw2 (fun _ h9 => h9) rfl dX8_servable_9 ?_
  obtain ⟨r12, hc12, hf⟩ := bi_s hf
  have hPc := hP.sub (ws' := (wX6_copyFrom cI cZ (pk [17, 18, 19, 20, 21, 22, 23, 24, 25, 26, 27, 28, 29, 30, 31, 32, 1, 2, 3, 4, 5, 6, 7, 8, 9, 10, 11, 12, 13, 14, 15, 16] a) (pk [17, 18, 19, 20, 21, 22, 23, 24, 25, 26, 27, 28, 29, 30, 31, 32, 1, 2, 3, 4, 5, 6, 7, 8, 9, 10, 11, 12, 13, 14, 15, 16] M))) [17, 18, 19, 20, 21, 22, 23, 24, 25, 26, 27, 28, 29, 30, 31, 32, 1, 2, 3, 4, 5, 6, 7, 8, 9, 10, 11, 12, 13, 14, 15, 16] rfl
  have hDc := hD.sub (ws' := (wX6_copyFrom cI cZ (pk [17, 18, 19, 20, 21, 22, 23, 24, 25, 26, 27, 28, 29, 30, 31, 32, 1, 2, 3, 4, 5, 6, 7, 8, 9, 10, 11, 12, 13, 14, 15, 16] a) (pk [17, 18, 19, 20, 21, 22, 23, 24, 25, 26, 27, 28, 29, 30, 31, 32, 1, 2, 3, 4, 5, 6, 7, 8, 9, 10, 11, 12, 13, 14, 15, 16] M))) [17, 18, 19, 20, 21, 22, 23, 24, 25, 26, 27, 28, 29, 30, 31, 32, 1, 2, 3, 4, 5, 6, 7, 8, 9, 10, 11, 12, 13, 14, 15, 16] (by decide) rfl
  have hFc := va_free (wc := (wX6_copyFrom cI cZ (pk [17, 18, 19, 20, 21, 22, 23, 24, 25, 26, 27, 28, 29, 30, 31, 32, 1, 2, 3, 4, 5, 6, 7, 8, 9, 10, 11, 12, 13, 14, 15, 16] a) (pk [17, 18, 19, 20, 21, 22, 23, 24, 25, 26, 27, 28, 29, 30, 31, 32, 1, 2, 3, 4, 5, 6, 7, 8, 9, 10, 11, 12, 13, 14, 15, 16] M))) hD hS hA [17, 18, 19, 20, 21, 22, 23, 24, 25, 26, 27, 28, 29, 30, 31, 32, 1, 2, 3, 4, 5, 6, 7, 8, 9, 10, 11, 12, 13, 14, 15, 16] rfl
  refine va_callv (va_runVN (As := [.ref (a 1)]) (rest := []) ⟨hx, hb, hml, hown, hts⟩ (c_X6_copyFrom l dC dI cI cZ (pk [17, 18, 19, 20, 21, 22, 23, 24, 25, 26, 27, 28, 29, 30, 31, 32, 1, 2, 3, 4, 5, 6, 7, 8, 9, 10, 11, 12, 13, 14, 15, 16] a) H.size (pk [17, 18, 19, 20, 21, 22, 23, 24, 25, 26, 27, 28, 29, 30, 31, 32, 1, 2, 3, 4, 5, 6, 7, 8, 9, 10, 11, 12, 13, 14, 15, 16] M) r12 hc12) ⟨va_cnB 1 hts gX8_servable_X6_copyFrom_n265 rfl rfl rfl (nw50 hNW) hw3 (by decide +kernel) ⟨Nat.le_of_ble_eq_true rfl, Nat.le_of_ble_eq_true rfl⟩, hw4, hw5⟩ ⟨WR.blind, va_recv hK hP (ci := 6) (q0 := 17) rfl rfl, WR.pre hPc hK2 hDc hNW⟩ rfl rfl hl.1 rfl (lv_room (Nat.le_of_ble_eq_true rfl)) dX8_servable_12 ⟨Nat.le_of_ble_eq_true rfl, Nat.le_of_ble_eq_true rfl⟩) hS (fun q _ h => hFc q h) hFc (fun u t H1 locs ht hvm hw hB hz1 hk1 hS => ?_)
  obtain ⟨hP1, hD1⟩ := hB
  rw [ht] at hP1
  obtain ⟨hP, hD⟩ := va_join (wr := [(a 0, .inr (8, [.ref (a 1), .ref (a 17), .ref (a 33), .ref (a 36), .ref (a 40), .ref (a 41)])), (a 33, .inr (1, [.int (M 33 0), .ref (a 34), .ref (a 35)])), (a 34, .inl (cS, 6, .inr (.inr (.inr (.inr f))))), (a 35, .inl (cS, 2, .inr (.inr (.inr (.inr g))))), (a 36, .inr (5, [.int (M 36 0), .ref (a 37), .ref (a 38)])), (a 37, .inl (cI, 60, .inl (M 37))), (a 38, .inr (4, [.int (M 38 0), .int (M 38 1), .ref (a 39)])), (a 39, .inl (cI, 10, .inl (M 39))), (a 40, .inl (cI, 12, .inl (M 40))), (a 41, .inl (cI, 10, .inl (M 41)))]) (w1 := (wX6_copyFrom cI cZ (pk [17, 18, 19, 20, 21, 22, 23, 24, 25, 26, 27, 28, 29, 30, 31, 32, 1, 2, 3, 4, 5, 6, 7, 8, 9, 10, 11, 12, 13, 14, 15, 16] a) (sr (sr (sr (sr (sr (sr (sr (sr (sr (sr (sr (sr (sr (sr (sr (pk [17, 18, 19, 20, 21, 22, 23, 24, 25, 26, 27, 28, 29, 30, 31, 32, 1, 2, 3, 4, 5, 6, 7, 8, 9, 10, 11, 12, 13, 14, 15, 16] M) 0 (r12 0)) 1 (r12 1)) 2 (r12 2)) 3 (r12 3)) 4 (r12 4)) 5 (r12 5)) 6 (r12 6)) 7 (r12 7)) 8 (r12 8)) 10 (r12 10)) 11 (r12 11)) 12 (r12 12)) 13 (r12 13)) 14 (r12 14)) 15 (r12 15)))) hP hD [17, 18, 19, 20, 21, 22, 23, 24, 25, 26, 27, 28, 29, 30, 31, 32, 1, 2, 3, 4, 5, 6, 7, 8, 9, 10, 11, 12, 13, 14, 15, 16] [0, 33, 34, 35, 36, 37, 38, 39, 40, 41] rfl rfl (by decide) (by decide) hk1 hFc hP1 hD1
  have hP := hP.sub (ws' := (wX8 cI cZ cS f g a (sr (sr (sr (sr (sr (sr (sr (sr (sr (sr (sr (sr (sr (sr (sr M 17 (r12 0)) 18 (r12 1)) 19 (r12 2)) 20 (r12 3)) 21 (r12 4)) 22 (r12 5)) 23 (r12 6)) 24 (r12 7)) 25 (r12 8)) 27 (r12 10)) 28 (r12 11)) 29 (r12 12)) 30 (r12 13)) 31 (r12 14)) 32 (r12 15)))) [0, 26, 27, 28, 29, 30, 31, 32, 33, 34, 35, 36, 37, 38, 39, 40, 41, 10, 11, 12, 13, 14, 15, 16, 17, 18, 19, 20, 21, 22, 23, 24, 25, 1, 2, 3, 4, 5, 6, 7, 8, 9] rfl
  have hD := hD.sub (ws' := (wX8 cI cZ cS f g a (sr (sr (sr (sr (sr (sr (sr (sr (sr (sr (sr (sr (sr (sr (sr M 17 (r12 0)) 18 (r12 1)) 19 (r12 2)) 20 (r12 3)) 21 (r12 4)) 22 (r12 5)) 23 (r12 6)) 24 (r12 7)) 25 (r12 8)) 27 (r12 10)) 28 (r12 11)) 29 (r12 12)) 30 (r12 13)) 31 (r12 14)) 32 (r12 15)))) [0, 26, 27, 28, 29, 30, 31, 32, 33, 34, 35, 36, 37, 38, 39, 40, 41, 10, 11, 12, 13, 14, 15, 16, 17, 18, 19, 20, 21, 22, 23, 24, 25, 1, 2, 3, 4, 5, 6, 7, 8, 9] (by decide) rfl
  generalize H1 = H at hP hS ⊢
  refine lv_aload_n hx hb dX8_servable_15 rfl (lv_at hl 0 rfl) ?_
  refine va_get (D := (dC, dI)) (ci := 8) (v := .ref (a 17)) (C := RX8) (T := TX8) (N := 6) hx hb hts hinX8 hown hK hP 0 rfl rfl 1 (by decide) hw1 (fun _ h9 => h9) rfl dX8_servable_16 ?_
  obtain ⟨r19, hc19, hf⟩ := bi_s hf
  have hPc := hP.sub (ws' := (wX6 cI cZ (ofs 17 a) (ofs 17 (sr (sr (sr (sr (sr (sr (sr (sr (sr (sr (sr (sr (sr (sr (sr M 17 (r12 0)) 18 (r12 1)) 19 (r12 2)) 20 (r12 3)) 21 (r12 4)) 22 (r12 5)) 23 (r12 6)) 24 (r12 7)) 25 (r12 8)) 27 (r12 10)) 28 (r12 11)) 29 (r12 12)) 30 (r12 13)) 31 (r12 14)) 32 (r12 15))))) [17, 18, 19, 20, 21, 22, 23, 24, 25, 26, 27, 28, 29, 30, 31, 32] rfl
  have hDc := hD.sub (ws' := (wX6 cI cZ (ofs 17 a) (ofs 17 (sr (sr (sr (sr (sr (sr (sr (sr (sr (sr (sr (sr (sr (sr (sr M 17 (r12 0)) 18 (r12 1)) 19 (r12 2)) 20 (r12 3)) 21 (r12 4)) 22 (r12 5)) 23 (r12 6)) 24 (r12 7)) 25 (r12 8)) 27 (r12 10)) 28 (r12 11)) 29 (r12 12)) 30 (r12 13)) 31 (r12 14)) 32 (r12 15))))) [17, 18, 19, 20, 21, 22, 23, 24, 25, 26, 27, 28, 29, 30, 31, 32] (by decide) rfl
  have hFc := va_free (wc := (wX6 cI cZ (ofs 17 a) (ofs 17 (sr (sr (sr (sr (sr (sr (sr (sr (sr (sr (sr (sr (sr (sr (sr M 17 (r12 0)) 18 (r12 1)) 19 (r12 2)) 20 (r12 3)) 21 (r12 4)) 22 (r12 5)) 23 (r12 6)) 24 (r12 7)) 25 (r12 8)) 27 (r12 10)) 28 (r12 11)) 29 (r12 12)) 30 (r12 13)) 31 (r12 14)) 32 (r12 15))))) hD hS hA [17, 18, 19, 20, 21, 22, 23, 24, 25, 26, 27, 28, 29, 30, 31, 32] rfl
  refine va_calli (va_runVN (As := []) (rest := []) ⟨hx, hb, hml, hown, hts⟩ (c_X6_serveEach l dC dI cI cZ (ofs 17 a) H.size (ofs 17 (sr (sr (sr (sr (sr (sr (sr (sr (sr (sr (sr (sr (sr (sr (sr M 17 (r12 0)) 18 (r12 1)) 19 (r12 2)) 20 (r12 3)) 21 (r12 4)) 22 (r12 5)) 23 (r12 6)) 24 (r12 7)) 25 (r12 8)) 27 (r12 10)) 28 (r12 11)) 29 (r12 12)) 30 (r12 13)) 31 (r12 14)) 32 (r12 15))) r19 hc19) ⟨va_cnB 0 hts gX8_servable_X6_serveEach_n216 rfl rfl rfl (nw49 hNW) hw3 (by decide +kernel) ⟨Nat.le_of_ble_eq_true rfl, Nat.le_of_ble_eq_true rfl⟩, hw6, hw7⟩ ⟨WR.blind, va_recv hK hP (ci := 6) (q0 := 17) rfl rfl, WR.pre hPc hK2 hDc hNW⟩ rfl rfl hl.1 rfl (lv_room (Nat.le_of_ble_eq_true rfl)) dX8_servable_19 ⟨Nat.le_of_ble_eq_true rfl, Nat.le_of_ble_eq_true rfl⟩) hS (fun q _ h => hFc q h) hFc (fun rv u t H1 locs ht hvm hw hB hz1 hk1 hS => ?_)
  obtain ⟨hP1, hD1⟩ := hB
  rw [ht] at hP1
  subst hw
  obtain ⟨hP, hD⟩ := va_join (wr := [(a 0, .inr (8, [.ref (a 1), .ref (a 17), .ref (a 33), .ref (a 36), .ref (a 40), .ref (a 41)])), (a 1, .inr (6, [.ref (a 2), .ref (a 7), .ref (a 10), .ref (a 15), .int (M 1 4)])), (a 2, .inr (7, [.int (M 2 0), .int (M 2 1), .ref (a 3), .ref (a 4), .ref (a 5), .ref (a 6)])), (a 3, .inl (cI, 12, .inl (M 3))), (a 4, .inl (cI, 12, .inl (M 4))), (a 5, .inl (cI, 12, .inl (M 5))), (a 6, .inl (cI, 120, .inl (M 6))), (a 7, .inr (2, [.int (M 7 0), .int (M 7 1), .int (M 7 2), .int (M 7 3), .int (M 7 4), .ref (a 8), .ref (a 9)])), (a 8, .inl (cI, 8, .inl (M 8))), (a 9, .inl (cZ, 8, .inl (M 9))), (a 10, .inr (0, [.ref (a 11), .ref (a 12), .ref (a 13), .ref (a 14)])), (a 11, .inl (cI, 10, .inl (M 11))), (a 12, .inl (cI, 10, .inl (M 12))), (a 13, .inl (cI, 10, .inl (M 13))), (a 14, .inl (cI, 10, .inl (M 14))), (a 15, .inr (3, [.int (M 15 0), .ref (a 16)])), (a 16, .inl (cI, 80, .inl (M 16))), (a 33, .inr (1, [.int (M 33 0), .ref (a 34), .ref (a 35)])), (a 34, .inl (cS, 6, .inr (.inr (.inr (.inr f))))), (a 35, .inl (cS, 2, .inr (.inr (.inr (.inr g))))), (a 36, .inr (5, [.int (M 36 0), .ref (a 37), .ref (a 38)])), (a 37, .inl (cI, 60, .inl (M 37))), (a 38, .inr (4, [.int (M 38 0), .int (M 38 1), .ref (a 39)])), (a 39, .inl (cI, 10, .inl (M 39))), (a 40, .inl (cI, 12, .inl (M 40))), (a 41, .inl (cI, 10, .inl (M 41)))]) (w1 := (wX6 cI cZ (ofs 17 a) (sr (sr (sr (sr (sr (sr (sr (sr (sr (sr (sr (ofs 17 (sr (sr (sr (sr (sr (sr (sr (sr (sr (sr (sr (sr (sr (sr (sr M 17 (r12 0)) 18 (r12 1)) 19 (r12 2)) 20 (r12 3)) 21 (r12 4)) 22 (r12 5)) 23 (r12 6)) 24 (r12 7)) 25 (r12 8)) 27 (r12 10)) 28 (r12 11)) 29 (r12 12)) 30 (r12 13)) 31 (r12 14)) 32 (r12 15))) 0 (r19.2 0)) 1 (r19.2 1)) 3 (r19.2 3)) 4 (r19.2 4)) 5 (r19.2 5)) 6 (r19.2 6)) 7 (r19.2 7)) 8 (r19.2 8)) 13 (r19.2 13)) 14 (r19.2 14)) 15 (r19.2 15)))) hP hD [17, 18, 19, 20, 21, 22, 23, 24, 25, 26, 27, 28, 29, 30, 31, 32] [0, 1, 2, 3, 4, 5, 6, 7, 8, 9, 10, 11, 12, 13, 14, 15, 16, 33, 34, 35, 36, 37, 38, 39, 40, 41] rfl rfl (by decide) (by decide) hk1 hFc hP1 hD1
  have hP := hP.sub (ws' := (wX8 cI cZ cS f g a (sr (sr (sr (sr (sr (sr (sr (sr (sr (sr (sr (sr (sr (sr (sr M 17 (r19.2 0)) 18 (r19.2 1)) 19 (r12 2)) 20 (r19.2 3)) 21 (r19.2 4)) 22 (r19.2 5)) 23 (r19.2 6)) 24 (r19.2 7)) 25 (r19.2 8)) 27 (r12 10)) 28 (r12 11)) 29 (r12 12)) 30 (r19.2 13)) 31 (r19.2 14)) 32 (r19.2 15)))) [0, 1, 2, 3, 4, 5, 6, 7, 8, 9, 10, 11, 12, 13, 14, 15, 16, 26, 27, 28, 29, 30, 31, 32, 33, 34, 35, 36, 37, 38, 39, 40, 41, 17, 18, 19, 20, 21, 22, 23, 24, 25] rfl
  have hD := hD.sub (ws' := (wX8 cI cZ cS f g a (sr (sr (sr (sr (sr (sr (sr (sr (sr (sr (sr (sr (sr (sr (sr M 17 (r19.2 0)) 18 (r19.2 1)) 19 (r12 2)) 20 (r19.2 3)) 21 (r19.2 4)) 22 (r19.2 5)) 23 (r19.2 6)) 24 (r19.2 7)) 25 (r19.2 8)) 27 (r12 10)) 28 (r12 11)) 29 (r12 12)) 30 (r19.2 13)) 31 (r19.2 14)) 32 (r19.2 15)))) [0, 1, 2, 3, 4, 5, 6, 7, 8, 9, 10, 11, 12, 13, 14, 15, 16, 26, 27, 28, 29, 30, 31, 32, 33, 34, 35, 36, 37, 38, 39, 40, 41, 17, 18, 19, 20, 21, 22, 23, 24, 25] (by decide) rfl
  generalize H1 = H at hP hS ⊢
  refine lv_pop hx hb dX8_servable_22 rfl ?_
  refine lv_aload_n hx hb dX8_servable_23 rfl (lv_at hl 0 rfl) ?_
  refine va_get (D := (dC, dI)) (ci := 8) (v := .ref (a 17)) (C := RX8) (T := TX8) (N := 6) hx hb hts hinX8 hown hK hP 0 rfl rfl 1 (by decide) hw1 (fun _ h9 => h9) rfl dX8_servable_24 ?_
  refine va_getN (D := (dC, dI)) (ci := 6) (v := .int ((r19.2 0) 4)) (C := RX6) (T := TX6) (N := 5) hx hb hts hinX6 hown hK hP 17 rfl rfl 4 (by decide) (nw20 hNW) (fun _ h9 => h9) rfl dX8_servable_27 ?_
  refine lv_aload_n hx hb dX8_servable_30 rfl (lv_at hl 0 rfl) ?_
  refine va_get (D := (dC, dI)) (ci := 8) (v := .ref (a 1)) (C := RX8) (T := TX8) (N := 6) hx hb hts hinX8 hown hK hP 0 rfl rfl 0 (by decide) hw2 (fun _ h9 => h9) rfl dX8_servable_31 ?_
  refine va_getN (D := (dC, dI)) (ci := 6) (v := .int (M 1 4)) (C := RX6) (T := TX6) (N := 5) hx hb hts hinX6 hown hK hP 1 rfl rfl 4 (by decide) (nw20 hNW) (fun _ h9 => h9) rfl dX8_servable_34 ?_
  refine lv_isub hx hb dX8_servable_37 ?_
  have e9 := so_e hf
  cases e9
  exact W.iret hx hb hr (fun t ht hW => ⟨⟨_, (), rfl, rfl, WE.mk hP hD ht⟩, hS.F ht⟩) hS.2.2 dX8_servable_38
set_option maxHeartbeats 4000000 in
set_option maxRecDepth 100000 in
theorem c_X8_ticks (l : Launch) (dC : Nat → ClassId) (dI : Nat → Nat → Nat) (cI cZ cS : ClassId) (f g : Nat → Option Nat) (a : Nat → Nat) (M : Mem) (z : Int32) (hf : fX8_ticks M  = some z) : Met l yX8_ticks wsX8_ticks ({ frames := 0, cells := 0, slots := 0, locals := 0 } : Room) (va_Pc [.ref (a 0)] (RO8 (dC, dI) cI cZ cS (wX8 cI cZ cS f g a M))) (k2_QcV (.int z)) 0 0 (fun _ => False) := by
  refine Met.ofW (cc := cX8_ticks) (maxL := 1) (ret := (some .int)) (by decide) rfl ?_
  intro p e s m args below meth c s₁ B hml hv
  obtain ⟨rfl, hP, hK, hNW⟩ := hv
  have hK2 : va_K (dC, dI) vwCl [(cI, .int), (cZ, .boolean)] s := hK.sub (tys' := [(cI, .int), (cZ, .boolean)]) [0, 1] rfl
  have hx := B.exec
  have hb := B.bytes
  have hr := B.returns
  have hts := atoms_spec (ws := wsX8_ticks) B.pre
  have hown : s.vm.findClass RX8 = some m.cls := findClass_of_methodNamed B.named
  have hlocks := B.notSynchronized
  have hinX8 : ∀ w ∈ u_ws RX8 TX8 6, w ∈ wsX8_ticks := by decide +kernel
  have hw1 := hts (.fieldLink RX8 12 "GlideShelves" "now" "LGlideShelves$State;") (by decide +kernel)
  have hinX6 : ∀ w ∈ u_ws RX6 TX6 5, w ∈ wsX8_ticks := by decide +kernel
  have hinX2 : ∀ w ∈ u_ws RX2 TX2 7, w ∈ wsX8_ticks := by decide +kernel
  have hl := lv_entry ([.ref (a 0)]) (n := 1) (Nat.le_of_ble_eq_true rfl)
  rw [lg_entry_eq]
  generalize (lg_sl ([.ref (a 0)]) ++ List.replicate (1 - (lg_sl ([.ref (a 0)])).length) Slot.unset).toArray = ls at hl ⊢
  have hl : lv_has ls 1 [(0, .ref (a 0))] := hl
  unfold fX8_ticks at hf
  refine lv_aload_n hx hb dX8_ticks_0 rfl (lv_at hl 0 rfl) ?_
  refine va_get (D := (dC, dI)) (ci := 8) (v := .ref (a 1)) (C := RX8) (T := TX8) (N := 6) hx hb hts hinX8 hown hK hP 0 rfl rfl 0 (by decide) hw1 (fun _ h9 => h9) rfl dX8_ticks_1 ?_
  refine va_getN (D := (dC, dI)) (ci := 6) (v := .ref (a 7)) (C := RX6) (T := TX6) (N := 5) hx hb hts hinX6 hown hK hP 1 rfl rfl 1 (by decide) (nw10 hNW) (fun _ h9 => h9) rfl dX8_ticks_4 ?_
  refine va_getN (D := (dC, dI)) (ci := 2) (v := .int (M 7 2)) (C := RX2) (T := TX2) (N := 7) hx hb hts hinX2 hown hK hP 7 rfl rfl 2 (by decide) (nw21 hNW) (fun _ h9 => h9) rfl dX8_ticks_7 ?_
  exact W.iret (v := (M 7 2)) hx hb hr (fun t ht hW => ⟨congrArg (fun x => Outcome.returned (some (Value.int x))) (so_e hf), ht⟩) fl0 dX8_ticks_10
set_option maxHeartbeats 4000000 in
set_option maxRecDepth 100000 in
theorem c_X8_fetches (l : Launch) (dC : Nat → ClassId) (dI : Nat → Nat → Nat) (cI cZ cS : ClassId) (f g : Nat → Option Nat) (a : Nat → Nat) (M : Mem) (z : Int32) (hf : fX8_fetches M  = some z) : Met l yX8_fetches wsX8_fetches ({ frames := 0, cells := 0, slots := 0, locals := 0 } : Room) (va_Pc [.ref (a 0)] (RO8 (dC, dI) cI cZ cS (wX8 cI cZ cS f g a M))) (k2_QcV (.int z)) 0 0 (fun _ => False) := by
  refine Met.ofW (cc := cX8_fetches) (maxL := 1) (ret := (some .int)) (by decide) rfl ?_
  intro p e s m args below meth c s₁ B hml hv
  obtain ⟨rfl, hP, hK, hNW⟩ := hv
  have hK2 : va_K (dC, dI) vwCl [(cI, .int), (cZ, .boolean)] s := hK.sub (tys' := [(cI, .int), (cZ, .boolean)]) [0, 1] rfl
  have hx := B.exec
  have hb := B.bytes
  have hr := B.returns
  have hts := atoms_spec (ws := wsX8_fetches) B.pre
  have hown : s.vm.findClass RX8 = some m.cls := findClass_of_methodNamed B.named
  have hlocks := B.notSynchronized
  have hinX8 : ∀ w ∈ u_ws RX8 TX8 6, w ∈ wsX8_fetches := by decide +kernel
  have hw1 := hts (.fieldLink RX8 12 "GlideShelves" "now" "LGlideShelves$State;") (by decide +kernel)
  have hinX6 : ∀ w ∈ u_ws RX6 TX6 5, w ∈ wsX8_fetches := by decide +kernel
  have hinX2 : ∀ w ∈ u_ws RX2 TX2 7, w ∈ wsX8_fetches := by decide +kernel
  have hl := lv_entry ([.ref (a 0)]) (n := 1) (Nat.le_of_ble_eq_true rfl)
  rw [lg_entry_eq]
  generalize (lg_sl ([.ref (a 0)]) ++ List.replicate (1 - (lg_sl ([.ref (a 0)])).length) Slot.unset).toArray = ls at hl ⊢
  have hl : lv_has ls 1 [(0, .ref (a 0))] := hl
  unfold fX8_fetches at hf
  refine lv_aload_n hx hb dX8_fetches_0 rfl (lv_at hl 0 rfl) ?_
  refine va_get (D := (dC, dI)) (ci := 8) (v := .ref (a 1)) (C := RX8) (T := TX8) (N := 6) hx hb hts hinX8 hown hK hP 0 rfl rfl 0 (by decide) hw1 (fun _ h9 => h9) rfl dX8_fetches_1 ?_
  refine va_getN (D := (dC, dI)) (ci := 6) (v := .ref (a 7)) (C := RX6) (T := TX6) (N := 5) hx hb hts hinX6 hown hK hP 1 rfl rfl 1 (by decide) (nw10 hNW) (fun _ h9 => h9) rfl dX8_fetches_4 ?_
  refine va_getN (D := (dC, dI)) (ci := 2) (v := .int (M 7 3)) (C := RX2) (T := TX2) (N := 7) hx hb hts hinX2 hown hK hP 7 rfl rfl 3 (by decide) (nw22 hNW) (fun _ h9 => h9) rfl dX8_fetches_7 ?_
  exact W.iret (v := (M 7 3)) hx hb hr (fun t ht hW => ⟨congrArg (fun x => Outcome.returned (some (Value.int x))) (so_e hf), ht⟩) fl0 dX8_fetches_10
set_option maxHeartbeats 4000000 in
set_option maxRecDepth 100000 in
theorem c_X8_served (l : Launch) (dC : Nat → ClassId) (dI : Nat → Nat → Nat) (cI cZ cS : ClassId) (f g : Nat → Option Nat) (a : Nat → Nat) (M : Mem) (z : Int32) (hf : fX8_served M  = some z) : Met l yX8_served wsX8_served ({ frames := 0, cells := 0, slots := 0, locals := 0 } : Room) (va_Pc [.ref (a 0)] (RO8 (dC, dI) cI cZ cS (wX8 cI cZ cS f g a M))) (k2_QcV (.int z)) 0 0 (fun _ => False) := by
  refine Met.ofW (cc := cX8_served) (maxL := 1) (ret := (some .int)) (by decide) rfl ?_
  intro p e s m args below meth c s₁ B hml hv
  obtain ⟨rfl, hP, hK, hNW⟩ := hv
  have hK2 : va_K (dC, dI) vwCl [(cI, .int), (cZ, .boolean)] s := hK.sub (tys' := [(cI, .int), (cZ, .boolean)]) [0, 1] rfl
  have hx := B.exec
  have hb := B.bytes
  have hr := B.returns
  have hts := atoms_spec (ws := wsX8_served) B.pre
  have hown : s.vm.findClass RX8 = some m.cls := findClass_of_methodNamed B.named
  have hlocks := B.notSynchronized
  have hinX8 : ∀ w ∈ u_ws RX8 TX8 6, w ∈ wsX8_served := by decide +kernel
  have hw1 := hts (.fieldLink RX8 12 "GlideShelves" "now" "LGlideShelves$State;") (by decide +kernel)
  have hinX6 : ∀ w ∈ u_ws RX6 TX6 5, w ∈ wsX8_served := by decide +kernel
  have hl := lv_entry ([.ref (a 0)]) (n := 1) (Nat.le_of_ble_eq_true rfl)
  rw [lg_entry_eq]
  generalize (lg_sl ([.ref (a 0)]) ++ List.replicate (1 - (lg_sl ([.ref (a 0)])).length) Slot.unset).toArray = ls at hl ⊢
  have hl : lv_has ls 1 [(0, .ref (a 0))] := hl
  unfold fX8_served at hf
  refine lv_aload_n hx hb dX8_served_0 rfl (lv_at hl 0 rfl) ?_
  refine va_get (D := (dC, dI)) (ci := 8) (v := .ref (a 1)) (C := RX8) (T := TX8) (N := 6) hx hb hts hinX8 hown hK hP 0 rfl rfl 0 (by decide) hw1 (fun _ h9 => h9) rfl dX8_served_1 ?_
  refine va_getN (D := (dC, dI)) (ci := 6) (v := .int (M 1 4)) (C := RX6) (T := TX6) (N := 5) hx hb hts hinX6 hown hK hP 1 rfl rfl 4 (by decide) (nw20 hNW) (fun _ h9 => h9) rfl dX8_served_4 ?_
  exact W.iret (v := (M 1 4)) hx hb hr (fun t ht hW => ⟨congrArg (fun x => Outcome.returned (some (Value.int x))) (so_e hf), ht⟩) fl0 dX8_served_7
set_option maxHeartbeats 4000000 in
set_option maxRecDepth 100000 in
theorem n_X8_requireSomeShelf (l : Launch) (dC : Nat → ClassId) (dI : Nat → Nat → Nat) (cI cZ cS : ClassId) (f g : Nat → Option Nat) (a : Nat → Nat) (M : Mem) (hf : fX8_requireSomeShelf M  = some (Sum.inr ())) : Met l yX8_requireSomeShelf wsX8_requireSomeShelf ({ frames := 0, cells := 0, slots := 0, locals := 0 } : Room) (va_Pc [.ref (a 0)] (RO8 (dC, dI) cI cZ cS (wX8 cI cZ cS f g a M))) (va_Sv (fun _ => True)) 0 0 (fun _ => False) := by
  refine Met.ofW (cc := cX8_requireSomeShelf) (maxL := 1) (ret := none) (by decide) rfl ?_
  intro p e s m args below meth c s₁ B hml hv
  obtain ⟨rfl, hP, hK, hNW⟩ := hv
  have hx := B.exec
  have hb := B.bytes
  have hr := B.returns
  have hts := atoms_spec (ws := wsX8_requireSomeShelf) B.pre
  have hown : s.vm.findClass RX8 = some m.cls := findClass_of_methodNamed B.named
  have hlocks := B.notSynchronized
  have hK2 : va_K (dC, dI) vwCl [(cI, .int), (cZ, .boolean)] s := hK.sub (tys' := [(cI, .int), (cZ, .boolean)]) [0, 1] rfl
  have hinX8 : ∀ w ∈ u_ws RX8 TX8 6, w ∈ wsX8_requireSomeShelf := by decide +kernel
  have hw1 := hts (.fieldLink RX8 12 "GlideShelves" "now" "LGlideShelves$State;") (by decide +kernel)
  have hinX6 : ∀ w ∈ u_ws RX6 TX6 5, w ∈ wsX8_requireSomeShelf := by decide +kernel
  have hinX7 : ∀ w ∈ u_ws RX7 TX7 6, w ∈ wsX8_requireSomeShelf := by decide +kernel
  have hl := lv_entry ([.ref (a 0)]) (n := 1) (Nat.le_of_ble_eq_true rfl)
  rw [lg_entry_eq]
  generalize (lg_sl ([.ref (a 0)]) ++ List.replicate (1 - (lg_sl ([.ref (a 0)])).length) Slot.unset).toArray = ls at hl ⊢
  have hl : lv_has ls 1 [(0, .ref (a 0))] := hl
  unfold fX8_requireSomeShelf at hf
  refine lv_aload_n hx hb dX8_requireSomeShelf_0 rfl (lv_at hl 0 rfl) ?_
  refine va_get (D := (dC, dI)) (ci := 8) (v := .ref (a 1)) (C := RX8) (T := TX8) (N := 6) hx hb hts hinX8 hown hK hP 0 rfl rfl 0 (by decide) hw1 (fun _ h9 => h9) rfl dX8_requireSomeShelf_1 ?_
  refine va_getN (D := (dC, dI)) (ci := 6) (v := .ref (a 2)) (C := RX6) (T := TX6) (N := 5) hx hb hts hinX6 hown hK hP 1 rfl rfl 0 (by decide) (nw23 hNW) (fun _ h9 => h9) rfl dX8_requireSomeShelf_4 ?_
  refine va_getN (D := (dC, dI)) (ci := 7) (v := .int (M 2 0)) (C := RX7) (T := TX7) (N := 6) hx hb hts hinX7 hown hK hP 2 rfl rfl 0 (by decide) (nw24 hNW) (fun _ h9 => h9) rfl dX8_requireSomeShelf_7 ?_
  refine lv_if_ne (tgt := 24) hx hb dX8_requireSomeShelf_10 (by decide) (fun c9 => ?_) (fun c9 => ?_)
  · have hf := it_t hf c9
    have e9 := so_e hf
    cases e9
    exact W.vret hx hb hr (fun t ht hW => ⟨rfl, trivial, ht⟩) fl0 dX8_requireSomeShelf_24
  · have hf := it_n hf c9
    have e9 := so_e hf
    cases e9
set_option maxHeartbeats 4000000 in
set_option maxRecDepth 100000 in
theorem n_X8_heaviest (l : Launch) (dC : Nat → ClassId) (dI : Nat → Nat → Nat) (cI cZ cS : ClassId) (f g : Nat → Option Nat) (a : Nat → Nat) (M : Mem) (z1 : Int32) (hf : fX8_heaviest M  = some (Sum.inr z1)) : Met l yX8_heaviest wsX8_heaviest ({ frames := 3, cells := 0, slots := 0, locals := 69 } : Room) (va_Pc [.ref (a 0)] (RO8 (dC, dI) cI cZ cS (wX8 cI cZ cS f g a M))) (k2_QcV (.int z1)) 0 0 (fun _ => False) := by
  refine Met.ofW (cc := cX8_heaviest) (maxL := 1) (ret := (some .int)) (by decide) rfl ?_
  intro p e s m args below meth c s₁ B hml hv
  obtain ⟨rfl, hP, hK, hNW⟩ := hv
  have hx := B.exec
  have hb := B.bytes
  have hr := B.returns
  have hts := atoms_spec (ws := wsX8_heaviest) B.pre
  have hown : s.vm.findClass RX8 = some m.cls := findClass_of_methodNamed B.named
  have hlocks := B.notSynchronized
  have hK2 : va_K (dC, dI) vwCl [(cI, .int), (cZ, .boolean)] s := hK.sub (tys' := [(cI, .int), (cZ, .boolean)]) [0, 1] rfl
  have hinX8 : ∀ w ∈ u_ws RX8 TX8 6, w ∈ wsX8_heaviest := by decide +kernel
  have hw1 := hts (.fieldLink RX8 12 "GlideShelves" "now" "LGlideShelves$State;") (by decide +kernel)
  have hw2 := hts (.initialized RX6) (by decide +kernel)
  have hw3 := hts (.instanceMethod yX6_findHeaviest) (by decide +kernel)
  have hw4 := hts (.selects RX6 yX6_findHeaviest yX6_findHeaviest) (by decide +kernel)
  have hl := lv_entry ([.ref (a 0)]) (n := 1) (Nat.le_of_ble_eq_true rfl)
  rw [lg_entry_eq]
  generalize (lg_sl ([.ref (a 0)]) ++ List.replicate (1 - (lg_sl ([.ref (a 0)])).length) Slot.unset).toArray = ls at hl ⊢
  have hl : lv_has ls 1 [(0, .ref (a 0))] := hl
  unfold fX8_heaviest at hf
  refine lv_aload_n hx hb dX8_heaviest_0 rfl (lv_at hl 0 rfl) ?_
  obtain ⟨r1, hc1, hf⟩ := bi_s hf
  rcases r1 with E9 | r1
  · have e9 := so_e hf
    cases e9
  have hf := sel_r hf
  refine cROv (W.runV (As := []) (rest := []) ⟨hx, hb, hml, hown, hts⟩ (n_X8_requireSomeShelf l dC dI cI cZ cS f g a M  hc1) (cwV 0 hts gX8_heaviest_X8_requireSomeShelf rfl rfl rfl (by decide +kernel) ⟨Nat.le_of_ble_eq_true rfl, Nat.le_of_ble_eq_true rfl⟩) ⟨RO8.blind, va_recv hK hP (ci := 8) (q0 := 0) rfl rfl, RO8.pre hP hK hNW⟩ rfl rfl hl.1 rfl (lv_room (Nat.le_of_ble_eq_true rfl)) dX8_heaviest_1 ⟨Nat.le_of_ble_eq_true rfl, Nat.le_of_ble_eq_true rfl⟩) ?_
  refine lv_aload_n hx hb dX8_heaviest_4 rfl (lv_at hl 0 rfl) ?_
  refine va_get (D := (dC, dI)) (ci := 8) (v := .ref (a 1)) (C := RX8) (T := TX8) (N := 6) hx hb hts hinX8 hown hK hP 0 rfl rfl 0 (by decide) hw1 (fun _ h9 => h9) rfl dX8_heaviest_5 ?_
  obtain ⟨r8, hc8, hf⟩ := bi_s hf
  have hPc := hP.sub (ws' := (wX6 cI cZ (ofs 1 a) (ofs 1 M))) [1, 2, 3, 4, 5, 6, 7, 8, 9, 10, 11, 12, 13, 14, 15, 16] rfl
  refine cRO (va_Run.run (va_runVN (As := []) (rest := []) ⟨hx, hb, hml, hown, hts⟩ (c_X6_findHeaviest l dC dI cI cZ (ofs 1 a) (ofs 1 M) r8 hc8) ⟨va_cnB 0 hts gX8_heaviest_X6_findHeaviest_n368 rfl rfl rfl (nw62 hNW) hw2 (by decide +kernel) ⟨Nat.le_of_ble_eq_true rfl, Nat.le_of_ble_eq_true rfl⟩, hw3, hw4⟩ ⟨RO.blind, va_recv hK hP (ci := 6) (q0 := 1) rfl rfl, RO.pre hPc hK2 hNW⟩ rfl rfl hl.1 rfl (lv_room (Nat.le_of_ble_eq_true rfl)) dX8_heaviest_8 ⟨Nat.le_of_ble_eq_true rfl, Nat.le_of_ble_eq_true rfl⟩)) ?_
  have e9 := so_e hf
  cases e9
  exact W.iret hx hb hr (fun t ht hW => ⟨rfl, ht⟩) fl0 dX8_heaviest_11
set_option maxHeartbeats 4000000 in
set_option maxRecDepth 100000 in
theorem n_X8_mostFetched (l : Launch) (dC : Nat → ClassId) (dI : Nat → Nat → Nat) (cI cZ cS : ClassId) (f g : Nat → Option Nat) (a : Nat → Nat) (M : Mem) (z1 : Int32) (hf : fX8_mostFetched M  = some (Sum.inr z1)) : Met l yX8_mostFetched wsX8_mostFetched ({ frames := 1, cells := 0, slots := 0, locals := 24 } : Room) (va_Pc [.ref (a 0)] (RO8 (dC, dI) cI cZ cS (wX8 cI cZ cS f g a M))) (k2_QcV (.int z1)) 0 0 (fun _ => False) := by
  refine Met.ofW (cc := cX8_mostFetched) (maxL := 1) (ret := (some .int)) (by decide) rfl ?_
  intro p e s m args below meth c s₁ B hml hv
  obtain ⟨rfl, hP, hK, hNW⟩ := hv
  have hx := B.exec
  have hb := B.bytes
  have hr := B.returns
  have hts := atoms_spec (ws := wsX8_mostFetched) B.pre
  have hown : s.vm.findClass RX8 = some m.cls := findClass_of_methodNamed B.named
  have hlocks := B.notSynchronized
  have hK2 : va_K (dC, dI) vwCl [(cI, .int), (cZ, .boolean)] s := hK.sub (tys' := [(cI, .int), (cZ, .boolean)]) [0, 1] rfl
  have hinX8 : ∀ w ∈ u_ws RX8 TX8 6, w ∈ wsX8_mostFetched := by decide +kernel
  have hw1 := hts (.fieldLink RX8 12 "GlideShelves" "now" "LGlideShelves$State;") (by decide +kernel)
  have hinX6 : ∀ w ∈ u_ws RX6 TX6 5, w ∈ wsX8_mostFetched := by decide +kernel
  have hw3 := hts (.initialized RX7) (by decide +kernel)
  have hw4 := hts (.instanceMethod yX7_mostUsed) (by decide +kernel)
  have hw5 := hts (.selects RX7 yX7_mostUsed yX7_mostUsed) (by decide +kernel)
  have hl := lv_entry ([.ref (a 0)]) (n := 1) (Nat.le_of_ble_eq_true rfl)
  rw [lg_entry_eq]
  generalize (lg_sl ([.ref (a 0)]) ++ List.replicate (1 - (lg_sl ([.ref (a 0)])).length) Slot.unset).toArray = ls at hl ⊢
  have hl : lv_has ls 1 [(0, .ref (a 0))] := hl
  unfold fX8_mostFetched at hf
  refine lv_aload_n hx hb dX8_mostFetched_0 rfl (lv_at hl 0 rfl) ?_
  obtain ⟨r1, hc1, hf⟩ := bi_s hf
  rcases r1 with E9 | r1
  · have e9 := so_e hf
    cases e9
  have hf := sel_r hf
  refine cROv (W.runV (As := []) (rest := []) ⟨hx, hb, hml, hown, hts⟩ (n_X8_requireSomeShelf l dC dI cI cZ cS f g a M  hc1) (cwV 0 hts gX8_mostFetched_X8_requireSomeShelf rfl rfl rfl (by decide +kernel) ⟨Nat.le_of_ble_eq_true rfl, Nat.le_of_ble_eq_true rfl⟩) ⟨RO8.blind, va_recv hK hP (ci := 8) (q0 := 0) rfl rfl, RO8.pre hP hK hNW⟩ rfl rfl hl.1 rfl (lv_room (Nat.le_of_ble_eq_true rfl)) dX8_mostFetched_1 ⟨Nat.le_of_ble_eq_true rfl, Nat.le_of_ble_eq_true rfl⟩) ?_
  refine lv_aload_n hx hb dX8_mostFetched_4 rfl (lv_at hl 0 rfl) ?_
  refine va_get (D := (dC, dI)) (ci := 8) (v := .ref (a 1)) (C := RX8) (T := TX8) (N := 6) hx hb hts hinX8 hown hK hP 0 rfl rfl 0 (by decide) hw1 (fun _ h9 => h9) rfl dX8_mostFetched_5 ?_
  refine va_getN (D := (dC, dI)) (ci := 6) (v := .ref (a 2)) (C := RX6) (T := TX6) (N := 5) hx hb hts hinX6 hown hK hP 1 rfl rfl 0 (by decide) (nw23 hNW) (fun _ h9 => h9) rfl dX8_mostFetched_8 ?_
  refine lv_iconst (v := (0 : Int32)) hx hb dX8_mostFetched_11 (by decide) ?_
  obtain ⟨r12, hc12, hf⟩ := bi_s hf
  have hPc := hP.sub (ws' := (wX7 cI cZ (ofs 2 a) (ofs 2 M))) [2, 3, 4, 5, 6] rfl
  refine cRO (va_Run.run (va_runVN (As := [.int (0 : Int32)]) (rest := []) ⟨hx, hb, hml, hown, hts⟩ (c_X7_mostUsed l dC dI cI cZ (ofs 2 a) (ofs 2 M) (0 : Int32) r12 hc12) ⟨va_cnB 1 hts gX8_mostFetched_X7_mostUsed_n371 rfl rfl rfl (nw63 hNW) hw3 (by decide +kernel) ⟨Nat.le_of_ble_eq_true rfl, Nat.le_of_ble_eq_true rfl⟩, hw4, hw5⟩ ⟨RO.blind, va_recv hK hP (ci := 7) (q0 := 2) rfl rfl, RO.pre hPc hK2 hNW⟩ rfl rfl hl.1 rfl (lv_room (Nat.le_of_ble_eq_true rfl)) dX8_mostFetched_12 ⟨Nat.le_of_ble_eq_true rfl, Nat.le_of_ble_eq_true rfl⟩)) ?_
  have e9 := so_e hf
  cases e9
  exact W.iret hx hb hr (fun t ht hW => ⟨rfl, ht⟩) fl0 dX8_mostFetched_15
set_option maxHeartbeats 4000000 in
set_option maxRecDepth 100000 in
theorem c_X8_meanOf (l : Launch) (a0 : Int32) (a1 : Int32) (z : UInt64) (hf : fX8_meanOf a0 a1 = some z) : Met l yX8_meanOf wsX8_meanOf ({ frames := 0, cells := 0, slots := 0, locals := 0 } : Room) (va_Pc [.int a0, .int a1] (fun _ => True)) (k2_QcV (.double z)) 0 0 (fun _ => False) := by
  refine Met.ofW (cc := cX8_meanOf) (maxL := 2) (ret := (some .double)) (by decide) rfl ?_
  intro p e s m args below meth c s₁ B hml hv
  obtain ⟨rfl, -⟩ := hv
  have hx := B.exec
  have hb := B.bytes
  have hr := B.returns
  have hts := atoms_spec (ws := wsX8_meanOf) B.pre
  have hown : s.vm.findClass RX8 = some m.cls := findClass_of_methodNamed B.named
  have hlocks := B.notSynchronized
  have hfX8_meanOf_B13 : ∀ (s0 : UInt64), fX8_meanOf_B13  s0 = some z → ∀ (ls : Array Slot), lv_has ls 2 [] → W p l e (headSpec wsX8_meanOf ({ frames := 0, cells := 0, slots := 0, locals := 0 } : Room)).room s m ([.int a0, .int a1] : List Value).toArray below meth c s.heap [] 0 0 (MQ below (k2_QcV (.double z)) ([.int a0, .int a1] : List Value).toArray s 0 0 (fun _ => False)) (F0 m 13 ls [.double s0]) := by
    intro  s0 hf ls hl
    unfold fX8_meanOf_B13 at hf
    exact W.dret (v := s0) hx hb hr (fun t ht hW => ⟨congrArg (fun x => Outcome.returned (some (Value.double x))) (so_e hf), ht⟩) fl0 dX8_meanOf_13
  have hl := lv_entry ([.int a0, .int a1]) (n := 2) (Nat.le_of_ble_eq_true rfl)
  rw [lg_entry_eq]
  generalize (lg_sl ([.int a0, .int a1]) ++ List.replicate (2 - (lg_sl ([.int a0, .int a1])).length) Slot.unset).toArray = ls at hl ⊢
  have hl : lv_has ls 2 [(0, .int a0), (1, .int a1)] := hl
  unfold fX8_meanOf at hf
  refine lv_iload_n hx hb dX8_meanOf_0 rfl (lv_at hl 1 rfl) ?_
  refine lv_if_gt (tgt := 8) hx hb dX8_meanOf_1 (by decide) (fun c9 => ?_) (fun c9 => ?_)
  · have hf := it_t hf c9
    refine lv_iload_n hx hb dX8_meanOf_8 rfl (lv_at hl 0 rfl) ?_
    refine lv_i2d hx hb dX8_meanOf_9 ?_
    refine lv_iload_n hx hb dX8_meanOf_10 rfl (lv_at hl 1 rfl) ?_
    refine lv_i2d hx hb dX8_meanOf_11 ?_
    obtain ⟨hi, hf⟩ := gd_s hf
    refine lv_ddiv hx hb dX8_meanOf_12 (nnb_s hi) ?_
    exact hfX8_meanOf_B13  (FP.ddiv (FP.i2d a0) (FP.i2d a1)) hf _ (lv_sub hl [] rfl)
  · have hf := it_f hf c9
    refine lv_dconst0 hx hb dX8_meanOf_4 ?_
    refine lv_goto (tgt := 13) hx hb dX8_meanOf_5 (by decide) ?_
    exact hfX8_meanOf_B13  FP.dconst0 hf _ (lv_sub hl [] rfl)
set_option maxHeartbeats 4000000 in
set_option maxRecDepth 100000 in
theorem c_X8_meanTicks (l : Launch) (dC : Nat → ClassId) (dI : Nat → Nat → Nat) (cI cZ cS : ClassId) (f g : Nat → Option Nat) (a : Nat → Nat) (M : Mem) (z : UInt64) (hf : fX8_meanTicks M  = some z) : Met l yX8_meanTicks wsX8_meanTicks ({ frames := 1, cells := 0, slots := 0, locals := 21 } : Room) (va_Pc [.ref (a 0)] (RO8 (dC, dI) cI cZ cS (wX8 cI cZ cS f g a M))) (k2_QcV (.double z)) 0 0 (fun _ => False) := by
  refine Met.ofW (cc := cX8_meanTicks) (maxL := 1) (ret := (some .double)) (by decide) rfl ?_
  intro p e s m args below meth c s₁ B hml hv
  obtain ⟨rfl, hP, hK, hNW⟩ := hv
  have hK2 : va_K (dC, dI) vwCl [(cI, .int), (cZ, .boolean)] s := hK.sub (tys' := [(cI, .int), (cZ, .boolean)]) [0, 1] rfl
  have hx := B.exec
  have hb := B.bytes
  have hr := B.returns
  have hts := atoms_spec (ws := wsX8_meanTicks) B.pre
  have hown : s.vm.findClass RX8 = some m.cls := findClass_of_methodNamed B.named
  have hlocks := B.notSynchronized
  have hinX8 : ∀ w ∈ u_ws RX8 TX8 6, w ∈ wsX8_meanTicks := by decide +kernel
  have hw1 := hts (.fieldLink RX8 12 "GlideShelves" "now" "LGlideShelves$State;") (by decide +kernel)
  have hinX6 : ∀ w ∈ u_ws RX6 TX6 5, w ∈ wsX8_meanTicks := by decide +kernel
  have hinX2 : ∀ w ∈ u_ws RX2 TX2 7, w ∈ wsX8_meanTicks := by decide +kernel
  have hl := lv_entry ([.ref (a 0)]) (n := 1) (Nat.le_of_ble_eq_true rfl)
  rw [lg_entry_eq]
  generalize (lg_sl ([.ref (a 0)]) ++ List.replicate (1 - (lg_sl ([.ref (a 0)])).length) Slot.unset).toArray = ls at hl ⊢
  have hl : lv_has ls 1 [(0, .ref (a 0))] := hl
  unfold fX8_meanTicks at hf
  refine lv_aload_n hx hb dX8_meanTicks_0 rfl (lv_at hl 0 rfl) ?_
  refine va_get (D := (dC, dI)) (ci := 8) (v := .ref (a 1)) (C := RX8) (T := TX8) (N := 6) hx hb hts hinX8 hown hK hP 0 rfl rfl 0 (by decide) hw1 (fun _ h9 => h9) rfl dX8_meanTicks_1 ?_
  refine va_getN (D := (dC, dI)) (ci := 6) (v := .ref (a 7)) (C := RX6) (T := TX6) (N := 5) hx hb hts hinX6 hown hK hP 1 rfl rfl 1 (by decide) (nw10 hNW) (fun _ h9 => h9) rfl dX8_meanTicks_4 ?_
  refine va_getN (D := (dC, dI)) (ci := 2) (v := .int (M 7 2)) (C := RX2) (T := TX2) (N := 7) hx hb hts hinX2 hown hK hP 7 rfl rfl 2 (by decide) (nw21 hNW) (fun _ h9 => h9) rfl dX8_meanTicks_7 ?_
  refine lv_aload_n hx hb dX8_meanTicks_10 rfl (lv_at hl 0 rfl) ?_
  refine va_get (D := (dC, dI)) (ci := 8) (v := .ref (a 1)) (C := RX8) (T := TX8) (N := 6) hx hb hts hinX8 hown hK hP 0 rfl rfl 0 (by decide) hw1 (fun _ h9 => h9) rfl dX8_meanTicks_11 ?_
  refine va_getN (D := (dC, dI)) (ci := 6) (v := .ref (a 7)) (C := RX6) (T := TX6) (N := 5) hx hb hts hinX6 hown hK hP 1 rfl rfl 1 (by decide) (nw10 hNW) (fun _ h9 => h9) rfl dX8_meanTicks_14 ?_
  refine va_getN (D := (dC, dI)) (ci := 2) (v := .int (M 7 3)) (C := RX2) (T := TX2) (N := 7) hx hb hts hinX2 hown hK hP 7 rfl rfl 3 (by decide) (nw22 hNW) (fun _ h9 => h9) rfl dX8_meanTicks_17 ?_
  obtain ⟨r20, hc20, hf⟩ := bi_s hf
  refine cRO (W.runS (As := [.int (M 7 2), .int (M 7 3)]) (rest := []) ⟨hx, hb, hml, hown, hts⟩ (c_X8_meanOf l (M 7 2) (M 7 3) r20 hc20) (va_cwS 2 hts gX8_meanTicks_X8_meanOf rfl rfl rfl (by decide +kernel) ⟨Nat.le_of_ble_eq_true rfl, Nat.le_of_ble_eq_true rfl⟩) ⟨tr_blind, tr_pre⟩ rfl rfl hl.1 rfl (lv_room (Nat.le_of_ble_eq_true rfl)) dX8_meanTicks_20 ⟨Nat.le_of_ble_eq_true rfl, Nat.le_of_ble_eq_true rfl⟩) ?_
  exact W.dret (v := r20) hx hb hr (fun t ht hW => ⟨congrArg (fun x => Outcome.returned (some (Value.double x))) (so_e hf), ht⟩) fl0 dX8_meanTicks_23
set_option maxHeartbeats 4000000 in
set_option maxRecDepth 100000 in
theorem n_X8_requireMany (l : Launch) (dC : Nat → ClassId) (dI : Nat → Nat → Nat) (cI cZ cS : ClassId) (f g : Nat → Option Nat) (a : Nat → Nat) (M : Mem) (a1 : Int32) (hf : fX8_requireMany M a1 = some (Sum.inr ())) : Met l yX8_requireMany wsX8_requireMany ({ frames := 0, cells := 0, slots := 0, locals := 0 } : Room) (va_Pc [.ref (a 0), .int a1] (RO8 (dC, dI) cI cZ cS (wX8 cI cZ cS f g a M))) (va_Sv (fun _ => True)) 0 0 (fun _ => False) := by
  refine Met.ofW (cc := cX8_requireMany) (maxL := 2) (ret := none) (by decide) rfl ?_
  intro p e s m args below meth c s₁ B hml hv
  obtain ⟨rfl, hP, hK, hNW⟩ := hv
  have hx := B.exec
  have hb := B.bytes
  have hr := B.returns
  have hts := atoms_spec (ws := wsX8_requireMany) B.pre
  have hown : s.vm.findClass RX8 = some m.cls := findClass_of_methodNamed B.named
  have hlocks := B.notSynchronized
  have hK2 : va_K (dC, dI) vwCl [(cI, .int), (cZ, .boolean)] s := hK.sub (tys' := [(cI, .int), (cZ, .boolean)]) [0, 1] rfl
  have hfX8_requireMany_B11 : ∀ (_ : Unit), fX8_requireMany_B11 M  () = some (Sum.inr ()) → ∀ (ls : Array Slot), lv_has ls 2 [] → W p l e (headSpec wsX8_requireMany ({ frames := 0, cells := 0, slots := 0, locals := 0 } : Room)).room s m ([.ref (a 0), .int a1] : List Value).toArray below meth c s.heap [] 0 0 (MQ below (va_Sv (fun _ => True)) ([.ref (a 0), .int a1] : List Value).toArray s 0 0 (fun _ => False)) (F0 m 11 ls []) := by
    intro  _ hf ls hl
    unfold fX8_requireMany_B11 at hf
    have e9 := so_e hf
    cases e9
  have hl := lv_entry ([.ref (a 0), .int a1]) (n := 2) (Nat.le_of_ble_eq_true rfl)
  rw [lg_entry_eq]
  generalize (lg_sl ([.ref (a 0), .int a1]) ++ List.replicate (2 - (lg_sl ([.ref (a 0), .int a1])).length) Slot.unset).toArray = ls at hl ⊢
  have hl : lv_has ls 2 [(0, .ref (a 0)), (1, .int a1)] := hl
  unfold fX8_requireMany at hf
  refine lv_iload_n hx hb dX8_requireMany_0 rfl (lv_at hl 1 rfl) ?_
  refine lv_iconst (v := (1 : Int32)) hx hb dX8_requireMany_1 (by decide) ?_
  refine lv_icmp_lt (tgt := 11) hx hb dX8_requireMany_2 (by decide) (fun c9 => ?_) (fun c9 => ?_)
  · have hf := it_t hf c9
    exact hfX8_requireMany_B11  () hf _ (lv_sub hl [] rfl)
  · have hf := it_f hf c9
    refine lv_iload_n hx hb dX8_requireMany_5 rfl (lv_at hl 1 rfl) ?_
    refine lv_bipush (v := (20 : Int32)) hx hb dX8_requireMany_6 (by decide) ?_
    refine lv_icmp_le (tgt := 22) hx hb dX8_requireMany_8 (by decide) (fun c9 => ?_) (fun c9 => ?_)
    · have hf := it_t hf c9
      have e9 := so_e hf
      cases e9
      exact W.vret hx hb hr (fun t ht hW => ⟨rfl, trivial, ht⟩) fl0 dX8_requireMany_22
    · have hf := it_f hf c9
      exact hfX8_requireMany_B11  () hf _ (lv_sub hl [] rfl)
set_option maxHeartbeats 4000000 in
set_option maxRecDepth 100000 in
theorem n_X8_requireShelfAtWindow (l : Launch) (dC : Nat → ClassId) (dI : Nat → Nat → Nat) (cI cZ cS : ClassId) (f g : Nat → Option Nat) (a : Nat → Nat) (M : Mem) (hf : fX8_requireShelfAtWindow M  = some (Sum.inr ())) : Met l yX8_requireShelfAtWindow wsX8_requireShelfAtWindow ({ frames := 0, cells := 0, slots := 0, locals := 0 } : Room) (va_Pc [.ref (a 0)] (RO8 (dC, dI) cI cZ cS (wX8 cI cZ cS f g a M))) (va_Sv (fun _ => True)) 0 0 (fun _ => False) := by
  refine Met.ofW (cc := cX8_requireShelfAtWindow) (maxL := 1) (ret := none) (by decide) rfl ?_
  intro p e s m args below meth c s₁ B hml hv
  obtain ⟨rfl, hP, hK, hNW⟩ := hv
  have hx := B.exec
  have hb := B.bytes
  have hr := B.returns
  have hts := atoms_spec (ws := wsX8_requireShelfAtWindow) B.pre
  have hown : s.vm.findClass RX8 = some m.cls := findClass_of_methodNamed B.named
  have hlocks := B.notSynchronized
  have hK2 : va_K (dC, dI) vwCl [(cI, .int), (cZ, .boolean)] s := hK.sub (tys' := [(cI, .int), (cZ, .boolean)]) [0, 1] rfl
  have hinX8 : ∀ w ∈ u_ws RX8 TX8 6, w ∈ wsX8_requireShelfAtWindow := by decide +kernel
  have hw1 := hts (.fieldLink RX8 12 "GlideShelves" "now" "LGlideShelves$State;") (by decide +kernel)
  have hinX6 : ∀ w ∈ u_ws RX6 TX6 5, w ∈ wsX8_requireShelfAtWindow := by decide +kernel
  have hinX7 : ∀ w ∈ u_ws RX7 TX7 6, w ∈ wsX8_requireShelfAtWindow := by decide +kernel
  have hfX8_requireShelfAtWindow_B36 : ∀ (_ : Unit), fX8_requireShelfAtWindow_B36 M  () = some (Sum.inr ()) → ∀ (ls : Array Slot), lv_has ls 1 [] → W p l e (headSpec wsX8_requireShelfAtWindow ({ frames := 0, cells := 0, slots := 0, locals := 0 } : Room)).room s m ([.ref (a 0)] : List Value).toArray below meth c s.heap [] 0 0 (MQ below (va_Sv (fun _ => True)) ([.ref (a 0)] : List Value).toArray s 0 0 (fun _ => False)) (F0 m 36 ls []) := by
    intro  _ hf ls hl
    unfold fX8_requireShelfAtWindow_B36 at hf
    have e9 := so_e hf
    cases e9
  have hl := lv_entry ([.ref (a 0)]) (n := 1) (Nat.le_of_ble_eq_true rfl)
  rw [lg_entry_eq]
  generalize (lg_sl ([.ref (a 0)]) ++ List.replicate (1 - (lg_sl ([.ref (a 0)])).length) Slot.unset).toArray = ls at hl ⊢
  have hl : lv_has ls 1 [(0, .ref (a 0))] := hl
  unfold fX8_requireShelfAtWindow at hf
  refine lv_aload_n hx hb dX8_requireShelfAtWindow_0 rfl (lv_at hl 0 rfl) ?_
  refine va_get (D := (dC, dI)) (ci := 8) (v := .ref (a 1)) (C := RX8) (T := TX8) (N := 6) hx hb hts hinX8 hown hK hP 0 rfl rfl 0 (by decide) hw1 (fun _ h9 => h9) rfl dX8_requireShelfAtWindow_1 ?_
  refine va_getN (D := (dC, dI)) (ci := 6) (v := .ref (a 2)) (C := RX6) (T := TX6) (N := 5) hx hb hts hinX6 hown hK hP 1 rfl rfl 0 (by decide) (nw23 hNW) (fun _ h9 => h9) rfl dX8_requireShelfAtWindow_4 ?_
  refine va_getN (D := (dC, dI)) (ci := 7) (v := .int (M 2 1)) (C := RX7) (T := TX7) (N := 6) hx hb hts hinX7 hown hK hP 2 rfl rfl 1 (by decide) (nw25 hNW) (fun _ h9 => h9) rfl dX8_requireShelfAtWindow_7 ?_
  refine lv_if_lt (tgt := 36) hx hb dX8_requireShelfAtWindow_10 (by decide) (fun c9 => ?_) (fun c9 => ?_)
  · have hf := it_t hf c9
    exact hfX8_requireShelfAtWindow_B36  () hf _ (lv_sub hl [] rfl)
  · have hf := it_f hf c9
    refine lv_aload_n hx hb dX8_requireShelfAtWindow_13 rfl (lv_at hl 0 rfl) ?_
    refine va_get (D := (dC, dI)) (ci := 8) (v := .ref (a 1)) (C := RX8) (T := TX8) (N := 6) hx hb hts hinX8 hown hK hP 0 rfl rfl 0 (by decide) hw1 (fun _ h9 => h9) rfl dX8_requireShelfAtWindow_14 ?_
    refine va_getN (D := (dC, dI)) (ci := 6) (v := .ref (a 2)) (C := RX6) (T := TX6) (N := 5) hx hb hts hinX6 hown hK hP 1 rfl rfl 0 (by decide) (nw23 hNW) (fun _ h9 => h9) rfl dX8_requireShelfAtWindow_17 ?_
    refine va_getN (D := (dC, dI)) (ci := 7) (v := .int (M 2 1)) (C := RX7) (T := TX7) (N := 6) hx hb hts hinX7 hown hK hP 2 rfl rfl 1 (by decide) (nw25 hNW) (fun _ h9 => h9) rfl dX8_requireShelfAtWindow_20 ?_
    refine lv_aload_n hx hb dX8_requireShelfAtWindow_23 rfl (lv_at hl 0 rfl) ?_
    refine va_get (D := (dC, dI)) (ci := 8) (v := .ref (a 1)) (C := RX8) (T := TX8) (N := 6) hx hb hts hinX8 hown hK hP 0 rfl rfl 0 (by decide) hw1 (fun _ h9 => h9) rfl dX8_requireShelfAtWindow_24 ?_
    refine va_getN (D := (dC, dI)) (ci := 6) (v := .ref (a 2)) (C := RX6) (T := TX6) (N := 5) hx hb hts hinX6 hown hK hP 1 rfl rfl 0 (by decide) (nw23 hNW) (fun _ h9 => h9) rfl dX8_requireShelfAtWindow_27 ?_
    refine va_getN (D := (dC, dI)) (ci := 7) (v := .int (M 2 0)) (C := RX7) (T := TX7) (N := 6) hx hb hts hinX7 hown hK hP 2 rfl rfl 0 (by decide) (nw24 hNW) (fun _ h9 => h9) rfl dX8_requireShelfAtWindow_30 ?_
    refine lv_icmp_lt (tgt := 47) hx hb dX8_requireShelfAtWindow_33 (by decide) (fun c9 => ?_) (fun c9 => ?_)
    · have hf := it_t hf c9
      have e9 := so_e hf
      cases e9
      exact W.vret hx hb hr (fun t ht hW => ⟨rfl, trivial, ht⟩) fl0 dX8_requireShelfAtWindow_47
    · have hf := it_f hf c9
      exact hfX8_requireShelfAtWindow_B36  () hf _ (lv_sub hl [] rfl)
