set_option maxHeartbeats 4000000 in
set_option maxRecDepth 100000 in
theorem c_X8_fewestFound (l : Launch) (dC : Nat → ClassId) (dI : Nat → Nat → Nat) (cI cZ cS : ClassId) (f g : Nat → Option Nat) (a : Nat → Nat) (sz : Nat) (M : Mem) (a1 : Int32) (z : Int32 × Mem) (hf : fX8_fewestFound M a1 = some z) : Met l yX8_fewestFound wsX8_fewestFound ({ frames := 19, cells := 0, slots := 0, locals := 470 } : Room) (va_Pc [.ref (a 0), .int a1] (WR8 (dC, dI) cI cZ cS (wX8 cI cZ cS f g a M) sz)) (va_Qi (S := Unit) (fun r _ => r = z.1) (fun _ t => WE (dC, dI) cI cZ (wX8 cI cZ cS f g a (sr M 41 (z.2 41))) (va_A (wX8 cI cZ cS f g a M) sz) t) (va_A (wX8 cI cZ cS f g a M) sz)) 0 0 (va_A (wX8 cI cZ cS f g a M) sz) := by
  refine Met.ofW (cc := cX8_fewestFound) (maxL := 3) (ret := (some .int)) (by decide) rfl ?_
  intro p e s m args below meth c s₁ B hml hv
  obtain ⟨rfl, hsz, hP, hK, hD0, hNW⟩ := hv
  have hK2 : va_K (dC, dI) vwCl [(cI, .int), (cZ, .boolean)] s := hK.sub (tys' := [(cI, .int), (cZ, .boolean)]) [0, 1] rfl
  have hx := B.exec
  have hb := B.bytes
  have hr := B.returns
  have hts := atoms_spec (ws := wsX8_fewestFound) B.pre
  have hown : s.vm.findClass RX8 = some m.cls := findClass_of_methodNamed B.named
  have hlocks := B.notSynchronized
  have hinX8 : ∀ w ∈ u_ws RX8 TX8 6, w ∈ wsX8_fewestFound := by decide +kernel
  have hw1 := hts (.fieldLink RX8 37 "GlideShelves" "lacking" "[I") (by decide +kernel)
  have hw2 := hts (.fieldLink RX8 12 "GlideShelves" "now" "LGlideShelves$State;") (by decide +kernel)
  have hinX6 : ∀ w ∈ u_ws RX6 TX6 5, w ∈ wsX8_fewestFound := by decide +kernel
  have hw4 := hts (.initialized RX3) (by decide +kernel)
  have hw5 := hts (.instanceMethod yX3_wantedOf) (by decide +kernel)
  have hw6 := hts (.selects RX3 yX3_wantedOf yX3_wantedOf) (by decide +kernel)
  subst hsz
  have hD := hD0.self (sz := s.heap.size)
  generalize hAe : va_A (wX8 cI cZ cS f g a M) s.heap.size = A at hD ⊢
  have hA : ∀ q : Nat, s.heap.size ≤ q → A q := fun q h => by rw [← hAe]; exact Or.inr h
  have hS : va_S A s.heap s.heap [] := va_S.rf
  have hfX8_fewestFound_L2 : ∀ (n : Nat) (kx32 : Mem → Option (Int32 × Mem)) (hkx32 : ∀ (N : Mem), kx32 N = some z → ∀ (ls : Array Slot), lv_has ls 3 [(0, .ref (a 0))] → ∀ (H : Heap) (locs : List Loc), va_P (dC, dI) vwCl (wX8 cI cZ cS f g a (sr M 41 (N 41))) H → va_D A (wX8 cI cZ cS f g a (sr M 41 (N 41))) → va_S A s.heap H locs → W p l e (headSpec wsX8_fewestFound ({ frames := 19, cells := 0, slots := 0, locals := 470 } : Room)).room s m ([.ref (a 0), .int a1] : List Value).toArray below meth c H locs 0 0 (MQ below (va_Qi (S := Unit) (fun r _ => r = z.1) (fun _ t => WE (dC, dI) cI cZ (wX8 cI cZ cS f g a (sr M 41 (z.2 41))) A t) A) ([.ref (a 0), .int a1] : List Value).toArray s 0 0 A) (F0 m 32 ls [])), ∀ (N : Mem) (l1 : Int32) (l2 : Int32), fX8_fewestFound_L2 M n kx32 N l1 l2 = some z → ∀ (ls : Array Slot), lv_has ls 3 [(0, .ref (a 0)), (1, .int l1), (2, .int l2)] → ∀ (H : Heap) (locs : List Loc), va_P (dC, dI) vwCl (wX8 cI cZ cS f g a (sr M 41 (N 41))) H → va_D A (wX8 cI cZ cS f g a (sr M 41 (N 41))) → va_S A s.heap H locs → W p l e (headSpec wsX8_fewestFound ({ frames := 19, cells := 0, slots := 0, locals := 470 } : Room)).room s m ([.ref (a 0), .int a1] : List Value).toArray below meth c H locs 0 0 (MQ below (va_Qi (S := Unit) (fun r _ => r = z.1) (fun _ t => WE (dC, dI) cI cZ (wX8 cI cZ cS f g a (sr M 41 (z.2 41))) A t) A) ([.ref (a 0), .int a1] : List Value).toArray s 0 0 A) (F0 m 2 ls []) := by
    intro n
    induction n with
    | zero =>
      intro kx32 hkx32 N l1 l2 hf ls hl H locs hP hD hS
      rw [fX8_fewestFound_L2] at hf
      cases hf
    | succ n ih =>
      intro kx32 hkx32 N l1 l2 hf ls hl H locs hP hD hS
      rw [fX8_fewestFound_L2] at hf
      refine lv_iload_n hx hb dX8_fewestFound_2 rfl (lv_at hl 2 rfl) ?_
      refine lv_bipush (v := (10 : Int32)) hx hb dX8_fewestFound_3 (by decide) ?_
      refine lv_icmp_ge (tgt := 32) hx hb dX8_fewestFound_5 (by decide) (fun c9 => ?_) (fun c9 => ?_)
      · have hf := it_t hf c9
        exact hkx32 (sr M 41 (N 41)) hf _ (lv_sub hl [0] rfl) _ _ hP hD hS
      · have hf := it_f hf c9
        refine lv_aload_n hx hb dX8_fewestFound_8 rfl (lv_at hl 0 rfl) ?_
        refine va_get (D := (dC, dI)) (ci := 8) (v := .ref (a 41)) (C := RX8) (T := TX8) (N := 6) hx hb hts hinX8 hown hK hP 0 rfl rfl 5 (by decide) hw1 (fun _ h9 => h9) rfl dX8_fewestFound_9 ?_
        refine lv_iload_n hx hb dX8_fewestFound_12 rfl (lv_at hl 2 rfl) ?_
        refine lv_aload_n hx hb dX8_fewestFound_13 rfl (lv_at hl 0 rfl) ?_
        refine va_get (D := (dC, dI)) (ci := 8) (v := .ref (a 1)) (C := RX8) (T := TX8) (N := 6) hx hb hts hinX8 hown hK hP 0 rfl rfl 0 (by decide) hw2 (fun _ h9 => h9) rfl dX8_fewestFound_14 ?_
        refine va_getN (D := (dC, dI)) (ci := 6) (v := .ref (a 15)) (C := RX6) (T := TX6) (N := 5) hx hb hts hinX6 hown hK hP 1 rfl rfl 3 (by decide) (nw4 hNW) (fun _ h9 => h9) rfl dX8_fewestFound_17 ?_
        refine lv_iload_n hx hb dX8_fewestFound_20 rfl (lv_at hl 1 rfl) ?_
        refine lv_iload_n hx hb dX8_fewestFound_21 rfl (lv_at hl 2 rfl) ?_
        obtain ⟨r22, hc22, hf⟩ := bi_s hf
        have hPc := hP.sub (ws' := (wX3 cI cZ (ofs 15 a) (ofs 15 (sr M 41 (N 41))))) [15, 16] rfl
        refine cRO (va_Run.run (va_runVN (As := [.int l1, .int l2]) (rest := [.int l2, .ref (a 41)]) ⟨hx, hb, hml, hown, hts⟩ (c_X3_wantedOf l dC dI cI cZ (ofs 15 a) (ofs 15 (sr M 41 (N 41))) l1 l2 r22 hc22) ⟨va_cnB 2 hts gX8_fewestFound_X3_wantedOf_n326 rfl rfl rfl (nw72 hNW) hw4 (by decide +kernel) ⟨Nat.le_of_ble_eq_true rfl, Nat.le_of_ble_eq_true rfl⟩, hw5, hw6⟩ ⟨RO.blind, va_recv hK hP (ci := 3) (q0 := 15) rfl rfl, RO.pre hPc hK2 hNW⟩ rfl rfl hl.1 rfl (lv_room (Nat.le_of_ble_eq_true rfl)) dX8_fewestFound_22 ⟨Nat.le_of_ble_eq_true rfl, Nat.le_of_ble_eq_true rfl⟩)) ?_
        obtain ⟨hi, hf⟩ := gd_s hf
        refine va_iast (D := (dC, dI)) (f := (N 41)) hx hb hK hP hD hS 41 0 rfl rfl (inb_in hi) dX8_fewestFound_25 (fun H locs hP hD hS => ?_)
        have hP : va_P (dC, dI) vwCl (wX8 cI cZ cS f g a (sr M 41 (upd (N 41) l2.toNatClampNeg r22))) H := hP
        have hD : va_D A (wX8 cI cZ cS f g a (sr M 41 (upd (N 41) l2.toNatClampNeg r22))) := hD
        refine lv_iinc (v := (l2 + (1 : Int32))) (lv' := [(2, .int (l2 + (1 : Int32))), (0, .ref (a 0)), (1, .int l1)]) hx hb dX8_fewestFound_26 hl (k := 2) rfl rfl (by decide) rfl (fun ls hl => ?_)
        refine lv_goto (tgt := 2) hx hb dX8_fewestFound_29 (by decide) ?_
        exact ih kx32 hkx32 (sr M 41 (upd (N 41) l2.toNatClampNeg r22)) l1 (l2 + (1 : Int32)) hf _ (lv_sub hl [1, 2, 0] rfl) _ _ hP hD hS
  have hl := lv_entry ([.ref (a 0), .int a1]) (n := 3) (Nat.le_of_ble_eq_true rfl)
  rw [lg_entry_eq]
  generalize (lg_sl ([.ref (a 0), .int a1]) ++ List.replicate (3 - (lg_sl ([.ref (a 0), .int a1])).length) Slot.unset).toArray = ls at hl ⊢
  have hl : lv_has ls 3 [(0, .ref (a 0)), (1, .int a1)] := hl
  unfold fX8_fewestFound at hf
  suffices hgo : ∀ (H : Heap) (locs : List Loc), va_P (dC, dI) vwCl (wX8 cI cZ cS f g a M) H → va_D A (wX8 cI cZ cS f g a M) → va_S A s.heap H locs → W p l e (headSpec wsX8_fewestFound ({ frames := 19, cells := 0, slots := 0, locals := 470 } : Room)).room s m ([.ref (a 0), .int a1] : List Value).toArray below meth c H locs 0 0 (MQ below (va_Qi (S := Unit) (fun r _ => r = z.1) (fun _ t => WE (dC, dI) cI cZ (wX8 cI cZ cS f g a (sr M 41 (z.2 41))) A t) A) ([.ref (a 0), .int a1] : List Value).toArray s 0 0 A) (F0 m 0 ls []) from hgo _ _ hP hD hS
  intro H locs hP hD hS
  refine lv_iconst (v := (0 : Int32)) hx hb dX8_fewestFound_0 (by decide) ?_
  refine lv_istore_n (lv' := [(2, .int (0 : Int32)), (0, .ref (a 0)), (1, .int a1)]) hx hb dX8_fewestFound_1 rfl hl (by decide) rfl (fun ls hl => ?_)
  refine hfX8_fewestFound_L2 5000 _ (fun N hf ls hl H locs hP hD hS => ?_) M a1 (0 : Int32) hf _ (lv_sub hl [1, 2, 0] rfl) _ _ hP hD hS
  refine lv_aload_n hx hb dX8_fewestFound_32 rfl (lv_at hl 0 rfl) ?_
  refine va_get (D := (dC, dI)) (ci := 8) (v := .ref (a 1)) (C := RX8) (T := TX8) (N := 6) hx hb hts hinX8 hown hK hP 0 rfl rfl 0 (by decide) hw2 (fun _ h9 => h9) rfl dX8_fewestFound_33 ?_
  refine va_getN (D := (dC, dI)) (ci := 6) (v := .ref (a 2)) (C := RX6) (T := TX6) (N := 5) hx hb hts hinX6 hown hK hP 1 rfl rfl 0 (by decide) (nw24 hNW) (fun _ h9 => h9) rfl dX8_fewestFound_36 ?_
  refine lv_aload_n hx hb dX8_fewestFound_39 rfl (lv_at hl 0 rfl) ?_
  refine va_get (D := (dC, dI)) (ci := 8) (v := .ref (a 41)) (C := RX8) (T := TX8) (N := 6) hx hb hts hinX8 hown hK hP 0 rfl rfl 5 (by decide) hw1 (fun _ h9 => h9) rfl dX8_fewestFound_40 ?_
  refine lv_iconst (v := (0 : Int32)) hx hb dX8_fewestFound_43 (by decide) ?_
  refine lv_iconst (v := (0 : Int32)) hx hb dX8_fewestFound_44 (by decide) ?_
  refine lv_bipush (v := (13 : Int32)) hx hb dX8_fewestFound_45 (by decide) ?_
  obtain ⟨r47, hc47, hf⟩ := bi_s hf
  have hPc := hP.sub (ws' := (wX8_fewestFrom cI cZ (pk [2, 3, 4, 5, 6, 41] a) (pk [2, 3, 4, 5, 6, 41] (sr M 41 (N 41))))) [2, 3, 4, 5, 6, 41] rfl
  have hDc := hD.sub (ws' := (wX8_fewestFrom cI cZ (pk [2, 3, 4, 5, 6, 41] a) (pk [2, 3, 4, 5, 6, 41] (sr M 41 (N 41))))) [2, 3, 4, 5, 6, 41] (by decide) rfl
  have hFc := va_free (wc := (wX8_fewestFrom cI cZ (pk [2, 3, 4, 5, 6, 41] a) (pk [2, 3, 4, 5, 6, 41] (sr M 41 (N 41))))) hD hS hA [2, 3, 4, 5, 6, 41] rfl
  refine va_calli (va_runS (As := [.ref (a 2), .ref (a 41), .int (0 : Int32), .int (0 : Int32), .int (13 : Int32)]) (rest := []) ⟨hx, hb, hml, hown, hts⟩ (c_X8_fewestFrom_14 l dC dI cI cZ (pk [2, 3, 4, 5, 6, 41] a) H.size (pk [2, 3, 4, 5, 6, 41] (sr M 41 (N 41))) (0 : Int32) (0 : Int32) (13 : Int32) r47 hc47) (va_cwS 5 hts gX8_fewestFound_X8_fewestFrom rfl rfl rfl (by decide +kernel) ⟨Nat.le_of_ble_eq_true rfl, Nat.le_of_ble_eq_true rfl⟩) ⟨WR.blind, WR.pre hPc hK2 hDc hNW⟩ rfl rfl hl.1 rfl (lv_room (Nat.le_of_ble_eq_true rfl)) dX8_fewestFound_47 ⟨Nat.le_of_ble_eq_true rfl, Nat.le_of_ble_eq_true rfl⟩) hS (fun q _ h => hFc q h) hFc (fun rv u t H1 locs ht hvm hw hB hz1 hk1 hS => ?_)
  obtain ⟨hP1, hD1⟩ := hB
  rw [ht] at hP1
  subst hw
  obtain ⟨hP, hD⟩ := va_join (wr := [(a 0, .inr (8, [.ref (a 1), .ref (a 17), .ref (a 33), .ref (a 36), .ref (a 40), .ref (a 41)])), (a 1, .inr (6, [.ref (a 2), .ref (a 7), .ref (a 10), .ref (a 15), .int (M 1 4)])), (a 7, .inr (2, [.int (M 7 0), .int (M 7 1), .int (M 7 2), .int (M 7 3), .int (M 7 4), .ref (a 8), .ref (a 9)])), (a 8, .inl (cI, 8, .inl (M 8))), (a 9, .inl (cZ, 8, .inl (M 9))), (a 10, .inr (0, [.ref (a 11), .ref (a 12), .ref (a 13), .ref (a 14)])), (a 11, .inl (cI, 10, .inl (M 11))), (a 12, .inl (cI, 10, .inl (M 12))), (a 13, .inl (cI, 10, .inl (M 13))), (a 14, .inl (cI, 10, .inl (M 14))), (a 15, .inr (3, [.int (M 15 0), .ref (a 16)])), (a 16, .inl (cI, 80, .inl (M 16))), (a 17, .inr (6, [.ref (a 18), .ref (a 23), .ref (a 26), .ref (a 31), .int (M 17 4)])), (a 18, .inr (7, [.int (M 18 0), .int (M 18 1), .ref (a 19), .ref (a 20), .ref (a 21), .ref (a 22)])), (a 19, .inl (cI, 12, .inl (M 19))), (a 20, .inl (cI, 12, .inl (M 20))), (a 21, .inl (cI, 12, .inl (M 21))), (a 22, .inl (cI, 120, .inl (M 22))), (a 23, .inr (2, [.int (M 23 0), .int (M 23 1), .int (M 23 2), .int (M 23 3), .int (M 23 4), .ref (a 24), .ref (a 25)])), (a 24, .inl (cI, 8, .inl (M 24))), (a 25, .inl (cZ, 8, .inl (M 25))), (a 26, .inr (0, [.ref (a 27), .ref (a 28), .ref (a 29), .ref (a 30)])), (a 27, .inl (cI, 10, .inl (M 27))), (a 28, .inl (cI, 10, .inl (M 28))), (a 29, .inl (cI, 10, .inl (M 29))), (a 30, .inl (cI, 10, .inl (M 30))), (a 31, .inr (3, [.int (M 31 0), .ref (a 32)])), (a 32, .inl (cI, 80, .inl (M 32))), (a 33, .inr (1, [.int (M 33 0), .ref (a 34), .ref (a 35)])), (a 34, .inl (cS, 6, .inr (.inr (.inr (.inr f))))), (a 35, .inl (cS, 2, .inr (.inr (.inr (.inr g))))), (a 36, .inr (5, [.int (M 36 0), .ref (a 37), .ref (a 38)])), (a 37, .inl (cI, 60, .inl (M 37))), (a 38, .inr (4, [.int (M 38 0), .int (M 38 1), .ref (a 39)])), (a 39, .inl (cI, 10, .inl (M 39))), (a 40, .inl (cI, 12, .inl (M 40)))]) (w1 := (wX8_fewestFrom cI cZ (pk [2, 3, 4, 5, 6, 41] a) (sr (pk [2, 3, 4, 5, 6, 41] (sr M 41 (N 41))) 5 (r47.2 5)))) hP hD [2, 3, 4, 5, 6, 41] [0, 1, 7, 8, 9, 10, 11, 12, 13, 14, 15, 16, 17, 18, 19, 20, 21, 22, 23, 24, 25, 26, 27, 28, 29, 30, 31, 32, 33, 34, 35, 36, 37, 38, 39, 40] rfl rfl (by decide) (by decide) hk1 hFc hP1 hD1
  have hP := hP.sub (ws' := (wX8 cI cZ cS f g a (sr M 41 (r47.2 5)))) [0, 1, 36, 37, 38, 39, 40, 2, 3, 4, 5, 6, 7, 8, 9, 10, 11, 12, 13, 14, 15, 16, 17, 18, 19, 20, 21, 22, 23, 24, 25, 26, 27, 28, 29, 30, 31, 32, 33, 34, 35, 41] rfl
  have hD := hD.sub (ws' := (wX8 cI cZ cS f g a (sr M 41 (r47.2 5)))) [0, 1, 36, 37, 38, 39, 40, 2, 3, 4, 5, 6, 7, 8, 9, 10, 11, 12, 13, 14, 15, 16, 17, 18, 19, 20, 21, 22, 23, 24, 25, 26, 27, 28, 29, 30, 31, 32, 33, 34, 35, 41] (by decide) rfl
  generalize H1 = H at hP hS ⊢
  have e9 := so_e hf
  subst e9
  exact W.iret (v := r47.1) hx hb hr (fun t ht hW => ⟨⟨r47.1, (), rfl, rfl, WE.mk hP hD ht⟩, hS.F ht⟩) hS.2.2 dX8_fewestFound_50
set_option maxHeartbeats 4000000 in
set_option maxRecDepth 100000 in
theorem n_X8_fewestByGoing (l : Launch) (dC : Nat → ClassId) (dI : Nat → Nat → Nat) (cI cZ cS : ClassId) (f g : Nat → Option Nat) (a : Nat → Nat) (sz : Nat) (M : Mem) (a1 : Int32) (z1 : Int32) (z2 : Mem) (hf : fX8_fewestByGoing M a1 = some (Sum.inr z1, z2)) : Met l yX8_fewestByGoing wsX8_fewestByGoing ({ frames := 20, cells := 0, slots := 0, locals := 492 } : Room) (va_Pc [.ref (a 0), .int a1] (WR8 (dC, dI) cI cZ cS (wX8 cI cZ cS f g a M) sz)) (va_Qi (S := Unit) (fun r _ => r = z1) (fun _ t => WE (dC, dI) cI cZ (wX8 cI cZ cS f g a (sr M 41 (z2 41))) (va_A (wX8 cI cZ cS f g a M) sz) t) (va_A (wX8 cI cZ cS f g a M) sz)) 0 0 (va_A (wX8 cI cZ cS f g a M) sz) := by
  refine Met.ofW (cc := cX8_fewestByGoing) (maxL := 2) (ret := (some .int)) (by decide) rfl ?_
  intro p e s m args below meth c s₁ B hml hv
  obtain ⟨rfl, hsz, hP, hK, hD0, hNW⟩ := hv
  have hx := B.exec
  have hb := B.bytes
  have hr := B.returns
  have hts := atoms_spec (ws := wsX8_fewestByGoing) B.pre
  have hown : s.vm.findClass RX8 = some m.cls := findClass_of_methodNamed B.named
  have hlocks := B.notSynchronized
  have hK2 : va_K (dC, dI) vwCl [(cI, .int), (cZ, .boolean)] s := hK.sub (tys' := [(cI, .int), (cZ, .boolean)]) [0, 1] rfl
  subst hsz
  have hD := hD0.self (sz := s.heap.size)
  generalize hAe : va_A (wX8 cI cZ cS f g a M) s.heap.size = A at hD ⊢
  have hA : ∀ q : Nat, s.heap.size ≤ q → A q := fun q h => by rw [← hAe]; exact Or.inr h
  have hS : va_S A s.heap s.heap [] := va_S.rf
  have hl := lv_entry ([.ref (a 0), .int a1]) (n := 2) (Nat.le_of_ble_eq_true rfl)
  rw [lg_entry_eq]
  generalize (lg_sl ([.ref (a 0), .int a1]) ++ List.replicate (2 - (lg_sl ([.ref (a 0), .int a1])).length) Slot.unset).toArray = ls at hl ⊢
  have hl : lv_has ls 2 [(0, .ref (a 0)), (1, .int a1)] := hl
  unfold fX8_fewestByGoing at hf
  suffices hgo : ∀ (H : Heap) (locs : List Loc), va_P (dC, dI) vwCl (wX8 cI cZ cS f g a M) H → va_D A (wX8 cI cZ cS f g a M) → va_S A s.heap H locs → W p l e (headSpec wsX8_fewestByGoing ({ frames := 20, cells := 0, slots := 0, locals := 492 } : Room)).room s m ([.ref (a 0), .int a1] : List Value).toArray below meth c H locs 0 0 (MQ below (va_Qi (S := Unit) (fun r _ => r = z1) (fun _ t => WE (dC, dI) cI cZ (wX8 cI cZ cS f g a (sr M 41 (z2 41))) A t) A) ([.ref (a 0), .int a1] : List Value).toArray s 0 0 A) (F0 m 0 ls []) from hgo _ _ hP hD hS
  intro H locs hP hD hS
  refine lv_aload_n hx hb dX8_fewestByGoing_0 rfl (lv_at hl 0 rfl) ?_
  refine lv_iload_n hx hb dX8_fewestByGoing_1 rfl (lv_at hl 1 rfl) ?_
  obtain ⟨r2, hc2, hf⟩ := bi_s hf
  rcases r2 with E9 | r2
  · have e9 := so_e hf
    cases e9
  have hf := sel_r hf
  refine cROv (W.runV (As := [.int a1]) (rest := []) ⟨hx, hb, hml, hown, hts⟩ (n_X8_requireOrder l dC dI cI cZ cS f g a M a1  hc2) (cwV 1 hts gX8_fewestByGoing_X8_requireOrder rfl rfl rfl (by decide +kernel) ⟨Nat.le_of_ble_eq_true rfl, Nat.le_of_ble_eq_true rfl⟩) ⟨RO8.blind, va_recv hK hP (ci := 8) (q0 := 0) rfl rfl, RO8.pre hP hK hNW⟩ rfl rfl hl.1 rfl (lv_room (Nat.le_of_ble_eq_true rfl)) dX8_fewestByGoing_2 ⟨Nat.le_of_ble_eq_true rfl, Nat.le_of_ble_eq_true rfl⟩) ?_
  refine lv_aload_n hx hb dX8_fewestByGoing_5 rfl (lv_at hl 0 rfl) ?_
  refine lv_iload_n hx hb dX8_fewestByGoing_6 rfl (lv_at hl 1 rfl) ?_
  obtain ⟨r7, hc7, hf⟩ := bi_s hf
  rcases r7 with E9 | r7
  · have e9 := so_e hf
    cases e9
  have hf := sel_r hf
  refine cROv (W.runV (As := [.int a1]) (rest := []) ⟨hx, hb, hml, hown, hts⟩ (n_X8_requireServable l dC dI cI cZ cS f g a M a1  hc7) (cwV 1 hts gX8_fewestByGoing_X8_requireServable rfl rfl rfl (by decide +kernel) ⟨Nat.le_of_ble_eq_true rfl, Nat.le_of_ble_eq_true rfl⟩) ⟨RO8.blind, va_recv hK hP (ci := 8) (q0 := 0) rfl rfl, RO8.pre hP hK hNW⟩ rfl rfl hl.1 rfl (lv_room (Nat.le_of_ble_eq_true rfl)) dX8_fewestByGoing_7 ⟨Nat.le_of_ble_eq_true rfl, Nat.le_of_ble_eq_true rfl⟩) ?_
  refine lv_aload_n hx hb dX8_fewestByGoing_10 rfl (lv_at hl 0 rfl) ?_
  refine lv_iload_n hx hb dX8_fewestByGoing_11 rfl (lv_at hl 1 rfl) ?_
  obtain ⟨r12, hc12, hf⟩ := bi_s hf
  have hPc := hP
  have hDc := hD
  have hFc := va_free (wc := (wX8 cI cZ cS f g a M)) hD hS hA [0, 1, 2, 3, 4, 5, 6, 7, 8, 9, 10, 11, 12, 13, 14, 15, 16, 17, 18, 19, 20, 21, 22, 23, 24, 25, 26, 27, 28, 29, 30, 31, 32, 33, 34, 35, 36, 37, 38, 39, 40, 41] rfl
  refine va_calli (va_runV (As := [.int a1]) (rest := []) ⟨hx, hb, hml, hown, hts⟩ (c_X8_fewestFound l dC dI cI cZ cS f g a H.size M a1 r12 hc12) (cwV 1 hts gX8_fewestByGoing_X8_fewestFound rfl rfl rfl (by decide +kernel) ⟨Nat.le_of_ble_eq_true rfl, Nat.le_of_ble_eq_true rfl⟩) ⟨WR8.blind, va_recv hK hP (ci := 8) (q0 := 0) rfl rfl, WR8.pre hPc hK hDc hNW⟩ rfl rfl hl.1 rfl (lv_room (Nat.le_of_ble_eq_true rfl)) dX8_fewestByGoing_12 ⟨Nat.le_of_ble_eq_true rfl, Nat.le_of_ble_eq_true rfl⟩) hS (fun q _ h => hFc q h) hFc (fun rv u t H1 locs ht hvm hw hB hz1 hk1 hS => ?_)
  obtain ⟨hP1, hD1⟩ := hB
  rw [ht] at hP1
  subst hw
  have hP := hP1
  have hD := hD1.weaken (fun k q _ h => hFc q.1 h)
  have hP : va_P (dC, dI) vwCl (wX8 cI cZ cS f g a (sr M 41 (r12.2 41))) H1 := hP
  have hD : va_D A (wX8 cI cZ cS f g a (sr M 41 (r12.2 41))) := hD
  generalize H1 = H at hP hS ⊢
  have e9 := so_e hf
  cases e9
  exact W.iret hx hb hr (fun t ht hW => ⟨⟨_, (), rfl, rfl, WE.mk hP hD ht⟩, hS.F ht⟩) hS.2.2 dX8_fewestByGoing_15
set_option maxHeartbeats 4000000 in
set_option maxRecDepth 100000 in
theorem t_X8_fewestByGoing (l : Launch) (hst : l.stackTraces = false) (dC : Nat → ClassId) (dI : Nat → Nat → Nat) (cI cZ cS : ClassId) (f g : Nat → Option Nat) (a : Nat → Nat) (sz : Nat) (M : Mem) (a1 : Int32) (E : String) (z2 : Mem) (hf : fX8_fewestByGoing M a1 = some (Sum.inl E, z2)) : vx_Met l yX8_fewestByGoing wsX8_fewestByGoing ({ frames := 20, cells := 1, slots := 6, locals := 492 } : Room) (va_Pc [.ref (a 0), .int a1] (T8 (dC, dI) cI cZ cS (wX8 cI cZ cS f g a M) sz)) (fun _ _ _ _ => False) (vx_X (S := Unit) (fun _ => True) (fun E' _ t => E' = E ∧ WE (dC, dI) cI cZ (wX8 cI cZ cS f g a (sr M 41 (z2 41))) (va_A (wX8 cI cZ cS f g a M) sz) t) (va_A (wX8 cI cZ cS f g a M) sz)) 1 6 (va_A (wX8 cI cZ cS f g a M) sz) := by
  refine vx_ofW (cc := cX8_fewestByGoing) (maxL := 2) (ret := (some .int)) (by decide) rfl ?_
  intro p e s m args below meth c s₁ B hml htab hv
  obtain ⟨rfl, hsz, hP, hK, hD0, hNW, hEX⟩ := hv
  have hx := B.exec
  have hb := B.bytes
  have hr := B.returns
  have hts := atoms_spec (ws := wsX8_fewestByGoing) B.pre
  have hown : s.vm.findClass RX8 = some m.cls := findClass_of_methodNamed B.named
  have hlocks := B.notSynchronized
  have hK2 : va_K (dC, dI) vwCl [(cI, .int), (cZ, .boolean)] s := hK.sub (tys' := [(cI, .int), (cZ, .boolean)]) [0, 1] rfl
  subst hsz
  have hD := hD0.self (sz := s.heap.size)
  generalize hAe : va_A (wX8 cI cZ cS f g a M) s.heap.size = A at hD hEX ⊢
  have hA : ∀ q : Nat, s.heap.size ≤ q → A q := fun q h => by rw [← hAe]; exact Or.inr h
  have hS : va_S A s.heap s.heap [] := va_S.rf
  have hl := lv_entry ([.ref (a 0), .int a1]) (n := 2) (Nat.le_of_ble_eq_true rfl)
  rw [lg_entry_eq]
  generalize (lg_sl ([.ref (a 0), .int a1]) ++ List.replicate (2 - (lg_sl ([.ref (a 0), .int a1])).length) Slot.unset).toArray = ls at hl ⊢
  have hl : lv_has ls 2 [(0, .ref (a 0)), (1, .int a1)] := hl
  unfold fX8_fewestByGoing at hf
  suffices hgo : ∀ (H : Heap) (locs : List Loc), va_P (dC, dI) vwCl (wX8 cI cZ cS f g a M) H → va_D A (wX8 cI cZ cS f g a M) → va_S A s.heap H locs → W p l e (headSpec wsX8_fewestByGoing ({ frames := 20, cells := 1, slots := 6, locals := 492 } : Room)).room s m ([.ref (a 0), .int a1] : List Value).toArray below meth c H locs 0 0 (vx_MQ below (fun _ _ _ _ => False) (vx_X (S := Unit) (fun _ => True) (fun E' _ t => E' = E ∧ WE (dC, dI) cI cZ (wX8 cI cZ cS f g a (sr M 41 (z2 41))) A t) A) ([.ref (a 0), .int a1] : List Value).toArray s 1 6 A) (F0 m 0 ls []) from hgo _ _ hP hD hS
  intro H locs hP hD hS
  refine lv_aload_n hx hb dX8_fewestByGoing_0 rfl (lv_at hl 0 rfl) ?_
  refine lv_iload_n hx hb dX8_fewestByGoing_1 rfl (lv_at hl 1 rfl) ?_
  obtain ⟨r2, hc2, hf⟩ := bi_s hf
  rcases r2 with E9 | r2
  · have e9 := so_e hf
    cases e9
    have hFc := va_free (wc := (wX8 cI cZ cS f g a M)) hD hS hA [0, 1, 2, 3, 4, 5, 6, 7, 8, 9, 10, 11, 12, 13, 14, 15, 16, 17, 18, 19, 20, 21, 22, 23, 24, 25, 26, 27, 28, 29, 30, 31, 32, 33, 34, 35, 36, 37, 38, 39, 40, 41] rfl
    refine vx_thr (vx_runV (As := [.int a1]) (rest := []) ⟨hx, hb, hml, hown, hts⟩ (t_X8_requireOrder l hst dC dI cI cZ cS f g a _ M a1 _ hc2) (cwV 1 hts gX8_fewestByGoing_X8_requireOrder rfl rfl rfl (by decide +kernel) ⟨Nat.le_of_ble_eq_true rfl, Nat.le_of_ble_eq_true rfl⟩) ⟨T8.blind, va_recv hK hP (ci := 8) (q0 := 0) rfl rfl, T8.pre hP hK hD hNW (hEX.at hS hFc)⟩ rfl rfl hl.1 rfl (lv_room (Nat.le_of_ble_eq_true rfl)) dX8_fewestByGoing_2 ⟨Nat.le_of_ble_eq_true rfl, Nat.le_of_ble_eq_true rfl⟩) hS (fun q _ h => hFc q h) hFc (fun ce q9 t H1 locs1 ht hal hP1 hD1 hz1 hS1 hce hcv hcl => ?_)
    exact vx_out (fun x h => (htab x h).elim) hlocks hce hcv hcl (fun t ht hal => ⟨(), trivial, ⟨rfl, WE.mk hP1 (hD1.weaken (fun k q _ h => hFc q.1 h)) ht⟩, hS1.F ht⟩) hS1.2.2 (Nat.le_of_ble_eq_true rfl) (Nat.le_of_ble_eq_true rfl)
  have hf := sel_r hf
  refine cROv (W.runV (As := [.int a1]) (rest := []) ⟨hx, hb, hml, hown, hts⟩ (n_X8_requireOrder l dC dI cI cZ cS f g a M a1  hc2) (cwV 1 hts gX8_fewestByGoing_X8_requireOrder rfl rfl rfl (by decide +kernel) ⟨Nat.le_of_ble_eq_true rfl, Nat.le_of_ble_eq_true rfl⟩) ⟨RO8.blind, va_recv hK hP (ci := 8) (q0 := 0) rfl rfl, RO8.pre hP hK hNW⟩ rfl rfl hl.1 rfl (lv_room (Nat.le_of_ble_eq_true rfl)) dX8_fewestByGoing_2 ⟨Nat.le_of_ble_eq_true rfl, Nat.le_of_ble_eq_true rfl⟩) ?_
  refine lv_aload_n hx hb dX8_fewestByGoing_5 rfl (lv_at hl 0 rfl) ?_
  refine lv_iload_n hx hb dX8_fewestByGoing_6 rfl (lv_at hl 1 rfl) ?_
  obtain ⟨r7, hc7, hf⟩ := bi_s hf
  rcases r7 with E9 | r7
  · have e9 := so_e hf
    cases e9
    have hFc := va_free (wc := (wX8 cI cZ cS f g a M)) hD hS hA [0, 1, 2, 3, 4, 5, 6, 7, 8, 9, 10, 11, 12, 13, 14, 15, 16, 17, 18, 19, 20, 21, 22, 23, 24, 25, 26, 27, 28, 29, 30, 31, 32, 33, 34, 35, 36, 37, 38, 39, 40, 41] rfl
    refine vx_thr (vx_runV (As := [.int a1]) (rest := []) ⟨hx, hb, hml, hown, hts⟩ (t_X8_requireServable l hst dC dI cI cZ cS f g a _ M a1 _ hc7) (cwV 1 hts gX8_fewestByGoing_X8_requireServable rfl rfl rfl (by decide +kernel) ⟨Nat.le_of_ble_eq_true rfl, Nat.le_of_ble_eq_true rfl⟩) ⟨T8.blind, va_recv hK hP (ci := 8) (q0 := 0) rfl rfl, T8.pre hP hK hD hNW (hEX.at hS hFc)⟩ rfl rfl hl.1 rfl (lv_room (Nat.le_of_ble_eq_true rfl)) dX8_fewestByGoing_7 ⟨Nat.le_of_ble_eq_true rfl, Nat.le_of_ble_eq_true rfl⟩) hS (fun q _ h => hFc q h) hFc (fun ce q9 t H1 locs1 ht hal hP1 hD1 hz1 hS1 hce hcv hcl => ?_)
    exact vx_out (fun x h => (htab x h).elim) hlocks hce hcv hcl (fun t ht hal => ⟨(), trivial, ⟨rfl, WE.mk hP1 (hD1.weaken (fun k q _ h => hFc q.1 h)) ht⟩, hS1.F ht⟩) hS1.2.2 (Nat.le_of_ble_eq_true rfl) (Nat.le_of_ble_eq_true rfl)
  have hf := sel_r hf
  refine cROv (W.runV (As := [.int a1]) (rest := []) ⟨hx, hb, hml, hown, hts⟩ (n_X8_requireServable l dC dI cI cZ cS f g a M a1  hc7) (cwV 1 hts gX8_fewestByGoing_X8_requireServable rfl rfl rfl (by decide +kernel) ⟨Nat.le_of_ble_eq_true rfl, Nat.le_of_ble_eq_true rfl⟩) ⟨RO8.blind, va_recv hK hP (ci := 8) (q0 := 0) rfl rfl, RO8.pre hP hK hNW⟩ rfl rfl hl.1 rfl (lv_room (Nat.le_of_ble_eq_true rfl)) dX8_fewestByGoing_7 ⟨Nat.le_of_ble_eq_true rfl, Nat.le_of_ble_eq_true rfl⟩) ?_
  refine lv_aload_n hx hb dX8_fewestByGoing_10 rfl (lv_at hl 0 rfl) ?_
  refine lv_iload_n hx hb dX8_fewestByGoing_11 rfl (lv_at hl 1 rfl) ?_
  obtain ⟨r12, hc12, hf⟩ := bi_s hf
  have hPc := hP
  have hDc := hD
  have hFc := va_free (wc := (wX8 cI cZ cS f g a M)) hD hS hA [0, 1, 2, 3, 4, 5, 6, 7, 8, 9, 10, 11, 12, 13, 14, 15, 16, 17, 18, 19, 20, 21, 22, 23, 24, 25, 26, 27, 28, 29, 30, 31, 32, 33, 34, 35, 36, 37, 38, 39, 40, 41] rfl
  refine va_calli (va_runV (As := [.int a1]) (rest := []) ⟨hx, hb, hml, hown, hts⟩ (c_X8_fewestFound l dC dI cI cZ cS f g a H.size M a1 r12 hc12) (cwV 1 hts gX8_fewestByGoing_X8_fewestFound rfl rfl rfl (by decide +kernel) ⟨Nat.le_of_ble_eq_true rfl, Nat.le_of_ble_eq_true rfl⟩) ⟨WR8.blind, va_recv hK hP (ci := 8) (q0 := 0) rfl rfl, WR8.pre hPc hK hDc hNW⟩ rfl rfl hl.1 rfl (lv_room (Nat.le_of_ble_eq_true rfl)) dX8_fewestByGoing_12 ⟨Nat.le_of_ble_eq_true rfl, Nat.le_of_ble_eq_true rfl⟩) hS (fun q _ h => hFc q h) hFc (fun rv u t H1 locs ht hvm hw hB hz1 hk1 hS => ?_)
  obtain ⟨hP1, hD1⟩ := hB
  rw [ht] at hP1
  subst hw
  have hP := hP1
  have hD := hD1.weaken (fun k q _ h => hFc q.1 h)
  have hP : va_P (dC, dI) vwCl (wX8 cI cZ cS f g a (sr M 41 (r12.2 41))) H1 := hP
  have hD : va_D A (wX8 cI cZ cS f g a (sr M 41 (r12.2 41))) := hD
  generalize H1 = H at hP hS ⊢
  have e9 := so_e hf
  cases e9
set_option maxHeartbeats 4000000 in
set_option maxRecDepth 100000 in
theorem n_X8_choiceFor (l : Launch) (dC : Nat → ClassId) (dI : Nat → Nat → Nat) (cI cZ cS : ClassId) (f g : Nat → Option Nat) (a : Nat → Nat) (M : Mem) (a1 : Int32) (z1 : Int32) (hf : fX8_choiceFor M a1 = some (Sum.inr z1)) : Met l yX8_choiceFor wsX8_choiceFor ({ frames := 4, cells := 0, slots := 0, locals := 89 } : Room) (va_Pc [.ref (a 0), .int a1] (RO8 (dC, dI) cI cZ cS (wX8 cI cZ cS f g a M))) (k2_QcV (.int z1)) 0 0 (fun _ => False) := by
  refine Met.ofW (cc := cX8_choiceFor) (maxL := 2) (ret := (some .int)) (by decide) rfl ?_
  intro p e s m args below meth c s₁ B hml hv
  obtain ⟨rfl, hP, hK, hNW⟩ := hv
  have hx := B.exec
  have hb := B.bytes
  have hr := B.returns
  have hts := atoms_spec (ws := wsX8_choiceFor) B.pre
  have hown : s.vm.findClass RX8 = some m.cls := findClass_of_methodNamed B.named
  have hlocks := B.notSynchronized
  have hK2 : va_K (dC, dI) vwCl [(cI, .int), (cZ, .boolean)] s := hK.sub (tys' := [(cI, .int), (cZ, .boolean)]) [0, 1] rfl
  have hinX8 : ∀ w ∈ u_ws RX8 TX8 6, w ∈ wsX8_choiceFor := by decide +kernel
  have hw1 := hts (.fieldLink RX8 12 "GlideShelves" "now" "LGlideShelves$State;") (by decide +kernel)
  have hw2 := hts (.initialized RX6) (by decide +kernel)
  have hw3 := hts (.instanceMethod yX6_choice) (by decide +kernel)
  have hw4 := hts (.selects RX6 yX6_choice yX6_choice) (by decide +kernel)
  have hl := lv_entry ([.ref (a 0), .int a1]) (n := 2) (Nat.le_of_ble_eq_true rfl)
  rw [lg_entry_eq]
  generalize (lg_sl ([.ref (a 0), .int a1]) ++ List.replicate (2 - (lg_sl ([.ref (a 0), .int a1])).length) Slot.unset).toArray = ls at hl ⊢
  have hl : lv_has ls 2 [(0, .ref (a 0)), (1, .int a1)] := hl
  unfold fX8_choiceFor at hf
  refine lv_aload_n hx hb dX8_choiceFor_0 rfl (lv_at hl 0 rfl) ?_
  refine lv_iload_n hx hb dX8_choiceFor_1 rfl (lv_at hl 1 rfl) ?_
  obtain ⟨r2, hc2, hf⟩ := bi_s hf
  rcases r2 with E9 | r2
  · have e9 := so_e hf
    cases e9
  have hf := sel_r hf
  refine cROv (W.runV (As := [.int a1]) (rest := []) ⟨hx, hb, hml, hown, hts⟩ (n_X8_requireOrder l dC dI cI cZ cS f g a M a1  hc2) (cwV 1 hts gX8_choiceFor_X8_requireOrder rfl rfl rfl (by decide +kernel) ⟨Nat.le_of_ble_eq_true rfl, Nat.le_of_ble_eq_true rfl⟩) ⟨RO8.blind, va_recv hK hP (ci := 8) (q0 := 0) rfl rfl, RO8.pre hP hK hNW⟩ rfl rfl hl.1 rfl (lv_room (Nat.le_of_ble_eq_true rfl)) dX8_choiceFor_2 ⟨Nat.le_of_ble_eq_true rfl, Nat.le_of_ble_eq_true rfl⟩) ?_
  refine lv_aload_n hx hb dX8_choiceFor_5 rfl (lv_at hl 0 rfl) ?_
  refine lv_iload_n hx hb dX8_choiceFor_6 rfl (lv_at hl 1 rfl) ?_
  obtain ⟨r7, hc7, hf⟩ := bi_s hf
  rcases r7 with E9 | r7
  · have e9 := so_e hf
    cases e9
  have hf := sel_r hf
  refine cROv (W.runV (As := [.int a1]) (rest := []) ⟨hx, hb, hml, hown, hts⟩ (n_X8_requireServable l dC dI cI cZ cS f g a M a1  hc7) (cwV 1 hts gX8_choiceFor_X8_requireServable rfl rfl rfl (by decide +kernel) ⟨Nat.le_of_ble_eq_true rfl, Nat.le_of_ble_eq_true rfl⟩) ⟨RO8.blind, va_recv hK hP (ci := 8) (q0 := 0) rfl rfl, RO8.pre hP hK hNW⟩ rfl rfl hl.1 rfl (lv_room (Nat.le_of_ble_eq_true rfl)) dX8_choiceFor_7 ⟨Nat.le_of_ble_eq_true rfl, Nat.le_of_ble_eq_true rfl⟩) ?_
  refine lv_aload_n hx hb dX8_choiceFor_10 rfl (lv_at hl 0 rfl) ?_
  refine va_get (D := (dC, dI)) (ci := 8) (v := .ref (a 1)) (C := RX8) (T := TX8) (N := 6) hx hb hts hinX8 hown hK hP 0 rfl rfl 0 (by decide) hw1 (fun _ h9 => h9) rfl dX8_choiceFor_11 ?_
  refine lv_iload_n hx hb dX8_choiceFor_14 rfl (lv_at hl 1 rfl) ?_
  obtain ⟨r15, hc15, hf⟩ := bi_s hf
  have hPc := hP.sub (ws' := (wX6 cI cZ (ofs 1 a) (ofs 1 M))) [1, 2, 3, 4, 5, 6, 7, 8, 9, 10, 11, 12, 13, 14, 15, 16] rfl
  refine cRO (va_Run.run (va_runVN (As := [.int a1]) (rest := []) ⟨hx, hb, hml, hown, hts⟩ (c_X6_choice l dC dI cI cZ (ofs 1 a) (ofs 1 M) a1 r15 hc15) ⟨va_cnB 1 hts gX8_choiceFor_X6_choice_n332 rfl rfl rfl (nw74 hNW) hw2 (by decide +kernel) ⟨Nat.le_of_ble_eq_true rfl, Nat.le_of_ble_eq_true rfl⟩, hw3, hw4⟩ ⟨RO.blind, va_recv hK hP (ci := 6) (q0 := 1) rfl rfl, RO.pre hPc hK2 hNW⟩ rfl rfl hl.1 rfl (lv_room (Nat.le_of_ble_eq_true rfl)) dX8_choiceFor_15 ⟨Nat.le_of_ble_eq_true rfl, Nat.le_of_ble_eq_true rfl⟩)) ?_
  have e9 := so_e hf
  cases e9
  exact W.iret hx hb hr (fun t ht hW => ⟨rfl, ht⟩) fl0 dX8_choiceFor_18
set_option maxHeartbeats 4000000 in
set_option maxRecDepth 100000 in
theorem t_X8_choiceFor (l : Launch) (hst : l.stackTraces = false) (dC : Nat → ClassId) (dI : Nat → Nat → Nat) (cI cZ cS : ClassId) (f g : Nat → Option Nat) (a : Nat → Nat) (sz : Nat) (M : Mem) (a1 : Int32) (E : String) (hf : fX8_choiceFor M a1 = some (Sum.inl E)) : vx_Met l yX8_choiceFor wsX8_choiceFor ({ frames := 7, cells := 1, slots := 6, locals := 131 } : Room) (va_Pc [.ref (a 0), .int a1] (T8 (dC, dI) cI cZ cS (wX8 cI cZ cS f g a M) sz)) (fun _ _ _ _ => False) (vx_X (S := Unit) (fun _ => True) (fun E' _ t => E' = E ∧ WE (dC, dI) cI cZ (wX8 cI cZ cS f g a M) (va_A (wX8 cI cZ cS f g a M) sz) t) (va_A (wX8 cI cZ cS f g a M) sz)) 1 6 (va_A (wX8 cI cZ cS f g a M) sz) := by
  refine vx_ofW (cc := cX8_choiceFor) (maxL := 2) (ret := (some .int)) (by decide) rfl ?_
  intro p e s m args below meth c s₁ B hml htab hv
  obtain ⟨rfl, hsz, hP, hK, hD0, hNW, hEX⟩ := hv
  have hx := B.exec
  have hb := B.bytes
  have hr := B.returns
  have hts := atoms_spec (ws := wsX8_choiceFor) B.pre
  have hown : s.vm.findClass RX8 = some m.cls := findClass_of_methodNamed B.named
  have hlocks := B.notSynchronized
  have hK2 : va_K (dC, dI) vwCl [(cI, .int), (cZ, .boolean)] s := hK.sub (tys' := [(cI, .int), (cZ, .boolean)]) [0, 1] rfl
  have hinX8 : ∀ w ∈ u_ws RX8 TX8 6, w ∈ wsX8_choiceFor := by decide +kernel
  have hw1 := hts (.fieldLink RX8 12 "GlideShelves" "now" "LGlideShelves$State;") (by decide +kernel)
  have hw2 := hts (.initialized RX6) (by decide +kernel)
  have hw3 := hts (.instanceMethod yX6_choice) (by decide +kernel)
  have hw4 := hts (.selects RX6 yX6_choice yX6_choice) (by decide +kernel)
  subst hsz
  have hD := hD0.self (sz := s.heap.size)
  generalize hAe : va_A (wX8 cI cZ cS f g a M) s.heap.size = A at hD hEX ⊢
  have hA : ∀ q : Nat, s.heap.size ≤ q → A q := fun q h => by rw [← hAe]; exact Or.inr h
  have hS : va_S A s.heap s.heap [] := va_S.rf
  have hl := lv_entry ([.ref (a 0), .int a1]) (n := 2) (Nat.le_of_ble_eq_true rfl)
  rw [lg_entry_eq]
  generalize (lg_sl ([.ref (a 0), .int a1]) ++ List.replicate (2 - (lg_sl ([.ref (a 0), .int a1])).length) Slot.unset).toArray = ls at hl ⊢
  have hl : lv_has ls 2 [(0, .ref (a 0)), (1, .int a1)] := hl
  unfold fX8_choiceFor at hf
  refine lv_aload_n hx hb dX8_choiceFor_0 rfl (lv_at hl 0 rfl) ?_
  refine lv_iload_n hx hb dX8_choiceFor_1 rfl (lv_at hl 1 rfl) ?_
  obtain ⟨r2, hc2, hf⟩ := bi_s hf
  rcases r2 with E9 | r2
  · have e9 := so_e hf
    cases e9
    have hFc := va_free (wc := (wX8 cI cZ cS f g a M)) hD hS hA [0, 1, 2, 3, 4, 5, 6, 7, 8, 9, 10, 11, 12, 13, 14, 15, 16, 17, 18, 19, 20, 21, 22, 23, 24, 25, 26, 27, 28, 29, 30, 31, 32, 33, 34, 35, 36, 37, 38, 39, 40, 41] rfl
    refine vx_thr (vx_runV (As := [.int a1]) (rest := []) ⟨hx, hb, hml, hown, hts⟩ (t_X8_requireOrder l hst dC dI cI cZ cS f g a _ M a1 _ hc2) (cwV 1 hts gX8_choiceFor_X8_requireOrder rfl rfl rfl (by decide +kernel) ⟨Nat.le_of_ble_eq_true rfl, Nat.le_of_ble_eq_true rfl⟩) ⟨T8.blind, va_recv hK hP (ci := 8) (q0 := 0) rfl rfl, T8.pre hP hK hD hNW (hEX.at hS hFc)⟩ rfl rfl hl.1 rfl (lv_room (Nat.le_of_ble_eq_true rfl)) dX8_choiceFor_2 ⟨Nat.le_of_ble_eq_true rfl, Nat.le_of_ble_eq_true rfl⟩) hS (fun q _ h => hFc q h) hFc (fun ce q9 t H1 locs1 ht hal hP1 hD1 hz1 hS1 hce hcv hcl => ?_)
    exact vx_out (fun x h => (htab x h).elim) hlocks hce hcv hcl (fun t ht hal => ⟨(), trivial, ⟨rfl, WE.mk hP1 (hD1.weaken (fun k q _ h => hFc q.1 h)) ht⟩, hS1.F ht⟩) hS1.2.2 (Nat.le_of_ble_eq_true rfl) (Nat.le_of_ble_eq_true rfl)
  have hf := sel_r hf
  refine cROv (W.runV (As := [.int a1]) (rest := []) ⟨hx, hb, hml, hown, hts⟩ (n_X8_requireOrder l dC dI cI cZ cS f g a M a1  hc2) (cwV 1 hts gX8_choiceFor_X8_requireOrder rfl rfl rfl (by decide +kernel) ⟨Nat.le_of_ble_eq_true rfl, Nat.le_of_ble_eq_true rfl⟩) ⟨RO8.blind, va_recv hK hP (ci := 8) (q0 := 0) rfl rfl, RO8.pre hP hK hNW⟩ rfl rfl hl.1 rfl (lv_room (Nat.le_of_ble_eq_true rfl)) dX8_choiceFor_2 ⟨Nat.le_of_ble_eq_true rfl, Nat.le_of_ble_eq_true rfl⟩) ?_
  refine lv_aload_n hx hb dX8_choiceFor_5 rfl (lv_at hl 0 rfl) ?_
  refine lv_iload_n hx hb dX8_choiceFor_6 rfl (lv_at hl 1 rfl) ?_
  obtain ⟨r7, hc7, hf⟩ := bi_s hf
  rcases r7 with E9 | r7
  · have e9 := so_e hf
    cases e9
    have hFc := va_free (wc := (wX8 cI cZ cS f g a M)) hD hS hA [0, 1, 2, 3, 4, 5, 6, 7, 8, 9, 10, 11, 12, 13, 14, 15, 16, 17, 18, 19, 20, 21, 22, 23, 24, 25, 26, 27, 28, 29, 30, 31, 32, 33, 34, 35, 36, 37, 38, 39, 40, 41] rfl
    refine vx_thr (vx_runV (As := [.int a1]) (rest := []) ⟨hx, hb, hml, hown, hts⟩ (t_X8_requireServable l hst dC dI cI cZ cS f g a _ M a1 _ hc7) (cwV 1 hts gX8_choiceFor_X8_requireServable rfl rfl rfl (by decide +kernel) ⟨Nat.le_of_ble_eq_true rfl, Nat.le_of_ble_eq_true rfl⟩) ⟨T8.blind, va_recv hK hP (ci := 8) (q0 := 0) rfl rfl, T8.pre hP hK hD hNW (hEX.at hS hFc)⟩ rfl rfl hl.1 rfl (lv_room (Nat.le_of_ble_eq_true rfl)) dX8_choiceFor_7 ⟨Nat.le_of_ble_eq_true rfl, Nat.le_of_ble_eq_true rfl⟩) hS (fun q _ h => hFc q h) hFc (fun ce q9 t H1 locs1 ht hal hP1 hD1 hz1 hS1 hce hcv hcl => ?_)
    exact vx_out (fun x h => (htab x h).elim) hlocks hce hcv hcl (fun t ht hal => ⟨(), trivial, ⟨rfl, WE.mk hP1 (hD1.weaken (fun k q _ h => hFc q.1 h)) ht⟩, hS1.F ht⟩) hS1.2.2 (Nat.le_of_ble_eq_true rfl) (Nat.le_of_ble_eq_true rfl)
  have hf := sel_r hf
  refine cROv (W.runV (As := [.int a1]) (rest := []) ⟨hx, hb, hml, hown, hts⟩ (n_X8_requireServable l dC dI cI cZ cS f g a M a1  hc7) (cwV 1 hts gX8_choiceFor_X8_requireServable rfl rfl rfl (by decide +kernel) ⟨Nat.le_of_ble_eq_true rfl, Nat.le_of_ble_eq_true rfl⟩) ⟨RO8.blind, va_recv hK hP (ci := 8) (q0 := 0) rfl rfl, RO8.pre hP hK hNW⟩ rfl rfl hl.1 rfl (lv_room (Nat.le_of_ble_eq_true rfl)) dX8_choiceFor_7 ⟨Nat.le_of_ble_eq_true rfl, Nat.le_of_ble_eq_true rfl⟩) ?_
  refine lv_aload_n hx hb dX8_choiceFor_10 rfl (lv_at hl 0 rfl) ?_
  refine va_get (D := (dC, dI)) (ci := 8) (v := .ref (a 1)) (C := RX8) (T := TX8) (N := 6) hx hb hts hinX8 hown hK hP 0 rfl rfl 0 (by decide) hw1 (fun _ h9 => h9) rfl dX8_choiceFor_11 ?_
  refine lv_iload_n hx hb dX8_choiceFor_14 rfl (lv_at hl 1 rfl) ?_
  obtain ⟨r15, hc15, hf⟩ := bi_s hf
  have hPc := hP.sub (ws' := (wX6 cI cZ (ofs 1 a) (ofs 1 M))) [1, 2, 3, 4, 5, 6, 7, 8, 9, 10, 11, 12, 13, 14, 15, 16] rfl
  refine cRO (va_Run.run (va_runVN (As := [.int a1]) (rest := []) ⟨hx, hb, hml, hown, hts⟩ (c_X6_choice l dC dI cI cZ (ofs 1 a) (ofs 1 M) a1 r15 hc15) ⟨va_cnB 1 hts gX8_choiceFor_X6_choice_n332 rfl rfl rfl (nw74 hNW) hw2 (by decide +kernel) ⟨Nat.le_of_ble_eq_true rfl, Nat.le_of_ble_eq_true rfl⟩, hw3, hw4⟩ ⟨RO.blind, va_recv hK hP (ci := 6) (q0 := 1) rfl rfl, RO.pre hPc hK2 hNW⟩ rfl rfl hl.1 rfl (lv_room (Nat.le_of_ble_eq_true rfl)) dX8_choiceFor_15 ⟨Nat.le_of_ble_eq_true rfl, Nat.le_of_ble_eq_true rfl⟩)) ?_
  have e9 := so_e hf
  cases e9
set_option maxHeartbeats 4000000 in
set_option maxRecDepth 100000 in
theorem n_X8_ticksByServing (l : Launch) (dC : Nat → ClassId) (dI : Nat → Nat → Nat) (cI cZ cS : ClassId) (f g : Nat → Option Nat) (a : Nat → Nat) (sz : Nat) (M : Mem) (a1 : Int32) (z1 : Int32) (z2 : Mem) (hf : fX8_ticksByServing M a1 = some (Sum.inr z1, z2)) : Met l yX8_ticksByServing wsX8_ticksByServing ({ frames := 5, cells := 0, slots := 0, locals := 133 } : Room) (va_Pc [.ref (a 0), .int a1] (WR8 (dC, dI) cI cZ cS (wX8 cI cZ cS f g a M) sz)) (va_Qi (S := Unit) (fun r _ => r = z1) (fun _ t => WE (dC, dI) cI cZ (wX8 cI cZ cS f g a (sr (sr (sr (sr (sr (sr (sr (sr (sr (sr (sr (sr (sr (sr (sr M 17 (z2 17)) 18 (z2 18)) 19 (z2 19)) 20 (z2 20)) 21 (z2 21)) 22 (z2 22)) 23 (z2 23)) 24 (z2 24)) 25 (z2 25)) 27 (z2 27)) 28 (z2 28)) 29 (z2 29)) 30 (z2 30)) 31 (z2 31)) 32 (z2 32))) (va_A (wX8 cI cZ cS f g a M) sz) t) (va_A (wX8 cI cZ cS f g a M) sz)) 0 0 (va_A (wX8 cI cZ cS f g a M) sz) := by
  refine Met.ofW (cc := cX8_ticksByServing) (maxL := 2) (ret := (some .int)) (by decide) rfl ?_
  intro p e s m args below meth c s₁ B hml hv
  obtain ⟨rfl, hsz, hP, hK, hD0, hNW⟩ := hv
  have hx := B.exec
  have hb := B.bytes
  have hr := B.returns
  have hts := atoms_spec (ws := wsX8_ticksByServing) B.pre
  have hown : s.vm.findClass RX8 = some m.cls := findClass_of_methodNamed B.named
  have hlocks := B.notSynchronized
  have hK2 : va_K (dC, dI) vwCl [(cI, .int), (cZ, .boolean)] s := hK.sub (tys' := [(cI, .int), (cZ, .boolean)]) [0, 1] rfl
  have hinX8 : ∀ w ∈ u_ws RX8 TX8 6, w ∈ wsX8_ticksByServing := by decide +kernel
  have hw1 := hts (.fieldLink RX8 16 "GlideShelves" "copy" "LGlideShelves$State;") (by decide +kernel)
  have hw2 := hts (.fieldLink RX8 12 "GlideShelves" "now" "LGlideShelves$State;") (by decide +kernel)
  have hw3 := hts (.initialized RX6) (by decide +kernel)
  have hw4 := hts (.instanceMethod yX6_copyFrom) (by decide +kernel)
  have hw5 := hts (.selects RX6 yX6_copyFrom yX6_copyFrom) (by decide +kernel)
  have hw6 := hts (.instanceMethod yX6_serveOne) (by decide +kernel)
  have hw7 := hts (.selects RX6 yX6_serveOne yX6_serveOne) (by decide +kernel)
  subst hsz
  have hD := hD0.self (sz := s.heap.size)
  generalize hAe : va_A (wX8 cI cZ cS f g a M) s.heap.size = A at hD ⊢
  have hA : ∀ q : Nat, s.heap.size ≤ q → A q := fun q h => by rw [← hAe]; exact Or.inr h
  have hS : va_S A s.heap s.heap [] := va_S.rf
  have hl := lv_entry ([.ref (a 0), .int a1]) (n := 2) (Nat.le_of_ble_eq_true rfl)
  rw [lg_entry_eq]
  generalize (lg_sl ([.ref (a 0), .int a1]) ++ List.replicate (2 - (lg_sl ([.ref (a 0), .int a1])).length) Slot.unset).toArray = ls at hl ⊢
  have hl : lv_has ls 2 [(0, .ref (a 0)), (1, .int a1)] := hl
  unfold fX8_ticksByServing at hf
  suffices hgo : ∀ (H : Heap) (locs : List Loc), va_P (dC, dI) vwCl (wX8 cI cZ cS f g a M) H → va_D A (wX8 cI cZ cS f g a M) → va_S A s.heap H locs → W p l e (headSpec wsX8_ticksByServing ({ frames := 5, cells := 0, slots := 0, locals := 133 } : Room)).room s m ([.ref (a 0), .int a1] : List Value).toArray below meth c H locs 0 0 (MQ below (va_Qi (S := Unit) (fun r _ => r = z1) (fun _ t => WE (dC, dI) cI cZ (wX8 cI cZ cS f g a (sr (sr (sr (sr (sr (sr (sr (sr (sr (sr (sr (sr (sr (sr (sr M 17 (z2 17)) 18 (z2 18)) 19 (z2 19)) 20 (z2 20)) 21 (z2 21)) 22 (z2 22)) 23 (z2 23)) 24 (z2 24)) 25 (z2 25)) 27 (z2 27)) 28 (z2 28)) 29 (z2 29)) 30 (z2 30)) 31 (z2 31)) 32 (z2 32))) A t) A) ([.ref (a 0), .int a1] : List Value).toArray s 0 0 A) (F0 m 0 ls []) from hgo _ _ hP hD hS
  intro H locs hP hD hS
  refine lv_aload_n hx hb dX8_ticksByServing_0 rfl (lv_at hl 0 rfl) ?_
  refine lv_iload_n hx hb dX8_ticksByServing_1 rfl (lv_at hl 1 rfl) ?_
  obtain ⟨r2, hc2, hf⟩ := bi_s hf
  rcases r2 with E9 | r2
  · have e9 := so_e hf
    cases e9
  have hf := sel_r hf
  refine cROv (W.runV (As := [.int a1]) (rest := []) ⟨hx, hb, hml, hown, hts⟩ (n_X8_requireOrder l dC dI cI cZ cS f g a M a1  hc2) (cwV 1 hts gX8_ticksByServing_X8_requireOrder rfl rfl rfl (by decide +kernel) ⟨Nat.le_of_ble_eq_true rfl, Nat.le_of_ble_eq_true rfl⟩) ⟨RO8.blind, va_recv hK hP (ci := 8) (q0 := 0) rfl rfl, RO8.pre hP hK hNW⟩ rfl rfl hl.1 rfl (lv_room (Nat.le_of_ble_eq_true rfl)) dX8_ticksByServing_2 ⟨Nat.le_of_ble_eq_true rfl, Nat.le_of_ble_eq_true rfl⟩) ?_
  refine lv_aload_n hx hb dX8_ticksByServing_5 rfl (lv_at hl 0 rfl) ?_
  obtain ⟨r6, hc6, hf⟩ := bi_s hf
  rcases r6 with E9 | r6
  · have e9 := so_e hf
    cases e9
  have hf := sel_r hf
  refine cROv (W.runV (As := []) (rest := []) ⟨hx, hb, hml, hown, hts⟩ (n_X8_requireEmptyWindow l dC dI cI cZ cS f g a M  hc6) (cwV 0 hts gX8_ticksByServing_X8_requireEmptyWindow rfl rfl rfl (by decide +kernel) ⟨Nat.le_of_ble_eq_true rfl, Nat.le_of_ble_eq_true rfl⟩) ⟨RO8.blind, va_recv hK hP (ci := 8) (q0 := 0) rfl rfl, RO8.pre hP hK hNW⟩ rfl rfl hl.1 rfl (lv_room (Nat.le_of_ble_eq_true rfl)) dX8_ticksByServing_6 ⟨Nat.le_of_ble_eq_true rfl, Nat.le_of_ble_eq_true rfl⟩) ?_
  refine lv_aload_n hx hb dX8_ticksByServing_9 rfl (lv_at hl 0 rfl) ?_
  refine lv_iload_n hx hb dX8_ticksByServing_10 rfl (lv_at hl 1 rfl) ?_
  obtain ⟨r11, hc11, hf⟩ := bi_s hf
  rcases r11 with E9 | r11
  · have e9 := so_e hf
    cases e9
  have hf := sel_r hf
  refine cROv (W.runV (As := [.int a1]) (rest := []) ⟨hx, hb, hml, hown, hts⟩ (n_X8_requireServable l dC dI cI cZ cS f g a M a1  hc11) (cwV 1 hts gX8_ticksByServing_X8_requireServable rfl rfl rfl (by decide +kernel) ⟨Nat.le_of_ble_eq_true rfl, Nat.le_of_ble_eq_true rfl⟩) ⟨RO8.blind, va_recv hK hP (ci := 8) (q0 := 0) rfl rfl, RO8.pre hP hK hNW⟩ rfl rfl hl.1 rfl (lv_room (Nat.le_of_ble_eq_true rfl)) dX8_ticksByServing_11 ⟨Nat.le_of_ble_eq_true rfl, Nat.le_of_ble_eq_true rfl⟩) ?_
  refine lv_aload_n hx hb dX8_ticksByServing_14 rfl (lv_at hl 0 rfl) ?_
  refine va_get (D := (dC, dI)) (ci := 8) (v := .ref (a 17)) (C := RX8) (T := TX8) (N := 6) hx hb hts hinX8 hown hK hP 0 rfl rfl 1 (by decide) hw1 (fun _ h9 => h9) rfl dX8_ticksByServing_15 ?_
  refine lv_aload_n hx hb dX8_ticksByServing_18 rfl (lv_at hl 0 rfl) ?_
  refine va_get (D := (dC, dI)) (ci := 8) (v := .ref (a 1)) (C := RX8) (T := TX8) (N := 6) hx hb hts hinX8 hown hK hP 0 rfl rfl 0 (by decide) hw2 (fun _ h9 => h9) rfl dX8_ticksByServing_19 ?_
  obtain ⟨r22, hc22, hf⟩ := bi_s hf
  have hPc := hP.sub (ws' := (wX6_copyFrom cI cZ (pk [17, 18, 19, 20, 21, 22, 23, 24, 25, 26, 27, 28, 29, 30, 31, 32, 1, 2, 3, 4, 5, 6, 7, 8, 9, 10, 11, 12, 13, 14, 15, 16] a) (pk [17, 18, 19, 20, 21, 22, 23, 24, 25, 26, 27, 28, 29, 30, 31, 32, 1, 2, 3, 4, 5, 6, 7, 8, 9, 10, 11, 12, 13, 14, 15, 16] M))) [17, 18, 19, 20, 21, 22, 23, 24, 25, 26, 27, 28, 29, 30, 31, 32, 1, 2, 3, 4, 5, 6, 7, 8, 9, 10, 11, 12, 13, 14, 15, 16] rfl
  have hDc := hD.sub (ws' := (wX6_copyFrom cI cZ (pk [17, 18, 19, 20, 21, 22, 23, 24, 25, 26, 27, 28, 29, 30, 31, 32, 1, 2, 3, 4, 5, 6, 7, 8, 9, 10, 11, 12, 13, 14, 15, 16] a) (pk [17, 18, 19, 20, 21, 22, 23, 24, 25, 26, 27, 28, 29, 30, 31, 32, 1, 2, 3, 4, 5, 6, 7, 8, 9, 10, 11, 12, 13, 14, 15, 16] M))) [17, 18, 19, 20, 21, 22, 23, 24, 25, 26, 27, 28, 29, 30, 31, 32, 1, 2, 3, 4, 5, 6, 7, 8, 9, 10, 11, 12, 13, 14, 15, 16] (by decide) rfl
  have hFc := va_free (wc := (wX6_copyFrom cI cZ (pk [17, 18, 19, 20, 21, 22, 23, 24, 25, 26, 27, 28, 29, 30, 31, 32, 1, 2, 3, 4, 5, 6, 7, 8, 9, 10, 11, 12, 13, 14, 15, 16] a) (pk [17, 18, 19, 20, 21, 22, 23, 24, 25, 26, 27, 28, 29, 30, 31, 32, 1, 2, 3, 4, 5, 6, 7, 8, 9, 10, 11, 12, 13, 14, 15, 16] M))) hD hS hA [17, 18, 19, 20, 21, 22, 23, 24, 25, 26, 27, 28, 29, 30, 31, 32, 1, 2, 3, 4, 5, 6, 7, 8, 9, 10, 11, 12, 13, 14, 15, 16] rfl
  refine va_callv (va_runVN (As := [.ref (a 1)]) (rest := []) ⟨hx, hb, hml, hown, hts⟩ (c_X6_copyFrom l dC dI cI cZ (pk [17, 18, 19, 20, 21, 22, 23, 24, 25, 26, 27, 28, 29, 30, 31, 32, 1, 2, 3, 4, 5, 6, 7, 8, 9, 10, 11, 12, 13, 14, 15, 16] a) H.size (pk [17, 18, 19, 20, 21, 22, 23, 24, 25, 26, 27, 28, 29, 30, 31, 32, 1, 2, 3, 4, 5, 6, 7, 8, 9, 10, 11, 12, 13, 14, 15, 16] M) r22 hc22) ⟨va_cnB 1 hts gX8_ticksByServing_X6_copyFrom_n265 rfl rfl rfl (nw61 hNW) hw3 (by decide +kernel) ⟨Nat.le_of_ble_eq_true rfl, Nat.le_of_ble_eq_true rfl⟩, hw4, hw5⟩ ⟨WR.blind, va_recv hK hP (ci := 6) (q0 := 17) rfl rfl, WR.pre hPc hK2 hDc hNW⟩ rfl rfl hl.1 rfl (lv_room (Nat.le_of_ble_eq_true rfl)) dX8_ticksByServing_22 ⟨Nat.le_of_ble_eq_true rfl, Nat.le_of_ble_eq_true rfl⟩) hS (fun q _ h => hFc q h) hFc (fun u t H1 locs ht hvm hw hB hz1 hk1 hS => ?_)
  obtain ⟨hP1, hD1⟩ := hB
  rw [ht] at hP1
  obtain ⟨hP, hD⟩ := va_join (wr := [(a 0, .inr (8, [.ref (a 1), .ref (a 17), .ref (a 33), .ref (a 36), .ref (a 40), .ref (a 41)])), (a 33, .inr (1, [.int (M 33 0), .ref (a 34), .ref (a 35)])), (a 34, .inl (cS, 6, .inr (.inr (.inr (.inr f))))), (a 35, .inl (cS, 2, .inr (.inr (.inr (.inr g))))), (a 36, .inr (5, [.int (M 36 0), .ref (a 37), .ref (a 38)])), (a 37, .inl (cI, 60, .inl (M 37))), (a 38, .inr (4, [.int (M 38 0), .int (M 38 1), .ref (a 39)])), (a 39, .inl (cI, 10, .inl (M 39))), (a 40, .inl (cI, 12, .inl (M 40))), (a 41, .inl (cI, 10, .inl (M 41)))]) (w1 := (wX6_copyFrom cI cZ (pk [17, 18, 19, 20, 21, 22, 23, 24, 25, 26, 27, 28, 29, 30, 31, 32, 1, 2, 3, 4, 5, 6, 7, 8, 9, 10, 11, 12, 13, 14, 15, 16] a) (sr (sr (sr (sr (sr (sr (sr (sr (sr (sr (sr (sr (sr (sr (sr (pk [17, 18, 19, 20, 21, 22, 23, 24, 25, 26, 27, 28, 29, 30, 31, 32, 1, 2, 3, 4, 5, 6, 7, 8, 9, 10, 11, 12, 13, 14, 15, 16] M) 0 (r22 0)) 1 (r22 1)) 2 (r22 2)) 3 (r22 3)) 4 (r22 4)) 5 (r22 5)) 6 (r22 6)) 7 (r22 7)) 8 (r22 8)) 10 (r22 10)) 11 (r22 11)) 12 (r22 12)) 13 (r22 13)) 14 (r22 14)) 15 (r22 15)))) hP hD [17, 18, 19, 20, 21, 22, 23, 24, 25, 26, 27, 28, 29, 30, 31, 32, 1, 2, 3, 4, 5, 6, 7, 8, 9, 10, 11, 12, 13, 14, 15, 16] [0, 33, 34, 35, 36, 37, 38, 39, 40, 41] rfl rfl (by decide) (by decide) hk1 hFc hP1 hD1
  have hP := hP.sub (ws' := (wX8 cI cZ cS f g a (sr (sr (sr (sr (sr (sr (sr (sr (sr (sr (sr (sr (sr (sr (sr M 17 (r22 0)) 18 (r22 1)) 19 (r22 2)) 20 (r22 3)) 21 (r22 4)) 22 (r22 5)) 23 (r22 6)) 24 (r22 7)) 25 (r22 8)) 27 (r22 10)) 28 (r22 11)) 29 (r22 12)) 30 (r22 13)) 31 (r22 14)) 32 (r22 15)))) [0, 26, 27, 28, 29, 30, 31, 32, 33, 34, 35, 36, 37, 38, 39, 40, 41, 10, 11, 12, 13, 14, 15, 16, 17, 18, 19, 20, 21, 22, 23, 24, 25, 1, 2, 3, 4, 5, 6, 7, 8, 9] rfl
  have hD := hD.sub (ws' := (wX8 cI cZ cS f g a (sr (sr (sr (sr (sr (sr (sr (sr (sr (sr (sr (sr (sr (sr (sr M 17 (r22 0)) 18 (r22 1)) 19 (r22 2)) 20 (r22 3)) 21 (r22 4)) 22 (r22 5)) 23 (r22 6)) 24 (r22 7)) 25 (r22 8)) 27 (r22 10)) 28 (r22 11)) 29 (r22 12)) 30 (r22 13)) 31 (r22 14)) 32 (r22 15)))) [0, 26, 27, 28, 29, 30, 31, 32, 33, 34, 35, 36, 37, 38, 39, 40, 41, 10, 11, 12, 13, 14, 15, 16, 17, 18, 19, 20, 21, 22, 23, 24, 25, 1, 2, 3, 4, 5, 6, 7, 8, 9] (by decide) rfl
  generalize H1 = H at hP hS ⊢
  refine lv_aload_n hx hb dX8_ticksByServing_25 rfl (lv_at hl 0 rfl) ?_
  refine va_get (D := (dC, dI)) (ci := 8) (v := .ref (a 17)) (C := RX8) (T := TX8) (N := 6) hx hb hts hinX8 hown hK hP 0 rfl rfl 1 (by decide) hw1 (fun _ h9 => h9) rfl dX8_ticksByServing_26 ?_
  refine lv_iload_n hx hb dX8_ticksByServing_29 rfl (lv_at hl 1 rfl) ?_
  obtain ⟨r30, hc30, hf⟩ := bi_s hf
  have hPc := hP.sub (ws' := (wX6 cI cZ (ofs 17 a) (ofs 17 (sr (sr (sr (sr (sr (sr (sr (sr (sr (sr (sr (sr (sr (sr (sr M 17 (r22 0)) 18 (r22 1)) 19 (r22 2)) 20 (r22 3)) 21 (r22 4)) 22 (r22 5)) 23 (r22 6)) 24 (r22 7)) 25 (r22 8)) 27 (r22 10)) 28 (r22 11)) 29 (r22 12)) 30 (r22 13)) 31 (r22 14)) 32 (r22 15))))) [17, 18, 19, 20, 21, 22, 23, 24, 25, 26, 27, 28, 29, 30, 31, 32] rfl
  have hDc := hD.sub (ws' := (wX6 cI cZ (ofs 17 a) (ofs 17 (sr (sr (sr (sr (sr (sr (sr (sr (sr (sr (sr (sr (sr (sr (sr M 17 (r22 0)) 18 (r22 1)) 19 (r22 2)) 20 (r22 3)) 21 (r22 4)) 22 (r22 5)) 23 (r22 6)) 24 (r22 7)) 25 (r22 8)) 27 (r22 10)) 28 (r22 11)) 29 (r22 12)) 30 (r22 13)) 31 (r22 14)) 32 (r22 15))))) [17, 18, 19, 20, 21, 22, 23, 24, 25, 26, 27, 28, 29, 30, 31, 32] (by decide) rfl
  have hFc := va_free (wc := (wX6 cI cZ (ofs 17 a) (ofs 17 (sr (sr (sr (sr (sr (sr (sr (sr (sr (sr (sr (sr (sr (sr (sr M 17 (r22 0)) 18 (r22 1)) 19 (r22 2)) 20 (r22 3)) 21 (r22 4)) 22 (r22 5)) 23 (r22 6)) 24 (r22 7)) 25 (r22 8)) 27 (r22 10)) 28 (r22 11)) 29 (r22 12)) 30 (r22 13)) 31 (r22 14)) 32 (r22 15))))) hD hS hA [17, 18, 19, 20, 21, 22, 23, 24, 25, 26, 27, 28, 29, 30, 31, 32] rfl
  refine va_calli (va_runVN (As := [.int a1]) (rest := []) ⟨hx, hb, hml, hown, hts⟩ (c_X6_serveOne l dC dI cI cZ (ofs 17 a) H.size (ofs 17 (sr (sr (sr (sr (sr (sr (sr (sr (sr (sr (sr (sr (sr (sr (sr M 17 (r22 0)) 18 (r22 1)) 19 (r22 2)) 20 (r22 3)) 21 (r22 4)) 22 (r22 5)) 23 (r22 6)) 24 (r22 7)) 25 (r22 8)) 27 (r22 10)) 28 (r22 11)) 29 (r22 12)) 30 (r22 13)) 31 (r22 14)) 32 (r22 15))) a1 r30 hc30) ⟨va_cnB 1 hts gX8_ticksByServing_X6_serveOne_n213 rfl rfl rfl (nw56 hNW) hw3 (by decide +kernel) ⟨Nat.le_of_ble_eq_true rfl, Nat.le_of_ble_eq_true rfl⟩, hw6, hw7⟩ ⟨WR.blind, va_recv hK hP (ci := 6) (q0 := 17) rfl rfl, WR.pre hPc hK2 hDc hNW⟩ rfl rfl hl.1 rfl (lv_room (Nat.le_of_ble_eq_true rfl)) dX8_ticksByServing_30 ⟨Nat.le_of_ble_eq_true rfl, Nat.le_of_ble_eq_true rfl⟩) hS (fun q _ h => hFc q h) hFc (fun rv u t H1 locs ht hvm hw hB hz1 hk1 hS => ?_)
  obtain ⟨hP1, hD1⟩ := hB
  rw [ht] at hP1
  subst hw
  obtain ⟨hP, hD⟩ := va_join (wr := [(a 0, .inr (8, [.ref (a 1), .ref (a 17), .ref (a 33), .ref (a 36), .ref (a 40), .ref (a 41)])), (a 1, .inr (6, [.ref (a 2), .ref (a 7), .ref (a 10), .ref (a 15), .int (M 1 4)])), (a 2, .inr (7, [.int (M 2 0), .int (M 2 1), .ref (a 3), .ref (a 4), .ref (a 5), .ref (a 6)])), (a 3, .inl (cI, 12, .inl (M 3))), (a 4, .inl (cI, 12, .inl (M 4))), (a 5, .inl (cI, 12, .inl (M 5))), (a 6, .inl (cI, 120, .inl (M 6))), (a 7, .inr (2, [.int (M 7 0), .int (M 7 1), .int (M 7 2), .int (M 7 3), .int (M 7 4), .ref (a 8), .ref (a 9)])), (a 8, .inl (cI, 8, .inl (M 8))), (a 9, .inl (cZ, 8, .inl (M 9))), (a 10, .inr (0, [.ref (a 11), .ref (a 12), .ref (a 13), .ref (a 14)])), (a 11, .inl (cI, 10, .inl (M 11))), (a 12, .inl (cI, 10, .inl (M 12))), (a 13, .inl (cI, 10, .inl (M 13))), (a 14, .inl (cI, 10, .inl (M 14))), (a 15, .inr (3, [.int (M 15 0), .ref (a 16)])), (a 16, .inl (cI, 80, .inl (M 16))), (a 33, .inr (1, [.int (M 33 0), .ref (a 34), .ref (a 35)])), (a 34, .inl (cS, 6, .inr (.inr (.inr (.inr f))))), (a 35, .inl (cS, 2, .inr (.inr (.inr (.inr g))))), (a 36, .inr (5, [.int (M 36 0), .ref (a 37), .ref (a 38)])), (a 37, .inl (cI, 60, .inl (M 37))), (a 38, .inr (4, [.int (M 38 0), .int (M 38 1), .ref (a 39)])), (a 39, .inl (cI, 10, .inl (M 39))), (a 40, .inl (cI, 12, .inl (M 40))), (a 41, .inl (cI, 10, .inl (M 41)))]) (w1 := (wX6 cI cZ (ofs 17 a) (sr (sr (sr (sr (sr (sr (sr (sr (sr (sr (sr (ofs 17 (sr (sr (sr (sr (sr (sr (sr (sr (sr (sr (sr (sr (sr (sr (sr M 17 (r22 0)) 18 (r22 1)) 19 (r22 2)) 20 (r22 3)) 21 (r22 4)) 22 (r22 5)) 23 (r22 6)) 24 (r22 7)) 25 (r22 8)) 27 (r22 10)) 28 (r22 11)) 29 (r22 12)) 30 (r22 13)) 31 (r22 14)) 32 (r22 15))) 0 (r30.2 0)) 1 (r30.2 1)) 3 (r30.2 3)) 4 (r30.2 4)) 5 (r30.2 5)) 6 (r30.2 6)) 7 (r30.2 7)) 8 (r30.2 8)) 13 (r30.2 13)) 14 (r30.2 14)) 15 (r30.2 15)))) hP hD [17, 18, 19, 20, 21, 22, 23, 24, 25, 26, 27, 28, 29, 30, 31, 32] [0, 1, 2, 3, 4, 5, 6, 7, 8, 9, 10, 11, 12, 13, 14, 15, 16, 33, 34, 35, 36, 37, 38, 39, 40, 41] rfl rfl (by decide) (by decide) hk1 hFc hP1 hD1
  have hP := hP.sub (ws' := (wX8 cI cZ cS f g a (sr (sr (sr (sr (sr (sr (sr (sr (sr (sr (sr (sr (sr (sr (sr M 17 (r30.2 0)) 18 (r30.2 1)) 19 (r22 2)) 20 (r30.2 3)) 21 (r30.2 4)) 22 (r30.2 5)) 23 (r30.2 6)) 24 (r30.2 7)) 25 (r30.2 8)) 27 (r22 10)) 28 (r22 11)) 29 (r22 12)) 30 (r30.2 13)) 31 (r30.2 14)) 32 (r30.2 15)))) [0, 1, 2, 3, 4, 5, 6, 7, 8, 9, 10, 11, 12, 13, 14, 15, 16, 26, 27, 28, 29, 30, 31, 32, 33, 34, 35, 36, 37, 38, 39, 40, 41, 17, 18, 19, 20, 21, 22, 23, 24, 25] rfl
  have hD := hD.sub (ws' := (wX8 cI cZ cS f g a (sr (sr (sr (sr (sr (sr (sr (sr (sr (sr (sr (sr (sr (sr (sr M 17 (r30.2 0)) 18 (r30.2 1)) 19 (r22 2)) 20 (r30.2 3)) 21 (r30.2 4)) 22 (r30.2 5)) 23 (r30.2 6)) 24 (r30.2 7)) 25 (r30.2 8)) 27 (r22 10)) 28 (r22 11)) 29 (r22 12)) 30 (r30.2 13)) 31 (r30.2 14)) 32 (r30.2 15)))) [0, 1, 2, 3, 4, 5, 6, 7, 8, 9, 10, 11, 12, 13, 14, 15, 16, 26, 27, 28, 29, 30, 31, 32, 33, 34, 35, 36, 37, 38, 39, 40, 41, 17, 18, 19, 20, 21, 22, 23, 24, 25] (by decide) rfl
  generalize H1 = H at hP hS ⊢
  have e9 := so_e hf
  cases e9
  exact W.iret hx hb hr (fun t ht hW => ⟨⟨_, (), rfl, rfl, WE.mk hP hD ht⟩, hS.F ht⟩) hS.2.2 dX8_ticksByServing_33
set_option maxHeartbeats 4000000 in
set_option maxRecDepth 100000 in
theorem t_X8_ticksByServing (l : Launch) (hst : l.stackTraces = false) (dC : Nat → ClassId) (dI : Nat → Nat → Nat) (cI cZ cS : ClassId) (f g : Nat → Option Nat) (a : Nat → Nat) (sz : Nat) (M : Mem) (a1 : Int32) (E : String) (z2 : Mem) (hf : fX8_ticksByServing M a1 = some (Sum.inl E, z2)) : vx_Met l yX8_ticksByServing wsX8_ticksByServing ({ frames := 7, cells := 1, slots := 6, locals := 133 } : Room) (va_Pc [.ref (a 0), .int a1] (T8 (dC, dI) cI cZ cS (wX8 cI cZ cS f g a M) sz)) (fun _ _ _ _ => False) (vx_X (S := Unit) (fun _ => True) (fun E' _ t => E' = E ∧ WE (dC, dI) cI cZ (wX8 cI cZ cS f g a (sr (sr (sr (sr (sr (sr (sr (sr (sr (sr (sr (sr (sr (sr (sr M 17 (z2 17)) 18 (z2 18)) 19 (z2 19)) 20 (z2 20)) 21 (z2 21)) 22 (z2 22)) 23 (z2 23)) 24 (z2 24)) 25 (z2 25)) 27 (z2 27)) 28 (z2 28)) 29 (z2 29)) 30 (z2 30)) 31 (z2 31)) 32 (z2 32))) (va_A (wX8 cI cZ cS f g a M) sz) t) (va_A (wX8 cI cZ cS f g a M) sz)) 1 6 (va_A (wX8 cI cZ cS f g a M) sz) := by
  refine vx_ofW (cc := cX8_ticksByServing) (maxL := 2) (ret := (some .int)) (by decide) rfl ?_
  intro p e s m args below meth c s₁ B hml htab hv
  obtain ⟨rfl, hsz, hP, hK, hD0, hNW, hEX⟩ := hv
  have hx := B.exec
  have hb := B.bytes
  have hr := B.returns
  have hts := atoms_spec (ws := wsX8_ticksByServing) B.pre
  have hown : s.vm.findClass RX8 = some m.cls := findClass_of_methodNamed B.named
  have hlocks := B.notSynchronized
  have hK2 : va_K (dC, dI) vwCl [(cI, .int), (cZ, .boolean)] s := hK.sub (tys' := [(cI, .int), (cZ, .boolean)]) [0, 1] rfl
  have hinX8 : ∀ w ∈ u_ws RX8 TX8 6, w ∈ wsX8_ticksByServing := by decide +kernel
  have hw1 := hts (.fieldLink RX8 16 "GlideShelves" "copy" "LGlideShelves$State;") (by decide +kernel)
  have hw2 := hts (.fieldLink RX8 12 "GlideShelves" "now" "LGlideShelves$State;") (by decide +kernel)
  have hw3 := hts (.initialized RX6) (by decide +kernel)
  have hw4 := hts (.instanceMethod yX6_copyFrom) (by decide +kernel)
  have hw5 := hts (.selects RX6 yX6_copyFrom yX6_copyFrom) (by decide +kernel)
  have hw6 := hts (.instanceMethod yX6_serveOne) (by decide +kernel)
  have hw7 := hts (.selects RX6 yX6_serveOne yX6_serveOne) (by decide +kernel)
  subst hsz
  have hD := hD0.self (sz := s.heap.size)
  generalize hAe : va_A (wX8 cI cZ cS f g a M) s.heap.size = A at hD hEX ⊢
  have hA : ∀ q : Nat, s.heap.size ≤ q → A q := fun q h => by rw [← hAe]; exact Or.inr h
  have hS : va_S A s.heap s.heap [] := va_S.rf
  have hl := lv_entry ([.ref (a 0), .int a1]) (n := 2) (Nat.le_of_ble_eq_true rfl)
  rw [lg_entry_eq]
  generalize (lg_sl ([.ref (a 0), .int a1]) ++ List.replicate (2 - (lg_sl ([.ref (a 0), .int a1])).length) Slot.unset).toArray = ls at hl ⊢
  have hl : lv_has ls 2 [(0, .ref (a 0)), (1, .int a1)] := hl
  unfold fX8_ticksByServing at hf
  suffices hgo : ∀ (H : Heap) (locs : List Loc), va_P (dC, dI) vwCl (wX8 cI cZ cS f g a M) H → va_D A (wX8 cI cZ cS f g a M) → va_S A s.heap H locs → W p l e (headSpec wsX8_ticksByServing ({ frames := 7, cells := 1, slots := 6, locals := 133 } : Room)).room s m ([.ref (a 0), .int a1] : List Value).toArray below meth c H locs 0 0 (vx_MQ below (fun _ _ _ _ => False) (vx_X (S := Unit) (fun _ => True) (fun E' _ t => E' = E ∧ WE (dC, dI) cI cZ (wX8 cI cZ cS f g a (sr (sr (sr (sr (sr (sr (sr (sr (sr (sr (sr (sr (sr (sr (sr M 17 (z2 17)) 18 (z2 18)) 19 (z2 19)) 20 (z2 20)) 21 (z2 21)) 22 (z2 22)) 23 (z2 23)) 24 (z2 24)) 25 (z2 25)) 27 (z2 27)) 28 (z2 28)) 29 (z2 29)) 30 (z2 30)) 31 (z2 31)) 32 (z2 32))) A t) A) ([.ref (a 0), .int a1] : List Value).toArray s 1 6 A) (F0 m 0 ls []) from hgo _ _ hP hD hS
  intro H locs hP hD hS
  refine lv_aload_n hx hb dX8_ticksByServing_0 rfl (lv_at hl 0 rfl) ?_
  refine lv_iload_n hx hb dX8_ticksByServing_1 rfl (lv_at hl 1 rfl) ?_
  obtain ⟨r2, hc2, hf⟩ := bi_s hf
  rcases r2 with E9 | r2
  · have e9 := so_e hf
    cases e9
    have hFc := va_free (wc := (wX8 cI cZ cS f g a M)) hD hS hA [0, 1, 2, 3, 4, 5, 6, 7, 8, 9, 10, 11, 12, 13, 14, 15, 16, 17, 18, 19, 20, 21, 22, 23, 24, 25, 26, 27, 28, 29, 30, 31, 32, 33, 34, 35, 36, 37, 38, 39, 40, 41] rfl
    refine vx_thr (vx_runV (As := [.int a1]) (rest := []) ⟨hx, hb, hml, hown, hts⟩ (t_X8_requireOrder l hst dC dI cI cZ cS f g a _ M a1 _ hc2) (cwV 1 hts gX8_ticksByServing_X8_requireOrder rfl rfl rfl (by decide +kernel) ⟨Nat.le_of_ble_eq_true rfl, Nat.le_of_ble_eq_true rfl⟩) ⟨T8.blind, va_recv hK hP (ci := 8) (q0 := 0) rfl rfl, T8.pre hP hK hD hNW (hEX.at hS hFc)⟩ rfl rfl hl.1 rfl (lv_room (Nat.le_of_ble_eq_true rfl)) dX8_ticksByServing_2 ⟨Nat.le_of_ble_eq_true rfl, Nat.le_of_ble_eq_true rfl⟩) hS (fun q _ h => hFc q h) hFc (fun ce q9 t H1 locs1 ht hal hP1 hD1 hz1 hS1 hce hcv hcl => ?_)
    exact vx_out (fun x h => (htab x h).elim) hlocks hce hcv hcl (fun t ht hal => ⟨(), trivial, ⟨rfl, WE.mk hP1 (hD1.weaken (fun k q _ h => hFc q.1 h)) ht⟩, hS1.F ht⟩) hS1.2.2 (Nat.le_of_ble_eq_true rfl) (Nat.le_of_ble_eq_true rfl)
  have hf := sel_r hf
  refine cROv (W.runV (As := [.int a1]) (rest := []) ⟨hx, hb, hml, hown, hts⟩ (n_X8_requireOrder l dC dI cI cZ cS f g a M a1  hc2) (cwV 1 hts gX8_ticksByServing_X8_requireOrder rfl rfl rfl (by decide +kernel) ⟨Nat.le_of_ble_eq_true rfl, Nat.le_of_ble_eq_true rfl⟩) ⟨RO8.blind, va_recv hK hP (ci := 8) (q0 := 0) rfl rfl, RO8.pre hP hK hNW⟩ rfl rfl hl.1 rfl (lv_room (Nat.le_of_ble_eq_true rfl)) dX8_ticksByServing_2 ⟨Nat.le_of_ble_eq_true rfl, Nat.le_of_ble_eq_true rfl⟩) ?_
  refine lv_aload_n hx hb dX8_ticksByServing_5 rfl (lv_at hl 0 rfl) ?_
  obtain ⟨r6, hc6, hf⟩ := bi_s hf
  rcases r6 with E9 | r6
  · have e9 := so_e hf
    cases e9
    have hFc := va_free (wc := (wX8 cI cZ cS f g a M)) hD hS hA [0, 1, 2, 3, 4, 5, 6, 7, 8, 9, 10, 11, 12, 13, 14, 15, 16, 17, 18, 19, 20, 21, 22, 23, 24, 25, 26, 27, 28, 29, 30, 31, 32, 33, 34, 35, 36, 37, 38, 39, 40, 41] rfl
    refine vx_thr (vx_runV (As := []) (rest := []) ⟨hx, hb, hml, hown, hts⟩ (t_X8_requireEmptyWindow l hst dC dI cI cZ cS f g a _ M _ hc6) (cwV 0 hts gX8_ticksByServing_X8_requireEmptyWindow rfl rfl rfl (by decide +kernel) ⟨Nat.le_of_ble_eq_true rfl, Nat.le_of_ble_eq_true rfl⟩) ⟨T8.blind, va_recv hK hP (ci := 8) (q0 := 0) rfl rfl, T8.pre hP hK hD hNW (hEX.at hS hFc)⟩ rfl rfl hl.1 rfl (lv_room (Nat.le_of_ble_eq_true rfl)) dX8_ticksByServing_6 ⟨Nat.le_of_ble_eq_true rfl, Nat.le_of_ble_eq_true rfl⟩) hS (fun q _ h => hFc q h) hFc (fun ce q9 t H1 locs1 ht hal hP1 hD1 hz1 hS1 hce hcv hcl => ?_)
    exact vx_out (fun x h => (htab x h).elim) hlocks hce hcv hcl (fun t ht hal => ⟨(), trivial, ⟨rfl, WE.mk hP1 (hD1.weaken (fun k q _ h => hFc q.1 h)) ht⟩, hS1.F ht⟩) hS1.2.2 (Nat.le_of_ble_eq_true rfl) (Nat.le_of_ble_eq_true rfl)
  have hf := sel_r hf
  refine cROv (W.runV (As := []) (rest := []) ⟨hx, hb, hml, hown, hts⟩ (n_X8_requireEmptyWindow l dC dI cI cZ cS f g a M  hc6) (cwV 0 hts gX8_ticksByServing_X8_requireEmptyWindow rfl rfl rfl (by decide +kernel) ⟨Nat.le_of_ble_eq_true rfl, Nat.le_of_ble_eq_true rfl⟩) ⟨RO8.blind, va_recv hK hP (ci := 8) (q0 := 0) rfl rfl, RO8.pre hP hK hNW⟩ rfl rfl hl.1 rfl (lv_room (Nat.le_of_ble_eq_true rfl)) dX8_ticksByServing_6 ⟨Nat.le_of_ble_eq_true rfl, Nat.le_of_ble_eq_true rfl⟩) ?_
  refine lv_aload_n hx hb dX8_ticksByServing_9 rfl (lv_at hl 0 rfl) ?_
  refine lv_iload_n hx hb dX8_ticksByServing_10 rfl (lv_at hl 1 rfl) ?_
  obtain ⟨r11, hc11, hf⟩ := bi_s hf
  rcases r11 with E9 | r11
  · have e9 := so_e hf
    cases e9
    have hFc := va_free (wc := (wX8 cI cZ cS f g a M)) hD hS hA [0, 1, 2, 3, 4, 5, 6, 7, 8, 9, 10, 11, 12, 13, 14, 15, 16, 17, 18, 19, 20, 21, 22, 23, 24, 25, 26, 27, 28, 29, 30, 31, 32, 33, 34, 35, 36, 37, 38, 39, 40, 41] rfl
    refine vx_thr (vx_runV (As := [.int a1]) (rest := []) ⟨hx, hb, hml, hown, hts⟩ (t_X8_requireServable l hst dC dI cI cZ cS f g a _ M a1 _ hc11) (cwV 1 hts gX8_ticksByServing_X8_requireServable rfl rfl rfl (by decide +kernel) ⟨Nat.le_of_ble_eq_true rfl, Nat.le_of_ble_eq_true rfl⟩) ⟨T8.blind, va_recv hK hP (ci := 8) (q0 := 0) rfl rfl, T8.pre hP hK hD hNW (hEX.at hS hFc)⟩ rfl rfl hl.1 rfl (lv_room (Nat.le_of_ble_eq_true rfl)) dX8_ticksByServing_11 ⟨Nat.le_of_ble_eq_true rfl, Nat.le_of_ble_eq_true rfl⟩) hS (fun q _ h => hFc q h) hFc (fun ce q9 t H1 locs1 ht hal hP1 hD1 hz1 hS1 hce hcv hcl => ?_)
    exact vx_out (fun x h => (htab x h).elim) hlocks hce hcv hcl (fun t ht hal => ⟨(), trivial, ⟨rfl, WE.mk hP1 (hD1.weaken (fun k q _ h => hFc q.1 h)) ht⟩, hS1.F ht⟩) hS1.2.2 (Nat.le_of_ble_eq_true rfl) (Nat.le_of_ble_eq_true rfl)
  have hf := sel_r hf
  refine cROv (W.runV (As := [.int a1]) (rest := []) ⟨hx, hb, hml, hown, hts⟩ (n_X8_requireServable l dC dI cI cZ cS f g a M a1  hc11) (cwV 1 hts gX8_ticksByServing_X8_requireServable rfl rfl rfl (by decide +kernel) ⟨Nat.le_of_ble_eq_true rfl, Nat.le_of_ble_eq_true rfl⟩) ⟨RO8.blind, va_recv hK hP (ci := 8) (q0 := 0) rfl rfl, RO8.pre hP hK hNW⟩ rfl rfl hl.1 rfl (lv_room (Nat.le_of_ble_eq_true rfl)) dX8_ticksByServing_11 ⟨Nat.le_of_ble_eq_true rfl, Nat.le_of_ble_eq_true rfl⟩) ?_
  refine lv_aload_n hx hb dX8_ticksByServing_14 rfl (lv_at hl 0 rfl) ?_
  refine va_get (D := (dC, dI)) (ci := 8) (v := .ref (a 17)) (C := RX8) (T := TX8) (N := 6) hx hb hts hinX8 hown hK hP 0 rfl rfl 1 (by decide) hw1 (fun _ h9 => h9) rfl dX8_ticksByServing_15 ?_
  refine lv_aload_n hx hb dX8_ticksByServing_18 rfl (lv_at hl 0 rfl) ?_
  refine va_get (D := (dC, dI)) (ci := 8) (v := .ref (a 1)) (C := RX8) (T := TX8) (N := 6) hx hb hts hinX8 hown hK hP 0 rfl rfl 0 (by decide) hw2 (fun _ h9 => h9) rfl dX8_ticksByServing_19 ?_
  obtain ⟨r22, hc22, hf⟩ := bi_s hf
  have hPc := hP.sub (ws' := (wX6_copyFrom cI cZ (pk [17, 18, 19, 20, 21, 22, 23, 24, 25, 26, 27, 28, 29, 30, 31, 32, 1, 2, 3, 4, 5, 6, 7, 8, 9, 10, 11, 12, 13, 14, 15, 16] a) (pk [17, 18, 19, 20, 21, 22, 23, 24, 25, 26, 27, 28, 29, 30, 31, 32, 1, 2, 3, 4, 5, 6, 7, 8, 9, 10, 11, 12, 13, 14, 15, 16] M))) [17, 18, 19, 20, 21, 22, 23, 24, 25, 26, 27, 28, 29, 30, 31, 32, 1, 2, 3, 4, 5, 6, 7, 8, 9, 10, 11, 12, 13, 14, 15, 16] rfl
  have hDc := hD.sub (ws' := (wX6_copyFrom cI cZ (pk [17, 18, 19, 20, 21, 22, 23, 24, 25, 26, 27, 28, 29, 30, 31, 32, 1, 2, 3, 4, 5, 6, 7, 8, 9, 10, 11, 12, 13, 14, 15, 16] a) (pk [17, 18, 19, 20, 21, 22, 23, 24, 25, 26, 27, 28, 29, 30, 31, 32, 1, 2, 3, 4, 5, 6, 7, 8, 9, 10, 11, 12, 13, 14, 15, 16] M))) [17, 18, 19, 20, 21, 22, 23, 24, 25, 26, 27, 28, 29, 30, 31, 32, 1, 2, 3, 4, 5, 6, 7, 8, 9, 10, 11, 12, 13, 14, 15, 16] (by decide) rfl
  have hFc := va_free (wc := (wX6_copyFrom cI cZ (pk [17, 18, 19, 20, 21, 22, 23, 24, 25, 26, 27, 28, 29, 30, 31, 32, 1, 2, 3, 4, 5, 6, 7, 8, 9, 10, 11, 12, 13, 14, 15, 16] a) (pk [17, 18, 19, 20, 21, 22, 23, 24, 25, 26, 27, 28, 29, 30, 31, 32, 1, 2, 3, 4, 5, 6, 7, 8, 9, 10, 11, 12, 13, 14, 15, 16] M))) hD hS hA [17, 18, 19, 20, 21, 22, 23, 24, 25, 26, 27, 28, 29, 30, 31, 32, 1, 2, 3, 4, 5, 6, 7, 8, 9, 10, 11, 12, 13, 14, 15, 16] rfl
  refine va_callv (va_runVN (As := [.ref (a 1)]) (rest := []) ⟨hx, hb, hml, hown, hts⟩ (c_X6_copyFrom l dC dI cI cZ (pk [17, 18, 19, 20, 21, 22, 23, 24, 25, 26, 27, 28, 29, 30, 31, 32, 1, 2, 3, 4, 5, 6, 7, 8, 9, 10, 11, 12, 13, 14, 15, 16] a) H.size (pk [17, 18, 19, 20, 21, 22, 23, 24, 25, 26, 27, 28, 29, 30, 31, 32, 1, 2, 3, 4, 5, 6, 7, 8, 9, 10, 11, 12, 13, 14, 15, 16] M) r22 hc22) ⟨va_cnB 1 hts gX8_ticksByServing_X6_copyFrom_n265 rfl rfl rfl (nw61 hNW) hw3 (by decide +kernel) ⟨Nat.le_of_ble_eq_true rfl, Nat.le_of_ble_eq_true rfl⟩, hw4, hw5⟩ ⟨WR.blind, va_recv hK hP (ci := 6) (q0 := 17) rfl rfl, WR.pre hPc hK2 hDc hNW⟩ rfl rfl hl.1 rfl (lv_room (Nat.le_of_ble_eq_true rfl)) dX8_ticksByServing_22 ⟨Nat.le_of_ble_eq_true rfl, Nat.le_of_ble_eq_true rfl⟩) hS (fun q _ h => hFc q h) hFc (fun u t H1 locs ht hvm hw hB hz1 hk1 hS => ?_)
  obtain ⟨hP1, hD1⟩ := hB
  rw [ht] at hP1
  obtain ⟨hP, hD⟩ := va_join (wr := [(a 0, .inr (8, [.ref (a 1), .ref (a 17), .ref (a 33), .ref (a 36), .ref (a 40), .ref (a 41)])), (a 33, .inr (1, [.int (M 33 0), .ref (a 34), .ref (a 35)])), (a 34, .inl (cS, 6, .inr (.inr (.inr (.inr f))))), (a 35, .inl (cS, 2, .inr (.inr (.inr (.inr g))))), (a 36, .inr (5, [.int (M 36 0), .ref (a 37), .ref (a 38)])), (a 37, .inl (cI, 60, .inl (M 37))), (a 38, .inr (4, [.int (M 38 0), .int (M 38 1), .ref (a 39)])), (a 39, .inl (cI, 10, .inl (M 39))), (a 40, .inl (cI, 12, .inl (M 40))), (a 41, .inl (cI, 10, .inl (M 41)))]) (w1 := (wX6_copyFrom cI cZ (pk [17, 18, 19, 20, 21, 22, 23, 24, 25, 26, 27, 28, 29, 30, 31, 32, 1, 2, 3, 4, 5, 6, 7, 8, 9, 10, 11, 12, 13, 14, 15, 16] a) (sr (sr (sr (sr (sr (sr (sr (sr (sr (sr (sr (sr (sr (sr (sr (pk [17, 18, 19, 20, 21, 22, 23, 24, 25, 26, 27, 28, 29, 30, 31, 32, 1, 2, 3, 4, 5, 6, 7, 8, 9, 10, 11, 12, 13, 14, 15, 16] M) 0 (r22 0)) 1 (r22 1)) 2 (r22 2)) 3 (r22 3)) 4 (r22 4)) 5 (r22 5)) 6 (r22 6)) 7 (r22 7)) 8 (r22 8)) 10 (r22 10)) 11 (r22 11)) 12 (r22 12)) 13 (r22 13)) 14 (r22 14)) 15 (r22 15)))) hP hD [17, 18, 19, 20, 21, 22, 23, 24, 25, 26, 27, 28, 29, 30, 31, 32, 1, 2, 3, 4, 5, 6, 7, 8, 9, 10, 11, 12, 13, 14, 15, 16] [0, 33, 34, 35, 36, 37, 38, 39, 40, 41] rfl rfl (by decide) (by decide) hk1 hFc hP1 hD1
  have hP := hP.sub (ws' := (wX8 cI cZ cS f g a (sr (sr (sr (sr (sr (sr (sr (sr (sr (sr (sr (sr (sr (sr (sr M 17 (r22 0)) 18 (r22 1)) 19 (r22 2)) 20 (r22 3)) 21 (r22 4)) 22 (r22 5)) 23 (r22 6)) 24 (r22 7)) 25 (r22 8)) 27 (r22 10)) 28 (r22 11)) 29 (r22 12)) 30 (r22 13)) 31 (r22 14)) 32 (r22 15)))) [0, 26, 27, 28, 29, 30, 31, 32, 33, 34, 35, 36, 37, 38, 39, 40, 41, 10, 11, 12, 13, 14, 15, 16, 17, 18, 19, 20, 21, 22, 23, 24, 25, 1, 2, 3, 4, 5, 6, 7, 8, 9] rfl
  have hD := hD.sub (ws' := (wX8 cI cZ cS f g a (sr (sr (sr (sr (sr (sr (sr (sr (sr (sr (sr (sr (sr (sr (sr M 17 (r22 0)) 18 (r22 1)) 19 (r22 2)) 20 (r22 3)) 21 (r22 4)) 22 (r22 5)) 23 (r22 6)) 24 (r22 7)) 25 (r22 8)) 27 (r22 10)) 28 (r22 11)) 29 (r22 12)) 30 (r22 13)) 31 (r22 14)) 32 (r22 15)))) [0, 26, 27, 28, 29, 30, 31, 32, 33, 34, 35, 36, 37, 38, 39, 40, 41, 10, 11, 12, 13, 14, 15, 16, 17, 18, 19, 20, 21, 22, 23, 24, 25, 1, 2, 3, 4, 5, 6, 7, 8, 9] (by decide) rfl
  generalize H1 = H at hP hS ⊢
  refine lv_aload_n hx hb dX8_ticksByServing_25 rfl (lv_at hl 0 rfl) ?_
  refine va_get (D := (dC, dI)) (ci := 8) (v := .ref (a 17)) (C := RX8) (T := TX8) (N := 6) hx hb hts hinX8 hown hK hP 0 rfl rfl 1 (by decide) hw1 (fun _ h9 => h9) rfl dX8_ticksByServing_26 ?_
  refine lv_iload_n hx hb dX8_ticksByServing_29 rfl (lv_at hl 1 rfl) ?_
  obtain ⟨r30, hc30, hf⟩ := bi_s hf
  have hPc := hP.sub (ws' := (wX6 cI cZ (ofs 17 a) (ofs 17 (sr (sr (sr (sr (sr (sr (sr (sr (sr (sr (sr (sr (sr (sr (sr M 17 (r22 0)) 18 (r22 1)) 19 (r22 2)) 20 (r22 3)) 21 (r22 4)) 22 (r22 5)) 23 (r22 6)) 24 (r22 7)) 25 (r22 8)) 27 (r22 10)) 28 (r22 11)) 29 (r22 12)) 30 (r22 13)) 31 (r22 14)) 32 (r22 15))))) [17, 18, 19, 20, 21, 22, 23, 24, 25, 26, 27, 28, 29, 30, 31, 32] rfl
  have hDc := hD.sub (ws' := (wX6 cI cZ (ofs 17 a) (ofs 17 (sr (sr (sr (sr (sr (sr (sr (sr (sr (sr (sr (sr (sr (sr (sr M 17 (r22 0)) 18 (r22 1)) 19 (r22 2)) 20 (r22 3)) 21 (r22 4)) 22 (r22 5)) 23 (r22 6)) 24 (r22 7)) 25 (r22 8)) 27 (r22 10)) 28 (r22 11)) 29 (r22 12)) 30 (r22 13)) 31 (r22 14)) 32 (r22 15))))) [17, 18, 19, 20, 21, 22, 23, 24, 25, 26, 27, 28, 29, 30, 31, 32] (by decide) rfl
  have hFc := va_free (wc := (wX6 cI cZ (ofs 17 a) (ofs 17 (sr (sr (sr (sr (sr (sr (sr (sr (sr (sr (sr (sr (sr (sr (sr M 17 (r22 0)) 18 (r22 1)) 19 (r22 2)) 20 (r22 3)) 21 (r22 4)) 22 (r22 5)) 23 (r22 6)) 24 (r22 7)) 25 (r22 8)) 27 (r22 10)) 28 (r22 11)) 29 (r22 12)) 30 (r22 13)) 31 (r22 14)) 32 (r22 15))))) hD hS hA [17, 18, 19, 20, 21, 22, 23, 24, 25, 26, 27, 28, 29, 30, 31, 32] rfl
  refine va_calli (va_runVN (As := [.int a1]) (rest := []) ⟨hx, hb, hml, hown, hts⟩ (c_X6_serveOne l dC dI cI cZ (ofs 17 a) H.size (ofs 17 (sr (sr (sr (sr (sr (sr (sr (sr (sr (sr (sr (sr (sr (sr (sr M 17 (r22 0)) 18 (r22 1)) 19 (r22 2)) 20 (r22 3)) 21 (r22 4)) 22 (r22 5)) 23 (r22 6)) 24 (r22 7)) 25 (r22 8)) 27 (r22 10)) 28 (r22 11)) 29 (r22 12)) 30 (r22 13)) 31 (r22 14)) 32 (r22 15))) a1 r30 hc30) ⟨va_cnB 1 hts gX8_ticksByServing_X6_serveOne_n213 rfl rfl rfl (nw56 hNW) hw3 (by decide +kernel) ⟨Nat.le_of_ble_eq_true rfl, Nat.le_of_ble_eq_true rfl⟩, hw6, hw7⟩ ⟨WR.blind, va_recv hK hP (ci := 6) (q0 := 17) rfl rfl, WR.pre hPc hK2 hDc hNW⟩ rfl rfl hl.1 rfl (lv_room (Nat.le_of_ble_eq_true rfl)) dX8_ticksByServing_30 ⟨Nat.le_of_ble_eq_true rfl, Nat.le_of_ble_eq_true rfl⟩) hS (fun q _ h => hFc q h) hFc (fun rv u t H1 locs ht hvm hw hB hz1 hk1 hS => ?_)
  obtain ⟨hP1, hD1⟩ := hB
  rw [ht] at hP1
  subst hw
  obtain ⟨hP, hD⟩ := va_join (wr := [(a 0, .inr (8, [.ref (a 1), .ref (a 17), .ref (a 33), .ref (a 36), .ref (a 40), .ref (a 41)])), (a 1, .inr (6, [.ref (a 2), .ref (a 7), .ref (a 10), .ref (a 15), .int (M 1 4)])), (a 2, .inr (7, [.int (M 2 0), .int (M 2 1), .ref (a 3), .ref (a 4), .ref (a 5), .ref (a 6)])), (a 3, .inl (cI, 12, .inl (M 3))), (a 4, .inl (cI, 12, .inl (M 4))), (a 5, .inl (cI, 12, .inl (M 5))), (a 6, .inl (cI, 120, .inl (M 6))), (a 7, .inr (2, [.int (M 7 0), .int (M 7 1), .int (M 7 2), .int (M 7 3), .int (M 7 4), .ref (a 8), .ref (a 9)])), (a 8, .inl (cI, 8, .inl (M 8))), (a 9, .inl (cZ, 8, .inl (M 9))), (a 10, .inr (0, [.ref (a 11), .ref (a 12), .ref (a 13), .ref (a 14)])), (a 11, .inl (cI, 10, .inl (M 11))), (a 12, .inl (cI, 10, .inl (M 12))), (a 13, .inl (cI, 10, .inl (M 13))), (a 14, .inl (cI, 10, .inl (M 14))), (a 15, .inr (3, [.int (M 15 0), .ref (a 16)])), (a 16, .inl (cI, 80, .inl (M 16))), (a 33, .inr (1, [.int (M 33 0), .ref (a 34), .ref (a 35)])), (a 34, .inl (cS, 6, .inr (.inr (.inr (.inr f))))), (a 35, .inl (cS, 2, .inr (.inr (.inr (.inr g))))), (a 36, .inr (5, [.int (M 36 0), .ref (a 37), .ref (a 38)])), (a 37, .inl (cI, 60, .inl (M 37))), (a 38, .inr (4, [.int (M 38 0), .int (M 38 1), .ref (a 39)])), (a 39, .inl (cI, 10, .inl (M 39))), (a 40, .inl (cI, 12, .inl (M 40))), (a 41, .inl (cI, 10, .inl (M 41)))]) (w1 := (wX6 cI cZ (ofs 17 a) (sr (sr (sr (sr (sr (sr (sr (sr (sr (sr (sr (ofs 17 (sr (sr (sr (sr (sr (sr (sr (sr (sr (sr (sr (sr (sr (sr (sr M 17 (r22 0)) 18 (r22 1)) 19 (r22 2)) 20 (r22 3)) 21 (r22 4)) 22 (r22 5)) 23 (r22 6)) 24 (r22 7)) 25 (r22 8)) 27 (r22 10)) 28 (r22 11)) 29 (r22 12)) 30 (r22 13)) 31 (r22 14)) 32 (r22 15))) 0 (r30.2 0)) 1 (r30.2 1)) 3 (r30.2 3)) 4 (r30.2 4)) 5 (r30.2 5)) 6 (r30.2 6)) 7 (r30.2 7)) 8 (r30.2 8)) 13 (r30.2 13)) 14 (r30.2 14)) 15 (r30.2 15)))) hP hD [17, 18, 19, 20, 21, 22, 23, 24, 25, 26, 27, 28, 29, 30, 31, 32] [0, 1, 2, 3, 4, 5, 6, 7, 8, 9, 10, 11, 12, 13, 14, 15, 16, 33, 34, 35, 36, 37, 38, 39, 40, 41] rfl rfl (by decide) (by decide) hk1 hFc hP1 hD1
  have hP := hP.sub (ws' := (wX8 cI cZ cS f g a (sr (sr (sr (sr (sr (sr (sr (sr (sr (sr (sr (sr (sr (sr (sr M 17 (r30.2 0)) 18 (r30.2 1)) 19 (r22 2)) 20 (r30.2 3)) 21 (r30.2 4)) 22 (r30.2 5)) 23 (r30.2 6)) 24 (r30.2 7)) 25 (r30.2 8)) 27 (r22 10)) 28 (r22 11)) 29 (r22 12)) 30 (r30.2 13)) 31 (r30.2 14)) 32 (r30.2 15)))) [0, 1, 2, 3, 4, 5, 6, 7, 8, 9, 10, 11, 12, 13, 14, 15, 16, 26, 27, 28, 29, 30, 31, 32, 33, 34, 35, 36, 37, 38, 39, 40, 41, 17, 18, 19, 20, 21, 22, 23, 24, 25] rfl
  have hD := hD.sub (ws' := (wX8 cI cZ cS f g a (sr (sr (sr (sr (sr (sr (sr (sr (sr (sr (sr (sr (sr (sr (sr M 17 (r30.2 0)) 18 (r30.2 1)) 19 (r22 2)) 20 (r30.2 3)) 21 (r30.2 4)) 22 (r30.2 5)) 23 (r30.2 6)) 24 (r30.2 7)) 25 (r30.2 8)) 27 (r22 10)) 28 (r22 11)) 29 (r22 12)) 30 (r30.2 13)) 31 (r30.2 14)) 32 (r30.2 15)))) [0, 1, 2, 3, 4, 5, 6, 7, 8, 9, 10, 11, 12, 13, 14, 15, 16, 26, 27, 28, 29, 30, 31, 32, 33, 34, 35, 36, 37, 38, 39, 40, 41, 17, 18, 19, 20, 21, 22, 23, 24, 25] (by decide) rfl
  generalize H1 = H at hP hS ⊢
  have e9 := so_e hf
  cases e9
set_option maxHeartbeats 4000000 in
set_option maxRecDepth 100000 in
theorem n_X8_ticksBySums (l : Launch) (dC : Nat → ClassId) (dI : Nat → Nat → Nat) (cI cZ cS : ClassId) (f g : Nat → Option Nat) (a : Nat → Nat) (M : Mem) (a1 : Int32) (z1 : Int32) (hf : fX8_ticksBySums M a1 = some (Sum.inr z1)) : Met l yX8_ticksBySums wsX8_ticksBySums ({ frames := 4, cells := 0, slots := 0, locals := 89 } : Room) (va_Pc [.ref (a 0), .int a1] (RO8 (dC, dI) cI cZ cS (wX8 cI cZ cS f g a M))) (k2_QcV (.int z1)) 0 0 (fun _ => False) := by
  refine Met.ofW (cc := cX8_ticksBySums) (maxL := 2) (ret := (some .int)) (by decide) rfl ?_
  intro p e s m args below meth c s₁ B hml hv
  obtain ⟨rfl, hP, hK, hNW⟩ := hv
  have hx := B.exec
  have hb := B.bytes
  have hr := B.returns
  have hts := atoms_spec (ws := wsX8_ticksBySums) B.pre
  have hown : s.vm.findClass RX8 = some m.cls := findClass_of_methodNamed B.named
  have hlocks := B.notSynchronized
  have hK2 : va_K (dC, dI) vwCl [(cI, .int), (cZ, .boolean)] s := hK.sub (tys' := [(cI, .int), (cZ, .boolean)]) [0, 1] rfl
  have hinX8 : ∀ w ∈ u_ws RX8 TX8 6, w ∈ wsX8_ticksBySums := by decide +kernel
  have hw1 := hts (.fieldLink RX8 12 "GlideShelves" "now" "LGlideShelves$State;") (by decide +kernel)
  have hinX6 : ∀ w ∈ u_ws RX6 TX6 5, w ∈ wsX8_ticksBySums := by decide +kernel
  have hinX2 : ∀ w ∈ u_ws RX2 TX2 7, w ∈ wsX8_ticksBySums := by decide +kernel
  have hw4 := hts (.initialized RX6) (by decide +kernel)
  have hw5 := hts (.instanceMethod yX6_choice) (by decide +kernel)
  have hw6 := hts (.selects RX6 yX6_choice yX6_choice) (by decide +kernel)
  have hw7 := hts (.instanceMethod yX6_sumTicks) (by decide +kernel)
  have hw8 := hts (.selects RX6 yX6_sumTicks yX6_sumTicks) (by decide +kernel)
  have hl := lv_entry ([.ref (a 0), .int a1]) (n := 2) (Nat.le_of_ble_eq_true rfl)
  rw [lg_entry_eq]
  generalize (lg_sl ([.ref (a 0), .int a1]) ++ List.replicate (2 - (lg_sl ([.ref (a 0), .int a1])).length) Slot.unset).toArray = ls at hl ⊢
  have hl : lv_has ls 2 [(0, .ref (a 0)), (1, .int a1)] := hl
  unfold fX8_ticksBySums at hf
  refine lv_aload_n hx hb dX8_ticksBySums_0 rfl (lv_at hl 0 rfl) ?_
  refine lv_iload_n hx hb dX8_ticksBySums_1 rfl (lv_at hl 1 rfl) ?_
  obtain ⟨r2, hc2, hf⟩ := bi_s hf
  rcases r2 with E9 | r2
  · have e9 := so_e hf
    cases e9
  have hf := sel_r hf
  refine cROv (W.runV (As := [.int a1]) (rest := []) ⟨hx, hb, hml, hown, hts⟩ (n_X8_requireOrder l dC dI cI cZ cS f g a M a1  hc2) (cwV 1 hts gX8_ticksBySums_X8_requireOrder rfl rfl rfl (by decide +kernel) ⟨Nat.le_of_ble_eq_true rfl, Nat.le_of_ble_eq_true rfl⟩) ⟨RO8.blind, va_recv hK hP (ci := 8) (q0 := 0) rfl rfl, RO8.pre hP hK hNW⟩ rfl rfl hl.1 rfl (lv_room (Nat.le_of_ble_eq_true rfl)) dX8_ticksBySums_2 ⟨Nat.le_of_ble_eq_true rfl, Nat.le_of_ble_eq_true rfl⟩) ?_
  refine lv_aload_n hx hb dX8_ticksBySums_5 rfl (lv_at hl 0 rfl) ?_
  obtain ⟨r6, hc6, hf⟩ := bi_s hf
  rcases r6 with E9 | r6
  · have e9 := so_e hf
    cases e9
  have hf := sel_r hf
  refine cROv (W.runV (As := []) (rest := []) ⟨hx, hb, hml, hown, hts⟩ (n_X8_requireEmptyWindow l dC dI cI cZ cS f g a M  hc6) (cwV 0 hts gX8_ticksBySums_X8_requireEmptyWindow rfl rfl rfl (by decide +kernel) ⟨Nat.le_of_ble_eq_true rfl, Nat.le_of_ble_eq_true rfl⟩) ⟨RO8.blind, va_recv hK hP (ci := 8) (q0 := 0) rfl rfl, RO8.pre hP hK hNW⟩ rfl rfl hl.1 rfl (lv_room (Nat.le_of_ble_eq_true rfl)) dX8_ticksBySums_6 ⟨Nat.le_of_ble_eq_true rfl, Nat.le_of_ble_eq_true rfl⟩) ?_
  refine lv_aload_n hx hb dX8_ticksBySums_9 rfl (lv_at hl 0 rfl) ?_
  refine lv_iload_n hx hb dX8_ticksBySums_10 rfl (lv_at hl 1 rfl) ?_
  obtain ⟨r11, hc11, hf⟩ := bi_s hf
  rcases r11 with E9 | r11
  · have e9 := so_e hf
    cases e9
  have hf := sel_r hf
  refine cROv (W.runV (As := [.int a1]) (rest := []) ⟨hx, hb, hml, hown, hts⟩ (n_X8_requireServable l dC dI cI cZ cS f g a M a1  hc11) (cwV 1 hts gX8_ticksBySums_X8_requireServable rfl rfl rfl (by decide +kernel) ⟨Nat.le_of_ble_eq_true rfl, Nat.le_of_ble_eq_true rfl⟩) ⟨RO8.blind, va_recv hK hP (ci := 8) (q0 := 0) rfl rfl, RO8.pre hP hK hNW⟩ rfl rfl hl.1 rfl (lv_room (Nat.le_of_ble_eq_true rfl)) dX8_ticksBySums_11 ⟨Nat.le_of_ble_eq_true rfl, Nat.le_of_ble_eq_true rfl⟩) ?_
  refine lv_aload_n hx hb dX8_ticksBySums_14 rfl (lv_at hl 0 rfl) ?_
  refine va_get (D := (dC, dI)) (ci := 8) (v := .ref (a 1)) (C := RX8) (T := TX8) (N := 6) hx hb hts hinX8 hown hK hP 0 rfl rfl 0 (by decide) hw1 (fun _ h9 => h9) rfl dX8_ticksBySums_15 ?_
  refine va_getN (D := (dC, dI)) (ci := 6) (v := .ref (a 7)) (C := RX6) (T := TX6) (N := 5) hx hb hts hinX6 hown hK hP 1 rfl rfl 1 (by decide) (nw10 hNW) (fun _ h9 => h9) rfl dX8_ticksBySums_18 ?_
  refine va_getN (D := (dC, dI)) (ci := 2) (v := .int (M 7 1)) (C := RX2) (T := TX2) (N := 7) hx hb hts hinX2 hown hK hP 7 rfl rfl 1 (by decide) (nw11 hNW) (fun _ h9 => h9) rfl dX8_ticksBySums_21 ?_
  refine lv_if_ne (tgt := 38) hx hb dX8_ticksBySums_24 (by decide) (fun c9 => ?_) (fun c9 => ?_)
  · have hf := it_t hf c9
    refine lv_aload_n hx hb dX8_ticksBySums_38 rfl (lv_at hl 0 rfl) ?_
    refine va_get (D := (dC, dI)) (ci := 8) (v := .ref (a 1)) (C := RX8) (T := TX8) (N := 6) hx hb hts hinX8 hown hK hP 0 rfl rfl 0 (by decide) hw1 (fun _ h9 => h9) rfl dX8_ticksBySums_39 ?_
    refine lv_aload_n hx hb dX8_ticksBySums_42 rfl (lv_at hl 0 rfl) ?_
    refine va_get (D := (dC, dI)) (ci := 8) (v := .ref (a 1)) (C := RX8) (T := TX8) (N := 6) hx hb hts hinX8 hown hK hP 0 rfl rfl 0 (by decide) hw1 (fun _ h9 => h9) rfl dX8_ticksBySums_43 ?_
    refine lv_iload_n hx hb dX8_ticksBySums_46 rfl (lv_at hl 1 rfl) ?_
    obtain ⟨r47, hc47, hf⟩ := bi_s hf
    have hPc := hP.sub (ws' := (wX6 cI cZ (ofs 1 a) (ofs 1 M))) [1, 2, 3, 4, 5, 6, 7, 8, 9, 10, 11, 12, 13, 14, 15, 16] rfl
    refine cRO (va_Run.run (va_runVN (As := [.int a1]) (rest := [.ref (a 1)]) ⟨hx, hb, hml, hown, hts⟩ (c_X6_choice l dC dI cI cZ (ofs 1 a) (ofs 1 M) a1 r47 hc47) ⟨va_cnB 1 hts gX8_ticksBySums_X6_choice_n332 rfl rfl rfl (nw74 hNW) hw4 (by decide +kernel) ⟨Nat.le_of_ble_eq_true rfl, Nat.le_of_ble_eq_true rfl⟩, hw5, hw6⟩ ⟨RO.blind, va_recv hK hP (ci := 6) (q0 := 1) rfl rfl, RO.pre hPc hK2 hNW⟩ rfl rfl hl.1 rfl (lv_room (Nat.le_of_ble_eq_true rfl)) dX8_ticksBySums_47 ⟨Nat.le_of_ble_eq_true rfl, Nat.le_of_ble_eq_true rfl⟩)) ?_
    obtain ⟨r50, hc50, hf⟩ := bi_s hf
    have hPc := hP.sub (ws' := (wX6 cI cZ (ofs 1 a) (ofs 1 M))) [1, 2, 3, 4, 5, 6, 7, 8, 9, 10, 11, 12, 13, 14, 15, 16] rfl
    refine cRO (va_Run.run (va_runVN (As := [.int r47]) (rest := []) ⟨hx, hb, hml, hown, hts⟩ (c_X6_sumTicks l dC dI cI cZ (ofs 1 a) (ofs 1 M) r47 r50 hc50) ⟨va_cnB 1 hts gX8_ticksBySums_X6_sumTicks_n345 rfl rfl rfl (nw75 hNW) hw4 (by decide +kernel) ⟨Nat.le_of_ble_eq_true rfl, Nat.le_of_ble_eq_true rfl⟩, hw7, hw8⟩ ⟨RO.blind, va_recv hK hP (ci := 6) (q0 := 1) rfl rfl, RO.pre hPc hK2 hNW⟩ rfl rfl hl.1 rfl (lv_room (Nat.le_of_ble_eq_true rfl)) dX8_ticksBySums_50 ⟨Nat.le_of_ble_eq_true rfl, Nat.le_of_ble_eq_true rfl⟩)) ?_
    have e9 := so_e hf
    cases e9
    exact W.iret hx hb hr (fun t ht hW => ⟨rfl, ht⟩) fl0 dX8_ticksBySums_53
  · have hf := it_n hf c9
    have e9 := so_e hf
    cases e9
set_option maxHeartbeats 4000000 in
set_option maxRecDepth 100000 in
theorem t_X8_ticksBySums (l : Launch) (hst : l.stackTraces = false) (dC : Nat → ClassId) (dI : Nat → Nat → Nat) (cI cZ cS : ClassId) (f g : Nat → Option Nat) (a : Nat → Nat) (sz : Nat) (M : Mem) (a1 : Int32) (E : String) (hf : fX8_ticksBySums M a1 = some (Sum.inl E)) : vx_Met l yX8_ticksBySums wsX8_ticksBySums ({ frames := 7, cells := 1, slots := 6, locals := 131 } : Room) (va_Pc [.ref (a 0), .int a1] (T8 (dC, dI) cI cZ cS (wX8 cI cZ cS f g a M) sz)) (fun _ _ _ _ => False) (vx_X (S := Unit) (fun _ => True) (fun E' _ t => E' = E ∧ WE (dC, dI) cI cZ (wX8 cI cZ cS f g a M) (va_A (wX8 cI cZ cS f g a M) sz) t) (va_A (wX8 cI cZ cS f g a M) sz)) 1 6 (va_A (wX8 cI cZ cS f g a M) sz) := by
  refine vx_ofW (cc := cX8_ticksBySums) (maxL := 2) (ret := (some .int)) (by decide) rfl ?_
  intro p e s m args below meth c s₁ B hml htab hv
  obtain ⟨rfl, hsz, hP, hK, hD0, hNW, hEX⟩ := hv
  have hx := B.exec
  have hb := B.bytes
  have hr := B.returns
  have hts := atoms_spec (ws := wsX8_ticksBySums) B.pre
  have hown : s.vm.findClass RX8 = some m.cls := findClass_of_methodNamed B.named
  have hlocks := B.notSynchronized
  have hK2 : va_K (dC, dI) vwCl [(cI, .int), (cZ, .boolean)] s := hK.sub (tys' := [(cI, .int), (cZ, .boolean)]) [0, 1] rfl
  have hinX8 : ∀ w ∈ u_ws RX8 TX8 6, w ∈ wsX8_ticksBySums := by decide +kernel
  have hw1 := hts (.fieldLink RX8 12 "GlideShelves" "now" "LGlideShelves$State;") (by decide +kernel)
  have hinX6 : ∀ w ∈ u_ws RX6 TX6 5, w ∈ wsX8_ticksBySums := by decide +kernel
  have hinX2 : ∀ w ∈ u_ws RX2 TX2 7, w ∈ wsX8_ticksBySums := by decide +kernel
  have hw4 := hts (.initialized RX6) (by decide +kernel)
  have hw5 := hts (.instanceMethod yX6_choice) (by decide +kernel)
  have hw6 := hts (.selects RX6 yX6_choice yX6_choice) (by decide +kernel)
  have hw7 := hts (.instanceMethod yX6_sumTicks) (by decide +kernel)
  have hw8 := hts (.selects RX6 yX6_sumTicks yX6_sumTicks) (by decide +kernel)
  have hw9 := hts (.classLink RX8 54 "java/lang/IllegalStateException") (by decide +kernel)
  have hw10 := hts (.initialized "java/lang/IllegalStateException") (by decide +kernel)
  have hsuf58 : ∀ w ∈ (vx_atS RX8 58 "java/lang/IllegalStateException" ["java/lang/RuntimeException", "java/lang/Exception"]).filter goodWord, w.before _ s = true := fun w h => hts w (List.mem_cons_of_mem _ (List.mem_append_left _ (List.mem_append_right _ h)))
  subst hsz
  have hD := hD0.self (sz := s.heap.size)
  generalize hAe : va_A (wX8 cI cZ cS f g a M) s.heap.size = A at hD hEX ⊢
  have hA : ∀ q : Nat, s.heap.size ≤ q → A q := fun q h => by rw [← hAe]; exact Or.inr h
  have hS : va_S A s.heap s.heap [] := va_S.rf
  have hl := lv_entry ([.ref (a 0), .int a1]) (n := 2) (Nat.le_of_ble_eq_true rfl)
  rw [lg_entry_eq]
  generalize (lg_sl ([.ref (a 0), .int a1]) ++ List.replicate (2 - (lg_sl ([.ref (a 0), .int a1])).length) Slot.unset).toArray = ls at hl ⊢
  have hl : lv_has ls 2 [(0, .ref (a 0)), (1, .int a1)] := hl
  unfold fX8_ticksBySums at hf
  refine lv_aload_n hx hb dX8_ticksBySums_0 rfl (lv_at hl 0 rfl) ?_
  refine lv_iload_n hx hb dX8_ticksBySums_1 rfl (lv_at hl 1 rfl) ?_
  obtain ⟨r2, hc2, hf⟩ := bi_s hf
  rcases r2 with E9 | r2
  · have e9 := so_e hf
    cases e9
    have hFc := va_free (wc := (wX8 cI cZ cS f g a M)) hD hS hA [0, 1, 2, 3, 4, 5, 6, 7, 8, 9, 10, 11, 12, 13, 14, 15, 16, 17, 18, 19, 20, 21, 22, 23, 24, 25, 26, 27, 28, 29, 30, 31, 32, 33, 34, 35, 36, 37, 38, 39, 40, 41] rfl
    refine vx_thr (vx_runV (As := [.int a1]) (rest := []) ⟨hx, hb, hml, hown, hts⟩ (t_X8_requireOrder l hst dC dI cI cZ cS f g a _ M a1 _ hc2) (cwV 1 hts gX8_ticksBySums_X8_requireOrder rfl rfl rfl (by decide +kernel) ⟨Nat.le_of_ble_eq_true rfl, Nat.le_of_ble_eq_true rfl⟩) ⟨T8.blind, va_recv hK hP (ci := 8) (q0 := 0) rfl rfl, T8.pre hP hK hD hNW (hEX.at hS hFc)⟩ rfl rfl hl.1 rfl (lv_room (Nat.le_of_ble_eq_true rfl)) dX8_ticksBySums_2 ⟨Nat.le_of_ble_eq_true rfl, Nat.le_of_ble_eq_true rfl⟩) hS (fun q _ h => hFc q h) hFc (fun ce q9 t H1 locs1 ht hal hP1 hD1 hz1 hS1 hce hcv hcl => ?_)
    exact vx_out (fun x h => (htab x h).elim) hlocks hce hcv hcl (fun t ht hal => ⟨(), trivial, ⟨rfl, WE.mk hP1 (hD1.weaken (fun k q _ h => hFc q.1 h)) ht⟩, hS1.F ht⟩) hS1.2.2 (Nat.le_of_ble_eq_true rfl) (Nat.le_of_ble_eq_true rfl)
  have hf := sel_r hf
  refine cROv (W.runV (As := [.int a1]) (rest := []) ⟨hx, hb, hml, hown, hts⟩ (n_X8_requireOrder l dC dI cI cZ cS f g a M a1  hc2) (cwV 1 hts gX8_ticksBySums_X8_requireOrder rfl rfl rfl (by decide +kernel) ⟨Nat.le_of_ble_eq_true rfl, Nat.le_of_ble_eq_true rfl⟩) ⟨RO8.blind, va_recv hK hP (ci := 8) (q0 := 0) rfl rfl, RO8.pre hP hK hNW⟩ rfl rfl hl.1 rfl (lv_room (Nat.le_of_ble_eq_true rfl)) dX8_ticksBySums_2 ⟨Nat.le_of_ble_eq_true rfl, Nat.le_of_ble_eq_true rfl⟩) ?_
  refine lv_aload_n hx hb dX8_ticksBySums_5 rfl (lv_at hl 0 rfl) ?_
  obtain ⟨r6, hc6, hf⟩ := bi_s hf
  rcases r6 with E9 | r6
  · have e9 := so_e hf
    cases e9
    have hFc := va_free (wc := (wX8 cI cZ cS f g a M)) hD hS hA [0, 1, 2, 3, 4, 5, 6, 7, 8, 9, 10, 11, 12, 13, 14, 15, 16, 17, 18, 19, 20, 21, 22, 23, 24, 25, 26, 27, 28, 29, 30, 31, 32, 33, 34, 35, 36, 37, 38, 39, 40, 41] rfl
    refine vx_thr (vx_runV (As := []) (rest := []) ⟨hx, hb, hml, hown, hts⟩ (t_X8_requireEmptyWindow l hst dC dI cI cZ cS f g a _ M _ hc6) (cwV 0 hts gX8_ticksBySums_X8_requireEmptyWindow rfl rfl rfl (by decide +kernel) ⟨Nat.le_of_ble_eq_true rfl, Nat.le_of_ble_eq_true rfl⟩) ⟨T8.blind, va_recv hK hP (ci := 8) (q0 := 0) rfl rfl, T8.pre hP hK hD hNW (hEX.at hS hFc)⟩ rfl rfl hl.1 rfl (lv_room (Nat.le_of_ble_eq_true rfl)) dX8_ticksBySums_6 ⟨Nat.le_of_ble_eq_true rfl, Nat.le_of_ble_eq_true rfl⟩) hS (fun q _ h => hFc q h) hFc (fun ce q9 t H1 locs1 ht hal hP1 hD1 hz1 hS1 hce hcv hcl => ?_)
    exact vx_out (fun x h => (htab x h).elim) hlocks hce hcv hcl (fun t ht hal => ⟨(), trivial, ⟨rfl, WE.mk hP1 (hD1.weaken (fun k q _ h => hFc q.1 h)) ht⟩, hS1.F ht⟩) hS1.2.2 (Nat.le_of_ble_eq_true rfl) (Nat.le_of_ble_eq_true rfl)
  have hf := sel_r hf
  refine cROv (W.runV (As := []) (rest := []) ⟨hx, hb, hml, hown, hts⟩ (n_X8_requireEmptyWindow l dC dI cI cZ cS f g a M  hc6) (cwV 0 hts gX8_ticksBySums_X8_requireEmptyWindow rfl rfl rfl (by decide +kernel) ⟨Nat.le_of_ble_eq_true rfl, Nat.le_of_ble_eq_true rfl⟩) ⟨RO8.blind, va_recv hK hP (ci := 8) (q0 := 0) rfl rfl, RO8.pre hP hK hNW⟩ rfl rfl hl.1 rfl (lv_room (Nat.le_of_ble_eq_true rfl)) dX8_ticksBySums_6 ⟨Nat.le_of_ble_eq_true rfl, Nat.le_of_ble_eq_true rfl⟩) ?_
  refine lv_aload_n hx hb dX8_ticksBySums_9 rfl (lv_at hl 0 rfl) ?_
  refine lv_iload_n hx hb dX8_ticksBySums_10 rfl (lv_at hl 1 rfl) ?_
  obtain ⟨r11, hc11, hf⟩ := bi_s hf
  rcases r11 with E9 | r11
  · have e9 := so_e hf
    cases e9
    have hFc := va_free (wc := (wX8 cI cZ cS f g a M)) hD hS hA [0, 1, 2, 3, 4, 5, 6, 7, 8, 9, 10, 11, 12, 13, 14, 15, 16, 17, 18, 19, 20, 21, 22, 23, 24, 25, 26, 27, 28, 29, 30, 31, 32, 33, 34, 35, 36, 37, 38, 39, 40, 41] rfl
    refine vx_thr (vx_runV (As := [.int a1]) (rest := []) ⟨hx, hb, hml, hown, hts⟩ (t_X8_requireServable l hst dC dI cI cZ cS f g a _ M a1 _ hc11) (cwV 1 hts gX8_ticksBySums_X8_requireServable rfl rfl rfl (by decide +kernel) ⟨Nat.le_of_ble_eq_true rfl, Nat.le_of_ble_eq_true rfl⟩) ⟨T8.blind, va_recv hK hP (ci := 8) (q0 := 0) rfl rfl, T8.pre hP hK hD hNW (hEX.at hS hFc)⟩ rfl rfl hl.1 rfl (lv_room (Nat.le_of_ble_eq_true rfl)) dX8_ticksBySums_11 ⟨Nat.le_of_ble_eq_true rfl, Nat.le_of_ble_eq_true rfl⟩) hS (fun q _ h => hFc q h) hFc (fun ce q9 t H1 locs1 ht hal hP1 hD1 hz1 hS1 hce hcv hcl => ?_)
    exact vx_out (fun x h => (htab x h).elim) hlocks hce hcv hcl (fun t ht hal => ⟨(), trivial, ⟨rfl, WE.mk hP1 (hD1.weaken (fun k q _ h => hFc q.1 h)) ht⟩, hS1.F ht⟩) hS1.2.2 (Nat.le_of_ble_eq_true rfl) (Nat.le_of_ble_eq_true rfl)
  have hf := sel_r hf
  refine cROv (W.runV (As := [.int a1]) (rest := []) ⟨hx, hb, hml, hown, hts⟩ (n_X8_requireServable l dC dI cI cZ cS f g a M a1  hc11) (cwV 1 hts gX8_ticksBySums_X8_requireServable rfl rfl rfl (by decide +kernel) ⟨Nat.le_of_ble_eq_true rfl, Nat.le_of_ble_eq_true rfl⟩) ⟨RO8.blind, va_recv hK hP (ci := 8) (q0 := 0) rfl rfl, RO8.pre hP hK hNW⟩ rfl rfl hl.1 rfl (lv_room (Nat.le_of_ble_eq_true rfl)) dX8_ticksBySums_11 ⟨Nat.le_of_ble_eq_true rfl, Nat.le_of_ble_eq_true rfl⟩) ?_
  refine lv_aload_n hx hb dX8_ticksBySums_14 rfl (lv_at hl 0 rfl) ?_
  refine va_get (D := (dC, dI)) (ci := 8) (v := .ref (a 1)) (C := RX8) (T := TX8) (N := 6) hx hb hts hinX8 hown hK hP 0 rfl rfl 0 (by decide) hw1 (fun _ h9 => h9) rfl dX8_ticksBySums_15 ?_
  refine va_getN (D := (dC, dI)) (ci := 6) (v := .ref (a 7)) (C := RX6) (T := TX6) (N := 5) hx hb hts hinX6 hown hK hP 1 rfl rfl 1 (by decide) (nw10 hNW) (fun _ h9 => h9) rfl dX8_ticksBySums_18 ?_
  refine va_getN (D := (dC, dI)) (ci := 2) (v := .int (M 7 1)) (C := RX2) (T := TX2) (N := 7) hx hb hts hinX2 hown hK hP 7 rfl rfl 1 (by decide) (nw11 hNW) (fun _ h9 => h9) rfl dX8_ticksBySums_21 ?_
  refine lv_if_ne (tgt := 38) hx hb dX8_ticksBySums_24 (by decide) (fun c9 => ?_) (fun c9 => ?_)
  · have hf := it_t hf c9
    refine lv_aload_n hx hb dX8_ticksBySums_38 rfl (lv_at hl 0 rfl) ?_
    refine va_get (D := (dC, dI)) (ci := 8) (v := .ref (a 1)) (C := RX8) (T := TX8) (N := 6) hx hb hts hinX8 hown hK hP 0 rfl rfl 0 (by decide) hw1 (fun _ h9 => h9) rfl dX8_ticksBySums_39 ?_
    refine lv_aload_n hx hb dX8_ticksBySums_42 rfl (lv_at hl 0 rfl) ?_
    refine va_get (D := (dC, dI)) (ci := 8) (v := .ref (a 1)) (C := RX8) (T := TX8) (N := 6) hx hb hts hinX8 hown hK hP 0 rfl rfl 0 (by decide) hw1 (fun _ h9 => h9) rfl dX8_ticksBySums_43 ?_
    refine lv_iload_n hx hb dX8_ticksBySums_46 rfl (lv_at hl 1 rfl) ?_
    obtain ⟨r47, hc47, hf⟩ := bi_s hf
    have hPc := hP.sub (ws' := (wX6 cI cZ (ofs 1 a) (ofs 1 M))) [1, 2, 3, 4, 5, 6, 7, 8, 9, 10, 11, 12, 13, 14, 15, 16] rfl
    refine cRO (va_Run.run (va_runVN (As := [.int a1]) (rest := [.ref (a 1)]) ⟨hx, hb, hml, hown, hts⟩ (c_X6_choice l dC dI cI cZ (ofs 1 a) (ofs 1 M) a1 r47 hc47) ⟨va_cnB 1 hts gX8_ticksBySums_X6_choice_n332 rfl rfl rfl (nw74 hNW) hw4 (by decide +kernel) ⟨Nat.le_of_ble_eq_true rfl, Nat.le_of_ble_eq_true rfl⟩, hw5, hw6⟩ ⟨RO.blind, va_recv hK hP (ci := 6) (q0 := 1) rfl rfl, RO.pre hPc hK2 hNW⟩ rfl rfl hl.1 rfl (lv_room (Nat.le_of_ble_eq_true rfl)) dX8_ticksBySums_47 ⟨Nat.le_of_ble_eq_true rfl, Nat.le_of_ble_eq_true rfl⟩)) ?_
    obtain ⟨r50, hc50, hf⟩ := bi_s hf
    have hPc := hP.sub (ws' := (wX6 cI cZ (ofs 1 a) (ofs 1 M))) [1, 2, 3, 4, 5, 6, 7, 8, 9, 10, 11, 12, 13, 14, 15, 16] rfl
    refine cRO (va_Run.run (va_runVN (As := [.int r47]) (rest := []) ⟨hx, hb, hml, hown, hts⟩ (c_X6_sumTicks l dC dI cI cZ (ofs 1 a) (ofs 1 M) r47 r50 hc50) ⟨va_cnB 1 hts gX8_ticksBySums_X6_sumTicks_n345 rfl rfl rfl (nw75 hNW) hw4 (by decide +kernel) ⟨Nat.le_of_ble_eq_true rfl, Nat.le_of_ble_eq_true rfl⟩, hw7, hw8⟩ ⟨RO.blind, va_recv hK hP (ci := 6) (q0 := 1) rfl rfl, RO.pre hPc hK2 hNW⟩ rfl rfl hl.1 rfl (lv_room (Nat.le_of_ble_eq_true rfl)) dX8_ticksBySums_50 ⟨Nat.le_of_ble_eq_true rfl, Nat.le_of_ble_eq_true rfl⟩)) ?_
    have e9 := so_e hf
    cases e9
  · have hf := it_n hf c9
    have e9 := so_e hf
    cases e9
    obtain ⟨sa, hsa⟩ := hEX.2.2 (RX8, 343, "shelves are stowed at the first place that fits") (List.mem_of_getElem? (i := 17) rfl)
    exact vx_throwSW (cls := "java/lang/IllegalStateException") (text := "shelves are stowed at the first place that fits") (names := ["java/lang/RuntimeException", "java/lang/Exception"]) (ik := 54) (is := 343) (ic := 58) (sa := sa) hx hb hst hown (by decide +kernel) (by decide +kernel) hw9 hw10 hsa (hat_58 hsuf58 hNW) (by decide +kernel) hEX.1 hEX.2.1 hS (hl.1.trans hml.symm) dX8_ticksBySums_27 dX8_ticksBySums_30 dX8_ticksBySums_31 dX8_ticksBySums_34 dX8_ticksBySums_37 (fun x h => (htab x h).elim) (by decide) (by decide) (Nat.le_of_ble_eq_true rfl) (Nat.le_of_ble_eq_true rfl) hlocks (fun t hal hz hk => ⟨(), trivial, ⟨rfl, WE.th hP hD hz hk⟩, S_ext hS hz hk⟩) hS.2.2 (Nat.le_of_ble_eq_true rfl) (Nat.le_of_ble_eq_true rfl)
set_option maxHeartbeats 4000000 in
set_option maxRecDepth 100000 in
theorem c_X8_findCheapest (l : Launch) (dC : Nat → ClassId) (dI : Nat → Nat → Nat) (cI cZ cS : ClassId) (f g : Nat → Option Nat) (a : Nat → Nat) (sz : Nat) (M : Mem) (z : Int32 × Mem) (hf : fX8_findCheapest M  = some z) : Met l yX8_findCheapest wsX8_findCheapest ({ frames := 5, cells := 0, slots := 0, locals := 133 } : Room) (va_Pc [.ref (a 0)] (WR8 (dC, dI) cI cZ cS (wX8 cI cZ cS f g a M) sz)) (va_Qi (S := Unit) (fun r _ => r = z.1) (fun _ t => WE (dC, dI) cI cZ (wX8 cI cZ cS f g a (sr (sr (sr (sr (sr (sr (sr (sr (sr (sr (sr (sr (sr (sr (sr M 17 (z.2 17)) 18 (z.2 18)) 19 (z.2 19)) 20 (z.2 20)) 21 (z.2 21)) 22 (z.2 22)) 23 (z.2 23)) 24 (z.2 24)) 25 (z.2 25)) 27 (z.2 27)) 28 (z.2 28)) 29 (z.2 29)) 30 (z.2 30)) 31 (z.2 31)) 32 (z.2 32))) (va_A (wX8 cI cZ cS f g a M) sz) t) (va_A (wX8 cI cZ cS f g a M) sz)) 0 0 (va_A (wX8 cI cZ cS f g a M) sz) := by
  refine Met.ofW (cc := cX8_findCheapest) (maxL := 5) (ret := (some .int)) (by decide) rfl ?_
  intro p e s m args below meth c s₁ B hml hv
  obtain ⟨rfl, hsz, hP, hK, hD0, hNW⟩ := hv
  have hK2 : va_K (dC, dI) vwCl [(cI, .int), (cZ, .boolean)] s := hK.sub (tys' := [(cI, .int), (cZ, .boolean)]) [0, 1] rfl
  have hx := B.exec
  have hb := B.bytes
  have hr := B.returns
  have hts := atoms_spec (ws := wsX8_findCheapest) B.pre
  have hown : s.vm.findClass RX8 = some m.cls := findClass_of_methodNamed B.named
  have hlocks := B.notSynchronized
  have hinX8 : ∀ w ∈ u_ws RX8 TX8 6, w ∈ wsX8_findCheapest := by decide +kernel
  have hw1 := hts (.fieldLink RX8 12 "GlideShelves" "now" "LGlideShelves$State;") (by decide +kernel)
  have hinX6 : ∀ w ∈ u_ws RX6 TX6 5, w ∈ wsX8_findCheapest := by decide +kernel
  have hinX3 : ∀ w ∈ u_ws RX3 TX3 2, w ∈ wsX8_findCheapest := by decide +kernel
  have hw4 := hts (.initialized RX6) (by decide +kernel)
  have hw5 := hts (.instanceMethod yX6_isServable) (by decide +kernel)
  have hw6 := hts (.selects RX6 yX6_isServable yX6_isServable) (by decide +kernel)
  have hw7 := hts (.fieldLink RX8 16 "GlideShelves" "copy" "LGlideShelves$State;") (by decide +kernel)
  have hw8 := hts (.instanceMethod yX6_copyFrom) (by decide +kernel)
  have hw9 := hts (.selects RX6 yX6_copyFrom yX6_copyFrom) (by decide +kernel)
  have hw10 := hts (.instanceMethod yX6_serveOne) (by decide +kernel)
  have hw11 := hts (.selects RX6 yX6_serveOne yX6_serveOne) (by decide +kernel)
  subst hsz
  have hD := hD0.self (sz := s.heap.size)
  generalize hAe : va_A (wX8 cI cZ cS f g a M) s.heap.size = A at hD ⊢
  have hA : ∀ q : Nat, s.heap.size ≤ q → A q := fun q h => by rw [← hAe]; exact Or.inr h
  have hS : va_S A s.heap s.heap [] := va_S.rf
  have hfX8_findCheapest_B68 : ∀ (kb : Mem → Int32 → Int32 → Int32 → Option (Int32 × Mem)) (hkb : ∀ (N : Mem) (l1 : Int32) (l2 : Int32) (l3 : Int32), kb N l1 l2 l3 = some z → ∀ (ls : Array Slot), lv_has ls 5 [(0, .ref (a 0)), (1, .int l1), (2, .int l2), (3, .int l3)] → ∀ (H : Heap) (locs : List Loc), va_P (dC, dI) vwCl (wX8 cI cZ cS f g a (sr (sr (sr (sr (sr (sr (sr (sr (sr (sr (sr (sr (sr (sr (sr M 17 (N 17)) 18 (N 18)) 19 (N 19)) 20 (N 20)) 21 (N 21)) 22 (N 22)) 23 (N 23)) 24 (N 24)) 25 (N 25)) 27 (N 27)) 28 (N 28)) 29 (N 29)) 30 (N 30)) 31 (N 31)) 32 (N 32))) H → va_D A (wX8 cI cZ cS f g a (sr (sr (sr (sr (sr (sr (sr (sr (sr (sr (sr (sr (sr (sr (sr M 17 (N 17)) 18 (N 18)) 19 (N 19)) 20 (N 20)) 21 (N 21)) 22 (N 22)) 23 (N 23)) 24 (N 24)) 25 (N 25)) 27 (N 27)) 28 (N 28)) 29 (N 29)) 30 (N 30)) 31 (N 31)) 32 (N 32))) → va_S A s.heap H locs → W p l e (headSpec wsX8_findCheapest ({ frames := 5, cells := 0, slots := 0, locals := 133 } : Room)).room s m ([.ref (a 0)] : List Value).toArray below meth c H locs 0 0 (MQ below (va_Qi (S := Unit) (fun r _ => r = z.1) (fun _ t => WE (dC, dI) cI cZ (wX8 cI cZ cS f g a (sr (sr (sr (sr (sr (sr (sr (sr (sr (sr (sr (sr (sr (sr (sr M 17 (z.2 17)) 18 (z.2 18)) 19 (z.2 19)) 20 (z.2 20)) 21 (z.2 21)) 22 (z.2 22)) 23 (z.2 23)) 24 (z.2 24)) 25 (z.2 25)) 27 (z.2 27)) 28 (z.2 28)) 29 (z.2 29)) 30 (z.2 30)) 31 (z.2 31)) 32 (z.2 32))) A t) A) ([.ref (a 0)] : List Value).toArray s 0 0 A) (F0 m 6 ls [])) (kx74 : Mem → Int32 → Option (Int32 × Mem)) (hkx74 : ∀ (N : Mem) (l1 : Int32), kx74 N l1 = some z → ∀ (ls : Array Slot), lv_has ls 5 [(1, .int l1)] → ∀ (H : Heap) (locs : List Loc), va_P (dC, dI) vwCl (wX8 cI cZ cS f g a (sr (sr (sr (sr (sr (sr (sr (sr (sr (sr (sr (sr (sr (sr (sr M 17 (N 17)) 18 (N 18)) 19 (N 19)) 20 (N 20)) 21 (N 21)) 22 (N 22)) 23 (N 23)) 24 (N 24)) 25 (N 25)) 27 (N 27)) 28 (N 28)) 29 (N 29)) 30 (N 30)) 31 (N 31)) 32 (N 32))) H → va_D A (wX8 cI cZ cS f g a (sr (sr (sr (sr (sr (sr (sr (sr (sr (sr (sr (sr (sr (sr (sr M 17 (N 17)) 18 (N 18)) 19 (N 19)) 20 (N 20)) 21 (N 21)) 22 (N 22)) 23 (N 23)) 24 (N 24)) 25 (N 25)) 27 (N 27)) 28 (N 28)) 29 (N 29)) 30 (N 30)) 31 (N 31)) 32 (N 32))) → va_S A s.heap H locs → W p l e (headSpec wsX8_findCheapest ({ frames := 5, cells := 0, slots := 0, locals := 133 } : Room)).room s m ([.ref (a 0)] : List Value).toArray below meth c H locs 0 0 (MQ below (va_Qi (S := Unit) (fun r _ => r = z.1) (fun _ t => WE (dC, dI) cI cZ (wX8 cI cZ cS f g a (sr (sr (sr (sr (sr (sr (sr (sr (sr (sr (sr (sr (sr (sr (sr M 17 (z.2 17)) 18 (z.2 18)) 19 (z.2 19)) 20 (z.2 20)) 21 (z.2 21)) 22 (z.2 22)) 23 (z.2 23)) 24 (z.2 24)) 25 (z.2 25)) 27 (z.2 27)) 28 (z.2 28)) 29 (z.2 29)) 30 (z.2 30)) 31 (z.2 31)) 32 (z.2 32))) A t) A) ([.ref (a 0)] : List Value).toArray s 0 0 A) (F0 m 74 ls [])), ∀ (N : Mem) (l1 : Int32) (l2 : Int32) (l3 : Int32), fX8_findCheapest_B68 M kb kx74 N l1 l2 l3 = some z → ∀ (ls : Array Slot), lv_has ls 5 [(0, .ref (a 0)), (1, .int l1), (2, .int l2), (3, .int l3)] → ∀ (H : Heap) (locs : List Loc), va_P (dC, dI) vwCl (wX8 cI cZ cS f g a (sr (sr (sr (sr (sr (sr (sr (sr (sr (sr (sr (sr (sr (sr (sr M 17 (N 17)) 18 (N 18)) 19 (N 19)) 20 (N 20)) 21 (N 21)) 22 (N 22)) 23 (N 23)) 24 (N 24)) 25 (N 25)) 27 (N 27)) 28 (N 28)) 29 (N 29)) 30 (N 30)) 31 (N 31)) 32 (N 32))) H → va_D A (wX8 cI cZ cS f g a (sr (sr (sr (sr (sr (sr (sr (sr (sr (sr (sr (sr (sr (sr (sr M 17 (N 17)) 18 (N 18)) 19 (N 19)) 20 (N 20)) 21 (N 21)) 22 (N 22)) 23 (N 23)) 24 (N 24)) 25 (N 25)) 27 (N 27)) 28 (N 28)) 29 (N 29)) 30 (N 30)) 31 (N 31)) 32 (N 32))) → va_S A s.heap H locs → W p l e (headSpec wsX8_findCheapest ({ frames := 5, cells := 0, slots := 0, locals := 133 } : Room)).room s m ([.ref (a 0)] : List Value).toArray below meth c H locs 0 0 (MQ below (va_Qi (S := Unit) (fun r _ => r = z.1) (fun _ t => WE (dC, dI) cI cZ (wX8 cI cZ cS f g a (sr (sr (sr (sr (sr (sr (sr (sr (sr (sr (sr (sr (sr (sr (sr M 17 (z.2 17)) 18 (z.2 18)) 19 (z.2 19)) 20 (z.2 20)) 21 (z.2 21)) 22 (z.2 22)) 23 (z.2 23)) 24 (z.2 24)) 25 (z.2 25)) 27 (z.2 27)) 28 (z.2 28)) 29 (z.2 29)) 30 (z.2 30)) 31 (z.2 31)) 32 (z.2 32))) A t) A) ([.ref (a 0)] : List Value).toArray s 0 0 A) (F0 m 68 ls []) := by
    intro kb hkb kx74 hkx74 N l1 l2 l3 hf ls hl H locs hP hD hS
    unfold fX8_findCheapest_B68 at hf
    refine lv_iinc (v := (l3 + (1 : Int32))) (lv' := [(3, .int (l3 + (1 : Int32))), (0, .ref (a 0)), (1, .int l1), (2, .int l2)]) hx hb dX8_findCheapest_68 hl (k := 3) rfl rfl (by decide) rfl (fun ls hl => ?_)
    refine lv_goto (tgt := 6) hx hb dX8_findCheapest_71 (by decide) ?_
    exact hkb (sr (sr (sr (sr (sr (sr (sr (sr (sr (sr (sr (sr (sr (sr (sr M 17 (N 17)) 18 (N 18)) 19 (N 19)) 20 (N 20)) 21 (N 21)) 22 (N 22)) 23 (N 23)) 24 (N 24)) 25 (N 25)) 27 (N 27)) 28 (N 28)) 29 (N 29)) 30 (N 30)) 31 (N 31)) 32 (N 32)) l1 l2 (l3 + (1 : Int32)) hf _ (lv_sub hl [1, 2, 3, 0] rfl) _ _ hP hD hS
  have hfX8_findCheapest_B63 : ∀ (kb : Mem → Int32 → Int32 → Int32 → Option (Int32 × Mem)) (hkb : ∀ (N : Mem) (l1 : Int32) (l2 : Int32) (l3 : Int32), kb N l1 l2 l3 = some z → ∀ (ls : Array Slot), lv_has ls 5 [(0, .ref (a 0)), (1, .int l1), (2, .int l2), (3, .int l3)] → ∀ (H : Heap) (locs : List Loc), va_P (dC, dI) vwCl (wX8 cI cZ cS f g a (sr (sr (sr (sr (sr (sr (sr (sr (sr (sr (sr (sr (sr (sr (sr M 17 (N 17)) 18 (N 18)) 19 (N 19)) 20 (N 20)) 21 (N 21)) 22 (N 22)) 23 (N 23)) 24 (N 24)) 25 (N 25)) 27 (N 27)) 28 (N 28)) 29 (N 29)) 30 (N 30)) 31 (N 31)) 32 (N 32))) H → va_D A (wX8 cI cZ cS f g a (sr (sr (sr (sr (sr (sr (sr (sr (sr (sr (sr (sr (sr (sr (sr M 17 (N 17)) 18 (N 18)) 19 (N 19)) 20 (N 20)) 21 (N 21)) 22 (N 22)) 23 (N 23)) 24 (N 24)) 25 (N 25)) 27 (N 27)) 28 (N 28)) 29 (N 29)) 30 (N 30)) 31 (N 31)) 32 (N 32))) → va_S A s.heap H locs → W p l e (headSpec wsX8_findCheapest ({ frames := 5, cells := 0, slots := 0, locals := 133 } : Room)).room s m ([.ref (a 0)] : List Value).toArray below meth c H locs 0 0 (MQ below (va_Qi (S := Unit) (fun r _ => r = z.1) (fun _ t => WE (dC, dI) cI cZ (wX8 cI cZ cS f g a (sr (sr (sr (sr (sr (sr (sr (sr (sr (sr (sr (sr (sr (sr (sr M 17 (z.2 17)) 18 (z.2 18)) 19 (z.2 19)) 20 (z.2 20)) 21 (z.2 21)) 22 (z.2 22)) 23 (z.2 23)) 24 (z.2 24)) 25 (z.2 25)) 27 (z.2 27)) 28 (z.2 28)) 29 (z.2 29)) 30 (z.2 30)) 31 (z.2 31)) 32 (z.2 32))) A t) A) ([.ref (a 0)] : List Value).toArray s 0 0 A) (F0 m 6 ls [])) (kx74 : Mem → Int32 → Option (Int32 × Mem)) (hkx74 : ∀ (N : Mem) (l1 : Int32), kx74 N l1 = some z → ∀ (ls : Array Slot), lv_has ls 5 [(1, .int l1)] → ∀ (H : Heap) (locs : List Loc), va_P (dC, dI) vwCl (wX8 cI cZ cS f g a (sr (sr (sr (sr (sr (sr (sr (sr (sr (sr (sr (sr (sr (sr (sr M 17 (N 17)) 18 (N 18)) 19 (N 19)) 20 (N 20)) 21 (N 21)) 22 (N 22)) 23 (N 23)) 24 (N 24)) 25 (N 25)) 27 (N 27)) 28 (N 28)) 29 (N 29)) 30 (N 30)) 31 (N 31)) 32 (N 32))) H → va_D A (wX8 cI cZ cS f g a (sr (sr (sr (sr (sr (sr (sr (sr (sr (sr (sr (sr (sr (sr (sr M 17 (N 17)) 18 (N 18)) 19 (N 19)) 20 (N 20)) 21 (N 21)) 22 (N 22)) 23 (N 23)) 24 (N 24)) 25 (N 25)) 27 (N 27)) 28 (N 28)) 29 (N 29)) 30 (N 30)) 31 (N 31)) 32 (N 32))) → va_S A s.heap H locs → W p l e (headSpec wsX8_findCheapest ({ frames := 5, cells := 0, slots := 0, locals := 133 } : Room)).room s m ([.ref (a 0)] : List Value).toArray below meth c H locs 0 0 (MQ below (va_Qi (S := Unit) (fun r _ => r = z.1) (fun _ t => WE (dC, dI) cI cZ (wX8 cI cZ cS f g a (sr (sr (sr (sr (sr (sr (sr (sr (sr (sr (sr (sr (sr (sr (sr M 17 (z.2 17)) 18 (z.2 18)) 19 (z.2 19)) 20 (z.2 20)) 21 (z.2 21)) 22 (z.2 22)) 23 (z.2 23)) 24 (z.2 24)) 25 (z.2 25)) 27 (z.2 27)) 28 (z.2 28)) 29 (z.2 29)) 30 (z.2 30)) 31 (z.2 31)) 32 (z.2 32))) A t) A) ([.ref (a 0)] : List Value).toArray s 0 0 A) (F0 m 74 ls [])), ∀ (N : Mem) (l3 : Int32) (l4 : Int32), fX8_findCheapest_B63 M kb kx74 N l3 l4 = some z → ∀ (ls : Array Slot), lv_has ls 5 [(0, .ref (a 0)), (3, .int l3), (4, .int l4)] → ∀ (H : Heap) (locs : List Loc), va_P (dC, dI) vwCl (wX8 cI cZ cS f g a (sr (sr (sr (sr (sr (sr (sr (sr (sr (sr (sr (sr (sr (sr (sr M 17 (N 17)) 18 (N 18)) 19 (N 19)) 20 (N 20)) 21 (N 21)) 22 (N 22)) 23 (N 23)) 24 (N 24)) 25 (N 25)) 27 (N 27)) 28 (N 28)) 29 (N 29)) 30 (N 30)) 31 (N 31)) 32 (N 32))) H → va_D A (wX8 cI cZ cS f g a (sr (sr (sr (sr (sr (sr (sr (sr (sr (sr (sr (sr (sr (sr (sr M 17 (N 17)) 18 (N 18)) 19 (N 19)) 20 (N 20)) 21 (N 21)) 22 (N 22)) 23 (N 23)) 24 (N 24)) 25 (N 25)) 27 (N 27)) 28 (N 28)) 29 (N 29)) 30 (N 30)) 31 (N 31)) 32 (N 32))) → va_S A s.heap H locs → W p l e (headSpec wsX8_findCheapest ({ frames := 5, cells := 0, slots := 0, locals := 133 } : Room)).room s m ([.ref (a 0)] : List Value).toArray below meth c H locs 0 0 (MQ below (va_Qi (S := Unit) (fun r _ => r = z.1) (fun _ t => WE (dC, dI) cI cZ (wX8 cI cZ cS f g a (sr (sr (sr (sr (sr (sr (sr (sr (sr (sr (sr (sr (sr (sr (sr M 17 (z.2 17)) 18 (z.2 18)) 19 (z.2 19)) 20 (z.2 20)) 21 (z.2 21)) 22 (z.2 22)) 23 (z.2 23)) 24 (z.2 24)) 25 (z.2 25)) 27 (z.2 27)) 28 (z.2 28)) 29 (z.2 29)) 30 (z.2 30)) 31 (z.2 31)) 32 (z.2 32))) A t) A) ([.ref (a 0)] : List Value).toArray s 0 0 A) (F0 m 63 ls []) := by
    intro kb hkb kx74 hkx74 N l3 l4 hf ls hl H locs hP hD hS
    unfold fX8_findCheapest_B63 at hf
    refine lv_iload_n hx hb dX8_findCheapest_63 rfl (lv_at hl 1 rfl) ?_
    refine lv_istore_n (lv' := [(1, .int l3), (0, .ref (a 0)), (3, .int l3), (4, .int l4)]) hx hb dX8_findCheapest_64 rfl hl (by decide) rfl (fun ls hl => ?_)
    refine lv_iload hx hb dX8_findCheapest_65 (lv_at hl 3 rfl) ?_
    refine lv_istore_n (lv' := [(2, .int l4), (1, .int l3), (0, .ref (a 0)), (3, .int l3), (4, .int l4)]) hx hb dX8_findCheapest_67 rfl hl (by decide) rfl (fun ls hl => ?_)
    exact hfX8_findCheapest_B68 _ hkb _ hkx74 (sr (sr (sr (sr (sr (sr (sr (sr (sr (sr (sr (sr (sr (sr (sr M 17 (N 17)) 18 (N 18)) 19 (N 19)) 20 (N 20)) 21 (N 21)) 22 (N 22)) 23 (N 23)) 24 (N 24)) 25 (N 25)) 27 (N 27)) 28 (N 28)) 29 (N 29)) 30 (N 30)) 31 (N 31)) 32 (N 32)) l3 l4 l3 hf _ (lv_sub hl [2, 1, 0, 3] rfl) _ _ hP hD hS
  have hfX8_findCheapest_L6 : ∀ (n : Nat) (kx74 : Mem → Int32 → Option (Int32 × Mem)) (hkx74 : ∀ (N : Mem) (l1 : Int32), kx74 N l1 = some z → ∀ (ls : Array Slot), lv_has ls 5 [(1, .int l1)] → ∀ (H : Heap) (locs : List Loc), va_P (dC, dI) vwCl (wX8 cI cZ cS f g a (sr (sr (sr (sr (sr (sr (sr (sr (sr (sr (sr (sr (sr (sr (sr M 17 (N 17)) 18 (N 18)) 19 (N 19)) 20 (N 20)) 21 (N 21)) 22 (N 22)) 23 (N 23)) 24 (N 24)) 25 (N 25)) 27 (N 27)) 28 (N 28)) 29 (N 29)) 30 (N 30)) 31 (N 31)) 32 (N 32))) H → va_D A (wX8 cI cZ cS f g a (sr (sr (sr (sr (sr (sr (sr (sr (sr (sr (sr (sr (sr (sr (sr M 17 (N 17)) 18 (N 18)) 19 (N 19)) 20 (N 20)) 21 (N 21)) 22 (N 22)) 23 (N 23)) 24 (N 24)) 25 (N 25)) 27 (N 27)) 28 (N 28)) 29 (N 29)) 30 (N 30)) 31 (N 31)) 32 (N 32))) → va_S A s.heap H locs → W p l e (headSpec wsX8_findCheapest ({ frames := 5, cells := 0, slots := 0, locals := 133 } : Room)).room s m ([.ref (a 0)] : List Value).toArray below meth c H locs 0 0 (MQ below (va_Qi (S := Unit) (fun r _ => r = z.1) (fun _ t => WE (dC, dI) cI cZ (wX8 cI cZ cS f g a (sr (sr (sr (sr (sr (sr (sr (sr (sr (sr (sr (sr (sr (sr (sr M 17 (z.2 17)) 18 (z.2 18)) 19 (z.2 19)) 20 (z.2 20)) 21 (z.2 21)) 22 (z.2 22)) 23 (z.2 23)) 24 (z.2 24)) 25 (z.2 25)) 27 (z.2 27)) 28 (z.2 28)) 29 (z.2 29)) 30 (z.2 30)) 31 (z.2 31)) 32 (z.2 32))) A t) A) ([.ref (a 0)] : List Value).toArray s 0 0 A) (F0 m 74 ls [])), ∀ (N : Mem) (l1 : Int32) (l2 : Int32) (l3 : Int32), fX8_findCheapest_L6 M n kx74 N l1 l2 l3 = some z → ∀ (ls : Array Slot), lv_has ls 5 [(0, .ref (a 0)), (1, .int l1), (2, .int l2), (3, .int l3)] → ∀ (H : Heap) (locs : List Loc), va_P (dC, dI) vwCl (wX8 cI cZ cS f g a (sr (sr (sr (sr (sr (sr (sr (sr (sr (sr (sr (sr (sr (sr (sr M 17 (N 17)) 18 (N 18)) 19 (N 19)) 20 (N 20)) 21 (N 21)) 22 (N 22)) 23 (N 23)) 24 (N 24)) 25 (N 25)) 27 (N 27)) 28 (N 28)) 29 (N 29)) 30 (N 30)) 31 (N 31)) 32 (N 32))) H → va_D A (wX8 cI cZ cS f g a (sr (sr (sr (sr (sr (sr (sr (sr (sr (sr (sr (sr (sr (sr (sr M 17 (N 17)) 18 (N 18)) 19 (N 19)) 20 (N 20)) 21 (N 21)) 22 (N 22)) 23 (N 23)) 24 (N 24)) 25 (N 25)) 27 (N 27)) 28 (N 28)) 29 (N 29)) 30 (N 30)) 31 (N 31)) 32 (N 32))) → va_S A s.heap H locs → W p l e (headSpec wsX8_findCheapest ({ frames := 5, cells := 0, slots := 0, locals := 133 } : Room)).room s m ([.ref (a 0)] : List Value).toArray below meth c H locs 0 0 (MQ below (va_Qi (S := Unit) (fun r _ => r = z.1) (fun _ t => WE (dC, dI) cI cZ (wX8 cI cZ cS f g a (sr (sr (sr (sr (sr (sr (sr (sr (sr (sr (sr (sr (sr (sr (sr M 17 (z.2 17)) 18 (z.2 18)) 19 (z.2 19)) 20 (z.2 20)) 21 (z.2 21)) 22 (z.2 22)) 23 (z.2 23)) 24 (z.2 24)) 25 (z.2 25)) 27 (z.2 27)) 28 (z.2 28)) 29 (z.2 29)) 30 (z.2 30)) 31 (z.2 31)) 32 (z.2 32))) A t) A) ([.ref (a 0)] : List Value).toArray s 0 0 A) (F0 m 6 ls []) := by
    intro n
    induction n with
    | zero =>
      intro kx74 hkx74 N l1 l2 l3 hf ls hl H locs hP hD hS
      rw [fX8_findCheapest_L6] at hf
      cases hf
    | succ n ih =>
      intro kx74 hkx74 N l1 l2 l3 hf ls hl H locs hP hD hS
      rw [fX8_findCheapest_L6] at hf
      refine lv_iload_n hx hb dX8_findCheapest_6 rfl (lv_at hl 3 rfl) ?_
      refine lv_aload_n hx hb dX8_findCheapest_7 rfl (lv_at hl 0 rfl) ?_
      refine va_get (D := (dC, dI)) (ci := 8) (v := .ref (a 1)) (C := RX8) (T := TX8) (N := 6) hx hb hts hinX8 hown hK hP 0 rfl rfl 0 (by decide) hw1 (fun _ h9 => h9) rfl dX8_findCheapest_8 ?_
      refine va_getN (D := (dC, dI)) (ci := 6) (v := .ref (a 15)) (C := RX6) (T := TX6) (N := 5) hx hb hts hinX6 hown hK hP 1 rfl rfl 3 (by decide) (nw4 hNW) (fun _ h9 => h9) rfl dX8_findCheapest_11 ?_
      refine va_getN (D := (dC, dI)) (ci := 3) (v := .int (M 15 0)) (C := RX3) (T := TX3) (N := 2) hx hb hts hinX3 hown hK hP 15 rfl rfl 0 (by decide) (nw5 hNW) (fun _ h9 => h9) rfl dX8_findCheapest_14 ?_
      refine lv_icmp_ge (tgt := 74) hx hb dX8_findCheapest_17 (by decide) (fun c9 => ?_) (fun c9 => ?_)
      · have hf := it_t hf c9
        exact hkx74 (sr (sr (sr (sr (sr (sr (sr (sr (sr (sr (sr (sr (sr (sr (sr M 17 (N 17)) 18 (N 18)) 19 (N 19)) 20 (N 20)) 21 (N 21)) 22 (N 22)) 23 (N 23)) 24 (N 24)) 25 (N 25)) 27 (N 27)) 28 (N 28)) 29 (N 29)) 30 (N 30)) 31 (N 31)) 32 (N 32)) l1 hf _ (lv_sub hl [1] rfl) _ _ hP hD hS
      · have hf := it_f hf c9
        refine lv_aload_n hx hb dX8_findCheapest_20 rfl (lv_at hl 0 rfl) ?_
        refine va_get (D := (dC, dI)) (ci := 8) (v := .ref (a 1)) (C := RX8) (T := TX8) (N := 6) hx hb hts hinX8 hown hK hP 0 rfl rfl 0 (by decide) hw1 (fun _ h9 => h9) rfl dX8_findCheapest_21 ?_
        refine lv_iload_n hx hb dX8_findCheapest_24 rfl (lv_at hl 3 rfl) ?_
        obtain ⟨r25, hc25, hf⟩ := bi_s hf
        have hPc := hP.sub (ws' := (wX6 cI cZ (ofs 1 a) (ofs 1 (sr (sr (sr (sr (sr (sr (sr (sr (sr (sr (sr (sr (sr (sr (sr M 17 (N 17)) 18 (N 18)) 19 (N 19)) 20 (N 20)) 21 (N 21)) 22 (N 22)) 23 (N 23)) 24 (N 24)) 25 (N 25)) 27 (N 27)) 28 (N 28)) 29 (N 29)) 30 (N 30)) 31 (N 31)) 32 (N 32))))) [1, 2, 3, 4, 5, 6, 7, 8, 9, 10, 11, 12, 13, 14, 15, 16] rfl
        refine cRO (va_Run.run (va_runVN (As := [.int l3]) (rest := []) ⟨hx, hb, hml, hown, hts⟩ (c_X6_isServable l dC dI cI cZ (ofs 1 a) (ofs 1 (sr (sr (sr (sr (sr (sr (sr (sr (sr (sr (sr (sr (sr (sr (sr M 17 (N 17)) 18 (N 18)) 19 (N 19)) 20 (N 20)) 21 (N 21)) 22 (N 22)) 23 (N 23)) 24 (N 24)) 25 (N 25)) 27 (N 27)) 28 (N 28)) 29 (N 29)) 30 (N 30)) 31 (N 31)) 32 (N 32))) l3 r25 hc25) ⟨va_cnB 1 hts gX8_findCheapest_X6_isServable_n329 rfl rfl rfl (nw73 hNW) hw4 (by decide +kernel) ⟨Nat.le_of_ble_eq_true rfl, Nat.le_of_ble_eq_true rfl⟩, hw5, hw6⟩ ⟨RO.blind, va_recv hK hP (ci := 6) (q0 := 1) rfl rfl, RO.pre hPc hK2 hNW⟩ rfl rfl hl.1 rfl (lv_room (Nat.le_of_ble_eq_true rfl)) dX8_findCheapest_25 ⟨Nat.le_of_ble_eq_true rfl, Nat.le_of_ble_eq_true rfl⟩)) ?_
        refine lv_if_eq (tgt := 68) hx hb dX8_findCheapest_28 (by decide) (fun c9 => ?_) (fun c9 => ?_)
        · have hf := it_t hf c9
          exact hfX8_findCheapest_B68 _ (ih kx74 hkx74) _ hkx74 (sr (sr (sr (sr (sr (sr (sr (sr (sr (sr (sr (sr (sr (sr (sr M 17 (N 17)) 18 (N 18)) 19 (N 19)) 20 (N 20)) 21 (N 21)) 22 (N 22)) 23 (N 23)) 24 (N 24)) 25 (N 25)) 27 (N 27)) 28 (N 28)) 29 (N 29)) 30 (N 30)) 31 (N 31)) 32 (N 32)) l1 l2 l3 hf _ (lv_sub hl [0, 1, 2, 3] rfl) _ _ hP hD hS
        · have hf := it_f hf c9
          refine lv_aload_n hx hb dX8_findCheapest_31 rfl (lv_at hl 0 rfl) ?_
          refine va_get (D := (dC, dI)) (ci := 8) (v := .ref (a 17)) (C := RX8) (T := TX8) (N := 6) hx hb hts hinX8 hown hK hP 0 rfl rfl 1 (by decide) hw7 (fun _ h9 => h9) rfl dX8_findCheapest_32 ?_
          refine lv_aload_n hx hb dX8_findCheapest_35 rfl (lv_at hl 0 rfl) ?_
          refine va_get (D := (dC, dI)) (ci := 8) (v := .ref (a 1)) (C := RX8) (T := TX8) (N := 6) hx hb hts hinX8 hown hK hP 0 rfl rfl 0 (by decide) hw1 (fun _ h9 => h9) rfl dX8_findCheapest_36 ?_
          obtain ⟨r39, hc39, hf⟩ := bi_s hf
          have hPc := hP.sub (ws' := (wX6_copyFrom cI cZ (pk [17, 18, 19, 20, 21, 22, 23, 24, 25, 26, 27, 28, 29, 30, 31, 32, 1, 2, 3, 4, 5, 6, 7, 8, 9, 10, 11, 12, 13, 14, 15, 16] a) (pk [17, 18, 19, 20, 21, 22, 23, 24, 25, 26, 27, 28, 29, 30, 31, 32, 1, 2, 3, 4, 5, 6, 7, 8, 9, 10, 11, 12, 13, 14, 15, 16] (sr (sr (sr (sr (sr (sr (sr (sr (sr (sr (sr (sr (sr (sr (sr M 17 (N 17)) 18 (N 18)) 19 (N 19)) 20 (N 20)) 21 (N 21)) 22 (N 22)) 23 (N 23)) 24 (N 24)) 25 (N 25)) 27 (N 27)) 28 (N 28)) 29 (N 29)) 30 (N 30)) 31 (N 31)) 32 (N 32))))) [17, 18, 19, 20, 21, 22, 23, 24, 25, 26, 27, 28, 29, 30, 31, 32, 1, 2, 3, 4, 5, 6, 7, 8, 9, 10, 11, 12, 13, 14, 15, 16] rfl
          have hDc := hD.sub (ws' := (wX6_copyFrom cI cZ (pk [17, 18, 19, 20, 21, 22, 23, 24, 25, 26, 27, 28, 29, 30, 31, 32, 1, 2, 3, 4, 5, 6, 7, 8, 9, 10, 11, 12, 13, 14, 15, 16] a) (pk [17, 18, 19, 20, 21, 22, 23, 24, 25, 26, 27, 28, 29, 30, 31, 32, 1, 2, 3, 4, 5, 6, 7, 8, 9, 10, 11, 12, 13, 14, 15, 16] (sr (sr (sr (sr (sr (sr (sr (sr (sr (sr (sr (sr (sr (sr (sr M 17 (N 17)) 18 (N 18)) 19 (N 19)) 20 (N 20)) 21 (N 21)) 22 (N 22)) 23 (N 23)) 24 (N 24)) 25 (N 25)) 27 (N 27)) 28 (N 28)) 29 (N 29)) 30 (N 30)) 31 (N 31)) 32 (N 32))))) [17, 18, 19, 20, 21, 22, 23, 24, 25, 26, 27, 28, 29, 30, 31, 32, 1, 2, 3, 4, 5, 6, 7, 8, 9, 10, 11, 12, 13, 14, 15, 16] (by decide) rfl
          have hFc := va_free (wc := (wX6_copyFrom cI cZ (pk [17, 18, 19, 20, 21, 22, 23, 24, 25, 26, 27, 28, 29, 30, 31, 32, 1, 2, 3, 4, 5, 6, 7, 8, 9, 10, 11, 12, 13, 14, 15, 16] a) (pk [17, 18, 19, 20, 21, 22, 23, 24, 25, 26, 27, 28, 29, 30, 31, 32, 1, 2, 3, 4, 5, 6, 7, 8, 9, 10, 11, 12, 13, 14, 15, 16] (sr (sr (sr (sr (sr (sr (sr (sr (sr (sr (sr (sr (sr (sr (sr M 17 (N 17)) 18 (N 18)) 19 (N 19)) 20 (N 20)) 21 (N 21)) 22 (N 22)) 23 (N 23)) 24 (N 24)) 25 (N 25)) 27 (N 27)) 28 (N 28)) 29 (N 29)) 30 (N 30)) 31 (N 31)) 32 (N 32))))) hD hS hA [17, 18, 19, 20, 21, 22, 23, 24, 25, 26, 27, 28, 29, 30, 31, 32, 1, 2, 3, 4, 5, 6, 7, 8, 9, 10, 11, 12, 13, 14, 15, 16] rfl
          refine va_callv (va_runVN (As := [.ref (a 1)]) (rest := []) ⟨hx, hb, hml, hown, hts⟩ (c_X6_copyFrom l dC dI cI cZ (pk [17, 18, 19, 20, 21, 22, 23, 24, 25, 26, 27, 28, 29, 30, 31, 32, 1, 2, 3, 4, 5, 6, 7, 8, 9, 10, 11, 12, 13, 14, 15, 16] a) H.size (pk [17, 18, 19, 20, 21, 22, 23, 24, 25, 26, 27, 28, 29, 30, 31, 32, 1, 2, 3, 4, 5, 6, 7, 8, 9, 10, 11, 12, 13, 14, 15, 16] (sr (sr (sr (sr (sr (sr (sr (sr (sr (sr (sr (sr (sr (sr (sr M 17 (N 17)) 18 (N 18)) 19 (N 19)) 20 (N 20)) 21 (N 21)) 22 (N 22)) 23 (N 23)) 24 (N 24)) 25 (N 25)) 27 (N 27)) 28 (N 28)) 29 (N 29)) 30 (N 30)) 31 (N 31)) 32 (N 32))) r39 hc39) ⟨va_cnB 1 hts gX8_findCheapest_X6_copyFrom_n265 rfl rfl rfl (nw61 hNW) hw4 (by decide +kernel) ⟨Nat.le_of_ble_eq_true rfl, Nat.le_of_ble_eq_true rfl⟩, hw8, hw9⟩ ⟨WR.blind, va_recv hK hP (ci := 6) (q0 := 17) rfl rfl, WR.pre hPc hK2 hDc hNW⟩ rfl rfl hl.1 rfl (lv_room (Nat.le_of_ble_eq_true rfl)) dX8_findCheapest_39 ⟨Nat.le_of_ble_eq_true rfl, Nat.le_of_ble_eq_true rfl⟩) hS (fun q _ h => hFc q h) hFc (fun u t H1 locs ht hvm hw hB hz1 hk1 hS => ?_)
          obtain ⟨hP1, hD1⟩ := hB
          rw [ht] at hP1
          obtain ⟨hP, hD⟩ := va_join (wr := [(a 0, .inr (8, [.ref (a 1), .ref (a 17), .ref (a 33), .ref (a 36), .ref (a 40), .ref (a 41)])), (a 33, .inr (1, [.int (M 33 0), .ref (a 34), .ref (a 35)])), (a 34, .inl (cS, 6, .inr (.inr (.inr (.inr f))))), (a 35, .inl (cS, 2, .inr (.inr (.inr (.inr g))))), (a 36, .inr (5, [.int (M 36 0), .ref (a 37), .ref (a 38)])), (a 37, .inl (cI, 60, .inl (M 37))), (a 38, .inr (4, [.int (M 38 0), .int (M 38 1), .ref (a 39)])), (a 39, .inl (cI, 10, .inl (M 39))), (a 40, .inl (cI, 12, .inl (M 40))), (a 41, .inl (cI, 10, .inl (M 41)))]) (w1 := (wX6_copyFrom cI cZ (pk [17, 18, 19, 20, 21, 22, 23, 24, 25, 26, 27, 28, 29, 30, 31, 32, 1, 2, 3, 4, 5, 6, 7, 8, 9, 10, 11, 12, 13, 14, 15, 16] a) (sr (sr (sr (sr (sr (sr (sr (sr (sr (sr (sr (sr (sr (sr (sr (pk [17, 18, 19, 20, 21, 22, 23, 24, 25, 26, 27, 28, 29, 30, 31, 32, 1, 2, 3, 4, 5, 6, 7, 8, 9, 10, 11, 12, 13, 14, 15, 16] (sr (sr (sr (sr (sr (sr (sr (sr (sr (sr (sr (sr (sr (sr (sr M 17 (N 17)) 18 (N 18)) 19 (N 19)) 20 (N 20)) 21 (N 21)) 22 (N 22)) 23 (N 23)) 24 (N 24)) 25 (N 25)) 27 (N 27)) 28 (N 28)) 29 (N 29)) 30 (N 30)) 31 (N 31)) 32 (N 32))) 0 (r39 0)) 1 (r39 1)) 2 (r39 2)) 3 (r39 3)) 4 (r39 4)) 5 (r39 5)) 6 (r39 6)) 7 (r39 7)) 8 (r39 8)) 10 (r39 10)) 11 (r39 11)) 12 (r39 12)) 13 (r39 13)) 14 (r39 14)) 15 (r39 15)))) hP hD [17, 18, 19, 20, 21, 22, 23, 24, 25, 26, 27, 28, 29, 30, 31, 32, 1, 2, 3, 4, 5, 6, 7, 8, 9, 10, 11, 12, 13, 14, 15, 16] [0, 33, 34, 35, 36, 37, 38, 39, 40, 41] rfl rfl (by decide) (by decide) hk1 hFc hP1 hD1
          have hP := hP.sub (ws' := (wX8 cI cZ cS f g a (sr (sr (sr (sr (sr (sr (sr (sr (sr (sr (sr (sr (sr (sr (sr M 17 (r39 0)) 18 (r39 1)) 19 (r39 2)) 20 (r39 3)) 21 (r39 4)) 22 (r39 5)) 23 (r39 6)) 24 (r39 7)) 25 (r39 8)) 27 (r39 10)) 28 (r39 11)) 29 (r39 12)) 30 (r39 13)) 31 (r39 14)) 32 (r39 15)))) [0, 26, 27, 28, 29, 30, 31, 32, 33, 34, 35, 36, 37, 38, 39, 40, 41, 10, 11, 12, 13, 14, 15, 16, 17, 18, 19, 20, 21, 22, 23, 24, 25, 1, 2, 3, 4, 5, 6, 7, 8, 9] rfl
          have hD := hD.sub (ws' := (wX8 cI cZ cS f g a (sr (sr (sr (sr (sr (sr (sr (sr (sr (sr (sr (sr (sr (sr (sr M 17 (r39 0)) 18 (r39 1)) 19 (r39 2)) 20 (r39 3)) 21 (r39 4)) 22 (r39 5)) 23 (r39 6)) 24 (r39 7)) 25 (r39 8)) 27 (r39 10)) 28 (r39 11)) 29 (r39 12)) 30 (r39 13)) 31 (r39 14)) 32 (r39 15)))) [0, 26, 27, 28, 29, 30, 31, 32, 33, 34, 35, 36, 37, 38, 39, 40, 41, 10, 11, 12, 13, 14, 15, 16, 17, 18, 19, 20, 21, 22, 23, 24, 25, 1, 2, 3, 4, 5, 6, 7, 8, 9] (by decide) rfl
          generalize H1 = H at hP hS ⊢
          refine lv_aload_n hx hb dX8_findCheapest_42 rfl (lv_at hl 0 rfl) ?_
          refine va_get (D := (dC, dI)) (ci := 8) (v := .ref (a 17)) (C := RX8) (T := TX8) (N := 6) hx hb hts hinX8 hown hK hP 0 rfl rfl 1 (by decide) hw7 (fun _ h9 => h9) rfl dX8_findCheapest_43 ?_
          refine lv_iload_n hx hb dX8_findCheapest_46 rfl (lv_at hl 3 rfl) ?_
          obtain ⟨r47, hc47, hf⟩ := bi_s hf
          have hPc := hP.sub (ws' := (wX6 cI cZ (ofs 17 a) (ofs 17 (sr (sr (sr (sr (sr (sr (sr (sr (sr (sr (sr (sr (sr (sr (sr M 17 (r39 0)) 18 (r39 1)) 19 (r39 2)) 20 (r39 3)) 21 (r39 4)) 22 (r39 5)) 23 (r39 6)) 24 (r39 7)) 25 (r39 8)) 27 (r39 10)) 28 (r39 11)) 29 (r39 12)) 30 (r39 13)) 31 (r39 14)) 32 (r39 15))))) [17, 18, 19, 20, 21, 22, 23, 24, 25, 26, 27, 28, 29, 30, 31, 32] rfl
          have hDc := hD.sub (ws' := (wX6 cI cZ (ofs 17 a) (ofs 17 (sr (sr (sr (sr (sr (sr (sr (sr (sr (sr (sr (sr (sr (sr (sr M 17 (r39 0)) 18 (r39 1)) 19 (r39 2)) 20 (r39 3)) 21 (r39 4)) 22 (r39 5)) 23 (r39 6)) 24 (r39 7)) 25 (r39 8)) 27 (r39 10)) 28 (r39 11)) 29 (r39 12)) 30 (r39 13)) 31 (r39 14)) 32 (r39 15))))) [17, 18, 19, 20, 21, 22, 23, 24, 25, 26, 27, 28, 29, 30, 31, 32] (by decide) rfl
          have hFc := va_free (wc := (wX6 cI cZ (ofs 17 a) (ofs 17 (sr (sr (sr (sr (sr (sr (sr (sr (sr (sr (sr (sr (sr (sr (sr M 17 (r39 0)) 18 (r39 1)) 19 (r39 2)) 20 (r39 3)) 21 (r39 4)) 22 (r39 5)) 23 (r39 6)) 24 (r39 7)) 25 (r39 8)) 27 (r39 10)) 28 (r39 11)) 29 (r39 12)) 30 (r39 13)) 31 (r39 14)) 32 (r39 15))))) hD hS hA [17, 18, 19, 20, 21, 22, 23, 24, 25, 26, 27, 28, 29, 30, 31, 32] rfl
          refine va_calli (va_runVN (As := [.int l3]) (rest := []) ⟨hx, hb, hml, hown, hts⟩ (c_X6_serveOne l dC dI cI cZ (ofs 17 a) H.size (ofs 17 (sr (sr (sr (sr (sr (sr (sr (sr (sr (sr (sr (sr (sr (sr (sr M 17 (r39 0)) 18 (r39 1)) 19 (r39 2)) 20 (r39 3)) 21 (r39 4)) 22 (r39 5)) 23 (r39 6)) 24 (r39 7)) 25 (r39 8)) 27 (r39 10)) 28 (r39 11)) 29 (r39 12)) 30 (r39 13)) 31 (r39 14)) 32 (r39 15))) l3 r47 hc47) ⟨va_cnB 1 hts gX8_findCheapest_X6_serveOne_n213 rfl rfl rfl (nw56 hNW) hw4 (by decide +kernel) ⟨Nat.le_of_ble_eq_true rfl, Nat.le_of_ble_eq_true rfl⟩, hw10, hw11⟩ ⟨WR.blind, va_recv hK hP (ci := 6) (q0 := 17) rfl rfl, WR.pre hPc hK2 hDc hNW⟩ rfl rfl hl.1 rfl (lv_room (Nat.le_of_ble_eq_true rfl)) dX8_findCheapest_47 ⟨Nat.le_of_ble_eq_true rfl, Nat.le_of_ble_eq_true rfl⟩) hS (fun q _ h => hFc q h) hFc (fun rv u t H1 locs ht hvm hw hB hz1 hk1 hS => ?_)
          obtain ⟨hP1, hD1⟩ := hB
          rw [ht] at hP1
          subst hw
          obtain ⟨hP, hD⟩ := va_join (wr := [(a 0, .inr (8, [.ref (a 1), .ref (a 17), .ref (a 33), .ref (a 36), .ref (a 40), .ref (a 41)])), (a 1, .inr (6, [.ref (a 2), .ref (a 7), .ref (a 10), .ref (a 15), .int (M 1 4)])), (a 2, .inr (7, [.int (M 2 0), .int (M 2 1), .ref (a 3), .ref (a 4), .ref (a 5), .ref (a 6)])), (a 3, .inl (cI, 12, .inl (M 3))), (a 4, .inl (cI, 12, .inl (M 4))), (a 5, .inl (cI, 12, .inl (M 5))), (a 6, .inl (cI, 120, .inl (M 6))), (a 7, .inr (2, [.int (M 7 0), .int (M 7 1), .int (M 7 2), .int (M 7 3), .int (M 7 4), .ref (a 8), .ref (a 9)])), (a 8, .inl (cI, 8, .inl (M 8))), (a 9, .inl (cZ, 8, .inl (M 9))), (a 10, .inr (0, [.ref (a 11), .ref (a 12), .ref (a 13), .ref (a 14)])), (a 11, .inl (cI, 10, .inl (M 11))), (a 12, .inl (cI, 10, .inl (M 12))), (a 13, .inl (cI, 10, .inl (M 13))), (a 14, .inl (cI, 10, .inl (M 14))), (a 15, .inr (3, [.int (M 15 0), .ref (a 16)])), (a 16, .inl (cI, 80, .inl (M 16))), (a 33, .inr (1, [.int (M 33 0), .ref (a 34), .ref (a 35)])), (a 34, .inl (cS, 6, .inr (.inr (.inr (.inr f))))), (a 35, .inl (cS, 2, .inr (.inr (.inr (.inr g))))), (a 36, .inr (5, [.int (M 36 0), .ref (a 37), .ref (a 38)])), (a 37, .inl (cI, 60, .inl (M 37))), (a 38, .inr (4, [.int (M 38 0), .int (M 38 1), .ref (a 39)])), (a 39, .inl (cI, 10, .inl (M 39))), (a 40, .inl (cI, 12, .inl (M 40))), (a 41, .inl (cI, 10, .inl (M 41)))]) (w1 := (wX6 cI cZ (ofs 17 a) (sr (sr (sr (sr (sr (sr (sr (sr (sr (sr (sr (ofs 17 (sr (sr (sr (sr (sr (sr (sr (sr (sr (sr (sr (sr (sr (sr (sr M 17 (r39 0)) 18 (r39 1)) 19 (r39 2)) 20 (r39 3)) 21 (r39 4)) 22 (r39 5)) 23 (r39 6)) 24 (r39 7)) 25 (r39 8)) 27 (r39 10)) 28 (r39 11)) 29 (r39 12)) 30 (r39 13)) 31 (r39 14)) 32 (r39 15))) 0 (r47.2 0)) 1 (r47.2 1)) 3 (r47.2 3)) 4 (r47.2 4)) 5 (r47.2 5)) 6 (r47.2 6)) 7 (r47.2 7)) 8 (r47.2 8)) 13 (r47.2 13)) 14 (r47.2 14)) 15 (r47.2 15)))) hP hD [17, 18, 19, 20, 21, 22, 23, 24, 25, 26, 27, 28, 29, 30, 31, 32] [0, 1, 2, 3, 4, 5, 6, 7, 8, 9, 10, 11, 12, 13, 14, 15, 16, 33, 34, 35, 36, 37, 38, 39, 40, 41] rfl rfl (by decide) (by decide) hk1 hFc hP1 hD1
          have hP := hP.sub (ws' := (wX8 cI cZ cS f g a (sr (sr (sr (sr (sr (sr (sr (sr (sr (sr (sr (sr (sr (sr (sr M 17 (r47.2 0)) 18 (r47.2 1)) 19 (r39 2)) 20 (r47.2 3)) 21 (r47.2 4)) 22 (r47.2 5)) 23 (r47.2 6)) 24 (r47.2 7)) 25 (r47.2 8)) 27 (r39 10)) 28 (r39 11)) 29 (r39 12)) 30 (r47.2 13)) 31 (r47.2 14)) 32 (r47.2 15)))) [0, 1, 2, 3, 4, 5, 6, 7, 8, 9, 10, 11, 12, 13, 14, 15, 16, 26, 27, 28, 29, 30, 31, 32, 33, 34, 35, 36, 37, 38, 39, 40, 41, 17, 18, 19, 20, 21, 22, 23, 24, 25] rfl
          have hD := hD.sub (ws' := (wX8 cI cZ cS f g a (sr (sr (sr (sr (sr (sr (sr (sr (sr (sr (sr (sr (sr (sr (sr M 17 (r47.2 0)) 18 (r47.2 1)) 19 (r39 2)) 20 (r47.2 3)) 21 (r47.2 4)) 22 (r47.2 5)) 23 (r47.2 6)) 24 (r47.2 7)) 25 (r47.2 8)) 27 (r39 10)) 28 (r39 11)) 29 (r39 12)) 30 (r47.2 13)) 31 (r47.2 14)) 32 (r47.2 15)))) [0, 1, 2, 3, 4, 5, 6, 7, 8, 9, 10, 11, 12, 13, 14, 15, 16, 26, 27, 28, 29, 30, 31, 32, 33, 34, 35, 36, 37, 38, 39, 40, 41, 17, 18, 19, 20, 21, 22, 23, 24, 25] (by decide) rfl
          generalize H1 = H at hP hS ⊢
          refine lv_istore (lv' := [(4, .int r47.1), (0, .ref (a 0)), (1, .int l1), (2, .int l2), (3, .int l3)]) hx hb dX8_findCheapest_50 hl (by decide) rfl (fun ls hl => ?_)
          refine lv_iload_n hx hb dX8_findCheapest_52 rfl (lv_at hl 2 rfl) ?_
          refine lv_iconst (v := (-1 : Int32)) hx hb dX8_findCheapest_53 (by decide) ?_
          refine lv_icmp_eq (tgt := 63) hx hb dX8_findCheapest_54 (by decide) (fun c9 => ?_) (fun c9 => ?_)
          · have hf := it_t hf c9
            exact hfX8_findCheapest_B63 _ (ih kx74 hkx74) _ hkx74 (sr (sr (sr (sr (sr (sr (sr (sr (sr (sr (sr (sr (sr (sr (sr M 17 (r47.2 0)) 18 (r47.2 1)) 19 (r39 2)) 20 (r47.2 3)) 21 (r47.2 4)) 22 (r47.2 5)) 23 (r47.2 6)) 24 (r47.2 7)) 25 (r47.2 8)) 27 (r39 10)) 28 (r39 11)) 29 (r39 12)) 30 (r47.2 13)) 31 (r47.2 14)) 32 (r47.2 15)) l3 r47.1 hf _ (lv_sub hl [1, 4, 0] rfl) _ _ hP hD hS
          · have hf := it_f hf c9
            refine lv_iload hx hb dX8_findCheapest_57 (lv_at hl 0 rfl) ?_
            refine lv_iload_n hx hb dX8_findCheapest_59 rfl (lv_at hl 3 rfl) ?_
            refine lv_icmp_ge (tgt := 68) hx hb dX8_findCheapest_60 (by decide) (fun c9 => ?_) (fun c9 => ?_)
            · have hf := it_t hf c9
              exact hfX8_findCheapest_B68 _ (ih kx74 hkx74) _ hkx74 (sr (sr (sr (sr (sr (sr (sr (sr (sr (sr (sr (sr (sr (sr (sr M 17 (r47.2 0)) 18 (r47.2 1)) 19 (r39 2)) 20 (r47.2 3)) 21 (r47.2 4)) 22 (r47.2 5)) 23 (r47.2 6)) 24 (r47.2 7)) 25 (r47.2 8)) 27 (r39 10)) 28 (r39 11)) 29 (r39 12)) 30 (r47.2 13)) 31 (r47.2 14)) 32 (r47.2 15)) l1 l2 l3 hf _ (lv_sub hl [1, 2, 3, 4] rfl) _ _ hP hD hS
            · have hf := it_f hf c9
              exact hfX8_findCheapest_B63 _ (ih kx74 hkx74) _ hkx74 (sr (sr (sr (sr (sr (sr (sr (sr (sr (sr (sr (sr (sr (sr (sr M 17 (r47.2 0)) 18 (r47.2 1)) 19 (r39 2)) 20 (r47.2 3)) 21 (r47.2 4)) 22 (r47.2 5)) 23 (r47.2 6)) 24 (r47.2 7)) 25 (r47.2 8)) 27 (r39 10)) 28 (r39 11)) 29 (r39 12)) 30 (r47.2 13)) 31 (r47.2 14)) 32 (r47.2 15)) l3 r47.1 hf _ (lv_sub hl [1, 4, 0] rfl) _ _ hP hD hS
  have hl := lv_entry ([.ref (a 0)]) (n := 5) (Nat.le_of_ble_eq_true rfl)
  rw [lg_entry_eq]
  generalize (lg_sl ([.ref (a 0)]) ++ List.replicate (5 - (lg_sl ([.ref (a 0)])).length) Slot.unset).toArray = ls at hl ⊢
  have hl : lv_has ls 5 [(0, .ref (a 0))] := hl
  unfold fX8_findCheapest at hf
  suffices hgo : ∀ (H : Heap) (locs : List Loc), va_P (dC, dI) vwCl (wX8 cI cZ cS f g a M) H → va_D A (wX8 cI cZ cS f g a M) → va_S A s.heap H locs → W p l e (headSpec wsX8_findCheapest ({ frames := 5, cells := 0, slots := 0, locals := 133 } : Room)).room s m ([.ref (a 0)] : List Value).toArray below meth c H locs 0 0 (MQ below (va_Qi (S := Unit) (fun r _ => r = z.1) (fun _ t => WE (dC, dI) cI cZ (wX8 cI cZ cS f g a (sr (sr (sr (sr (sr (sr (sr (sr (sr (sr (sr (sr (sr (sr (sr M 17 (z.2 17)) 18 (z.2 18)) 19 (z.2 19)) 20 (z.2 20)) 21 (z.2 21)) 22 (z.2 22)) 23 (z.2 23)) 24 (z.2 24)) 25 (z.2 25)) 27 (z.2 27)) 28 (z.2 28)) 29 (z.2 29)) 30 (z.2 30)) 31 (z.2 31)) 32 (z.2 32))) A t) A) ([.ref (a 0)] : List Value).toArray s 0 0 A) (F0 m 0 ls []) from hgo _ _ hP hD hS
  intro H locs hP hD hS
  refine lv_iconst (v := (-1 : Int32)) hx hb dX8_findCheapest_0 (by decide) ?_
  refine lv_istore_n (lv' := [(1, .int (-1 : Int32)), (0, .ref (a 0))]) hx hb dX8_findCheapest_1 rfl hl (by decide) rfl (fun ls hl => ?_)
  refine lv_iconst (v := (0 : Int32)) hx hb dX8_findCheapest_2 (by decide) ?_
  refine lv_istore_n (lv' := [(2, .int (0 : Int32)), (1, .int (-1 : Int32)), (0, .ref (a 0))]) hx hb dX8_findCheapest_3 rfl hl (by decide) rfl (fun ls hl => ?_)
  refine lv_iconst (v := (0 : Int32)) hx hb dX8_findCheapest_4 (by decide) ?_
  refine lv_istore_n (lv' := [(3, .int (0 : Int32)), (2, .int (0 : Int32)), (1, .int (-1 : Int32)), (0, .ref (a 0))]) hx hb dX8_findCheapest_5 rfl hl (by decide) rfl (fun ls hl => ?_)
  refine hfX8_findCheapest_L6 5000 _ (fun N l1 hf ls hl H locs hP hD hS => ?_) M (-1 : Int32) (0 : Int32) (0 : Int32) hf _ (lv_sub hl [3, 2, 1, 0] rfl) _ _ hP hD hS
  refine lv_iload_n hx hb dX8_findCheapest_74 rfl (lv_at hl 0 rfl) ?_
  have e9 := so_e hf
  subst e9
  exact W.iret (v := l1) hx hb hr (fun t ht hW => ⟨⟨l1, (), rfl, rfl, WE.mk hP hD ht⟩, hS.F ht⟩) hS.2.2 dX8_findCheapest_75
