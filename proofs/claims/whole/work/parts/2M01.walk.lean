set_option maxHeartbeats 4000000 in
set_option maxRecDepth 100000 in
theorem c_X9_wayTo (l : Launch) (dC : Nat → ClassId) (dI : Nat → Nat → Nat) (cI cZ : ClassId) (a : Nat → Nat) (M : Mem) (a1 : Int32) (z : Int32) (hf : fX9_wayTo M a1 = some z) : Met l yX9_wayTo wsX9_wayTo ({ frames := 2, cells := 0, slots := 0, locals := 43 } : Room) (va_Pc [.ref (a 0), .int a1] (RO (dC, dI) cI cZ (wX9 cI cZ a M))) (k2_QcV (.int z)) 0 0 (fun _ => False) := by
  refine Met.ofW (cc := cX9_wayTo) (maxL := 3) (ret := (some .int)) (by decide) rfl ?_
  intro p e s m args below meth c s₁ B hml hv
  obtain ⟨rfl, hP, hK, hNW⟩ := hv
  have hx := B.exec
  have hb := B.bytes
  have hr := B.returns
  have hts := atoms_spec (ws := wsX9_wayTo) B.pre
  have hown : s.vm.findClass RX9 = some m.cls := findClass_of_methodNamed B.named
  have hlocks := B.notSynchronized
  have hinX9 : ∀ w ∈ u_ws RX9 TX9 13, w ∈ wsX9_wayTo := by decide +kernel
  have hw1 := hts (.fieldLink RX9 7 "GlideShelvesModel" "s" "[I") (by decide +kernel)
  have hfX9_wayTo_B24 : ∀ (l1 : Int32) (s0 : Int32), fX9_wayTo_B24 M  l1 s0 = some z → ∀ (ls : Array Slot), lv_has ls 3 [(0, .ref (a 0)), (1, .int l1)] → W p l e (headSpec wsX9_wayTo ({ frames := 2, cells := 0, slots := 0, locals := 43 } : Room)).room s m ([.ref (a 0), .int a1] : List Value).toArray below meth c s.heap [] 0 0 (MQ below (k2_QcV (.int z)) ([.ref (a 0), .int a1] : List Value).toArray s 0 0 (fun _ => False)) (F0 m 24 ls [.int s0]) := by
    intro  l1 s0 hf ls hl
    unfold fX9_wayTo_B24 at hf
    refine lv_aload_n hx hb dX9_wayTo_24 rfl (lv_at hl 0 rfl) ?_
    refine lv_iload_n hx hb dX9_wayTo_25 rfl (lv_at hl 1 rfl) ?_
    obtain ⟨r26, hc26, hf⟩ := bi_s hf
    have hPc := hP
    refine cRO (W.runV (As := [.int l1]) (rest := [.int s0]) ⟨hx, hb, hml, hown, hts⟩ (c_X9_way l dC dI cI cZ a M l1 r26 hc26) (cwV 1 hts gX9_wayTo_X9_way rfl rfl rfl (by decide +kernel) ⟨Nat.le_of_ble_eq_true rfl, Nat.le_of_ble_eq_true rfl⟩) ⟨RO.blind, va_recv hK hP (ci := 9) (q0 := 0) rfl rfl, RO.pre hPc hK hNW⟩ rfl rfl hl.1 rfl (lv_room (Nat.le_of_ble_eq_true rfl)) dX9_wayTo_26 ⟨Nat.le_of_ble_eq_true rfl, Nat.le_of_ble_eq_true rfl⟩) ?_
    refine lv_iadd hx hb dX9_wayTo_29 ?_
    exact W.iret (v := (s0 + r26)) hx hb hr (fun t ht hW => ⟨congrArg (fun x => Outcome.returned (some (Value.int x))) (so_e hf), ht⟩) fl0 dX9_wayTo_30
  have hl := lv_entry ([.ref (a 0), .int a1]) (n := 3) (Nat.le_of_ble_eq_true rfl)
  rw [lg_entry_eq]
  generalize (lg_sl ([.ref (a 0), .int a1]) ++ List.replicate (3 - (lg_sl ([.ref (a 0), .int a1])).length) Slot.unset).toArray = ls at hl ⊢
  have hl : lv_has ls 3 [(0, .ref (a 0)), (1, .int a1)] := hl
  unfold fX9_wayTo at hf
  refine lv_aload_n hx hb dX9_wayTo_0 rfl (lv_at hl 0 rfl) ?_
  refine va_get (D := (dC, dI)) (ci := 9) (v := .ref (a 1)) (C := RX9) (T := TX9) (N := 13) hx hb hts hinX9 hown hK hP 0 rfl rfl 1 (by decide) hw1 (fun _ h9 => h9) rfl dX9_wayTo_1 ?_
  refine lv_iconst (v := (2 : Int32)) hx hb dX9_wayTo_4 (by decide) ?_
  obtain ⟨hi, hf⟩ := gd_s hf
  refine va_iald (D := (dC, dI)) (f := (M 1)) hx hb hK hP 1 0 rfl rfl (inb_in hi) dX9_wayTo_5 ?_
  refine lv_aload_n hx hb dX9_wayTo_6 rfl (lv_at hl 0 rfl) ?_
  refine lv_iload_n hx hb dX9_wayTo_7 rfl (lv_at hl 1 rfl) ?_
  refine lv_iconst (v := (2 : Int32)) hx hb dX9_wayTo_8 (by decide) ?_
  obtain ⟨r9, hc9, hf⟩ := bi_s hf
  have hPc := hP
  refine cRO (W.runV (As := [.int a1, .int (2 : Int32)]) (rest := [.int (M 1 (2 : Int32).toNatClampNeg)]) ⟨hx, hb, hml, hown, hts⟩ (c_X9_of l dC dI cI cZ a M a1 (2 : Int32) r9 hc9) (cwV 2 hts gX9_wayTo_X9_of rfl rfl rfl (by decide +kernel) ⟨Nat.le_of_ble_eq_true rfl, Nat.le_of_ble_eq_true rfl⟩) ⟨RO.blind, va_recv hK hP (ci := 9) (q0 := 0) rfl rfl, RO.pre hPc hK hNW⟩ rfl rfl hl.1 rfl (lv_room (Nat.le_of_ble_eq_true rfl)) dX9_wayTo_9 ⟨Nat.le_of_ble_eq_true rfl, Nat.le_of_ble_eq_true rfl⟩) ?_
  refine lv_isub hx hb dX9_wayTo_12 ?_
  refine lv_istore_n (lv' := [(2, .int ((M 1 (2 : Int32).toNatClampNeg) - r9)), (0, .ref (a 0)), (1, .int a1)]) hx hb dX9_wayTo_13 rfl hl (by decide) rfl (fun ls hl => ?_)
  refine lv_iload_n hx hb dX9_wayTo_14 rfl (lv_at hl 0 rfl) ?_
  refine lv_if_ge (tgt := 23) hx hb dX9_wayTo_15 (by decide) (fun c9 => ?_) (fun c9 => ?_)
  · have hf := it_t hf c9
    refine lv_iload_n hx hb dX9_wayTo_23 rfl (lv_at hl 0 rfl) ?_
    exact hfX9_wayTo_B24  a1 ((M 1 (2 : Int32).toNatClampNeg) - r9) hf _ (lv_sub hl [1, 2] rfl)
  · have hf := it_f hf c9
    refine lv_iload_n hx hb dX9_wayTo_18 rfl (lv_at hl 0 rfl) ?_
    refine lv_ineg hx hb dX9_wayTo_19 ?_
    refine lv_goto (tgt := 24) hx hb dX9_wayTo_20 (by decide) ?_
    exact hfX9_wayTo_B24  a1 (-((M 1 (2 : Int32).toNatClampNeg) - r9)) hf _ (lv_sub hl [1, 2] rfl)
set_option maxHeartbeats 4000000 in
set_option maxRecDepth 100000 in
theorem c_X9_fetchesIt (l : Launch) (dC : Nat → ClassId) (dI : Nat → Nat → Nat) (cI cZ : ClassId) (a : Nat → Nat) (sz : Nat) (M : Mem) (a1 : Int32) (z : Int32 × Mem) (hf : fX9_fetchesIt M a1 = some z) : Met l yX9_fetchesIt wsX9_fetchesIt ({ frames := 3, cells := 0, slots := 0, locals := 65 } : Room) (va_Pc [.ref (a 0), .int a1] (WR (dC, dI) cI cZ (wX9 cI cZ a M) sz)) (va_Qi (S := Unit) (fun r _ => r = z.1) (fun _ t => WE (dC, dI) cI cZ (wX9 cI cZ a (sr M 1 (z.2 1))) (va_A (wX9 cI cZ a M) sz) t) (va_A (wX9 cI cZ a M) sz)) 0 0 (va_A (wX9 cI cZ a M) sz) := by
  refine Met.ofW (cc := cX9_fetchesIt) (maxL := 3) (ret := (some .int)) (by decide) rfl ?_
  intro p e s m args below meth c s₁ B hml hv
  obtain ⟨rfl, hsz, hP, hK, hD0, hNW⟩ := hv
  have hx := B.exec
  have hb := B.bytes
  have hr := B.returns
  have hts := atoms_spec (ws := wsX9_fetchesIt) B.pre
  have hown : s.vm.findClass RX9 = some m.cls := findClass_of_methodNamed B.named
  have hlocks := B.notSynchronized
  have hinX9 : ∀ w ∈ u_ws RX9 TX9 13, w ∈ wsX9_fetchesIt := by decide +kernel
  have hw1 := hts (.fieldLink RX9 7 "GlideShelvesModel" "s" "[I") (by decide +kernel)
  subst hsz
  have hD := hD0.self (sz := s.heap.size)
  generalize hAe : va_A (wX9 cI cZ a M) s.heap.size = A at hD ⊢
  have hA : ∀ q : Nat, s.heap.size ≤ q → A q := fun q h => by rw [← hAe]; exact Or.inr h
  have hS : va_S A s.heap s.heap [] := va_S.rf
  have hl := lv_entry ([.ref (a 0), .int a1]) (n := 3) (Nat.le_of_ble_eq_true rfl)
  rw [lg_entry_eq]
  generalize (lg_sl ([.ref (a 0), .int a1]) ++ List.replicate (3 - (lg_sl ([.ref (a 0), .int a1])).length) Slot.unset).toArray = ls at hl ⊢
  have hl : lv_has ls 3 [(0, .ref (a 0)), (1, .int a1)] := hl
  unfold fX9_fetchesIt at hf
  suffices hgo : ∀ (H : Heap) (locs : List Loc), va_P (dC, dI) vwCl (wX9 cI cZ a M) H → va_D A (wX9 cI cZ a M) → va_S A s.heap H locs → W p l e (headSpec wsX9_fetchesIt ({ frames := 3, cells := 0, slots := 0, locals := 65 } : Room)).room s m ([.ref (a 0), .int a1] : List Value).toArray below meth c H locs 0 0 (MQ below (va_Qi (S := Unit) (fun r _ => r = z.1) (fun _ t => WE (dC, dI) cI cZ (wX9 cI cZ a (sr M 1 (z.2 1))) A t) A) ([.ref (a 0), .int a1] : List Value).toArray s 0 0 A) (F0 m 0 ls []) from hgo _ _ hP hD hS
  intro H locs hP hD hS
  refine lv_aload_n hx hb dX9_fetchesIt_0 rfl (lv_at hl 0 rfl) ?_
  refine lv_iload_n hx hb dX9_fetchesIt_1 rfl (lv_at hl 1 rfl) ?_
  obtain ⟨r2, hc2, hf⟩ := bi_s hf
  have hPc := hP
  refine cRO (W.runV (As := [.int a1]) (rest := []) ⟨hx, hb, hml, hown, hts⟩ (c_X9_wayTo l dC dI cI cZ a M a1 r2 hc2) (cwV 1 hts gX9_fetchesIt_X9_wayTo rfl rfl rfl (by decide +kernel) ⟨Nat.le_of_ble_eq_true rfl, Nat.le_of_ble_eq_true rfl⟩) ⟨RO.blind, va_recv hK hP (ci := 9) (q0 := 0) rfl rfl, RO.pre hPc hK hNW⟩ rfl rfl hl.1 rfl (lv_room (Nat.le_of_ble_eq_true rfl)) dX9_fetchesIt_2 ⟨Nat.le_of_ble_eq_true rfl, Nat.le_of_ble_eq_true rfl⟩) ?_
  refine lv_istore_n (lv' := [(2, .int r2), (0, .ref (a 0)), (1, .int a1)]) hx hb dX9_fetchesIt_5 rfl hl (by decide) rfl (fun ls hl => ?_)
  refine lv_aload_n hx hb dX9_fetchesIt_6 rfl (lv_at hl 1 rfl) ?_
  refine va_get (D := (dC, dI)) (ci := 9) (v := .ref (a 1)) (C := RX9) (T := TX9) (N := 13) hx hb hts hinX9 hown hK hP 0 rfl rfl 1 (by decide) hw1 (fun _ h9 => h9) rfl dX9_fetchesIt_7 ?_
  refine lv_iconst (v := (2 : Int32)) hx hb dX9_fetchesIt_10 (by decide) ?_
  refine lv_iconst (v := (0 : Int32)) hx hb dX9_fetchesIt_11 (by decide) ?_
  obtain ⟨hi, hf⟩ := gd_s hf
  refine va_iast (D := (dC, dI)) (f := (M 1)) hx hb hK hP hD hS 1 0 rfl rfl (inb_in hi) dX9_fetchesIt_12 (fun H locs hP hD hS => ?_)
  have hP : va_P (dC, dI) vwCl (wX9 cI cZ a (sr M 1 (upd (M 1) (2 : Int32).toNatClampNeg (0 : Int32)))) H := hP
  have hD : va_D A (wX9 cI cZ a (sr M 1 (upd (M 1) (2 : Int32).toNatClampNeg (0 : Int32)))) := hD
  refine lv_aload_n hx hb dX9_fetchesIt_13 rfl (lv_at hl 1 rfl) ?_
  refine va_get (D := (dC, dI)) (ci := 9) (v := .ref (a 1)) (C := RX9) (T := TX9) (N := 13) hx hb hts hinX9 hown hK hP 0 rfl rfl 1 (by decide) hw1 (fun _ h9 => h9) rfl dX9_fetchesIt_14 ?_
  refine lv_iconst (v := (1 : Int32)) hx hb dX9_fetchesIt_17 (by decide) ?_
  refine lv_iload_n hx hb dX9_fetchesIt_18 rfl (lv_at hl 2 rfl) ?_
  obtain ⟨hi, hf⟩ := gd_s hf
  refine va_iast (D := (dC, dI)) (f := (upd (M 1) (2 : Int32).toNatClampNeg (0 : Int32))) hx hb hK hP hD hS 1 0 rfl rfl (inb_in hi) dX9_fetchesIt_19 (fun H locs hP hD hS => ?_)
  have hP : va_P (dC, dI) vwCl (wX9 cI cZ a (sr M 1 (upd (upd (M 1) (2 : Int32).toNatClampNeg (0 : Int32)) (1 : Int32).toNatClampNeg a1))) H := hP
  have hD : va_D A (wX9 cI cZ a (sr M 1 (upd (upd (M 1) (2 : Int32).toNatClampNeg (0 : Int32)) (1 : Int32).toNatClampNeg a1))) := hD
  refine lv_aload_n hx hb dX9_fetchesIt_20 rfl (lv_at hl 1 rfl) ?_
  refine va_get (D := (dC, dI)) (ci := 9) (v := .ref (a 1)) (C := RX9) (T := TX9) (N := 13) hx hb hts hinX9 hown hK hP 0 rfl rfl 1 (by decide) hw1 (fun _ h9 => h9) rfl dX9_fetchesIt_21 ?_
  refine lv_iconst (v := (5 : Int32)) hx hb dX9_fetchesIt_24 (by decide) ?_
  refine lv_dup2_11 hx hb dX9_fetchesIt_25 rfl rfl ?_
  obtain ⟨hi, hf⟩ := gd_s hf
  refine va_iald (D := (dC, dI)) (f := (upd (upd (M 1) (2 : Int32).toNatClampNeg (0 : Int32)) (1 : Int32).toNatClampNeg a1)) hx hb hK hP 1 0 rfl rfl (inb_in hi) dX9_fetchesIt_26 ?_
  refine lv_iconst (v := (1 : Int32)) hx hb dX9_fetchesIt_27 (by decide) ?_
  refine lv_iadd hx hb dX9_fetchesIt_28 ?_
  obtain ⟨hi, hf⟩ := gd_s hf
  refine va_iast (D := (dC, dI)) (f := (upd (upd (M 1) (2 : Int32).toNatClampNeg (0 : Int32)) (1 : Int32).toNatClampNeg a1)) hx hb hK hP hD hS 1 0 rfl rfl (inb_in hi) dX9_fetchesIt_29 (fun H locs hP hD hS => ?_)
  have hP : va_P (dC, dI) vwCl (wX9 cI cZ a (sr M 1 (upd (upd (upd (M 1) (2 : Int32).toNatClampNeg (0 : Int32)) (1 : Int32).toNatClampNeg a1) (5 : Int32).toNatClampNeg (((upd (upd (M 1) (2 : Int32).toNatClampNeg (0 : Int32)) (1 : Int32).toNatClampNeg a1) (5 : Int32).toNatClampNeg) + (1 : Int32))))) H := hP
  have hD : va_D A (wX9 cI cZ a (sr M 1 (upd (upd (upd (M 1) (2 : Int32).toNatClampNeg (0 : Int32)) (1 : Int32).toNatClampNeg a1) (5 : Int32).toNatClampNeg (((upd (upd (M 1) (2 : Int32).toNatClampNeg (0 : Int32)) (1 : Int32).toNatClampNeg a1) (5 : Int32).toNatClampNeg) + (1 : Int32))))) := hD
  refine lv_aload_n hx hb dX9_fetchesIt_30 rfl (lv_at hl 1 rfl) ?_
  refine lv_iload_n hx hb dX9_fetchesIt_31 rfl (lv_at hl 2 rfl) ?_
  refine lv_iconst (v := (3 : Int32)) hx hb dX9_fetchesIt_32 (by decide) ?_
  refine lv_aload_n hx hb dX9_fetchesIt_33 rfl (lv_at hl 1 rfl) ?_
  refine lv_iload_n hx hb dX9_fetchesIt_34 rfl (lv_at hl 2 rfl) ?_
  refine lv_iconst (v := (3 : Int32)) hx hb dX9_fetchesIt_35 (by decide) ?_
  obtain ⟨r36, hc36, hf⟩ := bi_s hf
  have hPc := hP
  refine cRO (W.runV (As := [.int a1, .int (3 : Int32)]) (rest := [.int (3 : Int32), .int a1, .ref (a 0)]) ⟨hx, hb, hml, hown, hts⟩ (c_X9_of l dC dI cI cZ a (sr M 1 (upd (upd (upd (M 1) (2 : Int32).toNatClampNeg (0 : Int32)) (1 : Int32).toNatClampNeg a1) (5 : Int32).toNatClampNeg (((upd (upd (M 1) (2 : Int32).toNatClampNeg (0 : Int32)) (1 : Int32).toNatClampNeg a1) (5 : Int32).toNatClampNeg) + (1 : Int32)))) a1 (3 : Int32) r36 hc36) (cwV 2 hts gX9_fetchesIt_X9_of rfl rfl rfl (by decide +kernel) ⟨Nat.le_of_ble_eq_true rfl, Nat.le_of_ble_eq_true rfl⟩) ⟨RO.blind, va_recv hK hP (ci := 9) (q0 := 0) rfl rfl, RO.pre hPc hK hNW⟩ rfl rfl hl.1 rfl (lv_room (Nat.le_of_ble_eq_true rfl)) dX9_fetchesIt_36 ⟨Nat.le_of_ble_eq_true rfl, Nat.le_of_ble_eq_true rfl⟩) ?_
  refine lv_iconst (v := (1 : Int32)) hx hb dX9_fetchesIt_39 (by decide) ?_
  refine lv_iadd hx hb dX9_fetchesIt_40 ?_
  obtain ⟨r41, hc41, hf⟩ := bi_s hf
  have hPc := hP
  have hDc := hD
  have hFc := va_free (wc := (wX9 cI cZ a (sr M 1 (upd (upd (upd (M 1) (2 : Int32).toNatClampNeg (0 : Int32)) (1 : Int32).toNatClampNeg a1) (5 : Int32).toNatClampNeg (((upd (upd (M 1) (2 : Int32).toNatClampNeg (0 : Int32)) (1 : Int32).toNatClampNeg a1) (5 : Int32).toNatClampNeg) + (1 : Int32)))))) hD hS hA [0, 1, 2, 3, 4, 5, 6, 7, 8] rfl
  refine va_callv (va_runV (As := [.int a1, .int (3 : Int32), .int (r36 + (1 : Int32))]) (rest := []) ⟨hx, hb, hml, hown, hts⟩ (c_X9_lay l dC dI cI cZ a H.size (sr M 1 (upd (upd (upd (M 1) (2 : Int32).toNatClampNeg (0 : Int32)) (1 : Int32).toNatClampNeg a1) (5 : Int32).toNatClampNeg (((upd (upd (M 1) (2 : Int32).toNatClampNeg (0 : Int32)) (1 : Int32).toNatClampNeg a1) (5 : Int32).toNatClampNeg) + (1 : Int32)))) a1 (3 : Int32) (r36 + (1 : Int32)) r41 hc41) (cwV 3 hts gX9_fetchesIt_X9_lay rfl rfl rfl (by decide +kernel) ⟨Nat.le_of_ble_eq_true rfl, Nat.le_of_ble_eq_true rfl⟩) ⟨WR.blind, va_recv hK hP (ci := 9) (q0 := 0) rfl rfl, WR.pre hPc hK hDc hNW⟩ rfl rfl hl.1 rfl (lv_room (Nat.le_of_ble_eq_true rfl)) dX9_fetchesIt_41 ⟨Nat.le_of_ble_eq_true rfl, Nat.le_of_ble_eq_true rfl⟩) hS (fun q _ h => hFc q h) hFc (fun u t H1 locs ht hvm hw hB hz1 hk1 hS => ?_)
  obtain ⟨hP1, hD1⟩ := hB
  rw [ht] at hP1
  have hP := hP1
  have hD := hD1.weaken (fun k q _ h => hFc q.1 h)
  have hP : va_P (dC, dI) vwCl (wX9 cI cZ a (sr M 1 (r41 1))) H1 := hP
  have hD : va_D A (wX9 cI cZ a (sr M 1 (r41 1))) := hD
  generalize H1 = H at hP hS ⊢
  refine lv_aload_n hx hb dX9_fetchesIt_44 rfl (lv_at hl 1 rfl) ?_
  refine lv_iload_n hx hb dX9_fetchesIt_45 rfl (lv_at hl 0 rfl) ?_
  refine lv_iconst (v := (1 : Int32)) hx hb dX9_fetchesIt_46 (by decide) ?_
  obtain ⟨r47, hc47, hf⟩ := bi_s hf
  have hPc := hP
  have hDc := hD
  have hFc := va_free (wc := (wX9 cI cZ a (sr M 1 (r41 1)))) hD hS hA [0, 1, 2, 3, 4, 5, 6, 7, 8] rfl
  refine va_callv (va_runV (As := [.int r2, .int (1 : Int32)]) (rest := []) ⟨hx, hb, hml, hown, hts⟩ (c_X9_notesTrip l dC dI cI cZ a H.size (sr M 1 (r41 1)) r2 (1 : Int32) r47 hc47) (cwV 2 hts gX9_fetchesIt_X9_notesTrip rfl rfl rfl (by decide +kernel) ⟨Nat.le_of_ble_eq_true rfl, Nat.le_of_ble_eq_true rfl⟩) ⟨WR.blind, va_recv hK hP (ci := 9) (q0 := 0) rfl rfl, WR.pre hPc hK hDc hNW⟩ rfl rfl hl.1 rfl (lv_room (Nat.le_of_ble_eq_true rfl)) dX9_fetchesIt_47 ⟨Nat.le_of_ble_eq_true rfl, Nat.le_of_ble_eq_true rfl⟩) hS (fun q _ h => hFc q h) hFc (fun u t H1 locs ht hvm hw hB hz1 hk1 hS => ?_)
  obtain ⟨hP1, hD1⟩ := hB
  rw [ht] at hP1
  have hP := hP1
  have hD := hD1.weaken (fun k q _ h => hFc q.1 h)
  have hP : va_P (dC, dI) vwCl (wX9 cI cZ a (sr M 1 (r47 1))) H1 := hP
  have hD : va_D A (wX9 cI cZ a (sr M 1 (r47 1))) := hD
  generalize H1 = H at hP hS ⊢
  refine lv_iload_n hx hb dX9_fetchesIt_50 rfl (lv_at hl 0 rfl) ?_
  have e9 := so_e hf
  subst e9
  exact W.iret (v := r2) hx hb hr (fun t ht hW => ⟨⟨r2, (), rfl, rfl, WE.mk hP hD ht⟩, hS.F ht⟩) hS.2.2 dX9_fetchesIt_51
set_option maxHeartbeats 4000000 in
set_option maxRecDepth 100000 in
theorem c_X9_stows (l : Launch) (dC : Nat → ClassId) (dI : Nat → Nat → Nat) (cI cZ : ClassId) (a : Nat → Nat) (sz : Nat) (M : Mem) (a1 : Int32) (z : Int32 × Mem) (hf : fX9_stows M a1 = some z) : Met l yX9_stows wsX9_stows ({ frames := 2, cells := 0, slots := 0, locals := 45 } : Room) (va_Pc [.ref (a 0), .int a1] (WR (dC, dI) cI cZ (wX9 cI cZ a M) sz)) (va_Qi (S := Unit) (fun r _ => r = z.1) (fun _ t => WE (dC, dI) cI cZ (wX9 cI cZ a (sr M 1 (z.2 1))) (va_A (wX9 cI cZ a M) sz) t) (va_A (wX9 cI cZ a M) sz)) 0 0 (va_A (wX9 cI cZ a M) sz) := by
  refine Met.ofW (cc := cX9_stows) (maxL := 3) (ret := (some .int)) (by decide) rfl ?_
  intro p e s m args below meth c s₁ B hml hv
  obtain ⟨rfl, hsz, hP, hK, hD0, hNW⟩ := hv
  have hx := B.exec
  have hb := B.bytes
  have hr := B.returns
  have hts := atoms_spec (ws := wsX9_stows) B.pre
  have hown : s.vm.findClass RX9 = some m.cls := findClass_of_methodNamed B.named
  have hlocks := B.notSynchronized
  have hinX9 : ∀ w ∈ u_ws RX9 TX9 13, w ∈ wsX9_stows := by decide +kernel
  have hw1 := hts (.fieldLink RX9 7 "GlideShelvesModel" "s" "[I") (by decide +kernel)
  subst hsz
  have hD := hD0.self (sz := s.heap.size)
  generalize hAe : va_A (wX9 cI cZ a M) s.heap.size = A at hD ⊢
  have hA : ∀ q : Nat, s.heap.size ≤ q → A q := fun q h => by rw [← hAe]; exact Or.inr h
  have hS : va_S A s.heap s.heap [] := va_S.rf
  have hl := lv_entry ([.ref (a 0), .int a1]) (n := 3) (Nat.le_of_ble_eq_true rfl)
  rw [lg_entry_eq]
  generalize (lg_sl ([.ref (a 0), .int a1]) ++ List.replicate (3 - (lg_sl ([.ref (a 0), .int a1])).length) Slot.unset).toArray = ls at hl ⊢
  have hl : lv_has ls 3 [(0, .ref (a 0)), (1, .int a1)] := hl
  unfold fX9_stows at hf
  suffices hgo : ∀ (H : Heap) (locs : List Loc), va_P (dC, dI) vwCl (wX9 cI cZ a M) H → va_D A (wX9 cI cZ a M) → va_S A s.heap H locs → W p l e (headSpec wsX9_stows ({ frames := 2, cells := 0, slots := 0, locals := 45 } : Room)).room s m ([.ref (a 0), .int a1] : List Value).toArray below meth c H locs 0 0 (MQ below (va_Qi (S := Unit) (fun r _ => r = z.1) (fun _ t => WE (dC, dI) cI cZ (wX9 cI cZ a (sr M 1 (z.2 1))) A t) A) ([.ref (a 0), .int a1] : List Value).toArray s 0 0 A) (F0 m 0 ls []) from hgo _ _ hP hD hS
  intro H locs hP hD hS
  refine lv_aload_n hx hb dX9_stows_0 rfl (lv_at hl 0 rfl) ?_
  refine va_get (D := (dC, dI)) (ci := 9) (v := .ref (a 1)) (C := RX9) (T := TX9) (N := 13) hx hb hts hinX9 hown hK hP 0 rfl rfl 1 (by decide) hw1 (fun _ h9 => h9) rfl dX9_stows_1 ?_
  refine lv_iconst (v := (1 : Int32)) hx hb dX9_stows_4 (by decide) ?_
  obtain ⟨hi, hf⟩ := gd_s hf
  refine va_iald (D := (dC, dI)) (f := (M 1)) hx hb hK hP 1 0 rfl rfl (inb_in hi) dX9_stows_5 ?_
  refine lv_istore_n (lv' := [(2, .int (M 1 (1 : Int32).toNatClampNeg)), (0, .ref (a 0)), (1, .int a1)]) hx hb dX9_stows_6 rfl hl (by decide) rfl (fun ls hl => ?_)
  refine lv_aload_n hx hb dX9_stows_7 rfl (lv_at hl 1 rfl) ?_
  refine lv_iload_n hx hb dX9_stows_8 rfl (lv_at hl 0 rfl) ?_
  refine lv_iload_n hx hb dX9_stows_9 rfl (lv_at hl 2 rfl) ?_
  obtain ⟨r10, hc10, hf⟩ := bi_s hf
  have hPc := hP
  have hDc := hD
  have hFc := va_free (wc := (wX9 cI cZ a M)) hD hS hA [0, 1, 2, 3, 4, 5, 6, 7, 8] rfl
  refine va_callv (va_runV (As := [.int (M 1 (1 : Int32).toNatClampNeg), .int a1]) (rest := []) ⟨hx, hb, hml, hown, hts⟩ (c_X9_puts l dC dI cI cZ a H.size M (M 1 (1 : Int32).toNatClampNeg) a1 r10 hc10) (cwV 2 hts gX9_stows_X9_puts rfl rfl rfl (by decide +kernel) ⟨Nat.le_of_ble_eq_true rfl, Nat.le_of_ble_eq_true rfl⟩) ⟨WR.blind, va_recv hK hP (ci := 9) (q0 := 0) rfl rfl, WR.pre hPc hK hDc hNW⟩ rfl rfl hl.1 rfl (lv_room (Nat.le_of_ble_eq_true rfl)) dX9_stows_10 ⟨Nat.le_of_ble_eq_true rfl, Nat.le_of_ble_eq_true rfl⟩) hS (fun q _ h => hFc q h) hFc (fun u t H1 locs ht hvm hw hB hz1 hk1 hS => ?_)
  obtain ⟨hP1, hD1⟩ := hB
  rw [ht] at hP1
  have hP := hP1
  have hD := hD1.weaken (fun k q _ h => hFc q.1 h)
  have hP : va_P (dC, dI) vwCl (wX9 cI cZ a (sr M 1 (r10 1))) H1 := hP
  have hD : va_D A (wX9 cI cZ a (sr M 1 (r10 1))) := hD
  generalize H1 = H at hP hS ⊢
  refine lv_aload_n hx hb dX9_stows_13 rfl (lv_at hl 1 rfl) ?_
  refine va_get (D := (dC, dI)) (ci := 9) (v := .ref (a 1)) (C := RX9) (T := TX9) (N := 13) hx hb hts hinX9 hown hK hP 0 rfl rfl 1 (by decide) hw1 (fun _ h9 => h9) rfl dX9_stows_14 ?_
  refine lv_iconst (v := (1 : Int32)) hx hb dX9_stows_17 (by decide) ?_
  refine lv_iconst (v := (-1 : Int32)) hx hb dX9_stows_18 (by decide) ?_
  obtain ⟨hi, hf⟩ := gd_s hf
  refine va_iast (D := (dC, dI)) (f := (r10 1)) hx hb hK hP hD hS 1 0 rfl rfl (inb_in hi) dX9_stows_19 (fun H locs hP hD hS => ?_)
  have hP : va_P (dC, dI) vwCl (wX9 cI cZ a (sr M 1 (upd (r10 1) (1 : Int32).toNatClampNeg (-1 : Int32)))) H := hP
  have hD : va_D A (wX9 cI cZ a (sr M 1 (upd (r10 1) (1 : Int32).toNatClampNeg (-1 : Int32)))) := hD
  refine lv_aload_n hx hb dX9_stows_20 rfl (lv_at hl 1 rfl) ?_
  refine va_get (D := (dC, dI)) (ci := 9) (v := .ref (a 1)) (C := RX9) (T := TX9) (N := 13) hx hb hts hinX9 hown hK hP 0 rfl rfl 1 (by decide) hw1 (fun _ h9 => h9) rfl dX9_stows_21 ?_
  refine lv_iconst (v := (2 : Int32)) hx hb dX9_stows_24 (by decide) ?_
  refine lv_aload_n hx hb dX9_stows_25 rfl (lv_at hl 1 rfl) ?_
  refine lv_iload_n hx hb dX9_stows_26 rfl (lv_at hl 0 rfl) ?_
  refine lv_iconst (v := (2 : Int32)) hx hb dX9_stows_27 (by decide) ?_
  obtain ⟨r28, hc28, hf⟩ := bi_s hf
  have hPc := hP
  refine cRO (W.runV (As := [.int (M 1 (1 : Int32).toNatClampNeg), .int (2 : Int32)]) (rest := [.int (2 : Int32), .ref (a 1)]) ⟨hx, hb, hml, hown, hts⟩ (c_X9_of l dC dI cI cZ a (sr M 1 (upd (r10 1) (1 : Int32).toNatClampNeg (-1 : Int32))) (M 1 (1 : Int32).toNatClampNeg) (2 : Int32) r28 hc28) (cwV 2 hts gX9_stows_X9_of rfl rfl rfl (by decide +kernel) ⟨Nat.le_of_ble_eq_true rfl, Nat.le_of_ble_eq_true rfl⟩) ⟨RO.blind, va_recv hK hP (ci := 9) (q0 := 0) rfl rfl, RO.pre hPc hK hNW⟩ rfl rfl hl.1 rfl (lv_room (Nat.le_of_ble_eq_true rfl)) dX9_stows_28 ⟨Nat.le_of_ble_eq_true rfl, Nat.le_of_ble_eq_true rfl⟩) ?_
  obtain ⟨hi, hf⟩ := gd_s hf
  refine va_iast (D := (dC, dI)) (f := (upd (r10 1) (1 : Int32).toNatClampNeg (-1 : Int32))) hx hb hK hP hD hS 1 0 rfl rfl (inb_in hi) dX9_stows_31 (fun H locs hP hD hS => ?_)
  have hP : va_P (dC, dI) vwCl (wX9 cI cZ a (sr M 1 (upd (upd (r10 1) (1 : Int32).toNatClampNeg (-1 : Int32)) (2 : Int32).toNatClampNeg r28))) H := hP
  have hD : va_D A (wX9 cI cZ a (sr M 1 (upd (upd (r10 1) (1 : Int32).toNatClampNeg (-1 : Int32)) (2 : Int32).toNatClampNeg r28))) := hD
  refine lv_aload_n hx hb dX9_stows_32 rfl (lv_at hl 1 rfl) ?_
  refine lv_aload_n hx hb dX9_stows_33 rfl (lv_at hl 1 rfl) ?_
  refine lv_iload_n hx hb dX9_stows_34 rfl (lv_at hl 0 rfl) ?_
  obtain ⟨r35, hc35, hf⟩ := bi_s hf
  have hPc := hP
  refine cRO (W.runV (As := [.int (M 1 (1 : Int32).toNatClampNeg)]) (rest := [.ref (a 0)]) ⟨hx, hb, hml, hown, hts⟩ (c_X9_way l dC dI cI cZ a (sr M 1 (upd (upd (r10 1) (1 : Int32).toNatClampNeg (-1 : Int32)) (2 : Int32).toNatClampNeg r28)) (M 1 (1 : Int32).toNatClampNeg) r35 hc35) (cwV 1 hts gX9_stows_X9_way rfl rfl rfl (by decide +kernel) ⟨Nat.le_of_ble_eq_true rfl, Nat.le_of_ble_eq_true rfl⟩) ⟨RO.blind, va_recv hK hP (ci := 9) (q0 := 0) rfl rfl, RO.pre hPc hK hNW⟩ rfl rfl hl.1 rfl (lv_room (Nat.le_of_ble_eq_true rfl)) dX9_stows_35 ⟨Nat.le_of_ble_eq_true rfl, Nat.le_of_ble_eq_true rfl⟩) ?_
  refine lv_iconst (v := (0 : Int32)) hx hb dX9_stows_38 (by decide) ?_
  obtain ⟨r39, hc39, hf⟩ := bi_s hf
  have hPc := hP
  have hDc := hD
  have hFc := va_free (wc := (wX9 cI cZ a (sr M 1 (upd (upd (r10 1) (1 : Int32).toNatClampNeg (-1 : Int32)) (2 : Int32).toNatClampNeg r28)))) hD hS hA [0, 1, 2, 3, 4, 5, 6, 7, 8] rfl
  refine va_callv (va_runV (As := [.int r35, .int (0 : Int32)]) (rest := []) ⟨hx, hb, hml, hown, hts⟩ (c_X9_notesTrip l dC dI cI cZ a H.size (sr M 1 (upd (upd (r10 1) (1 : Int32).toNatClampNeg (-1 : Int32)) (2 : Int32).toNatClampNeg r28)) r35 (0 : Int32) r39 hc39) (cwV 2 hts gX9_stows_X9_notesTrip rfl rfl rfl (by decide +kernel) ⟨Nat.le_of_ble_eq_true rfl, Nat.le_of_ble_eq_true rfl⟩) ⟨WR.blind, va_recv hK hP (ci := 9) (q0 := 0) rfl rfl, WR.pre hPc hK hDc hNW⟩ rfl rfl hl.1 rfl (lv_room (Nat.le_of_ble_eq_true rfl)) dX9_stows_39 ⟨Nat.le_of_ble_eq_true rfl, Nat.le_of_ble_eq_true rfl⟩) hS (fun q _ h => hFc q h) hFc (fun u t H1 locs ht hvm hw hB hz1 hk1 hS => ?_)
  obtain ⟨hP1, hD1⟩ := hB
  rw [ht] at hP1
  have hP := hP1
  have hD := hD1.weaken (fun k q _ h => hFc q.1 h)
  have hP : va_P (dC, dI) vwCl (wX9 cI cZ a (sr M 1 (r39 1))) H1 := hP
  have hD : va_D A (wX9 cI cZ a (sr M 1 (r39 1))) := hD
  generalize H1 = H at hP hS ⊢
  refine lv_aload_n hx hb dX9_stows_42 rfl (lv_at hl 1 rfl) ?_
  refine lv_iload_n hx hb dX9_stows_43 rfl (lv_at hl 0 rfl) ?_
  obtain ⟨r44, hc44, hf⟩ := bi_s hf
  have hPc := hP
  refine cRO (W.runV (As := [.int (M 1 (1 : Int32).toNatClampNeg)]) (rest := []) ⟨hx, hb, hml, hown, hts⟩ (c_X9_way l dC dI cI cZ a (sr M 1 (r39 1)) (M 1 (1 : Int32).toNatClampNeg) r44 hc44) (cwV 1 hts gX9_stows_X9_way rfl rfl rfl (by decide +kernel) ⟨Nat.le_of_ble_eq_true rfl, Nat.le_of_ble_eq_true rfl⟩) ⟨RO.blind, va_recv hK hP (ci := 9) (q0 := 0) rfl rfl, RO.pre hPc hK hNW⟩ rfl rfl hl.1 rfl (lv_room (Nat.le_of_ble_eq_true rfl)) dX9_stows_44 ⟨Nat.le_of_ble_eq_true rfl, Nat.le_of_ble_eq_true rfl⟩) ?_
  have e9 := so_e hf
  subst e9
  exact W.iret (v := r44) hx hb hr (fun t ht hW => ⟨⟨r44, (), rfl, rfl, WE.mk hP hD ht⟩, hS.F ht⟩) hS.2.2 dX9_stows_47
set_option maxHeartbeats 4000000 in
set_option maxRecDepth 100000 in
theorem c_X9_stowPlace (l : Launch) (dC : Nat → ClassId) (dI : Nat → Nat → Nat) (cI cZ : ClassId) (a : Nat → Nat) (M : Mem) (z : Int32) (hf : fX9_stowPlace M  = some z) : Met l yX9_stowPlace wsX9_stowPlace ({ frames := 4, cells := 0, slots := 0, locals := 94 } : Room) (va_Pc [.ref (a 0)] (RO (dC, dI) cI cZ (wX9 cI cZ a M))) (k2_QcV (.int z)) 0 0 (fun _ => False) := by
  refine Met.ofW (cc := cX9_stowPlace) (maxL := 2) (ret := (some .int)) (by decide) rfl ?_
  intro p e s m args below meth c s₁ B hml hv
  obtain ⟨rfl, hP, hK, hNW⟩ := hv
  have hx := B.exec
  have hb := B.bytes
  have hr := B.returns
  have hts := atoms_spec (ws := wsX9_stowPlace) B.pre
  have hown : s.vm.findClass RX9 = some m.cls := findClass_of_methodNamed B.named
  have hlocks := B.notSynchronized
  have hinX9 : ∀ w ∈ u_ws RX9 TX9 13, w ∈ wsX9_stowPlace := by decide +kernel
  have hw1 := hts (.fieldLink RX9 7 "GlideShelvesModel" "s" "[I") (by decide +kernel)
  have hfX9_stowPlace_B46 : ∀ (s0 : Int32), fX9_stowPlace_B46 M  s0 = some z → ∀ (ls : Array Slot), lv_has ls 2 [] → W p l e (headSpec wsX9_stowPlace ({ frames := 4, cells := 0, slots := 0, locals := 94 } : Room)).room s m ([.ref (a 0)] : List Value).toArray below meth c s.heap [] 0 0 (MQ below (k2_QcV (.int z)) ([.ref (a 0)] : List Value).toArray s 0 0 (fun _ => False)) (F0 m 46 ls [.int s0]) := by
    intro  s0 hf ls hl
    unfold fX9_stowPlace_B46 at hf
    exact W.iret (v := s0) hx hb hr (fun t ht hW => ⟨congrArg (fun x => Outcome.returned (some (Value.int x))) (so_e hf), ht⟩) fl0 dX9_stowPlace_46
  have hl := lv_entry ([.ref (a 0)]) (n := 2) (Nat.le_of_ble_eq_true rfl)
  rw [lg_entry_eq]
  generalize (lg_sl ([.ref (a 0)]) ++ List.replicate (2 - (lg_sl ([.ref (a 0)])).length) Slot.unset).toArray = ls at hl ⊢
  have hl : lv_has ls 2 [(0, .ref (a 0))] := hl
  unfold fX9_stowPlace at hf
  refine lv_aload_n hx hb dX9_stowPlace_0 rfl (lv_at hl 0 rfl) ?_
  refine va_get (D := (dC, dI)) (ci := 9) (v := .ref (a 1)) (C := RX9) (T := TX9) (N := 13) hx hb hts hinX9 hown hK hP 0 rfl rfl 1 (by decide) hw1 (fun _ h9 => h9) rfl dX9_stowPlace_1 ?_
  refine lv_iconst (v := (1 : Int32)) hx hb dX9_stowPlace_4 (by decide) ?_
  obtain ⟨hi, hf⟩ := gd_s hf
  refine va_iald (D := (dC, dI)) (f := (M 1)) hx hb hK hP 1 0 rfl rfl (inb_in hi) dX9_stowPlace_5 ?_
  refine lv_istore_n (lv' := [(1, .int (M 1 (1 : Int32).toNatClampNeg)), (0, .ref (a 0))]) hx hb dX9_stowPlace_6 rfl hl (by decide) rfl (fun ls hl => ?_)
  refine lv_aload_n hx hb dX9_stowPlace_7 rfl (lv_at hl 1 rfl) ?_
  refine va_get (D := (dC, dI)) (ci := 9) (v := .ref (a 1)) (C := RX9) (T := TX9) (N := 13) hx hb hts hinX9 hown hK hP 0 rfl rfl 1 (by decide) hw1 (fun _ h9 => h9) rfl dX9_stowPlace_8 ?_
  refine lv_iconst (v := (3 : Int32)) hx hb dX9_stowPlace_11 (by decide) ?_
  obtain ⟨hi, hf⟩ := gd_s hf
  refine va_iald (D := (dC, dI)) (f := (M 1)) hx hb hK hP 1 0 rfl rfl (inb_in hi) dX9_stowPlace_12 ?_
  refine lv_iconst (v := (1 : Int32)) hx hb dX9_stowPlace_13 (by decide) ?_
  refine lv_icmp_ne (tgt := 36) hx hb dX9_stowPlace_14 (by decide) (fun c9 => ?_) (fun c9 => ?_)
  · have hf := it_t hf c9
    refine lv_aload_n hx hb dX9_stowPlace_36 rfl (lv_at hl 1 rfl) ?_
    refine lv_aload_n hx hb dX9_stowPlace_37 rfl (lv_at hl 1 rfl) ?_
    refine lv_iload_n hx hb dX9_stowPlace_38 rfl (lv_at hl 0 rfl) ?_
    refine lv_iconst (v := (0 : Int32)) hx hb dX9_stowPlace_39 (by decide) ?_
    obtain ⟨r40, hc40, hf⟩ := bi_s hf
    have hPc := hP
    refine cRO (W.runV (As := [.int (M 1 (1 : Int32).toNatClampNeg), .int (0 : Int32)]) (rest := [.ref (a 0)]) ⟨hx, hb, hml, hown, hts⟩ (c_X9_of l dC dI cI cZ a M (M 1 (1 : Int32).toNatClampNeg) (0 : Int32) r40 hc40) (cwV 2 hts gX9_stowPlace_X9_of rfl rfl rfl (by decide +kernel) ⟨Nat.le_of_ble_eq_true rfl, Nat.le_of_ble_eq_true rfl⟩) ⟨RO.blind, va_recv hK hP (ci := 9) (q0 := 0) rfl rfl, RO.pre hPc hK hNW⟩ rfl rfl hl.1 rfl (lv_room (Nat.le_of_ble_eq_true rfl)) dX9_stowPlace_40 ⟨Nat.le_of_ble_eq_true rfl, Nat.le_of_ble_eq_true rfl⟩) ?_
    obtain ⟨r43, hc43, hf⟩ := bi_s hf
    have hPc := hP
    refine cRO (W.runV (As := [.int r40]) (rest := []) ⟨hx, hb, hml, hown, hts⟩ (c_X9_place l dC dI cI cZ a M r40 r43 hc43) (cwV 1 hts gX9_stowPlace_X9_place rfl rfl rfl (by decide +kernel) ⟨Nat.le_of_ble_eq_true rfl, Nat.le_of_ble_eq_true rfl⟩) ⟨RO.blind, va_recv hK hP (ci := 9) (q0 := 0) rfl rfl, RO.pre hPc hK hNW⟩ rfl rfl hl.1 rfl (lv_room (Nat.le_of_ble_eq_true rfl)) dX9_stowPlace_43 ⟨Nat.le_of_ble_eq_true rfl, Nat.le_of_ble_eq_true rfl⟩) ?_
    exact hfX9_stowPlace_B46  r43 hf _ (lv_sub hl [] rfl)
  · have hf := it_n hf c9
    refine lv_bipush (v := (20 : Int32)) hx hb dX9_stowPlace_17 (by decide) ?_
    refine lv_aload_n hx hb dX9_stowPlace_19 rfl (lv_at hl 1 rfl) ?_
    refine lv_iload_n hx hb dX9_stowPlace_20 rfl (lv_at hl 0 rfl) ?_
    refine lv_iconst (v := (1 : Int32)) hx hb dX9_stowPlace_21 (by decide) ?_
    obtain ⟨r22, hc22, hf⟩ := bi_s hf
    have hPc := hP
    refine cRO (W.runV (As := [.int (M 1 (1 : Int32).toNatClampNeg), .int (1 : Int32)]) (rest := [.int (20 : Int32)]) ⟨hx, hb, hml, hown, hts⟩ (c_X9_of l dC dI cI cZ a M (M 1 (1 : Int32).toNatClampNeg) (1 : Int32) r22 hc22) (cwV 2 hts gX9_stowPlace_X9_of rfl rfl rfl (by decide +kernel) ⟨Nat.le_of_ble_eq_true rfl, Nat.le_of_ble_eq_true rfl⟩) ⟨RO.blind, va_recv hK hP (ci := 9) (q0 := 0) rfl rfl, RO.pre hPc hK hNW⟩ rfl rfl hl.1 rfl (lv_room (Nat.le_of_ble_eq_true rfl)) dX9_stowPlace_22 ⟨Nat.le_of_ble_eq_true rfl, Nat.le_of_ble_eq_true rfl⟩) ?_
    refine lv_imul hx hb dX9_stowPlace_25 ?_
    refine lv_aload_n hx hb dX9_stowPlace_26 rfl (lv_at hl 1 rfl) ?_
    refine lv_iload_n hx hb dX9_stowPlace_27 rfl (lv_at hl 0 rfl) ?_
    refine lv_iconst (v := (2 : Int32)) hx hb dX9_stowPlace_28 (by decide) ?_
    obtain ⟨r29, hc29, hf⟩ := bi_s hf
    have hPc := hP
    refine cRO (W.runV (As := [.int (M 1 (1 : Int32).toNatClampNeg), .int (2 : Int32)]) (rest := [.int ((20 : Int32) * r22)]) ⟨hx, hb, hml, hown, hts⟩ (c_X9_of l dC dI cI cZ a M (M 1 (1 : Int32).toNatClampNeg) (2 : Int32) r29 hc29) (cwV 2 hts gX9_stowPlace_X9_of rfl rfl rfl (by decide +kernel) ⟨Nat.le_of_ble_eq_true rfl, Nat.le_of_ble_eq_true rfl⟩) ⟨RO.blind, va_recv hK hP (ci := 9) (q0 := 0) rfl rfl, RO.pre hPc hK hNW⟩ rfl rfl hl.1 rfl (lv_room (Nat.le_of_ble_eq_true rfl)) dX9_stowPlace_29 ⟨Nat.le_of_ble_eq_true rfl, Nat.le_of_ble_eq_true rfl⟩) ?_
    refine lv_iadd hx hb dX9_stowPlace_32 ?_
    refine lv_goto (tgt := 46) hx hb dX9_stowPlace_33 (by decide) ?_
    exact hfX9_stowPlace_B46  (((20 : Int32) * r22) + r29) hf _ (lv_sub hl [] rfl)
set_option maxHeartbeats 4000000 in
set_option maxRecDepth 100000 in
theorem c_X9_isAhead (l : Launch) (dC : Nat → ClassId) (dI : Nat → Nat → Nat) (cI cZ : ClassId) (a : Nat → Nat) (M : Mem) (a1 : Int32) (a2 : Int32) (z : Int32) (hf : fX9_isAhead M a1 a2 = some z) : Met l yX9_isAhead wsX9_isAhead ({ frames := 1, cells := 0, slots := 0, locals := 22 } : Room) (va_Pc [.ref (a 0), .int a1, .int a2] (RO (dC, dI) cI cZ (wX9 cI cZ a M))) (k2_QcV (.int z)) 0 0 (fun _ => False) := by
  refine Met.ofW (cc := cX9_isAhead) (maxL := 4) (ret := (some .boolean)) (by decide) rfl ?_
  intro p e s m args below meth c s₁ B hml hv
  obtain ⟨rfl, hP, hK, hNW⟩ := hv
  have hx := B.exec
  have hb := B.bytes
  have hr := B.returns
  have hts := atoms_spec (ws := wsX9_isAhead) B.pre
  have hown : s.vm.findClass RX9 = some m.cls := findClass_of_methodNamed B.named
  have hlocks := B.notSynchronized
  have hfX9_isAhead_B32 : ∀ (s0 : Int32), fX9_isAhead_B32 M  s0 = some z → ∀ (ls : Array Slot), lv_has ls 4 [] → W p l e (headSpec wsX9_isAhead ({ frames := 1, cells := 0, slots := 0, locals := 22 } : Room)).room s m ([.ref (a 0), .int a1, .int a2] : List Value).toArray below meth c s.heap [] 0 0 (MQ below (k2_QcV (.int z)) ([.ref (a 0), .int a1, .int a2] : List Value).toArray s 0 0 (fun _ => False)) (F0 m 32 ls [.int s0]) := by
    intro  s0 hf ls hl
    unfold fX9_isAhead_B32 at hf
    obtain ⟨hz, hf⟩ := gd_s hf
    exact W.zret (v := s0) hx hb hr (isb_nar hz) (fun t ht hW => ⟨congrArg (fun x => Outcome.returned (some (Value.int x))) (so_e hf), ht⟩) fl0 dX9_isAhead_32
  have hfX9_isAhead_B27 : ∀ (_ : Unit), fX9_isAhead_B27 M  () = some z → ∀ (ls : Array Slot), lv_has ls 4 [] → W p l e (headSpec wsX9_isAhead ({ frames := 1, cells := 0, slots := 0, locals := 22 } : Room)).room s m ([.ref (a 0), .int a1, .int a2] : List Value).toArray below meth c s.heap [] 0 0 (MQ below (k2_QcV (.int z)) ([.ref (a 0), .int a1, .int a2] : List Value).toArray s 0 0 (fun _ => False)) (F0 m 27 ls []) := by
    intro  _ hf ls hl
    unfold fX9_isAhead_B27 at hf
    refine lv_iconst (v := (1 : Int32)) hx hb dX9_isAhead_27 (by decide) ?_
    refine lv_goto (tgt := 32) hx hb dX9_isAhead_28 (by decide) ?_
    exact hfX9_isAhead_B32  (1 : Int32) hf _ (lv_sub hl [] rfl)
  have hfX9_isAhead_B31 : ∀ (_ : Unit), fX9_isAhead_B31 M  () = some z → ∀ (ls : Array Slot), lv_has ls 4 [] → W p l e (headSpec wsX9_isAhead ({ frames := 1, cells := 0, slots := 0, locals := 22 } : Room)).room s m ([.ref (a 0), .int a1, .int a2] : List Value).toArray below meth c s.heap [] 0 0 (MQ below (k2_QcV (.int z)) ([.ref (a 0), .int a1, .int a2] : List Value).toArray s 0 0 (fun _ => False)) (F0 m 31 ls []) := by
    intro  _ hf ls hl
    unfold fX9_isAhead_B31 at hf
    refine lv_iconst (v := (0 : Int32)) hx hb dX9_isAhead_31 (by decide) ?_
    exact hfX9_isAhead_B32  (0 : Int32) hf _ (lv_sub hl [] rfl)
  have hl := lv_entry ([.ref (a 0), .int a1, .int a2]) (n := 4) (Nat.le_of_ble_eq_true rfl)
  rw [lg_entry_eq]
  generalize (lg_sl ([.ref (a 0), .int a1, .int a2]) ++ List.replicate (4 - (lg_sl ([.ref (a 0), .int a1, .int a2])).length) Slot.unset).toArray = ls at hl ⊢
  have hl : lv_has ls 4 [(0, .ref (a 0)), (1, .int a1), (2, .int a2)] := hl
  unfold fX9_isAhead at hf
  refine lv_aload_n hx hb dX9_isAhead_0 rfl (lv_at hl 0 rfl) ?_
  refine lv_iload_n hx hb dX9_isAhead_1 rfl (lv_at hl 2 rfl) ?_
  refine lv_iconst (v := (3 : Int32)) hx hb dX9_isAhead_2 (by decide) ?_
  obtain ⟨r3, hc3, hf⟩ := bi_s hf
  have hPc := hP
  refine cRO (W.runV (As := [.int a2, .int (3 : Int32)]) (rest := []) ⟨hx, hb, hml, hown, hts⟩ (c_X9_of l dC dI cI cZ a M a2 (3 : Int32) r3 hc3) (cwV 2 hts gX9_isAhead_X9_of rfl rfl rfl (by decide +kernel) ⟨Nat.le_of_ble_eq_true rfl, Nat.le_of_ble_eq_true rfl⟩) ⟨RO.blind, va_recv hK hP (ci := 9) (q0 := 0) rfl rfl, RO.pre hPc hK hNW⟩ rfl rfl hl.1 rfl (lv_room (Nat.le_of_ble_eq_true rfl)) dX9_isAhead_3 ⟨Nat.le_of_ble_eq_true rfl, Nat.le_of_ble_eq_true rfl⟩) ?_
  refine lv_aload_n hx hb dX9_isAhead_6 rfl (lv_at hl 0 rfl) ?_
  refine lv_iload_n hx hb dX9_isAhead_7 rfl (lv_at hl 1 rfl) ?_
  refine lv_iconst (v := (3 : Int32)) hx hb dX9_isAhead_8 (by decide) ?_
  obtain ⟨r9, hc9, hf⟩ := bi_s hf
  have hPc := hP
  refine cRO (W.runV (As := [.int a1, .int (3 : Int32)]) (rest := [.int r3]) ⟨hx, hb, hml, hown, hts⟩ (c_X9_of l dC dI cI cZ a M a1 (3 : Int32) r9 hc9) (cwV 2 hts gX9_isAhead_X9_of rfl rfl rfl (by decide +kernel) ⟨Nat.le_of_ble_eq_true rfl, Nat.le_of_ble_eq_true rfl⟩) ⟨RO.blind, va_recv hK hP (ci := 9) (q0 := 0) rfl rfl, RO.pre hPc hK hNW⟩ rfl rfl hl.1 rfl (lv_room (Nat.le_of_ble_eq_true rfl)) dX9_isAhead_9 ⟨Nat.le_of_ble_eq_true rfl, Nat.le_of_ble_eq_true rfl⟩) ?_
  refine lv_isub hx hb dX9_isAhead_12 ?_
  refine lv_istore_n (lv' := [(3, .int (r3 - r9)), (0, .ref (a 0)), (1, .int a1), (2, .int a2)]) hx hb dX9_isAhead_13 rfl hl (by decide) rfl (fun ls hl => ?_)
  refine lv_iload_n hx hb dX9_isAhead_14 rfl (lv_at hl 0 rfl) ?_
  refine lv_if_lt (tgt := 27) hx hb dX9_isAhead_15 (by decide) (fun c9 => ?_) (fun c9 => ?_)
  · have hf := it_t hf c9
    exact hfX9_isAhead_B27  () hf _ (lv_sub hl [] rfl)
  · have hf := it_f hf c9
    refine lv_iload_n hx hb dX9_isAhead_18 rfl (lv_at hl 0 rfl) ?_
    refine lv_if_ne (tgt := 31) hx hb dX9_isAhead_19 (by decide) (fun c9 => ?_) (fun c9 => ?_)
    · have hf := it_t hf c9
      exact hfX9_isAhead_B31  () hf _ (lv_sub hl [] rfl)
    · have hf := it_n hf c9
      refine lv_iload_n hx hb dX9_isAhead_22 rfl (lv_at hl 2 rfl) ?_
      refine lv_iload_n hx hb dX9_isAhead_23 rfl (lv_at hl 3 rfl) ?_
      refine lv_icmp_ge (tgt := 31) hx hb dX9_isAhead_24 (by decide) (fun c9 => ?_) (fun c9 => ?_)
      · have hf := it_t hf c9
        exact hfX9_isAhead_B31  () hf _ (lv_sub hl [] rfl)
      · have hf := it_f hf c9
        exact hfX9_isAhead_B27  () hf _ (lv_sub hl [] rfl)
set_option maxHeartbeats 4000000 in
set_option maxRecDepth 100000 in
theorem c_X9_packs (l : Launch) (dC : Nat → ClassId) (dI : Nat → Nat → Nat) (cI cZ : ClassId) (a : Nat → Nat) (sz : Nat) (M : Mem) (z : Int32 × Mem) (hf : fX9_packs M  = some z) : Met l yX9_packs wsX9_packs ({ frames := 4, cells := 0, slots := 0, locals := 94 } : Room) (va_Pc [.ref (a 0)] (WR (dC, dI) cI cZ (wX9 cI cZ a M) sz)) (va_Qi (S := Unit) (fun r _ => r = z.1) (fun _ t => WE (dC, dI) cI cZ (wX9 cI cZ a (sr (sr M 1 (z.2 1)) 2 (z.2 2))) (va_A (wX9 cI cZ a M) sz) t) (va_A (wX9 cI cZ a M) sz)) 0 0 (va_A (wX9 cI cZ a M) sz) := by
  refine Met.ofW (cc := cX9_packs) (maxL := 8) (ret := (some .int)) (by decide) rfl ?_
  intro p e s m args below meth c s₁ B hml hv
  obtain ⟨rfl, hsz, hP, hK, hD0, hNW⟩ := hv
  have hx := B.exec
  have hb := B.bytes
  have hr := B.returns
  have hts := atoms_spec (ws := wsX9_packs) B.pre
  have hown : s.vm.findClass RX9 = some m.cls := findClass_of_methodNamed B.named
  have hlocks := B.notSynchronized
  have hinX9 : ∀ w ∈ u_ws RX9 TX9 13, w ∈ wsX9_packs := by decide +kernel
  have hw1 := hts (.fieldLink RX9 7 "GlideShelvesModel" "s" "[I") (by decide +kernel)
  have hw2 := hts (.fieldLink RX9 13 "GlideShelvesModel" "aside" "[I") (by decide +kernel)
  subst hsz
  have hD := hD0.self (sz := s.heap.size)
  generalize hAe : va_A (wX9 cI cZ a M) s.heap.size = A at hD ⊢
  have hA : ∀ q : Nat, s.heap.size ≤ q → A q := fun q h => by rw [← hAe]; exact Or.inr h
  have hS : va_S A s.heap s.heap [] := va_S.rf
  have hfX9_packs_L10 : ∀ (n : Nat) (kx33 : Mem → Int32 → Int32 → Option (Int32 × Mem)) (hkx33 : ∀ (N : Mem) (l1 : Int32) (l2 : Int32), kx33 N l1 l2 = some z → ∀ (ls : Array Slot), lv_has ls 8 [(0, .ref (a 0)), (1, .int l1), (2, .int l2)] → ∀ (H : Heap) (locs : List Loc), va_P (dC, dI) vwCl (wX9 cI cZ a (sr (sr M 1 (N 1)) 2 (N 2))) H → va_D A (wX9 cI cZ a (sr (sr M 1 (N 1)) 2 (N 2))) → va_S A s.heap H locs → W p l e (headSpec wsX9_packs ({ frames := 4, cells := 0, slots := 0, locals := 94 } : Room)).room s m ([.ref (a 0)] : List Value).toArray below meth c H locs 0 0 (MQ below (va_Qi (S := Unit) (fun r _ => r = z.1) (fun _ t => WE (dC, dI) cI cZ (wX9 cI cZ a (sr (sr M 1 (z.2 1)) 2 (z.2 2))) A t) A) ([.ref (a 0)] : List Value).toArray s 0 0 A) (F0 m 33 ls [])), ∀ (N : Mem) (l1 : Int32) (l2 : Int32) (l3 : Int32), fX9_packs_L10 M n kx33 N l1 l2 l3 = some z → ∀ (ls : Array Slot), lv_has ls 8 [(0, .ref (a 0)), (1, .int l1), (2, .int l2), (3, .int l3)] → ∀ (H : Heap) (locs : List Loc), va_P (dC, dI) vwCl (wX9 cI cZ a (sr (sr M 1 (N 1)) 2 (N 2))) H → va_D A (wX9 cI cZ a (sr (sr M 1 (N 1)) 2 (N 2))) → va_S A s.heap H locs → W p l e (headSpec wsX9_packs ({ frames := 4, cells := 0, slots := 0, locals := 94 } : Room)).room s m ([.ref (a 0)] : List Value).toArray below meth c H locs 0 0 (MQ below (va_Qi (S := Unit) (fun r _ => r = z.1) (fun _ t => WE (dC, dI) cI cZ (wX9 cI cZ a (sr (sr M 1 (z.2 1)) 2 (z.2 2))) A t) A) ([.ref (a 0)] : List Value).toArray s 0 0 A) (F0 m 10 ls []) := by
    intro n
    induction n with
    | zero =>
      intro kx33 hkx33 N l1 l2 l3 hf ls hl H locs hP hD hS
      rw [fX9_packs_L10] at hf
      cases hf
    | succ n ih =>
      intro kx33 hkx33 N l1 l2 l3 hf ls hl H locs hP hD hS
      rw [fX9_packs_L10] at hf
      refine lv_iload_n hx hb dX9_packs_10 rfl (lv_at hl 3 rfl) ?_
      refine lv_aload_n hx hb dX9_packs_11 rfl (lv_at hl 0 rfl) ?_
      refine va_get (D := (dC, dI)) (ci := 9) (v := .ref (a 1)) (C := RX9) (T := TX9) (N := 13) hx hb hts hinX9 hown hK hP 0 rfl rfl 1 (by decide) hw1 (fun _ h9 => h9) rfl dX9_packs_12 ?_
      refine lv_iconst (v := (0 : Int32)) hx hb dX9_packs_15 (by decide) ?_
      obtain ⟨hi, hf⟩ := gd_s hf
      refine va_iald (D := (dC, dI)) (f := (N 1)) hx hb hK hP 1 0 rfl rfl (inb_in hi) dX9_packs_16 ?_
      refine lv_icmp_ge (tgt := 33) hx hb dX9_packs_17 (by decide) (fun c9 => ?_) (fun c9 => ?_)
      · have hf := it_t hf c9
        exact hkx33 (sr (sr M 1 (N 1)) 2 (N 2)) l1 l2 hf _ (lv_sub hl [0, 1, 2] rfl) _ _ hP hD hS
      · have hf := it_f hf c9
        refine lv_aload_n hx hb dX9_packs_20 rfl (lv_at hl 0 rfl) ?_
        refine lv_iload_n hx hb dX9_packs_21 rfl (lv_at hl 3 rfl) ?_
        refine lv_iconst (v := (1 : Int32)) hx hb dX9_packs_22 (by decide) ?_
        refine lv_iconst (v := (2 : Int32)) hx hb dX9_packs_23 (by decide) ?_
        obtain ⟨r24, hc24, hf⟩ := bi_s hf
        have hPc := hP
        have hDc := hD
        have hFc := va_free (wc := (wX9 cI cZ a (sr (sr M 1 (N 1)) 2 (N 2)))) hD hS hA [0, 1, 2, 3, 4, 5, 6, 7, 8] rfl
        refine va_callv (va_runV (As := [.int l3, .int (1 : Int32), .int (2 : Int32)]) (rest := []) ⟨hx, hb, hml, hown, hts⟩ (c_X9_lay l dC dI cI cZ a H.size (sr (sr M 1 (N 1)) 2 (N 2)) l3 (1 : Int32) (2 : Int32) r24 hc24) (cwV 3 hts gX9_packs_X9_lay rfl rfl rfl (by decide +kernel) ⟨Nat.le_of_ble_eq_true rfl, Nat.le_of_ble_eq_true rfl⟩) ⟨WR.blind, va_recv hK hP (ci := 9) (q0 := 0) rfl rfl, WR.pre hPc hK hDc hNW⟩ rfl rfl hl.1 rfl (lv_room (Nat.le_of_ble_eq_true rfl)) dX9_packs_24 ⟨Nat.le_of_ble_eq_true rfl, Nat.le_of_ble_eq_true rfl⟩) hS (fun q _ h => hFc q h) hFc (fun u t H1 locs ht hvm hw hB hz1 hk1 hS => ?_)
        obtain ⟨hP1, hD1⟩ := hB
        rw [ht] at hP1
        have hP := hP1
        have hD := hD1.weaken (fun k q _ h => hFc q.1 h)
        have hP : va_P (dC, dI) vwCl (wX9 cI cZ a (sr (sr M 1 (r24 1)) 2 (N 2))) H1 := hP
        have hD : va_D A (wX9 cI cZ a (sr (sr M 1 (r24 1)) 2 (N 2))) := hD
        generalize H1 = H at hP hS ⊢
        refine lv_iinc (v := (l3 + (1 : Int32))) (lv' := [(3, .int (l3 + (1 : Int32))), (0, .ref (a 0)), (1, .int l1), (2, .int l2)]) hx hb dX9_packs_27 hl (k := 3) rfl rfl (by decide) rfl (fun ls hl => ?_)
        refine lv_goto (tgt := 10) hx hb dX9_packs_30 (by decide) ?_
        exact ih kx33 hkx33 (sr (sr M 1 (r24 1)) 2 (N 2)) l1 l2 (l3 + (1 : Int32)) hf _ (lv_sub hl [1, 2, 3, 0] rfl) _ _ hP hD hS
  have hfX9_packs_B105 : ∀ (kb : Mem → Int32 → Int32 → Int32 → Int32 → Int32 → Int32 → Option (Int32 × Mem)) (hkb : ∀ (N : Mem) (l1 : Int32) (l2 : Int32) (l3 : Int32) (l4 : Int32) (l5 : Int32) (l6 : Int32), kb N l1 l2 l3 l4 l5 l6 = some z → ∀ (ls : Array Slot), lv_has ls 8 [(0, .ref (a 0)), (1, .int l1), (2, .int l2), (3, .int l3), (4, .int l4), (5, .int l5), (6, .int l6)] → ∀ (H : Heap) (locs : List Loc), va_P (dC, dI) vwCl (wX9 cI cZ a (sr (sr M 1 (N 1)) 2 (N 2))) H → va_D A (wX9 cI cZ a (sr (sr M 1 (N 1)) 2 (N 2))) → va_S A s.heap H locs → W p l e (headSpec wsX9_packs ({ frames := 4, cells := 0, slots := 0, locals := 94 } : Room)).room s m ([.ref (a 0)] : List Value).toArray below meth c H locs 0 0 (MQ below (va_Qi (S := Unit) (fun r _ => r = z.1) (fun _ t => WE (dC, dI) cI cZ (wX9 cI cZ a (sr (sr M 1 (z.2 1)) 2 (z.2 2))) A t) A) ([.ref (a 0)] : List Value).toArray s 0 0 A) (F0 m 69 ls [])) (kx114 : Mem → Int32 → Int32 → Int32 → Int32 → Int32 → Option (Int32 × Mem)) (hkx114 : ∀ (N : Mem) (l1 : Int32) (l2 : Int32) (l3 : Int32) (l4 : Int32) (l5 : Int32), kx114 N l1 l2 l3 l4 l5 = some z → ∀ (ls : Array Slot), lv_has ls 8 [(0, .ref (a 0)), (1, .int l1), (2, .int l2), (3, .int l3), (4, .int l4), (5, .int l5)] → ∀ (H : Heap) (locs : List Loc), va_P (dC, dI) vwCl (wX9 cI cZ a (sr (sr M 1 (N 1)) 2 (N 2))) H → va_D A (wX9 cI cZ a (sr (sr M 1 (N 1)) 2 (N 2))) → va_S A s.heap H locs → W p l e (headSpec wsX9_packs ({ frames := 4, cells := 0, slots := 0, locals := 94 } : Room)).room s m ([.ref (a 0)] : List Value).toArray below meth c H locs 0 0 (MQ below (va_Qi (S := Unit) (fun r _ => r = z.1) (fun _ t => WE (dC, dI) cI cZ (wX9 cI cZ a (sr (sr M 1 (z.2 1)) 2 (z.2 2))) A t) A) ([.ref (a 0)] : List Value).toArray s 0 0 A) (F0 m 114 ls [])), ∀ (N : Mem) (l1 : Int32) (l2 : Int32) (l3 : Int32) (l4 : Int32) (l6 : Int32) (s0 : Int32) (s1 : Int32), fX9_packs_B105 M kb kx114 N l1 l2 l3 l4 l6 s0 s1 = some z → ∀ (ls : Array Slot), lv_has ls 8 [(0, .ref (a 0)), (1, .int l1), (2, .int l2), (3, .int l3), (4, .int l4), (6, .int l6)] → ∀ (H : Heap) (locs : List Loc), va_P (dC, dI) vwCl (wX9 cI cZ a (sr (sr M 1 (N 1)) 2 (N 2))) H → va_D A (wX9 cI cZ a (sr (sr M 1 (N 1)) 2 (N 2))) → va_S A s.heap H locs → W p l e (headSpec wsX9_packs ({ frames := 4, cells := 0, slots := 0, locals := 94 } : Room)).room s m ([.ref (a 0)] : List Value).toArray below meth c H locs 0 0 (MQ below (va_Qi (S := Unit) (fun r _ => r = z.1) (fun _ t => WE (dC, dI) cI cZ (wX9 cI cZ a (sr (sr M 1 (z.2 1)) 2 (z.2 2))) A t) A) ([.ref (a 0)] : List Value).toArray s 0 0 A) (F0 m 105 ls [.int s1, .int s0]) := by
    intro kb hkb kx114 hkx114 N l1 l2 l3 l4 l6 s0 s1 hf ls hl H locs hP hD hS
    unfold fX9_packs_B105 at hf
    refine lv_iadd hx hb dX9_packs_105 ?_
    refine lv_istore (lv' := [(5, .int (s0 + s1)), (0, .ref (a 0)), (1, .int l1), (2, .int l2), (3, .int l3), (4, .int l4), (6, .int l6)]) hx hb dX9_packs_106 hl (by decide) rfl (fun ls hl => ?_)
    refine lv_iinc (v := (l6 + (1 : Int32))) (lv' := [(6, .int (l6 + (1 : Int32))), (5, .int (s0 + s1)), (0, .ref (a 0)), (1, .int l1), (2, .int l2), (3, .int l3), (4, .int l4)]) hx hb dX9_packs_108 hl (k := 6) rfl rfl (by decide) rfl (fun ls hl => ?_)
    refine lv_goto (tgt := 69) hx hb dX9_packs_111 (by decide) ?_
    exact hkb (sr (sr M 1 (N 1)) 2 (N 2)) l1 l2 l3 l4 (s0 + s1) (l6 + (1 : Int32)) hf _ (lv_sub hl [2, 3, 4, 5, 6, 1, 0] rfl) _ _ hP hD hS
  have hfX9_packs_B104 : ∀ (kb : Mem → Int32 → Int32 → Int32 → Int32 → Int32 → Int32 → Option (Int32 × Mem)) (hkb : ∀ (N : Mem) (l1 : Int32) (l2 : Int32) (l3 : Int32) (l4 : Int32) (l5 : Int32) (l6 : Int32), kb N l1 l2 l3 l4 l5 l6 = some z → ∀ (ls : Array Slot), lv_has ls 8 [(0, .ref (a 0)), (1, .int l1), (2, .int l2), (3, .int l3), (4, .int l4), (5, .int l5), (6, .int l6)] → ∀ (H : Heap) (locs : List Loc), va_P (dC, dI) vwCl (wX9 cI cZ a (sr (sr M 1 (N 1)) 2 (N 2))) H → va_D A (wX9 cI cZ a (sr (sr M 1 (N 1)) 2 (N 2))) → va_S A s.heap H locs → W p l e (headSpec wsX9_packs ({ frames := 4, cells := 0, slots := 0, locals := 94 } : Room)).room s m ([.ref (a 0)] : List Value).toArray below meth c H locs 0 0 (MQ below (va_Qi (S := Unit) (fun r _ => r = z.1) (fun _ t => WE (dC, dI) cI cZ (wX9 cI cZ a (sr (sr M 1 (z.2 1)) 2 (z.2 2))) A t) A) ([.ref (a 0)] : List Value).toArray s 0 0 A) (F0 m 69 ls [])) (kx114 : Mem → Int32 → Int32 → Int32 → Int32 → Int32 → Option (Int32 × Mem)) (hkx114 : ∀ (N : Mem) (l1 : Int32) (l2 : Int32) (l3 : Int32) (l4 : Int32) (l5 : Int32), kx114 N l1 l2 l3 l4 l5 = some z → ∀ (ls : Array Slot), lv_has ls 8 [(0, .ref (a 0)), (1, .int l1), (2, .int l2), (3, .int l3), (4, .int l4), (5, .int l5)] → ∀ (H : Heap) (locs : List Loc), va_P (dC, dI) vwCl (wX9 cI cZ a (sr (sr M 1 (N 1)) 2 (N 2))) H → va_D A (wX9 cI cZ a (sr (sr M 1 (N 1)) 2 (N 2))) → va_S A s.heap H locs → W p l e (headSpec wsX9_packs ({ frames := 4, cells := 0, slots := 0, locals := 94 } : Room)).room s m ([.ref (a 0)] : List Value).toArray below meth c H locs 0 0 (MQ below (va_Qi (S := Unit) (fun r _ => r = z.1) (fun _ t => WE (dC, dI) cI cZ (wX9 cI cZ a (sr (sr M 1 (z.2 1)) 2 (z.2 2))) A t) A) ([.ref (a 0)] : List Value).toArray s 0 0 A) (F0 m 114 ls [])), ∀ (N : Mem) (l1 : Int32) (l2 : Int32) (l3 : Int32) (l4 : Int32) (l6 : Int32) (s0 : Int32), fX9_packs_B104 M kb kx114 N l1 l2 l3 l4 l6 s0 = some z → ∀ (ls : Array Slot), lv_has ls 8 [(0, .ref (a 0)), (1, .int l1), (2, .int l2), (3, .int l3), (4, .int l4), (6, .int l6)] → ∀ (H : Heap) (locs : List Loc), va_P (dC, dI) vwCl (wX9 cI cZ a (sr (sr M 1 (N 1)) 2 (N 2))) H → va_D A (wX9 cI cZ a (sr (sr M 1 (N 1)) 2 (N 2))) → va_S A s.heap H locs → W p l e (headSpec wsX9_packs ({ frames := 4, cells := 0, slots := 0, locals := 94 } : Room)).room s m ([.ref (a 0)] : List Value).toArray below meth c H locs 0 0 (MQ below (va_Qi (S := Unit) (fun r _ => r = z.1) (fun _ t => WE (dC, dI) cI cZ (wX9 cI cZ a (sr (sr M 1 (z.2 1)) 2 (z.2 2))) A t) A) ([.ref (a 0)] : List Value).toArray s 0 0 A) (F0 m 104 ls [.int s0]) := by
    intro kb hkb kx114 hkx114 N l1 l2 l3 l4 l6 s0 hf ls hl H locs hP hD hS
    unfold fX9_packs_B104 at hf
    refine lv_iconst (v := (0 : Int32)) hx hb dX9_packs_104 (by decide) ?_
    exact hfX9_packs_B105 _ hkb _ hkx114 (sr (sr M 1 (N 1)) 2 (N 2)) l1 l2 l3 l4 l6 s0 (0 : Int32) hf _ (lv_sub hl [0, 1, 2, 3, 4, 5] rfl) _ _ hP hD hS
  have hfX9_packs_L69 : ∀ (n : Nat) (kx114 : Mem → Int32 → Int32 → Int32 → Int32 → Int32 → Option (Int32 × Mem)) (hkx114 : ∀ (N : Mem) (l1 : Int32) (l2 : Int32) (l3 : Int32) (l4 : Int32) (l5 : Int32), kx114 N l1 l2 l3 l4 l5 = some z → ∀ (ls : Array Slot), lv_has ls 8 [(0, .ref (a 0)), (1, .int l1), (2, .int l2), (3, .int l3), (4, .int l4), (5, .int l5)] → ∀ (H : Heap) (locs : List Loc), va_P (dC, dI) vwCl (wX9 cI cZ a (sr (sr M 1 (N 1)) 2 (N 2))) H → va_D A (wX9 cI cZ a (sr (sr M 1 (N 1)) 2 (N 2))) → va_S A s.heap H locs → W p l e (headSpec wsX9_packs ({ frames := 4, cells := 0, slots := 0, locals := 94 } : Room)).room s m ([.ref (a 0)] : List Value).toArray below meth c H locs 0 0 (MQ below (va_Qi (S := Unit) (fun r _ => r = z.1) (fun _ t => WE (dC, dI) cI cZ (wX9 cI cZ a (sr (sr M 1 (z.2 1)) 2 (z.2 2))) A t) A) ([.ref (a 0)] : List Value).toArray s 0 0 A) (F0 m 114 ls [])), ∀ (N : Mem) (l1 : Int32) (l2 : Int32) (l3 : Int32) (l4 : Int32) (l5 : Int32) (l6 : Int32), fX9_packs_L69 M n kx114 N l1 l2 l3 l4 l5 l6 = some z → ∀ (ls : Array Slot), lv_has ls 8 [(0, .ref (a 0)), (1, .int l1), (2, .int l2), (3, .int l3), (4, .int l4), (5, .int l5), (6, .int l6)] → ∀ (H : Heap) (locs : List Loc), va_P (dC, dI) vwCl (wX9 cI cZ a (sr (sr M 1 (N 1)) 2 (N 2))) H → va_D A (wX9 cI cZ a (sr (sr M 1 (N 1)) 2 (N 2))) → va_S A s.heap H locs → W p l e (headSpec wsX9_packs ({ frames := 4, cells := 0, slots := 0, locals := 94 } : Room)).room s m ([.ref (a 0)] : List Value).toArray below meth c H locs 0 0 (MQ below (va_Qi (S := Unit) (fun r _ => r = z.1) (fun _ t => WE (dC, dI) cI cZ (wX9 cI cZ a (sr (sr M 1 (z.2 1)) 2 (z.2 2))) A t) A) ([.ref (a 0)] : List Value).toArray s 0 0 A) (F0 m 69 ls []) := by
    intro n
    induction n with
    | zero =>
      intro kx114 hkx114 N l1 l2 l3 l4 l5 l6 hf ls hl H locs hP hD hS
      rw [fX9_packs_L69] at hf
      cases hf
    | succ n ih =>
      intro kx114 hkx114 N l1 l2 l3 l4 l5 l6 hf ls hl H locs hP hD hS
      rw [fX9_packs_L69] at hf
      refine lv_iload hx hb dX9_packs_69 (lv_at hl 6 rfl) ?_
      refine lv_aload_n hx hb dX9_packs_71 rfl (lv_at hl 0 rfl) ?_
      refine va_get (D := (dC, dI)) (ci := 9) (v := .ref (a 1)) (C := RX9) (T := TX9) (N := 13) hx hb hts hinX9 hown hK hP 0 rfl rfl 1 (by decide) hw1 (fun _ h9 => h9) rfl dX9_packs_72 ?_
      refine lv_iconst (v := (0 : Int32)) hx hb dX9_packs_75 (by decide) ?_
      obtain ⟨hi, hf⟩ := gd_s hf
      refine va_iald (D := (dC, dI)) (f := (N 1)) hx hb hK hP 1 0 rfl rfl (inb_in hi) dX9_packs_76 ?_
      refine lv_icmp_ge (tgt := 114) hx hb dX9_packs_77 (by decide) (fun c9 => ?_) (fun c9 => ?_)
      · have hf := it_t hf c9
        exact hkx114 (sr (sr M 1 (N 1)) 2 (N 2)) l1 l2 l3 l4 l5 hf _ (lv_sub hl [0, 1, 2, 3, 4, 5] rfl) _ _ hP hD hS
      · have hf := it_f hf c9
        refine lv_iload hx hb dX9_packs_80 (lv_at hl 5 rfl) ?_
        refine lv_iload hx hb dX9_packs_82 (lv_at hl 6 rfl) ?_
        refine lv_iload hx hb dX9_packs_84 (lv_at hl 4 rfl) ?_
        refine lv_icmp_eq (tgt := 104) hx hb dX9_packs_86 (by decide) (fun c9 => ?_) (fun c9 => ?_)
        · have hf := it_t hf c9
          exact hfX9_packs_B104 _ (ih kx114 hkx114) _ hkx114 (sr (sr M 1 (N 1)) 2 (N 2)) l1 l2 l3 l4 l6 l5 hf _ (lv_sub hl [0, 1, 2, 3, 4, 6] rfl) _ _ hP hD hS
        · have hf := it_f hf c9
          refine lv_aload_n hx hb dX9_packs_89 rfl (lv_at hl 0 rfl) ?_
          refine lv_iload hx hb dX9_packs_90 (lv_at hl 6 rfl) ?_
          refine lv_iload hx hb dX9_packs_92 (lv_at hl 4 rfl) ?_
          obtain ⟨r94, hc94, hf⟩ := bi_s hf
          have hPc := hP
          refine cRO (W.runV (As := [.int l6, .int l4]) (rest := [.int l5]) ⟨hx, hb, hml, hown, hts⟩ (c_X9_isAhead l dC dI cI cZ a (sr (sr M 1 (N 1)) 2 (N 2)) l6 l4 r94 hc94) (cwV 2 hts gX9_packs_X9_isAhead rfl rfl rfl (by decide +kernel) ⟨Nat.le_of_ble_eq_true rfl, Nat.le_of_ble_eq_true rfl⟩) ⟨RO.blind, va_recv hK hP (ci := 9) (q0 := 0) rfl rfl, RO.pre hPc hK hNW⟩ rfl rfl hl.1 rfl (lv_room (Nat.le_of_ble_eq_true rfl)) dX9_packs_94 ⟨Nat.le_of_ble_eq_true rfl, Nat.le_of_ble_eq_true rfl⟩) ?_
          refine lv_if_eq (tgt := 104) hx hb dX9_packs_97 (by decide) (fun c9 => ?_) (fun c9 => ?_)
          · have hf := it_t hf c9
            exact hfX9_packs_B104 _ (ih kx114 hkx114) _ hkx114 (sr (sr M 1 (N 1)) 2 (N 2)) l1 l2 l3 l4 l6 l5 hf _ (lv_sub hl [0, 1, 2, 3, 4, 6] rfl) _ _ hP hD hS
          · have hf := it_f hf c9
            refine lv_iconst (v := (1 : Int32)) hx hb dX9_packs_100 (by decide) ?_
            refine lv_goto (tgt := 105) hx hb dX9_packs_101 (by decide) ?_
            exact hfX9_packs_B105 _ (ih kx114 hkx114) _ hkx114 (sr (sr M 1 (N 1)) 2 (N 2)) l1 l2 l3 l4 l6 l5 (1 : Int32) hf _ (lv_sub hl [0, 1, 2, 3, 4, 6] rfl) _ _ hP hD hS
  have hfX9_packs_B206 : ∀ (kb : Mem → Int32 → Int32 → Int32 → Int32 → Option (Int32 × Mem)) (hkb : ∀ (N : Mem) (l1 : Int32) (l2 : Int32) (l3 : Int32) (l4 : Int32), kb N l1 l2 l3 l4 = some z → ∀ (ls : Array Slot), lv_has ls 8 [(0, .ref (a 0)), (1, .int l1), (2, .int l2), (3, .int l3), (4, .int l4)] → ∀ (H : Heap) (locs : List Loc), va_P (dC, dI) vwCl (wX9 cI cZ a (sr (sr M 1 (N 1)) 2 (N 2))) H → va_D A (wX9 cI cZ a (sr (sr M 1 (N 1)) 2 (N 2))) → va_S A s.heap H locs → W p l e (headSpec wsX9_packs ({ frames := 4, cells := 0, slots := 0, locals := 94 } : Room)).room s m ([.ref (a 0)] : List Value).toArray below meth c H locs 0 0 (MQ below (va_Qi (S := Unit) (fun r _ => r = z.1) (fun _ t => WE (dC, dI) cI cZ (wX9 cI cZ a (sr (sr M 1 (z.2 1)) 2 (z.2 2))) A t) A) ([.ref (a 0)] : List Value).toArray s 0 0 A) (F0 m 52 ls [])) (kx212 : Mem → Int32 → Int32 → Int32 → Option (Int32 × Mem)) (hkx212 : ∀ (N : Mem) (l1 : Int32) (l2 : Int32) (l3 : Int32), kx212 N l1 l2 l3 = some z → ∀ (ls : Array Slot), lv_has ls 8 [(0, .ref (a 0)), (1, .int l1), (2, .int l2), (3, .int l3)] → ∀ (H : Heap) (locs : List Loc), va_P (dC, dI) vwCl (wX9 cI cZ a (sr (sr M 1 (N 1)) 2 (N 2))) H → va_D A (wX9 cI cZ a (sr (sr M 1 (N 1)) 2 (N 2))) → va_S A s.heap H locs → W p l e (headSpec wsX9_packs ({ frames := 4, cells := 0, slots := 0, locals := 94 } : Room)).room s m ([.ref (a 0)] : List Value).toArray below meth c H locs 0 0 (MQ below (va_Qi (S := Unit) (fun r _ => r = z.1) (fun _ t => WE (dC, dI) cI cZ (wX9 cI cZ a (sr (sr M 1 (z.2 1)) 2 (z.2 2))) A t) A) ([.ref (a 0)] : List Value).toArray s 0 0 A) (F0 m 212 ls [])), ∀ (N : Mem) (l1 : Int32) (l2 : Int32) (l3 : Int32) (l4 : Int32), fX9_packs_B206 M kb kx212 N l1 l2 l3 l4 = some z → ∀ (ls : Array Slot), lv_has ls 8 [(0, .ref (a 0)), (1, .int l1), (2, .int l2), (3, .int l3), (4, .int l4)] → ∀ (H : Heap) (locs : List Loc), va_P (dC, dI) vwCl (wX9 cI cZ a (sr (sr M 1 (N 1)) 2 (N 2))) H → va_D A (wX9 cI cZ a (sr (sr M 1 (N 1)) 2 (N 2))) → va_S A s.heap H locs → W p l e (headSpec wsX9_packs ({ frames := 4, cells := 0, slots := 0, locals := 94 } : Room)).room s m ([.ref (a 0)] : List Value).toArray below meth c H locs 0 0 (MQ below (va_Qi (S := Unit) (fun r _ => r = z.1) (fun _ t => WE (dC, dI) cI cZ (wX9 cI cZ a (sr (sr M 1 (z.2 1)) 2 (z.2 2))) A t) A) ([.ref (a 0)] : List Value).toArray s 0 0 A) (F0 m 206 ls []) := by
    intro kb hkb kx212 hkx212 N l1 l2 l3 l4 hf ls hl H locs hP hD hS
    unfold fX9_packs_B206 at hf
    refine lv_iinc (v := (l4 + (1 : Int32))) (lv' := [(4, .int (l4 + (1 : Int32))), (0, .ref (a 0)), (1, .int l1), (2, .int l2), (3, .int l3)]) hx hb dX9_packs_206 hl (k := 4) rfl rfl (by decide) rfl (fun ls hl => ?_)
    refine lv_goto (tgt := 52) hx hb dX9_packs_209 (by decide) ?_
    exact hkb (sr (sr M 1 (N 1)) 2 (N 2)) l1 l2 l3 (l4 + (1 : Int32)) hf _ (lv_sub hl [1, 2, 3, 4, 0] rfl) _ _ hP hD hS
  have hfX9_packs_B192 : ∀ (kb : Mem → Int32 → Int32 → Int32 → Int32 → Option (Int32 × Mem)) (hkb : ∀ (N : Mem) (l1 : Int32) (l2 : Int32) (l3 : Int32) (l4 : Int32), kb N l1 l2 l3 l4 = some z → ∀ (ls : Array Slot), lv_has ls 8 [(0, .ref (a 0)), (1, .int l1), (2, .int l2), (3, .int l3), (4, .int l4)] → ∀ (H : Heap) (locs : List Loc), va_P (dC, dI) vwCl (wX9 cI cZ a (sr (sr M 1 (N 1)) 2 (N 2))) H → va_D A (wX9 cI cZ a (sr (sr M 1 (N 1)) 2 (N 2))) → va_S A s.heap H locs → W p l e (headSpec wsX9_packs ({ frames := 4, cells := 0, slots := 0, locals := 94 } : Room)).room s m ([.ref (a 0)] : List Value).toArray below meth c H locs 0 0 (MQ below (va_Qi (S := Unit) (fun r _ => r = z.1) (fun _ t => WE (dC, dI) cI cZ (wX9 cI cZ a (sr (sr M 1 (z.2 1)) 2 (z.2 2))) A t) A) ([.ref (a 0)] : List Value).toArray s 0 0 A) (F0 m 52 ls [])) (kx212 : Mem → Int32 → Int32 → Int32 → Option (Int32 × Mem)) (hkx212 : ∀ (N : Mem) (l1 : Int32) (l2 : Int32) (l3 : Int32), kx212 N l1 l2 l3 = some z → ∀ (ls : Array Slot), lv_has ls 8 [(0, .ref (a 0)), (1, .int l1), (2, .int l2), (3, .int l3)] → ∀ (H : Heap) (locs : List Loc), va_P (dC, dI) vwCl (wX9 cI cZ a (sr (sr M 1 (N 1)) 2 (N 2))) H → va_D A (wX9 cI cZ a (sr (sr M 1 (N 1)) 2 (N 2))) → va_S A s.heap H locs → W p l e (headSpec wsX9_packs ({ frames := 4, cells := 0, slots := 0, locals := 94 } : Room)).room s m ([.ref (a 0)] : List Value).toArray below meth c H locs 0 0 (MQ below (va_Qi (S := Unit) (fun r _ => r = z.1) (fun _ t => WE (dC, dI) cI cZ (wX9 cI cZ a (sr (sr M 1 (z.2 1)) 2 (z.2 2))) A t) A) ([.ref (a 0)] : List Value).toArray s 0 0 A) (F0 m 212 ls [])), ∀ (N : Mem) (l2 : Int32) (l3 : Int32) (l4 : Int32) (l6 : Int32) (s0 : Int32) (s1 : Int32), fX9_packs_B192 M kb kx212 N l2 l3 l4 l6 s0 s1 = some z → ∀ (ls : Array Slot), lv_has ls 8 [(0, .ref (a 0)), (2, .int l2), (3, .int l3), (4, .int l4), (6, .int l6)] → ∀ (H : Heap) (locs : List Loc), va_P (dC, dI) vwCl (wX9 cI cZ a (sr (sr M 1 (N 1)) 2 (N 2))) H → va_D A (wX9 cI cZ a (sr (sr M 1 (N 1)) 2 (N 2))) → va_S A s.heap H locs → W p l e (headSpec wsX9_packs ({ frames := 4, cells := 0, slots := 0, locals := 94 } : Room)).room s m ([.ref (a 0)] : List Value).toArray below meth c H locs 0 0 (MQ below (va_Qi (S := Unit) (fun r _ => r = z.1) (fun _ t => WE (dC, dI) cI cZ (wX9 cI cZ a (sr (sr M 1 (z.2 1)) 2 (z.2 2))) A t) A) ([.ref (a 0)] : List Value).toArray s 0 0 A) (F0 m 192 ls [.int s1, .int s0]) := by
    intro kb hkb kx212 hkx212 N l2 l3 l4 l6 s0 s1 hf ls hl H locs hP hD hS
    unfold fX9_packs_B192 at hf
    refine lv_iadd hx hb dX9_packs_192 ?_
    refine lv_istore_n (lv' := [(1, .int (s0 + s1)), (0, .ref (a 0)), (2, .int l2), (3, .int l3), (4, .int l4), (6, .int l6)]) hx hb dX9_packs_193 rfl hl (by decide) rfl (fun ls hl => ?_)
    refine lv_iload_n hx hb dX9_packs_194 rfl (lv_at hl 2 rfl) ?_
    refine lv_if_eq (tgt := 206) hx hb dX9_packs_195 (by decide) (fun c9 => ?_) (fun c9 => ?_)
    · have hf := it_t hf c9
      exact hfX9_packs_B206 _ hkb _ hkx212 (sr (sr M 1 (N 1)) 2 (N 2)) (s0 + s1) l2 l3 l4 hf _ (lv_sub hl [1, 0, 2, 3, 4] rfl) _ _ hP hD hS
    · have hf := it_f hf c9
      refine lv_aload_n hx hb dX9_packs_198 rfl (lv_at hl 1 rfl) ?_
      refine lv_iload hx hb dX9_packs_199 (lv_at hl 4 rfl) ?_
      refine lv_iload hx hb dX9_packs_201 (lv_at hl 5 rfl) ?_
      obtain ⟨r203, hc203, hf⟩ := bi_s hf
      have hPc := hP
      have hDc := hD
      have hFc := va_free (wc := (wX9 cI cZ a (sr (sr M 1 (N 1)) 2 (N 2)))) hD hS hA [0, 1, 2, 3, 4, 5, 6, 7, 8] rfl
      refine va_callv (va_runV (As := [.int l4, .int l6]) (rest := []) ⟨hx, hb, hml, hown, hts⟩ (c_X9_puts l dC dI cI cZ a H.size (sr (sr M 1 (N 1)) 2 (N 2)) l4 l6 r203 hc203) (cwV 2 hts gX9_packs_X9_puts rfl rfl rfl (by decide +kernel) ⟨Nat.le_of_ble_eq_true rfl, Nat.le_of_ble_eq_true rfl⟩) ⟨WR.blind, va_recv hK hP (ci := 9) (q0 := 0) rfl rfl, WR.pre hPc hK hDc hNW⟩ rfl rfl hl.1 rfl (lv_room (Nat.le_of_ble_eq_true rfl)) dX9_packs_203 ⟨Nat.le_of_ble_eq_true rfl, Nat.le_of_ble_eq_true rfl⟩) hS (fun q _ h => hFc q h) hFc (fun u t H1 locs ht hvm hw hB hz1 hk1 hS => ?_)
      obtain ⟨hP1, hD1⟩ := hB
      rw [ht] at hP1
      have hP := hP1
      have hD := hD1.weaken (fun k q _ h => hFc q.1 h)
      have hP : va_P (dC, dI) vwCl (wX9 cI cZ a (sr (sr M 1 (r203 1)) 2 (N 2))) H1 := hP
      have hD : va_D A (wX9 cI cZ a (sr (sr M 1 (r203 1)) 2 (N 2))) := hD
      generalize H1 = H at hP hS ⊢
      exact hfX9_packs_B206 _ hkb _ hkx212 (sr (sr M 1 (r203 1)) 2 (N 2)) (s0 + s1) l2 l3 l4 hf _ (lv_sub hl [1, 0, 2, 3, 4] rfl) _ _ hP hD hS
  have hfX9_packs_B158 : ∀ (kb : Mem → Int32 → Int32 → Int32 → Int32 → Option (Int32 × Mem)) (hkb : ∀ (N : Mem) (l1 : Int32) (l2 : Int32) (l3 : Int32) (l4 : Int32), kb N l1 l2 l3 l4 = some z → ∀ (ls : Array Slot), lv_has ls 8 [(0, .ref (a 0)), (1, .int l1), (2, .int l2), (3, .int l3), (4, .int l4)] → ∀ (H : Heap) (locs : List Loc), va_P (dC, dI) vwCl (wX9 cI cZ a (sr (sr M 1 (N 1)) 2 (N 2))) H → va_D A (wX9 cI cZ a (sr (sr M 1 (N 1)) 2 (N 2))) → va_S A s.heap H locs → W p l e (headSpec wsX9_packs ({ frames := 4, cells := 0, slots := 0, locals := 94 } : Room)).room s m ([.ref (a 0)] : List Value).toArray below meth c H locs 0 0 (MQ below (va_Qi (S := Unit) (fun r _ => r = z.1) (fun _ t => WE (dC, dI) cI cZ (wX9 cI cZ a (sr (sr M 1 (z.2 1)) 2 (z.2 2))) A t) A) ([.ref (a 0)] : List Value).toArray s 0 0 A) (F0 m 52 ls [])) (kx212 : Mem → Int32 → Int32 → Int32 → Option (Int32 × Mem)) (hkx212 : ∀ (N : Mem) (l1 : Int32) (l2 : Int32) (l3 : Int32), kx212 N l1 l2 l3 = some z → ∀ (ls : Array Slot), lv_has ls 8 [(0, .ref (a 0)), (1, .int l1), (2, .int l2), (3, .int l3)] → ∀ (H : Heap) (locs : List Loc), va_P (dC, dI) vwCl (wX9 cI cZ a (sr (sr M 1 (N 1)) 2 (N 2))) H → va_D A (wX9 cI cZ a (sr (sr M 1 (N 1)) 2 (N 2))) → va_S A s.heap H locs → W p l e (headSpec wsX9_packs ({ frames := 4, cells := 0, slots := 0, locals := 94 } : Room)).room s m ([.ref (a 0)] : List Value).toArray below meth c H locs 0 0 (MQ below (va_Qi (S := Unit) (fun r _ => r = z.1) (fun _ t => WE (dC, dI) cI cZ (wX9 cI cZ a (sr (sr M 1 (z.2 1)) 2 (z.2 2))) A t) A) ([.ref (a 0)] : List Value).toArray s 0 0 A) (F0 m 212 ls [])), ∀ (N : Mem) (l1 : Int32) (l3 : Int32) (l4 : Int32) (l6 : Int32) (l7 : Int32) (s0 : Int32), fX9_packs_B158 M kb kx212 N l1 l3 l4 l6 l7 s0 = some z → ∀ (ls : Array Slot), lv_has ls 8 [(0, .ref (a 0)), (1, .int l1), (3, .int l3), (4, .int l4), (6, .int l6), (7, .int l7)] → ∀ (H : Heap) (locs : List Loc), va_P (dC, dI) vwCl (wX9 cI cZ a (sr (sr M 1 (N 1)) 2 (N 2))) H → va_D A (wX9 cI cZ a (sr (sr M 1 (N 1)) 2 (N 2))) → va_S A s.heap H locs → W p l e (headSpec wsX9_packs ({ frames := 4, cells := 0, slots := 0, locals := 94 } : Room)).room s m ([.ref (a 0)] : List Value).toArray below meth c H locs 0 0 (MQ below (va_Qi (S := Unit) (fun r _ => r = z.1) (fun _ t => WE (dC, dI) cI cZ (wX9 cI cZ a (sr (sr M 1 (z.2 1)) 2 (z.2 2))) A t) A) ([.ref (a 0)] : List Value).toArray s 0 0 A) (F0 m 158 ls [.int s0]) := by
    intro kb hkb kx212 hkx212 N l1 l3 l4 l6 l7 s0 hf ls hl H locs hP hD hS
    unfold fX9_packs_B158 at hf
    refine lv_istore_n (lv' := [(2, .int s0), (0, .ref (a 0)), (1, .int l1), (3, .int l3), (4, .int l4), (6, .int l6), (7, .int l7)]) hx hb dX9_packs_158 rfl hl (by decide) rfl (fun ls hl => ?_)
    refine lv_iload_n hx hb dX9_packs_159 rfl (lv_at hl 2 rfl) ?_
    refine lv_iload hx hb dX9_packs_160 (lv_at hl 5 rfl) ?_
    refine lv_bipush (v := (20 : Int32)) hx hb dX9_packs_162 (by decide) ?_
    refine lv_aload_n hx hb dX9_packs_164 rfl (lv_at hl 1 rfl) ?_
    refine va_get (D := (dC, dI)) (ci := 9) (v := .ref (a 2)) (C := RX9) (T := TX9) (N := 13) hx hb hts hinX9 hown hK hP 0 rfl rfl 2 (by decide) hw2 (fun _ h9 => h9) rfl dX9_packs_165 ?_
    refine lv_iload hx hb dX9_packs_168 (lv_at hl 6 rfl) ?_
    refine lv_iconst (v := (1 : Int32)) hx hb dX9_packs_170 (by decide) ?_
    refine lv_iadd hx hb dX9_packs_171 ?_
    obtain ⟨hi, hf⟩ := gd_s hf
    refine va_iald (D := (dC, dI)) (f := (N 2)) hx hb hK hP 2 0 rfl rfl (inb_in hi) dX9_packs_172 ?_
    refine lv_imul hx hb dX9_packs_173 ?_
    refine lv_aload_n hx hb dX9_packs_174 rfl (lv_at hl 1 rfl) ?_
    refine va_get (D := (dC, dI)) (ci := 9) (v := .ref (a 2)) (C := RX9) (T := TX9) (N := 13) hx hb hts hinX9 hown hK hP 0 rfl rfl 2 (by decide) hw2 (fun _ h9 => h9) rfl dX9_packs_175 ?_
    refine lv_iload hx hb dX9_packs_178 (lv_at hl 6 rfl) ?_
    refine lv_iconst (v := (2 : Int32)) hx hb dX9_packs_180 (by decide) ?_
    refine lv_iadd hx hb dX9_packs_181 ?_
    obtain ⟨hi, hf⟩ := gd_s hf
    refine va_iald (D := (dC, dI)) (f := (N 2)) hx hb hK hP 2 0 rfl rfl (inb_in hi) dX9_packs_182 ?_
    refine lv_iadd hx hb dX9_packs_183 ?_
    refine lv_icmp_ne (tgt := 191) hx hb dX9_packs_184 (by decide) (fun c9 => ?_) (fun c9 => ?_)
    · have hf := it_t hf c9
      refine lv_iconst (v := (1 : Int32)) hx hb dX9_packs_191 (by decide) ?_
      exact hfX9_packs_B192 _ hkb _ hkx212 (sr (sr M 1 (N 1)) 2 (N 2)) s0 l3 l4 l6 l1 (1 : Int32) hf _ (lv_sub hl [1, 0, 3, 4, 5] rfl) _ _ hP hD hS
    · have hf := it_n hf c9
      refine lv_iconst (v := (0 : Int32)) hx hb dX9_packs_187 (by decide) ?_
      refine lv_goto (tgt := 192) hx hb dX9_packs_188 (by decide) ?_
      exact hfX9_packs_B192 _ hkb _ hkx212 (sr (sr M 1 (N 1)) 2 (N 2)) s0 l3 l4 l6 l1 (0 : Int32) hf _ (lv_sub hl [1, 0, 3, 4, 5] rfl) _ _ hP hD hS
  have hfX9_packs_B157 : ∀ (kb : Mem → Int32 → Int32 → Int32 → Int32 → Option (Int32 × Mem)) (hkb : ∀ (N : Mem) (l1 : Int32) (l2 : Int32) (l3 : Int32) (l4 : Int32), kb N l1 l2 l3 l4 = some z → ∀ (ls : Array Slot), lv_has ls 8 [(0, .ref (a 0)), (1, .int l1), (2, .int l2), (3, .int l3), (4, .int l4)] → ∀ (H : Heap) (locs : List Loc), va_P (dC, dI) vwCl (wX9 cI cZ a (sr (sr M 1 (N 1)) 2 (N 2))) H → va_D A (wX9 cI cZ a (sr (sr M 1 (N 1)) 2 (N 2))) → va_S A s.heap H locs → W p l e (headSpec wsX9_packs ({ frames := 4, cells := 0, slots := 0, locals := 94 } : Room)).room s m ([.ref (a 0)] : List Value).toArray below meth c H locs 0 0 (MQ below (va_Qi (S := Unit) (fun r _ => r = z.1) (fun _ t => WE (dC, dI) cI cZ (wX9 cI cZ a (sr (sr M 1 (z.2 1)) 2 (z.2 2))) A t) A) ([.ref (a 0)] : List Value).toArray s 0 0 A) (F0 m 52 ls [])) (kx212 : Mem → Int32 → Int32 → Int32 → Option (Int32 × Mem)) (hkx212 : ∀ (N : Mem) (l1 : Int32) (l2 : Int32) (l3 : Int32), kx212 N l1 l2 l3 = some z → ∀ (ls : Array Slot), lv_has ls 8 [(0, .ref (a 0)), (1, .int l1), (2, .int l2), (3, .int l3)] → ∀ (H : Heap) (locs : List Loc), va_P (dC, dI) vwCl (wX9 cI cZ a (sr (sr M 1 (N 1)) 2 (N 2))) H → va_D A (wX9 cI cZ a (sr (sr M 1 (N 1)) 2 (N 2))) → va_S A s.heap H locs → W p l e (headSpec wsX9_packs ({ frames := 4, cells := 0, slots := 0, locals := 94 } : Room)).room s m ([.ref (a 0)] : List Value).toArray below meth c H locs 0 0 (MQ below (va_Qi (S := Unit) (fun r _ => r = z.1) (fun _ t => WE (dC, dI) cI cZ (wX9 cI cZ a (sr (sr M 1 (z.2 1)) 2 (z.2 2))) A t) A) ([.ref (a 0)] : List Value).toArray s 0 0 A) (F0 m 212 ls [])), ∀ (N : Mem) (l1 : Int32) (l3 : Int32) (l4 : Int32) (l6 : Int32) (l7 : Int32), fX9_packs_B157 M kb kx212 N l1 l3 l4 l6 l7 = some z → ∀ (ls : Array Slot), lv_has ls 8 [(0, .ref (a 0)), (1, .int l1), (3, .int l3), (4, .int l4), (6, .int l6), (7, .int l7)] → ∀ (H : Heap) (locs : List Loc), va_P (dC, dI) vwCl (wX9 cI cZ a (sr (sr M 1 (N 1)) 2 (N 2))) H → va_D A (wX9 cI cZ a (sr (sr M 1 (N 1)) 2 (N 2))) → va_S A s.heap H locs → W p l e (headSpec wsX9_packs ({ frames := 4, cells := 0, slots := 0, locals := 94 } : Room)).room s m ([.ref (a 0)] : List Value).toArray below meth c H locs 0 0 (MQ below (va_Qi (S := Unit) (fun r _ => r = z.1) (fun _ t => WE (dC, dI) cI cZ (wX9 cI cZ a (sr (sr M 1 (z.2 1)) 2 (z.2 2))) A t) A) ([.ref (a 0)] : List Value).toArray s 0 0 A) (F0 m 157 ls []) := by
    intro kb hkb kx212 hkx212 N l1 l3 l4 l6 l7 hf ls hl H locs hP hD hS
    unfold fX9_packs_B157 at hf
    refine lv_iconst (v := (0 : Int32)) hx hb dX9_packs_157 (by decide) ?_
    exact hfX9_packs_B158 _ hkb _ hkx212 (sr (sr M 1 (N 1)) 2 (N 2)) l1 l3 l4 l6 l7 (0 : Int32) hf _ (lv_sub hl [0, 1, 2, 3, 4, 5] rfl) _ _ hP hD hS
  have hfX9_packs_L52 : ∀ (n : Nat) (kx212 : Mem → Int32 → Int32 → Int32 → Option (Int32 × Mem)) (hkx212 : ∀ (N : Mem) (l1 : Int32) (l2 : Int32) (l3 : Int32), kx212 N l1 l2 l3 = some z → ∀ (ls : Array Slot), lv_has ls 8 [(0, .ref (a 0)), (1, .int l1), (2, .int l2), (3, .int l3)] → ∀ (H : Heap) (locs : List Loc), va_P (dC, dI) vwCl (wX9 cI cZ a (sr (sr M 1 (N 1)) 2 (N 2))) H → va_D A (wX9 cI cZ a (sr (sr M 1 (N 1)) 2 (N 2))) → va_S A s.heap H locs → W p l e (headSpec wsX9_packs ({ frames := 4, cells := 0, slots := 0, locals := 94 } : Room)).room s m ([.ref (a 0)] : List Value).toArray below meth c H locs 0 0 (MQ below (va_Qi (S := Unit) (fun r _ => r = z.1) (fun _ t => WE (dC, dI) cI cZ (wX9 cI cZ a (sr (sr M 1 (z.2 1)) 2 (z.2 2))) A t) A) ([.ref (a 0)] : List Value).toArray s 0 0 A) (F0 m 212 ls [])), ∀ (N : Mem) (l1 : Int32) (l2 : Int32) (l3 : Int32) (l4 : Int32), fX9_packs_L52 M n kx212 N l1 l2 l3 l4 = some z → ∀ (ls : Array Slot), lv_has ls 8 [(0, .ref (a 0)), (1, .int l1), (2, .int l2), (3, .int l3), (4, .int l4)] → ∀ (H : Heap) (locs : List Loc), va_P (dC, dI) vwCl (wX9 cI cZ a (sr (sr M 1 (N 1)) 2 (N 2))) H → va_D A (wX9 cI cZ a (sr (sr M 1 (N 1)) 2 (N 2))) → va_S A s.heap H locs → W p l e (headSpec wsX9_packs ({ frames := 4, cells := 0, slots := 0, locals := 94 } : Room)).room s m ([.ref (a 0)] : List Value).toArray below meth c H locs 0 0 (MQ below (va_Qi (S := Unit) (fun r _ => r = z.1) (fun _ t => WE (dC, dI) cI cZ (wX9 cI cZ a (sr (sr M 1 (z.2 1)) 2 (z.2 2))) A t) A) ([.ref (a 0)] : List Value).toArray s 0 0 A) (F0 m 52 ls []) := by
    intro n
    induction n with
    | zero =>
      intro kx212 hkx212 N l1 l2 l3 l4 hf ls hl H locs hP hD hS
      rw [fX9_packs_L52] at hf
      cases hf
    | succ n ih =>
      intro kx212 hkx212 N l1 l2 l3 l4 hf ls hl H locs hP hD hS
      rw [fX9_packs_L52] at hf
      refine lv_iload hx hb dX9_packs_52 (lv_at hl 4 rfl) ?_
      refine lv_aload_n hx hb dX9_packs_54 rfl (lv_at hl 0 rfl) ?_
      refine va_get (D := (dC, dI)) (ci := 9) (v := .ref (a 1)) (C := RX9) (T := TX9) (N := 13) hx hb hts hinX9 hown hK hP 0 rfl rfl 1 (by decide) hw1 (fun _ h9 => h9) rfl dX9_packs_55 ?_
      refine lv_iconst (v := (0 : Int32)) hx hb dX9_packs_58 (by decide) ?_
      obtain ⟨hi, hf⟩ := gd_s hf
      refine va_iald (D := (dC, dI)) (f := (N 1)) hx hb hK hP 1 0 rfl rfl (inb_in hi) dX9_packs_59 ?_
      refine lv_icmp_ge (tgt := 212) hx hb dX9_packs_60 (by decide) (fun c9 => ?_) (fun c9 => ?_)
      · have hf := it_t hf c9
        exact hkx212 (sr (sr M 1 (N 1)) 2 (N 2)) l1 l2 l3 hf _ (lv_sub hl [0, 1, 2, 3] rfl) _ _ hP hD hS
      · have hf := it_f hf c9
        refine lv_iconst (v := (0 : Int32)) hx hb dX9_packs_63 (by decide) ?_
        refine lv_istore (lv' := [(5, .int (0 : Int32)), (0, .ref (a 0)), (1, .int l1), (2, .int l2), (3, .int l3), (4, .int l4)]) hx hb dX9_packs_64 hl (by decide) rfl (fun ls hl => ?_)
        refine lv_iconst (v := (0 : Int32)) hx hb dX9_packs_66 (by decide) ?_
        refine lv_istore (lv' := [(6, .int (0 : Int32)), (5, .int (0 : Int32)), (0, .ref (a 0)), (1, .int l1), (2, .int l2), (3, .int l3), (4, .int l4)]) hx hb dX9_packs_67 hl (by decide) rfl (fun ls hl => ?_)
        refine hfX9_packs_L69 5000 _ (fun N l1 l2 l3 l4 l5 hf ls hl H locs hP hD hS => ?_) (sr (sr M 1 (N 1)) 2 (N 2)) l1 l2 l3 l4 (0 : Int32) (0 : Int32) hf _ (lv_sub hl [2, 3, 4, 5, 6, 1, 0] rfl) _ _ hP hD hS
        refine lv_iload hx hb dX9_packs_114 (lv_at hl 5 rfl) ?_
        refine lv_iload_n hx hb dX9_packs_116 rfl (lv_at hl 3 rfl) ?_
        refine lv_icmp_ne (tgt := 206) hx hb dX9_packs_117 (by decide) (fun c9 => ?_) (fun c9 => ?_)
        · have hf := it_t hf c9
          exact hfX9_packs_B206 _ (ih kx212 hkx212) _ hkx212 (sr (sr M 1 (N 1)) 2 (N 2)) l1 l2 l3 l4 hf _ (lv_sub hl [0, 1, 2, 3, 4] rfl) _ _ hP hD hS
        · have hf := it_n hf c9
          refine lv_aload_n hx hb dX9_packs_120 rfl (lv_at hl 0 rfl) ?_
          refine lv_aload_n hx hb dX9_packs_121 rfl (lv_at hl 0 rfl) ?_
          refine lv_iload hx hb dX9_packs_122 (lv_at hl 4 rfl) ?_
          refine lv_iconst (v := (0 : Int32)) hx hb dX9_packs_124 (by decide) ?_
          obtain ⟨r125, hc125, hf⟩ := bi_s hf
          have hPc := hP
          refine cRO (W.runV (As := [.int l4, .int (0 : Int32)]) (rest := [.ref (a 0)]) ⟨hx, hb, hml, hown, hts⟩ (c_X9_of l dC dI cI cZ a (sr (sr M 1 (N 1)) 2 (N 2)) l4 (0 : Int32) r125 hc125) (cwV 2 hts gX9_packs_X9_of rfl rfl rfl (by decide +kernel) ⟨Nat.le_of_ble_eq_true rfl, Nat.le_of_ble_eq_true rfl⟩) ⟨RO.blind, va_recv hK hP (ci := 9) (q0 := 0) rfl rfl, RO.pre hPc hK hNW⟩ rfl rfl hl.1 rfl (lv_room (Nat.le_of_ble_eq_true rfl)) dX9_packs_125 ⟨Nat.le_of_ble_eq_true rfl, Nat.le_of_ble_eq_true rfl⟩) ?_
          obtain ⟨r128, hc128, hf⟩ := bi_s hf
          have hPc := hP
          refine cRO (W.runV (As := [.int r125]) (rest := []) ⟨hx, hb, hml, hown, hts⟩ (c_X9_place l dC dI cI cZ a (sr (sr M 1 (N 1)) 2 (N 2)) r125 r128 hc128) (cwV 1 hts gX9_packs_X9_place rfl rfl rfl (by decide +kernel) ⟨Nat.le_of_ble_eq_true rfl, Nat.le_of_ble_eq_true rfl⟩) ⟨RO.blind, va_recv hK hP (ci := 9) (q0 := 0) rfl rfl, RO.pre hPc hK hNW⟩ rfl rfl hl.1 rfl (lv_room (Nat.le_of_ble_eq_true rfl)) dX9_packs_128 ⟨Nat.le_of_ble_eq_true rfl, Nat.le_of_ble_eq_true rfl⟩) ?_
          refine lv_istore (lv' := [(6, .int r128), (0, .ref (a 0)), (1, .int l1), (2, .int l2), (3, .int l3), (4, .int l4), (5, .int l5)]) hx hb dX9_packs_131 hl (by decide) rfl (fun ls hl => ?_)
          refine lv_bipush (v := (9 : Int32)) hx hb dX9_packs_133 (by decide) ?_
          refine lv_bipush (v := (14 : Int32)) hx hb dX9_packs_135 (by decide) ?_
          refine lv_iload hx hb dX9_packs_137 (lv_at hl 5 rfl) ?_
          refine lv_imul hx hb dX9_packs_139 ?_
          refine lv_iadd hx hb dX9_packs_140 ?_
          refine lv_istore (lv' := [(7, .int ((9 : Int32) + ((14 : Int32) * l4))), (6, .int r128), (0, .ref (a 0)), (1, .int l1), (2, .int l2), (3, .int l3), (4, .int l4), (5, .int l5)]) hx hb dX9_packs_141 hl (by decide) rfl (fun ls hl => ?_)
          refine lv_iload_n hx hb dX9_packs_143 rfl (lv_at hl 4 rfl) ?_
          refine lv_if_eq (tgt := 157) hx hb dX9_packs_144 (by decide) (fun c9 => ?_) (fun c9 => ?_)
          · have hf := it_t hf c9
            exact hfX9_packs_B157 _ (ih kx212 hkx212) _ hkx212 (sr (sr M 1 (N 1)) 2 (N 2)) l1 l3 l4 r128 ((9 : Int32) + ((14 : Int32) * l4)) hf _ (lv_sub hl [2, 3, 5, 6, 1, 0] rfl) _ _ hP hD hS
          · have hf := it_f hf c9
            refine lv_iload hx hb dX9_packs_147 (lv_at hl 1 rfl) ?_
            refine lv_iconst (v := (-1 : Int32)) hx hb dX9_packs_149 (by decide) ?_
            refine lv_icmp_eq (tgt := 157) hx hb dX9_packs_150 (by decide) (fun c9 => ?_) (fun c9 => ?_)
            · have hf := it_t hf c9
              exact hfX9_packs_B157 _ (ih kx212 hkx212) _ hkx212 (sr (sr M 1 (N 1)) 2 (N 2)) l1 l3 l4 r128 ((9 : Int32) + ((14 : Int32) * l4)) hf _ (lv_sub hl [2, 3, 5, 6, 1, 0] rfl) _ _ hP hD hS
            · have hf := it_f hf c9
              refine lv_iconst (v := (1 : Int32)) hx hb dX9_packs_153 (by decide) ?_
              refine lv_goto (tgt := 158) hx hb dX9_packs_154 (by decide) ?_
              exact hfX9_packs_B158 _ (ih kx212 hkx212) _ hkx212 (sr (sr M 1 (N 1)) 2 (N 2)) l1 l3 l4 r128 ((9 : Int32) + ((14 : Int32) * l4)) (1 : Int32) hf _ (lv_sub hl [2, 3, 5, 6, 1, 0] rfl) _ _ hP hD hS
  have hfX9_packs_L35 : ∀ (n : Nat) (kx218 : Mem → Int32 → Int32 → Option (Int32 × Mem)) (hkx218 : ∀ (N : Mem) (l1 : Int32) (l2 : Int32), kx218 N l1 l2 = some z → ∀ (ls : Array Slot), lv_has ls 8 [(1, .int l1), (2, .int l2)] → ∀ (H : Heap) (locs : List Loc), va_P (dC, dI) vwCl (wX9 cI cZ a (sr (sr M 1 (N 1)) 2 (N 2))) H → va_D A (wX9 cI cZ a (sr (sr M 1 (N 1)) 2 (N 2))) → va_S A s.heap H locs → W p l e (headSpec wsX9_packs ({ frames := 4, cells := 0, slots := 0, locals := 94 } : Room)).room s m ([.ref (a 0)] : List Value).toArray below meth c H locs 0 0 (MQ below (va_Qi (S := Unit) (fun r _ => r = z.1) (fun _ t => WE (dC, dI) cI cZ (wX9 cI cZ a (sr (sr M 1 (z.2 1)) 2 (z.2 2))) A t) A) ([.ref (a 0)] : List Value).toArray s 0 0 A) (F0 m 218 ls [])), ∀ (N : Mem) (l1 : Int32) (l2 : Int32) (l3 : Int32), fX9_packs_L35 M n kx218 N l1 l2 l3 = some z → ∀ (ls : Array Slot), lv_has ls 8 [(0, .ref (a 0)), (1, .int l1), (2, .int l2), (3, .int l3)] → ∀ (H : Heap) (locs : List Loc), va_P (dC, dI) vwCl (wX9 cI cZ a (sr (sr M 1 (N 1)) 2 (N 2))) H → va_D A (wX9 cI cZ a (sr (sr M 1 (N 1)) 2 (N 2))) → va_S A s.heap H locs → W p l e (headSpec wsX9_packs ({ frames := 4, cells := 0, slots := 0, locals := 94 } : Room)).room s m ([.ref (a 0)] : List Value).toArray below meth c H locs 0 0 (MQ below (va_Qi (S := Unit) (fun r _ => r = z.1) (fun _ t => WE (dC, dI) cI cZ (wX9 cI cZ a (sr (sr M 1 (z.2 1)) 2 (z.2 2))) A t) A) ([.ref (a 0)] : List Value).toArray s 0 0 A) (F0 m 35 ls []) := by
    intro n
    induction n with
    | zero =>
      intro kx218 hkx218 N l1 l2 l3 hf ls hl H locs hP hD hS
      rw [fX9_packs_L35] at hf
      cases hf
    | succ n ih =>
      intro kx218 hkx218 N l1 l2 l3 hf ls hl H locs hP hD hS
      rw [fX9_packs_L35] at hf
      refine lv_iload_n hx hb dX9_packs_35 rfl (lv_at hl 3 rfl) ?_
      refine lv_aload_n hx hb dX9_packs_36 rfl (lv_at hl 0 rfl) ?_
      refine va_get (D := (dC, dI)) (ci := 9) (v := .ref (a 1)) (C := RX9) (T := TX9) (N := 13) hx hb hts hinX9 hown hK hP 0 rfl rfl 1 (by decide) hw1 (fun _ h9 => h9) rfl dX9_packs_37 ?_
      refine lv_iconst (v := (0 : Int32)) hx hb dX9_packs_40 (by decide) ?_
      obtain ⟨hi, hf⟩ := gd_s hf
      refine va_iald (D := (dC, dI)) (f := (N 1)) hx hb hK hP 1 0 rfl rfl (inb_in hi) dX9_packs_41 ?_
      refine lv_icmp_ge (tgt := 218) hx hb dX9_packs_42 (by decide) (fun c9 => ?_) (fun c9 => ?_)
      · have hf := it_t hf c9
        exact hkx218 (sr (sr M 1 (N 1)) 2 (N 2)) l1 l2 hf _ (lv_sub hl [1, 2] rfl) _ _ hP hD hS
      · have hf := it_f hf c9
        refine lv_iload_n hx hb dX9_packs_45 rfl (lv_at hl 2 rfl) ?_
        refine lv_if_eq (tgt := 218) hx hb dX9_packs_46 (by decide) (fun c9 => ?_) (fun c9 => ?_)
        · have hf := it_t hf c9
          exact hkx218 (sr (sr M 1 (N 1)) 2 (N 2)) l1 l2 hf _ (lv_sub hl [1, 2] rfl) _ _ hP hD hS
        · have hf := it_f hf c9
          refine lv_iconst (v := (0 : Int32)) hx hb dX9_packs_49 (by decide) ?_
          refine lv_istore (lv' := [(4, .int (0 : Int32)), (0, .ref (a 0)), (1, .int l1), (2, .int l2), (3, .int l3)]) hx hb dX9_packs_50 hl (by decide) rfl (fun ls hl => ?_)
          refine hfX9_packs_L52 5000 _ (fun N l1 l2 l3 hf ls hl H locs hP hD hS => ?_) (sr (sr M 1 (N 1)) 2 (N 2)) l1 l2 l3 (0 : Int32) hf _ (lv_sub hl [1, 2, 3, 4, 0] rfl) _ _ hP hD hS
          refine lv_iinc (v := (l3 + (1 : Int32))) (lv' := [(3, .int (l3 + (1 : Int32))), (0, .ref (a 0)), (1, .int l1), (2, .int l2)]) hx hb dX9_packs_212 hl (k := 3) rfl rfl (by decide) rfl (fun ls hl => ?_)
          refine lv_goto (tgt := 35) hx hb dX9_packs_215 (by decide) ?_
          exact ih kx218 hkx218 (sr (sr M 1 (N 1)) 2 (N 2)) l1 l2 (l3 + (1 : Int32)) hf _ (lv_sub hl [1, 2, 3, 0] rfl) _ _ hP hD hS
  have hfX9_packs_B227 : ∀ (N : Mem) (s0 : Int32), fX9_packs_B227 M  N s0 = some z → ∀ (ls : Array Slot), lv_has ls 8 [] → ∀ (H : Heap) (locs : List Loc), va_P (dC, dI) vwCl (wX9 cI cZ a (sr (sr M 1 (N 1)) 2 (N 2))) H → va_D A (wX9 cI cZ a (sr (sr M 1 (N 1)) 2 (N 2))) → va_S A s.heap H locs → W p l e (headSpec wsX9_packs ({ frames := 4, cells := 0, slots := 0, locals := 94 } : Room)).room s m ([.ref (a 0)] : List Value).toArray below meth c H locs 0 0 (MQ below (va_Qi (S := Unit) (fun r _ => r = z.1) (fun _ t => WE (dC, dI) cI cZ (wX9 cI cZ a (sr (sr M 1 (z.2 1)) 2 (z.2 2))) A t) A) ([.ref (a 0)] : List Value).toArray s 0 0 A) (F0 m 227 ls [.int s0]) := by
    intro  N s0 hf ls hl H locs hP hD hS
    unfold fX9_packs_B227 at hf
    have e9 := so_e hf
    subst e9
    exact W.iret (v := s0) hx hb hr (fun t ht hW => ⟨⟨s0, (), rfl, rfl, WE.mk hP hD ht⟩, hS.F ht⟩) hS.2.2 dX9_packs_227
  have hl := lv_entry ([.ref (a 0)]) (n := 8) (Nat.le_of_ble_eq_true rfl)
  rw [lg_entry_eq]
  generalize (lg_sl ([.ref (a 0)]) ++ List.replicate (8 - (lg_sl ([.ref (a 0)])).length) Slot.unset).toArray = ls at hl ⊢
  have hl : lv_has ls 8 [(0, .ref (a 0))] := hl
  unfold fX9_packs at hf
  suffices hgo : ∀ (H : Heap) (locs : List Loc), va_P (dC, dI) vwCl (wX9 cI cZ a M) H → va_D A (wX9 cI cZ a M) → va_S A s.heap H locs → W p l e (headSpec wsX9_packs ({ frames := 4, cells := 0, slots := 0, locals := 94 } : Room)).room s m ([.ref (a 0)] : List Value).toArray below meth c H locs 0 0 (MQ below (va_Qi (S := Unit) (fun r _ => r = z.1) (fun _ t => WE (dC, dI) cI cZ (wX9 cI cZ a (sr (sr M 1 (z.2 1)) 2 (z.2 2))) A t) A) ([.ref (a 0)] : List Value).toArray s 0 0 A) (F0 m 0 ls []) from hgo _ _ hP hD hS
  intro H locs hP hD hS
  refine lv_aload_n hx hb dX9_packs_0 rfl (lv_at hl 0 rfl) ?_
  obtain ⟨r1, hc1, hf⟩ := bi_s hf
  have hPc := hP
  have hDc := hD
  have hFc := va_free (wc := (wX9 cI cZ a M)) hD hS hA [0, 1, 2, 3, 4, 5, 6, 7, 8] rfl
  refine va_callv (va_runV (As := []) (rest := []) ⟨hx, hb, hml, hown, hts⟩ (c_X9_putAside l dC dI cI cZ a H.size M r1 hc1) (cwV 0 hts gX9_packs_X9_putAside rfl rfl rfl (by decide +kernel) ⟨Nat.le_of_ble_eq_true rfl, Nat.le_of_ble_eq_true rfl⟩) ⟨WR.blind, va_recv hK hP (ci := 9) (q0 := 0) rfl rfl, WR.pre hPc hK hDc hNW⟩ rfl rfl hl.1 rfl (lv_room (Nat.le_of_ble_eq_true rfl)) dX9_packs_1 ⟨Nat.le_of_ble_eq_true rfl, Nat.le_of_ble_eq_true rfl⟩) hS (fun q _ h => hFc q h) hFc (fun u t H1 locs ht hvm hw hB hz1 hk1 hS => ?_)
  obtain ⟨hP1, hD1⟩ := hB
  rw [ht] at hP1
  have hP := hP1
  have hD := hD1.weaken (fun k q _ h => hFc q.1 h)
  have hP : va_P (dC, dI) vwCl (wX9 cI cZ a (sr M 2 (r1 2))) H1 := hP
  have hD : va_D A (wX9 cI cZ a (sr M 2 (r1 2))) := hD
  generalize H1 = H at hP hS ⊢
  refine lv_iconst (v := (0 : Int32)) hx hb dX9_packs_4 (by decide) ?_
  refine lv_istore_n (lv' := [(1, .int (0 : Int32)), (0, .ref (a 0))]) hx hb dX9_packs_5 rfl hl (by decide) rfl (fun ls hl => ?_)
  refine lv_iconst (v := (1 : Int32)) hx hb dX9_packs_6 (by decide) ?_
  refine lv_istore_n (lv' := [(2, .int (1 : Int32)), (1, .int (0 : Int32)), (0, .ref (a 0))]) hx hb dX9_packs_7 rfl hl (by decide) rfl (fun ls hl => ?_)
  refine lv_iconst (v := (0 : Int32)) hx hb dX9_packs_8 (by decide) ?_
  refine lv_istore_n (lv' := [(3, .int (0 : Int32)), (2, .int (1 : Int32)), (1, .int (0 : Int32)), (0, .ref (a 0))]) hx hb dX9_packs_9 rfl hl (by decide) rfl (fun ls hl => ?_)
  refine hfX9_packs_L10 5000 _ (fun N l1 l2 hf ls hl H locs hP hD hS => ?_) (sr M 2 (r1 2)) (0 : Int32) (1 : Int32) (0 : Int32) hf _ (lv_sub hl [3, 2, 1, 0] rfl) _ _ hP hD hS
  refine lv_iconst (v := (0 : Int32)) hx hb dX9_packs_33 (by decide) ?_
  refine lv_istore_n (lv' := [(3, .int (0 : Int32)), (0, .ref (a 0)), (1, .int l1), (2, .int l2)]) hx hb dX9_packs_34 rfl hl (by decide) rfl (fun ls hl => ?_)
  refine hfX9_packs_L35 5000 _ (fun N l1 l2 hf ls hl H locs hP hD hS => ?_) (sr (sr M 1 (N 1)) 2 (N 2)) l1 l2 (0 : Int32) hf _ (lv_sub hl [1, 2, 3, 0] rfl) _ _ hP hD hS
  refine lv_iload_n hx hb dX9_packs_218 rfl (lv_at hl 1 rfl) ?_
  refine lv_if_eq (tgt := 226) hx hb dX9_packs_219 (by decide) (fun c9 => ?_) (fun c9 => ?_)
  · have hf := it_t hf c9
    refine lv_iconst (v := (-1 : Int32)) hx hb dX9_packs_226 (by decide) ?_
    exact hfX9_packs_B227  (sr (sr M 1 (N 1)) 2 (N 2)) (-1 : Int32) hf _ (lv_sub hl [] rfl) _ _ hP hD hS
  · have hf := it_f hf c9
    refine lv_iload_n hx hb dX9_packs_222 rfl (lv_at hl 0 rfl) ?_
    refine lv_goto (tgt := 227) hx hb dX9_packs_223 (by decide) ?_
    exact hfX9_packs_B227  (sr (sr M 1 (N 1)) 2 (N 2)) l1 hf _ (lv_sub hl [] rfl) _ _ hP hD hS
set_option maxHeartbeats 4000000 in
set_option maxRecDepth 100000 in
theorem c_X9_weight (l : Launch) (dC : Nat → ClassId) (dI : Nat → Nat → Nat) (cI cZ : ClassId) (a : Nat → Nat) (M : Mem) (a1 : Int32) (z : Int32) (hf : fX9_weight M a1 = some z) : Met l yX9_weight wsX9_weight ({ frames := 1, cells := 0, slots := 0, locals := 22 } : Room) (va_Pc [.ref (a 0), .int a1] (RO (dC, dI) cI cZ (wX9 cI cZ a M))) (k2_QcV (.int z)) 0 0 (fun _ => False) := by
  refine Met.ofW (cc := cX9_weight) (maxL := 4) (ret := (some .int)) (by decide) rfl ?_
  intro p e s m args below meth c s₁ B hml hv
  obtain ⟨rfl, hP, hK, hNW⟩ := hv
  have hx := B.exec
  have hb := B.bytes
  have hr := B.returns
  have hts := atoms_spec (ws := wsX9_weight) B.pre
  have hown : s.vm.findClass RX9 = some m.cls := findClass_of_methodNamed B.named
  have hlocks := B.notSynchronized
  have hinX9 : ∀ w ∈ u_ws RX9 TX9 13, w ∈ wsX9_weight := by decide +kernel
  have hw1 := hts (.fieldLink RX9 7 "GlideShelvesModel" "s" "[I") (by decide +kernel)
  have hfX9_weight_L4 : ∀ (n : Nat) (kx38 : Int32 → Option (Int32)) (hkx38 : ∀ (l2 : Int32), kx38 l2 = some z → ∀ (ls : Array Slot), lv_has ls 4 [(2, .int l2)] → W p l e (headSpec wsX9_weight ({ frames := 1, cells := 0, slots := 0, locals := 22 } : Room)).room s m ([.ref (a 0), .int a1] : List Value).toArray below meth c s.heap [] 0 0 (MQ below (k2_QcV (.int z)) ([.ref (a 0), .int a1] : List Value).toArray s 0 0 (fun _ => False)) (F0 m 38 ls [])), ∀ (l1 : Int32) (l2 : Int32) (l3 : Int32), fX9_weight_L4 M n kx38 l1 l2 l3 = some z → ∀ (ls : Array Slot), lv_has ls 4 [(0, .ref (a 0)), (1, .int l1), (2, .int l2), (3, .int l3)] → W p l e (headSpec wsX9_weight ({ frames := 1, cells := 0, slots := 0, locals := 22 } : Room)).room s m ([.ref (a 0), .int a1] : List Value).toArray below meth c s.heap [] 0 0 (MQ below (k2_QcV (.int z)) ([.ref (a 0), .int a1] : List Value).toArray s 0 0 (fun _ => False)) (F0 m 4 ls []) := by
    intro n
    induction n with
    | zero =>
      intro kx38 hkx38 l1 l2 l3 hf ls hl
      rw [fX9_weight_L4] at hf
      cases hf
    | succ n ih =>
      intro kx38 hkx38 l1 l2 l3 hf ls hl
      rw [fX9_weight_L4] at hf
      refine lv_iload_n hx hb dX9_weight_4 rfl (lv_at hl 3 rfl) ?_
      refine lv_bipush (v := (10 : Int32)) hx hb dX9_weight_5 (by decide) ?_
      refine lv_icmp_ge (tgt := 38) hx hb dX9_weight_7 (by decide) (fun c9 => ?_) (fun c9 => ?_)
      · have hf := it_t hf c9
        exact hkx38 l2 hf _ (lv_sub hl [2] rfl)
      · have hf := it_f hf c9
        refine lv_iload_n hx hb dX9_weight_10 rfl (lv_at hl 2 rfl) ?_
        refine lv_aload_n hx hb dX9_weight_11 rfl (lv_at hl 0 rfl) ?_
        refine lv_iload_n hx hb dX9_weight_12 rfl (lv_at hl 1 rfl) ?_
        refine lv_iconst (v := (4 : Int32)) hx hb dX9_weight_13 (by decide) ?_
        refine lv_iload_n hx hb dX9_weight_14 rfl (lv_at hl 3 rfl) ?_
        refine lv_iadd hx hb dX9_weight_15 ?_
        obtain ⟨r16, hc16, hf⟩ := bi_s hf
        have hPc := hP
        refine cRO (W.runV (As := [.int l1, .int ((4 : Int32) + l3)]) (rest := [.int l2]) ⟨hx, hb, hml, hown, hts⟩ (c_X9_of l dC dI cI cZ a M l1 ((4 : Int32) + l3) r16 hc16) (cwV 2 hts gX9_weight_X9_of rfl rfl rfl (by decide +kernel) ⟨Nat.le_of_ble_eq_true rfl, Nat.le_of_ble_eq_true rfl⟩) ⟨RO.blind, va_recv hK hP (ci := 9) (q0 := 0) rfl rfl, RO.pre hPc hK hNW⟩ rfl rfl hl.1 rfl (lv_room (Nat.le_of_ble_eq_true rfl)) dX9_weight_16 ⟨Nat.le_of_ble_eq_true rfl, Nat.le_of_ble_eq_true rfl⟩) ?_
        refine lv_aload_n hx hb dX9_weight_19 rfl (lv_at hl 0 rfl) ?_
        refine va_get (D := (dC, dI)) (ci := 9) (v := .ref (a 1)) (C := RX9) (T := TX9) (N := 13) hx hb hts hinX9 hown hK hP 0 rfl rfl 1 (by decide) hw1 (fun _ h9 => h9) rfl dX9_weight_20 ?_
        refine lv_sipush (v := (177 : Int32)) hx hb dX9_weight_23 (by decide) ?_
        refine lv_iload_n hx hb dX9_weight_26 rfl (lv_at hl 3 rfl) ?_
        refine lv_iadd hx hb dX9_weight_27 ?_
        obtain ⟨hi, hf⟩ := gd_s hf
        refine va_iald (D := (dC, dI)) (f := (M 1)) hx hb hK hP 1 0 rfl rfl (inb_in hi) dX9_weight_28 ?_
        refine lv_imul hx hb dX9_weight_29 ?_
        refine lv_iadd hx hb dX9_weight_30 ?_
        refine lv_istore_n (lv' := [(2, .int (l2 + (r16 * (M 1 ((177 : Int32) + l3).toNatClampNeg)))), (0, .ref (a 0)), (1, .int l1), (3, .int l3)]) hx hb dX9_weight_31 rfl hl (by decide) rfl (fun ls hl => ?_)
        refine lv_iinc (v := (l3 + (1 : Int32))) (lv' := [(3, .int (l3 + (1 : Int32))), (2, .int (l2 + (r16 * (M 1 ((177 : Int32) + l3).toNatClampNeg)))), (0, .ref (a 0)), (1, .int l1)]) hx hb dX9_weight_32 hl (k := 3) rfl rfl (by decide) rfl (fun ls hl => ?_)
        refine lv_goto (tgt := 4) hx hb dX9_weight_35 (by decide) ?_
        exact ih kx38 hkx38 l1 (l2 + (r16 * (M 1 ((177 : Int32) + l3).toNatClampNeg))) (l3 + (1 : Int32)) hf _ (lv_sub hl [2, 3, 1, 0] rfl)
  have hl := lv_entry ([.ref (a 0), .int a1]) (n := 4) (Nat.le_of_ble_eq_true rfl)
  rw [lg_entry_eq]
  generalize (lg_sl ([.ref (a 0), .int a1]) ++ List.replicate (4 - (lg_sl ([.ref (a 0), .int a1])).length) Slot.unset).toArray = ls at hl ⊢
  have hl : lv_has ls 4 [(0, .ref (a 0)), (1, .int a1)] := hl
  unfold fX9_weight at hf
  refine lv_iconst (v := (0 : Int32)) hx hb dX9_weight_0 (by decide) ?_
  refine lv_istore_n (lv' := [(2, .int (0 : Int32)), (0, .ref (a 0)), (1, .int a1)]) hx hb dX9_weight_1 rfl hl (by decide) rfl (fun ls hl => ?_)
  refine lv_iconst (v := (0 : Int32)) hx hb dX9_weight_2 (by decide) ?_
  refine lv_istore_n (lv' := [(3, .int (0 : Int32)), (2, .int (0 : Int32)), (0, .ref (a 0)), (1, .int a1)]) hx hb dX9_weight_3 rfl hl (by decide) rfl (fun ls hl => ?_)
  refine hfX9_weight_L4 5000 _ (fun l2 hf ls hl => ?_) a1 (0 : Int32) (0 : Int32) hf _ (lv_sub hl [2, 3, 1, 0] rfl)
  refine lv_iload_n hx hb dX9_weight_38 rfl (lv_at hl 0 rfl) ?_
  exact W.iret (v := l2) hx hb hr (fun t ht hW => ⟨congrArg (fun x => Outcome.returned (some (Value.int x))) (so_e hf), ht⟩) fl0 dX9_weight_39
set_option maxHeartbeats 4000000 in
set_option maxRecDepth 100000 in
theorem c_X9_stock (l : Launch) (dC : Nat → ClassId) (dI : Nat → Nat → Nat) (cI cZ : ClassId) (a : Nat → Nat) (M : Mem) (a1 : Int32) (z : Int32) (hf : fX9_stock M a1 = some z) : Met l yX9_stock wsX9_stock ({ frames := 1, cells := 0, slots := 0, locals := 22 } : Room) (va_Pc [.ref (a 0), .int a1] (RO (dC, dI) cI cZ (wX9 cI cZ a M))) (k2_QcV (.int z)) 0 0 (fun _ => False) := by
  refine Met.ofW (cc := cX9_stock) (maxL := 4) (ret := (some .int)) (by decide) rfl ?_
  intro p e s m args below meth c s₁ B hml hv
  obtain ⟨rfl, hP, hK, hNW⟩ := hv
  have hx := B.exec
  have hb := B.bytes
  have hr := B.returns
  have hts := atoms_spec (ws := wsX9_stock) B.pre
  have hown : s.vm.findClass RX9 = some m.cls := findClass_of_methodNamed B.named
  have hlocks := B.notSynchronized
  have hinX9 : ∀ w ∈ u_ws RX9 TX9 13, w ∈ wsX9_stock := by decide +kernel
  have hw1 := hts (.fieldLink RX9 7 "GlideShelvesModel" "s" "[I") (by decide +kernel)
  have hfX9_stock_L4 : ∀ (n : Nat) (kx31 : Int32 → Option (Int32)) (hkx31 : ∀ (l2 : Int32), kx31 l2 = some z → ∀ (ls : Array Slot), lv_has ls 4 [(2, .int l2)] → W p l e (headSpec wsX9_stock ({ frames := 1, cells := 0, slots := 0, locals := 22 } : Room)).room s m ([.ref (a 0), .int a1] : List Value).toArray below meth c s.heap [] 0 0 (MQ below (k2_QcV (.int z)) ([.ref (a 0), .int a1] : List Value).toArray s 0 0 (fun _ => False)) (F0 m 31 ls [])), ∀ (l1 : Int32) (l2 : Int32) (l3 : Int32), fX9_stock_L4 M n kx31 l1 l2 l3 = some z → ∀ (ls : Array Slot), lv_has ls 4 [(0, .ref (a 0)), (1, .int l1), (2, .int l2), (3, .int l3)] → W p l e (headSpec wsX9_stock ({ frames := 1, cells := 0, slots := 0, locals := 22 } : Room)).room s m ([.ref (a 0), .int a1] : List Value).toArray below meth c s.heap [] 0 0 (MQ below (k2_QcV (.int z)) ([.ref (a 0), .int a1] : List Value).toArray s 0 0 (fun _ => False)) (F0 m 4 ls []) := by
    intro n
    induction n with
    | zero =>
      intro kx31 hkx31 l1 l2 l3 hf ls hl
      rw [fX9_stock_L4] at hf
      cases hf
    | succ n ih =>
      intro kx31 hkx31 l1 l2 l3 hf ls hl
      rw [fX9_stock_L4] at hf
      refine lv_iload_n hx hb dX9_stock_4 rfl (lv_at hl 3 rfl) ?_
      refine lv_aload_n hx hb dX9_stock_5 rfl (lv_at hl 0 rfl) ?_
      refine va_get (D := (dC, dI)) (ci := 9) (v := .ref (a 1)) (C := RX9) (T := TX9) (N := 13) hx hb hts hinX9 hown hK hP 0 rfl rfl 1 (by decide) hw1 (fun _ h9 => h9) rfl dX9_stock_6 ?_
      refine lv_iconst (v := (0 : Int32)) hx hb dX9_stock_9 (by decide) ?_
      obtain ⟨hi, hf⟩ := gd_s hf
      refine va_iald (D := (dC, dI)) (f := (M 1)) hx hb hK hP 1 0 rfl rfl (inb_in hi) dX9_stock_10 ?_
      refine lv_icmp_ge (tgt := 31) hx hb dX9_stock_11 (by decide) (fun c9 => ?_) (fun c9 => ?_)
      · have hf := it_t hf c9
        exact hkx31 l2 hf _ (lv_sub hl [2] rfl)
      · have hf := it_f hf c9
        refine lv_iload_n hx hb dX9_stock_14 rfl (lv_at hl 2 rfl) ?_
        refine lv_aload_n hx hb dX9_stock_15 rfl (lv_at hl 0 rfl) ?_
        refine lv_iload_n hx hb dX9_stock_16 rfl (lv_at hl 3 rfl) ?_
        refine lv_iconst (v := (4 : Int32)) hx hb dX9_stock_17 (by decide) ?_
        refine lv_iload_n hx hb dX9_stock_18 rfl (lv_at hl 1 rfl) ?_
        refine lv_iadd hx hb dX9_stock_19 ?_
        obtain ⟨r20, hc20, hf⟩ := bi_s hf
        have hPc := hP
        refine cRO (W.runV (As := [.int l3, .int ((4 : Int32) + l1)]) (rest := [.int l2]) ⟨hx, hb, hml, hown, hts⟩ (c_X9_of l dC dI cI cZ a M l3 ((4 : Int32) + l1) r20 hc20) (cwV 2 hts gX9_stock_X9_of rfl rfl rfl (by decide +kernel) ⟨Nat.le_of_ble_eq_true rfl, Nat.le_of_ble_eq_true rfl⟩) ⟨RO.blind, va_recv hK hP (ci := 9) (q0 := 0) rfl rfl, RO.pre hPc hK hNW⟩ rfl rfl hl.1 rfl (lv_room (Nat.le_of_ble_eq_true rfl)) dX9_stock_20 ⟨Nat.le_of_ble_eq_true rfl, Nat.le_of_ble_eq_true rfl⟩) ?_
        refine lv_iadd hx hb dX9_stock_23 ?_
        refine lv_istore_n (lv' := [(2, .int (l2 + r20)), (0, .ref (a 0)), (1, .int l1), (3, .int l3)]) hx hb dX9_stock_24 rfl hl (by decide) rfl (fun ls hl => ?_)
        refine lv_iinc (v := (l3 + (1 : Int32))) (lv' := [(3, .int (l3 + (1 : Int32))), (2, .int (l2 + r20)), (0, .ref (a 0)), (1, .int l1)]) hx hb dX9_stock_25 hl (k := 3) rfl rfl (by decide) rfl (fun ls hl => ?_)
        refine lv_goto (tgt := 4) hx hb dX9_stock_28 (by decide) ?_
        exact ih kx31 hkx31 l1 (l2 + r20) (l3 + (1 : Int32)) hf _ (lv_sub hl [2, 3, 1, 0] rfl)
  have hl := lv_entry ([.ref (a 0), .int a1]) (n := 4) (Nat.le_of_ble_eq_true rfl)
  rw [lg_entry_eq]
  generalize (lg_sl ([.ref (a 0), .int a1]) ++ List.replicate (4 - (lg_sl ([.ref (a 0), .int a1])).length) Slot.unset).toArray = ls at hl ⊢
  have hl : lv_has ls 4 [(0, .ref (a 0)), (1, .int a1)] := hl
  unfold fX9_stock at hf
  refine lv_iconst (v := (0 : Int32)) hx hb dX9_stock_0 (by decide) ?_
  refine lv_istore_n (lv' := [(2, .int (0 : Int32)), (0, .ref (a 0)), (1, .int a1)]) hx hb dX9_stock_1 rfl hl (by decide) rfl (fun ls hl => ?_)
  refine lv_iconst (v := (0 : Int32)) hx hb dX9_stock_2 (by decide) ?_
  refine lv_istore_n (lv' := [(3, .int (0 : Int32)), (2, .int (0 : Int32)), (0, .ref (a 0)), (1, .int a1)]) hx hb dX9_stock_3 rfl hl (by decide) rfl (fun ls hl => ?_)
  refine hfX9_stock_L4 5000 _ (fun l2 hf ls hl => ?_) a1 (0 : Int32) (0 : Int32) hf _ (lv_sub hl [2, 3, 1, 0] rfl)
  refine lv_iload_n hx hb dX9_stock_31 rfl (lv_at hl 0 rfl) ?_
  exact W.iret (v := l2) hx hb hr (fun t ht hW => ⟨congrArg (fun x => Outcome.returned (some (Value.int x))) (so_e hf), ht⟩) fl0 dX9_stock_32
set_option maxHeartbeats 4000000 in
set_option maxRecDepth 100000 in
theorem c_X9_missing (l : Launch) (dC : Nat → ClassId) (dI : Nat → Nat → Nat) (cI cZ : ClassId) (a : Nat → Nat) (M : Mem) (a1 : Int32) (z : Int32) (hf : fX9_missing M a1 = some z) : Met l yX9_missing wsX9_missing ({ frames := 2, cells := 0, slots := 0, locals := 45 } : Room) (va_Pc [.ref (a 0), .int a1] (RO (dC, dI) cI cZ (wX9 cI cZ a M))) (k2_QcV (.int z)) 0 0 (fun _ => False) := by
  refine Met.ofW (cc := cX9_missing) (maxL := 3) (ret := (some .int)) (by decide) rfl ?_
  intro p e s m args below meth c s₁ B hml hv
  obtain ⟨rfl, hP, hK, hNW⟩ := hv
  have hx := B.exec
  have hb := B.bytes
  have hr := B.returns
  have hts := atoms_spec (ws := wsX9_missing) B.pre
  have hown : s.vm.findClass RX9 = some m.cls := findClass_of_methodNamed B.named
  have hlocks := B.notSynchronized
  have hinX9 : ∀ w ∈ u_ws RX9 TX9 13, w ∈ wsX9_missing := by decide +kernel
  have hw1 := hts (.fieldLink RX9 7 "GlideShelvesModel" "s" "[I") (by decide +kernel)
  have hfX9_missing_B26 : ∀ (s0 : Int32), fX9_missing_B26 M  s0 = some z → ∀ (ls : Array Slot), lv_has ls 3 [] → W p l e (headSpec wsX9_missing ({ frames := 2, cells := 0, slots := 0, locals := 45 } : Room)).room s m ([.ref (a 0), .int a1] : List Value).toArray below meth c s.heap [] 0 0 (MQ below (k2_QcV (.int z)) ([.ref (a 0), .int a1] : List Value).toArray s 0 0 (fun _ => False)) (F0 m 26 ls [.int s0]) := by
    intro  s0 hf ls hl
    unfold fX9_missing_B26 at hf
    exact W.iret (v := s0) hx hb hr (fun t ht hW => ⟨congrArg (fun x => Outcome.returned (some (Value.int x))) (so_e hf), ht⟩) fl0 dX9_missing_26
  have hl := lv_entry ([.ref (a 0), .int a1]) (n := 3) (Nat.le_of_ble_eq_true rfl)
  rw [lg_entry_eq]
  generalize (lg_sl ([.ref (a 0), .int a1]) ++ List.replicate (3 - (lg_sl ([.ref (a 0), .int a1])).length) Slot.unset).toArray = ls at hl ⊢
  have hl : lv_has ls 3 [(0, .ref (a 0)), (1, .int a1)] := hl
  unfold fX9_missing at hf
  refine lv_aload_n hx hb dX9_missing_0 rfl (lv_at hl 0 rfl) ?_
  refine va_get (D := (dC, dI)) (ci := 9) (v := .ref (a 1)) (C := RX9) (T := TX9) (N := 13) hx hb hts hinX9 hown hK hP 0 rfl rfl 1 (by decide) hw1 (fun _ h9 => h9) rfl dX9_missing_1 ?_
  refine lv_sipush (v := (187 : Int32)) hx hb dX9_missing_4 (by decide) ?_
  refine lv_iload_n hx hb dX9_missing_7 rfl (lv_at hl 1 rfl) ?_
  refine lv_iadd hx hb dX9_missing_8 ?_
  obtain ⟨hi, hf⟩ := gd_s hf
  refine va_iald (D := (dC, dI)) (f := (M 1)) hx hb hK hP 1 0 rfl rfl (inb_in hi) dX9_missing_9 ?_
  refine lv_aload_n hx hb dX9_missing_10 rfl (lv_at hl 0 rfl) ?_
  refine lv_iload_n hx hb dX9_missing_11 rfl (lv_at hl 1 rfl) ?_
  obtain ⟨r12, hc12, hf⟩ := bi_s hf
  have hPc := hP
  refine cRO (W.runV (As := [.int a1]) (rest := [.int (M 1 ((187 : Int32) + a1).toNatClampNeg)]) ⟨hx, hb, hml, hown, hts⟩ (c_X9_stock l dC dI cI cZ a M a1 r12 hc12) (cwV 1 hts gX9_missing_X9_stock rfl rfl rfl (by decide +kernel) ⟨Nat.le_of_ble_eq_true rfl, Nat.le_of_ble_eq_true rfl⟩) ⟨RO.blind, va_recv hK hP (ci := 9) (q0 := 0) rfl rfl, RO.pre hPc hK hNW⟩ rfl rfl hl.1 rfl (lv_room (Nat.le_of_ble_eq_true rfl)) dX9_missing_12 ⟨Nat.le_of_ble_eq_true rfl, Nat.le_of_ble_eq_true rfl⟩) ?_
  refine lv_isub hx hb dX9_missing_15 ?_
  refine lv_istore_n (lv' := [(2, .int ((M 1 ((187 : Int32) + a1).toNatClampNeg) - r12)), (0, .ref (a 0)), (1, .int a1)]) hx hb dX9_missing_16 rfl hl (by decide) rfl (fun ls hl => ?_)
  refine lv_iload_n hx hb dX9_missing_17 rfl (lv_at hl 0 rfl) ?_
  refine lv_if_le (tgt := 25) hx hb dX9_missing_18 (by decide) (fun c9 => ?_) (fun c9 => ?_)
  · have hf := it_t hf c9
    refine lv_iconst (v := (0 : Int32)) hx hb dX9_missing_25 (by decide) ?_
    exact hfX9_missing_B26  (0 : Int32) hf _ (lv_sub hl [] rfl)
  · have hf := it_f hf c9
    refine lv_iload_n hx hb dX9_missing_21 rfl (lv_at hl 0 rfl) ?_
    refine lv_goto (tgt := 26) hx hb dX9_missing_22 (by decide) ?_
    exact hfX9_missing_B26  ((M 1 ((187 : Int32) + a1).toNatClampNeg) - r12) hf _ (lv_sub hl [] rfl)
set_option maxHeartbeats 4000000 in
set_option maxRecDepth 100000 in
theorem c_X9_wants (l : Launch) (dC : Nat → ClassId) (dI : Nat → Nat → Nat) (cI cZ : ClassId) (a : Nat → Nat) (M : Mem) (a1 : Int32) (a2 : Int32) (z : Int32) (hf : fX9_wants M a1 a2 = some z) : Met l yX9_wants wsX9_wants ({ frames := 0, cells := 0, slots := 0, locals := 0 } : Room) (va_Pc [.ref (a 0), .int a1, .int a2] (RO (dC, dI) cI cZ (wX9 cI cZ a M))) (k2_QcV (.int z)) 0 0 (fun _ => False) := by
  refine Met.ofW (cc := cX9_wants) (maxL := 3) (ret := (some .int)) (by decide) rfl ?_
  intro p e s m args below meth c s₁ B hml hv
  obtain ⟨rfl, hP, hK, hNW⟩ := hv
  have hx := B.exec
  have hb := B.bytes
  have hr := B.returns
  have hts := atoms_spec (ws := wsX9_wants) B.pre
  have hown : s.vm.findClass RX9 = some m.cls := findClass_of_methodNamed B.named
  have hlocks := B.notSynchronized
  have hinX9 : ∀ w ∈ u_ws RX9 TX9 13, w ∈ wsX9_wants := by decide +kernel
  have hw1 := hts (.fieldLink RX9 7 "GlideShelvesModel" "s" "[I") (by decide +kernel)
  have hl := lv_entry ([.ref (a 0), .int a1, .int a2]) (n := 3) (Nat.le_of_ble_eq_true rfl)
  rw [lg_entry_eq]
  generalize (lg_sl ([.ref (a 0), .int a1, .int a2]) ++ List.replicate (3 - (lg_sl ([.ref (a 0), .int a1, .int a2])).length) Slot.unset).toArray = ls at hl ⊢
  have hl : lv_has ls 3 [(0, .ref (a 0)), (1, .int a1), (2, .int a2)] := hl
  unfold fX9_wants at hf
  refine lv_aload_n hx hb dX9_wants_0 rfl (lv_at hl 0 rfl) ?_
  refine va_get (D := (dC, dI)) (ci := 9) (v := .ref (a 1)) (C := RX9) (T := TX9) (N := 13) hx hb hts hinX9 hown hK hP 0 rfl rfl 1 (by decide) hw1 (fun _ h9 => h9) rfl dX9_wants_1 ?_
  refine lv_sipush (v := (223 : Int32)) hx hb dX9_wants_4 (by decide) ?_
  refine lv_bipush (v := (10 : Int32)) hx hb dX9_wants_7 (by decide) ?_
  refine lv_iload_n hx hb dX9_wants_9 rfl (lv_at hl 1 rfl) ?_
  refine lv_imul hx hb dX9_wants_10 ?_
  refine lv_iadd hx hb dX9_wants_11 ?_
  refine lv_iload_n hx hb dX9_wants_12 rfl (lv_at hl 2 rfl) ?_
  refine lv_iadd hx hb dX9_wants_13 ?_
  obtain ⟨hi, hf⟩ := gd_s hf
  refine va_iald (D := (dC, dI)) (f := (M 1)) hx hb hK hP 1 0 rfl rfl (inb_in hi) dX9_wants_14 ?_
  exact W.iret (v := (M 1 (((223 : Int32) + ((10 : Int32) * a1)) + a2).toNatClampNeg)) hx hb hr (fun t ht hW => ⟨congrArg (fun x => Outcome.returned (some (Value.int x))) (so_e hf), ht⟩) fl0 dX9_wants_15
set_option maxHeartbeats 4000000 in
set_option maxRecDepth 100000 in
theorem c_X9_canBe (l : Launch) (dC : Nat → ClassId) (dI : Nat → Nat → Nat) (cI cZ : ClassId) (a : Nat → Nat) (M : Mem) (a1 : Int32) (z : Int32) (hf : fX9_canBe M a1 = some z) : Met l yX9_canBe wsX9_canBe ({ frames := 2, cells := 0, slots := 0, locals := 45 } : Room) (va_Pc [.ref (a 0), .int a1] (RO (dC, dI) cI cZ (wX9 cI cZ a M))) (k2_QcV (.int z)) 0 0 (fun _ => False) := by
  refine Met.ofW (cc := cX9_canBe) (maxL := 4) (ret := (some .boolean)) (by decide) rfl ?_
  intro p e s m args below meth c s₁ B hml hv
  obtain ⟨rfl, hP, hK, hNW⟩ := hv
  have hx := B.exec
  have hb := B.bytes
  have hr := B.returns
  have hts := atoms_spec (ws := wsX9_canBe) B.pre
  have hown : s.vm.findClass RX9 = some m.cls := findClass_of_methodNamed B.named
  have hlocks := B.notSynchronized
  have hfX9_canBe_B33 : ∀ (kb : Int32 → Int32 → Int32 → Option (Int32)) (hkb : ∀ (l1 : Int32) (l2 : Int32) (l3 : Int32), kb l1 l2 l3 = some z → ∀ (ls : Array Slot), lv_has ls 4 [(0, .ref (a 0)), (1, .int l1), (2, .int l2), (3, .int l3)] → W p l e (headSpec wsX9_canBe ({ frames := 2, cells := 0, slots := 0, locals := 45 } : Room)).room s m ([.ref (a 0), .int a1] : List Value).toArray below meth c s.heap [] 0 0 (MQ below (k2_QcV (.int z)) ([.ref (a 0), .int a1] : List Value).toArray s 0 0 (fun _ => False)) (F0 m 4 ls [])) (kx40 : Int32 → Option (Int32)) (hkx40 : ∀ (l2 : Int32), kx40 l2 = some z → ∀ (ls : Array Slot), lv_has ls 4 [(2, .int l2)] → W p l e (headSpec wsX9_canBe ({ frames := 2, cells := 0, slots := 0, locals := 45 } : Room)).room s m ([.ref (a 0), .int a1] : List Value).toArray below meth c s.heap [] 0 0 (MQ below (k2_QcV (.int z)) ([.ref (a 0), .int a1] : List Value).toArray s 0 0 (fun _ => False)) (F0 m 40 ls [])), ∀ (l1 : Int32) (l3 : Int32) (s0 : Int32), fX9_canBe_B33 M kb kx40 l1 l3 s0 = some z → ∀ (ls : Array Slot), lv_has ls 4 [(0, .ref (a 0)), (1, .int l1), (3, .int l3)] → W p l e (headSpec wsX9_canBe ({ frames := 2, cells := 0, slots := 0, locals := 45 } : Room)).room s m ([.ref (a 0), .int a1] : List Value).toArray below meth c s.heap [] 0 0 (MQ below (k2_QcV (.int z)) ([.ref (a 0), .int a1] : List Value).toArray s 0 0 (fun _ => False)) (F0 m 33 ls [.int s0]) := by
    intro kb hkb kx40 hkx40 l1 l3 s0 hf ls hl
    unfold fX9_canBe_B33 at hf
    refine lv_istore_n (lv' := [(2, .int s0), (0, .ref (a 0)), (1, .int l1), (3, .int l3)]) hx hb dX9_canBe_33 rfl hl (by decide) rfl (fun ls hl => ?_)
    refine lv_iinc (v := (l3 + (1 : Int32))) (lv' := [(3, .int (l3 + (1 : Int32))), (2, .int s0), (0, .ref (a 0)), (1, .int l1)]) hx hb dX9_canBe_34 hl (k := 3) rfl rfl (by decide) rfl (fun ls hl => ?_)
    refine lv_goto (tgt := 4) hx hb dX9_canBe_37 (by decide) ?_
    exact hkb l1 s0 (l3 + (1 : Int32)) hf _ (lv_sub hl [2, 3, 1, 0] rfl)
  have hfX9_canBe_B32 : ∀ (kb : Int32 → Int32 → Int32 → Option (Int32)) (hkb : ∀ (l1 : Int32) (l2 : Int32) (l3 : Int32), kb l1 l2 l3 = some z → ∀ (ls : Array Slot), lv_has ls 4 [(0, .ref (a 0)), (1, .int l1), (2, .int l2), (3, .int l3)] → W p l e (headSpec wsX9_canBe ({ frames := 2, cells := 0, slots := 0, locals := 45 } : Room)).room s m ([.ref (a 0), .int a1] : List Value).toArray below meth c s.heap [] 0 0 (MQ below (k2_QcV (.int z)) ([.ref (a 0), .int a1] : List Value).toArray s 0 0 (fun _ => False)) (F0 m 4 ls [])) (kx40 : Int32 → Option (Int32)) (hkx40 : ∀ (l2 : Int32), kx40 l2 = some z → ∀ (ls : Array Slot), lv_has ls 4 [(2, .int l2)] → W p l e (headSpec wsX9_canBe ({ frames := 2, cells := 0, slots := 0, locals := 45 } : Room)).room s m ([.ref (a 0), .int a1] : List Value).toArray below meth c s.heap [] 0 0 (MQ below (k2_QcV (.int z)) ([.ref (a 0), .int a1] : List Value).toArray s 0 0 (fun _ => False)) (F0 m 40 ls [])), ∀ (l1 : Int32) (l3 : Int32), fX9_canBe_B32 M kb kx40 l1 l3 = some z → ∀ (ls : Array Slot), lv_has ls 4 [(0, .ref (a 0)), (1, .int l1), (3, .int l3)] → W p l e (headSpec wsX9_canBe ({ frames := 2, cells := 0, slots := 0, locals := 45 } : Room)).room s m ([.ref (a 0), .int a1] : List Value).toArray below meth c s.heap [] 0 0 (MQ below (k2_QcV (.int z)) ([.ref (a 0), .int a1] : List Value).toArray s 0 0 (fun _ => False)) (F0 m 32 ls []) := by
    intro kb hkb kx40 hkx40 l1 l3 hf ls hl
    unfold fX9_canBe_B32 at hf
    refine lv_iconst (v := (0 : Int32)) hx hb dX9_canBe_32 (by decide) ?_
    exact hfX9_canBe_B33 _ hkb _ hkx40 l1 l3 (0 : Int32) hf _ (lv_sub hl [0, 1, 2] rfl)
  have hfX9_canBe_L4 : ∀ (n : Nat) (kx40 : Int32 → Option (Int32)) (hkx40 : ∀ (l2 : Int32), kx40 l2 = some z → ∀ (ls : Array Slot), lv_has ls 4 [(2, .int l2)] → W p l e (headSpec wsX9_canBe ({ frames := 2, cells := 0, slots := 0, locals := 45 } : Room)).room s m ([.ref (a 0), .int a1] : List Value).toArray below meth c s.heap [] 0 0 (MQ below (k2_QcV (.int z)) ([.ref (a 0), .int a1] : List Value).toArray s 0 0 (fun _ => False)) (F0 m 40 ls [])), ∀ (l1 : Int32) (l2 : Int32) (l3 : Int32), fX9_canBe_L4 M n kx40 l1 l2 l3 = some z → ∀ (ls : Array Slot), lv_has ls 4 [(0, .ref (a 0)), (1, .int l1), (2, .int l2), (3, .int l3)] → W p l e (headSpec wsX9_canBe ({ frames := 2, cells := 0, slots := 0, locals := 45 } : Room)).room s m ([.ref (a 0), .int a1] : List Value).toArray below meth c s.heap [] 0 0 (MQ below (k2_QcV (.int z)) ([.ref (a 0), .int a1] : List Value).toArray s 0 0 (fun _ => False)) (F0 m 4 ls []) := by
    intro n
    induction n with
    | zero =>
      intro kx40 hkx40 l1 l2 l3 hf ls hl
      rw [fX9_canBe_L4] at hf
      cases hf
    | succ n ih =>
      intro kx40 hkx40 l1 l2 l3 hf ls hl
      rw [fX9_canBe_L4] at hf
      refine lv_iload_n hx hb dX9_canBe_4 rfl (lv_at hl 3 rfl) ?_
      refine lv_bipush (v := (10 : Int32)) hx hb dX9_canBe_5 (by decide) ?_
      refine lv_icmp_ge (tgt := 40) hx hb dX9_canBe_7 (by decide) (fun c9 => ?_) (fun c9 => ?_)
      · have hf := it_t hf c9
        exact hkx40 l2 hf _ (lv_sub hl [2] rfl)
      · have hf := it_f hf c9
        refine lv_iload_n hx hb dX9_canBe_10 rfl (lv_at hl 2 rfl) ?_
        refine lv_if_eq (tgt := 32) hx hb dX9_canBe_11 (by decide) (fun c9 => ?_) (fun c9 => ?_)
        · have hf := it_t hf c9
          exact hfX9_canBe_B32 _ (ih kx40 hkx40) _ hkx40 l1 l3 hf _ (lv_sub hl [0, 1, 3] rfl)
        · have hf := it_f hf c9
          refine lv_aload_n hx hb dX9_canBe_14 rfl (lv_at hl 0 rfl) ?_
          refine lv_iload_n hx hb dX9_canBe_15 rfl (lv_at hl 1 rfl) ?_
          refine lv_iload_n hx hb dX9_canBe_16 rfl (lv_at hl 3 rfl) ?_
          obtain ⟨r17, hc17, hf⟩ := bi_s hf
          have hPc := hP
          refine cRO (W.runV (As := [.int l1, .int l3]) (rest := []) ⟨hx, hb, hml, hown, hts⟩ (c_X9_wants l dC dI cI cZ a M l1 l3 r17 hc17) (cwV 2 hts gX9_canBe_X9_wants rfl rfl rfl (by decide +kernel) ⟨Nat.le_of_ble_eq_true rfl, Nat.le_of_ble_eq_true rfl⟩) ⟨RO.blind, va_recv hK hP (ci := 9) (q0 := 0) rfl rfl, RO.pre hPc hK hNW⟩ rfl rfl hl.1 rfl (lv_room (Nat.le_of_ble_eq_true rfl)) dX9_canBe_17 ⟨Nat.le_of_ble_eq_true rfl, Nat.le_of_ble_eq_true rfl⟩) ?_
          refine lv_aload_n hx hb dX9_canBe_20 rfl (lv_at hl 0 rfl) ?_
          refine lv_iload_n hx hb dX9_canBe_21 rfl (lv_at hl 3 rfl) ?_
          obtain ⟨r22, hc22, hf⟩ := bi_s hf
          have hPc := hP
          refine cRO (W.runV (As := [.int l3]) (rest := [.int r17]) ⟨hx, hb, hml, hown, hts⟩ (c_X9_stock l dC dI cI cZ a M l3 r22 hc22) (cwV 1 hts gX9_canBe_X9_stock rfl rfl rfl (by decide +kernel) ⟨Nat.le_of_ble_eq_true rfl, Nat.le_of_ble_eq_true rfl⟩) ⟨RO.blind, va_recv hK hP (ci := 9) (q0 := 0) rfl rfl, RO.pre hPc hK hNW⟩ rfl rfl hl.1 rfl (lv_room (Nat.le_of_ble_eq_true rfl)) dX9_canBe_22 ⟨Nat.le_of_ble_eq_true rfl, Nat.le_of_ble_eq_true rfl⟩) ?_
          refine lv_icmp_gt (tgt := 32) hx hb dX9_canBe_25 (by decide) (fun c9 => ?_) (fun c9 => ?_)
          · have hf := it_t hf c9
            exact hfX9_canBe_B32 _ (ih kx40 hkx40) _ hkx40 l1 l3 hf _ (lv_sub hl [0, 1, 3] rfl)
          · have hf := it_f hf c9
            refine lv_iconst (v := (1 : Int32)) hx hb dX9_canBe_28 (by decide) ?_
            refine lv_goto (tgt := 33) hx hb dX9_canBe_29 (by decide) ?_
            exact hfX9_canBe_B33 _ (ih kx40 hkx40) _ hkx40 l1 l3 (1 : Int32) hf _ (lv_sub hl [0, 1, 3] rfl)
  have hl := lv_entry ([.ref (a 0), .int a1]) (n := 4) (Nat.le_of_ble_eq_true rfl)
  rw [lg_entry_eq]
  generalize (lg_sl ([.ref (a 0), .int a1]) ++ List.replicate (4 - (lg_sl ([.ref (a 0), .int a1])).length) Slot.unset).toArray = ls at hl ⊢
  have hl : lv_has ls 4 [(0, .ref (a 0)), (1, .int a1)] := hl
  unfold fX9_canBe at hf
  refine lv_iconst (v := (1 : Int32)) hx hb dX9_canBe_0 (by decide) ?_
  refine lv_istore_n (lv' := [(2, .int (1 : Int32)), (0, .ref (a 0)), (1, .int a1)]) hx hb dX9_canBe_1 rfl hl (by decide) rfl (fun ls hl => ?_)
  refine lv_iconst (v := (0 : Int32)) hx hb dX9_canBe_2 (by decide) ?_
  refine lv_istore_n (lv' := [(3, .int (0 : Int32)), (2, .int (1 : Int32)), (0, .ref (a 0)), (1, .int a1)]) hx hb dX9_canBe_3 rfl hl (by decide) rfl (fun ls hl => ?_)
  refine hfX9_canBe_L4 5000 _ (fun l2 hf ls hl => ?_) a1 (1 : Int32) (0 : Int32) hf _ (lv_sub hl [2, 3, 1, 0] rfl)
  refine lv_iload_n hx hb dX9_canBe_40 rfl (lv_at hl 0 rfl) ?_
  obtain ⟨hz, hf⟩ := gd_s hf
  exact W.zret (v := l2) hx hb hr (isb_nar hz) (fun t ht hW => ⟨congrArg (fun x => Outcome.returned (some (Value.int x))) (so_e hf), ht⟩) fl0 dX9_canBe_41
set_option maxHeartbeats 4000000 in
set_option maxRecDepth 100000 in
theorem c_X9_bits (l : Launch) (a0 : Int32) (z : Int32) (hf : fX9_bits a0 = some z) : Met l yX9_bits wsX9_bits ({ frames := 0, cells := 0, slots := 0, locals := 0 } : Room) (va_Pc [.int a0] (fun _ => True)) (k2_QcV (.int z)) 0 0 (fun _ => False) := by
  refine Met.ofW (cc := cX9_bits) (maxL := 3) (ret := (some .int)) (by decide) rfl ?_
  intro p e s m args below meth c s₁ B hml hv
  obtain ⟨rfl, -⟩ := hv
  have hx := B.exec
  have hb := B.bytes
  have hr := B.returns
  have hts := atoms_spec (ws := wsX9_bits) B.pre
  have hown : s.vm.findClass RX9 = some m.cls := findClass_of_methodNamed B.named
  have hlocks := B.notSynchronized
  have hfX9_bits_L4 : ∀ (n : Nat) (kx24 : Int32 → Option (Int32)) (hkx24 : ∀ (l1 : Int32), kx24 l1 = some z → ∀ (ls : Array Slot), lv_has ls 3 [(1, .int l1)] → W p l e (headSpec wsX9_bits ({ frames := 0, cells := 0, slots := 0, locals := 0 } : Room)).room s m ([.int a0] : List Value).toArray below meth c s.heap [] 0 0 (MQ below (k2_QcV (.int z)) ([.int a0] : List Value).toArray s 0 0 (fun _ => False)) (F0 m 24 ls [])), ∀ (l0 : Int32) (l1 : Int32) (l2 : Int32), fX9_bits_L4 n kx24 l0 l1 l2 = some z → ∀ (ls : Array Slot), lv_has ls 3 [(0, .int l0), (1, .int l1), (2, .int l2)] → W p l e (headSpec wsX9_bits ({ frames := 0, cells := 0, slots := 0, locals := 0 } : Room)).room s m ([.int a0] : List Value).toArray below meth c s.heap [] 0 0 (MQ below (k2_QcV (.int z)) ([.int a0] : List Value).toArray s 0 0 (fun _ => False)) (F0 m 4 ls []) := by
    intro n
    induction n with
    | zero =>
      intro kx24 hkx24 l0 l1 l2 hf ls hl
      rw [fX9_bits_L4] at hf
      cases hf
    | succ n ih =>
      intro kx24 hkx24 l0 l1 l2 hf ls hl
      rw [fX9_bits_L4] at hf
      refine lv_iload_n hx hb dX9_bits_4 rfl (lv_at hl 2 rfl) ?_
      refine lv_bipush (v := (12 : Int32)) hx hb dX9_bits_5 (by decide) ?_
      refine lv_icmp_ge (tgt := 24) hx hb dX9_bits_7 (by decide) (fun c9 => ?_) (fun c9 => ?_)
      · have hf := it_t hf c9
        exact hkx24 l1 hf _ (lv_sub hl [1] rfl)
      · have hf := it_f hf c9
        refine lv_iload_n hx hb dX9_bits_10 rfl (lv_at hl 1 rfl) ?_
        refine lv_iload_n hx hb dX9_bits_11 rfl (lv_at hl 0 rfl) ?_
        refine lv_iload_n hx hb dX9_bits_12 rfl (lv_at hl 2 rfl) ?_
        refine lv_ishr hx hb dX9_bits_13 ?_
        refine lv_iconst (v := (1 : Int32)) hx hb dX9_bits_14 (by decide) ?_
        refine lv_iand hx hb dX9_bits_15 ?_
        refine lv_iadd hx hb dX9_bits_16 ?_
        refine lv_istore_n (lv' := [(1, .int (l1 + ((l0 >>> (l2 &&& 31)) &&& (1 : Int32)))), (0, .int l0), (2, .int l2)]) hx hb dX9_bits_17 rfl hl (by decide) rfl (fun ls hl => ?_)
        refine lv_iinc (v := (l2 + (1 : Int32))) (lv' := [(2, .int (l2 + (1 : Int32))), (1, .int (l1 + ((l0 >>> (l2 &&& 31)) &&& (1 : Int32)))), (0, .int l0)]) hx hb dX9_bits_18 hl (k := 2) rfl rfl (by decide) rfl (fun ls hl => ?_)
        refine lv_goto (tgt := 4) hx hb dX9_bits_21 (by decide) ?_
        exact ih kx24 hkx24 l0 (l1 + ((l0 >>> (l2 &&& 31)) &&& (1 : Int32))) (l2 + (1 : Int32)) hf _ (lv_sub hl [2, 1, 0] rfl)
  have hl := lv_entry ([.int a0]) (n := 3) (Nat.le_of_ble_eq_true rfl)
  rw [lg_entry_eq]
  generalize (lg_sl ([.int a0]) ++ List.replicate (3 - (lg_sl ([.int a0])).length) Slot.unset).toArray = ls at hl ⊢
  have hl : lv_has ls 3 [(0, .int a0)] := hl
  unfold fX9_bits at hf
  refine lv_iconst (v := (0 : Int32)) hx hb dX9_bits_0 (by decide) ?_
  refine lv_istore_n (lv' := [(1, .int (0 : Int32)), (0, .int a0)]) hx hb dX9_bits_1 rfl hl (by decide) rfl (fun ls hl => ?_)
  refine lv_iconst (v := (0 : Int32)) hx hb dX9_bits_2 (by decide) ?_
  refine lv_istore_n (lv' := [(2, .int (0 : Int32)), (1, .int (0 : Int32)), (0, .int a0)]) hx hb dX9_bits_3 rfl hl (by decide) rfl (fun ls hl => ?_)
  refine hfX9_bits_L4 5000 _ (fun l1 hf ls hl => ?_) a0 (0 : Int32) (0 : Int32) hf _ (lv_sub hl [2, 1, 0] rfl)
  refine lv_iload_n hx hb dX9_bits_24 rfl (lv_at hl 0 rfl) ?_
  exact W.iret (v := l1) hx hb hr (fun t ht hW => ⟨congrArg (fun x => Outcome.returned (some (Value.int x))) (so_e hf), ht⟩) fl0 dX9_bits_25
set_option maxHeartbeats 4000000 in
set_option maxRecDepth 100000 in
theorem c_X9_canSet (l : Launch) (dC : Nat → ClassId) (dI : Nat → Nat → Nat) (cI cZ : ClassId) (a : Nat → Nat) (M : Mem) (a1 : Int32) (a2 : Int32) (z : Int32) (hf : fX9_canSet M a1 a2 = some z) : Met l yX9_canSet wsX9_canSet ({ frames := 1, cells := 0, slots := 0, locals := 22 } : Room) (va_Pc [.ref (a 0), .int a1, .int a2] (RO (dC, dI) cI cZ (wX9 cI cZ a M))) (k2_QcV (.int z)) 0 0 (fun _ => False) := by
  refine Met.ofW (cc := cX9_canSet) (maxL := 7) (ret := (some .boolean)) (by decide) rfl ?_
  intro p e s m args below meth c s₁ B hml hv
  obtain ⟨rfl, hP, hK, hNW⟩ := hv
  have hx := B.exec
  have hb := B.bytes
  have hr := B.returns
  have hts := atoms_spec (ws := wsX9_canSet) B.pre
  have hown : s.vm.findClass RX9 = some m.cls := findClass_of_methodNamed B.named
  have hlocks := B.notSynchronized
  have hinX9 : ∀ w ∈ u_ws RX9 TX9 13, w ∈ wsX9_canSet := by decide +kernel
  have hw1 := hts (.fieldLink RX9 7 "GlideShelvesModel" "s" "[I") (by decide +kernel)
  have hfX9_canSet_B59 : ∀ (kb : Int32 → Int32 → Int32 → Int32 → Int32 → Option (Int32)) (hkb : ∀ (l1 : Int32) (l2 : Int32) (l4 : Int32) (l5 : Int32) (l6 : Int32), kb l1 l2 l4 l5 l6 = some z → ∀ (ls : Array Slot), lv_has ls 7 [(0, .ref (a 0)), (1, .int l1), (2, .int l2), (4, .int l4), (5, .int l5), (6, .int l6)] → W p l e (headSpec wsX9_canSet ({ frames := 1, cells := 0, slots := 0, locals := 22 } : Room)).room s m ([.ref (a 0), .int a1, .int a2] : List Value).toArray below meth c s.heap [] 0 0 (MQ below (k2_QcV (.int z)) ([.ref (a 0), .int a1, .int a2] : List Value).toArray s 0 0 (fun _ => False)) (F0 m 22 ls [])) (kx68 : Int32 → Int32 → Int32 → Int32 → Option (Int32)) (hkx68 : ∀ (l1 : Int32) (l2 : Int32) (l4 : Int32) (l5 : Int32), kx68 l1 l2 l4 l5 = some z → ∀ (ls : Array Slot), lv_has ls 7 [(0, .ref (a 0)), (1, .int l1), (2, .int l2), (4, .int l4), (5, .int l5)] → W p l e (headSpec wsX9_canSet ({ frames := 1, cells := 0, slots := 0, locals := 22 } : Room)).room s m ([.ref (a 0), .int a1, .int a2] : List Value).toArray below meth c s.heap [] 0 0 (MQ below (k2_QcV (.int z)) ([.ref (a 0), .int a1, .int a2] : List Value).toArray s 0 0 (fun _ => False)) (F0 m 68 ls [])), ∀ (l1 : Int32) (l2 : Int32) (l4 : Int32) (l6 : Int32) (s0 : Int32) (s1 : Int32), fX9_canSet_B59 M kb kx68 l1 l2 l4 l6 s0 s1 = some z → ∀ (ls : Array Slot), lv_has ls 7 [(0, .ref (a 0)), (1, .int l1), (2, .int l2), (4, .int l4), (6, .int l6)] → W p l e (headSpec wsX9_canSet ({ frames := 1, cells := 0, slots := 0, locals := 22 } : Room)).room s m ([.ref (a 0), .int a1, .int a2] : List Value).toArray below meth c s.heap [] 0 0 (MQ below (k2_QcV (.int z)) ([.ref (a 0), .int a1, .int a2] : List Value).toArray s 0 0 (fun _ => False)) (F0 m 59 ls [.int s1, .int s0]) := by
    intro kb hkb kx68 hkx68 l1 l2 l4 l6 s0 s1 hf ls hl
    unfold fX9_canSet_B59 at hf
    refine lv_iadd hx hb dX9_canSet_59 ?_
    refine lv_istore (lv' := [(5, .int (s0 + s1)), (0, .ref (a 0)), (1, .int l1), (2, .int l2), (4, .int l4), (6, .int l6)]) hx hb dX9_canSet_60 hl (by decide) rfl (fun ls hl => ?_)
    refine lv_iinc (v := (l6 + (1 : Int32))) (lv' := [(6, .int (l6 + (1 : Int32))), (5, .int (s0 + s1)), (0, .ref (a 0)), (1, .int l1), (2, .int l2), (4, .int l4)]) hx hb dX9_canSet_62 hl (k := 5) rfl rfl (by decide) rfl (fun ls hl => ?_)
    refine lv_goto (tgt := 22) hx hb dX9_canSet_65 (by decide) ?_
    exact hkb l1 l2 l4 (s0 + s1) (l6 + (1 : Int32)) hf _ (lv_sub hl [2, 3, 4, 5, 1, 0] rfl)
  have hfX9_canSet_L22 : ∀ (n : Nat) (kx68 : Int32 → Int32 → Int32 → Int32 → Option (Int32)) (hkx68 : ∀ (l1 : Int32) (l2 : Int32) (l4 : Int32) (l5 : Int32), kx68 l1 l2 l4 l5 = some z → ∀ (ls : Array Slot), lv_has ls 7 [(0, .ref (a 0)), (1, .int l1), (2, .int l2), (4, .int l4), (5, .int l5)] → W p l e (headSpec wsX9_canSet ({ frames := 1, cells := 0, slots := 0, locals := 22 } : Room)).room s m ([.ref (a 0), .int a1, .int a2] : List Value).toArray below meth c s.heap [] 0 0 (MQ below (k2_QcV (.int z)) ([.ref (a 0), .int a1, .int a2] : List Value).toArray s 0 0 (fun _ => False)) (F0 m 68 ls [])), ∀ (l1 : Int32) (l2 : Int32) (l4 : Int32) (l5 : Int32) (l6 : Int32), fX9_canSet_L22 M n kx68 l1 l2 l4 l5 l6 = some z → ∀ (ls : Array Slot), lv_has ls 7 [(0, .ref (a 0)), (1, .int l1), (2, .int l2), (4, .int l4), (5, .int l5), (6, .int l6)] → W p l e (headSpec wsX9_canSet ({ frames := 1, cells := 0, slots := 0, locals := 22 } : Room)).room s m ([.ref (a 0), .int a1, .int a2] : List Value).toArray below meth c s.heap [] 0 0 (MQ below (k2_QcV (.int z)) ([.ref (a 0), .int a1, .int a2] : List Value).toArray s 0 0 (fun _ => False)) (F0 m 22 ls []) := by
    intro n
    induction n with
    | zero =>
      intro kx68 hkx68 l1 l2 l4 l5 l6 hf ls hl
      rw [fX9_canSet_L22] at hf
      cases hf
    | succ n ih =>
      intro kx68 hkx68 l1 l2 l4 l5 l6 hf ls hl
      rw [fX9_canSet_L22] at hf
      refine lv_iload hx hb dX9_canSet_22 (lv_at hl 5 rfl) ?_
      refine lv_aload_n hx hb dX9_canSet_24 rfl (lv_at hl 0 rfl) ?_
      refine va_get (D := (dC, dI)) (ci := 9) (v := .ref (a 1)) (C := RX9) (T := TX9) (N := 13) hx hb hts hinX9 hown hK hP 0 rfl rfl 1 (by decide) hw1 (fun _ h9 => h9) rfl dX9_canSet_25 ?_
      refine lv_iconst (v := (0 : Int32)) hx hb dX9_canSet_28 (by decide) ?_
      obtain ⟨hi, hf⟩ := gd_s hf
      refine va_iald (D := (dC, dI)) (f := (M 1)) hx hb hK hP 1 0 rfl rfl (inb_in hi) dX9_canSet_29 ?_
      refine lv_icmp_ge (tgt := 68) hx hb dX9_canSet_30 (by decide) (fun c9 => ?_) (fun c9 => ?_)
      · have hf := it_t hf c9
        exact hkx68 l1 l2 l4 l5 hf _ (lv_sub hl [0, 1, 2, 3, 4] rfl)
      · have hf := it_f hf c9
        refine lv_iload hx hb dX9_canSet_33 (lv_at hl 4 rfl) ?_
        refine lv_iload_n hx hb dX9_canSet_35 rfl (lv_at hl 2 rfl) ?_
        refine lv_iload hx hb dX9_canSet_36 (lv_at hl 5 rfl) ?_
        refine lv_ishr hx hb dX9_canSet_38 ?_
        refine lv_iconst (v := (1 : Int32)) hx hb dX9_canSet_39 (by decide) ?_
        refine lv_iand hx hb dX9_canSet_40 ?_
        refine lv_iconst (v := (1 : Int32)) hx hb dX9_canSet_41 (by decide) ?_
        refine lv_icmp_ne (tgt := 58) hx hb dX9_canSet_42 (by decide) (fun c9 => ?_) (fun c9 => ?_)
        · have hf := it_t hf c9
          refine lv_iconst (v := (0 : Int32)) hx hb dX9_canSet_58 (by decide) ?_
          exact hfX9_canSet_B59 _ (ih kx68 hkx68) _ hkx68 l1 l2 l4 l6 l5 (0 : Int32) hf _ (lv_sub hl [0, 1, 2, 3, 5] rfl)
        · have hf := it_n hf c9
          refine lv_aload_n hx hb dX9_canSet_45 rfl (lv_at hl 0 rfl) ?_
          refine lv_iload hx hb dX9_canSet_46 (lv_at hl 5 rfl) ?_
          refine lv_iconst (v := (4 : Int32)) hx hb dX9_canSet_48 (by decide) ?_
          refine lv_iload hx hb dX9_canSet_49 (lv_at hl 3 rfl) ?_
          refine lv_iadd hx hb dX9_canSet_51 ?_
          obtain ⟨r52, hc52, hf⟩ := bi_s hf
          have hPc := hP
          refine cRO (W.runV (As := [.int l6, .int ((4 : Int32) + l4)]) (rest := [.int l5]) ⟨hx, hb, hml, hown, hts⟩ (c_X9_of l dC dI cI cZ a M l6 ((4 : Int32) + l4) r52 hc52) (cwV 2 hts gX9_canSet_X9_of rfl rfl rfl (by decide +kernel) ⟨Nat.le_of_ble_eq_true rfl, Nat.le_of_ble_eq_true rfl⟩) ⟨RO.blind, va_recv hK hP (ci := 9) (q0 := 0) rfl rfl, RO.pre hPc hK hNW⟩ rfl rfl hl.1 rfl (lv_room (Nat.le_of_ble_eq_true rfl)) dX9_canSet_52 ⟨Nat.le_of_ble_eq_true rfl, Nat.le_of_ble_eq_true rfl⟩) ?_
          refine lv_goto (tgt := 59) hx hb dX9_canSet_55 (by decide) ?_
          exact hfX9_canSet_B59 _ (ih kx68 hkx68) _ hkx68 l1 l2 l4 l6 l5 r52 hf _ (lv_sub hl [0, 1, 2, 3, 5] rfl)
  have hfX9_canSet_B85 : ∀ (kb : Int32 → Int32 → Int32 → Int32 → Option (Int32)) (hkb : ∀ (l1 : Int32) (l2 : Int32) (l3 : Int32) (l4 : Int32), kb l1 l2 l3 l4 = some z → ∀ (ls : Array Slot), lv_has ls 7 [(0, .ref (a 0)), (1, .int l1), (2, .int l2), (3, .int l3), (4, .int l4)] → W p l e (headSpec wsX9_canSet ({ frames := 1, cells := 0, slots := 0, locals := 22 } : Room)).room s m ([.ref (a 0), .int a1, .int a2] : List Value).toArray below meth c s.heap [] 0 0 (MQ below (k2_QcV (.int z)) ([.ref (a 0), .int a1, .int a2] : List Value).toArray s 0 0 (fun _ => False)) (F0 m 5 ls [])) (kx92 : Int32 → Option (Int32)) (hkx92 : ∀ (l3 : Int32), kx92 l3 = some z → ∀ (ls : Array Slot), lv_has ls 7 [(3, .int l3)] → W p l e (headSpec wsX9_canSet ({ frames := 1, cells := 0, slots := 0, locals := 22 } : Room)).room s m ([.ref (a 0), .int a1, .int a2] : List Value).toArray below meth c s.heap [] 0 0 (MQ below (k2_QcV (.int z)) ([.ref (a 0), .int a1, .int a2] : List Value).toArray s 0 0 (fun _ => False)) (F0 m 92 ls [])), ∀ (l1 : Int32) (l2 : Int32) (l4 : Int32) (s0 : Int32), fX9_canSet_B85 M kb kx92 l1 l2 l4 s0 = some z → ∀ (ls : Array Slot), lv_has ls 7 [(0, .ref (a 0)), (1, .int l1), (2, .int l2), (4, .int l4)] → W p l e (headSpec wsX9_canSet ({ frames := 1, cells := 0, slots := 0, locals := 22 } : Room)).room s m ([.ref (a 0), .int a1, .int a2] : List Value).toArray below meth c s.heap [] 0 0 (MQ below (k2_QcV (.int z)) ([.ref (a 0), .int a1, .int a2] : List Value).toArray s 0 0 (fun _ => False)) (F0 m 85 ls [.int s0]) := by
    intro kb hkb kx92 hkx92 l1 l2 l4 s0 hf ls hl
    unfold fX9_canSet_B85 at hf
    refine lv_istore_n (lv' := [(3, .int s0), (0, .ref (a 0)), (1, .int l1), (2, .int l2), (4, .int l4)]) hx hb dX9_canSet_85 rfl hl (by decide) rfl (fun ls hl => ?_)
    refine lv_iinc (v := (l4 + (1 : Int32))) (lv' := [(4, .int (l4 + (1 : Int32))), (3, .int s0), (0, .ref (a 0)), (1, .int l1), (2, .int l2)]) hx hb dX9_canSet_86 hl (k := 4) rfl rfl (by decide) rfl (fun ls hl => ?_)
    refine lv_goto (tgt := 5) hx hb dX9_canSet_89 (by decide) ?_
    exact hkb l1 l2 s0 (l4 + (1 : Int32)) hf _ (lv_sub hl [2, 3, 4, 1, 0] rfl)
  have hfX9_canSet_L5 : ∀ (n : Nat) (kx92 : Int32 → Option (Int32)) (hkx92 : ∀ (l3 : Int32), kx92 l3 = some z → ∀ (ls : Array Slot), lv_has ls 7 [(3, .int l3)] → W p l e (headSpec wsX9_canSet ({ frames := 1, cells := 0, slots := 0, locals := 22 } : Room)).room s m ([.ref (a 0), .int a1, .int a2] : List Value).toArray below meth c s.heap [] 0 0 (MQ below (k2_QcV (.int z)) ([.ref (a 0), .int a1, .int a2] : List Value).toArray s 0 0 (fun _ => False)) (F0 m 92 ls [])), ∀ (l1 : Int32) (l2 : Int32) (l3 : Int32) (l4 : Int32), fX9_canSet_L5 M n kx92 l1 l2 l3 l4 = some z → ∀ (ls : Array Slot), lv_has ls 7 [(0, .ref (a 0)), (1, .int l1), (2, .int l2), (3, .int l3), (4, .int l4)] → W p l e (headSpec wsX9_canSet ({ frames := 1, cells := 0, slots := 0, locals := 22 } : Room)).room s m ([.ref (a 0), .int a1, .int a2] : List Value).toArray below meth c s.heap [] 0 0 (MQ below (k2_QcV (.int z)) ([.ref (a 0), .int a1, .int a2] : List Value).toArray s 0 0 (fun _ => False)) (F0 m 5 ls []) := by
    intro n
    induction n with
    | zero =>
      intro kx92 hkx92 l1 l2 l3 l4 hf ls hl
      rw [fX9_canSet_L5] at hf
      cases hf
    | succ n ih =>
      intro kx92 hkx92 l1 l2 l3 l4 hf ls hl
      rw [fX9_canSet_L5] at hf
      refine lv_iload hx hb dX9_canSet_5 (lv_at hl 4 rfl) ?_
      refine lv_bipush (v := (10 : Int32)) hx hb dX9_canSet_7 (by decide) ?_
      refine lv_icmp_ge (tgt := 92) hx hb dX9_canSet_9 (by decide) (fun c9 => ?_) (fun c9 => ?_)
      · have hf := it_t hf c9
        exact hkx92 l3 hf _ (lv_sub hl [3] rfl)
      · have hf := it_f hf c9
        refine lv_iload_n hx hb dX9_canSet_12 rfl (lv_at hl 3 rfl) ?_
        refine lv_if_eq (tgt := 92) hx hb dX9_canSet_13 (by decide) (fun c9 => ?_) (fun c9 => ?_)
        · have hf := it_t hf c9
          exact hkx92 l3 hf _ (lv_sub hl [3] rfl)
        · have hf := it_f hf c9
          refine lv_iconst (v := (0 : Int32)) hx hb dX9_canSet_16 (by decide) ?_
          refine lv_istore (lv' := [(5, .int (0 : Int32)), (0, .ref (a 0)), (1, .int l1), (2, .int l2), (3, .int l3), (4, .int l4)]) hx hb dX9_canSet_17 hl (by decide) rfl (fun ls hl => ?_)
          refine lv_iconst (v := (0 : Int32)) hx hb dX9_canSet_19 (by decide) ?_
          refine lv_istore (lv' := [(6, .int (0 : Int32)), (5, .int (0 : Int32)), (0, .ref (a 0)), (1, .int l1), (2, .int l2), (3, .int l3), (4, .int l4)]) hx hb dX9_canSet_20 hl (by decide) rfl (fun ls hl => ?_)
          refine hfX9_canSet_L22 5000 _ (fun l1 l2 l4 l5 hf ls hl => ?_) l1 l2 l4 (0 : Int32) (0 : Int32) hf _ (lv_sub hl [2, 3, 4, 6, 1, 0] rfl)
          refine lv_aload_n hx hb dX9_canSet_68 rfl (lv_at hl 0 rfl) ?_
          refine lv_iload_n hx hb dX9_canSet_69 rfl (lv_at hl 1 rfl) ?_
          refine lv_iload hx hb dX9_canSet_70 (lv_at hl 3 rfl) ?_
          obtain ⟨r72, hc72, hf⟩ := bi_s hf
          have hPc := hP
          refine cRO (W.runV (As := [.int l1, .int l4]) (rest := []) ⟨hx, hb, hml, hown, hts⟩ (c_X9_wants l dC dI cI cZ a M l1 l4 r72 hc72) (cwV 2 hts gX9_canSet_X9_wants rfl rfl rfl (by decide +kernel) ⟨Nat.le_of_ble_eq_true rfl, Nat.le_of_ble_eq_true rfl⟩) ⟨RO.blind, va_recv hK hP (ci := 9) (q0 := 0) rfl rfl, RO.pre hPc hK hNW⟩ rfl rfl hl.1 rfl (lv_room (Nat.le_of_ble_eq_true rfl)) dX9_canSet_72 ⟨Nat.le_of_ble_eq_true rfl, Nat.le_of_ble_eq_true rfl⟩) ?_
          refine lv_iload hx hb dX9_canSet_75 (lv_at hl 4 rfl) ?_
          refine lv_icmp_gt (tgt := 84) hx hb dX9_canSet_77 (by decide) (fun c9 => ?_) (fun c9 => ?_)
          · have hf := it_t hf c9
            refine lv_iconst (v := (0 : Int32)) hx hb dX9_canSet_84 (by decide) ?_
            exact hfX9_canSet_B85 _ (ih kx92 hkx92) _ hkx92 l1 l2 l4 (0 : Int32) hf _ (lv_sub hl [0, 1, 2, 3] rfl)
          · have hf := it_f hf c9
            refine lv_iconst (v := (1 : Int32)) hx hb dX9_canSet_80 (by decide) ?_
            refine lv_goto (tgt := 85) hx hb dX9_canSet_81 (by decide) ?_
            exact hfX9_canSet_B85 _ (ih kx92 hkx92) _ hkx92 l1 l2 l4 (1 : Int32) hf _ (lv_sub hl [0, 1, 2, 3] rfl)
  have hl := lv_entry ([.ref (a 0), .int a1, .int a2]) (n := 7) (Nat.le_of_ble_eq_true rfl)
  rw [lg_entry_eq]
  generalize (lg_sl ([.ref (a 0), .int a1, .int a2]) ++ List.replicate (7 - (lg_sl ([.ref (a 0), .int a1, .int a2])).length) Slot.unset).toArray = ls at hl ⊢
  have hl : lv_has ls 7 [(0, .ref (a 0)), (1, .int a1), (2, .int a2)] := hl
  unfold fX9_canSet at hf
  refine lv_iconst (v := (1 : Int32)) hx hb dX9_canSet_0 (by decide) ?_
  refine lv_istore_n (lv' := [(3, .int (1 : Int32)), (0, .ref (a 0)), (1, .int a1), (2, .int a2)]) hx hb dX9_canSet_1 rfl hl (by decide) rfl (fun ls hl => ?_)
  refine lv_iconst (v := (0 : Int32)) hx hb dX9_canSet_2 (by decide) ?_
  refine lv_istore (lv' := [(4, .int (0 : Int32)), (3, .int (1 : Int32)), (0, .ref (a 0)), (1, .int a1), (2, .int a2)]) hx hb dX9_canSet_3 hl (by decide) rfl (fun ls hl => ?_)
  refine hfX9_canSet_L5 5000 _ (fun l3 hf ls hl => ?_) a1 a2 (1 : Int32) (0 : Int32) hf _ (lv_sub hl [2, 3, 4, 1, 0] rfl)
  refine lv_iload_n hx hb dX9_canSet_92 rfl (lv_at hl 0 rfl) ?_
  obtain ⟨hz, hf⟩ := gd_s hf
  exact W.zret (v := l3) hx hb hr (isb_nar hz) (fun t ht hW => ⟨congrArg (fun x => Outcome.returned (some (Value.int x))) (so_e hf), ht⟩) fl0 dX9_canSet_93
