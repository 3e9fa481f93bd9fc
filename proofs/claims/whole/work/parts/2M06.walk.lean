set_option maxHeartbeats 4000000 in
set_option maxRecDepth 100000 in
theorem c_X9_fetchesOf (l : Launch) (dC : Nat → ClassId) (dI : Nat → Nat → Nat) (cI cZ : ClassId) (a : Nat → Nat) (sz : Nat) (M : Mem) (a1 : Int32) (z : Int32 × Mem) (hf : fX9_fetchesOf M a1 = some z) : Met l yX9_fetchesOf wsX9_fetchesOf ({ frames := 3, cells := 0, slots := 0, locals := 65 } : Room) (va_Pc [.ref (a 0), .int a1] (WR (dC, dI) cI cZ (wX9 cI cZ a M) sz)) (va_Qi (S := Unit) (fun r _ => r = z.1) (fun _ t => WE (dC, dI) cI cZ (wX9 cI cZ a (sr M 0 (z.2 0))) (va_A (wX9 cI cZ a M) sz) t) (va_A (wX9 cI cZ a M) sz)) 0 0 (va_A (wX9 cI cZ a M) sz) := by
  refine Met.ofW (cc := cX9_fetchesOf) (maxL := 2) (ret := (some .int)) (by decide) rfl ?_
  intro p e s m args below meth c s₁ B hml hv
  obtain ⟨rfl, hsz, hP, hK, hD0, hNW⟩ := hv
  have hx := B.exec
  have hb := B.bytes
  have hr := B.returns
  have hts := atoms_spec (ws := wsX9_fetchesOf) B.pre
  have hown : s.vm.findClass RX9 = some m.cls := findClass_of_methodNamed B.named
  have hlocks := B.notSynchronized
  subst hsz
  have hD := hD0.self (sz := s.heap.size)
  generalize hAe : va_A (wX9 cI cZ a M) s.heap.size = A at hD ⊢
  have hA : ∀ q : Nat, s.heap.size ≤ q → A q := fun q h => by rw [← hAe]; exact Or.inr h
  have hS : va_S A s.heap s.heap [] := va_S.rf
  have hl := lv_entry ([.ref (a 0), .int a1]) (n := 2) (Nat.le_of_ble_eq_true rfl)
  rw [lg_entry_eq]
  generalize (lg_sl ([.ref (a 0), .int a1]) ++ List.replicate (2 - (lg_sl ([.ref (a 0), .int a1])).length) Slot.unset).toArray = ls at hl ⊢
  have hl : lv_has ls 2 [(0, .ref (a 0)), (1, .int a1)] := hl
  unfold fX9_fetchesOf at hf
  suffices hgo : ∀ (H : Heap) (locs : List Loc), va_P (dC, dI) vwCl (wX9 cI cZ a M) H → va_D A (wX9 cI cZ a M) → va_S A s.heap H locs → W p l e (headSpec wsX9_fetchesOf ({ frames := 3, cells := 0, slots := 0, locals := 65 } : Room)).room s m ([.ref (a 0), .int a1] : List Value).toArray below meth c H locs 0 0 (MQ below (va_Qi (S := Unit) (fun r _ => r = z.1) (fun _ t => WE (dC, dI) cI cZ (wX9 cI cZ a (sr M 0 (z.2 0))) A t) A) ([.ref (a 0), .int a1] : List Value).toArray s 0 0 A) (F0 m 0 ls []) from hgo _ _ hP hD hS
  intro H locs hP hD hS
  refine lv_aload_n hx hb dX9_fetchesOf_0 rfl (lv_at hl 0 rfl) ?_
  refine lv_iload_n hx hb dX9_fetchesOf_1 rfl (lv_at hl 1 rfl) ?_
  refine lv_iconst (v := (3 : Int32)) hx hb dX9_fetchesOf_2 (by decide) ?_
  obtain ⟨r3, hc3, hf⟩ := bi_s hf
  have hPc := hP
  have hDc := hD
  have hFc := va_free (wc := (wX9 cI cZ a M)) hD hS hA [0, 1, 2, 3, 4, 5, 6, 7, 8] rfl
  refine va_calli (va_runV (As := [.int a1, .int (3 : Int32)]) (rest := []) ⟨hx, hb, hml, hown, hts⟩ (c_X9_tells l dC dI cI cZ a H.size M a1 (3 : Int32) r3 hc3) (cwV 2 hts gX9_fetchesOf_X9_tells rfl rfl rfl (by decide +kernel) ⟨Nat.le_of_ble_eq_true rfl, Nat.le_of_ble_eq_true rfl⟩) ⟨WR.blind, va_recv hK hP (ci := 9) (q0 := 0) rfl rfl, WR.pre hPc hK hDc hNW⟩ rfl rfl hl.1 rfl (lv_room (Nat.le_of_ble_eq_true rfl)) dX9_fetchesOf_3 ⟨Nat.le_of_ble_eq_true rfl, Nat.le_of_ble_eq_true rfl⟩) hS (fun q _ h => hFc q h) hFc (fun rv u t H1 locs ht hvm hw hB hz1 hk1 hS => ?_)
  obtain ⟨hP1, hD1⟩ := hB
  rw [ht] at hP1
  subst hw
  have hP := hP1
  have hD := hD1.weaken (fun k q _ h => hFc q.1 h)
  have hP : va_P (dC, dI) vwCl (wX9 cI cZ a (sr M 0 (r3.2 0))) H1 := hP
  have hD : va_D A (wX9 cI cZ a (sr M 0 (r3.2 0))) := hD
  generalize H1 = H at hP hS ⊢
  have e9 := so_e hf
  subst e9
  exact W.iret (v := r3.1) hx hb hr (fun t ht hW => ⟨⟨r3.1, (), rfl, rfl, WE.mk hP hD ht⟩, hS.F ht⟩) hS.2.2 dX9_fetchesOf_6
set_option maxHeartbeats 4000000 in
set_option maxRecDepth 100000 in
theorem c_X9_atWindow (l : Launch) (dC : Nat → ClassId) (dI : Nat → Nat → Nat) (cI cZ : ClassId) (a : Nat → Nat) (sz : Nat) (M : Mem) (z : Int32 × Mem) (hf : fX9_atWindow M  = some z) : Met l yX9_atWindow wsX9_atWindow ({ frames := 1, cells := 0, slots := 0, locals := 21 } : Room) (va_Pc [.ref (a 0)] (WR (dC, dI) cI cZ (wX9 cI cZ a M) sz)) (va_Qi (S := Unit) (fun r _ => r = z.1) (fun _ t => WE (dC, dI) cI cZ (wX9 cI cZ a (sr M 0 (z.2 0))) (va_A (wX9 cI cZ a M) sz) t) (va_A (wX9 cI cZ a M) sz)) 0 0 (va_A (wX9 cI cZ a M) sz) := by
  refine Met.ofW (cc := cX9_atWindow) (maxL := 1) (ret := (some .int)) (by decide) rfl ?_
  intro p e s m args below meth c s₁ B hml hv
  obtain ⟨rfl, hsz, hP, hK, hD0, hNW⟩ := hv
  have hx := B.exec
  have hb := B.bytes
  have hr := B.returns
  have hts := atoms_spec (ws := wsX9_atWindow) B.pre
  have hown : s.vm.findClass RX9 = some m.cls := findClass_of_methodNamed B.named
  have hlocks := B.notSynchronized
  have hinX9 : ∀ w ∈ u_ws RX9 TX9 13, w ∈ wsX9_atWindow := by decide +kernel
  have hw1 := hts (.fieldLink RX9 35 "GlideShelvesModel" "thrown" "I") (by decide +kernel)
  have hw2 := hts (.fieldLink RX9 7 "GlideShelvesModel" "s" "[I") (by decide +kernel)
  subst hsz
  have hD := hD0.self (sz := s.heap.size)
  generalize hAe : va_A (wX9 cI cZ a M) s.heap.size = A at hD ⊢
  have hA : ∀ q : Nat, s.heap.size ≤ q → A q := fun q h => by rw [← hAe]; exact Or.inr h
  have hS : va_S A s.heap s.heap [] := va_S.rf
  have hfX9_atWindow_B26 : ∀ (N : Mem) (s0 : Int32), fX9_atWindow_B26 M  N s0 = some z → ∀ (ls : Array Slot), lv_has ls 1 [] → ∀ (H : Heap) (locs : List Loc), va_P (dC, dI) vwCl (wX9 cI cZ a (sr M 0 (N 0))) H → va_D A (wX9 cI cZ a (sr M 0 (N 0))) → va_S A s.heap H locs → W p l e (headSpec wsX9_atWindow ({ frames := 1, cells := 0, slots := 0, locals := 21 } : Room)).room s m ([.ref (a 0)] : List Value).toArray below meth c H locs 0 0 (MQ below (va_Qi (S := Unit) (fun r _ => r = z.1) (fun _ t => WE (dC, dI) cI cZ (wX9 cI cZ a (sr M 0 (z.2 0))) A t) A) ([.ref (a 0)] : List Value).toArray s 0 0 A) (F0 m 26 ls [.int s0]) := by
    intro  N s0 hf ls hl H locs hP hD hS
    unfold fX9_atWindow_B26 at hf
    have e9 := so_e hf
    subst e9
    exact W.iret (v := s0) hx hb hr (fun t ht hW => ⟨⟨s0, (), rfl, rfl, WE.mk hP hD ht⟩, hS.F ht⟩) hS.2.2 dX9_atWindow_26
  have hl := lv_entry ([.ref (a 0)]) (n := 1) (Nat.le_of_ble_eq_true rfl)
  rw [lg_entry_eq]
  generalize (lg_sl ([.ref (a 0)]) ++ List.replicate (1 - (lg_sl ([.ref (a 0)])).length) Slot.unset).toArray = ls at hl ⊢
  have hl : lv_has ls 1 [(0, .ref (a 0))] := hl
  unfold fX9_atWindow at hf
  suffices hgo : ∀ (H : Heap) (locs : List Loc), va_P (dC, dI) vwCl (wX9 cI cZ a M) H → va_D A (wX9 cI cZ a M) → va_S A s.heap H locs → W p l e (headSpec wsX9_atWindow ({ frames := 1, cells := 0, slots := 0, locals := 21 } : Room)).room s m ([.ref (a 0)] : List Value).toArray below meth c H locs 0 0 (MQ below (va_Qi (S := Unit) (fun r _ => r = z.1) (fun _ t => WE (dC, dI) cI cZ (wX9 cI cZ a (sr M 0 (z.2 0))) A t) A) ([.ref (a 0)] : List Value).toArray s 0 0 A) (F0 m 0 ls []) from hgo _ _ hP hD hS
  intro H locs hP hD hS
  refine lv_aload_n hx hb dX9_atWindow_0 rfl (lv_at hl 0 rfl) ?_
  refine lv_iconst (v := (0 : Int32)) hx hb dX9_atWindow_1 (by decide) ?_
  refine va_put (D := (dC, dI)) (ci := 9) (v := .int (0 : Int32)) (ty := .int) (C := RX9) (T := TX9) (N := 13) hx hb hts hinX9 tyX9 tyX9_ok nmX9 hown hK hP hD hS 0 rfl rfl 0 (by decide) hw1 (fun _ h9 => h9) rfl (by decide +kernel) rfl rfl (Nat.le_of_ble_eq_true rfl) dX9_atWindow_2 (fun H locs hP hD hS => ?_)
  have hP : va_P (dC, dI) vwCl (wX9 cI cZ a (sr M 0 (upd (M 0) 0 (0 : Int32)))) H := hP
  have hD : va_D A (wX9 cI cZ a (sr M 0 (upd (M 0) 0 (0 : Int32)))) := hD
  refine lv_aload_n hx hb dX9_atWindow_5 rfl (lv_at hl 0 rfl) ?_
  obtain ⟨r6, hc6, hf⟩ := bi_s hf
  have hPc := hP
  refine cRO (W.runV (As := []) (rest := []) ⟨hx, hb, hml, hown, hts⟩ (c_X9_hasWindow l dC dI cI cZ a (sr M 0 (upd (M 0) 0 (0 : Int32))) r6 hc6) (cwV 0 hts gX9_atWindow_X9_hasWindow rfl rfl rfl (by decide +kernel) ⟨Nat.le_of_ble_eq_true rfl, Nat.le_of_ble_eq_true rfl⟩) ⟨RO.blind, va_recv hK hP (ci := 9) (q0 := 0) rfl rfl, RO.pre hPc hK hNW⟩ rfl rfl hl.1 rfl (lv_room (Nat.le_of_ble_eq_true rfl)) dX9_atWindow_6 ⟨Nat.le_of_ble_eq_true rfl, Nat.le_of_ble_eq_true rfl⟩) ?_
  refine lv_if_eq (tgt := 21) hx hb dX9_atWindow_9 (by decide) (fun c9 => ?_) (fun c9 => ?_)
  · have hf := it_t hf c9
    refine lv_aload_n hx hb dX9_atWindow_21 rfl (lv_at hl 0 rfl) ?_
    refine lv_iconst (v := (1 : Int32)) hx hb dX9_atWindow_22 (by decide) ?_
    obtain ⟨r23, hc23, hf⟩ := bi_s hf
    have hPc := hP
    have hDc := hD
    have hFc := va_free (wc := (wX9 cI cZ a (sr M 0 (upd (M 0) 0 (0 : Int32))))) hD hS hA [0, 1, 2, 3, 4, 5, 6, 7, 8] rfl
    refine va_calli (va_runV (As := [.int (1 : Int32)]) (rest := []) ⟨hx, hb, hml, hown, hts⟩ (c_X9_fails l dC dI cI cZ a H.size (sr M 0 (upd (M 0) 0 (0 : Int32))) (1 : Int32) r23 hc23) (cwV 1 hts gX9_atWindow_X9_fails rfl rfl rfl (by decide +kernel) ⟨Nat.le_of_ble_eq_true rfl, Nat.le_of_ble_eq_true rfl⟩) ⟨WR.blind, va_recv hK hP (ci := 9) (q0 := 0) rfl rfl, WR.pre hPc hK hDc hNW⟩ rfl rfl hl.1 rfl (lv_room (Nat.le_of_ble_eq_true rfl)) dX9_atWindow_23 ⟨Nat.le_of_ble_eq_true rfl, Nat.le_of_ble_eq_true rfl⟩) hS (fun q _ h => hFc q h) hFc (fun rv u t H1 locs ht hvm hw hB hz1 hk1 hS => ?_)
    obtain ⟨hP1, hD1⟩ := hB
    rw [ht] at hP1
    subst hw
    have hP := hP1
    have hD := hD1.weaken (fun k q _ h => hFc q.1 h)
    have hP : va_P (dC, dI) vwCl (wX9 cI cZ a (sr M 0 (r23.2 0))) H1 := hP
    have hD : va_D A (wX9 cI cZ a (sr M 0 (r23.2 0))) := hD
    generalize H1 = H at hP hS ⊢
    exact hfX9_atWindow_B26  (sr M 0 (r23.2 0)) r23.1 hf _ (lv_sub hl [] rfl) _ _ hP hD hS
  · have hf := it_f hf c9
    refine lv_aload_n hx hb dX9_atWindow_12 rfl (lv_at hl 0 rfl) ?_
    refine va_get (D := (dC, dI)) (ci := 9) (v := .ref (a 1)) (C := RX9) (T := TX9) (N := 13) hx hb hts hinX9 hown hK hP 0 rfl rfl 1 (by decide) hw2 (fun _ h9 => h9) rfl dX9_atWindow_13 ?_
    refine lv_iconst (v := (1 : Int32)) hx hb dX9_atWindow_16 (by decide) ?_
    obtain ⟨hi, hf⟩ := gd_s hf
    refine va_iald (D := (dC, dI)) (f := (M 1)) hx hb hK hP 1 0 rfl rfl (inb_in hi) dX9_atWindow_17 ?_
    refine lv_goto (tgt := 26) hx hb dX9_atWindow_18 (by decide) ?_
    exact hfX9_atWindow_B26  (sr M 0 (upd (M 0) 0 (0 : Int32))) (M 1 (1 : Int32).toNatClampNeg) hf _ (lv_sub hl [] rfl) _ _ hP hD hS
set_option maxHeartbeats 4000000 in
set_option maxRecDepth 100000 in
theorem c_X9_isFree (l : Launch) (dC : Nat → ClassId) (dI : Nat → Nat → Nat) (cI cZ : ClassId) (a : Nat → Nat) (sz : Nat) (M : Mem) (a1 : Int32) (a2 : Int32) (z : Int32 × Mem) (hf : fX9_isFree M a1 a2 = some z) : Met l yX9_isFree wsX9_isFree ({ frames := 2, cells := 0, slots := 0, locals := 47 } : Room) (va_Pc [.ref (a 0), .int a1, .int a2] (WR (dC, dI) cI cZ (wX9 cI cZ a M) sz)) (va_Qi (S := Unit) (fun r _ => r = z.1) (fun _ t => WE (dC, dI) cI cZ (wX9 cI cZ a (sr M 0 (z.2 0))) (va_A (wX9 cI cZ a M) sz) t) (va_A (wX9 cI cZ a M) sz)) 0 0 (va_A (wX9 cI cZ a M) sz) := by
  refine Met.ofW (cc := cX9_isFree) (maxL := 3) (ret := (some .boolean)) (by decide) rfl ?_
  intro p e s m args below meth c s₁ B hml hv
  obtain ⟨rfl, hsz, hP, hK, hD0, hNW⟩ := hv
  have hx := B.exec
  have hb := B.bytes
  have hr := B.returns
  have hts := atoms_spec (ws := wsX9_isFree) B.pre
  have hown : s.vm.findClass RX9 = some m.cls := findClass_of_methodNamed B.named
  have hlocks := B.notSynchronized
  have hinX9 : ∀ w ∈ u_ws RX9 TX9 13, w ∈ wsX9_isFree := by decide +kernel
  have hw1 := hts (.fieldLink RX9 35 "GlideShelvesModel" "thrown" "I") (by decide +kernel)
  subst hsz
  have hD := hD0.self (sz := s.heap.size)
  generalize hAe : va_A (wX9 cI cZ a M) s.heap.size = A at hD ⊢
  have hA : ∀ q : Nat, s.heap.size ≤ q → A q := fun q h => by rw [← hAe]; exact Or.inr h
  have hS : va_S A s.heap s.heap [] := va_S.rf
  have hfX9_isFree_B44 : ∀ (N : Mem) (s0 : Int32), fX9_isFree_B44 M  N s0 = some z → ∀ (ls : Array Slot), lv_has ls 3 [] → ∀ (H : Heap) (locs : List Loc), va_P (dC, dI) vwCl (wX9 cI cZ a (sr M 0 (N 0))) H → va_D A (wX9 cI cZ a (sr M 0 (N 0))) → va_S A s.heap H locs → W p l e (headSpec wsX9_isFree ({ frames := 2, cells := 0, slots := 0, locals := 47 } : Room)).room s m ([.ref (a 0), .int a1, .int a2] : List Value).toArray below meth c H locs 0 0 (MQ below (va_Qi (S := Unit) (fun r _ => r = z.1) (fun _ t => WE (dC, dI) cI cZ (wX9 cI cZ a (sr M 0 (z.2 0))) A t) A) ([.ref (a 0), .int a1, .int a2] : List Value).toArray s 0 0 A) (F0 m 44 ls [.int s0]) := by
    intro  N s0 hf ls hl H locs hP hD hS
    unfold fX9_isFree_B44 at hf
    obtain ⟨hz, hf⟩ := gd_s hf
    have e9 := so_e hf
    subst e9
    exact W.zret (v := s0) hx hb hr (isb_nar hz) (fun t ht hW => ⟨⟨s0, (), rfl, rfl, WE.mk hP hD ht⟩, hS.F ht⟩) hS.2.2 dX9_isFree_44
  have hl := lv_entry ([.ref (a 0), .int a1, .int a2]) (n := 3) (Nat.le_of_ble_eq_true rfl)
  rw [lg_entry_eq]
  generalize (lg_sl ([.ref (a 0), .int a1, .int a2]) ++ List.replicate (3 - (lg_sl ([.ref (a 0), .int a1, .int a2])).length) Slot.unset).toArray = ls at hl ⊢
  have hl : lv_has ls 3 [(0, .ref (a 0)), (1, .int a1), (2, .int a2)] := hl
  unfold fX9_isFree at hf
  suffices hgo : ∀ (H : Heap) (locs : List Loc), va_P (dC, dI) vwCl (wX9 cI cZ a M) H → va_D A (wX9 cI cZ a M) → va_S A s.heap H locs → W p l e (headSpec wsX9_isFree ({ frames := 2, cells := 0, slots := 0, locals := 47 } : Room)).room s m ([.ref (a 0), .int a1, .int a2] : List Value).toArray below meth c H locs 0 0 (MQ below (va_Qi (S := Unit) (fun r _ => r = z.1) (fun _ t => WE (dC, dI) cI cZ (wX9 cI cZ a (sr M 0 (z.2 0))) A t) A) ([.ref (a 0), .int a1, .int a2] : List Value).toArray s 0 0 A) (F0 m 0 ls []) from hgo _ _ hP hD hS
  intro H locs hP hD hS
  refine lv_aload_n hx hb dX9_isFree_0 rfl (lv_at hl 0 rfl) ?_
  refine lv_iconst (v := (0 : Int32)) hx hb dX9_isFree_1 (by decide) ?_
  refine va_put (D := (dC, dI)) (ci := 9) (v := .int (0 : Int32)) (ty := .int) (C := RX9) (T := TX9) (N := 13) hx hb hts hinX9 tyX9 tyX9_ok nmX9 hown hK hP hD hS 0 rfl rfl 0 (by decide) hw1 (fun _ h9 => h9) rfl (by decide +kernel) rfl rfl (Nat.le_of_ble_eq_true rfl) dX9_isFree_2 (fun H locs hP hD hS => ?_)
  have hP : va_P (dC, dI) vwCl (wX9 cI cZ a (sr M 0 (upd (M 0) 0 (0 : Int32)))) H := hP
  have hD : va_D A (wX9 cI cZ a (sr M 0 (upd (M 0) 0 (0 : Int32)))) := hD
  refine lv_iload_n hx hb dX9_isFree_5 rfl (lv_at hl 1 rfl) ?_
  refine lv_iload_n hx hb dX9_isFree_6 rfl (lv_at hl 2 rfl) ?_
  obtain ⟨r7, hc7, hf⟩ := bi_s hf
  refine cRO (W.runS (As := [.int a1, .int a2]) (rest := []) ⟨hx, hb, hml, hown, hts⟩ (c_X9_isSpot l a1 a2 r7 hc7) (va_cwS 2 hts gX9_isFree_X9_isSpot rfl rfl rfl (by decide +kernel) ⟨Nat.le_of_ble_eq_true rfl, Nat.le_of_ble_eq_true rfl⟩) ⟨tr_blind, tr_pre⟩ rfl rfl hl.1 rfl (lv_room (Nat.le_of_ble_eq_true rfl)) dX9_isFree_7 ⟨Nat.le_of_ble_eq_true rfl, Nat.le_of_ble_eq_true rfl⟩) ?_
  refine lv_if_eq (tgt := 31) hx hb dX9_isFree_10 (by decide) (fun c9 => ?_) (fun c9 => ?_)
  · have hf := it_t hf c9
    refine lv_aload_n hx hb dX9_isFree_31 rfl (lv_at hl 0 rfl) ?_
    refine lv_iconst (v := (1 : Int32)) hx hb dX9_isFree_32 (by decide) ?_
    obtain ⟨r33, hc33, hf⟩ := bi_s hf
    have hPc := hP
    have hDc := hD
    have hFc := va_free (wc := (wX9 cI cZ a (sr M 0 (upd (M 0) 0 (0 : Int32))))) hD hS hA [0, 1, 2, 3, 4, 5, 6, 7, 8] rfl
    refine va_calli (va_runV (As := [.int (1 : Int32)]) (rest := []) ⟨hx, hb, hml, hown, hts⟩ (c_X9_fails l dC dI cI cZ a H.size (sr M 0 (upd (M 0) 0 (0 : Int32))) (1 : Int32) r33 hc33) (cwV 1 hts gX9_isFree_X9_fails rfl rfl rfl (by decide +kernel) ⟨Nat.le_of_ble_eq_true rfl, Nat.le_of_ble_eq_true rfl⟩) ⟨WR.blind, va_recv hK hP (ci := 9) (q0 := 0) rfl rfl, WR.pre hPc hK hDc hNW⟩ rfl rfl hl.1 rfl (lv_room (Nat.le_of_ble_eq_true rfl)) dX9_isFree_33 ⟨Nat.le_of_ble_eq_true rfl, Nat.le_of_ble_eq_true rfl⟩) hS (fun q _ h => hFc q h) hFc (fun rv u t H1 locs ht hvm hw hB hz1 hk1 hS => ?_)
    obtain ⟨hP1, hD1⟩ := hB
    rw [ht] at hP1
    subst hw
    have hP := hP1
    have hD := hD1.weaken (fun k q _ h => hFc q.1 h)
    have hP : va_P (dC, dI) vwCl (wX9 cI cZ a (sr M 0 (r33.2 0))) H1 := hP
    have hD : va_D A (wX9 cI cZ a (sr M 0 (r33.2 0))) := hD
    generalize H1 = H at hP hS ⊢
    refine lv_if_le (tgt := 43) hx hb dX9_isFree_36 (by decide) (fun c9 => ?_) (fun c9 => ?_)
    · have hf := it_t hf c9
      refine lv_iconst (v := (0 : Int32)) hx hb dX9_isFree_43 (by decide) ?_
      exact hfX9_isFree_B44  (sr M 0 (r33.2 0)) (0 : Int32) hf _ (lv_sub hl [] rfl) _ _ hP hD hS
    · have hf := it_f hf c9
      refine lv_iconst (v := (1 : Int32)) hx hb dX9_isFree_39 (by decide) ?_
      refine lv_goto (tgt := 44) hx hb dX9_isFree_40 (by decide) ?_
      exact hfX9_isFree_B44  (sr M 0 (r33.2 0)) (1 : Int32) hf _ (lv_sub hl [] rfl) _ _ hP hD hS
  · have hf := it_f hf c9
    refine lv_aload_n hx hb dX9_isFree_13 rfl (lv_at hl 0 rfl) ?_
    refine lv_iload_n hx hb dX9_isFree_14 rfl (lv_at hl 1 rfl) ?_
    refine lv_iload_n hx hb dX9_isFree_15 rfl (lv_at hl 2 rfl) ?_
    obtain ⟨r16, hc16, hf⟩ := bi_s hf
    have hPc := hP
    refine cRO (W.runV (As := [.int a1, .int a2]) (rest := []) ⟨hx, hb, hml, hown, hts⟩ (c_X9_on l dC dI cI cZ a (sr M 0 (upd (M 0) 0 (0 : Int32))) a1 a2 r16 hc16) (cwV 2 hts gX9_isFree_X9_on rfl rfl rfl (by decide +kernel) ⟨Nat.le_of_ble_eq_true rfl, Nat.le_of_ble_eq_true rfl⟩) ⟨RO.blind, va_recv hK hP (ci := 9) (q0 := 0) rfl rfl, RO.pre hPc hK hNW⟩ rfl rfl hl.1 rfl (lv_room (Nat.le_of_ble_eq_true rfl)) dX9_isFree_16 ⟨Nat.le_of_ble_eq_true rfl, Nat.le_of_ble_eq_true rfl⟩) ?_
    refine lv_iconst (v := (-1 : Int32)) hx hb dX9_isFree_19 (by decide) ?_
    refine lv_icmp_ne (tgt := 27) hx hb dX9_isFree_20 (by decide) (fun c9 => ?_) (fun c9 => ?_)
    · have hf := it_t hf c9
      refine lv_iconst (v := (0 : Int32)) hx hb dX9_isFree_27 (by decide) ?_
      refine lv_goto (tgt := 44) hx hb dX9_isFree_28 (by decide) ?_
      exact hfX9_isFree_B44  (sr M 0 (upd (M 0) 0 (0 : Int32))) (0 : Int32) hf _ (lv_sub hl [] rfl) _ _ hP hD hS
    · have hf := it_n hf c9
      refine lv_iconst (v := (1 : Int32)) hx hb dX9_isFree_23 (by decide) ?_
      refine lv_goto (tgt := 44) hx hb dX9_isFree_24 (by decide) ?_
      exact hfX9_isFree_B44  (sr M 0 (upd (M 0) 0 (0 : Int32))) (1 : Int32) hf _ (lv_sub hl [] rfl) _ _ hP hD hS
set_option maxHeartbeats 4000000 in
set_option maxRecDepth 100000 in
theorem c_X9_shelfAt (l : Launch) (dC : Nat → ClassId) (dI : Nat → Nat → Nat) (cI cZ : ClassId) (a : Nat → Nat) (sz : Nat) (M : Mem) (a1 : Int32) (a2 : Int32) (z : Int32 × Mem) (hf : fX9_shelfAt M a1 a2 = some z) : Met l yX9_shelfAt wsX9_shelfAt ({ frames := 2, cells := 0, slots := 0, locals := 47 } : Room) (va_Pc [.ref (a 0), .int a1, .int a2] (WR (dC, dI) cI cZ (wX9 cI cZ a M) sz)) (va_Qi (S := Unit) (fun r _ => r = z.1) (fun _ t => WE (dC, dI) cI cZ (wX9 cI cZ a (sr M 0 (z.2 0))) (va_A (wX9 cI cZ a M) sz) t) (va_A (wX9 cI cZ a M) sz)) 0 0 (va_A (wX9 cI cZ a M) sz) := by
  refine Met.ofW (cc := cX9_shelfAt) (maxL := 3) (ret := (some .int)) (by decide) rfl ?_
  intro p e s m args below meth c s₁ B hml hv
  obtain ⟨rfl, hsz, hP, hK, hD0, hNW⟩ := hv
  have hx := B.exec
  have hb := B.bytes
  have hr := B.returns
  have hts := atoms_spec (ws := wsX9_shelfAt) B.pre
  have hown : s.vm.findClass RX9 = some m.cls := findClass_of_methodNamed B.named
  have hlocks := B.notSynchronized
  have hinX9 : ∀ w ∈ u_ws RX9 TX9 13, w ∈ wsX9_shelfAt := by decide +kernel
  have hw1 := hts (.fieldLink RX9 35 "GlideShelvesModel" "thrown" "I") (by decide +kernel)
  subst hsz
  have hD := hD0.self (sz := s.heap.size)
  generalize hAe : va_A (wX9 cI cZ a M) s.heap.size = A at hD ⊢
  have hA : ∀ q : Nat, s.heap.size ≤ q → A q := fun q h => by rw [← hAe]; exact Or.inr h
  have hS : va_S A s.heap s.heap [] := va_S.rf
  have hfX9_shelfAt_B43 : ∀ (N : Mem) (s0 : Int32), fX9_shelfAt_B43 M  N s0 = some z → ∀ (ls : Array Slot), lv_has ls 3 [] → ∀ (H : Heap) (locs : List Loc), va_P (dC, dI) vwCl (wX9 cI cZ a (sr M 0 (N 0))) H → va_D A (wX9 cI cZ a (sr M 0 (N 0))) → va_S A s.heap H locs → W p l e (headSpec wsX9_shelfAt ({ frames := 2, cells := 0, slots := 0, locals := 47 } : Room)).room s m ([.ref (a 0), .int a1, .int a2] : List Value).toArray below meth c H locs 0 0 (MQ below (va_Qi (S := Unit) (fun r _ => r = z.1) (fun _ t => WE (dC, dI) cI cZ (wX9 cI cZ a (sr M 0 (z.2 0))) A t) A) ([.ref (a 0), .int a1, .int a2] : List Value).toArray s 0 0 A) (F0 m 43 ls [.int s0]) := by
    intro  N s0 hf ls hl H locs hP hD hS
    unfold fX9_shelfAt_B43 at hf
    have e9 := so_e hf
    subst e9
    exact W.iret (v := s0) hx hb hr (fun t ht hW => ⟨⟨s0, (), rfl, rfl, WE.mk hP hD ht⟩, hS.F ht⟩) hS.2.2 dX9_shelfAt_43
  have hl := lv_entry ([.ref (a 0), .int a1, .int a2]) (n := 3) (Nat.le_of_ble_eq_true rfl)
  rw [lg_entry_eq]
  generalize (lg_sl ([.ref (a 0), .int a1, .int a2]) ++ List.replicate (3 - (lg_sl ([.ref (a 0), .int a1, .int a2])).length) Slot.unset).toArray = ls at hl ⊢
  have hl : lv_has ls 3 [(0, .ref (a 0)), (1, .int a1), (2, .int a2)] := hl
  unfold fX9_shelfAt at hf
  suffices hgo : ∀ (H : Heap) (locs : List Loc), va_P (dC, dI) vwCl (wX9 cI cZ a M) H → va_D A (wX9 cI cZ a M) → va_S A s.heap H locs → W p l e (headSpec wsX9_shelfAt ({ frames := 2, cells := 0, slots := 0, locals := 47 } : Room)).room s m ([.ref (a 0), .int a1, .int a2] : List Value).toArray below meth c H locs 0 0 (MQ below (va_Qi (S := Unit) (fun r _ => r = z.1) (fun _ t => WE (dC, dI) cI cZ (wX9 cI cZ a (sr M 0 (z.2 0))) A t) A) ([.ref (a 0), .int a1, .int a2] : List Value).toArray s 0 0 A) (F0 m 0 ls []) from hgo _ _ hP hD hS
  intro H locs hP hD hS
  refine lv_aload_n hx hb dX9_shelfAt_0 rfl (lv_at hl 0 rfl) ?_
  refine lv_iconst (v := (0 : Int32)) hx hb dX9_shelfAt_1 (by decide) ?_
  refine va_put (D := (dC, dI)) (ci := 9) (v := .int (0 : Int32)) (ty := .int) (C := RX9) (T := TX9) (N := 13) hx hb hts hinX9 tyX9 tyX9_ok nmX9 hown hK hP hD hS 0 rfl rfl 0 (by decide) hw1 (fun _ h9 => h9) rfl (by decide +kernel) rfl rfl (Nat.le_of_ble_eq_true rfl) dX9_shelfAt_2 (fun H locs hP hD hS => ?_)
  have hP : va_P (dC, dI) vwCl (wX9 cI cZ a (sr M 0 (upd (M 0) 0 (0 : Int32)))) H := hP
  have hD : va_D A (wX9 cI cZ a (sr M 0 (upd (M 0) 0 (0 : Int32)))) := hD
  refine lv_iload_n hx hb dX9_shelfAt_5 rfl (lv_at hl 1 rfl) ?_
  refine lv_iload_n hx hb dX9_shelfAt_6 rfl (lv_at hl 2 rfl) ?_
  obtain ⟨r7, hc7, hf⟩ := bi_s hf
  refine cRO (W.runS (As := [.int a1, .int a2]) (rest := []) ⟨hx, hb, hml, hown, hts⟩ (c_X9_isSpot l a1 a2 r7 hc7) (va_cwS 2 hts gX9_shelfAt_X9_isSpot rfl rfl rfl (by decide +kernel) ⟨Nat.le_of_ble_eq_true rfl, Nat.le_of_ble_eq_true rfl⟩) ⟨tr_blind, tr_pre⟩ rfl rfl hl.1 rfl (lv_room (Nat.le_of_ble_eq_true rfl)) dX9_shelfAt_7 ⟨Nat.le_of_ble_eq_true rfl, Nat.le_of_ble_eq_true rfl⟩) ?_
  refine lv_if_ne (tgt := 19) hx hb dX9_shelfAt_10 (by decide) (fun c9 => ?_) (fun c9 => ?_)
  · have hf := it_t hf c9
    refine lv_aload_n hx hb dX9_shelfAt_19 rfl (lv_at hl 0 rfl) ?_
    refine lv_iload_n hx hb dX9_shelfAt_20 rfl (lv_at hl 1 rfl) ?_
    refine lv_iload_n hx hb dX9_shelfAt_21 rfl (lv_at hl 2 rfl) ?_
    obtain ⟨r22, hc22, hf⟩ := bi_s hf
    have hPc := hP
    refine cRO (W.runV (As := [.int a1, .int a2]) (rest := []) ⟨hx, hb, hml, hown, hts⟩ (c_X9_on l dC dI cI cZ a (sr M 0 (upd (M 0) 0 (0 : Int32))) a1 a2 r22 hc22) (cwV 2 hts gX9_shelfAt_X9_on rfl rfl rfl (by decide +kernel) ⟨Nat.le_of_ble_eq_true rfl, Nat.le_of_ble_eq_true rfl⟩) ⟨RO.blind, va_recv hK hP (ci := 9) (q0 := 0) rfl rfl, RO.pre hPc hK hNW⟩ rfl rfl hl.1 rfl (lv_room (Nat.le_of_ble_eq_true rfl)) dX9_shelfAt_22 ⟨Nat.le_of_ble_eq_true rfl, Nat.le_of_ble_eq_true rfl⟩) ?_
    refine lv_iconst (v := (-1 : Int32)) hx hb dX9_shelfAt_25 (by decide) ?_
    refine lv_icmp_ne (tgt := 37) hx hb dX9_shelfAt_26 (by decide) (fun c9 => ?_) (fun c9 => ?_)
    · have hf := it_t hf c9
      refine lv_aload_n hx hb dX9_shelfAt_37 rfl (lv_at hl 0 rfl) ?_
      refine lv_iload_n hx hb dX9_shelfAt_38 rfl (lv_at hl 1 rfl) ?_
      refine lv_iload_n hx hb dX9_shelfAt_39 rfl (lv_at hl 2 rfl) ?_
      obtain ⟨r40, hc40, hf⟩ := bi_s hf
      have hPc := hP
      refine cRO (W.runV (As := [.int a1, .int a2]) (rest := []) ⟨hx, hb, hml, hown, hts⟩ (c_X9_on l dC dI cI cZ a (sr M 0 (upd (M 0) 0 (0 : Int32))) a1 a2 r40 hc40) (cwV 2 hts gX9_shelfAt_X9_on rfl rfl rfl (by decide +kernel) ⟨Nat.le_of_ble_eq_true rfl, Nat.le_of_ble_eq_true rfl⟩) ⟨RO.blind, va_recv hK hP (ci := 9) (q0 := 0) rfl rfl, RO.pre hPc hK hNW⟩ rfl rfl hl.1 rfl (lv_room (Nat.le_of_ble_eq_true rfl)) dX9_shelfAt_40 ⟨Nat.le_of_ble_eq_true rfl, Nat.le_of_ble_eq_true rfl⟩) ?_
      exact hfX9_shelfAt_B43  (sr M 0 (upd (M 0) 0 (0 : Int32))) r40 hf _ (lv_sub hl [] rfl) _ _ hP hD hS
    · have hf := it_n hf c9
      refine lv_aload_n hx hb dX9_shelfAt_29 rfl (lv_at hl 0 rfl) ?_
      refine lv_iconst (v := (2 : Int32)) hx hb dX9_shelfAt_30 (by decide) ?_
      obtain ⟨r31, hc31, hf⟩ := bi_s hf
      have hPc := hP
      have hDc := hD
      have hFc := va_free (wc := (wX9 cI cZ a (sr M 0 (upd (M 0) 0 (0 : Int32))))) hD hS hA [0, 1, 2, 3, 4, 5, 6, 7, 8] rfl
      refine va_calli (va_runV (As := [.int (2 : Int32)]) (rest := []) ⟨hx, hb, hml, hown, hts⟩ (c_X9_fails l dC dI cI cZ a H.size (sr M 0 (upd (M 0) 0 (0 : Int32))) (2 : Int32) r31 hc31) (cwV 1 hts gX9_shelfAt_X9_fails rfl rfl rfl (by decide +kernel) ⟨Nat.le_of_ble_eq_true rfl, Nat.le_of_ble_eq_true rfl⟩) ⟨WR.blind, va_recv hK hP (ci := 9) (q0 := 0) rfl rfl, WR.pre hPc hK hDc hNW⟩ rfl rfl hl.1 rfl (lv_room (Nat.le_of_ble_eq_true rfl)) dX9_shelfAt_31 ⟨Nat.le_of_ble_eq_true rfl, Nat.le_of_ble_eq_true rfl⟩) hS (fun q _ h => hFc q h) hFc (fun rv u t H1 locs ht hvm hw hB hz1 hk1 hS => ?_)
      obtain ⟨hP1, hD1⟩ := hB
      rw [ht] at hP1
      subst hw
      have hP := hP1
      have hD := hD1.weaken (fun k q _ h => hFc q.1 h)
      have hP : va_P (dC, dI) vwCl (wX9 cI cZ a (sr M 0 (r31.2 0))) H1 := hP
      have hD : va_D A (wX9 cI cZ a (sr M 0 (r31.2 0))) := hD
      generalize H1 = H at hP hS ⊢
      refine lv_goto (tgt := 43) hx hb dX9_shelfAt_34 (by decide) ?_
      exact hfX9_shelfAt_B43  (sr M 0 (r31.2 0)) r31.1 hf _ (lv_sub hl [] rfl) _ _ hP hD hS
  · have hf := it_n hf c9
    refine lv_aload_n hx hb dX9_shelfAt_13 rfl (lv_at hl 0 rfl) ?_
    refine lv_iconst (v := (1 : Int32)) hx hb dX9_shelfAt_14 (by decide) ?_
    obtain ⟨r15, hc15, hf⟩ := bi_s hf
    have hPc := hP
    have hDc := hD
    have hFc := va_free (wc := (wX9 cI cZ a (sr M 0 (upd (M 0) 0 (0 : Int32))))) hD hS hA [0, 1, 2, 3, 4, 5, 6, 7, 8] rfl
    refine va_calli (va_runV (As := [.int (1 : Int32)]) (rest := []) ⟨hx, hb, hml, hown, hts⟩ (c_X9_fails l dC dI cI cZ a H.size (sr M 0 (upd (M 0) 0 (0 : Int32))) (1 : Int32) r15 hc15) (cwV 1 hts gX9_shelfAt_X9_fails rfl rfl rfl (by decide +kernel) ⟨Nat.le_of_ble_eq_true rfl, Nat.le_of_ble_eq_true rfl⟩) ⟨WR.blind, va_recv hK hP (ci := 9) (q0 := 0) rfl rfl, WR.pre hPc hK hDc hNW⟩ rfl rfl hl.1 rfl (lv_room (Nat.le_of_ble_eq_true rfl)) dX9_shelfAt_15 ⟨Nat.le_of_ble_eq_true rfl, Nat.le_of_ble_eq_true rfl⟩) hS (fun q _ h => hFc q h) hFc (fun rv u t H1 locs ht hvm hw hB hz1 hk1 hS => ?_)
    obtain ⟨hP1, hD1⟩ := hB
    rw [ht] at hP1
    subst hw
    have hP := hP1
    have hD := hD1.weaken (fun k q _ h => hFc q.1 h)
    have hP : va_P (dC, dI) vwCl (wX9 cI cZ a (sr M 0 (r15.2 0))) H1 := hP
    have hD : va_D A (wX9 cI cZ a (sr M 0 (r15.2 0))) := hD
    generalize H1 = H at hP hS ⊢
    have e9 := so_e hf
    subst e9
    exact W.iret (v := r15.1) hx hb hr (fun t ht hW => ⟨⟨r15.1, (), rfl, rfl, WE.mk hP hD ht⟩, hS.F ht⟩) hS.2.2 dX9_shelfAt_18
set_option maxHeartbeats 4000000 in
set_option maxRecDepth 100000 in
theorem c_X9_freeBySlots (l : Launch) (dC : Nat → ClassId) (dI : Nat → Nat → Nat) (cI cZ : ClassId) (a : Nat → Nat) (sz : Nat) (M : Mem) (z : Int32 × Mem) (hf : fX9_freeBySlots M  = some z) : Met l yX9_freeBySlots wsX9_freeBySlots ({ frames := 3, cells := 0, slots := 0, locals := 69 } : Room) (va_Pc [.ref (a 0)] (WR (dC, dI) cI cZ (wX9 cI cZ a M) sz)) (va_Qi (S := Unit) (fun r _ => r = z.1) (fun _ t => WE (dC, dI) cI cZ (wX9 cI cZ a (sr M 0 (z.2 0))) (va_A (wX9 cI cZ a M) sz) t) (va_A (wX9 cI cZ a M) sz)) 0 0 (va_A (wX9 cI cZ a M) sz) := by
  refine Met.ofW (cc := cX9_freeBySlots) (maxL := 1) (ret := (some .int)) (by decide) rfl ?_
  intro p e s m args below meth c s₁ B hml hv
  obtain ⟨rfl, hsz, hP, hK, hD0, hNW⟩ := hv
  have hx := B.exec
  have hb := B.bytes
  have hr := B.returns
  have hts := atoms_spec (ws := wsX9_freeBySlots) B.pre
  have hown : s.vm.findClass RX9 = some m.cls := findClass_of_methodNamed B.named
  have hlocks := B.notSynchronized
  have hinX9 : ∀ w ∈ u_ws RX9 TX9 13, w ∈ wsX9_freeBySlots := by decide +kernel
  have hw1 := hts (.fieldLink RX9 35 "GlideShelvesModel" "thrown" "I") (by decide +kernel)
  subst hsz
  have hD := hD0.self (sz := s.heap.size)
  generalize hAe : va_A (wX9 cI cZ a M) s.heap.size = A at hD ⊢
  have hA : ∀ q : Nat, s.heap.size ≤ q → A q := fun q h => by rw [← hAe]; exact Or.inr h
  have hS : va_S A s.heap s.heap [] := va_S.rf
  have hl := lv_entry ([.ref (a 0)]) (n := 1) (Nat.le_of_ble_eq_true rfl)
  rw [lg_entry_eq]
  generalize (lg_sl ([.ref (a 0)]) ++ List.replicate (1 - (lg_sl ([.ref (a 0)])).length) Slot.unset).toArray = ls at hl ⊢
  have hl : lv_has ls 1 [(0, .ref (a 0))] := hl
  unfold fX9_freeBySlots at hf
  suffices hgo : ∀ (H : Heap) (locs : List Loc), va_P (dC, dI) vwCl (wX9 cI cZ a M) H → va_D A (wX9 cI cZ a M) → va_S A s.heap H locs → W p l e (headSpec wsX9_freeBySlots ({ frames := 3, cells := 0, slots := 0, locals := 69 } : Room)).room s m ([.ref (a 0)] : List Value).toArray below meth c H locs 0 0 (MQ below (va_Qi (S := Unit) (fun r _ => r = z.1) (fun _ t => WE (dC, dI) cI cZ (wX9 cI cZ a (sr M 0 (z.2 0))) A t) A) ([.ref (a 0)] : List Value).toArray s 0 0 A) (F0 m 0 ls []) from hgo _ _ hP hD hS
  intro H locs hP hD hS
  refine lv_aload_n hx hb dX9_freeBySlots_0 rfl (lv_at hl 0 rfl) ?_
  refine lv_iconst (v := (0 : Int32)) hx hb dX9_freeBySlots_1 (by decide) ?_
  refine va_put (D := (dC, dI)) (ci := 9) (v := .int (0 : Int32)) (ty := .int) (C := RX9) (T := TX9) (N := 13) hx hb hts hinX9 tyX9 tyX9_ok nmX9 hown hK hP hD hS 0 rfl rfl 0 (by decide) hw1 (fun _ h9 => h9) rfl (by decide +kernel) rfl rfl (Nat.le_of_ble_eq_true rfl) dX9_freeBySlots_2 (fun H locs hP hD hS => ?_)
  have hP : va_P (dC, dI) vwCl (wX9 cI cZ a (sr M 0 (upd (M 0) 0 (0 : Int32)))) H := hP
  have hD : va_D A (wX9 cI cZ a (sr M 0 (upd (M 0) 0 (0 : Int32)))) := hD
  refine lv_aload_n hx hb dX9_freeBySlots_5 rfl (lv_at hl 0 rfl) ?_
  obtain ⟨r6, hc6, hf⟩ := bi_s hf
  have hPc := hP
  refine cRO (W.runV (As := []) (rest := []) ⟨hx, hb, hml, hown, hts⟩ (c_X9_freeMany l dC dI cI cZ a (sr M 0 (upd (M 0) 0 (0 : Int32))) r6 hc6) (cwV 0 hts gX9_freeBySlots_X9_freeMany rfl rfl rfl (by decide +kernel) ⟨Nat.le_of_ble_eq_true rfl, Nat.le_of_ble_eq_true rfl⟩) ⟨RO.blind, va_recv hK hP (ci := 9) (q0 := 0) rfl rfl, RO.pre hPc hK hNW⟩ rfl rfl hl.1 rfl (lv_room (Nat.le_of_ble_eq_true rfl)) dX9_freeBySlots_6 ⟨Nat.le_of_ble_eq_true rfl, Nat.le_of_ble_eq_true rfl⟩) ?_
  have e9 := so_e hf
  subst e9
  exact W.iret (v := r6) hx hb hr (fun t ht hW => ⟨⟨r6, (), rfl, rfl, WE.mk hP hD ht⟩, hS.F ht⟩) hS.2.2 dX9_freeBySlots_9
set_option maxHeartbeats 4000000 in
set_option maxRecDepth 100000 in
theorem c_X9_freeByHeights (l : Launch) (dC : Nat → ClassId) (dI : Nat → Nat → Nat) (cI cZ : ClassId) (a : Nat → Nat) (sz : Nat) (M : Mem) (z : Int32 × Mem) (hf : fX9_freeByHeights M  = some z) : Met l yX9_freeByHeights wsX9_freeByHeights ({ frames := 3, cells := 0, slots := 0, locals := 69 } : Room) (va_Pc [.ref (a 0)] (WR (dC, dI) cI cZ (wX9 cI cZ a M) sz)) (va_Qi (S := Unit) (fun r _ => r = z.1) (fun _ t => WE (dC, dI) cI cZ (wX9 cI cZ a (sr M 0 (z.2 0))) (va_A (wX9 cI cZ a M) sz) t) (va_A (wX9 cI cZ a M) sz)) 0 0 (va_A (wX9 cI cZ a M) sz) := by
  refine Met.ofW (cc := cX9_freeByHeights) (maxL := 1) (ret := (some .int)) (by decide) rfl ?_
  intro p e s m args below meth c s₁ B hml hv
  obtain ⟨rfl, hsz, hP, hK, hD0, hNW⟩ := hv
  have hx := B.exec
  have hb := B.bytes
  have hr := B.returns
  have hts := atoms_spec (ws := wsX9_freeByHeights) B.pre
  have hown : s.vm.findClass RX9 = some m.cls := findClass_of_methodNamed B.named
  have hlocks := B.notSynchronized
  have hinX9 : ∀ w ∈ u_ws RX9 TX9 13, w ∈ wsX9_freeByHeights := by decide +kernel
  have hw1 := hts (.fieldLink RX9 35 "GlideShelvesModel" "thrown" "I") (by decide +kernel)
  subst hsz
  have hD := hD0.self (sz := s.heap.size)
  generalize hAe : va_A (wX9 cI cZ a M) s.heap.size = A at hD ⊢
  have hA : ∀ q : Nat, s.heap.size ≤ q → A q := fun q h => by rw [← hAe]; exact Or.inr h
  have hS : va_S A s.heap s.heap [] := va_S.rf
  have hl := lv_entry ([.ref (a 0)]) (n := 1) (Nat.le_of_ble_eq_true rfl)
  rw [lg_entry_eq]
  generalize (lg_sl ([.ref (a 0)]) ++ List.replicate (1 - (lg_sl ([.ref (a 0)])).length) Slot.unset).toArray = ls at hl ⊢
  have hl : lv_has ls 1 [(0, .ref (a 0))] := hl
  unfold fX9_freeByHeights at hf
  suffices hgo : ∀ (H : Heap) (locs : List Loc), va_P (dC, dI) vwCl (wX9 cI cZ a M) H → va_D A (wX9 cI cZ a M) → va_S A s.heap H locs → W p l e (headSpec wsX9_freeByHeights ({ frames := 3, cells := 0, slots := 0, locals := 69 } : Room)).room s m ([.ref (a 0)] : List Value).toArray below meth c H locs 0 0 (MQ below (va_Qi (S := Unit) (fun r _ => r = z.1) (fun _ t => WE (dC, dI) cI cZ (wX9 cI cZ a (sr M 0 (z.2 0))) A t) A) ([.ref (a 0)] : List Value).toArray s 0 0 A) (F0 m 0 ls []) from hgo _ _ hP hD hS
  intro H locs hP hD hS
  refine lv_aload_n hx hb dX9_freeByHeights_0 rfl (lv_at hl 0 rfl) ?_
  refine lv_iconst (v := (0 : Int32)) hx hb dX9_freeByHeights_1 (by decide) ?_
  refine va_put (D := (dC, dI)) (ci := 9) (v := .int (0 : Int32)) (ty := .int) (C := RX9) (T := TX9) (N := 13) hx hb hts hinX9 tyX9 tyX9_ok nmX9 hown hK hP hD hS 0 rfl rfl 0 (by decide) hw1 (fun _ h9 => h9) rfl (by decide +kernel) rfl rfl (Nat.le_of_ble_eq_true rfl) dX9_freeByHeights_2 (fun H locs hP hD hS => ?_)
  have hP : va_P (dC, dI) vwCl (wX9 cI cZ a (sr M 0 (upd (M 0) 0 (0 : Int32)))) H := hP
  have hD : va_D A (wX9 cI cZ a (sr M 0 (upd (M 0) 0 (0 : Int32)))) := hD
  refine lv_aload_n hx hb dX9_freeByHeights_5 rfl (lv_at hl 0 rfl) ?_
  obtain ⟨r6, hc6, hf⟩ := bi_s hf
  have hPc := hP
  refine cRO (W.runV (As := []) (rest := []) ⟨hx, hb, hml, hown, hts⟩ (c_X9_freeMany l dC dI cI cZ a (sr M 0 (upd (M 0) 0 (0 : Int32))) r6 hc6) (cwV 0 hts gX9_freeByHeights_X9_freeMany rfl rfl rfl (by decide +kernel) ⟨Nat.le_of_ble_eq_true rfl, Nat.le_of_ble_eq_true rfl⟩) ⟨RO.blind, va_recv hK hP (ci := 9) (q0 := 0) rfl rfl, RO.pre hPc hK hNW⟩ rfl rfl hl.1 rfl (lv_room (Nat.le_of_ble_eq_true rfl)) dX9_freeByHeights_6 ⟨Nat.le_of_ble_eq_true rfl, Nat.le_of_ble_eq_true rfl⟩) ?_
  have e9 := so_e hf
  subst e9
  exact W.iret (v := r6) hx hb hr (fun t ht hW => ⟨⟨r6, (), rfl, rfl, WE.mk hP hD ht⟩, hS.F ht⟩) hS.2.2 dX9_freeByHeights_9
set_option maxHeartbeats 4000000 in
set_option maxRecDepth 100000 in
theorem c_X9_firstPlace (l : Launch) (dC : Nat → ClassId) (dI : Nat → Nat → Nat) (cI cZ : ClassId) (a : Nat → Nat) (sz : Nat) (M : Mem) (a1 : Int32) (z : Int32 × Mem) (hf : fX9_firstPlace M a1 = some z) : Met l yX9_firstPlace wsX9_firstPlace ({ frames := 4, cells := 0, slots := 0, locals := 94 } : Room) (va_Pc [.ref (a 0), .int a1] (WR (dC, dI) cI cZ (wX9 cI cZ a M) sz)) (va_Qi (S := Unit) (fun r _ => r = z.1) (fun _ t => WE (dC, dI) cI cZ (wX9 cI cZ a (sr M 0 (z.2 0))) (va_A (wX9 cI cZ a M) sz) t) (va_A (wX9 cI cZ a M) sz)) 0 0 (va_A (wX9 cI cZ a M) sz) := by
  refine Met.ofW (cc := cX9_firstPlace) (maxL := 2) (ret := (some .int)) (by decide) rfl ?_
  intro p e s m args below meth c s₁ B hml hv
  obtain ⟨rfl, hsz, hP, hK, hD0, hNW⟩ := hv
  have hx := B.exec
  have hb := B.bytes
  have hr := B.returns
  have hts := atoms_spec (ws := wsX9_firstPlace) B.pre
  have hown : s.vm.findClass RX9 = some m.cls := findClass_of_methodNamed B.named
  have hlocks := B.notSynchronized
  have hinX9 : ∀ w ∈ u_ws RX9 TX9 13, w ∈ wsX9_firstPlace := by decide +kernel
  have hw1 := hts (.fieldLink RX9 35 "GlideShelvesModel" "thrown" "I") (by decide +kernel)
  subst hsz
  have hD := hD0.self (sz := s.heap.size)
  generalize hAe : va_A (wX9 cI cZ a M) s.heap.size = A at hD ⊢
  have hA : ∀ q : Nat, s.heap.size ≤ q → A q := fun q h => by rw [← hAe]; exact Or.inr h
  have hS : va_S A s.heap s.heap [] := va_S.rf
  have hfX9_firstPlace_B42 : ∀ (N : Mem) (s0 : Int32), fX9_firstPlace_B42 M  N s0 = some z → ∀ (ls : Array Slot), lv_has ls 2 [] → ∀ (H : Heap) (locs : List Loc), va_P (dC, dI) vwCl (wX9 cI cZ a (sr M 0 (N 0))) H → va_D A (wX9 cI cZ a (sr M 0 (N 0))) → va_S A s.heap H locs → W p l e (headSpec wsX9_firstPlace ({ frames := 4, cells := 0, slots := 0, locals := 94 } : Room)).room s m ([.ref (a 0), .int a1] : List Value).toArray below meth c H locs 0 0 (MQ below (va_Qi (S := Unit) (fun r _ => r = z.1) (fun _ t => WE (dC, dI) cI cZ (wX9 cI cZ a (sr M 0 (z.2 0))) A t) A) ([.ref (a 0), .int a1] : List Value).toArray s 0 0 A) (F0 m 42 ls [.int s0]) := by
    intro  N s0 hf ls hl H locs hP hD hS
    unfold fX9_firstPlace_B42 at hf
    have e9 := so_e hf
    subst e9
    exact W.iret (v := s0) hx hb hr (fun t ht hW => ⟨⟨s0, (), rfl, rfl, WE.mk hP hD ht⟩, hS.F ht⟩) hS.2.2 dX9_firstPlace_42
  have hl := lv_entry ([.ref (a 0), .int a1]) (n := 2) (Nat.le_of_ble_eq_true rfl)
  rw [lg_entry_eq]
  generalize (lg_sl ([.ref (a 0), .int a1]) ++ List.replicate (2 - (lg_sl ([.ref (a 0), .int a1])).length) Slot.unset).toArray = ls at hl ⊢
  have hl : lv_has ls 2 [(0, .ref (a 0)), (1, .int a1)] := hl
  unfold fX9_firstPlace at hf
  suffices hgo : ∀ (H : Heap) (locs : List Loc), va_P (dC, dI) vwCl (wX9 cI cZ a M) H → va_D A (wX9 cI cZ a M) → va_S A s.heap H locs → W p l e (headSpec wsX9_firstPlace ({ frames := 4, cells := 0, slots := 0, locals := 94 } : Room)).room s m ([.ref (a 0), .int a1] : List Value).toArray below meth c H locs 0 0 (MQ below (va_Qi (S := Unit) (fun r _ => r = z.1) (fun _ t => WE (dC, dI) cI cZ (wX9 cI cZ a (sr M 0 (z.2 0))) A t) A) ([.ref (a 0), .int a1] : List Value).toArray s 0 0 A) (F0 m 0 ls []) from hgo _ _ hP hD hS
  intro H locs hP hD hS
  refine lv_aload_n hx hb dX9_firstPlace_0 rfl (lv_at hl 0 rfl) ?_
  refine lv_iconst (v := (0 : Int32)) hx hb dX9_firstPlace_1 (by decide) ?_
  refine va_put (D := (dC, dI)) (ci := 9) (v := .int (0 : Int32)) (ty := .int) (C := RX9) (T := TX9) (N := 13) hx hb hts hinX9 tyX9 tyX9_ok nmX9 hown hK hP hD hS 0 rfl rfl 0 (by decide) hw1 (fun _ h9 => h9) rfl (by decide +kernel) rfl rfl (Nat.le_of_ble_eq_true rfl) dX9_firstPlace_2 (fun H locs hP hD hS => ?_)
  have hP : va_P (dC, dI) vwCl (wX9 cI cZ a (sr M 0 (upd (M 0) 0 (0 : Int32)))) H := hP
  have hD : va_D A (wX9 cI cZ a (sr M 0 (upd (M 0) 0 (0 : Int32)))) := hD
  refine lv_iload_n hx hb dX9_firstPlace_5 rfl (lv_at hl 1 rfl) ?_
  refine lv_iconst (v := (1 : Int32)) hx hb dX9_firstPlace_6 (by decide) ?_
  refine lv_iconst (v := (4 : Int32)) hx hb dX9_firstPlace_7 (by decide) ?_
  obtain ⟨r8, hc8, hf⟩ := bi_s hf
  refine cRO (W.runS (As := [.int a1, .int (1 : Int32), .int (4 : Int32)]) (rest := []) ⟨hx, hb, hml, hown, hts⟩ (c_X9_in l a1 (1 : Int32) (4 : Int32) r8 hc8) (va_cwS 3 hts gX9_firstPlace_X9_in rfl rfl rfl (by decide +kernel) ⟨Nat.le_of_ble_eq_true rfl, Nat.le_of_ble_eq_true rfl⟩) ⟨tr_blind, tr_pre⟩ rfl rfl hl.1 rfl (lv_room (Nat.le_of_ble_eq_true rfl)) dX9_firstPlace_8 ⟨Nat.le_of_ble_eq_true rfl, Nat.le_of_ble_eq_true rfl⟩) ?_
  refine lv_if_ne (tgt := 20) hx hb dX9_firstPlace_11 (by decide) (fun c9 => ?_) (fun c9 => ?_)
  · have hf := it_t hf c9
    refine lv_aload_n hx hb dX9_firstPlace_20 rfl (lv_at hl 0 rfl) ?_
    refine lv_iload_n hx hb dX9_firstPlace_21 rfl (lv_at hl 1 rfl) ?_
    obtain ⟨r22, hc22, hf⟩ := bi_s hf
    have hPc := hP
    refine cRO (W.runV (As := [.int a1]) (rest := []) ⟨hx, hb, hml, hown, hts⟩ (c_X9_place l dC dI cI cZ a (sr M 0 (upd (M 0) 0 (0 : Int32))) a1 r22 hc22) (cwV 1 hts gX9_firstPlace_X9_place rfl rfl rfl (by decide +kernel) ⟨Nat.le_of_ble_eq_true rfl, Nat.le_of_ble_eq_true rfl⟩) ⟨RO.blind, va_recv hK hP (ci := 9) (q0 := 0) rfl rfl, RO.pre hPc hK hNW⟩ rfl rfl hl.1 rfl (lv_room (Nat.le_of_ble_eq_true rfl)) dX9_firstPlace_22 ⟨Nat.le_of_ble_eq_true rfl, Nat.le_of_ble_eq_true rfl⟩) ?_
    refine lv_iconst (v := (-1 : Int32)) hx hb dX9_firstPlace_25 (by decide) ?_
    refine lv_icmp_ne (tgt := 37) hx hb dX9_firstPlace_26 (by decide) (fun c9 => ?_) (fun c9 => ?_)
    · have hf := it_t hf c9
      refine lv_aload_n hx hb dX9_firstPlace_37 rfl (lv_at hl 0 rfl) ?_
      refine lv_iload_n hx hb dX9_firstPlace_38 rfl (lv_at hl 1 rfl) ?_
      obtain ⟨r39, hc39, hf⟩ := bi_s hf
      have hPc := hP
      refine cRO (W.runV (As := [.int a1]) (rest := []) ⟨hx, hb, hml, hown, hts⟩ (c_X9_place l dC dI cI cZ a (sr M 0 (upd (M 0) 0 (0 : Int32))) a1 r39 hc39) (cwV 1 hts gX9_firstPlace_X9_place rfl rfl rfl (by decide +kernel) ⟨Nat.le_of_ble_eq_true rfl, Nat.le_of_ble_eq_true rfl⟩) ⟨RO.blind, va_recv hK hP (ci := 9) (q0 := 0) rfl rfl, RO.pre hPc hK hNW⟩ rfl rfl hl.1 rfl (lv_room (Nat.le_of_ble_eq_true rfl)) dX9_firstPlace_39 ⟨Nat.le_of_ble_eq_true rfl, Nat.le_of_ble_eq_true rfl⟩) ?_
      exact hfX9_firstPlace_B42  (sr M 0 (upd (M 0) 0 (0 : Int32))) r39 hf _ (lv_sub hl [] rfl) _ _ hP hD hS
    · have hf := it_n hf c9
      refine lv_aload_n hx hb dX9_firstPlace_29 rfl (lv_at hl 0 rfl) ?_
      refine lv_iconst (v := (2 : Int32)) hx hb dX9_firstPlace_30 (by decide) ?_
      obtain ⟨r31, hc31, hf⟩ := bi_s hf
      have hPc := hP
      have hDc := hD
      have hFc := va_free (wc := (wX9 cI cZ a (sr M 0 (upd (M 0) 0 (0 : Int32))))) hD hS hA [0, 1, 2, 3, 4, 5, 6, 7, 8] rfl
      refine va_calli (va_runV (As := [.int (2 : Int32)]) (rest := []) ⟨hx, hb, hml, hown, hts⟩ (c_X9_fails l dC dI cI cZ a H.size (sr M 0 (upd (M 0) 0 (0 : Int32))) (2 : Int32) r31 hc31) (cwV 1 hts gX9_firstPlace_X9_fails rfl rfl rfl (by decide +kernel) ⟨Nat.le_of_ble_eq_true rfl, Nat.le_of_ble_eq_true rfl⟩) ⟨WR.blind, va_recv hK hP (ci := 9) (q0 := 0) rfl rfl, WR.pre hPc hK hDc hNW⟩ rfl rfl hl.1 rfl (lv_room (Nat.le_of_ble_eq_true rfl)) dX9_firstPlace_31 ⟨Nat.le_of_ble_eq_true rfl, Nat.le_of_ble_eq_true rfl⟩) hS (fun q _ h => hFc q h) hFc (fun rv u t H1 locs ht hvm hw hB hz1 hk1 hS => ?_)
      obtain ⟨hP1, hD1⟩ := hB
      rw [ht] at hP1
      subst hw
      have hP := hP1
      have hD := hD1.weaken (fun k q _ h => hFc q.1 h)
      have hP : va_P (dC, dI) vwCl (wX9 cI cZ a (sr M 0 (r31.2 0))) H1 := hP
      have hD : va_D A (wX9 cI cZ a (sr M 0 (r31.2 0))) := hD
      generalize H1 = H at hP hS ⊢
      refine lv_goto (tgt := 42) hx hb dX9_firstPlace_34 (by decide) ?_
      exact hfX9_firstPlace_B42  (sr M 0 (r31.2 0)) r31.1 hf _ (lv_sub hl [] rfl) _ _ hP hD hS
  · have hf := it_n hf c9
    refine lv_aload_n hx hb dX9_firstPlace_14 rfl (lv_at hl 0 rfl) ?_
    refine lv_iconst (v := (1 : Int32)) hx hb dX9_firstPlace_15 (by decide) ?_
    obtain ⟨r16, hc16, hf⟩ := bi_s hf
    have hPc := hP
    have hDc := hD
    have hFc := va_free (wc := (wX9 cI cZ a (sr M 0 (upd (M 0) 0 (0 : Int32))))) hD hS hA [0, 1, 2, 3, 4, 5, 6, 7, 8] rfl
    refine va_calli (va_runV (As := [.int (1 : Int32)]) (rest := []) ⟨hx, hb, hml, hown, hts⟩ (c_X9_fails l dC dI cI cZ a H.size (sr M 0 (upd (M 0) 0 (0 : Int32))) (1 : Int32) r16 hc16) (cwV 1 hts gX9_firstPlace_X9_fails rfl rfl rfl (by decide +kernel) ⟨Nat.le_of_ble_eq_true rfl, Nat.le_of_ble_eq_true rfl⟩) ⟨WR.blind, va_recv hK hP (ci := 9) (q0 := 0) rfl rfl, WR.pre hPc hK hDc hNW⟩ rfl rfl hl.1 rfl (lv_room (Nat.le_of_ble_eq_true rfl)) dX9_firstPlace_16 ⟨Nat.le_of_ble_eq_true rfl, Nat.le_of_ble_eq_true rfl⟩) hS (fun q _ h => hFc q h) hFc (fun rv u t H1 locs ht hvm hw hB hz1 hk1 hS => ?_)
    obtain ⟨hP1, hD1⟩ := hB
    rw [ht] at hP1
    subst hw
    have hP := hP1
    have hD := hD1.weaken (fun k q _ h => hFc q.1 h)
    have hP : va_P (dC, dI) vwCl (wX9 cI cZ a (sr M 0 (r16.2 0))) H1 := hP
    have hD : va_D A (wX9 cI cZ a (sr M 0 (r16.2 0))) := hD
    generalize H1 = H at hP hS ⊢
    have e9 := so_e hf
    subst e9
    exact W.iret (v := r16.1) hx hb hr (fun t ht hW => ⟨⟨r16.1, (), rfl, rfl, WE.mk hP hD ht⟩, hS.F ht⟩) hS.2.2 dX9_firstPlace_19
set_option maxHeartbeats 4000000 in
set_option maxRecDepth 100000 in
theorem c_X9_longestGap (l : Launch) (dC : Nat → ClassId) (dI : Nat → Nat → Nat) (cI cZ : ClassId) (a : Nat → Nat) (sz : Nat) (M : Mem) (a1 : Int32) (z : Int32 × Mem) (hf : fX9_longestGap M a1 = some z) : Met l yX9_longestGap wsX9_longestGap ({ frames := 3, cells := 0, slots := 0, locals := 71 } : Room) (va_Pc [.ref (a 0), .int a1] (WR (dC, dI) cI cZ (wX9 cI cZ a M) sz)) (va_Qi (S := Unit) (fun r _ => r = z.1) (fun _ t => WE (dC, dI) cI cZ (wX9 cI cZ a (sr M 0 (z.2 0))) (va_A (wX9 cI cZ a M) sz) t) (va_A (wX9 cI cZ a M) sz)) 0 0 (va_A (wX9 cI cZ a M) sz) := by
  refine Met.ofW (cc := cX9_longestGap) (maxL := 2) (ret := (some .int)) (by decide) rfl ?_
  intro p e s m args below meth c s₁ B hml hv
  obtain ⟨rfl, hsz, hP, hK, hD0, hNW⟩ := hv
  have hx := B.exec
  have hb := B.bytes
  have hr := B.returns
  have hts := atoms_spec (ws := wsX9_longestGap) B.pre
  have hown : s.vm.findClass RX9 = some m.cls := findClass_of_methodNamed B.named
  have hlocks := B.notSynchronized
  have hinX9 : ∀ w ∈ u_ws RX9 TX9 13, w ∈ wsX9_longestGap := by decide +kernel
  have hw1 := hts (.fieldLink RX9 35 "GlideShelvesModel" "thrown" "I") (by decide +kernel)
  subst hsz
  have hD := hD0.self (sz := s.heap.size)
  generalize hAe : va_A (wX9 cI cZ a M) s.heap.size = A at hD ⊢
  have hA : ∀ q : Nat, s.heap.size ≤ q → A q := fun q h => by rw [← hAe]; exact Or.inr h
  have hS : va_S A s.heap s.heap [] := va_S.rf
  have hfX9_longestGap_B27 : ∀ (N : Mem) (s0 : Int32), fX9_longestGap_B27 M  N s0 = some z → ∀ (ls : Array Slot), lv_has ls 2 [] → ∀ (H : Heap) (locs : List Loc), va_P (dC, dI) vwCl (wX9 cI cZ a (sr M 0 (N 0))) H → va_D A (wX9 cI cZ a (sr M 0 (N 0))) → va_S A s.heap H locs → W p l e (headSpec wsX9_longestGap ({ frames := 3, cells := 0, slots := 0, locals := 71 } : Room)).room s m ([.ref (a 0), .int a1] : List Value).toArray below meth c H locs 0 0 (MQ below (va_Qi (S := Unit) (fun r _ => r = z.1) (fun _ t => WE (dC, dI) cI cZ (wX9 cI cZ a (sr M 0 (z.2 0))) A t) A) ([.ref (a 0), .int a1] : List Value).toArray s 0 0 A) (F0 m 27 ls [.int s0]) := by
    intro  N s0 hf ls hl H locs hP hD hS
    unfold fX9_longestGap_B27 at hf
    have e9 := so_e hf
    subst e9
    exact W.iret (v := s0) hx hb hr (fun t ht hW => ⟨⟨s0, (), rfl, rfl, WE.mk hP hD ht⟩, hS.F ht⟩) hS.2.2 dX9_longestGap_27
  have hl := lv_entry ([.ref (a 0), .int a1]) (n := 2) (Nat.le_of_ble_eq_true rfl)
  rw [lg_entry_eq]
  generalize (lg_sl ([.ref (a 0), .int a1]) ++ List.replicate (2 - (lg_sl ([.ref (a 0), .int a1])).length) Slot.unset).toArray = ls at hl ⊢
  have hl : lv_has ls 2 [(0, .ref (a 0)), (1, .int a1)] := hl
  unfold fX9_longestGap at hf
  suffices hgo : ∀ (H : Heap) (locs : List Loc), va_P (dC, dI) vwCl (wX9 cI cZ a M) H → va_D A (wX9 cI cZ a M) → va_S A s.heap H locs → W p l e (headSpec wsX9_longestGap ({ frames := 3, cells := 0, slots := 0, locals := 71 } : Room)).room s m ([.ref (a 0), .int a1] : List Value).toArray below meth c H locs 0 0 (MQ below (va_Qi (S := Unit) (fun r _ => r = z.1) (fun _ t => WE (dC, dI) cI cZ (wX9 cI cZ a (sr M 0 (z.2 0))) A t) A) ([.ref (a 0), .int a1] : List Value).toArray s 0 0 A) (F0 m 0 ls []) from hgo _ _ hP hD hS
  intro H locs hP hD hS
  refine lv_aload_n hx hb dX9_longestGap_0 rfl (lv_at hl 0 rfl) ?_
  refine lv_iconst (v := (0 : Int32)) hx hb dX9_longestGap_1 (by decide) ?_
  refine va_put (D := (dC, dI)) (ci := 9) (v := .int (0 : Int32)) (ty := .int) (C := RX9) (T := TX9) (N := 13) hx hb hts hinX9 tyX9 tyX9_ok nmX9 hown hK hP hD hS 0 rfl rfl 0 (by decide) hw1 (fun _ h9 => h9) rfl (by decide +kernel) rfl rfl (Nat.le_of_ble_eq_true rfl) dX9_longestGap_2 (fun H locs hP hD hS => ?_)
  have hP : va_P (dC, dI) vwCl (wX9 cI cZ a (sr M 0 (upd (M 0) 0 (0 : Int32)))) H := hP
  have hD : va_D A (wX9 cI cZ a (sr M 0 (upd (M 0) 0 (0 : Int32)))) := hD
  refine lv_iload_n hx hb dX9_longestGap_5 rfl (lv_at hl 1 rfl) ?_
  refine lv_iconst (v := (0 : Int32)) hx hb dX9_longestGap_6 (by decide) ?_
  refine lv_iconst (v := (1 : Int32)) hx hb dX9_longestGap_7 (by decide) ?_
  obtain ⟨r8, hc8, hf⟩ := bi_s hf
  refine cRO (W.runS (As := [.int a1, .int (0 : Int32), .int (1 : Int32)]) (rest := []) ⟨hx, hb, hml, hown, hts⟩ (c_X9_in l a1 (0 : Int32) (1 : Int32) r8 hc8) (va_cwS 3 hts gX9_longestGap_X9_in rfl rfl rfl (by decide +kernel) ⟨Nat.le_of_ble_eq_true rfl, Nat.le_of_ble_eq_true rfl⟩) ⟨tr_blind, tr_pre⟩ rfl rfl hl.1 rfl (lv_room (Nat.le_of_ble_eq_true rfl)) dX9_longestGap_8 ⟨Nat.le_of_ble_eq_true rfl, Nat.le_of_ble_eq_true rfl⟩) ?_
  refine lv_if_eq (tgt := 22) hx hb dX9_longestGap_11 (by decide) (fun c9 => ?_) (fun c9 => ?_)
  · have hf := it_t hf c9
    refine lv_aload_n hx hb dX9_longestGap_22 rfl (lv_at hl 0 rfl) ?_
    refine lv_iconst (v := (1 : Int32)) hx hb dX9_longestGap_23 (by decide) ?_
    obtain ⟨r24, hc24, hf⟩ := bi_s hf
    have hPc := hP
    have hDc := hD
    have hFc := va_free (wc := (wX9 cI cZ a (sr M 0 (upd (M 0) 0 (0 : Int32))))) hD hS hA [0, 1, 2, 3, 4, 5, 6, 7, 8] rfl
    refine va_calli (va_runV (As := [.int (1 : Int32)]) (rest := []) ⟨hx, hb, hml, hown, hts⟩ (c_X9_fails l dC dI cI cZ a H.size (sr M 0 (upd (M 0) 0 (0 : Int32))) (1 : Int32) r24 hc24) (cwV 1 hts gX9_longestGap_X9_fails rfl rfl rfl (by decide +kernel) ⟨Nat.le_of_ble_eq_true rfl, Nat.le_of_ble_eq_true rfl⟩) ⟨WR.blind, va_recv hK hP (ci := 9) (q0 := 0) rfl rfl, WR.pre hPc hK hDc hNW⟩ rfl rfl hl.1 rfl (lv_room (Nat.le_of_ble_eq_true rfl)) dX9_longestGap_24 ⟨Nat.le_of_ble_eq_true rfl, Nat.le_of_ble_eq_true rfl⟩) hS (fun q _ h => hFc q h) hFc (fun rv u t H1 locs ht hvm hw hB hz1 hk1 hS => ?_)
    obtain ⟨hP1, hD1⟩ := hB
    rw [ht] at hP1
    subst hw
    have hP := hP1
    have hD := hD1.weaken (fun k q _ h => hFc q.1 h)
    have hP : va_P (dC, dI) vwCl (wX9 cI cZ a (sr M 0 (r24.2 0))) H1 := hP
    have hD : va_D A (wX9 cI cZ a (sr M 0 (r24.2 0))) := hD
    generalize H1 = H at hP hS ⊢
    exact hfX9_longestGap_B27  (sr M 0 (r24.2 0)) r24.1 hf _ (lv_sub hl [] rfl) _ _ hP hD hS
  · have hf := it_f hf c9
    refine lv_aload_n hx hb dX9_longestGap_14 rfl (lv_at hl 0 rfl) ?_
    refine lv_iload_n hx hb dX9_longestGap_15 rfl (lv_at hl 1 rfl) ?_
    obtain ⟨r16, hc16, hf⟩ := bi_s hf
    have hPc := hP
    refine cRO (W.runV (As := [.int a1]) (rest := []) ⟨hx, hb, hml, hown, hts⟩ (c_X9_gap l dC dI cI cZ a (sr M 0 (upd (M 0) 0 (0 : Int32))) a1 r16 hc16) (cwV 1 hts gX9_longestGap_X9_gap rfl rfl rfl (by decide +kernel) ⟨Nat.le_of_ble_eq_true rfl, Nat.le_of_ble_eq_true rfl⟩) ⟨RO.blind, va_recv hK hP (ci := 9) (q0 := 0) rfl rfl, RO.pre hPc hK hNW⟩ rfl rfl hl.1 rfl (lv_room (Nat.le_of_ble_eq_true rfl)) dX9_longestGap_16 ⟨Nat.le_of_ble_eq_true rfl, Nat.le_of_ble_eq_true rfl⟩) ?_
    refine lv_goto (tgt := 27) hx hb dX9_longestGap_19 (by decide) ?_
    exact hfX9_longestGap_B27  (sr M 0 (upd (M 0) 0 (0 : Int32))) r16 hf _ (lv_sub hl [] rfl) _ _ hP hD hS
set_option maxHeartbeats 4000000 in
set_option maxRecDepth 100000 in
theorem c_X9_lift (l : Launch) (dC : Nat → ClassId) (dI : Nat → Nat → Nat) (cI cZ : ClassId) (a : Nat → Nat) (sz : Nat) (M : Mem) (z : Int32 × Mem) (hf : fX9_lift M  = some z) : Met l yX9_lift wsX9_lift ({ frames := 0, cells := 0, slots := 0, locals := 0 } : Room) (va_Pc [.ref (a 0)] (WR (dC, dI) cI cZ (wX9 cI cZ a M) sz)) (va_Qi (S := Unit) (fun r _ => r = z.1) (fun _ t => WE (dC, dI) cI cZ (wX9 cI cZ a (sr M 0 (z.2 0))) (va_A (wX9 cI cZ a M) sz) t) (va_A (wX9 cI cZ a M) sz)) 0 0 (va_A (wX9 cI cZ a M) sz) := by
  refine Met.ofW (cc := cX9_lift) (maxL := 1) (ret := (some .int)) (by decide) rfl ?_
  intro p e s m args below meth c s₁ B hml hv
  obtain ⟨rfl, hsz, hP, hK, hD0, hNW⟩ := hv
  have hx := B.exec
  have hb := B.bytes
  have hr := B.returns
  have hts := atoms_spec (ws := wsX9_lift) B.pre
  have hown : s.vm.findClass RX9 = some m.cls := findClass_of_methodNamed B.named
  have hlocks := B.notSynchronized
  have hinX9 : ∀ w ∈ u_ws RX9 TX9 13, w ∈ wsX9_lift := by decide +kernel
  have hw1 := hts (.fieldLink RX9 35 "GlideShelvesModel" "thrown" "I") (by decide +kernel)
  have hw2 := hts (.fieldLink RX9 7 "GlideShelvesModel" "s" "[I") (by decide +kernel)
  subst hsz
  have hD := hD0.self (sz := s.heap.size)
  generalize hAe : va_A (wX9 cI cZ a M) s.heap.size = A at hD ⊢
  have hA : ∀ q : Nat, s.heap.size ≤ q → A q := fun q h => by rw [← hAe]; exact Or.inr h
  have hS : va_S A s.heap s.heap [] := va_S.rf
  have hl := lv_entry ([.ref (a 0)]) (n := 1) (Nat.le_of_ble_eq_true rfl)
  rw [lg_entry_eq]
  generalize (lg_sl ([.ref (a 0)]) ++ List.replicate (1 - (lg_sl ([.ref (a 0)])).length) Slot.unset).toArray = ls at hl ⊢
  have hl : lv_has ls 1 [(0, .ref (a 0))] := hl
  unfold fX9_lift at hf
  suffices hgo : ∀ (H : Heap) (locs : List Loc), va_P (dC, dI) vwCl (wX9 cI cZ a M) H → va_D A (wX9 cI cZ a M) → va_S A s.heap H locs → W p l e (headSpec wsX9_lift ({ frames := 0, cells := 0, slots := 0, locals := 0 } : Room)).room s m ([.ref (a 0)] : List Value).toArray below meth c H locs 0 0 (MQ below (va_Qi (S := Unit) (fun r _ => r = z.1) (fun _ t => WE (dC, dI) cI cZ (wX9 cI cZ a (sr M 0 (z.2 0))) A t) A) ([.ref (a 0)] : List Value).toArray s 0 0 A) (F0 m 0 ls []) from hgo _ _ hP hD hS
  intro H locs hP hD hS
  refine lv_aload_n hx hb dX9_lift_0 rfl (lv_at hl 0 rfl) ?_
  refine lv_iconst (v := (0 : Int32)) hx hb dX9_lift_1 (by decide) ?_
  refine va_put (D := (dC, dI)) (ci := 9) (v := .int (0 : Int32)) (ty := .int) (C := RX9) (T := TX9) (N := 13) hx hb hts hinX9 tyX9 tyX9_ok nmX9 hown hK hP hD hS 0 rfl rfl 0 (by decide) hw1 (fun _ h9 => h9) rfl (by decide +kernel) rfl rfl (Nat.le_of_ble_eq_true rfl) dX9_lift_2 (fun H locs hP hD hS => ?_)
  have hP : va_P (dC, dI) vwCl (wX9 cI cZ a (sr M 0 (upd (M 0) 0 (0 : Int32)))) H := hP
  have hD : va_D A (wX9 cI cZ a (sr M 0 (upd (M 0) 0 (0 : Int32)))) := hD
  refine lv_aload_n hx hb dX9_lift_5 rfl (lv_at hl 0 rfl) ?_
  refine va_get (D := (dC, dI)) (ci := 9) (v := .ref (a 1)) (C := RX9) (T := TX9) (N := 13) hx hb hts hinX9 hown hK hP 0 rfl rfl 1 (by decide) hw2 (fun _ h9 => h9) rfl dX9_lift_6 ?_
  refine lv_iconst (v := (2 : Int32)) hx hb dX9_lift_9 (by decide) ?_
  obtain ⟨hi, hf⟩ := gd_s hf
  refine va_iald (D := (dC, dI)) (f := (M 1)) hx hb hK hP 1 0 rfl rfl (inb_in hi) dX9_lift_10 ?_
  have e9 := so_e hf
  subst e9
  exact W.iret (v := (M 1 (2 : Int32).toNatClampNeg)) hx hb hr (fun t ht hW => ⟨⟨(M 1 (2 : Int32).toNatClampNeg), (), rfl, rfl, WE.mk hP hD ht⟩, hS.F ht⟩) hS.2.2 dX9_lift_11
set_option maxHeartbeats 4000000 in
set_option maxRecDepth 100000 in
theorem c_X9_isKeptPlace (l : Launch) (dC : Nat → ClassId) (dI : Nat → Nat → Nat) (cI cZ : ClassId) (a : Nat → Nat) (sz : Nat) (M : Mem) (z : Int32 × Mem) (hf : fX9_isKeptPlace M  = some z) : Met l yX9_isKeptPlace wsX9_isKeptPlace ({ frames := 0, cells := 0, slots := 0, locals := 0 } : Room) (va_Pc [.ref (a 0)] (WR (dC, dI) cI cZ (wX9 cI cZ a M) sz)) (va_Qi (S := Unit) (fun r _ => r = z.1) (fun _ t => WE (dC, dI) cI cZ (wX9 cI cZ a (sr M 0 (z.2 0))) (va_A (wX9 cI cZ a M) sz) t) (va_A (wX9 cI cZ a M) sz)) 0 0 (va_A (wX9 cI cZ a M) sz) := by
  refine Met.ofW (cc := cX9_isKeptPlace) (maxL := 1) (ret := (some .boolean)) (by decide) rfl ?_
  intro p e s m args below meth c s₁ B hml hv
  obtain ⟨rfl, hsz, hP, hK, hD0, hNW⟩ := hv
  have hx := B.exec
  have hb := B.bytes
  have hr := B.returns
  have hts := atoms_spec (ws := wsX9_isKeptPlace) B.pre
  have hown : s.vm.findClass RX9 = some m.cls := findClass_of_methodNamed B.named
  have hlocks := B.notSynchronized
  have hinX9 : ∀ w ∈ u_ws RX9 TX9 13, w ∈ wsX9_isKeptPlace := by decide +kernel
  have hw1 := hts (.fieldLink RX9 35 "GlideShelvesModel" "thrown" "I") (by decide +kernel)
  have hw2 := hts (.fieldLink RX9 7 "GlideShelvesModel" "s" "[I") (by decide +kernel)
  subst hsz
  have hD := hD0.self (sz := s.heap.size)
  generalize hAe : va_A (wX9 cI cZ a M) s.heap.size = A at hD ⊢
  have hA : ∀ q : Nat, s.heap.size ≤ q → A q := fun q h => by rw [← hAe]; exact Or.inr h
  have hS : va_S A s.heap s.heap [] := va_S.rf
  have hfX9_isKeptPlace_B20 : ∀ (N : Mem) (s0 : Int32), fX9_isKeptPlace_B20 M  N s0 = some z → ∀ (ls : Array Slot), lv_has ls 1 [] → ∀ (H : Heap) (locs : List Loc), va_P (dC, dI) vwCl (wX9 cI cZ a (sr M 0 (N 0))) H → va_D A (wX9 cI cZ a (sr M 0 (N 0))) → va_S A s.heap H locs → W p l e (headSpec wsX9_isKeptPlace ({ frames := 0, cells := 0, slots := 0, locals := 0 } : Room)).room s m ([.ref (a 0)] : List Value).toArray below meth c H locs 0 0 (MQ below (va_Qi (S := Unit) (fun r _ => r = z.1) (fun _ t => WE (dC, dI) cI cZ (wX9 cI cZ a (sr M 0 (z.2 0))) A t) A) ([.ref (a 0)] : List Value).toArray s 0 0 A) (F0 m 20 ls [.int s0]) := by
    intro  N s0 hf ls hl H locs hP hD hS
    unfold fX9_isKeptPlace_B20 at hf
    obtain ⟨hz, hf⟩ := gd_s hf
    have e9 := so_e hf
    subst e9
    exact W.zret (v := s0) hx hb hr (isb_nar hz) (fun t ht hW => ⟨⟨s0, (), rfl, rfl, WE.mk hP hD ht⟩, hS.F ht⟩) hS.2.2 dX9_isKeptPlace_20
  have hl := lv_entry ([.ref (a 0)]) (n := 1) (Nat.le_of_ble_eq_true rfl)
  rw [lg_entry_eq]
  generalize (lg_sl ([.ref (a 0)]) ++ List.replicate (1 - (lg_sl ([.ref (a 0)])).length) Slot.unset).toArray = ls at hl ⊢
  have hl : lv_has ls 1 [(0, .ref (a 0))] := hl
  unfold fX9_isKeptPlace at hf
  suffices hgo : ∀ (H : Heap) (locs : List Loc), va_P (dC, dI) vwCl (wX9 cI cZ a M) H → va_D A (wX9 cI cZ a M) → va_S A s.heap H locs → W p l e (headSpec wsX9_isKeptPlace ({ frames := 0, cells := 0, slots := 0, locals := 0 } : Room)).room s m ([.ref (a 0)] : List Value).toArray below meth c H locs 0 0 (MQ below (va_Qi (S := Unit) (fun r _ => r = z.1) (fun _ t => WE (dC, dI) cI cZ (wX9 cI cZ a (sr M 0 (z.2 0))) A t) A) ([.ref (a 0)] : List Value).toArray s 0 0 A) (F0 m 0 ls []) from hgo _ _ hP hD hS
  intro H locs hP hD hS
  refine lv_aload_n hx hb dX9_isKeptPlace_0 rfl (lv_at hl 0 rfl) ?_
  refine lv_iconst (v := (0 : Int32)) hx hb dX9_isKeptPlace_1 (by decide) ?_
  refine va_put (D := (dC, dI)) (ci := 9) (v := .int (0 : Int32)) (ty := .int) (C := RX9) (T := TX9) (N := 13) hx hb hts hinX9 tyX9 tyX9_ok nmX9 hown hK hP hD hS 0 rfl rfl 0 (by decide) hw1 (fun _ h9 => h9) rfl (by decide +kernel) rfl rfl (Nat.le_of_ble_eq_true rfl) dX9_isKeptPlace_2 (fun H locs hP hD hS => ?_)
  have hP : va_P (dC, dI) vwCl (wX9 cI cZ a (sr M 0 (upd (M 0) 0 (0 : Int32)))) H := hP
  have hD : va_D A (wX9 cI cZ a (sr M 0 (upd (M 0) 0 (0 : Int32)))) := hD
  refine lv_aload_n hx hb dX9_isKeptPlace_5 rfl (lv_at hl 0 rfl) ?_
  refine va_get (D := (dC, dI)) (ci := 9) (v := .ref (a 1)) (C := RX9) (T := TX9) (N := 13) hx hb hts hinX9 hown hK hP 0 rfl rfl 1 (by decide) hw2 (fun _ h9 => h9) rfl dX9_isKeptPlace_6 ?_
  refine lv_iconst (v := (3 : Int32)) hx hb dX9_isKeptPlace_9 (by decide) ?_
  obtain ⟨hi, hf⟩ := gd_s hf
  refine va_iald (D := (dC, dI)) (f := (M 1)) hx hb hK hP 1 0 rfl rfl (inb_in hi) dX9_isKeptPlace_10 ?_
  refine lv_iconst (v := (1 : Int32)) hx hb dX9_isKeptPlace_11 (by decide) ?_
  refine lv_icmp_ne (tgt := 19) hx hb dX9_isKeptPlace_12 (by decide) (fun c9 => ?_) (fun c9 => ?_)
  · have hf := it_t hf c9
    refine lv_iconst (v := (0 : Int32)) hx hb dX9_isKeptPlace_19 (by decide) ?_
    exact hfX9_isKeptPlace_B20  (sr M 0 (upd (M 0) 0 (0 : Int32))) (0 : Int32) hf _ (lv_sub hl [] rfl) _ _ hP hD hS
  · have hf := it_n hf c9
    refine lv_iconst (v := (1 : Int32)) hx hb dX9_isKeptPlace_15 (by decide) ?_
    refine lv_goto (tgt := 20) hx hb dX9_isKeptPlace_16 (by decide) ?_
    exact hfX9_isKeptPlace_B20  (sr M 0 (upd (M 0) 0 (0 : Int32))) (1 : Int32) hf _ (lv_sub hl [] rfl) _ _ hP hD hS
set_option maxHeartbeats 4000000 in
set_option maxRecDepth 100000 in
theorem c_X9_wouldPack (l : Launch) (dC : Nat → ClassId) (dI : Nat → Nat → Nat) (cI cZ : ClassId) (a : Nat → Nat) (sz : Nat) (M : Mem) (z : Int32 × Mem) (hf : fX9_wouldPack M  = some z) : Met l yX9_wouldPack wsX9_wouldPack ({ frames := 6, cells := 0, slots := 0, locals := 142 } : Room) (va_Pc [.ref (a 0)] (WR (dC, dI) cI cZ (wX9 cI cZ a M) sz)) (va_Qi (S := Unit) (fun r _ => r = z.1) (fun _ t => WE (dC, dI) cI cZ (wX9 cI cZ a (sr (sr (sr M 0 (z.2 0)) 1 (z.2 1)) 2 (z.2 2))) (va_A (wX9 cI cZ a M) sz) t) (va_A (wX9 cI cZ a M) sz)) 0 0 (va_A (wX9 cI cZ a M) sz) := by
  refine Met.ofW (cc := cX9_wouldPack) (maxL := 2) (ret := (some .int)) (by decide) rfl ?_
  intro p e s m args below meth c s₁ B hml hv
  obtain ⟨rfl, hsz, hP, hK, hD0, hNW⟩ := hv
  have hx := B.exec
  have hb := B.bytes
  have hr := B.returns
  have hts := atoms_spec (ws := wsX9_wouldPack) B.pre
  have hown : s.vm.findClass RX9 = some m.cls := findClass_of_methodNamed B.named
  have hlocks := B.notSynchronized
  have hinX9 : ∀ w ∈ u_ws RX9 TX9 13, w ∈ wsX9_wouldPack := by decide +kernel
  have hw1 := hts (.fieldLink RX9 35 "GlideShelvesModel" "thrown" "I") (by decide +kernel)
  subst hsz
  have hD := hD0.self (sz := s.heap.size)
  generalize hAe : va_A (wX9 cI cZ a M) s.heap.size = A at hD ⊢
  have hA : ∀ q : Nat, s.heap.size ≤ q → A q := fun q h => by rw [← hAe]; exact Or.inr h
  have hS : va_S A s.heap s.heap [] := va_S.rf
  have hfX9_wouldPack_B35 : ∀ (N : Mem) (s0 : Int32), fX9_wouldPack_B35 M  N s0 = some z → ∀ (ls : Array Slot), lv_has ls 2 [] → ∀ (H : Heap) (locs : List Loc), va_P (dC, dI) vwCl (wX9 cI cZ a (sr (sr (sr M 0 (N 0)) 1 (N 1)) 2 (N 2))) H → va_D A (wX9 cI cZ a (sr (sr (sr M 0 (N 0)) 1 (N 1)) 2 (N 2))) → va_S A s.heap H locs → W p l e (headSpec wsX9_wouldPack ({ frames := 6, cells := 0, slots := 0, locals := 142 } : Room)).room s m ([.ref (a 0)] : List Value).toArray below meth c H locs 0 0 (MQ below (va_Qi (S := Unit) (fun r _ => r = z.1) (fun _ t => WE (dC, dI) cI cZ (wX9 cI cZ a (sr (sr (sr M 0 (z.2 0)) 1 (z.2 1)) 2 (z.2 2))) A t) A) ([.ref (a 0)] : List Value).toArray s 0 0 A) (F0 m 35 ls [.int s0]) := by
    intro  N s0 hf ls hl H locs hP hD hS
    unfold fX9_wouldPack_B35 at hf
    have e9 := so_e hf
    subst e9
    exact W.iret (v := s0) hx hb hr (fun t ht hW => ⟨⟨s0, (), rfl, rfl, WE.mk hP hD ht⟩, hS.F ht⟩) hS.2.2 dX9_wouldPack_35
  have hfX9_wouldPack_B20 : ∀ (N : Mem) (s0 : Int32), fX9_wouldPack_B20 M  N s0 = some z → ∀ (ls : Array Slot), lv_has ls 2 [(0, .ref (a 0))] → ∀ (H : Heap) (locs : List Loc), va_P (dC, dI) vwCl (wX9 cI cZ a (sr (sr (sr M 0 (N 0)) 1 (N 1)) 2 (N 2))) H → va_D A (wX9 cI cZ a (sr (sr (sr M 0 (N 0)) 1 (N 1)) 2 (N 2))) → va_S A s.heap H locs → W p l e (headSpec wsX9_wouldPack ({ frames := 6, cells := 0, slots := 0, locals := 142 } : Room)).room s m ([.ref (a 0)] : List Value).toArray below meth c H locs 0 0 (MQ below (va_Qi (S := Unit) (fun r _ => r = z.1) (fun _ t => WE (dC, dI) cI cZ (wX9 cI cZ a (sr (sr (sr M 0 (z.2 0)) 1 (z.2 1)) 2 (z.2 2))) A t) A) ([.ref (a 0)] : List Value).toArray s 0 0 A) (F0 m 20 ls [.int s0]) := by
    intro  N s0 hf ls hl H locs hP hD hS
    unfold fX9_wouldPack_B20 at hf
    refine lv_istore_n (lv' := [(1, .int s0), (0, .ref (a 0))]) hx hb dX9_wouldPack_20 rfl hl (by decide) rfl (fun ls hl => ?_)
    refine lv_iload_n hx hb dX9_wouldPack_21 rfl (lv_at hl 0 rfl) ?_
    refine lv_iconst (v := (-1 : Int32)) hx hb dX9_wouldPack_22 (by decide) ?_
    refine lv_icmp_ne (tgt := 34) hx hb dX9_wouldPack_23 (by decide) (fun c9 => ?_) (fun c9 => ?_)
    · have hf := it_t hf c9
      refine lv_iload_n hx hb dX9_wouldPack_34 rfl (lv_at hl 0 rfl) ?_
      exact hfX9_wouldPack_B35  (sr (sr (sr M 0 (N 0)) 1 (N 1)) 2 (N 2)) s0 hf _ (lv_sub hl [] rfl) _ _ hP hD hS
    · have hf := it_n hf c9
      refine lv_aload_n hx hb dX9_wouldPack_26 rfl (lv_at hl 1 rfl) ?_
      refine lv_iconst (v := (1 : Int32)) hx hb dX9_wouldPack_27 (by decide) ?_
      obtain ⟨r28, hc28, hf⟩ := bi_s hf
      have hPc := hP
      have hDc := hD
      have hFc := va_free (wc := (wX9 cI cZ a (sr (sr (sr M 0 (N 0)) 1 (N 1)) 2 (N 2)))) hD hS hA [0, 1, 2, 3, 4, 5, 6, 7, 8] rfl
      refine va_calli (va_runV (As := [.int (1 : Int32)]) (rest := []) ⟨hx, hb, hml, hown, hts⟩ (c_X9_fails l dC dI cI cZ a H.size (sr (sr (sr M 0 (N 0)) 1 (N 1)) 2 (N 2)) (1 : Int32) r28 hc28) (cwV 1 hts gX9_wouldPack_X9_fails rfl rfl rfl (by decide +kernel) ⟨Nat.le_of_ble_eq_true rfl, Nat.le_of_ble_eq_true rfl⟩) ⟨WR.blind, va_recv hK hP (ci := 9) (q0 := 0) rfl rfl, WR.pre hPc hK hDc hNW⟩ rfl rfl hl.1 rfl (lv_room (Nat.le_of_ble_eq_true rfl)) dX9_wouldPack_28 ⟨Nat.le_of_ble_eq_true rfl, Nat.le_of_ble_eq_true rfl⟩) hS (fun q _ h => hFc q h) hFc (fun rv u t H1 locs ht hvm hw hB hz1 hk1 hS => ?_)
      obtain ⟨hP1, hD1⟩ := hB
      rw [ht] at hP1
      subst hw
      have hP := hP1
      have hD := hD1.weaken (fun k q _ h => hFc q.1 h)
      have hP : va_P (dC, dI) vwCl (wX9 cI cZ a (sr (sr (sr M 0 (r28.2 0)) 1 (N 1)) 2 (N 2))) H1 := hP
      have hD : va_D A (wX9 cI cZ a (sr (sr (sr M 0 (r28.2 0)) 1 (N 1)) 2 (N 2))) := hD
      generalize H1 = H at hP hS ⊢
      refine lv_goto (tgt := 35) hx hb dX9_wouldPack_31 (by decide) ?_
      exact hfX9_wouldPack_B35  (sr (sr (sr M 0 (r28.2 0)) 1 (N 1)) 2 (N 2)) r28.1 hf _ (lv_sub hl [] rfl) _ _ hP hD hS
  have hl := lv_entry ([.ref (a 0)]) (n := 2) (Nat.le_of_ble_eq_true rfl)
  rw [lg_entry_eq]
  generalize (lg_sl ([.ref (a 0)]) ++ List.replicate (2 - (lg_sl ([.ref (a 0)])).length) Slot.unset).toArray = ls at hl ⊢
  have hl : lv_has ls 2 [(0, .ref (a 0))] := hl
  unfold fX9_wouldPack at hf
  suffices hgo : ∀ (H : Heap) (locs : List Loc), va_P (dC, dI) vwCl (wX9 cI cZ a M) H → va_D A (wX9 cI cZ a M) → va_S A s.heap H locs → W p l e (headSpec wsX9_wouldPack ({ frames := 6, cells := 0, slots := 0, locals := 142 } : Room)).room s m ([.ref (a 0)] : List Value).toArray below meth c H locs 0 0 (MQ below (va_Qi (S := Unit) (fun r _ => r = z.1) (fun _ t => WE (dC, dI) cI cZ (wX9 cI cZ a (sr (sr (sr M 0 (z.2 0)) 1 (z.2 1)) 2 (z.2 2))) A t) A) ([.ref (a 0)] : List Value).toArray s 0 0 A) (F0 m 0 ls []) from hgo _ _ hP hD hS
  intro H locs hP hD hS
  refine lv_aload_n hx hb dX9_wouldPack_0 rfl (lv_at hl 0 rfl) ?_
  refine lv_iconst (v := (0 : Int32)) hx hb dX9_wouldPack_1 (by decide) ?_
  refine va_put (D := (dC, dI)) (ci := 9) (v := .int (0 : Int32)) (ty := .int) (C := RX9) (T := TX9) (N := 13) hx hb hts hinX9 tyX9 tyX9_ok nmX9 hown hK hP hD hS 0 rfl rfl 0 (by decide) hw1 (fun _ h9 => h9) rfl (by decide +kernel) rfl rfl (Nat.le_of_ble_eq_true rfl) dX9_wouldPack_2 (fun H locs hP hD hS => ?_)
  have hP : va_P (dC, dI) vwCl (wX9 cI cZ a (sr M 0 (upd (M 0) 0 (0 : Int32)))) H := hP
  have hD : va_D A (wX9 cI cZ a (sr M 0 (upd (M 0) 0 (0 : Int32)))) := hD
  refine lv_aload_n hx hb dX9_wouldPack_5 rfl (lv_at hl 0 rfl) ?_
  obtain ⟨r6, hc6, hf⟩ := bi_s hf
  have hPc := hP
  refine cRO (W.runV (As := []) (rest := []) ⟨hx, hb, hml, hown, hts⟩ (c_X9_hasWindow l dC dI cI cZ a (sr M 0 (upd (M 0) 0 (0 : Int32))) r6 hc6) (cwV 0 hts gX9_wouldPack_X9_hasWindow rfl rfl rfl (by decide +kernel) ⟨Nat.le_of_ble_eq_true rfl, Nat.le_of_ble_eq_true rfl⟩) ⟨RO.blind, va_recv hK hP (ci := 9) (q0 := 0) rfl rfl, RO.pre hPc hK hNW⟩ rfl rfl hl.1 rfl (lv_room (Nat.le_of_ble_eq_true rfl)) dX9_wouldPack_6 ⟨Nat.le_of_ble_eq_true rfl, Nat.le_of_ble_eq_true rfl⟩) ?_
  refine lv_if_eq (tgt := 16) hx hb dX9_wouldPack_9 (by decide) (fun c9 => ?_) (fun c9 => ?_)
  · have hf := it_t hf c9
    refine lv_aload_n hx hb dX9_wouldPack_16 rfl (lv_at hl 0 rfl) ?_
    obtain ⟨r17, hc17, hf⟩ := bi_s hf
    have hPc := hP
    have hDc := hD
    have hFc := va_free (wc := (wX9 cI cZ a (sr M 0 (upd (M 0) 0 (0 : Int32))))) hD hS hA [0, 1, 2, 3, 4, 5, 6, 7, 8] rfl
    refine va_calli (va_runV (As := []) (rest := []) ⟨hx, hb, hml, hown, hts⟩ (c_X9_packsAside l dC dI cI cZ a H.size (sr M 0 (upd (M 0) 0 (0 : Int32))) r17 hc17) (cwV 0 hts gX9_wouldPack_X9_packsAside rfl rfl rfl (by decide +kernel) ⟨Nat.le_of_ble_eq_true rfl, Nat.le_of_ble_eq_true rfl⟩) ⟨WR.blind, va_recv hK hP (ci := 9) (q0 := 0) rfl rfl, WR.pre hPc hK hDc hNW⟩ rfl rfl hl.1 rfl (lv_room (Nat.le_of_ble_eq_true rfl)) dX9_wouldPack_17 ⟨Nat.le_of_ble_eq_true rfl, Nat.le_of_ble_eq_true rfl⟩) hS (fun q _ h => hFc q h) hFc (fun rv u t H1 locs ht hvm hw hB hz1 hk1 hS => ?_)
    obtain ⟨hP1, hD1⟩ := hB
    rw [ht] at hP1
    subst hw
    have hP := hP1
    have hD := hD1.weaken (fun k q _ h => hFc q.1 h)
    have hP : va_P (dC, dI) vwCl (wX9 cI cZ a (sr (sr (sr M 0 (upd (M 0) 0 (0 : Int32))) 1 (r17.2 1)) 2 (r17.2 2))) H1 := hP
    have hD : va_D A (wX9 cI cZ a (sr (sr (sr M 0 (upd (M 0) 0 (0 : Int32))) 1 (r17.2 1)) 2 (r17.2 2))) := hD
    generalize H1 = H at hP hS ⊢
    exact hfX9_wouldPack_B20  (sr (sr (sr M 0 (upd (M 0) 0 (0 : Int32))) 1 (r17.2 1)) 2 (r17.2 2)) r17.1 hf _ (lv_sub hl [0] rfl) _ _ hP hD hS
  · have hf := it_f hf c9
    refine lv_iconst (v := (-1 : Int32)) hx hb dX9_wouldPack_12 (by decide) ?_
    refine lv_goto (tgt := 20) hx hb dX9_wouldPack_13 (by decide) ?_
    exact hfX9_wouldPack_B20  (sr M 0 (upd (M 0) 0 (0 : Int32))) (-1 : Int32) hf _ (lv_sub hl [0] rfl) _ _ hP hD hS
set_option maxHeartbeats 4000000 in
set_option maxRecDepth 100000 in
theorem c_X9_heavy (l : Launch) (dC : Nat → ClassId) (dI : Nat → Nat → Nat) (cI cZ : ClassId) (a : Nat → Nat) (M : Mem) (a1 : Int32) (z : Int32) (hf : fX9_heavy M a1 = some z) : Met l yX9_heavy wsX9_heavy ({ frames := 2, cells := 0, slots := 0, locals := 45 } : Room) (va_Pc [.ref (a 0), .int a1] (RO (dC, dI) cI cZ (wX9 cI cZ a M))) (k2_QcV (.int z)) 0 0 (fun _ => False) := by
  refine Met.ofW (cc := cX9_heavy) (maxL := 4) (ret := (some .int)) (by decide) rfl ?_
  intro p e s m args below meth c s₁ B hml hv
  obtain ⟨rfl, hP, hK, hNW⟩ := hv
  have hx := B.exec
  have hb := B.bytes
  have hr := B.returns
  have hts := atoms_spec (ws := wsX9_heavy) B.pre
  have hown : s.vm.findClass RX9 = some m.cls := findClass_of_methodNamed B.named
  have hlocks := B.notSynchronized
  have hinX9 : ∀ w ∈ u_ws RX9 TX9 13, w ∈ wsX9_heavy := by decide +kernel
  have hw1 := hts (.fieldLink RX9 7 "GlideShelvesModel" "s" "[I") (by decide +kernel)
  have hfX9_heavy_B44 : ∀ (kb : Int32 → Int32 → Int32 → Option (Int32)) (hkb : ∀ (l1 : Int32) (l2 : Int32) (l3 : Int32), kb l1 l2 l3 = some z → ∀ (ls : Array Slot), lv_has ls 4 [(0, .ref (a 0)), (1, .int l1), (2, .int l2), (3, .int l3)] → W p l e (headSpec wsX9_heavy ({ frames := 2, cells := 0, slots := 0, locals := 45 } : Room)).room s m ([.ref (a 0), .int a1] : List Value).toArray below meth c s.heap [] 0 0 (MQ below (k2_QcV (.int z)) ([.ref (a 0), .int a1] : List Value).toArray s 0 0 (fun _ => False)) (F0 m 4 ls [])) (kx52 : Int32 → Option (Int32)) (hkx52 : ∀ (l2 : Int32), kx52 l2 = some z → ∀ (ls : Array Slot), lv_has ls 4 [(2, .int l2)] → W p l e (headSpec wsX9_heavy ({ frames := 2, cells := 0, slots := 0, locals := 45 } : Room)).room s m ([.ref (a 0), .int a1] : List Value).toArray below meth c s.heap [] 0 0 (MQ below (k2_QcV (.int z)) ([.ref (a 0), .int a1] : List Value).toArray s 0 0 (fun _ => False)) (F0 m 52 ls [])), ∀ (l1 : Int32) (l3 : Int32) (s0 : Int32) (s1 : Int32), fX9_heavy_B44 M kb kx52 l1 l3 s0 s1 = some z → ∀ (ls : Array Slot), lv_has ls 4 [(0, .ref (a 0)), (1, .int l1), (3, .int l3)] → W p l e (headSpec wsX9_heavy ({ frames := 2, cells := 0, slots := 0, locals := 45 } : Room)).room s m ([.ref (a 0), .int a1] : List Value).toArray below meth c s.heap [] 0 0 (MQ below (k2_QcV (.int z)) ([.ref (a 0), .int a1] : List Value).toArray s 0 0 (fun _ => False)) (F0 m 44 ls [.int s1, .int s0]) := by
    intro kb hkb kx52 hkx52 l1 l3 s0 s1 hf ls hl
    unfold fX9_heavy_B44 at hf
    refine lv_iadd hx hb dX9_heavy_44 ?_
    refine lv_istore_n (lv' := [(2, .int (s0 + s1)), (0, .ref (a 0)), (1, .int l1), (3, .int l3)]) hx hb dX9_heavy_45 rfl hl (by decide) rfl (fun ls hl => ?_)
    refine lv_iinc (v := (l3 + (1 : Int32))) (lv' := [(3, .int (l3 + (1 : Int32))), (2, .int (s0 + s1)), (0, .ref (a 0)), (1, .int l1)]) hx hb dX9_heavy_46 hl (k := 3) rfl rfl (by decide) rfl (fun ls hl => ?_)
    refine lv_goto (tgt := 4) hx hb dX9_heavy_49 (by decide) ?_
    exact hkb l1 (s0 + s1) (l3 + (1 : Int32)) hf _ (lv_sub hl [2, 3, 1, 0] rfl)
  have hfX9_heavy_B43 : ∀ (kb : Int32 → Int32 → Int32 → Option (Int32)) (hkb : ∀ (l1 : Int32) (l2 : Int32) (l3 : Int32), kb l1 l2 l3 = some z → ∀ (ls : Array Slot), lv_has ls 4 [(0, .ref (a 0)), (1, .int l1), (2, .int l2), (3, .int l3)] → W p l e (headSpec wsX9_heavy ({ frames := 2, cells := 0, slots := 0, locals := 45 } : Room)).room s m ([.ref (a 0), .int a1] : List Value).toArray below meth c s.heap [] 0 0 (MQ below (k2_QcV (.int z)) ([.ref (a 0), .int a1] : List Value).toArray s 0 0 (fun _ => False)) (F0 m 4 ls [])) (kx52 : Int32 → Option (Int32)) (hkx52 : ∀ (l2 : Int32), kx52 l2 = some z → ∀ (ls : Array Slot), lv_has ls 4 [(2, .int l2)] → W p l e (headSpec wsX9_heavy ({ frames := 2, cells := 0, slots := 0, locals := 45 } : Room)).room s m ([.ref (a 0), .int a1] : List Value).toArray below meth c s.heap [] 0 0 (MQ below (k2_QcV (.int z)) ([.ref (a 0), .int a1] : List Value).toArray s 0 0 (fun _ => False)) (F0 m 52 ls [])), ∀ (l1 : Int32) (l3 : Int32) (s0 : Int32), fX9_heavy_B43 M kb kx52 l1 l3 s0 = some z → ∀ (ls : Array Slot), lv_has ls 4 [(0, .ref (a 0)), (1, .int l1), (3, .int l3)] → W p l e (headSpec wsX9_heavy ({ frames := 2, cells := 0, slots := 0, locals := 45 } : Room)).room s m ([.ref (a 0), .int a1] : List Value).toArray below meth c s.heap [] 0 0 (MQ below (k2_QcV (.int z)) ([.ref (a 0), .int a1] : List Value).toArray s 0 0 (fun _ => False)) (F0 m 43 ls [.int s0]) := by
    intro kb hkb kx52 hkx52 l1 l3 s0 hf ls hl
    unfold fX9_heavy_B43 at hf
    refine lv_iconst (v := (0 : Int32)) hx hb dX9_heavy_43 (by decide) ?_
    exact hfX9_heavy_B44 _ hkb _ hkx52 l1 l3 s0 (0 : Int32) hf _ (lv_sub hl [0, 1, 2] rfl)
  have hfX9_heavy_L4 : ∀ (n : Nat) (kx52 : Int32 → Option (Int32)) (hkx52 : ∀ (l2 : Int32), kx52 l2 = some z → ∀ (ls : Array Slot), lv_has ls 4 [(2, .int l2)] → W p l e (headSpec wsX9_heavy ({ frames := 2, cells := 0, slots := 0, locals := 45 } : Room)).room s m ([.ref (a 0), .int a1] : List Value).toArray below meth c s.heap [] 0 0 (MQ below (k2_QcV (.int z)) ([.ref (a 0), .int a1] : List Value).toArray s 0 0 (fun _ => False)) (F0 m 52 ls [])), ∀ (l1 : Int32) (l2 : Int32) (l3 : Int32), fX9_heavy_L4 M n kx52 l1 l2 l3 = some z → ∀ (ls : Array Slot), lv_has ls 4 [(0, .ref (a 0)), (1, .int l1), (2, .int l2), (3, .int l3)] → W p l e (headSpec wsX9_heavy ({ frames := 2, cells := 0, slots := 0, locals := 45 } : Room)).room s m ([.ref (a 0), .int a1] : List Value).toArray below meth c s.heap [] 0 0 (MQ below (k2_QcV (.int z)) ([.ref (a 0), .int a1] : List Value).toArray s 0 0 (fun _ => False)) (F0 m 4 ls []) := by
    intro n
    induction n with
    | zero =>
      intro kx52 hkx52 l1 l2 l3 hf ls hl
      rw [fX9_heavy_L4] at hf
      cases hf
    | succ n ih =>
      intro kx52 hkx52 l1 l2 l3 hf ls hl
      rw [fX9_heavy_L4] at hf
      refine lv_iload_n hx hb dX9_heavy_4 rfl (lv_at hl 3 rfl) ?_
      refine lv_aload_n hx hb dX9_heavy_5 rfl (lv_at hl 0 rfl) ?_
      refine va_get (D := (dC, dI)) (ci := 9) (v := .ref (a 1)) (C := RX9) (T := TX9) (N := 13) hx hb hts hinX9 hown hK hP 0 rfl rfl 1 (by decide) hw1 (fun _ h9 => h9) rfl dX9_heavy_6 ?_
      refine lv_iconst (v := (0 : Int32)) hx hb dX9_heavy_9 (by decide) ?_
      obtain ⟨hi, hf⟩ := gd_s hf
      refine va_iald (D := (dC, dI)) (f := (M 1)) hx hb hK hP 1 0 rfl rfl (inb_in hi) dX9_heavy_10 ?_
      refine lv_icmp_ge (tgt := 52) hx hb dX9_heavy_11 (by decide) (fun c9 => ?_) (fun c9 => ?_)
      · have hf := it_t hf c9
        exact hkx52 l2 hf _ (lv_sub hl [2] rfl)
      · have hf := it_f hf c9
        refine lv_iload_n hx hb dX9_heavy_14 rfl (lv_at hl 2 rfl) ?_
        refine lv_aload_n hx hb dX9_heavy_15 rfl (lv_at hl 0 rfl) ?_
        refine lv_iload_n hx hb dX9_heavy_16 rfl (lv_at hl 3 rfl) ?_
        refine lv_iconst (v := (1 : Int32)) hx hb dX9_heavy_17 (by decide) ?_
        obtain ⟨r18, hc18, hf⟩ := bi_s hf
        have hPc := hP
        refine cRO (W.runV (As := [.int l3, .int (1 : Int32)]) (rest := [.int l2]) ⟨hx, hb, hml, hown, hts⟩ (c_X9_of l dC dI cI cZ a M l3 (1 : Int32) r18 hc18) (cwV 2 hts gX9_heavy_X9_of rfl rfl rfl (by decide +kernel) ⟨Nat.le_of_ble_eq_true rfl, Nat.le_of_ble_eq_true rfl⟩) ⟨RO.blind, va_recv hK hP (ci := 9) (q0 := 0) rfl rfl, RO.pre hPc hK hNW⟩ rfl rfl hl.1 rfl (lv_room (Nat.le_of_ble_eq_true rfl)) dX9_heavy_18 ⟨Nat.le_of_ble_eq_true rfl, Nat.le_of_ble_eq_true rfl⟩) ?_
        refine lv_iload_n hx hb dX9_heavy_21 rfl (lv_at hl 1 rfl) ?_
        refine lv_icmp_ne (tgt := 43) hx hb dX9_heavy_22 (by decide) (fun c9 => ?_) (fun c9 => ?_)
        · have hf := it_t hf c9
          exact hfX9_heavy_B43 _ (ih kx52 hkx52) _ hkx52 l1 l3 l2 hf _ (lv_sub hl [0, 1, 3] rfl)
        · have hf := it_n hf c9
          refine lv_iload_n hx hb dX9_heavy_25 rfl (lv_at hl 3 rfl) ?_
          refine lv_aload_n hx hb dX9_heavy_26 rfl (lv_at hl 0 rfl) ?_
          refine va_get (D := (dC, dI)) (ci := 9) (v := .ref (a 1)) (C := RX9) (T := TX9) (N := 13) hx hb hts hinX9 hown hK hP 0 rfl rfl 1 (by decide) hw1 (fun _ h9 => h9) rfl dX9_heavy_27 ?_
          refine lv_iconst (v := (1 : Int32)) hx hb dX9_heavy_30 (by decide) ?_
          obtain ⟨hi, hf⟩ := gd_s hf
          refine va_iald (D := (dC, dI)) (f := (M 1)) hx hb hK hP 1 0 rfl rfl (inb_in hi) dX9_heavy_31 ?_
          refine lv_icmp_eq (tgt := 43) hx hb dX9_heavy_32 (by decide) (fun c9 => ?_) (fun c9 => ?_)
          · have hf := it_t hf c9
            exact hfX9_heavy_B43 _ (ih kx52 hkx52) _ hkx52 l1 l3 l2 hf _ (lv_sub hl [0, 1, 3] rfl)
          · have hf := it_f hf c9
            refine lv_aload_n hx hb dX9_heavy_35 rfl (lv_at hl 0 rfl) ?_
            refine lv_iload_n hx hb dX9_heavy_36 rfl (lv_at hl 3 rfl) ?_
            obtain ⟨r37, hc37, hf⟩ := bi_s hf
            have hPc := hP
            refine cRO (W.runV (As := [.int l3]) (rest := [.int l2]) ⟨hx, hb, hml, hown, hts⟩ (c_X9_weight l dC dI cI cZ a M l3 r37 hc37) (cwV 1 hts gX9_heavy_X9_weight rfl rfl rfl (by decide +kernel) ⟨Nat.le_of_ble_eq_true rfl, Nat.le_of_ble_eq_true rfl⟩) ⟨RO.blind, va_recv hK hP (ci := 9) (q0 := 0) rfl rfl, RO.pre hPc hK hNW⟩ rfl rfl hl.1 rfl (lv_room (Nat.le_of_ble_eq_true rfl)) dX9_heavy_37 ⟨Nat.le_of_ble_eq_true rfl, Nat.le_of_ble_eq_true rfl⟩) ?_
            refine lv_goto (tgt := 44) hx hb dX9_heavy_40 (by decide) ?_
            exact hfX9_heavy_B44 _ (ih kx52 hkx52) _ hkx52 l1 l3 l2 r37 hf _ (lv_sub hl [0, 1, 3] rfl)
  have hl := lv_entry ([.ref (a 0), .int a1]) (n := 4) (Nat.le_of_ble_eq_true rfl)
  rw [lg_entry_eq]
  generalize (lg_sl ([.ref (a 0), .int a1]) ++ List.replicate (4 - (lg_sl ([.ref (a 0), .int a1])).length) Slot.unset).toArray = ls at hl ⊢
  have hl : lv_has ls 4 [(0, .ref (a 0)), (1, .int a1)] := hl
  unfold fX9_heavy at hf
  refine lv_iconst (v := (0 : Int32)) hx hb dX9_heavy_0 (by decide) ?_
  refine lv_istore_n (lv' := [(2, .int (0 : Int32)), (0, .ref (a 0)), (1, .int a1)]) hx hb dX9_heavy_1 rfl hl (by decide) rfl (fun ls hl => ?_)
  refine lv_iconst (v := (0 : Int32)) hx hb dX9_heavy_2 (by decide) ?_
  refine lv_istore_n (lv' := [(3, .int (0 : Int32)), (2, .int (0 : Int32)), (0, .ref (a 0)), (1, .int a1)]) hx hb dX9_heavy_3 rfl hl (by decide) rfl (fun ls hl => ?_)
  refine hfX9_heavy_L4 5000 _ (fun l2 hf ls hl => ?_) a1 (0 : Int32) (0 : Int32) hf _ (lv_sub hl [2, 3, 1, 0] rfl)
  refine lv_iload_n hx hb dX9_heavy_52 rfl (lv_at hl 0 rfl) ?_
  exact W.iret (v := l2) hx hb hr (fun t ht hW => ⟨congrArg (fun x => Outcome.returned (some (Value.int x))) (so_e hf), ht⟩) fl0 dX9_heavy_53
set_option maxHeartbeats 4000000 in
set_option maxRecDepth 100000 in
theorem c_X9_sideWeight (l : Launch) (dC : Nat → ClassId) (dI : Nat → Nat → Nat) (cI cZ : ClassId) (a : Nat → Nat) (sz : Nat) (M : Mem) (a1 : Int32) (z : Int32 × Mem) (hf : fX9_sideWeight M a1 = some z) : Met l yX9_sideWeight wsX9_sideWeight ({ frames := 3, cells := 0, slots := 0, locals := 68 } : Room) (va_Pc [.ref (a 0), .int a1] (WR (dC, dI) cI cZ (wX9 cI cZ a M) sz)) (va_Qi (S := Unit) (fun r _ => r = z.1) (fun _ t => WE (dC, dI) cI cZ (wX9 cI cZ a (sr M 0 (z.2 0))) (va_A (wX9 cI cZ a M) sz) t) (va_A (wX9 cI cZ a M) sz)) 0 0 (va_A (wX9 cI cZ a M) sz) := by
  refine Met.ofW (cc := cX9_sideWeight) (maxL := 2) (ret := (some .int)) (by decide) rfl ?_
  intro p e s m args below meth c s₁ B hml hv
  obtain ⟨rfl, hsz, hP, hK, hD0, hNW⟩ := hv
  have hx := B.exec
  have hb := B.bytes
  have hr := B.returns
  have hts := atoms_spec (ws := wsX9_sideWeight) B.pre
  have hown : s.vm.findClass RX9 = some m.cls := findClass_of_methodNamed B.named
  have hlocks := B.notSynchronized
  have hinX9 : ∀ w ∈ u_ws RX9 TX9 13, w ∈ wsX9_sideWeight := by decide +kernel
  have hw1 := hts (.fieldLink RX9 35 "GlideShelvesModel" "thrown" "I") (by decide +kernel)
  subst hsz
  have hD := hD0.self (sz := s.heap.size)
  generalize hAe : va_A (wX9 cI cZ a M) s.heap.size = A at hD ⊢
  have hA : ∀ q : Nat, s.heap.size ≤ q → A q := fun q h => by rw [← hAe]; exact Or.inr h
  have hS : va_S A s.heap s.heap [] := va_S.rf
  have hfX9_sideWeight_B27 : ∀ (N : Mem) (s0 : Int32), fX9_sideWeight_B27 M  N s0 = some z → ∀ (ls : Array Slot), lv_has ls 2 [] → ∀ (H : Heap) (locs : List Loc), va_P (dC, dI) vwCl (wX9 cI cZ a (sr M 0 (N 0))) H → va_D A (wX9 cI cZ a (sr M 0 (N 0))) → va_S A s.heap H locs → W p l e (headSpec wsX9_sideWeight ({ frames := 3, cells := 0, slots := 0, locals := 68 } : Room)).room s m ([.ref (a 0), .int a1] : List Value).toArray below meth c H locs 0 0 (MQ below (va_Qi (S := Unit) (fun r _ => r = z.1) (fun _ t => WE (dC, dI) cI cZ (wX9 cI cZ a (sr M 0 (z.2 0))) A t) A) ([.ref (a 0), .int a1] : List Value).toArray s 0 0 A) (F0 m 27 ls [.int s0]) := by
    intro  N s0 hf ls hl H locs hP hD hS
    unfold fX9_sideWeight_B27 at hf
    have e9 := so_e hf
    subst e9
    exact W.iret (v := s0) hx hb hr (fun t ht hW => ⟨⟨s0, (), rfl, rfl, WE.mk hP hD ht⟩, hS.F ht⟩) hS.2.2 dX9_sideWeight_27
  have hl := lv_entry ([.ref (a 0), .int a1]) (n := 2) (Nat.le_of_ble_eq_true rfl)
  rw [lg_entry_eq]
  generalize (lg_sl ([.ref (a 0), .int a1]) ++ List.replicate (2 - (lg_sl ([.ref (a 0), .int a1])).length) Slot.unset).toArray = ls at hl ⊢
  have hl : lv_has ls 2 [(0, .ref (a 0)), (1, .int a1)] := hl
  unfold fX9_sideWeight at hf
  suffices hgo : ∀ (H : Heap) (locs : List Loc), va_P (dC, dI) vwCl (wX9 cI cZ a M) H → va_D A (wX9 cI cZ a M) → va_S A s.heap H locs → W p l e (headSpec wsX9_sideWeight ({ frames := 3, cells := 0, slots := 0, locals := 68 } : Room)).room s m ([.ref (a 0), .int a1] : List Value).toArray below meth c H locs 0 0 (MQ below (va_Qi (S := Unit) (fun r _ => r = z.1) (fun _ t => WE (dC, dI) cI cZ (wX9 cI cZ a (sr M 0 (z.2 0))) A t) A) ([.ref (a 0), .int a1] : List Value).toArray s 0 0 A) (F0 m 0 ls []) from hgo _ _ hP hD hS
  intro H locs hP hD hS
  refine lv_aload_n hx hb dX9_sideWeight_0 rfl (lv_at hl 0 rfl) ?_
  refine lv_iconst (v := (0 : Int32)) hx hb dX9_sideWeight_1 (by decide) ?_
  refine va_put (D := (dC, dI)) (ci := 9) (v := .int (0 : Int32)) (ty := .int) (C := RX9) (T := TX9) (N := 13) hx hb hts hinX9 tyX9 tyX9_ok nmX9 hown hK hP hD hS 0 rfl rfl 0 (by decide) hw1 (fun _ h9 => h9) rfl (by decide +kernel) rfl rfl (Nat.le_of_ble_eq_true rfl) dX9_sideWeight_2 (fun H locs hP hD hS => ?_)
  have hP : va_P (dC, dI) vwCl (wX9 cI cZ a (sr M 0 (upd (M 0) 0 (0 : Int32)))) H := hP
  have hD : va_D A (wX9 cI cZ a (sr M 0 (upd (M 0) 0 (0 : Int32)))) := hD
  refine lv_iload_n hx hb dX9_sideWeight_5 rfl (lv_at hl 1 rfl) ?_
  refine lv_iconst (v := (0 : Int32)) hx hb dX9_sideWeight_6 (by decide) ?_
  refine lv_iconst (v := (1 : Int32)) hx hb dX9_sideWeight_7 (by decide) ?_
  obtain ⟨r8, hc8, hf⟩ := bi_s hf
  refine cRO (W.runS (As := [.int a1, .int (0 : Int32), .int (1 : Int32)]) (rest := []) ⟨hx, hb, hml, hown, hts⟩ (c_X9_in l a1 (0 : Int32) (1 : Int32) r8 hc8) (va_cwS 3 hts gX9_sideWeight_X9_in rfl rfl rfl (by decide +kernel) ⟨Nat.le_of_ble_eq_true rfl, Nat.le_of_ble_eq_true rfl⟩) ⟨tr_blind, tr_pre⟩ rfl rfl hl.1 rfl (lv_room (Nat.le_of_ble_eq_true rfl)) dX9_sideWeight_8 ⟨Nat.le_of_ble_eq_true rfl, Nat.le_of_ble_eq_true rfl⟩) ?_
  refine lv_if_eq (tgt := 22) hx hb dX9_sideWeight_11 (by decide) (fun c9 => ?_) (fun c9 => ?_)
  · have hf := it_t hf c9
    refine lv_aload_n hx hb dX9_sideWeight_22 rfl (lv_at hl 0 rfl) ?_
    refine lv_iconst (v := (1 : Int32)) hx hb dX9_sideWeight_23 (by decide) ?_
    obtain ⟨r24, hc24, hf⟩ := bi_s hf
    have hPc := hP
    have hDc := hD
    have hFc := va_free (wc := (wX9 cI cZ a (sr M 0 (upd (M 0) 0 (0 : Int32))))) hD hS hA [0, 1, 2, 3, 4, 5, 6, 7, 8] rfl
    refine va_calli (va_runV (As := [.int (1 : Int32)]) (rest := []) ⟨hx, hb, hml, hown, hts⟩ (c_X9_fails l dC dI cI cZ a H.size (sr M 0 (upd (M 0) 0 (0 : Int32))) (1 : Int32) r24 hc24) (cwV 1 hts gX9_sideWeight_X9_fails rfl rfl rfl (by decide +kernel) ⟨Nat.le_of_ble_eq_true rfl, Nat.le_of_ble_eq_true rfl⟩) ⟨WR.blind, va_recv hK hP (ci := 9) (q0 := 0) rfl rfl, WR.pre hPc hK hDc hNW⟩ rfl rfl hl.1 rfl (lv_room (Nat.le_of_ble_eq_true rfl)) dX9_sideWeight_24 ⟨Nat.le_of_ble_eq_true rfl, Nat.le_of_ble_eq_true rfl⟩) hS (fun q _ h => hFc q h) hFc (fun rv u t H1 locs ht hvm hw hB hz1 hk1 hS => ?_)
    obtain ⟨hP1, hD1⟩ := hB
    rw [ht] at hP1
    subst hw
    have hP := hP1
    have hD := hD1.weaken (fun k q _ h => hFc q.1 h)
    have hP : va_P (dC, dI) vwCl (wX9 cI cZ a (sr M 0 (r24.2 0))) H1 := hP
    have hD : va_D A (wX9 cI cZ a (sr M 0 (r24.2 0))) := hD
    generalize H1 = H at hP hS ⊢
    exact hfX9_sideWeight_B27  (sr M 0 (r24.2 0)) r24.1 hf _ (lv_sub hl [] rfl) _ _ hP hD hS
  · have hf := it_f hf c9
    refine lv_aload_n hx hb dX9_sideWeight_14 rfl (lv_at hl 0 rfl) ?_
    refine lv_iload_n hx hb dX9_sideWeight_15 rfl (lv_at hl 1 rfl) ?_
    obtain ⟨r16, hc16, hf⟩ := bi_s hf
    have hPc := hP
    refine cRO (W.runV (As := [.int a1]) (rest := []) ⟨hx, hb, hml, hown, hts⟩ (c_X9_heavy l dC dI cI cZ a (sr M 0 (upd (M 0) 0 (0 : Int32))) a1 r16 hc16) (cwV 1 hts gX9_sideWeight_X9_heavy rfl rfl rfl (by decide +kernel) ⟨Nat.le_of_ble_eq_true rfl, Nat.le_of_ble_eq_true rfl⟩) ⟨RO.blind, va_recv hK hP (ci := 9) (q0 := 0) rfl rfl, RO.pre hPc hK hNW⟩ rfl rfl hl.1 rfl (lv_room (Nat.le_of_ble_eq_true rfl)) dX9_sideWeight_16 ⟨Nat.le_of_ble_eq_true rfl, Nat.le_of_ble_eq_true rfl⟩) ?_
    refine lv_goto (tgt := 27) hx hb dX9_sideWeight_19 (by decide) ?_
    exact hfX9_sideWeight_B27  (sr M 0 (upd (M 0) 0 (0 : Int32))) r16 hf _ (lv_sub hl [] rfl) _ _ hP hD hS
set_option maxHeartbeats 4000000 in
set_option maxRecDepth 100000 in
theorem c_X9_trips (l : Launch) (dC : Nat → ClassId) (dI : Nat → Nat → Nat) (cI cZ : ClassId) (a : Nat → Nat) (sz : Nat) (M : Mem) (z : Int32 × Mem) (hf : fX9_trips M  = some z) : Met l yX9_trips wsX9_trips ({ frames := 0, cells := 0, slots := 0, locals := 0 } : Room) (va_Pc [.ref (a 0)] (WR (dC, dI) cI cZ (wX9 cI cZ a M) sz)) (va_Qi (S := Unit) (fun r _ => r = z.1) (fun _ t => WE (dC, dI) cI cZ (wX9 cI cZ a (sr M 0 (z.2 0))) (va_A (wX9 cI cZ a M) sz) t) (va_A (wX9 cI cZ a M) sz)) 0 0 (va_A (wX9 cI cZ a M) sz) := by
  refine Met.ofW (cc := cX9_trips) (maxL := 1) (ret := (some .int)) (by decide) rfl ?_
  intro p e s m args below meth c s₁ B hml hv
  obtain ⟨rfl, hsz, hP, hK, hD0, hNW⟩ := hv
  have hx := B.exec
  have hb := B.bytes
  have hr := B.returns
  have hts := atoms_spec (ws := wsX9_trips) B.pre
  have hown : s.vm.findClass RX9 = some m.cls := findClass_of_methodNamed B.named
  have hlocks := B.notSynchronized
  have hinX9 : ∀ w ∈ u_ws RX9 TX9 13, w ∈ wsX9_trips := by decide +kernel
  have hw1 := hts (.fieldLink RX9 35 "GlideShelvesModel" "thrown" "I") (by decide +kernel)
  have hw2 := hts (.fieldLink RX9 7 "GlideShelvesModel" "s" "[I") (by decide +kernel)
  subst hsz
  have hD := hD0.self (sz := s.heap.size)
  generalize hAe : va_A (wX9 cI cZ a M) s.heap.size = A at hD ⊢
  have hA : ∀ q : Nat, s.heap.size ≤ q → A q := fun q h => by rw [← hAe]; exact Or.inr h
  have hS : va_S A s.heap s.heap [] := va_S.rf
  have hl := lv_entry ([.ref (a 0)]) (n := 1) (Nat.le_of_ble_eq_true rfl)
  rw [lg_entry_eq]
  generalize (lg_sl ([.ref (a 0)]) ++ List.replicate (1 - (lg_sl ([.ref (a 0)])).length) Slot.unset).toArray = ls at hl ⊢
  have hl : lv_has ls 1 [(0, .ref (a 0))] := hl
  unfold fX9_trips at hf
  suffices hgo : ∀ (H : Heap) (locs : List Loc), va_P (dC, dI) vwCl (wX9 cI cZ a M) H → va_D A (wX9 cI cZ a M) → va_S A s.heap H locs → W p l e (headSpec wsX9_trips ({ frames := 0, cells := 0, slots := 0, locals := 0 } : Room)).room s m ([.ref (a 0)] : List Value).toArray below meth c H locs 0 0 (MQ below (va_Qi (S := Unit) (fun r _ => r = z.1) (fun _ t => WE (dC, dI) cI cZ (wX9 cI cZ a (sr M 0 (z.2 0))) A t) A) ([.ref (a 0)] : List Value).toArray s 0 0 A) (F0 m 0 ls []) from hgo _ _ hP hD hS
  intro H locs hP hD hS
  refine lv_aload_n hx hb dX9_trips_0 rfl (lv_at hl 0 rfl) ?_
  refine lv_iconst (v := (0 : Int32)) hx hb dX9_trips_1 (by decide) ?_
  refine va_put (D := (dC, dI)) (ci := 9) (v := .int (0 : Int32)) (ty := .int) (C := RX9) (T := TX9) (N := 13) hx hb hts hinX9 tyX9 tyX9_ok nmX9 hown hK hP hD hS 0 rfl rfl 0 (by decide) hw1 (fun _ h9 => h9) rfl (by decide +kernel) rfl rfl (Nat.le_of_ble_eq_true rfl) dX9_trips_2 (fun H locs hP hD hS => ?_)
  have hP : va_P (dC, dI) vwCl (wX9 cI cZ a (sr M 0 (upd (M 0) 0 (0 : Int32)))) H := hP
  have hD : va_D A (wX9 cI cZ a (sr M 0 (upd (M 0) 0 (0 : Int32)))) := hD
  refine lv_aload_n hx hb dX9_trips_5 rfl (lv_at hl 0 rfl) ?_
  refine va_get (D := (dC, dI)) (ci := 9) (v := .ref (a 1)) (C := RX9) (T := TX9) (N := 13) hx hb hts hinX9 hown hK hP 0 rfl rfl 1 (by decide) hw2 (fun _ h9 => h9) rfl dX9_trips_6 ?_
  refine lv_bipush (v := (7 : Int32)) hx hb dX9_trips_9 (by decide) ?_
  obtain ⟨hi, hf⟩ := gd_s hf
  refine va_iald (D := (dC, dI)) (f := (M 1)) hx hb hK hP 1 0 rfl rfl (inb_in hi) dX9_trips_11 ?_
  have e9 := so_e hf
  subst e9
  exact W.iret (v := (M 1 (7 : Int32).toNatClampNeg)) hx hb hr (fun t ht hW => ⟨⟨(M 1 (7 : Int32).toNatClampNeg), (), rfl, rfl, WE.mk hP hD ht⟩, hS.F ht⟩) hS.2.2 dX9_trips_12
set_option maxHeartbeats 4000000 in
set_option maxRecDepth 100000 in
theorem c_X9_tripTicks (l : Launch) (dC : Nat → ClassId) (dI : Nat → Nat → Nat) (cI cZ : ClassId) (a : Nat → Nat) (sz : Nat) (M : Mem) (a1 : Int32) (z : Int32 × Mem) (hf : fX9_tripTicks M a1 = some z) : Met l yX9_tripTicks wsX9_tripTicks ({ frames := 1, cells := 0, slots := 0, locals := 22 } : Room) (va_Pc [.ref (a 0), .int a1] (WR (dC, dI) cI cZ (wX9 cI cZ a M) sz)) (va_Qi (S := Unit) (fun r _ => r = z.1) (fun _ t => WE (dC, dI) cI cZ (wX9 cI cZ a (sr M 0 (z.2 0))) (va_A (wX9 cI cZ a M) sz) t) (va_A (wX9 cI cZ a M) sz)) 0 0 (va_A (wX9 cI cZ a M) sz) := by
  refine Met.ofW (cc := cX9_tripTicks) (maxL := 2) (ret := (some .int)) (by decide) rfl ?_
  intro p e s m args below meth c s₁ B hml hv
  obtain ⟨rfl, hsz, hP, hK, hD0, hNW⟩ := hv
  have hx := B.exec
  have hb := B.bytes
  have hr := B.returns
  have hts := atoms_spec (ws := wsX9_tripTicks) B.pre
  have hown : s.vm.findClass RX9 = some m.cls := findClass_of_methodNamed B.named
  have hlocks := B.notSynchronized
  have hinX9 : ∀ w ∈ u_ws RX9 TX9 13, w ∈ wsX9_tripTicks := by decide +kernel
  have hw1 := hts (.fieldLink RX9 35 "GlideShelvesModel" "thrown" "I") (by decide +kernel)
  have hw2 := hts (.fieldLink RX9 7 "GlideShelvesModel" "s" "[I") (by decide +kernel)
  subst hsz
  have hD := hD0.self (sz := s.heap.size)
  generalize hAe : va_A (wX9 cI cZ a M) s.heap.size = A at hD ⊢
  have hA : ∀ q : Nat, s.heap.size ≤ q → A q := fun q h => by rw [← hAe]; exact Or.inr h
  have hS : va_S A s.heap s.heap [] := va_S.rf
  have hfX9_tripTicks_B42 : ∀ (N : Mem) (s0 : Int32), fX9_tripTicks_B42 M  N s0 = some z → ∀ (ls : Array Slot), lv_has ls 2 [] → ∀ (H : Heap) (locs : List Loc), va_P (dC, dI) vwCl (wX9 cI cZ a (sr M 0 (N 0))) H → va_D A (wX9 cI cZ a (sr M 0 (N 0))) → va_S A s.heap H locs → W p l e (headSpec wsX9_tripTicks ({ frames := 1, cells := 0, slots := 0, locals := 22 } : Room)).room s m ([.ref (a 0), .int a1] : List Value).toArray below meth c H locs 0 0 (MQ below (va_Qi (S := Unit) (fun r _ => r = z.1) (fun _ t => WE (dC, dI) cI cZ (wX9 cI cZ a (sr M 0 (z.2 0))) A t) A) ([.ref (a 0), .int a1] : List Value).toArray s 0 0 A) (F0 m 42 ls [.int s0]) := by
    intro  N s0 hf ls hl H locs hP hD hS
    unfold fX9_tripTicks_B42 at hf
    have e9 := so_e hf
    subst e9
    exact W.iret (v := s0) hx hb hr (fun t ht hW => ⟨⟨s0, (), rfl, rfl, WE.mk hP hD ht⟩, hS.F ht⟩) hS.2.2 dX9_tripTicks_42
  have hl := lv_entry ([.ref (a 0), .int a1]) (n := 2) (Nat.le_of_ble_eq_true rfl)
  rw [lg_entry_eq]
  generalize (lg_sl ([.ref (a 0), .int a1]) ++ List.replicate (2 - (lg_sl ([.ref (a 0), .int a1])).length) Slot.unset).toArray = ls at hl ⊢
  have hl : lv_has ls 2 [(0, .ref (a 0)), (1, .int a1)] := hl
  unfold fX9_tripTicks at hf
  suffices hgo : ∀ (H : Heap) (locs : List Loc), va_P (dC, dI) vwCl (wX9 cI cZ a M) H → va_D A (wX9 cI cZ a M) → va_S A s.heap H locs → W p l e (headSpec wsX9_tripTicks ({ frames := 1, cells := 0, slots := 0, locals := 22 } : Room)).room s m ([.ref (a 0), .int a1] : List Value).toArray below meth c H locs 0 0 (MQ below (va_Qi (S := Unit) (fun r _ => r = z.1) (fun _ t => WE (dC, dI) cI cZ (wX9 cI cZ a (sr M 0 (z.2 0))) A t) A) ([.ref (a 0), .int a1] : List Value).toArray s 0 0 A) (F0 m 0 ls []) from hgo _ _ hP hD hS
  intro H locs hP hD hS
  refine lv_aload_n hx hb dX9_tripTicks_0 rfl (lv_at hl 0 rfl) ?_
  refine lv_iconst (v := (0 : Int32)) hx hb dX9_tripTicks_1 (by decide) ?_
  refine va_put (D := (dC, dI)) (ci := 9) (v := .int (0 : Int32)) (ty := .int) (C := RX9) (T := TX9) (N := 13) hx hb hts hinX9 tyX9 tyX9_ok nmX9 hown hK hP hD hS 0 rfl rfl 0 (by decide) hw1 (fun _ h9 => h9) rfl (by decide +kernel) rfl rfl (Nat.le_of_ble_eq_true rfl) dX9_tripTicks_2 (fun H locs hP hD hS => ?_)
  have hP : va_P (dC, dI) vwCl (wX9 cI cZ a (sr M 0 (upd (M 0) 0 (0 : Int32)))) H := hP
  have hD : va_D A (wX9 cI cZ a (sr M 0 (upd (M 0) 0 (0 : Int32)))) := hD
  refine lv_iload_n hx hb dX9_tripTicks_5 rfl (lv_at hl 1 rfl) ?_
  refine lv_iconst (v := (0 : Int32)) hx hb dX9_tripTicks_6 (by decide) ?_
  refine lv_aload_n hx hb dX9_tripTicks_7 rfl (lv_at hl 0 rfl) ?_
  refine va_get (D := (dC, dI)) (ci := 9) (v := .ref (a 1)) (C := RX9) (T := TX9) (N := 13) hx hb hts hinX9 hown hK hP 0 rfl rfl 1 (by decide) hw2 (fun _ h9 => h9) rfl dX9_tripTicks_8 ?_
  refine lv_bipush (v := (7 : Int32)) hx hb dX9_tripTicks_11 (by decide) ?_
  obtain ⟨hi, hf⟩ := gd_s hf
  refine va_iald (D := (dC, dI)) (f := (M 1)) hx hb hK hP 1 0 rfl rfl (inb_in hi) dX9_tripTicks_13 ?_
  refine lv_iconst (v := (1 : Int32)) hx hb dX9_tripTicks_14 (by decide) ?_
  refine lv_isub hx hb dX9_tripTicks_15 ?_
  obtain ⟨r16, hc16, hf⟩ := bi_s hf
  refine cRO (W.runS (As := [.int a1, .int (0 : Int32), .int ((M 1 (7 : Int32).toNatClampNeg) - (1 : Int32))]) (rest := []) ⟨hx, hb, hml, hown, hts⟩ (c_X9_in l a1 (0 : Int32) ((M 1 (7 : Int32).toNatClampNeg) - (1 : Int32)) r16 hc16) (va_cwS 3 hts gX9_tripTicks_X9_in rfl rfl rfl (by decide +kernel) ⟨Nat.le_of_ble_eq_true rfl, Nat.le_of_ble_eq_true rfl⟩) ⟨tr_blind, tr_pre⟩ rfl rfl hl.1 rfl (lv_room (Nat.le_of_ble_eq_true rfl)) dX9_tripTicks_16 ⟨Nat.le_of_ble_eq_true rfl, Nat.le_of_ble_eq_true rfl⟩) ?_
  refine lv_if_eq (tgt := 37) hx hb dX9_tripTicks_19 (by decide) (fun c9 => ?_) (fun c9 => ?_)
  · have hf := it_t hf c9
    refine lv_aload_n hx hb dX9_tripTicks_37 rfl (lv_at hl 0 rfl) ?_
    refine lv_iconst (v := (1 : Int32)) hx hb dX9_tripTicks_38 (by decide) ?_
    obtain ⟨r39, hc39, hf⟩ := bi_s hf
    have hPc := hP
    have hDc := hD
    have hFc := va_free (wc := (wX9 cI cZ a (sr M 0 (upd (M 0) 0 (0 : Int32))))) hD hS hA [0, 1, 2, 3, 4, 5, 6, 7, 8] rfl
    refine va_calli (va_runV (As := [.int (1 : Int32)]) (rest := []) ⟨hx, hb, hml, hown, hts⟩ (c_X9_fails l dC dI cI cZ a H.size (sr M 0 (upd (M 0) 0 (0 : Int32))) (1 : Int32) r39 hc39) (cwV 1 hts gX9_tripTicks_X9_fails rfl rfl rfl (by decide +kernel) ⟨Nat.le_of_ble_eq_true rfl, Nat.le_of_ble_eq_true rfl⟩) ⟨WR.blind, va_recv hK hP (ci := 9) (q0 := 0) rfl rfl, WR.pre hPc hK hDc hNW⟩ rfl rfl hl.1 rfl (lv_room (Nat.le_of_ble_eq_true rfl)) dX9_tripTicks_39 ⟨Nat.le_of_ble_eq_true rfl, Nat.le_of_ble_eq_true rfl⟩) hS (fun q _ h => hFc q h) hFc (fun rv u t H1 locs ht hvm hw hB hz1 hk1 hS => ?_)
    obtain ⟨hP1, hD1⟩ := hB
    rw [ht] at hP1
    subst hw
    have hP := hP1
    have hD := hD1.weaken (fun k q _ h => hFc q.1 h)
    have hP : va_P (dC, dI) vwCl (wX9 cI cZ a (sr M 0 (r39.2 0))) H1 := hP
    have hD : va_D A (wX9 cI cZ a (sr M 0 (r39.2 0))) := hD
    generalize H1 = H at hP hS ⊢
    exact hfX9_tripTicks_B42  (sr M 0 (r39.2 0)) r39.1 hf _ (lv_sub hl [] rfl) _ _ hP hD hS
  · have hf := it_f hf c9
    refine lv_aload_n hx hb dX9_tripTicks_22 rfl (lv_at hl 0 rfl) ?_
    refine va_get (D := (dC, dI)) (ci := 9) (v := .ref (a 1)) (C := RX9) (T := TX9) (N := 13) hx hb hts hinX9 hown hK hP 0 rfl rfl 1 (by decide) hw2 (fun _ h9 => h9) rfl dX9_tripTicks_23 ?_
    refine lv_sipush (v := (207 : Int32)) hx hb dX9_tripTicks_26 (by decide) ?_
    refine lv_iconst (v := (2 : Int32)) hx hb dX9_tripTicks_29 (by decide) ?_
    refine lv_iload_n hx hb dX9_tripTicks_30 rfl (lv_at hl 1 rfl) ?_
    refine lv_imul hx hb dX9_tripTicks_31 ?_
    refine lv_iadd hx hb dX9_tripTicks_32 ?_
    obtain ⟨hi, hf⟩ := gd_s hf
    refine va_iald (D := (dC, dI)) (f := (M 1)) hx hb hK hP 1 0 rfl rfl (inb_in hi) dX9_tripTicks_33 ?_
    refine lv_goto (tgt := 42) hx hb dX9_tripTicks_34 (by decide) ?_
    exact hfX9_tripTicks_B42  (sr M 0 (upd (M 0) 0 (0 : Int32))) (M 1 ((207 : Int32) + ((2 : Int32) * a1)).toNatClampNeg) hf _ (lv_sub hl [] rfl) _ _ hP hD hS
set_option maxHeartbeats 4000000 in
set_option maxRecDepth 100000 in
theorem c_X9_wasFetch (l : Launch) (dC : Nat → ClassId) (dI : Nat → Nat → Nat) (cI cZ : ClassId) (a : Nat → Nat) (sz : Nat) (M : Mem) (a1 : Int32) (z : Int32 × Mem) (hf : fX9_wasFetch M a1 = some z) : Met l yX9_wasFetch wsX9_wasFetch ({ frames := 1, cells := 0, slots := 0, locals := 22 } : Room) (va_Pc [.ref (a 0), .int a1] (WR (dC, dI) cI cZ (wX9 cI cZ a M) sz)) (va_Qi (S := Unit) (fun r _ => r = z.1) (fun _ t => WE (dC, dI) cI cZ (wX9 cI cZ a (sr M 0 (z.2 0))) (va_A (wX9 cI cZ a M) sz) t) (va_A (wX9 cI cZ a M) sz)) 0 0 (va_A (wX9 cI cZ a M) sz) := by
  refine Met.ofW (cc := cX9_wasFetch) (maxL := 2) (ret := (some .boolean)) (by decide) rfl ?_
  intro p e s m args below meth c s₁ B hml hv
  obtain ⟨rfl, hsz, hP, hK, hD0, hNW⟩ := hv
  have hx := B.exec
  have hb := B.bytes
  have hr := B.returns
  have hts := atoms_spec (ws := wsX9_wasFetch) B.pre
  have hown : s.vm.findClass RX9 = some m.cls := findClass_of_methodNamed B.named
  have hlocks := B.notSynchronized
  have hinX9 : ∀ w ∈ u_ws RX9 TX9 13, w ∈ wsX9_wasFetch := by decide +kernel
  have hw1 := hts (.fieldLink RX9 35 "GlideShelvesModel" "thrown" "I") (by decide +kernel)
  have hw2 := hts (.fieldLink RX9 7 "GlideShelvesModel" "s" "[I") (by decide +kernel)
  subst hsz
  have hD := hD0.self (sz := s.heap.size)
  generalize hAe : va_A (wX9 cI cZ a M) s.heap.size = A at hD ⊢
  have hA : ∀ q : Nat, s.heap.size ≤ q → A q := fun q h => by rw [← hAe]; exact Or.inr h
  have hS : va_S A s.heap s.heap [] := va_S.rf
  have hfX9_wasFetch_B61 : ∀ (N : Mem) (s0 : Int32), fX9_wasFetch_B61 M  N s0 = some z → ∀ (ls : Array Slot), lv_has ls 2 [] → ∀ (H : Heap) (locs : List Loc), va_P (dC, dI) vwCl (wX9 cI cZ a (sr M 0 (N 0))) H → va_D A (wX9 cI cZ a (sr M 0 (N 0))) → va_S A s.heap H locs → W p l e (headSpec wsX9_wasFetch ({ frames := 1, cells := 0, slots := 0, locals := 22 } : Room)).room s m ([.ref (a 0), .int a1] : List Value).toArray below meth c H locs 0 0 (MQ below (va_Qi (S := Unit) (fun r _ => r = z.1) (fun _ t => WE (dC, dI) cI cZ (wX9 cI cZ a (sr M 0 (z.2 0))) A t) A) ([.ref (a 0), .int a1] : List Value).toArray s 0 0 A) (F0 m 61 ls [.int s0]) := by
    intro  N s0 hf ls hl H locs hP hD hS
    unfold fX9_wasFetch_B61 at hf
    obtain ⟨hz, hf⟩ := gd_s hf
    have e9 := so_e hf
    subst e9
    exact W.zret (v := s0) hx hb hr (isb_nar hz) (fun t ht hW => ⟨⟨s0, (), rfl, rfl, WE.mk hP hD ht⟩, hS.F ht⟩) hS.2.2 dX9_wasFetch_61
  have hl := lv_entry ([.ref (a 0), .int a1]) (n := 2) (Nat.le_of_ble_eq_true rfl)
  rw [lg_entry_eq]
  generalize (lg_sl ([.ref (a 0), .int a1]) ++ List.replicate (2 - (lg_sl ([.ref (a 0), .int a1])).length) Slot.unset).toArray = ls at hl ⊢
  have hl : lv_has ls 2 [(0, .ref (a 0)), (1, .int a1)] := hl
  unfold fX9_wasFetch at hf
  suffices hgo : ∀ (H : Heap) (locs : List Loc), va_P (dC, dI) vwCl (wX9 cI cZ a M) H → va_D A (wX9 cI cZ a M) → va_S A s.heap H locs → W p l e (headSpec wsX9_wasFetch ({ frames := 1, cells := 0, slots := 0, locals := 22 } : Room)).room s m ([.ref (a 0), .int a1] : List Value).toArray below meth c H locs 0 0 (MQ below (va_Qi (S := Unit) (fun r _ => r = z.1) (fun _ t => WE (dC, dI) cI cZ (wX9 cI cZ a (sr M 0 (z.2 0))) A t) A) ([.ref (a 0), .int a1] : List Value).toArray s 0 0 A) (F0 m 0 ls []) from hgo _ _ hP hD hS
  intro H locs hP hD hS
  refine lv_aload_n hx hb dX9_wasFetch_0 rfl (lv_at hl 0 rfl) ?_
  refine lv_iconst (v := (0 : Int32)) hx hb dX9_wasFetch_1 (by decide) ?_
  refine va_put (D := (dC, dI)) (ci := 9) (v := .int (0 : Int32)) (ty := .int) (C := RX9) (T := TX9) (N := 13) hx hb hts hinX9 tyX9 tyX9_ok nmX9 hown hK hP hD hS 0 rfl rfl 0 (by decide) hw1 (fun _ h9 => h9) rfl (by decide +kernel) rfl rfl (Nat.le_of_ble_eq_true rfl) dX9_wasFetch_2 (fun H locs hP hD hS => ?_)
  have hP : va_P (dC, dI) vwCl (wX9 cI cZ a (sr M 0 (upd (M 0) 0 (0 : Int32)))) H := hP
  have hD : va_D A (wX9 cI cZ a (sr M 0 (upd (M 0) 0 (0 : Int32)))) := hD
  refine lv_iload_n hx hb dX9_wasFetch_5 rfl (lv_at hl 1 rfl) ?_
  refine lv_iconst (v := (0 : Int32)) hx hb dX9_wasFetch_6 (by decide) ?_
  refine lv_aload_n hx hb dX9_wasFetch_7 rfl (lv_at hl 0 rfl) ?_
  refine va_get (D := (dC, dI)) (ci := 9) (v := .ref (a 1)) (C := RX9) (T := TX9) (N := 13) hx hb hts hinX9 hown hK hP 0 rfl rfl 1 (by decide) hw2 (fun _ h9 => h9) rfl dX9_wasFetch_8 ?_
  refine lv_bipush (v := (7 : Int32)) hx hb dX9_wasFetch_11 (by decide) ?_
  obtain ⟨hi, hf⟩ := gd_s hf
  refine va_iald (D := (dC, dI)) (f := (M 1)) hx hb hK hP 1 0 rfl rfl (inb_in hi) dX9_wasFetch_13 ?_
  refine lv_iconst (v := (1 : Int32)) hx hb dX9_wasFetch_14 (by decide) ?_
  refine lv_isub hx hb dX9_wasFetch_15 ?_
  obtain ⟨r16, hc16, hf⟩ := bi_s hf
  refine cRO (W.runS (As := [.int a1, .int (0 : Int32), .int ((M 1 (7 : Int32).toNatClampNeg) - (1 : Int32))]) (rest := []) ⟨hx, hb, hml, hown, hts⟩ (c_X9_in l a1 (0 : Int32) ((M 1 (7 : Int32).toNatClampNeg) - (1 : Int32)) r16 hc16) (va_cwS 3 hts gX9_wasFetch_X9_in rfl rfl rfl (by decide +kernel) ⟨Nat.le_of_ble_eq_true rfl, Nat.le_of_ble_eq_true rfl⟩) ⟨tr_blind, tr_pre⟩ rfl rfl hl.1 rfl (lv_room (Nat.le_of_ble_eq_true rfl)) dX9_wasFetch_16 ⟨Nat.le_of_ble_eq_true rfl, Nat.le_of_ble_eq_true rfl⟩) ?_
  refine lv_if_eq (tgt := 48) hx hb dX9_wasFetch_19 (by decide) (fun c9 => ?_) (fun c9 => ?_)
  · have hf := it_t hf c9
    refine lv_aload_n hx hb dX9_wasFetch_48 rfl (lv_at hl 0 rfl) ?_
    refine lv_iconst (v := (1 : Int32)) hx hb dX9_wasFetch_49 (by decide) ?_
    obtain ⟨r50, hc50, hf⟩ := bi_s hf
    have hPc := hP
    have hDc := hD
    have hFc := va_free (wc := (wX9 cI cZ a (sr M 0 (upd (M 0) 0 (0 : Int32))))) hD hS hA [0, 1, 2, 3, 4, 5, 6, 7, 8] rfl
    refine va_calli (va_runV (As := [.int (1 : Int32)]) (rest := []) ⟨hx, hb, hml, hown, hts⟩ (c_X9_fails l dC dI cI cZ a H.size (sr M 0 (upd (M 0) 0 (0 : Int32))) (1 : Int32) r50 hc50) (cwV 1 hts gX9_wasFetch_X9_fails rfl rfl rfl (by decide +kernel) ⟨Nat.le_of_ble_eq_true rfl, Nat.le_of_ble_eq_true rfl⟩) ⟨WR.blind, va_recv hK hP (ci := 9) (q0 := 0) rfl rfl, WR.pre hPc hK hDc hNW⟩ rfl rfl hl.1 rfl (lv_room (Nat.le_of_ble_eq_true rfl)) dX9_wasFetch_50 ⟨Nat.le_of_ble_eq_true rfl, Nat.le_of_ble_eq_true rfl⟩) hS (fun q _ h => hFc q h) hFc (fun rv u t H1 locs ht hvm hw hB hz1 hk1 hS => ?_)
    obtain ⟨hP1, hD1⟩ := hB
    rw [ht] at hP1
    subst hw
    have hP := hP1
    have hD := hD1.weaken (fun k q _ h => hFc q.1 h)
    have hP : va_P (dC, dI) vwCl (wX9 cI cZ a (sr M 0 (r50.2 0))) H1 := hP
    have hD : va_D A (wX9 cI cZ a (sr M 0 (r50.2 0))) := hD
    generalize H1 = H at hP hS ⊢
    refine lv_if_le (tgt := 60) hx hb dX9_wasFetch_53 (by decide) (fun c9 => ?_) (fun c9 => ?_)
    · have hf := it_t hf c9
      refine lv_iconst (v := (0 : Int32)) hx hb dX9_wasFetch_60 (by decide) ?_
      exact hfX9_wasFetch_B61  (sr M 0 (r50.2 0)) (0 : Int32) hf _ (lv_sub hl [] rfl) _ _ hP hD hS
    · have hf := it_f hf c9
      refine lv_iconst (v := (1 : Int32)) hx hb dX9_wasFetch_56 (by decide) ?_
      refine lv_goto (tgt := 61) hx hb dX9_wasFetch_57 (by decide) ?_
      exact hfX9_wasFetch_B61  (sr M 0 (r50.2 0)) (1 : Int32) hf _ (lv_sub hl [] rfl) _ _ hP hD hS
  · have hf := it_f hf c9
    refine lv_aload_n hx hb dX9_wasFetch_22 rfl (lv_at hl 0 rfl) ?_
    refine va_get (D := (dC, dI)) (ci := 9) (v := .ref (a 1)) (C := RX9) (T := TX9) (N := 13) hx hb hts hinX9 hown hK hP 0 rfl rfl 1 (by decide) hw2 (fun _ h9 => h9) rfl dX9_wasFetch_23 ?_
    refine lv_sipush (v := (207 : Int32)) hx hb dX9_wasFetch_26 (by decide) ?_
    refine lv_iconst (v := (2 : Int32)) hx hb dX9_wasFetch_29 (by decide) ?_
    refine lv_iload_n hx hb dX9_wasFetch_30 rfl (lv_at hl 1 rfl) ?_
    refine lv_imul hx hb dX9_wasFetch_31 ?_
    refine lv_iadd hx hb dX9_wasFetch_32 ?_
    refine lv_iconst (v := (1 : Int32)) hx hb dX9_wasFetch_33 (by decide) ?_
    refine lv_iadd hx hb dX9_wasFetch_34 ?_
    obtain ⟨hi, hf⟩ := gd_s hf
    refine va_iald (D := (dC, dI)) (f := (M 1)) hx hb hK hP 1 0 rfl rfl (inb_in hi) dX9_wasFetch_35 ?_
    refine lv_iconst (v := (1 : Int32)) hx hb dX9_wasFetch_36 (by decide) ?_
    refine lv_icmp_ne (tgt := 44) hx hb dX9_wasFetch_37 (by decide) (fun c9 => ?_) (fun c9 => ?_)
    · have hf := it_t hf c9
      refine lv_iconst (v := (0 : Int32)) hx hb dX9_wasFetch_44 (by decide) ?_
      refine lv_goto (tgt := 61) hx hb dX9_wasFetch_45 (by decide) ?_
      exact hfX9_wasFetch_B61  (sr M 0 (upd (M 0) 0 (0 : Int32))) (0 : Int32) hf _ (lv_sub hl [] rfl) _ _ hP hD hS
    · have hf := it_n hf c9
      refine lv_iconst (v := (1 : Int32)) hx hb dX9_wasFetch_40 (by decide) ?_
      refine lv_goto (tgt := 61) hx hb dX9_wasFetch_41 (by decide) ?_
      exact hfX9_wasFetch_B61  (sr M 0 (upd (M 0) 0 (0 : Int32))) (1 : Int32) hf _ (lv_sub hl [] rfl) _ _ hP hD hS
set_option maxHeartbeats 4000000 in
set_option maxRecDepth 100000 in
theorem c_X9_weightOfKind (l : Launch) (dC : Nat → ClassId) (dI : Nat → Nat → Nat) (cI cZ : ClassId) (a : Nat → Nat) (sz : Nat) (M : Mem) (a1 : Int32) (z : Int32 × Mem) (hf : fX9_weightOfKind M a1 = some z) : Met l yX9_weightOfKind wsX9_weightOfKind ({ frames := 2, cells := 0, slots := 0, locals := 42 } : Room) (va_Pc [.ref (a 0), .int a1] (WR (dC, dI) cI cZ (wX9 cI cZ a M) sz)) (va_Qi (S := Unit) (fun r _ => r = z.1) (fun _ t => WE (dC, dI) cI cZ (wX9 cI cZ a (sr M 0 (z.2 0))) (va_A (wX9 cI cZ a M) sz) t) (va_A (wX9 cI cZ a M) sz)) 0 0 (va_A (wX9 cI cZ a M) sz) := by
  refine Met.ofW (cc := cX9_weightOfKind) (maxL := 2) (ret := (some .int)) (by decide) rfl ?_
  intro p e s m args below meth c s₁ B hml hv
  obtain ⟨rfl, hsz, hP, hK, hD0, hNW⟩ := hv
  have hx := B.exec
  have hb := B.bytes
  have hr := B.returns
  have hts := atoms_spec (ws := wsX9_weightOfKind) B.pre
  have hown : s.vm.findClass RX9 = some m.cls := findClass_of_methodNamed B.named
  have hlocks := B.notSynchronized
  have hinX9 : ∀ w ∈ u_ws RX9 TX9 13, w ∈ wsX9_weightOfKind := by decide +kernel
  have hw1 := hts (.fieldLink RX9 35 "GlideShelvesModel" "thrown" "I") (by decide +kernel)
  have hw2 := hts (.fieldLink RX9 7 "GlideShelvesModel" "s" "[I") (by decide +kernel)
  subst hsz
  have hD := hD0.self (sz := s.heap.size)
  generalize hAe : va_A (wX9 cI cZ a M) s.heap.size = A at hD ⊢
  have hA : ∀ q : Nat, s.heap.size ≤ q → A q := fun q h => by rw [← hAe]; exact Or.inr h
  have hS : va_S A s.heap s.heap [] := va_S.rf
  have hfX9_weightOfKind_B30 : ∀ (N : Mem) (s0 : Int32), fX9_weightOfKind_B30 M  N s0 = some z → ∀ (ls : Array Slot), lv_has ls 2 [] → ∀ (H : Heap) (locs : List Loc), va_P (dC, dI) vwCl (wX9 cI cZ a (sr M 0 (N 0))) H → va_D A (wX9 cI cZ a (sr M 0 (N 0))) → va_S A s.heap H locs → W p l e (headSpec wsX9_weightOfKind ({ frames := 2, cells := 0, slots := 0, locals := 42 } : Room)).room s m ([.ref (a 0), .int a1] : List Value).toArray below meth c H locs 0 0 (MQ below (va_Qi (S := Unit) (fun r _ => r = z.1) (fun _ t => WE (dC, dI) cI cZ (wX9 cI cZ a (sr M 0 (z.2 0))) A t) A) ([.ref (a 0), .int a1] : List Value).toArray s 0 0 A) (F0 m 30 ls [.int s0]) := by
    intro  N s0 hf ls hl H locs hP hD hS
    unfold fX9_weightOfKind_B30 at hf
    have e9 := so_e hf
    subst e9
    exact W.iret (v := s0) hx hb hr (fun t ht hW => ⟨⟨s0, (), rfl, rfl, WE.mk hP hD ht⟩, hS.F ht⟩) hS.2.2 dX9_weightOfKind_30
  have hl := lv_entry ([.ref (a 0), .int a1]) (n := 2) (Nat.le_of_ble_eq_true rfl)
  rw [lg_entry_eq]
  generalize (lg_sl ([.ref (a 0), .int a1]) ++ List.replicate (2 - (lg_sl ([.ref (a 0), .int a1])).length) Slot.unset).toArray = ls at hl ⊢
  have hl : lv_has ls 2 [(0, .ref (a 0)), (1, .int a1)] := hl
  unfold fX9_weightOfKind at hf
  suffices hgo : ∀ (H : Heap) (locs : List Loc), va_P (dC, dI) vwCl (wX9 cI cZ a M) H → va_D A (wX9 cI cZ a M) → va_S A s.heap H locs → W p l e (headSpec wsX9_weightOfKind ({ frames := 2, cells := 0, slots := 0, locals := 42 } : Room)).room s m ([.ref (a 0), .int a1] : List Value).toArray below meth c H locs 0 0 (MQ below (va_Qi (S := Unit) (fun r _ => r = z.1) (fun _ t => WE (dC, dI) cI cZ (wX9 cI cZ a (sr M 0 (z.2 0))) A t) A) ([.ref (a 0), .int a1] : List Value).toArray s 0 0 A) (F0 m 0 ls []) from hgo _ _ hP hD hS
  intro H locs hP hD hS
  refine lv_aload_n hx hb dX9_weightOfKind_0 rfl (lv_at hl 0 rfl) ?_
  refine lv_iconst (v := (0 : Int32)) hx hb dX9_weightOfKind_1 (by decide) ?_
  refine va_put (D := (dC, dI)) (ci := 9) (v := .int (0 : Int32)) (ty := .int) (C := RX9) (T := TX9) (N := 13) hx hb hts hinX9 tyX9 tyX9_ok nmX9 hown hK hP hD hS 0 rfl rfl 0 (by decide) hw1 (fun _ h9 => h9) rfl (by decide +kernel) rfl rfl (Nat.le_of_ble_eq_true rfl) dX9_weightOfKind_2 (fun H locs hP hD hS => ?_)
  have hP : va_P (dC, dI) vwCl (wX9 cI cZ a (sr M 0 (upd (M 0) 0 (0 : Int32)))) H := hP
  have hD : va_D A (wX9 cI cZ a (sr M 0 (upd (M 0) 0 (0 : Int32)))) := hD
  refine lv_iload_n hx hb dX9_weightOfKind_5 rfl (lv_at hl 1 rfl) ?_
  obtain ⟨r6, hc6, hf⟩ := bi_s hf
  refine cRO (W.runS (As := [.int a1]) (rest := []) ⟨hx, hb, hml, hown, hts⟩ (c_X9_isKind l a1 r6 hc6) (va_cwS 1 hts gX9_weightOfKind_X9_isKind rfl rfl rfl (by decide +kernel) ⟨Nat.le_of_ble_eq_true rfl, Nat.le_of_ble_eq_true rfl⟩) ⟨tr_blind, tr_pre⟩ rfl rfl hl.1 rfl (lv_room (Nat.le_of_ble_eq_true rfl)) dX9_weightOfKind_6 ⟨Nat.le_of_ble_eq_true rfl, Nat.le_of_ble_eq_true rfl⟩) ?_
  refine lv_if_eq (tgt := 25) hx hb dX9_weightOfKind_9 (by decide) (fun c9 => ?_) (fun c9 => ?_)
  · have hf := it_t hf c9
    refine lv_aload_n hx hb dX9_weightOfKind_25 rfl (lv_at hl 0 rfl) ?_
    refine lv_iconst (v := (1 : Int32)) hx hb dX9_weightOfKind_26 (by decide) ?_
    obtain ⟨r27, hc27, hf⟩ := bi_s hf
    have hPc := hP
    have hDc := hD
    have hFc := va_free (wc := (wX9 cI cZ a (sr M 0 (upd (M 0) 0 (0 : Int32))))) hD hS hA [0, 1, 2, 3, 4, 5, 6, 7, 8] rfl
    refine va_calli (va_runV (As := [.int (1 : Int32)]) (rest := []) ⟨hx, hb, hml, hown, hts⟩ (c_X9_fails l dC dI cI cZ a H.size (sr M 0 (upd (M 0) 0 (0 : Int32))) (1 : Int32) r27 hc27) (cwV 1 hts gX9_weightOfKind_X9_fails rfl rfl rfl (by decide +kernel) ⟨Nat.le_of_ble_eq_true rfl, Nat.le_of_ble_eq_true rfl⟩) ⟨WR.blind, va_recv hK hP (ci := 9) (q0 := 0) rfl rfl, WR.pre hPc hK hDc hNW⟩ rfl rfl hl.1 rfl (lv_room (Nat.le_of_ble_eq_true rfl)) dX9_weightOfKind_27 ⟨Nat.le_of_ble_eq_true rfl, Nat.le_of_ble_eq_true rfl⟩) hS (fun q _ h => hFc q h) hFc (fun rv u t H1 locs ht hvm hw hB hz1 hk1 hS => ?_)
    obtain ⟨hP1, hD1⟩ := hB
    rw [ht] at hP1
    subst hw
    have hP := hP1
    have hD := hD1.weaken (fun k q _ h => hFc q.1 h)
    have hP : va_P (dC, dI) vwCl (wX9 cI cZ a (sr M 0 (r27.2 0))) H1 := hP
    have hD : va_D A (wX9 cI cZ a (sr M 0 (r27.2 0))) := hD
    generalize H1 = H at hP hS ⊢
    exact hfX9_weightOfKind_B30  (sr M 0 (r27.2 0)) r27.1 hf _ (lv_sub hl [] rfl) _ _ hP hD hS
  · have hf := it_f hf c9
    refine lv_aload_n hx hb dX9_weightOfKind_12 rfl (lv_at hl 0 rfl) ?_
    refine va_get (D := (dC, dI)) (ci := 9) (v := .ref (a 1)) (C := RX9) (T := TX9) (N := 13) hx hb hts hinX9 hown hK hP 0 rfl rfl 1 (by decide) hw2 (fun _ h9 => h9) rfl dX9_weightOfKind_13 ?_
    refine lv_sipush (v := (177 : Int32)) hx hb dX9_weightOfKind_16 (by decide) ?_
    refine lv_iload_n hx hb dX9_weightOfKind_19 rfl (lv_at hl 1 rfl) ?_
    refine lv_iadd hx hb dX9_weightOfKind_20 ?_
    obtain ⟨hi, hf⟩ := gd_s hf
    refine va_iald (D := (dC, dI)) (f := (M 1)) hx hb hK hP 1 0 rfl rfl (inb_in hi) dX9_weightOfKind_21 ?_
    refine lv_goto (tgt := 30) hx hb dX9_weightOfKind_22 (by decide) ?_
    exact hfX9_weightOfKind_B30  (sr M 0 (upd (M 0) 0 (0 : Int32))) (M 1 ((177 : Int32) + a1).toNatClampNeg) hf _ (lv_sub hl [] rfl) _ _ hP hD hS
set_option maxHeartbeats 4000000 in
set_option maxRecDepth 100000 in
theorem c_X9_stockByShelves (l : Launch) (dC : Nat → ClassId) (dI : Nat → Nat → Nat) (cI cZ : ClassId) (a : Nat → Nat) (sz : Nat) (M : Mem) (a1 : Int32) (z : Int32 × Mem) (hf : fX9_stockByShelves M a1 = some z) : Met l yX9_stockByShelves wsX9_stockByShelves ({ frames := 2, cells := 0, slots := 0, locals := 45 } : Room) (va_Pc [.ref (a 0), .int a1] (WR (dC, dI) cI cZ (wX9 cI cZ a M) sz)) (va_Qi (S := Unit) (fun r _ => r = z.1) (fun _ t => WE (dC, dI) cI cZ (wX9 cI cZ a (sr M 0 (z.2 0))) (va_A (wX9 cI cZ a M) sz) t) (va_A (wX9 cI cZ a M) sz)) 0 0 (va_A (wX9 cI cZ a M) sz) := by
  refine Met.ofW (cc := cX9_stockByShelves) (maxL := 2) (ret := (some .int)) (by decide) rfl ?_
  intro p e s m args below meth c s₁ B hml hv
  obtain ⟨rfl, hsz, hP, hK, hD0, hNW⟩ := hv
  have hx := B.exec
  have hb := B.bytes
  have hr := B.returns
  have hts := atoms_spec (ws := wsX9_stockByShelves) B.pre
  have hown : s.vm.findClass RX9 = some m.cls := findClass_of_methodNamed B.named
  have hlocks := B.notSynchronized
  have hinX9 : ∀ w ∈ u_ws RX9 TX9 13, w ∈ wsX9_stockByShelves := by decide +kernel
  have hw1 := hts (.fieldLink RX9 35 "GlideShelvesModel" "thrown" "I") (by decide +kernel)
  subst hsz
  have hD := hD0.self (sz := s.heap.size)
  generalize hAe : va_A (wX9 cI cZ a M) s.heap.size = A at hD ⊢
  have hA : ∀ q : Nat, s.heap.size ≤ q → A q := fun q h => by rw [← hAe]; exact Or.inr h
  have hS : va_S A s.heap s.heap [] := va_S.rf
  have hfX9_stockByShelves_B25 : ∀ (N : Mem) (s0 : Int32), fX9_stockByShelves_B25 M  N s0 = some z → ∀ (ls : Array Slot), lv_has ls 2 [] → ∀ (H : Heap) (locs : List Loc), va_P (dC, dI) vwCl (wX9 cI cZ a (sr M 0 (N 0))) H → va_D A (wX9 cI cZ a (sr M 0 (N 0))) → va_S A s.heap H locs → W p l e (headSpec wsX9_stockByShelves ({ frames := 2, cells := 0, slots := 0, locals := 45 } : Room)).room s m ([.ref (a 0), .int a1] : List Value).toArray below meth c H locs 0 0 (MQ below (va_Qi (S := Unit) (fun r _ => r = z.1) (fun _ t => WE (dC, dI) cI cZ (wX9 cI cZ a (sr M 0 (z.2 0))) A t) A) ([.ref (a 0), .int a1] : List Value).toArray s 0 0 A) (F0 m 25 ls [.int s0]) := by
    intro  N s0 hf ls hl H locs hP hD hS
    unfold fX9_stockByShelves_B25 at hf
    have e9 := so_e hf
    subst e9
    exact W.iret (v := s0) hx hb hr (fun t ht hW => ⟨⟨s0, (), rfl, rfl, WE.mk hP hD ht⟩, hS.F ht⟩) hS.2.2 dX9_stockByShelves_25
  have hl := lv_entry ([.ref (a 0), .int a1]) (n := 2) (Nat.le_of_ble_eq_true rfl)
  rw [lg_entry_eq]
  generalize (lg_sl ([.ref (a 0), .int a1]) ++ List.replicate (2 - (lg_sl ([.ref (a 0), .int a1])).length) Slot.unset).toArray = ls at hl ⊢
  have hl : lv_has ls 2 [(0, .ref (a 0)), (1, .int a1)] := hl
  unfold fX9_stockByShelves at hf
  suffices hgo : ∀ (H : Heap) (locs : List Loc), va_P (dC, dI) vwCl (wX9 cI cZ a M) H → va_D A (wX9 cI cZ a M) → va_S A s.heap H locs → W p l e (headSpec wsX9_stockByShelves ({ frames := 2, cells := 0, slots := 0, locals := 45 } : Room)).room s m ([.ref (a 0), .int a1] : List Value).toArray below meth c H locs 0 0 (MQ below (va_Qi (S := Unit) (fun r _ => r = z.1) (fun _ t => WE (dC, dI) cI cZ (wX9 cI cZ a (sr M 0 (z.2 0))) A t) A) ([.ref (a 0), .int a1] : List Value).toArray s 0 0 A) (F0 m 0 ls []) from hgo _ _ hP hD hS
  intro H locs hP hD hS
  refine lv_aload_n hx hb dX9_stockByShelves_0 rfl (lv_at hl 0 rfl) ?_
  refine lv_iconst (v := (0 : Int32)) hx hb dX9_stockByShelves_1 (by decide) ?_
  refine va_put (D := (dC, dI)) (ci := 9) (v := .int (0 : Int32)) (ty := .int) (C := RX9) (T := TX9) (N := 13) hx hb hts hinX9 tyX9 tyX9_ok nmX9 hown hK hP hD hS 0 rfl rfl 0 (by decide) hw1 (fun _ h9 => h9) rfl (by decide +kernel) rfl rfl (Nat.le_of_ble_eq_true rfl) dX9_stockByShelves_2 (fun H locs hP hD hS => ?_)
  have hP : va_P (dC, dI) vwCl (wX9 cI cZ a (sr M 0 (upd (M 0) 0 (0 : Int32)))) H := hP
  have hD : va_D A (wX9 cI cZ a (sr M 0 (upd (M 0) 0 (0 : Int32)))) := hD
  refine lv_iload_n hx hb dX9_stockByShelves_5 rfl (lv_at hl 1 rfl) ?_
  obtain ⟨r6, hc6, hf⟩ := bi_s hf
  refine cRO (W.runS (As := [.int a1]) (rest := []) ⟨hx, hb, hml, hown, hts⟩ (c_X9_isKind l a1 r6 hc6) (va_cwS 1 hts gX9_stockByShelves_X9_isKind rfl rfl rfl (by decide +kernel) ⟨Nat.le_of_ble_eq_true rfl, Nat.le_of_ble_eq_true rfl⟩) ⟨tr_blind, tr_pre⟩ rfl rfl hl.1 rfl (lv_room (Nat.le_of_ble_eq_true rfl)) dX9_stockByShelves_6 ⟨Nat.le_of_ble_eq_true rfl, Nat.le_of_ble_eq_true rfl⟩) ?_
  refine lv_if_eq (tgt := 20) hx hb dX9_stockByShelves_9 (by decide) (fun c9 => ?_) (fun c9 => ?_)
  · have hf := it_t hf c9
    refine lv_aload_n hx hb dX9_stockByShelves_20 rfl (lv_at hl 0 rfl) ?_
    refine lv_iconst (v := (1 : Int32)) hx hb dX9_stockByShelves_21 (by decide) ?_
    obtain ⟨r22, hc22, hf⟩ := bi_s hf
    have hPc := hP
    have hDc := hD
    have hFc := va_free (wc := (wX9 cI cZ a (sr M 0 (upd (M 0) 0 (0 : Int32))))) hD hS hA [0, 1, 2, 3, 4, 5, 6, 7, 8] rfl
    refine va_calli (va_runV (As := [.int (1 : Int32)]) (rest := []) ⟨hx, hb, hml, hown, hts⟩ (c_X9_fails l dC dI cI cZ a H.size (sr M 0 (upd (M 0) 0 (0 : Int32))) (1 : Int32) r22 hc22) (cwV 1 hts gX9_stockByShelves_X9_fails rfl rfl rfl (by decide +kernel) ⟨Nat.le_of_ble_eq_true rfl, Nat.le_of_ble_eq_true rfl⟩) ⟨WR.blind, va_recv hK hP (ci := 9) (q0 := 0) rfl rfl, WR.pre hPc hK hDc hNW⟩ rfl rfl hl.1 rfl (lv_room (Nat.le_of_ble_eq_true rfl)) dX9_stockByShelves_22 ⟨Nat.le_of_ble_eq_true rfl, Nat.le_of_ble_eq_true rfl⟩) hS (fun q _ h => hFc q h) hFc (fun rv u t H1 locs ht hvm hw hB hz1 hk1 hS => ?_)
    obtain ⟨hP1, hD1⟩ := hB
    rw [ht] at hP1
    subst hw
    have hP := hP1
    have hD := hD1.weaken (fun k q _ h => hFc q.1 h)
    have hP : va_P (dC, dI) vwCl (wX9 cI cZ a (sr M 0 (r22.2 0))) H1 := hP
    have hD : va_D A (wX9 cI cZ a (sr M 0 (r22.2 0))) := hD
    generalize H1 = H at hP hS ⊢
    exact hfX9_stockByShelves_B25  (sr M 0 (r22.2 0)) r22.1 hf _ (lv_sub hl [] rfl) _ _ hP hD hS
  · have hf := it_f hf c9
    refine lv_aload_n hx hb dX9_stockByShelves_12 rfl (lv_at hl 0 rfl) ?_
    refine lv_iload_n hx hb dX9_stockByShelves_13 rfl (lv_at hl 1 rfl) ?_
    obtain ⟨r14, hc14, hf⟩ := bi_s hf
    have hPc := hP
    refine cRO (W.runV (As := [.int a1]) (rest := []) ⟨hx, hb, hml, hown, hts⟩ (c_X9_stock l dC dI cI cZ a (sr M 0 (upd (M 0) 0 (0 : Int32))) a1 r14 hc14) (cwV 1 hts gX9_stockByShelves_X9_stock rfl rfl rfl (by decide +kernel) ⟨Nat.le_of_ble_eq_true rfl, Nat.le_of_ble_eq_true rfl⟩) ⟨RO.blind, va_recv hK hP (ci := 9) (q0 := 0) rfl rfl, RO.pre hPc hK hNW⟩ rfl rfl hl.1 rfl (lv_room (Nat.le_of_ble_eq_true rfl)) dX9_stockByShelves_14 ⟨Nat.le_of_ble_eq_true rfl, Nat.le_of_ble_eq_true rfl⟩) ?_
    refine lv_goto (tgt := 25) hx hb dX9_stockByShelves_17 (by decide) ?_
    exact hfX9_stockByShelves_B25  (sr M 0 (upd (M 0) 0 (0 : Int32))) r14 hf _ (lv_sub hl [] rfl) _ _ hP hD hS
set_option maxHeartbeats 4000000 in
set_option maxRecDepth 100000 in
theorem c_X9_stockByAccount (l : Launch) (dC : Nat → ClassId) (dI : Nat → Nat → Nat) (cI cZ : ClassId) (a : Nat → Nat) (sz : Nat) (M : Mem) (a1 : Int32) (z : Int32 × Mem) (hf : fX9_stockByAccount M a1 = some z) : Met l yX9_stockByAccount wsX9_stockByAccount ({ frames := 2, cells := 0, slots := 0, locals := 42 } : Room) (va_Pc [.ref (a 0), .int a1] (WR (dC, dI) cI cZ (wX9 cI cZ a M) sz)) (va_Qi (S := Unit) (fun r _ => r = z.1) (fun _ t => WE (dC, dI) cI cZ (wX9 cI cZ a (sr M 0 (z.2 0))) (va_A (wX9 cI cZ a M) sz) t) (va_A (wX9 cI cZ a M) sz)) 0 0 (va_A (wX9 cI cZ a M) sz) := by
  refine Met.ofW (cc := cX9_stockByAccount) (maxL := 2) (ret := (some .int)) (by decide) rfl ?_
  intro p e s m args below meth c s₁ B hml hv
  obtain ⟨rfl, hsz, hP, hK, hD0, hNW⟩ := hv
  have hx := B.exec
  have hb := B.bytes
  have hr := B.returns
  have hts := atoms_spec (ws := wsX9_stockByAccount) B.pre
  have hown : s.vm.findClass RX9 = some m.cls := findClass_of_methodNamed B.named
  have hlocks := B.notSynchronized
  have hinX9 : ∀ w ∈ u_ws RX9 TX9 13, w ∈ wsX9_stockByAccount := by decide +kernel
  have hw1 := hts (.fieldLink RX9 35 "GlideShelvesModel" "thrown" "I") (by decide +kernel)
  have hw2 := hts (.fieldLink RX9 7 "GlideShelvesModel" "s" "[I") (by decide +kernel)
  subst hsz
  have hD := hD0.self (sz := s.heap.size)
  generalize hAe : va_A (wX9 cI cZ a M) s.heap.size = A at hD ⊢
  have hA : ∀ q : Nat, s.heap.size ≤ q → A q := fun q h => by rw [← hAe]; exact Or.inr h
  have hS : va_S A s.heap s.heap [] := va_S.rf
  have hfX9_stockByAccount_B30 : ∀ (N : Mem) (s0 : Int32), fX9_stockByAccount_B30 M  N s0 = some z → ∀ (ls : Array Slot), lv_has ls 2 [] → ∀ (H : Heap) (locs : List Loc), va_P (dC, dI) vwCl (wX9 cI cZ a (sr M 0 (N 0))) H → va_D A (wX9 cI cZ a (sr M 0 (N 0))) → va_S A s.heap H locs → W p l e (headSpec wsX9_stockByAccount ({ frames := 2, cells := 0, slots := 0, locals := 42 } : Room)).room s m ([.ref (a 0), .int a1] : List Value).toArray below meth c H locs 0 0 (MQ below (va_Qi (S := Unit) (fun r _ => r = z.1) (fun _ t => WE (dC, dI) cI cZ (wX9 cI cZ a (sr M 0 (z.2 0))) A t) A) ([.ref (a 0), .int a1] : List Value).toArray s 0 0 A) (F0 m 30 ls [.int s0]) := by
    intro  N s0 hf ls hl H locs hP hD hS
    unfold fX9_stockByAccount_B30 at hf
    have e9 := so_e hf
    subst e9
    exact W.iret (v := s0) hx hb hr (fun t ht hW => ⟨⟨s0, (), rfl, rfl, WE.mk hP hD ht⟩, hS.F ht⟩) hS.2.2 dX9_stockByAccount_30
  have hl := lv_entry ([.ref (a 0), .int a1]) (n := 2) (Nat.le_of_ble_eq_true rfl)
  rw [lg_entry_eq]
  generalize (lg_sl ([.ref (a 0), .int a1]) ++ List.replicate (2 - (lg_sl ([.ref (a 0), .int a1])).length) Slot.unset).toArray = ls at hl ⊢
  have hl : lv_has ls 2 [(0, .ref (a 0)), (1, .int a1)] := hl
  unfold fX9_stockByAccount at hf
  suffices hgo : ∀ (H : Heap) (locs : List Loc), va_P (dC, dI) vwCl (wX9 cI cZ a M) H → va_D A (wX9 cI cZ a M) → va_S A s.heap H locs → W p l e (headSpec wsX9_stockByAccount ({ frames := 2, cells := 0, slots := 0, locals := 42 } : Room)).room s m ([.ref (a 0), .int a1] : List Value).toArray below meth c H locs 0 0 (MQ below (va_Qi (S := Unit) (fun r _ => r = z.1) (fun _ t => WE (dC, dI) cI cZ (wX9 cI cZ a (sr M 0 (z.2 0))) A t) A) ([.ref (a 0), .int a1] : List Value).toArray s 0 0 A) (F0 m 0 ls []) from hgo _ _ hP hD hS
  intro H locs hP hD hS
  refine lv_aload_n hx hb dX9_stockByAccount_0 rfl (lv_at hl 0 rfl) ?_
  refine lv_iconst (v := (0 : Int32)) hx hb dX9_stockByAccount_1 (by decide) ?_
  refine va_put (D := (dC, dI)) (ci := 9) (v := .int (0 : Int32)) (ty := .int) (C := RX9) (T := TX9) (N := 13) hx hb hts hinX9 tyX9 tyX9_ok nmX9 hown hK hP hD hS 0 rfl rfl 0 (by decide) hw1 (fun _ h9 => h9) rfl (by decide +kernel) rfl rfl (Nat.le_of_ble_eq_true rfl) dX9_stockByAccount_2 (fun H locs hP hD hS => ?_)
  have hP : va_P (dC, dI) vwCl (wX9 cI cZ a (sr M 0 (upd (M 0) 0 (0 : Int32)))) H := hP
  have hD : va_D A (wX9 cI cZ a (sr M 0 (upd (M 0) 0 (0 : Int32)))) := hD
  refine lv_iload_n hx hb dX9_stockByAccount_5 rfl (lv_at hl 1 rfl) ?_
  obtain ⟨r6, hc6, hf⟩ := bi_s hf
  refine cRO (W.runS (As := [.int a1]) (rest := []) ⟨hx, hb, hml, hown, hts⟩ (c_X9_isKind l a1 r6 hc6) (va_cwS 1 hts gX9_stockByAccount_X9_isKind rfl rfl rfl (by decide +kernel) ⟨Nat.le_of_ble_eq_true rfl, Nat.le_of_ble_eq_true rfl⟩) ⟨tr_blind, tr_pre⟩ rfl rfl hl.1 rfl (lv_room (Nat.le_of_ble_eq_true rfl)) dX9_stockByAccount_6 ⟨Nat.le_of_ble_eq_true rfl, Nat.le_of_ble_eq_true rfl⟩) ?_
  refine lv_if_eq (tgt := 25) hx hb dX9_stockByAccount_9 (by decide) (fun c9 => ?_) (fun c9 => ?_)
  · have hf := it_t hf c9
    refine lv_aload_n hx hb dX9_stockByAccount_25 rfl (lv_at hl 0 rfl) ?_
    refine lv_iconst (v := (1 : Int32)) hx hb dX9_stockByAccount_26 (by decide) ?_
    obtain ⟨r27, hc27, hf⟩ := bi_s hf
    have hPc := hP
    have hDc := hD
    have hFc := va_free (wc := (wX9 cI cZ a (sr M 0 (upd (M 0) 0 (0 : Int32))))) hD hS hA [0, 1, 2, 3, 4, 5, 6, 7, 8] rfl
    refine va_calli (va_runV (As := [.int (1 : Int32)]) (rest := []) ⟨hx, hb, hml, hown, hts⟩ (c_X9_fails l dC dI cI cZ a H.size (sr M 0 (upd (M 0) 0 (0 : Int32))) (1 : Int32) r27 hc27) (cwV 1 hts gX9_stockByAccount_X9_fails rfl rfl rfl (by decide +kernel) ⟨Nat.le_of_ble_eq_true rfl, Nat.le_of_ble_eq_true rfl⟩) ⟨WR.blind, va_recv hK hP (ci := 9) (q0 := 0) rfl rfl, WR.pre hPc hK hDc hNW⟩ rfl rfl hl.1 rfl (lv_room (Nat.le_of_ble_eq_true rfl)) dX9_stockByAccount_27 ⟨Nat.le_of_ble_eq_true rfl, Nat.le_of_ble_eq_true rfl⟩) hS (fun q _ h => hFc q h) hFc (fun rv u t H1 locs ht hvm hw hB hz1 hk1 hS => ?_)
    obtain ⟨hP1, hD1⟩ := hB
    rw [ht] at hP1
    subst hw
    have hP := hP1
    have hD := hD1.weaken (fun k q _ h => hFc q.1 h)
    have hP : va_P (dC, dI) vwCl (wX9 cI cZ a (sr M 0 (r27.2 0))) H1 := hP
    have hD : va_D A (wX9 cI cZ a (sr M 0 (r27.2 0))) := hD
    generalize H1 = H at hP hS ⊢
    exact hfX9_stockByAccount_B30  (sr M 0 (r27.2 0)) r27.1 hf _ (lv_sub hl [] rfl) _ _ hP hD hS
  · have hf := it_f hf c9
    refine lv_aload_n hx hb dX9_stockByAccount_12 rfl (lv_at hl 0 rfl) ?_
    refine va_get (D := (dC, dI)) (ci := 9) (v := .ref (a 1)) (C := RX9) (T := TX9) (N := 13) hx hb hts hinX9 hown hK hP 0 rfl rfl 1 (by decide) hw2 (fun _ h9 => h9) rfl dX9_stockByAccount_13 ?_
    refine lv_sipush (v := (197 : Int32)) hx hb dX9_stockByAccount_16 (by decide) ?_
    refine lv_iload_n hx hb dX9_stockByAccount_19 rfl (lv_at hl 1 rfl) ?_
    refine lv_iadd hx hb dX9_stockByAccount_20 ?_
    obtain ⟨hi, hf⟩ := gd_s hf
    refine va_iald (D := (dC, dI)) (f := (M 1)) hx hb hK hP 1 0 rfl rfl (inb_in hi) dX9_stockByAccount_21 ?_
    refine lv_goto (tgt := 30) hx hb dX9_stockByAccount_22 (by decide) ?_
    exact hfX9_stockByAccount_B30  (sr M 0 (upd (M 0) 0 (0 : Int32))) (M 1 ((197 : Int32) + a1).toNatClampNeg) hf _ (lv_sub hl [] rfl) _ _ hP hD hS
