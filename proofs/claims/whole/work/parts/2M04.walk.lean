set_option maxHeartbeats 4000000 in
set_option maxRecDepth 100000 in
theorem c_X9_takes (l : Launch) (dC : Nat → ClassId) (dI : Nat → Nat → Nat) (cI cZ : ClassId) (a : Nat → Nat) (sz : Nat) (M : Mem) (a1 : Int32) (a2 : Int32) (z : Int32 × Mem) (hf : fX9_takes M a1 a2 = some z) : Met l yX9_takes wsX9_takes ({ frames := 1, cells := 0, slots := 0, locals := 22 } : Room) (va_Pc [.ref (a 0), .int a1, .int a2] (WR (dC, dI) cI cZ (wX9 cI cZ a M) sz)) (va_Qi (S := Unit) (fun r _ => r = z.1) (fun _ t => WE (dC, dI) cI cZ (wX9 cI cZ a (sr M 0 (z.2 0))) (va_A (wX9 cI cZ a M) sz) t) (va_A (wX9 cI cZ a M) sz)) 0 0 (va_A (wX9 cI cZ a M) sz) := by
  refine Met.ofW (cc := cX9_takes) (maxL := 4) (ret := (some .int)) (by decide) rfl ?_
  intro p e s m args below meth c s₁ B hml hv
  obtain ⟨rfl, hsz, hP, hK, hD0, hNW⟩ := hv
  have hx := B.exec
  have hb := B.bytes
  have hr := B.returns
  have hts := atoms_spec (ws := wsX9_takes) B.pre
  have hown : s.vm.findClass RX9 = some m.cls := findClass_of_methodNamed B.named
  have hlocks := B.notSynchronized
  have hinX9 : ∀ w ∈ u_ws RX9 TX9 13, w ∈ wsX9_takes := by decide +kernel
  have hw1 := hts (.fieldLink RX9 193 "GlideShelvesModel" "isWell" "Z") (by decide +kernel)
  have hw2 := hts (.fieldLink RX9 190 "GlideShelvesModel" "at" "I") (by decide +kernel)
  subst hsz
  have hD := hD0.self (sz := s.heap.size)
  generalize hAe : va_A (wX9 cI cZ a M) s.heap.size = A at hD ⊢
  have hA : ∀ q : Nat, s.heap.size ≤ q → A q := fun q h => by rw [← hAe]; exact Or.inr h
  have hS : va_S A s.heap s.heap [] := va_S.rf
  have hfX9_takes_B53 : ∀ (N : Mem) (l3 : Int32) (s1 : Int32) (s2 : Int32), fX9_takes_B53 M  N l3 s1 s2 = some z → ∀ (ls : Array Slot), lv_has ls 4 [(3, .int l3)] → ∀ (H : Heap) (locs : List Loc), va_P (dC, dI) vwCl (wX9 cI cZ a (sr M 0 (N 0))) H → va_D A (wX9 cI cZ a (sr M 0 (N 0))) → va_S A s.heap H locs → W p l e (headSpec wsX9_takes ({ frames := 1, cells := 0, slots := 0, locals := 22 } : Room)).room s m ([.ref (a 0), .int a1, .int a2] : List Value).toArray below meth c H locs 0 0 (MQ below (va_Qi (S := Unit) (fun r _ => r = z.1) (fun _ t => WE (dC, dI) cI cZ (wX9 cI cZ a (sr M 0 (z.2 0))) A t) A) ([.ref (a 0), .int a1, .int a2] : List Value).toArray s 0 0 A) (F0 m 53 ls [.int s2, .int s1, .ref (a 0)]) := by
    intro  N l3 s1 s2 hf ls hl H locs hP hD hS
    unfold fX9_takes_B53 at hf
    refine lv_iadd hx hb dX9_takes_53 ?_
    refine va_put (D := (dC, dI)) (ci := 9) (v := .int (s1 + s2)) (ty := .int) (C := RX9) (T := TX9) (N := 13) hx hb hts hinX9 tyX9 tyX9_ok nmX9 hown hK hP hD hS 0 rfl rfl 9 (by decide) hw2 (fun _ h9 => h9) rfl (by decide +kernel) rfl rfl (Nat.le_of_ble_eq_true rfl) dX9_takes_54 (fun H locs hP hD hS => ?_)
    have hP : va_P (dC, dI) vwCl (wX9 cI cZ a (sr M 0 (upd (N 0) 9 (s1 + s2)))) H := hP
    have hD : va_D A (wX9 cI cZ a (sr M 0 (upd (N 0) 9 (s1 + s2)))) := hD
    refine lv_iload_n hx hb dX9_takes_57 rfl (lv_at hl 0 rfl) ?_
    have e9 := so_e hf
    subst e9
    exact W.iret (v := l3) hx hb hr (fun t ht hW => ⟨⟨l3, (), rfl, rfl, WE.mk hP hD ht⟩, hS.F ht⟩) hS.2.2 dX9_takes_58
  have hfX9_takes_B25 : ∀ (N : Mem) (s1 : Int32), fX9_takes_B25 M  N s1 = some z → ∀ (ls : Array Slot), lv_has ls 4 [(0, .ref (a 0))] → ∀ (H : Heap) (locs : List Loc), va_P (dC, dI) vwCl (wX9 cI cZ a (sr M 0 (N 0))) H → va_D A (wX9 cI cZ a (sr M 0 (N 0))) → va_S A s.heap H locs → W p l e (headSpec wsX9_takes ({ frames := 1, cells := 0, slots := 0, locals := 22 } : Room)).room s m ([.ref (a 0), .int a1, .int a2] : List Value).toArray below meth c H locs 0 0 (MQ below (va_Qi (S := Unit) (fun r _ => r = z.1) (fun _ t => WE (dC, dI) cI cZ (wX9 cI cZ a (sr M 0 (z.2 0))) A t) A) ([.ref (a 0), .int a1, .int a2] : List Value).toArray s 0 0 A) (F0 m 25 ls [.int s1, .ref (a 0)]) := by
    intro  N s1 hf ls hl H locs hP hD hS
    unfold fX9_takes_B25 at hf
    obtain ⟨hz, hf⟩ := gd_s hf
    refine va_put (D := (dC, dI)) (ci := 9) (v := .int s1) (ty := .boolean) (C := RX9) (T := TX9) (N := 13) hx hb hts hinX9 tyX9 tyX9_ok nmX9 hown hK hP hD hS 0 rfl rfl 10 (by decide) hw1 (fun _ h9 => h9) rfl (by decide +kernel) (isb_nar hz) (isb_fit hz) (Nat.le_of_ble_eq_true rfl) dX9_takes_25 (fun H locs hP hD hS => ?_)
    have hP : va_P (dC, dI) vwCl (wX9 cI cZ a (sr M 0 (upd (N 0) 10 s1))) H := hP
    have hD : va_D A (wX9 cI cZ a (sr M 0 (upd (N 0) 10 s1))) := hD
    refine lv_aload_n hx hb dX9_takes_28 rfl (lv_at hl 0 rfl) ?_
    obtain ⟨r29, hc29, hf⟩ := bi_s hf
    have hPc := hP
    refine cRO (W.runV (As := []) (rest := []) ⟨hx, hb, hml, hown, hts⟩ (c_X9_sign l dC dI cI cZ a (sr M 0 (upd (N 0) 10 s1)) r29 hc29) (cwV 0 hts gX9_takes_X9_sign rfl rfl rfl (by decide +kernel) ⟨Nat.le_of_ble_eq_true rfl, Nat.le_of_ble_eq_true rfl⟩) ⟨RO.blind, va_recv hK hP (ci := 9) (q0 := 0) rfl rfl, RO.pre hPc hK hNW⟩ rfl rfl hl.1 rfl (lv_room (Nat.le_of_ble_eq_true rfl)) dX9_takes_29 ⟨Nat.le_of_ble_eq_true rfl, Nat.le_of_ble_eq_true rfl⟩) ?_
    refine lv_bipush (v := (48 : Int32)) hx hb dX9_takes_32 (by decide) ?_
    refine lv_isub hx hb dX9_takes_34 ?_
    refine lv_istore_n (lv' := [(3, .int (r29 - (48 : Int32))), (0, .ref (a 0))]) hx hb dX9_takes_35 rfl hl (by decide) rfl (fun ls hl => ?_)
    refine lv_aload_n hx hb dX9_takes_36 rfl (lv_at hl 1 rfl) ?_
    refine lv_dup hx hb dX9_takes_37 rfl ?_
    refine va_get (D := (dC, dI)) (ci := 9) (v := .int (N 0 9)) (C := RX9) (T := TX9) (N := 13) hx hb hts hinX9 hown hK hP 0 rfl rfl 9 (by decide) hw2 (fun _ h9 => h9) rfl dX9_takes_38 ?_
    refine lv_aload_n hx hb dX9_takes_41 rfl (lv_at hl 1 rfl) ?_
    refine va_get (D := (dC, dI)) (ci := 9) (v := .int s1) (C := RX9) (T := TX9) (N := 13) hx hb hts hinX9 hown hK hP 0 rfl rfl 10 (by decide) hw1 (fun _ h9 => h9) rfl dX9_takes_42 ?_
    refine lv_if_eq (tgt := 52) hx hb dX9_takes_45 (by decide) (fun c9 => ?_) (fun c9 => ?_)
    · have hf := it_t hf c9
      refine lv_iconst (v := (0 : Int32)) hx hb dX9_takes_52 (by decide) ?_
      exact hfX9_takes_B53  (sr M 0 (upd (N 0) 10 s1)) (r29 - (48 : Int32)) (N 0 9) (0 : Int32) hf _ (lv_sub hl [0] rfl) _ _ hP hD hS
    · have hf := it_f hf c9
      refine lv_iconst (v := (1 : Int32)) hx hb dX9_takes_48 (by decide) ?_
      refine lv_goto (tgt := 53) hx hb dX9_takes_49 (by decide) ?_
      exact hfX9_takes_B53  (sr M 0 (upd (N 0) 10 s1)) (r29 - (48 : Int32)) (N 0 9) (1 : Int32) hf _ (lv_sub hl [0] rfl) _ _ hP hD hS
  have hfX9_takes_B24 : ∀ (N : Mem), fX9_takes_B24 M  N = some z → ∀ (ls : Array Slot), lv_has ls 4 [(0, .ref (a 0))] → ∀ (H : Heap) (locs : List Loc), va_P (dC, dI) vwCl (wX9 cI cZ a (sr M 0 (N 0))) H → va_D A (wX9 cI cZ a (sr M 0 (N 0))) → va_S A s.heap H locs → W p l e (headSpec wsX9_takes ({ frames := 1, cells := 0, slots := 0, locals := 22 } : Room)).room s m ([.ref (a 0), .int a1, .int a2] : List Value).toArray below meth c H locs 0 0 (MQ below (va_Qi (S := Unit) (fun r _ => r = z.1) (fun _ t => WE (dC, dI) cI cZ (wX9 cI cZ a (sr M 0 (z.2 0))) A t) A) ([.ref (a 0), .int a1, .int a2] : List Value).toArray s 0 0 A) (F0 m 24 ls [.ref (a 0)]) := by
    intro  N hf ls hl H locs hP hD hS
    unfold fX9_takes_B24 at hf
    refine lv_iconst (v := (0 : Int32)) hx hb dX9_takes_24 (by decide) ?_
    exact hfX9_takes_B25  (sr M 0 (N 0)) (0 : Int32) hf _ (lv_sub hl [0] rfl) _ _ hP hD hS
  have hl := lv_entry ([.ref (a 0), .int a1, .int a2]) (n := 4) (Nat.le_of_ble_eq_true rfl)
  rw [lg_entry_eq]
  generalize (lg_sl ([.ref (a 0), .int a1, .int a2]) ++ List.replicate (4 - (lg_sl ([.ref (a 0), .int a1, .int a2])).length) Slot.unset).toArray = ls at hl ⊢
  have hl : lv_has ls 4 [(0, .ref (a 0)), (1, .int a1), (2, .int a2)] := hl
  unfold fX9_takes at hf
  suffices hgo : ∀ (H : Heap) (locs : List Loc), va_P (dC, dI) vwCl (wX9 cI cZ a M) H → va_D A (wX9 cI cZ a M) → va_S A s.heap H locs → W p l e (headSpec wsX9_takes ({ frames := 1, cells := 0, slots := 0, locals := 22 } : Room)).room s m ([.ref (a 0), .int a1, .int a2] : List Value).toArray below meth c H locs 0 0 (MQ below (va_Qi (S := Unit) (fun r _ => r = z.1) (fun _ t => WE (dC, dI) cI cZ (wX9 cI cZ a (sr M 0 (z.2 0))) A t) A) ([.ref (a 0), .int a1, .int a2] : List Value).toArray s 0 0 A) (F0 m 0 ls []) from hgo _ _ hP hD hS
  intro H locs hP hD hS
  refine lv_aload_n hx hb dX9_takes_0 rfl (lv_at hl 0 rfl) ?_
  refine lv_aload_n hx hb dX9_takes_1 rfl (lv_at hl 0 rfl) ?_
  refine va_get (D := (dC, dI)) (ci := 9) (v := .int (M 0 10)) (C := RX9) (T := TX9) (N := 13) hx hb hts hinX9 hown hK hP 0 rfl rfl 10 (by decide) hw1 (fun _ h9 => h9) rfl dX9_takes_2 ?_
  refine lv_if_eq (tgt := 24) hx hb dX9_takes_5 (by decide) (fun c9 => ?_) (fun c9 => ?_)
  · have hf := it_t hf c9
    exact hfX9_takes_B24  M hf _ (lv_sub hl [0] rfl) _ _ hP hD hS
  · have hf := it_f hf c9
    refine lv_aload_n hx hb dX9_takes_8 rfl (lv_at hl 0 rfl) ?_
    obtain ⟨r9, hc9, hf⟩ := bi_s hf
    have hPc := hP
    refine cRO (W.runV (As := []) (rest := [.ref (a 0)]) ⟨hx, hb, hml, hown, hts⟩ (c_X9_sign l dC dI cI cZ a M r9 hc9) (cwV 0 hts gX9_takes_X9_sign rfl rfl rfl (by decide +kernel) ⟨Nat.le_of_ble_eq_true rfl, Nat.le_of_ble_eq_true rfl⟩) ⟨RO.blind, va_recv hK hP (ci := 9) (q0 := 0) rfl rfl, RO.pre hPc hK hNW⟩ rfl rfl hl.1 rfl (lv_room (Nat.le_of_ble_eq_true rfl)) dX9_takes_9 ⟨Nat.le_of_ble_eq_true rfl, Nat.le_of_ble_eq_true rfl⟩) ?_
    refine lv_iload_n hx hb dX9_takes_12 rfl (lv_at hl 1 rfl) ?_
    refine lv_iload_n hx hb dX9_takes_13 rfl (lv_at hl 2 rfl) ?_
    obtain ⟨r14, hc14, hf⟩ := bi_s hf
    refine cRO (W.runS (As := [.int r9, .int a1, .int a2]) (rest := [.ref (a 0)]) ⟨hx, hb, hml, hown, hts⟩ (c_X9_in l r9 a1 a2 r14 hc14) (va_cwS 3 hts gX9_takes_X9_in rfl rfl rfl (by decide +kernel) ⟨Nat.le_of_ble_eq_true rfl, Nat.le_of_ble_eq_true rfl⟩) ⟨tr_blind, tr_pre⟩ rfl rfl hl.1 rfl (lv_room (Nat.le_of_ble_eq_true rfl)) dX9_takes_14 ⟨Nat.le_of_ble_eq_true rfl, Nat.le_of_ble_eq_true rfl⟩) ?_
    refine lv_if_eq (tgt := 24) hx hb dX9_takes_17 (by decide) (fun c9 => ?_) (fun c9 => ?_)
    · have hf := it_t hf c9
      exact hfX9_takes_B24  M hf _ (lv_sub hl [0] rfl) _ _ hP hD hS
    · have hf := it_f hf c9
      refine lv_iconst (v := (1 : Int32)) hx hb dX9_takes_20 (by decide) ?_
      refine lv_goto (tgt := 25) hx hb dX9_takes_21 (by decide) ?_
      exact hfX9_takes_B25  M (1 : Int32) hf _ (lv_sub hl [0] rfl) _ _ hP hD hS
set_option maxHeartbeats 4000000 in
set_option maxRecDepth 100000 in
theorem c_X9_readsPart (l : Launch) (dC : Nat → ClassId) (dI : Nat → Nat → Nat) (cI cZ : ClassId) (a : Nat → Nat) (sz : Nat) (M : Mem) (a1 : Int32) (z : Int32 × Mem) (hf : fX9_readsPart M a1 = some z) : Met l yX9_readsPart wsX9_readsPart ({ frames := 2, cells := 0, slots := 0, locals := 45 } : Room) (va_Pc [.ref (a 0), .int a1] (WR (dC, dI) cI cZ (wX9 cI cZ a M) sz)) (va_Qi (S := Unit) (fun r _ => r = z.1) (fun _ t => WE (dC, dI) cI cZ (wX9 cI cZ a (sr (sr M 0 (z.2 0)) 7 (z.2 7))) (va_A (wX9 cI cZ a M) sz) t) (va_A (wX9 cI cZ a M) sz)) 0 0 (va_A (wX9 cI cZ a M) sz) := by
  refine Met.ofW (cc := cX9_readsPart) (maxL := 4) (ret := (some .int)) (by decide) rfl ?_
  intro p e s m args below meth c s₁ B hml hv
  obtain ⟨rfl, hsz, hP, hK, hD0, hNW⟩ := hv
  have hx := B.exec
  have hb := B.bytes
  have hr := B.returns
  have hts := atoms_spec (ws := wsX9_readsPart) B.pre
  have hown : s.vm.findClass RX9 = some m.cls := findClass_of_methodNamed B.named
  have hlocks := B.notSynchronized
  have hinX9 : ∀ w ∈ u_ws RX9 TX9 13, w ∈ wsX9_readsPart := by decide +kernel
  have hw1 := hts (.fieldLink RX9 193 "GlideShelvesModel" "isWell" "Z") (by decide +kernel)
  have hw2 := hts (.fieldLink RX9 29 "GlideShelvesModel" "read" "[I") (by decide +kernel)
  have hw3 := hts (.fieldLink RX9 190 "GlideShelvesModel" "at" "I") (by decide +kernel)
  subst hsz
  have hD := hD0.self (sz := s.heap.size)
  generalize hAe : va_A (wX9 cI cZ a M) s.heap.size = A at hD ⊢
  have hA : ∀ q : Nat, s.heap.size ≤ q → A q := fun q h => by rw [← hAe]; exact Or.inr h
  have hS : va_S A s.heap s.heap [] := va_S.rf
  have hfX9_readsPart_B106 : ∀ (N : Mem) (l2 : Int32), fX9_readsPart_B106 M  N l2 = some z → ∀ (ls : Array Slot), lv_has ls 4 [(2, .int l2)] → ∀ (H : Heap) (locs : List Loc), va_P (dC, dI) vwCl (wX9 cI cZ a (sr (sr M 0 (N 0)) 7 (N 7))) H → va_D A (wX9 cI cZ a (sr (sr M 0 (N 0)) 7 (N 7))) → va_S A s.heap H locs → W p l e (headSpec wsX9_readsPart ({ frames := 2, cells := 0, slots := 0, locals := 45 } : Room)).room s m ([.ref (a 0), .int a1] : List Value).toArray below meth c H locs 0 0 (MQ below (va_Qi (S := Unit) (fun r _ => r = z.1) (fun _ t => WE (dC, dI) cI cZ (wX9 cI cZ a (sr (sr M 0 (z.2 0)) 7 (z.2 7))) A t) A) ([.ref (a 0), .int a1] : List Value).toArray s 0 0 A) (F0 m 106 ls []) := by
    intro  N l2 hf ls hl H locs hP hD hS
    unfold fX9_readsPart_B106 at hf
    refine lv_iload_n hx hb dX9_readsPart_106 rfl (lv_at hl 0 rfl) ?_
    have e9 := so_e hf
    subst e9
    exact W.iret (v := l2) hx hb hr (fun t ht hW => ⟨⟨l2, (), rfl, rfl, WE.mk hP hD ht⟩, hS.F ht⟩) hS.2.2 dX9_readsPart_107
  have hfX9_readsPart_B92 : ∀ (N : Mem) (l2 : Int32) (l3 : Int32), fX9_readsPart_B92 M  N l2 l3 = some z → ∀ (ls : Array Slot), lv_has ls 4 [(0, .ref (a 0)), (2, .int l2), (3, .int l3)] → ∀ (H : Heap) (locs : List Loc), va_P (dC, dI) vwCl (wX9 cI cZ a (sr (sr M 0 (N 0)) 7 (N 7))) H → va_D A (wX9 cI cZ a (sr (sr M 0 (N 0)) 7 (N 7))) → va_S A s.heap H locs → W p l e (headSpec wsX9_readsPart ({ frames := 2, cells := 0, slots := 0, locals := 45 } : Room)).room s m ([.ref (a 0), .int a1] : List Value).toArray below meth c H locs 0 0 (MQ below (va_Qi (S := Unit) (fun r _ => r = z.1) (fun _ t => WE (dC, dI) cI cZ (wX9 cI cZ a (sr (sr M 0 (z.2 0)) 7 (z.2 7))) A t) A) ([.ref (a 0), .int a1] : List Value).toArray s 0 0 A) (F0 m 92 ls []) := by
    intro  N l2 l3 hf ls hl H locs hP hD hS
    unfold fX9_readsPart_B92 at hf
    refine lv_aload_n hx hb dX9_readsPart_92 rfl (lv_at hl 0 rfl) ?_
    refine va_get (D := (dC, dI)) (ci := 9) (v := .int (N 0 10)) (C := RX9) (T := TX9) (N := 13) hx hb hts hinX9 hown hK hP 0 rfl rfl 10 (by decide) hw1 (fun _ h9 => h9) rfl dX9_readsPart_93 ?_
    refine lv_if_eq (tgt := 106) hx hb dX9_readsPart_96 (by decide) (fun c9 => ?_) (fun c9 => ?_)
    · have hf := it_t hf c9
      exact hfX9_readsPart_B106  (sr (sr M 0 (N 0)) 7 (N 7)) l2 hf _ (lv_sub hl [1] rfl) _ _ hP hD hS
    · have hf := it_f hf c9
      refine lv_aload_n hx hb dX9_readsPart_99 rfl (lv_at hl 0 rfl) ?_
      refine va_get (D := (dC, dI)) (ci := 9) (v := .ref (a 7)) (C := RX9) (T := TX9) (N := 13) hx hb hts hinX9 hown hK hP 0 rfl rfl 11 (by decide) hw2 (fun _ h9 => h9) rfl dX9_readsPart_100 ?_
      refine lv_iload_n hx hb dX9_readsPart_103 rfl (lv_at hl 1 rfl) ?_
      refine lv_iload_n hx hb dX9_readsPart_104 rfl (lv_at hl 2 rfl) ?_
      obtain ⟨hi, hf⟩ := gd_s hf
      refine va_iast (D := (dC, dI)) (f := (N 7)) hx hb hK hP hD hS 7 0 rfl rfl (inb_in hi) dX9_readsPart_105 (fun H locs hP hD hS => ?_)
      have hP : va_P (dC, dI) vwCl (wX9 cI cZ a (sr (sr M 0 (N 0)) 7 (upd (N 7) l2.toNatClampNeg l3))) H := hP
      have hD : va_D A (wX9 cI cZ a (sr (sr M 0 (N 0)) 7 (upd (N 7) l2.toNatClampNeg l3))) := hD
      exact hfX9_readsPart_B106  (sr (sr M 0 (N 0)) 7 (upd (N 7) l2.toNatClampNeg l3)) l2 hf _ (lv_sub hl [1] rfl) _ _ hP hD hS
  have hl := lv_entry ([.ref (a 0), .int a1]) (n := 4) (Nat.le_of_ble_eq_true rfl)
  rw [lg_entry_eq]
  generalize (lg_sl ([.ref (a 0), .int a1]) ++ List.replicate (4 - (lg_sl ([.ref (a 0), .int a1])).length) Slot.unset).toArray = ls at hl ⊢
  have hl : lv_has ls 4 [(0, .ref (a 0)), (1, .int a1)] := hl
  unfold fX9_readsPart at hf
  suffices hgo : ∀ (H : Heap) (locs : List Loc), va_P (dC, dI) vwCl (wX9 cI cZ a M) H → va_D A (wX9 cI cZ a M) → va_S A s.heap H locs → W p l e (headSpec wsX9_readsPart ({ frames := 2, cells := 0, slots := 0, locals := 45 } : Room)).room s m ([.ref (a 0), .int a1] : List Value).toArray below meth c H locs 0 0 (MQ below (va_Qi (S := Unit) (fun r _ => r = z.1) (fun _ t => WE (dC, dI) cI cZ (wX9 cI cZ a (sr (sr M 0 (z.2 0)) 7 (z.2 7))) A t) A) ([.ref (a 0), .int a1] : List Value).toArray s 0 0 A) (F0 m 0 ls []) from hgo _ _ hP hD hS
  intro H locs hP hD hS
  refine lv_aload_n hx hb dX9_readsPart_0 rfl (lv_at hl 0 rfl) ?_
  refine lv_bipush (v := (48 : Int32)) hx hb dX9_readsPart_1 (by decide) ?_
  refine lv_iload_n hx hb dX9_readsPart_3 rfl (lv_at hl 1 rfl) ?_
  refine lv_iadd hx hb dX9_readsPart_4 ?_
  refine lv_iconst (v := (1 : Int32)) hx hb dX9_readsPart_5 (by decide) ?_
  refine lv_iadd hx hb dX9_readsPart_6 ?_
  refine lv_bipush (v := (57 : Int32)) hx hb dX9_readsPart_7 (by decide) ?_
  obtain ⟨r9, hc9, hf⟩ := bi_s hf
  have hPc := hP
  have hDc := hD
  have hFc := va_free (wc := (wX9 cI cZ a M)) hD hS hA [0, 1, 2, 3, 4, 5, 6, 7, 8] rfl
  refine va_calli (va_runV (As := [.int (((48 : Int32) + a1) + (1 : Int32)), .int (57 : Int32)]) (rest := []) ⟨hx, hb, hml, hown, hts⟩ (c_X9_takes l dC dI cI cZ a H.size M (((48 : Int32) + a1) + (1 : Int32)) (57 : Int32) r9 hc9) (cwV 2 hts gX9_readsPart_X9_takes rfl rfl rfl (by decide +kernel) ⟨Nat.le_of_ble_eq_true rfl, Nat.le_of_ble_eq_true rfl⟩) ⟨WR.blind, va_recv hK hP (ci := 9) (q0 := 0) rfl rfl, WR.pre hPc hK hDc hNW⟩ rfl rfl hl.1 rfl (lv_room (Nat.le_of_ble_eq_true rfl)) dX9_readsPart_9 ⟨Nat.le_of_ble_eq_true rfl, Nat.le_of_ble_eq_true rfl⟩) hS (fun q _ h => hFc q h) hFc (fun rv u t H1 locs ht hvm hw hB hz1 hk1 hS => ?_)
  obtain ⟨hP1, hD1⟩ := hB
  rw [ht] at hP1
  subst hw
  have hP := hP1
  have hD := hD1.weaken (fun k q _ h => hFc q.1 h)
  have hP : va_P (dC, dI) vwCl (wX9 cI cZ a (sr M 0 (r9.2 0))) H1 := hP
  have hD : va_D A (wX9 cI cZ a (sr M 0 (r9.2 0))) := hD
  generalize H1 = H at hP hS ⊢
  refine lv_istore_n (lv' := [(2, .int r9.1), (0, .ref (a 0)), (1, .int a1)]) hx hb dX9_readsPart_12 rfl hl (by decide) rfl (fun ls hl => ?_)
  refine lv_aload_n hx hb dX9_readsPart_13 rfl (lv_at hl 1 rfl) ?_
  refine lv_bipush (v := (42 : Int32)) hx hb dX9_readsPart_14 (by decide) ?_
  refine lv_bipush (v := (42 : Int32)) hx hb dX9_readsPart_16 (by decide) ?_
  obtain ⟨r18, hc18, hf⟩ := bi_s hf
  have hPc := hP
  have hDc := hD
  have hFc := va_free (wc := (wX9 cI cZ a (sr M 0 (r9.2 0)))) hD hS hA [0, 1, 2, 3, 4, 5, 6, 7, 8] rfl
  refine va_calli (va_runV (As := [.int (42 : Int32), .int (42 : Int32)]) (rest := []) ⟨hx, hb, hml, hown, hts⟩ (c_X9_takes l dC dI cI cZ a H.size (sr M 0 (r9.2 0)) (42 : Int32) (42 : Int32) r18 hc18) (cwV 2 hts gX9_readsPart_X9_takes rfl rfl rfl (by decide +kernel) ⟨Nat.le_of_ble_eq_true rfl, Nat.le_of_ble_eq_true rfl⟩) ⟨WR.blind, va_recv hK hP (ci := 9) (q0 := 0) rfl rfl, WR.pre hPc hK hDc hNW⟩ rfl rfl hl.1 rfl (lv_room (Nat.le_of_ble_eq_true rfl)) dX9_readsPart_18 ⟨Nat.le_of_ble_eq_true rfl, Nat.le_of_ble_eq_true rfl⟩) hS (fun q _ h => hFc q h) hFc (fun rv u t H1 locs ht hvm hw hB hz1 hk1 hS => ?_)
  obtain ⟨hP1, hD1⟩ := hB
  rw [ht] at hP1
  subst hw
  have hP := hP1
  have hD := hD1.weaken (fun k q _ h => hFc q.1 h)
  have hP : va_P (dC, dI) vwCl (wX9 cI cZ a (sr M 0 (r18.2 0))) H1 := hP
  have hD : va_D A (wX9 cI cZ a (sr M 0 (r18.2 0))) := hD
  generalize H1 = H at hP hS ⊢
  refine lv_pop hx hb dX9_readsPart_21 rfl ?_
  refine lv_aload_n hx hb dX9_readsPart_22 rfl (lv_at hl 1 rfl) ?_
  refine lv_bipush (v := (49 : Int32)) hx hb dX9_readsPart_23 (by decide) ?_
  refine lv_bipush (v := (57 : Int32)) hx hb dX9_readsPart_25 (by decide) ?_
  obtain ⟨r27, hc27, hf⟩ := bi_s hf
  have hPc := hP
  have hDc := hD
  have hFc := va_free (wc := (wX9 cI cZ a (sr M 0 (r18.2 0)))) hD hS hA [0, 1, 2, 3, 4, 5, 6, 7, 8] rfl
  refine va_calli (va_runV (As := [.int (49 : Int32), .int (57 : Int32)]) (rest := []) ⟨hx, hb, hml, hown, hts⟩ (c_X9_takes l dC dI cI cZ a H.size (sr M 0 (r18.2 0)) (49 : Int32) (57 : Int32) r27 hc27) (cwV 2 hts gX9_readsPart_X9_takes rfl rfl rfl (by decide +kernel) ⟨Nat.le_of_ble_eq_true rfl, Nat.le_of_ble_eq_true rfl⟩) ⟨WR.blind, va_recv hK hP (ci := 9) (q0 := 0) rfl rfl, WR.pre hPc hK hDc hNW⟩ rfl rfl hl.1 rfl (lv_room (Nat.le_of_ble_eq_true rfl)) dX9_readsPart_27 ⟨Nat.le_of_ble_eq_true rfl, Nat.le_of_ble_eq_true rfl⟩) hS (fun q _ h => hFc q h) hFc (fun rv u t H1 locs ht hvm hw hB hz1 hk1 hS => ?_)
  obtain ⟨hP1, hD1⟩ := hB
  rw [ht] at hP1
  subst hw
  have hP := hP1
  have hD := hD1.weaken (fun k q _ h => hFc q.1 h)
  have hP : va_P (dC, dI) vwCl (wX9 cI cZ a (sr M 0 (r27.2 0))) H1 := hP
  have hD : va_D A (wX9 cI cZ a (sr M 0 (r27.2 0))) := hD
  generalize H1 = H at hP hS ⊢
  refine lv_istore_n (lv' := [(3, .int r27.1), (2, .int r9.1), (0, .ref (a 0)), (1, .int a1)]) hx hb dX9_readsPart_30 rfl hl (by decide) rfl (fun ls hl => ?_)
  refine lv_aload_n hx hb dX9_readsPart_31 rfl (lv_at hl 2 rfl) ?_
  refine va_get (D := (dC, dI)) (ci := 9) (v := .int ((r27.2 0) 10)) (C := RX9) (T := TX9) (N := 13) hx hb hts hinX9 hown hK hP 0 rfl rfl 10 (by decide) hw1 (fun _ h9 => h9) rfl dX9_readsPart_32 ?_
  refine lv_if_eq (tgt := 92) hx hb dX9_readsPart_35 (by decide) (fun c9 => ?_) (fun c9 => ?_)
  · have hf := it_t hf c9
    exact hfX9_readsPart_B92  (sr M 0 (r27.2 0)) r9.1 r27.1 hf _ (lv_sub hl [2, 1, 0] rfl) _ _ hP hD hS
  · have hf := it_f hf c9
    refine lv_aload_n hx hb dX9_readsPart_38 rfl (lv_at hl 2 rfl) ?_
    obtain ⟨r39, hc39, hf⟩ := bi_s hf
    have hPc := hP
    refine cRO (W.runV (As := []) (rest := []) ⟨hx, hb, hml, hown, hts⟩ (c_X9_sign l dC dI cI cZ a (sr M 0 (r27.2 0)) r39 hc39) (cwV 0 hts gX9_readsPart_X9_sign rfl rfl rfl (by decide +kernel) ⟨Nat.le_of_ble_eq_true rfl, Nat.le_of_ble_eq_true rfl⟩) ⟨RO.blind, va_recv hK hP (ci := 9) (q0 := 0) rfl rfl, RO.pre hPc hK hNW⟩ rfl rfl hl.1 rfl (lv_room (Nat.le_of_ble_eq_true rfl)) dX9_readsPart_39 ⟨Nat.le_of_ble_eq_true rfl, Nat.le_of_ble_eq_true rfl⟩) ?_
    refine lv_bipush (v := (48 : Int32)) hx hb dX9_readsPart_42 (by decide) ?_
    refine lv_bipush (v := (57 : Int32)) hx hb dX9_readsPart_44 (by decide) ?_
    obtain ⟨r46, hc46, hf⟩ := bi_s hf
    refine cRO (W.runS (As := [.int r39, .int (48 : Int32), .int (57 : Int32)]) (rest := []) ⟨hx, hb, hml, hown, hts⟩ (c_X9_in l r39 (48 : Int32) (57 : Int32) r46 hc46) (va_cwS 3 hts gX9_readsPart_X9_in rfl rfl rfl (by decide +kernel) ⟨Nat.le_of_ble_eq_true rfl, Nat.le_of_ble_eq_true rfl⟩) ⟨tr_blind, tr_pre⟩ rfl rfl hl.1 rfl (lv_room (Nat.le_of_ble_eq_true rfl)) dX9_readsPart_46 ⟨Nat.le_of_ble_eq_true rfl, Nat.le_of_ble_eq_true rfl⟩) ?_
    refine lv_if_eq (tgt := 92) hx hb dX9_readsPart_49 (by decide) (fun c9 => ?_) (fun c9 => ?_)
    · have hf := it_t hf c9
      exact hfX9_readsPart_B92  (sr M 0 (r27.2 0)) r9.1 r27.1 hf _ (lv_sub hl [2, 1, 0] rfl) _ _ hP hD hS
    · have hf := it_f hf c9
      refine lv_bipush (v := (10 : Int32)) hx hb dX9_readsPart_52 (by decide) ?_
      refine lv_iload_n hx hb dX9_readsPart_54 rfl (lv_at hl 0 rfl) ?_
      refine lv_imul hx hb dX9_readsPart_55 ?_
      refine lv_aload_n hx hb dX9_readsPart_56 rfl (lv_at hl 2 rfl) ?_
      obtain ⟨r57, hc57, hf⟩ := bi_s hf
      have hPc := hP
      refine cRO (W.runV (As := []) (rest := [.int ((10 : Int32) * r27.1)]) ⟨hx, hb, hml, hown, hts⟩ (c_X9_sign l dC dI cI cZ a (sr M 0 (r27.2 0)) r57 hc57) (cwV 0 hts gX9_readsPart_X9_sign rfl rfl rfl (by decide +kernel) ⟨Nat.le_of_ble_eq_true rfl, Nat.le_of_ble_eq_true rfl⟩) ⟨RO.blind, va_recv hK hP (ci := 9) (q0 := 0) rfl rfl, RO.pre hPc hK hNW⟩ rfl rfl hl.1 rfl (lv_room (Nat.le_of_ble_eq_true rfl)) dX9_readsPart_57 ⟨Nat.le_of_ble_eq_true rfl, Nat.le_of_ble_eq_true rfl⟩) ?_
      refine lv_iadd hx hb dX9_readsPart_60 ?_
      refine lv_bipush (v := (48 : Int32)) hx hb dX9_readsPart_61 (by decide) ?_
      refine lv_isub hx hb dX9_readsPart_63 ?_
      refine lv_bipush (v := (20 : Int32)) hx hb dX9_readsPart_64 (by decide) ?_
      refine lv_icmp_gt (tgt := 92) hx hb dX9_readsPart_66 (by decide) (fun c9 => ?_) (fun c9 => ?_)
      · have hf := it_t hf c9
        exact hfX9_readsPart_B92  (sr M 0 (r27.2 0)) r9.1 r27.1 hf _ (lv_sub hl [2, 1, 0] rfl) _ _ hP hD hS
      · have hf := it_f hf c9
        refine lv_bipush (v := (10 : Int32)) hx hb dX9_readsPart_69 (by decide) ?_
        refine lv_iload_n hx hb dX9_readsPart_71 rfl (lv_at hl 0 rfl) ?_
        refine lv_imul hx hb dX9_readsPart_72 ?_
        refine lv_aload_n hx hb dX9_readsPart_73 rfl (lv_at hl 2 rfl) ?_
        obtain ⟨r74, hc74, hf⟩ := bi_s hf
        have hPc := hP
        refine cRO (W.runV (As := []) (rest := [.int ((10 : Int32) * r27.1)]) ⟨hx, hb, hml, hown, hts⟩ (c_X9_sign l dC dI cI cZ a (sr M 0 (r27.2 0)) r74 hc74) (cwV 0 hts gX9_readsPart_X9_sign rfl rfl rfl (by decide +kernel) ⟨Nat.le_of_ble_eq_true rfl, Nat.le_of_ble_eq_true rfl⟩) ⟨RO.blind, va_recv hK hP (ci := 9) (q0 := 0) rfl rfl, RO.pre hPc hK hNW⟩ rfl rfl hl.1 rfl (lv_room (Nat.le_of_ble_eq_true rfl)) dX9_readsPart_74 ⟨Nat.le_of_ble_eq_true rfl, Nat.le_of_ble_eq_true rfl⟩) ?_
        refine lv_iadd hx hb dX9_readsPart_77 ?_
        refine lv_bipush (v := (48 : Int32)) hx hb dX9_readsPart_78 (by decide) ?_
        refine lv_isub hx hb dX9_readsPart_80 ?_
        refine lv_istore_n (lv' := [(3, .int ((((10 : Int32) * r27.1) + r74) - (48 : Int32))), (2, .int r9.1), (0, .ref (a 0)), (1, .int a1)]) hx hb dX9_readsPart_81 rfl hl (by decide) rfl (fun ls hl => ?_)
        refine lv_aload_n hx hb dX9_readsPart_82 rfl (lv_at hl 2 rfl) ?_
        refine lv_dup hx hb dX9_readsPart_83 rfl ?_
        refine va_get (D := (dC, dI)) (ci := 9) (v := .int ((r27.2 0) 9)) (C := RX9) (T := TX9) (N := 13) hx hb hts hinX9 hown hK hP 0 rfl rfl 9 (by decide) hw3 (fun _ h9 => h9) rfl dX9_readsPart_84 ?_
        refine lv_iconst (v := (1 : Int32)) hx hb dX9_readsPart_87 (by decide) ?_
        refine lv_iadd hx hb dX9_readsPart_88 ?_
        refine va_put (D := (dC, dI)) (ci := 9) (v := .int (((r27.2 0) 9) + (1 : Int32))) (ty := .int) (C := RX9) (T := TX9) (N := 13) hx hb hts hinX9 tyX9 tyX9_ok nmX9 hown hK hP hD hS 0 rfl rfl 9 (by decide) hw3 (fun _ h9 => h9) rfl (by decide +kernel) rfl rfl (Nat.le_of_ble_eq_true rfl) dX9_readsPart_89 (fun H locs hP hD hS => ?_)
        have hP : va_P (dC, dI) vwCl (wX9 cI cZ a (sr M 0 (upd (r27.2 0) 9 (((r27.2 0) 9) + (1 : Int32))))) H := hP
        have hD : va_D A (wX9 cI cZ a (sr M 0 (upd (r27.2 0) 9 (((r27.2 0) 9) + (1 : Int32))))) := hD
        exact hfX9_readsPart_B92  (sr M 0 (upd (r27.2 0) 9 (((r27.2 0) 9) + (1 : Int32)))) r9.1 ((((10 : Int32) * r27.1) + r74) - (48 : Int32)) hf _ (lv_sub hl [2, 1, 0] rfl) _ _ hP hD hS
set_option maxHeartbeats 4000000 in
set_option maxRecDepth 100000 in
theorem c_X9_readsOrder (l : Launch) (dC : Nat → ClassId) (dI : Nat → Nat → Nat) (cI cZ : ClassId) (a : Nat → Nat) (sz : Nat) (M : Mem) (z : Int32 × Mem) (hf : fX9_readsOrder M  = some z) : Met l yX9_readsOrder wsX9_readsOrder ({ frames := 3, cells := 0, slots := 0, locals := 68 } : Room) (va_Pc [.ref (a 0)] (WR (dC, dI) cI cZ (wX9 cI cZ a M) sz)) (va_Qi (S := Unit) (fun r _ => r = z.1) (fun _ t => WE (dC, dI) cI cZ (wX9 cI cZ a (sr (sr M 0 (z.2 0)) 7 (z.2 7))) (va_A (wX9 cI cZ a M) sz) t) (va_A (wX9 cI cZ a M) sz)) 0 0 (va_A (wX9 cI cZ a M) sz) := by
  refine Met.ofW (cc := cX9_readsOrder) (maxL := 2) (ret := (some .boolean)) (by decide) rfl ?_
  intro p e s m args below meth c s₁ B hml hv
  obtain ⟨rfl, hsz, hP, hK, hD0, hNW⟩ := hv
  have hx := B.exec
  have hb := B.bytes
  have hr := B.returns
  have hts := atoms_spec (ws := wsX9_readsOrder) B.pre
  have hown : s.vm.findClass RX9 = some m.cls := findClass_of_methodNamed B.named
  have hlocks := B.notSynchronized
  have hinX9 : ∀ w ∈ u_ws RX9 TX9 13, w ∈ wsX9_readsOrder := by decide +kernel
  have hw1 := hts (.fieldLink RX9 190 "GlideShelvesModel" "at" "I") (by decide +kernel)
  have hw2 := hts (.fieldLink RX9 193 "GlideShelvesModel" "isWell" "Z") (by decide +kernel)
  have hw3 := hts (.fieldLink RX9 29 "GlideShelvesModel" "read" "[I") (by decide +kernel)
  have hw4 := hts (.fieldLink RX9 172 "GlideShelvesModel" "length" "I") (by decide +kernel)
  subst hsz
  have hD := hD0.self (sz := s.heap.size)
  generalize hAe : va_A (wX9 cI cZ a M) s.heap.size = A at hD ⊢
  have hA : ∀ q : Nat, s.heap.size ≤ q → A q := fun q h => by rw [← hAe]; exact Or.inr h
  have hS : va_S A s.heap s.heap [] := va_S.rf
  have hfX9_readsOrder_L12 : ∀ (n : Nat) (kx31 : Mem → Option (Int32 × Mem)) (hkx31 : ∀ (N : Mem), kx31 N = some z → ∀ (ls : Array Slot), lv_has ls 2 [(0, .ref (a 0))] → ∀ (H : Heap) (locs : List Loc), va_P (dC, dI) vwCl (wX9 cI cZ a (sr (sr M 0 (N 0)) 7 (N 7))) H → va_D A (wX9 cI cZ a (sr (sr M 0 (N 0)) 7 (N 7))) → va_S A s.heap H locs → W p l e (headSpec wsX9_readsOrder ({ frames := 3, cells := 0, slots := 0, locals := 68 } : Room)).room s m ([.ref (a 0)] : List Value).toArray below meth c H locs 0 0 (MQ below (va_Qi (S := Unit) (fun r _ => r = z.1) (fun _ t => WE (dC, dI) cI cZ (wX9 cI cZ a (sr (sr M 0 (z.2 0)) 7 (z.2 7))) A t) A) ([.ref (a 0)] : List Value).toArray s 0 0 A) (F0 m 31 ls [])), ∀ (N : Mem) (l1 : Int32), fX9_readsOrder_L12 M n kx31 N l1 = some z → ∀ (ls : Array Slot), lv_has ls 2 [(0, .ref (a 0)), (1, .int l1)] → ∀ (H : Heap) (locs : List Loc), va_P (dC, dI) vwCl (wX9 cI cZ a (sr (sr M 0 (N 0)) 7 (N 7))) H → va_D A (wX9 cI cZ a (sr (sr M 0 (N 0)) 7 (N 7))) → va_S A s.heap H locs → W p l e (headSpec wsX9_readsOrder ({ frames := 3, cells := 0, slots := 0, locals := 68 } : Room)).room s m ([.ref (a 0)] : List Value).toArray below meth c H locs 0 0 (MQ below (va_Qi (S := Unit) (fun r _ => r = z.1) (fun _ t => WE (dC, dI) cI cZ (wX9 cI cZ a (sr (sr M 0 (z.2 0)) 7 (z.2 7))) A t) A) ([.ref (a 0)] : List Value).toArray s 0 0 A) (F0 m 12 ls []) := by
    intro n
    induction n with
    | zero =>
      intro kx31 hkx31 N l1 hf ls hl H locs hP hD hS
      rw [fX9_readsOrder_L12] at hf
      cases hf
    | succ n ih =>
      intro kx31 hkx31 N l1 hf ls hl H locs hP hD hS
      rw [fX9_readsOrder_L12] at hf
      refine lv_iload_n hx hb dX9_readsOrder_12 rfl (lv_at hl 1 rfl) ?_
      refine lv_bipush (v := (10 : Int32)) hx hb dX9_readsOrder_13 (by decide) ?_
      refine lv_icmp_ge (tgt := 31) hx hb dX9_readsOrder_15 (by decide) (fun c9 => ?_) (fun c9 => ?_)
      · have hf := it_t hf c9
        exact hkx31 (sr (sr M 0 (N 0)) 7 (N 7)) hf _ (lv_sub hl [0] rfl) _ _ hP hD hS
      · have hf := it_f hf c9
        refine lv_aload_n hx hb dX9_readsOrder_18 rfl (lv_at hl 0 rfl) ?_
        refine va_get (D := (dC, dI)) (ci := 9) (v := .ref (a 7)) (C := RX9) (T := TX9) (N := 13) hx hb hts hinX9 hown hK hP 0 rfl rfl 11 (by decide) hw3 (fun _ h9 => h9) rfl dX9_readsOrder_19 ?_
        refine lv_iload_n hx hb dX9_readsOrder_22 rfl (lv_at hl 1 rfl) ?_
        refine lv_iconst (v := (0 : Int32)) hx hb dX9_readsOrder_23 (by decide) ?_
        obtain ⟨hi, hf⟩ := gd_s hf
        refine va_iast (D := (dC, dI)) (f := (N 7)) hx hb hK hP hD hS 7 0 rfl rfl (inb_in hi) dX9_readsOrder_24 (fun H locs hP hD hS => ?_)
        have hP : va_P (dC, dI) vwCl (wX9 cI cZ a (sr (sr M 0 (N 0)) 7 (upd (N 7) l1.toNatClampNeg (0 : Int32)))) H := hP
        have hD : va_D A (wX9 cI cZ a (sr (sr M 0 (N 0)) 7 (upd (N 7) l1.toNatClampNeg (0 : Int32)))) := hD
        refine lv_iinc (v := (l1 + (1 : Int32))) (lv' := [(1, .int (l1 + (1 : Int32))), (0, .ref (a 0))]) hx hb dX9_readsOrder_25 hl (k := 1) rfl rfl (by decide) rfl (fun ls hl => ?_)
        refine lv_goto (tgt := 12) hx hb dX9_readsOrder_28 (by decide) ?_
        exact ih kx31 hkx31 (sr (sr M 0 (N 0)) 7 (upd (N 7) l1.toNatClampNeg (0 : Int32))) (l1 + (1 : Int32)) hf _ (lv_sub hl [1, 0] rfl) _ _ hP hD hS
  have hfX9_readsOrder_B96 : ∀ (kb : Mem → Int32 → Option (Int32 × Mem)) (hkb : ∀ (N : Mem) (l1 : Int32), kb N l1 = some z → ∀ (ls : Array Slot), lv_has ls 2 [(0, .ref (a 0)), (1, .int l1)] → ∀ (H : Heap) (locs : List Loc), va_P (dC, dI) vwCl (wX9 cI cZ a (sr (sr M 0 (N 0)) 7 (N 7))) H → va_D A (wX9 cI cZ a (sr (sr M 0 (N 0)) 7 (N 7))) → va_S A s.heap H locs → W p l e (headSpec wsX9_readsOrder ({ frames := 3, cells := 0, slots := 0, locals := 68 } : Room)).room s m ([.ref (a 0)] : List Value).toArray below meth c H locs 0 0 (MQ below (va_Qi (S := Unit) (fun r _ => r = z.1) (fun _ t => WE (dC, dI) cI cZ (wX9 cI cZ a (sr (sr M 0 (z.2 0)) 7 (z.2 7))) A t) A) ([.ref (a 0)] : List Value).toArray s 0 0 A) (F0 m 37 ls [])) (kx116 : Mem → Option (Int32 × Mem)) (hkx116 : ∀ (N : Mem), kx116 N = some z → ∀ (ls : Array Slot), lv_has ls 2 [(0, .ref (a 0))] → ∀ (H : Heap) (locs : List Loc), va_P (dC, dI) vwCl (wX9 cI cZ a (sr (sr M 0 (N 0)) 7 (N 7))) H → va_D A (wX9 cI cZ a (sr (sr M 0 (N 0)) 7 (N 7))) → va_S A s.heap H locs → W p l e (headSpec wsX9_readsOrder ({ frames := 3, cells := 0, slots := 0, locals := 68 } : Room)).room s m ([.ref (a 0)] : List Value).toArray below meth c H locs 0 0 (MQ below (va_Qi (S := Unit) (fun r _ => r = z.1) (fun _ t => WE (dC, dI) cI cZ (wX9 cI cZ a (sr (sr M 0 (z.2 0)) 7 (z.2 7))) A t) A) ([.ref (a 0)] : List Value).toArray s 0 0 A) (F0 m 116 ls [])), ∀ (N : Mem) (l1 : Int32) (s1 : Int32) (s2 : Int32), fX9_readsOrder_B96 M kb kx116 N l1 s1 s2 = some z → ∀ (ls : Array Slot), lv_has ls 2 [(0, .ref (a 0)), (1, .int l1)] → ∀ (H : Heap) (locs : List Loc), va_P (dC, dI) vwCl (wX9 cI cZ a (sr (sr M 0 (N 0)) 7 (N 7))) H → va_D A (wX9 cI cZ a (sr (sr M 0 (N 0)) 7 (N 7))) → va_S A s.heap H locs → W p l e (headSpec wsX9_readsOrder ({ frames := 3, cells := 0, slots := 0, locals := 68 } : Room)).room s m ([.ref (a 0)] : List Value).toArray below meth c H locs 0 0 (MQ below (va_Qi (S := Unit) (fun r _ => r = z.1) (fun _ t => WE (dC, dI) cI cZ (wX9 cI cZ a (sr (sr M 0 (z.2 0)) 7 (z.2 7))) A t) A) ([.ref (a 0)] : List Value).toArray s 0 0 A) (F0 m 96 ls [.int s2, .int s1, .ref (a 0)]) := by
    intro kb hkb kx116 hkx116 N l1 s1 s2 hf ls hl H locs hP hD hS
    unfold fX9_readsOrder_B96 at hf
    refine lv_iadd hx hb dX9_readsOrder_96 ?_
    refine va_put (D := (dC, dI)) (ci := 9) (v := .int (s1 + s2)) (ty := .int) (C := RX9) (T := TX9) (N := 13) hx hb hts hinX9 tyX9 tyX9_ok nmX9 hown hK hP hD hS 0 rfl rfl 9 (by decide) hw1 (fun _ h9 => h9) rfl (by decide +kernel) rfl rfl (Nat.le_of_ble_eq_true rfl) dX9_readsOrder_97 (fun H locs hP hD hS => ?_)
    have hP : va_P (dC, dI) vwCl (wX9 cI cZ a (sr (sr M 0 (upd (N 0) 9 (s1 + s2))) 7 (N 7))) H := hP
    have hD : va_D A (wX9 cI cZ a (sr (sr M 0 (upd (N 0) 9 (s1 + s2))) 7 (N 7))) := hD
    refine lv_aload_n hx hb dX9_readsOrder_100 rfl (lv_at hl 0 rfl) ?_
    refine va_get (D := (dC, dI)) (ci := 9) (v := .int (N 0 10)) (C := RX9) (T := TX9) (N := 13) hx hb hts hinX9 hown hK hP 0 rfl rfl 10 (by decide) hw2 (fun _ h9 => h9) rfl dX9_readsOrder_101 ?_
    refine lv_if_eq (tgt := 37) hx hb dX9_readsOrder_104 (by decide) (fun c9 => ?_) (fun c9 => ?_)
    · have hf := it_t hf c9
      exact hkb (sr (sr M 0 (upd (N 0) 9 (s1 + s2))) 7 (N 7)) l1 hf _ (lv_sub hl [0, 1] rfl) _ _ hP hD hS
    · have hf := it_f hf c9
      refine lv_aload_n hx hb dX9_readsOrder_107 rfl (lv_at hl 0 rfl) ?_
      refine lv_iload_n hx hb dX9_readsOrder_108 rfl (lv_at hl 1 rfl) ?_
      obtain ⟨r109, hc109, hf⟩ := bi_s hf
      have hPc := hP
      have hDc := hD
      have hFc := va_free (wc := (wX9 cI cZ a (sr (sr M 0 (upd (N 0) 9 (s1 + s2))) 7 (N 7)))) hD hS hA [0, 1, 2, 3, 4, 5, 6, 7, 8] rfl
      refine va_calli (va_runV (As := [.int l1]) (rest := []) ⟨hx, hb, hml, hown, hts⟩ (c_X9_readsPart l dC dI cI cZ a H.size (sr (sr M 0 (upd (N 0) 9 (s1 + s2))) 7 (N 7)) l1 r109 hc109) (cwV 1 hts gX9_readsOrder_X9_readsPart rfl rfl rfl (by decide +kernel) ⟨Nat.le_of_ble_eq_true rfl, Nat.le_of_ble_eq_true rfl⟩) ⟨WR.blind, va_recv hK hP (ci := 9) (q0 := 0) rfl rfl, WR.pre hPc hK hDc hNW⟩ rfl rfl hl.1 rfl (lv_room (Nat.le_of_ble_eq_true rfl)) dX9_readsOrder_109 ⟨Nat.le_of_ble_eq_true rfl, Nat.le_of_ble_eq_true rfl⟩) hS (fun q _ h => hFc q h) hFc (fun rv u t H1 locs ht hvm hw hB hz1 hk1 hS => ?_)
      obtain ⟨hP1, hD1⟩ := hB
      rw [ht] at hP1
      subst hw
      have hP := hP1
      have hD := hD1.weaken (fun k q _ h => hFc q.1 h)
      have hP : va_P (dC, dI) vwCl (wX9 cI cZ a (sr (sr M 0 (r109.2 0)) 7 (r109.2 7))) H1 := hP
      have hD : va_D A (wX9 cI cZ a (sr (sr M 0 (r109.2 0)) 7 (r109.2 7))) := hD
      generalize H1 = H at hP hS ⊢
      refine lv_istore_n (lv' := [(1, .int r109.1), (0, .ref (a 0))]) hx hb dX9_readsOrder_112 rfl hl (by decide) rfl (fun ls hl => ?_)
      refine lv_goto (tgt := 37) hx hb dX9_readsOrder_113 (by decide) ?_
      exact hkb (sr (sr M 0 (r109.2 0)) 7 (r109.2 7)) r109.1 hf _ (lv_sub hl [1, 0] rfl) _ _ hP hD hS
  have hfX9_readsOrder_B76 : ∀ (kb : Mem → Int32 → Option (Int32 × Mem)) (hkb : ∀ (N : Mem) (l1 : Int32), kb N l1 = some z → ∀ (ls : Array Slot), lv_has ls 2 [(0, .ref (a 0)), (1, .int l1)] → ∀ (H : Heap) (locs : List Loc), va_P (dC, dI) vwCl (wX9 cI cZ a (sr (sr M 0 (N 0)) 7 (N 7))) H → va_D A (wX9 cI cZ a (sr (sr M 0 (N 0)) 7 (N 7))) → va_S A s.heap H locs → W p l e (headSpec wsX9_readsOrder ({ frames := 3, cells := 0, slots := 0, locals := 68 } : Room)).room s m ([.ref (a 0)] : List Value).toArray below meth c H locs 0 0 (MQ below (va_Qi (S := Unit) (fun r _ => r = z.1) (fun _ t => WE (dC, dI) cI cZ (wX9 cI cZ a (sr (sr M 0 (z.2 0)) 7 (z.2 7))) A t) A) ([.ref (a 0)] : List Value).toArray s 0 0 A) (F0 m 37 ls [])) (kx116 : Mem → Option (Int32 × Mem)) (hkx116 : ∀ (N : Mem), kx116 N = some z → ∀ (ls : Array Slot), lv_has ls 2 [(0, .ref (a 0))] → ∀ (H : Heap) (locs : List Loc), va_P (dC, dI) vwCl (wX9 cI cZ a (sr (sr M 0 (N 0)) 7 (N 7))) H → va_D A (wX9 cI cZ a (sr (sr M 0 (N 0)) 7 (N 7))) → va_S A s.heap H locs → W p l e (headSpec wsX9_readsOrder ({ frames := 3, cells := 0, slots := 0, locals := 68 } : Room)).room s m ([.ref (a 0)] : List Value).toArray below meth c H locs 0 0 (MQ below (va_Qi (S := Unit) (fun r _ => r = z.1) (fun _ t => WE (dC, dI) cI cZ (wX9 cI cZ a (sr (sr M 0 (z.2 0)) 7 (z.2 7))) A t) A) ([.ref (a 0)] : List Value).toArray s 0 0 A) (F0 m 116 ls [])), ∀ (N : Mem) (l1 : Int32) (s1 : Int32), fX9_readsOrder_B76 M kb kx116 N l1 s1 = some z → ∀ (ls : Array Slot), lv_has ls 2 [(0, .ref (a 0)), (1, .int l1)] → ∀ (H : Heap) (locs : List Loc), va_P (dC, dI) vwCl (wX9 cI cZ a (sr (sr M 0 (N 0)) 7 (N 7))) H → va_D A (wX9 cI cZ a (sr (sr M 0 (N 0)) 7 (N 7))) → va_S A s.heap H locs → W p l e (headSpec wsX9_readsOrder ({ frames := 3, cells := 0, slots := 0, locals := 68 } : Room)).room s m ([.ref (a 0)] : List Value).toArray below meth c H locs 0 0 (MQ below (va_Qi (S := Unit) (fun r _ => r = z.1) (fun _ t => WE (dC, dI) cI cZ (wX9 cI cZ a (sr (sr M 0 (z.2 0)) 7 (z.2 7))) A t) A) ([.ref (a 0)] : List Value).toArray s 0 0 A) (F0 m 76 ls [.int s1, .ref (a 0)]) := by
    intro kb hkb kx116 hkx116 N l1 s1 hf ls hl H locs hP hD hS
    unfold fX9_readsOrder_B76 at hf
    obtain ⟨hz, hf⟩ := gd_s hf
    refine va_put (D := (dC, dI)) (ci := 9) (v := .int s1) (ty := .boolean) (C := RX9) (T := TX9) (N := 13) hx hb hts hinX9 tyX9 tyX9_ok nmX9 hown hK hP hD hS 0 rfl rfl 10 (by decide) hw2 (fun _ h9 => h9) rfl (by decide +kernel) (isb_nar hz) (isb_fit hz) (Nat.le_of_ble_eq_true rfl) dX9_readsOrder_76 (fun H locs hP hD hS => ?_)
    have hP : va_P (dC, dI) vwCl (wX9 cI cZ a (sr (sr M 0 (upd (N 0) 10 s1)) 7 (N 7))) H := hP
    have hD : va_D A (wX9 cI cZ a (sr (sr M 0 (upd (N 0) 10 s1)) 7 (N 7))) := hD
    refine lv_aload_n hx hb dX9_readsOrder_79 rfl (lv_at hl 0 rfl) ?_
    refine lv_dup hx hb dX9_readsOrder_80 rfl ?_
    refine va_get (D := (dC, dI)) (ci := 9) (v := .int (N 0 9)) (C := RX9) (T := TX9) (N := 13) hx hb hts hinX9 hown hK hP 0 rfl rfl 9 (by decide) hw1 (fun _ h9 => h9) rfl dX9_readsOrder_81 ?_
    refine lv_aload_n hx hb dX9_readsOrder_84 rfl (lv_at hl 0 rfl) ?_
    refine va_get (D := (dC, dI)) (ci := 9) (v := .int s1) (C := RX9) (T := TX9) (N := 13) hx hb hts hinX9 hown hK hP 0 rfl rfl 10 (by decide) hw2 (fun _ h9 => h9) rfl dX9_readsOrder_85 ?_
    refine lv_if_eq (tgt := 95) hx hb dX9_readsOrder_88 (by decide) (fun c9 => ?_) (fun c9 => ?_)
    · have hf := it_t hf c9
      refine lv_iconst (v := (0 : Int32)) hx hb dX9_readsOrder_95 (by decide) ?_
      exact hfX9_readsOrder_B96 _ hkb _ hkx116 (sr (sr M 0 (upd (N 0) 10 s1)) 7 (N 7)) l1 (N 0 9) (0 : Int32) hf _ (lv_sub hl [0, 1] rfl) _ _ hP hD hS
    · have hf := it_f hf c9
      refine lv_iconst (v := (1 : Int32)) hx hb dX9_readsOrder_91 (by decide) ?_
      refine lv_goto (tgt := 96) hx hb dX9_readsOrder_92 (by decide) ?_
      exact hfX9_readsOrder_B96 _ hkb _ hkx116 (sr (sr M 0 (upd (N 0) 10 s1)) 7 (N 7)) l1 (N 0 9) (1 : Int32) hf _ (lv_sub hl [0, 1] rfl) _ _ hP hD hS
  have hfX9_readsOrder_B75 : ∀ (kb : Mem → Int32 → Option (Int32 × Mem)) (hkb : ∀ (N : Mem) (l1 : Int32), kb N l1 = some z → ∀ (ls : Array Slot), lv_has ls 2 [(0, .ref (a 0)), (1, .int l1)] → ∀ (H : Heap) (locs : List Loc), va_P (dC, dI) vwCl (wX9 cI cZ a (sr (sr M 0 (N 0)) 7 (N 7))) H → va_D A (wX9 cI cZ a (sr (sr M 0 (N 0)) 7 (N 7))) → va_S A s.heap H locs → W p l e (headSpec wsX9_readsOrder ({ frames := 3, cells := 0, slots := 0, locals := 68 } : Room)).room s m ([.ref (a 0)] : List Value).toArray below meth c H locs 0 0 (MQ below (va_Qi (S := Unit) (fun r _ => r = z.1) (fun _ t => WE (dC, dI) cI cZ (wX9 cI cZ a (sr (sr M 0 (z.2 0)) 7 (z.2 7))) A t) A) ([.ref (a 0)] : List Value).toArray s 0 0 A) (F0 m 37 ls [])) (kx116 : Mem → Option (Int32 × Mem)) (hkx116 : ∀ (N : Mem), kx116 N = some z → ∀ (ls : Array Slot), lv_has ls 2 [(0, .ref (a 0))] → ∀ (H : Heap) (locs : List Loc), va_P (dC, dI) vwCl (wX9 cI cZ a (sr (sr M 0 (N 0)) 7 (N 7))) H → va_D A (wX9 cI cZ a (sr (sr M 0 (N 0)) 7 (N 7))) → va_S A s.heap H locs → W p l e (headSpec wsX9_readsOrder ({ frames := 3, cells := 0, slots := 0, locals := 68 } : Room)).room s m ([.ref (a 0)] : List Value).toArray below meth c H locs 0 0 (MQ below (va_Qi (S := Unit) (fun r _ => r = z.1) (fun _ t => WE (dC, dI) cI cZ (wX9 cI cZ a (sr (sr M 0 (z.2 0)) 7 (z.2 7))) A t) A) ([.ref (a 0)] : List Value).toArray s 0 0 A) (F0 m 116 ls [])), ∀ (N : Mem) (l1 : Int32), fX9_readsOrder_B75 M kb kx116 N l1 = some z → ∀ (ls : Array Slot), lv_has ls 2 [(0, .ref (a 0)), (1, .int l1)] → ∀ (H : Heap) (locs : List Loc), va_P (dC, dI) vwCl (wX9 cI cZ a (sr (sr M 0 (N 0)) 7 (N 7))) H → va_D A (wX9 cI cZ a (sr (sr M 0 (N 0)) 7 (N 7))) → va_S A s.heap H locs → W p l e (headSpec wsX9_readsOrder ({ frames := 3, cells := 0, slots := 0, locals := 68 } : Room)).room s m ([.ref (a 0)] : List Value).toArray below meth c H locs 0 0 (MQ below (va_Qi (S := Unit) (fun r _ => r = z.1) (fun _ t => WE (dC, dI) cI cZ (wX9 cI cZ a (sr (sr M 0 (z.2 0)) 7 (z.2 7))) A t) A) ([.ref (a 0)] : List Value).toArray s 0 0 A) (F0 m 75 ls [.ref (a 0)]) := by
    intro kb hkb kx116 hkx116 N l1 hf ls hl H locs hP hD hS
    unfold fX9_readsOrder_B75 at hf
    refine lv_iconst (v := (0 : Int32)) hx hb dX9_readsOrder_75 (by decide) ?_
    exact hfX9_readsOrder_B76 _ hkb _ hkx116 (sr (sr M 0 (N 0)) 7 (N 7)) l1 (0 : Int32) hf _ (lv_sub hl [0, 1] rfl) _ _ hP hD hS
  have hfX9_readsOrder_L37 : ∀ (n : Nat) (kx116 : Mem → Option (Int32 × Mem)) (hkx116 : ∀ (N : Mem), kx116 N = some z → ∀ (ls : Array Slot), lv_has ls 2 [(0, .ref (a 0))] → ∀ (H : Heap) (locs : List Loc), va_P (dC, dI) vwCl (wX9 cI cZ a (sr (sr M 0 (N 0)) 7 (N 7))) H → va_D A (wX9 cI cZ a (sr (sr M 0 (N 0)) 7 (N 7))) → va_S A s.heap H locs → W p l e (headSpec wsX9_readsOrder ({ frames := 3, cells := 0, slots := 0, locals := 68 } : Room)).room s m ([.ref (a 0)] : List Value).toArray below meth c H locs 0 0 (MQ below (va_Qi (S := Unit) (fun r _ => r = z.1) (fun _ t => WE (dC, dI) cI cZ (wX9 cI cZ a (sr (sr M 0 (z.2 0)) 7 (z.2 7))) A t) A) ([.ref (a 0)] : List Value).toArray s 0 0 A) (F0 m 116 ls [])), ∀ (N : Mem) (l1 : Int32), fX9_readsOrder_L37 M n kx116 N l1 = some z → ∀ (ls : Array Slot), lv_has ls 2 [(0, .ref (a 0)), (1, .int l1)] → ∀ (H : Heap) (locs : List Loc), va_P (dC, dI) vwCl (wX9 cI cZ a (sr (sr M 0 (N 0)) 7 (N 7))) H → va_D A (wX9 cI cZ a (sr (sr M 0 (N 0)) 7 (N 7))) → va_S A s.heap H locs → W p l e (headSpec wsX9_readsOrder ({ frames := 3, cells := 0, slots := 0, locals := 68 } : Room)).room s m ([.ref (a 0)] : List Value).toArray below meth c H locs 0 0 (MQ below (va_Qi (S := Unit) (fun r _ => r = z.1) (fun _ t => WE (dC, dI) cI cZ (wX9 cI cZ a (sr (sr M 0 (z.2 0)) 7 (z.2 7))) A t) A) ([.ref (a 0)] : List Value).toArray s 0 0 A) (F0 m 37 ls []) := by
    intro n
    induction n with
    | zero =>
      intro kx116 hkx116 N l1 hf ls hl H locs hP hD hS
      rw [fX9_readsOrder_L37] at hf
      cases hf
    | succ n ih =>
      intro kx116 hkx116 N l1 hf ls hl H locs hP hD hS
      rw [fX9_readsOrder_L37] at hf
      refine lv_aload_n hx hb dX9_readsOrder_37 rfl (lv_at hl 0 rfl) ?_
      refine va_get (D := (dC, dI)) (ci := 9) (v := .int (N 0 10)) (C := RX9) (T := TX9) (N := 13) hx hb hts hinX9 hown hK hP 0 rfl rfl 10 (by decide) hw2 (fun _ h9 => h9) rfl dX9_readsOrder_38 ?_
      refine lv_if_eq (tgt := 116) hx hb dX9_readsOrder_41 (by decide) (fun c9 => ?_) (fun c9 => ?_)
      · have hf := it_t hf c9
        exact hkx116 (sr (sr M 0 (N 0)) 7 (N 7)) hf _ (lv_sub hl [0] rfl) _ _ hP hD hS
      · have hf := it_f hf c9
        refine lv_aload_n hx hb dX9_readsOrder_44 rfl (lv_at hl 0 rfl) ?_
        refine va_get (D := (dC, dI)) (ci := 9) (v := .int (N 0 9)) (C := RX9) (T := TX9) (N := 13) hx hb hts hinX9 hown hK hP 0 rfl rfl 9 (by decide) hw1 (fun _ h9 => h9) rfl dX9_readsOrder_45 ?_
        refine lv_aload_n hx hb dX9_readsOrder_48 rfl (lv_at hl 0 rfl) ?_
        refine va_get (D := (dC, dI)) (ci := 9) (v := .int (N 0 8)) (C := RX9) (T := TX9) (N := 13) hx hb hts hinX9 hown hK hP 0 rfl rfl 8 (by decide) hw4 (fun _ h9 => h9) rfl dX9_readsOrder_49 ?_
        refine lv_icmp_ge (tgt := 116) hx hb dX9_readsOrder_52 (by decide) (fun c9 => ?_) (fun c9 => ?_)
        · have hf := it_t hf c9
          exact hkx116 (sr (sr M 0 (N 0)) 7 (N 7)) hf _ (lv_sub hl [0] rfl) _ _ hP hD hS
        · have hf := it_f hf c9
          refine lv_aload_n hx hb dX9_readsOrder_55 rfl (lv_at hl 0 rfl) ?_
          refine lv_aload_n hx hb dX9_readsOrder_56 rfl (lv_at hl 0 rfl) ?_
          obtain ⟨r57, hc57, hf⟩ := bi_s hf
          have hPc := hP
          refine cRO (W.runV (As := []) (rest := [.ref (a 0)]) ⟨hx, hb, hml, hown, hts⟩ (c_X9_sign l dC dI cI cZ a (sr (sr M 0 (N 0)) 7 (N 7)) r57 hc57) (cwV 0 hts gX9_readsOrder_X9_sign rfl rfl rfl (by decide +kernel) ⟨Nat.le_of_ble_eq_true rfl, Nat.le_of_ble_eq_true rfl⟩) ⟨RO.blind, va_recv hK hP (ci := 9) (q0 := 0) rfl rfl, RO.pre hPc hK hNW⟩ rfl rfl hl.1 rfl (lv_room (Nat.le_of_ble_eq_true rfl)) dX9_readsOrder_57 ⟨Nat.le_of_ble_eq_true rfl, Nat.le_of_ble_eq_true rfl⟩) ?_
          refine lv_bipush (v := (44 : Int32)) hx hb dX9_readsOrder_60 (by decide) ?_
          refine lv_icmp_ne (tgt := 75) hx hb dX9_readsOrder_62 (by decide) (fun c9 => ?_) (fun c9 => ?_)
          · have hf := it_t hf c9
            exact hfX9_readsOrder_B75 _ (ih kx116 hkx116) _ hkx116 (sr (sr M 0 (N 0)) 7 (N 7)) l1 hf _ (lv_sub hl [0, 1] rfl) _ _ hP hD hS
          · have hf := it_n hf c9
            refine lv_iload_n hx hb dX9_readsOrder_65 rfl (lv_at hl 1 rfl) ?_
            refine lv_bipush (v := (9 : Int32)) hx hb dX9_readsOrder_66 (by decide) ?_
            refine lv_icmp_ge (tgt := 75) hx hb dX9_readsOrder_68 (by decide) (fun c9 => ?_) (fun c9 => ?_)
            · have hf := it_t hf c9
              exact hfX9_readsOrder_B75 _ (ih kx116 hkx116) _ hkx116 (sr (sr M 0 (N 0)) 7 (N 7)) l1 hf _ (lv_sub hl [0, 1] rfl) _ _ hP hD hS
            · have hf := it_f hf c9
              refine lv_iconst (v := (1 : Int32)) hx hb dX9_readsOrder_71 (by decide) ?_
              refine lv_goto (tgt := 76) hx hb dX9_readsOrder_72 (by decide) ?_
              exact hfX9_readsOrder_B76 _ (ih kx116 hkx116) _ hkx116 (sr (sr M 0 (N 0)) 7 (N 7)) l1 (1 : Int32) hf _ (lv_sub hl [0, 1] rfl) _ _ hP hD hS
  have hl := lv_entry ([.ref (a 0)]) (n := 2) (Nat.le_of_ble_eq_true rfl)
  rw [lg_entry_eq]
  generalize (lg_sl ([.ref (a 0)]) ++ List.replicate (2 - (lg_sl ([.ref (a 0)])).length) Slot.unset).toArray = ls at hl ⊢
  have hl : lv_has ls 2 [(0, .ref (a 0))] := hl
  unfold fX9_readsOrder at hf
  suffices hgo : ∀ (H : Heap) (locs : List Loc), va_P (dC, dI) vwCl (wX9 cI cZ a M) H → va_D A (wX9 cI cZ a M) → va_S A s.heap H locs → W p l e (headSpec wsX9_readsOrder ({ frames := 3, cells := 0, slots := 0, locals := 68 } : Room)).room s m ([.ref (a 0)] : List Value).toArray below meth c H locs 0 0 (MQ below (va_Qi (S := Unit) (fun r _ => r = z.1) (fun _ t => WE (dC, dI) cI cZ (wX9 cI cZ a (sr (sr M 0 (z.2 0)) 7 (z.2 7))) A t) A) ([.ref (a 0)] : List Value).toArray s 0 0 A) (F0 m 0 ls []) from hgo _ _ hP hD hS
  intro H locs hP hD hS
  refine lv_aload_n hx hb dX9_readsOrder_0 rfl (lv_at hl 0 rfl) ?_
  refine lv_iconst (v := (0 : Int32)) hx hb dX9_readsOrder_1 (by decide) ?_
  refine va_put (D := (dC, dI)) (ci := 9) (v := .int (0 : Int32)) (ty := .int) (C := RX9) (T := TX9) (N := 13) hx hb hts hinX9 tyX9 tyX9_ok nmX9 hown hK hP hD hS 0 rfl rfl 9 (by decide) hw1 (fun _ h9 => h9) rfl (by decide +kernel) rfl rfl (Nat.le_of_ble_eq_true rfl) dX9_readsOrder_2 (fun H locs hP hD hS => ?_)
  have hP : va_P (dC, dI) vwCl (wX9 cI cZ a (sr M 0 (upd (M 0) 9 (0 : Int32)))) H := hP
  have hD : va_D A (wX9 cI cZ a (sr M 0 (upd (M 0) 9 (0 : Int32)))) := hD
  refine lv_aload_n hx hb dX9_readsOrder_5 rfl (lv_at hl 0 rfl) ?_
  refine lv_iconst (v := (1 : Int32)) hx hb dX9_readsOrder_6 (by decide) ?_
  obtain ⟨hz, hf⟩ := gd_s hf
  refine va_put (D := (dC, dI)) (ci := 9) (v := .int (1 : Int32)) (ty := .boolean) (C := RX9) (T := TX9) (N := 13) hx hb hts hinX9 tyX9 tyX9_ok nmX9 hown hK hP hD hS 0 rfl rfl 10 (by decide) hw2 (fun _ h9 => h9) rfl (by decide +kernel) (isb_nar hz) (isb_fit hz) (Nat.le_of_ble_eq_true rfl) dX9_readsOrder_7 (fun H locs hP hD hS => ?_)
  have hP : va_P (dC, dI) vwCl (wX9 cI cZ a (sr M 0 (upd (upd (M 0) 9 (0 : Int32)) 10 (1 : Int32)))) H := hP
  have hD : va_D A (wX9 cI cZ a (sr M 0 (upd (upd (M 0) 9 (0 : Int32)) 10 (1 : Int32)))) := hD
  refine lv_iconst (v := (0 : Int32)) hx hb dX9_readsOrder_10 (by decide) ?_
  refine lv_istore_n (lv' := [(1, .int (0 : Int32)), (0, .ref (a 0))]) hx hb dX9_readsOrder_11 rfl hl (by decide) rfl (fun ls hl => ?_)
  refine hfX9_readsOrder_L12 5000 _ (fun N hf ls hl H locs hP hD hS => ?_) (sr M 0 (upd (upd (M 0) 9 (0 : Int32)) 10 (1 : Int32))) (0 : Int32) hf _ (lv_sub hl [1, 0] rfl) _ _ hP hD hS
  refine lv_aload_n hx hb dX9_readsOrder_31 rfl (lv_at hl 0 rfl) ?_
  refine lv_iconst (v := (-1 : Int32)) hx hb dX9_readsOrder_32 (by decide) ?_
  obtain ⟨r33, hc33, hf⟩ := bi_s hf
  have hPc := hP
  have hDc := hD
  have hFc := va_free (wc := (wX9 cI cZ a (sr (sr M 0 (N 0)) 7 (N 7)))) hD hS hA [0, 1, 2, 3, 4, 5, 6, 7, 8] rfl
  refine va_calli (va_runV (As := [.int (-1 : Int32)]) (rest := []) ⟨hx, hb, hml, hown, hts⟩ (c_X9_readsPart l dC dI cI cZ a H.size (sr (sr M 0 (N 0)) 7 (N 7)) (-1 : Int32) r33 hc33) (cwV 1 hts gX9_readsOrder_X9_readsPart rfl rfl rfl (by decide +kernel) ⟨Nat.le_of_ble_eq_true rfl, Nat.le_of_ble_eq_true rfl⟩) ⟨WR.blind, va_recv hK hP (ci := 9) (q0 := 0) rfl rfl, WR.pre hPc hK hDc hNW⟩ rfl rfl hl.1 rfl (lv_room (Nat.le_of_ble_eq_true rfl)) dX9_readsOrder_33 ⟨Nat.le_of_ble_eq_true rfl, Nat.le_of_ble_eq_true rfl⟩) hS (fun q _ h => hFc q h) hFc (fun rv u t H1 locs ht hvm hw hB hz1 hk1 hS => ?_)
  obtain ⟨hP1, hD1⟩ := hB
  rw [ht] at hP1
  subst hw
  have hP := hP1
  have hD := hD1.weaken (fun k q _ h => hFc q.1 h)
  have hP : va_P (dC, dI) vwCl (wX9 cI cZ a (sr (sr M 0 (r33.2 0)) 7 (r33.2 7))) H1 := hP
  have hD : va_D A (wX9 cI cZ a (sr (sr M 0 (r33.2 0)) 7 (r33.2 7))) := hD
  generalize H1 = H at hP hS ⊢
  refine lv_istore_n (lv' := [(1, .int r33.1), (0, .ref (a 0))]) hx hb dX9_readsOrder_36 rfl hl (by decide) rfl (fun ls hl => ?_)
  refine hfX9_readsOrder_L37 5000 _ (fun N hf ls hl H locs hP hD hS => ?_) (sr (sr M 0 (r33.2 0)) 7 (r33.2 7)) r33.1 hf _ (lv_sub hl [1, 0] rfl) _ _ hP hD hS
  refine lv_aload_n hx hb dX9_readsOrder_116 rfl (lv_at hl 0 rfl) ?_
  refine va_get (D := (dC, dI)) (ci := 9) (v := .int (N 0 10)) (C := RX9) (T := TX9) (N := 13) hx hb hts hinX9 hown hK hP 0 rfl rfl 10 (by decide) hw2 (fun _ h9 => h9) rfl dX9_readsOrder_117 ?_
  obtain ⟨hz, hf⟩ := gd_s hf
  have e9 := so_e hf
  subst e9
  exact W.zret (v := (N 0 10)) hx hb hr (isb_nar hz) (fun t ht hW => ⟨⟨(N 0 10), (), rfl, rfl, WE.mk hP hD ht⟩, hS.F ht⟩) hS.2.2 dX9_readsOrder_120
set_option maxHeartbeats 4000000 in
set_option maxRecDepth 100000 in
theorem c_X9_accept (l : Launch) (dC : Nat → ClassId) (dI : Nat → Nat → Nat) (cI cZ : ClassId) (a : Nat → Nat) (sz : Nat) (M : Mem) (z : Int32 × Mem) (hf : fX9_accept M  = some z) : Met l yX9_accept wsX9_accept ({ frames := 4, cells := 0, slots := 0, locals := 89 } : Room) (va_Pc [.ref (a 0)] (WR (dC, dI) cI cZ (wX9 cI cZ a M) sz)) (va_Qi (S := Unit) (fun r _ => r = z.1) (fun _ t => WE (dC, dI) cI cZ (wX9 cI cZ a (sr (sr (sr (sr M 0 (z.2 0)) 1 (z.2 1)) 3 (z.2 3)) 7 (z.2 7))) (va_A (wX9 cI cZ a M) sz) t) (va_A (wX9 cI cZ a M) sz)) 0 0 (va_A (wX9 cI cZ a M) sz) := by
  refine Met.ofW (cc := cX9_accept) (maxL := 3) (ret := (some .int)) (by decide) rfl ?_
  intro p e s m args below meth c s₁ B hml hv
  obtain ⟨rfl, hsz, hP, hK, hD0, hNW⟩ := hv
  have hx := B.exec
  have hb := B.bytes
  have hr := B.returns
  have hts := atoms_spec (ws := wsX9_accept) B.pre
  have hown : s.vm.findClass RX9 = some m.cls := findClass_of_methodNamed B.named
  have hlocks := B.notSynchronized
  have hinX9 : ∀ w ∈ u_ws RX9 TX9 13, w ∈ wsX9_accept := by decide +kernel
  have hw1 := hts (.fieldLink RX9 35 "GlideShelvesModel" "thrown" "I") (by decide +kernel)
  have hw2 := hts (.fieldLink RX9 7 "GlideShelvesModel" "s" "[I") (by decide +kernel)
  have hw3 := hts (.fieldLink RX9 29 "GlideShelvesModel" "read" "[I") (by decide +kernel)
  have hw4 := hts (.fieldLink RX9 172 "GlideShelvesModel" "length" "I") (by decide +kernel)
  subst hsz
  have hD := hD0.self (sz := s.heap.size)
  generalize hAe : va_A (wX9 cI cZ a M) s.heap.size = A at hD ⊢
  have hA : ∀ q : Nat, s.heap.size ≤ q → A q := fun q h => by rw [← hAe]; exact Or.inr h
  have hS : va_S A s.heap s.heap [] := va_S.rf
  have hfX9_accept_L61 : ∀ (n : Nat) (kx94 : Mem → Int32 → Option (Int32 × Mem)) (hkx94 : ∀ (N : Mem) (l1 : Int32), kx94 N l1 = some z → ∀ (ls : Array Slot), lv_has ls 3 [(0, .ref (a 0)), (1, .int l1)] → ∀ (H : Heap) (locs : List Loc), va_P (dC, dI) vwCl (wX9 cI cZ a (sr (sr (sr (sr M 0 (N 0)) 1 (N 1)) 3 (N 3)) 7 (N 7))) H → va_D A (wX9 cI cZ a (sr (sr (sr (sr M 0 (N 0)) 1 (N 1)) 3 (N 3)) 7 (N 7))) → va_S A s.heap H locs → W p l e (headSpec wsX9_accept ({ frames := 4, cells := 0, slots := 0, locals := 89 } : Room)).room s m ([.ref (a 0)] : List Value).toArray below meth c H locs 0 0 (MQ below (va_Qi (S := Unit) (fun r _ => r = z.1) (fun _ t => WE (dC, dI) cI cZ (wX9 cI cZ a (sr (sr (sr (sr M 0 (z.2 0)) 1 (z.2 1)) 3 (z.2 3)) 7 (z.2 7))) A t) A) ([.ref (a 0)] : List Value).toArray s 0 0 A) (F0 m 94 ls [])), ∀ (N : Mem) (l1 : Int32) (l2 : Int32), fX9_accept_L61 M n kx94 N l1 l2 = some z → ∀ (ls : Array Slot), lv_has ls 3 [(0, .ref (a 0)), (1, .int l1), (2, .int l2)] → ∀ (H : Heap) (locs : List Loc), va_P (dC, dI) vwCl (wX9 cI cZ a (sr (sr (sr (sr M 0 (N 0)) 1 (N 1)) 3 (N 3)) 7 (N 7))) H → va_D A (wX9 cI cZ a (sr (sr (sr (sr M 0 (N 0)) 1 (N 1)) 3 (N 3)) 7 (N 7))) → va_S A s.heap H locs → W p l e (headSpec wsX9_accept ({ frames := 4, cells := 0, slots := 0, locals := 89 } : Room)).room s m ([.ref (a 0)] : List Value).toArray below meth c H locs 0 0 (MQ below (va_Qi (S := Unit) (fun r _ => r = z.1) (fun _ t => WE (dC, dI) cI cZ (wX9 cI cZ a (sr (sr (sr (sr M 0 (z.2 0)) 1 (z.2 1)) 3 (z.2 3)) 7 (z.2 7))) A t) A) ([.ref (a 0)] : List Value).toArray s 0 0 A) (F0 m 61 ls []) := by
    intro n
    induction n with
    | zero =>
      intro kx94 hkx94 N l1 l2 hf ls hl H locs hP hD hS
      rw [fX9_accept_L61] at hf
      cases hf
    | succ n ih =>
      intro kx94 hkx94 N l1 l2 hf ls hl H locs hP hD hS
      rw [fX9_accept_L61] at hf
      refine lv_iload_n hx hb dX9_accept_61 rfl (lv_at hl 2 rfl) ?_
      refine lv_bipush (v := (10 : Int32)) hx hb dX9_accept_62 (by decide) ?_
      refine lv_icmp_ge (tgt := 94) hx hb dX9_accept_64 (by decide) (fun c9 => ?_) (fun c9 => ?_)
      · have hf := it_t hf c9
        exact hkx94 (sr (sr (sr (sr M 0 (N 0)) 1 (N 1)) 3 (N 3)) 7 (N 7)) l1 hf _ (lv_sub hl [0, 1] rfl) _ _ hP hD hS
      · have hf := it_f hf c9
        refine lv_aload_n hx hb dX9_accept_67 rfl (lv_at hl 0 rfl) ?_
        refine va_get (D := (dC, dI)) (ci := 9) (v := .ref (a 1)) (C := RX9) (T := TX9) (N := 13) hx hb hts hinX9 hown hK hP 0 rfl rfl 1 (by decide) hw2 (fun _ h9 => h9) rfl dX9_accept_68 ?_
        refine lv_sipush (v := (223 : Int32)) hx hb dX9_accept_71 (by decide) ?_
        refine lv_bipush (v := (10 : Int32)) hx hb dX9_accept_74 (by decide) ?_
        refine lv_iload_n hx hb dX9_accept_76 rfl (lv_at hl 1 rfl) ?_
        refine lv_imul hx hb dX9_accept_77 ?_
        refine lv_iadd hx hb dX9_accept_78 ?_
        refine lv_iload_n hx hb dX9_accept_79 rfl (lv_at hl 2 rfl) ?_
        refine lv_iadd hx hb dX9_accept_80 ?_
        refine lv_aload_n hx hb dX9_accept_81 rfl (lv_at hl 0 rfl) ?_
        refine va_get (D := (dC, dI)) (ci := 9) (v := .ref (a 7)) (C := RX9) (T := TX9) (N := 13) hx hb hts hinX9 hown hK hP 0 rfl rfl 11 (by decide) hw3 (fun _ h9 => h9) rfl dX9_accept_82 ?_
        refine lv_iload_n hx hb dX9_accept_85 rfl (lv_at hl 2 rfl) ?_
        obtain ⟨hi, hf⟩ := gd_s hf
        refine va_iald (D := (dC, dI)) (f := (N 7)) hx hb hK hP 7 0 rfl rfl (inb_in hi) dX9_accept_86 ?_
        obtain ⟨hi, hf⟩ := gd_s hf
        refine va_iast (D := (dC, dI)) (f := (N 1)) hx hb hK hP hD hS 1 0 rfl rfl (inb_in hi) dX9_accept_87 (fun H locs hP hD hS => ?_)
        have hP : va_P (dC, dI) vwCl (wX9 cI cZ a (sr (sr (sr (sr M 0 (N 0)) 1 (upd (N 1) (((223 : Int32) + ((10 : Int32) * l1)) + l2).toNatClampNeg (N 7 l2.toNatClampNeg))) 3 (N 3)) 7 (N 7))) H := hP
        have hD : va_D A (wX9 cI cZ a (sr (sr (sr (sr M 0 (N 0)) 1 (upd (N 1) (((223 : Int32) + ((10 : Int32) * l1)) + l2).toNatClampNeg (N 7 l2.toNatClampNeg))) 3 (N 3)) 7 (N 7))) := hD
        refine lv_iinc (v := (l2 + (1 : Int32))) (lv' := [(2, .int (l2 + (1 : Int32))), (0, .ref (a 0)), (1, .int l1)]) hx hb dX9_accept_88 hl (k := 2) rfl rfl (by decide) rfl (fun ls hl => ?_)
        refine lv_goto (tgt := 61) hx hb dX9_accept_91 (by decide) ?_
        exact ih kx94 hkx94 (sr (sr (sr (sr M 0 (N 0)) 1 (upd (N 1) (((223 : Int32) + ((10 : Int32) * l1)) + l2).toNatClampNeg (N 7 l2.toNatClampNeg))) 3 (N 3)) 7 (N 7)) l1 (l2 + (1 : Int32)) hf _ (lv_sub hl [1, 2, 0] rfl) _ _ hP hD hS
  have hl := lv_entry ([.ref (a 0)]) (n := 3) (Nat.le_of_ble_eq_true rfl)
  rw [lg_entry_eq]
  generalize (lg_sl ([.ref (a 0)]) ++ List.replicate (3 - (lg_sl ([.ref (a 0)])).length) Slot.unset).toArray = ls at hl ⊢
  have hl : lv_has ls 3 [(0, .ref (a 0))] := hl
  unfold fX9_accept at hf
  suffices hgo : ∀ (H : Heap) (locs : List Loc), va_P (dC, dI) vwCl (wX9 cI cZ a M) H → va_D A (wX9 cI cZ a M) → va_S A s.heap H locs → W p l e (headSpec wsX9_accept ({ frames := 4, cells := 0, slots := 0, locals := 89 } : Room)).room s m ([.ref (a 0)] : List Value).toArray below meth c H locs 0 0 (MQ below (va_Qi (S := Unit) (fun r _ => r = z.1) (fun _ t => WE (dC, dI) cI cZ (wX9 cI cZ a (sr (sr (sr (sr M 0 (z.2 0)) 1 (z.2 1)) 3 (z.2 3)) 7 (z.2 7))) A t) A) ([.ref (a 0)] : List Value).toArray s 0 0 A) (F0 m 0 ls []) from hgo _ _ hP hD hS
  intro H locs hP hD hS
  refine lv_aload_n hx hb dX9_accept_0 rfl (lv_at hl 0 rfl) ?_
  refine lv_iconst (v := (0 : Int32)) hx hb dX9_accept_1 (by decide) ?_
  refine va_put (D := (dC, dI)) (ci := 9) (v := .int (0 : Int32)) (ty := .int) (C := RX9) (T := TX9) (N := 13) hx hb hts hinX9 tyX9 tyX9_ok nmX9 hown hK hP hD hS 0 rfl rfl 0 (by decide) hw1 (fun _ h9 => h9) rfl (by decide +kernel) rfl rfl (Nat.le_of_ble_eq_true rfl) dX9_accept_2 (fun H locs hP hD hS => ?_)
  have hP : va_P (dC, dI) vwCl (wX9 cI cZ a (sr M 0 (upd (M 0) 0 (0 : Int32)))) H := hP
  have hD : va_D A (wX9 cI cZ a (sr M 0 (upd (M 0) 0 (0 : Int32)))) := hD
  refine lv_aload_n hx hb dX9_accept_5 rfl (lv_at hl 0 rfl) ?_
  obtain ⟨r6, hc6, hf⟩ := bi_s hf
  have hPc := hP
  have hDc := hD
  have hFc := va_free (wc := (wX9 cI cZ a (sr M 0 (upd (M 0) 0 (0 : Int32))))) hD hS hA [0, 1, 2, 3, 4, 5, 6, 7, 8] rfl
  refine va_calli (va_runV (As := []) (rest := []) ⟨hx, hb, hml, hown, hts⟩ (c_X9_readsOrder l dC dI cI cZ a H.size (sr M 0 (upd (M 0) 0 (0 : Int32))) r6 hc6) (cwV 0 hts gX9_accept_X9_readsOrder rfl rfl rfl (by decide +kernel) ⟨Nat.le_of_ble_eq_true rfl, Nat.le_of_ble_eq_true rfl⟩) ⟨WR.blind, va_recv hK hP (ci := 9) (q0 := 0) rfl rfl, WR.pre hPc hK hDc hNW⟩ rfl rfl hl.1 rfl (lv_room (Nat.le_of_ble_eq_true rfl)) dX9_accept_6 ⟨Nat.le_of_ble_eq_true rfl, Nat.le_of_ble_eq_true rfl⟩) hS (fun q _ h => hFc q h) hFc (fun rv u t H1 locs ht hvm hw hB hz1 hk1 hS => ?_)
  obtain ⟨hP1, hD1⟩ := hB
  rw [ht] at hP1
  subst hw
  have hP := hP1
  have hD := hD1.weaken (fun k q _ h => hFc q.1 h)
  have hP : va_P (dC, dI) vwCl (wX9 cI cZ a (sr (sr M 0 (r6.2 0)) 7 (r6.2 7))) H1 := hP
  have hD : va_D A (wX9 cI cZ a (sr (sr M 0 (r6.2 0)) 7 (r6.2 7))) := hD
  generalize H1 = H at hP hS ⊢
  refine lv_if_ne (tgt := 18) hx hb dX9_accept_9 (by decide) (fun c9 => ?_) (fun c9 => ?_)
  · have hf := it_t hf c9
    refine lv_aload_n hx hb dX9_accept_18 rfl (lv_at hl 0 rfl) ?_
    refine va_get (D := (dC, dI)) (ci := 9) (v := .ref (a 1)) (C := RX9) (T := TX9) (N := 13) hx hb hts hinX9 hown hK hP 0 rfl rfl 1 (by decide) hw2 (fun _ h9 => h9) rfl dX9_accept_19 ?_
    refine lv_bipush (v := (8 : Int32)) hx hb dX9_accept_22 (by decide) ?_
    obtain ⟨hi, hf⟩ := gd_s hf
    refine va_iald (D := (dC, dI)) (f := (M 1)) hx hb hK hP 1 0 rfl rfl (inb_in hi) dX9_accept_24 ?_
    refine lv_bipush (v := (8 : Int32)) hx hb dX9_accept_25 (by decide) ?_
    refine lv_icmp_ne (tgt := 36) hx hb dX9_accept_27 (by decide) (fun c9 => ?_) (fun c9 => ?_)
    · have hf := it_t hf c9
      refine lv_aload_n hx hb dX9_accept_36 rfl (lv_at hl 0 rfl) ?_
      obtain ⟨r37, hc37, hf⟩ := bi_s hf
      have hPc := hP
      have hDc := hD
      have hFc := va_free (wc := (wX9 cI cZ a (sr (sr M 0 (r6.2 0)) 7 (r6.2 7)))) hD hS hA [0, 1, 2, 3, 4, 5, 6, 7, 8] rfl
      refine va_callv (va_runV (As := []) (rest := []) ⟨hx, hb, hml, hown, hts⟩ (c_X9_records l dC dI cI cZ a H.size (sr (sr M 0 (r6.2 0)) 7 (r6.2 7)) r37 hc37) (cwV 0 hts gX9_accept_X9_records rfl rfl rfl (by decide +kernel) ⟨Nat.le_of_ble_eq_true rfl, Nat.le_of_ble_eq_true rfl⟩) ⟨WR.blind, va_recv hK hP (ci := 9) (q0 := 0) rfl rfl, WR.pre hPc hK hDc hNW⟩ rfl rfl hl.1 rfl (lv_room (Nat.le_of_ble_eq_true rfl)) dX9_accept_37 ⟨Nat.le_of_ble_eq_true rfl, Nat.le_of_ble_eq_true rfl⟩) hS (fun q _ h => hFc q h) hFc (fun u t H1 locs ht hvm hw hB hz1 hk1 hS => ?_)
      obtain ⟨hP1, hD1⟩ := hB
      rw [ht] at hP1
      have hP := hP1
      have hD := hD1.weaken (fun k q _ h => hFc q.1 h)
      have hP : va_P (dC, dI) vwCl (wX9 cI cZ a (sr (sr (sr M 0 (r37 0)) 3 (r37 3)) 7 (r6.2 7))) H1 := hP
      have hD : va_D A (wX9 cI cZ a (sr (sr (sr M 0 (r37 0)) 3 (r37 3)) 7 (r6.2 7))) := hD
      generalize H1 = H at hP hS ⊢
      refine lv_aload_n hx hb dX9_accept_40 rfl (lv_at hl 0 rfl) ?_
      refine va_get (D := (dC, dI)) (ci := 9) (v := .ref (a 1)) (C := RX9) (T := TX9) (N := 13) hx hb hts hinX9 hown hK hP 0 rfl rfl 1 (by decide) hw2 (fun _ h9 => h9) rfl dX9_accept_41 ?_
      refine lv_bipush (v := (8 : Int32)) hx hb dX9_accept_44 (by decide) ?_
      obtain ⟨hi, hf⟩ := gd_s hf
      refine va_iald (D := (dC, dI)) (f := (M 1)) hx hb hK hP 1 0 rfl rfl (inb_in hi) dX9_accept_46 ?_
      refine lv_istore_n (lv' := [(1, .int (M 1 (8 : Int32).toNatClampNeg)), (0, .ref (a 0))]) hx hb dX9_accept_47 rfl hl (by decide) rfl (fun ls hl => ?_)
      refine lv_aload_n hx hb dX9_accept_48 rfl (lv_at hl 1 rfl) ?_
      refine va_get (D := (dC, dI)) (ci := 9) (v := .ref (a 1)) (C := RX9) (T := TX9) (N := 13) hx hb hts hinX9 hown hK hP 0 rfl rfl 1 (by decide) hw2 (fun _ h9 => h9) rfl dX9_accept_49 ?_
      refine lv_bipush (v := (8 : Int32)) hx hb dX9_accept_52 (by decide) ?_
      refine lv_dup2_11 hx hb dX9_accept_54 rfl rfl ?_
      obtain ⟨hi, hf⟩ := gd_s hf
      refine va_iald (D := (dC, dI)) (f := (M 1)) hx hb hK hP 1 0 rfl rfl (inb_in hi) dX9_accept_55 ?_
      refine lv_iconst (v := (1 : Int32)) hx hb dX9_accept_56 (by decide) ?_
      refine lv_iadd hx hb dX9_accept_57 ?_
      obtain ⟨hi, hf⟩ := gd_s hf
      refine va_iast (D := (dC, dI)) (f := (M 1)) hx hb hK hP hD hS 1 0 rfl rfl (inb_in hi) dX9_accept_58 (fun H locs hP hD hS => ?_)
      have hP : va_P (dC, dI) vwCl (wX9 cI cZ a (sr (sr (sr (sr M 0 (r37 0)) 1 (upd (M 1) (8 : Int32).toNatClampNeg ((M 1 (8 : Int32).toNatClampNeg) + (1 : Int32)))) 3 (r37 3)) 7 (r6.2 7))) H := hP
      have hD : va_D A (wX9 cI cZ a (sr (sr (sr (sr M 0 (r37 0)) 1 (upd (M 1) (8 : Int32).toNatClampNeg ((M 1 (8 : Int32).toNatClampNeg) + (1 : Int32)))) 3 (r37 3)) 7 (r6.2 7))) := hD
      refine lv_iconst (v := (0 : Int32)) hx hb dX9_accept_59 (by decide) ?_
      refine lv_istore_n (lv' := [(2, .int (0 : Int32)), (1, .int (M 1 (8 : Int32).toNatClampNeg)), (0, .ref (a 0))]) hx hb dX9_accept_60 rfl hl (by decide) rfl (fun ls hl => ?_)
      refine hfX9_accept_L61 5000 _ (fun N l1 hf ls hl H locs hP hD hS => ?_) (sr (sr (sr (sr M 0 (r37 0)) 1 (upd (M 1) (8 : Int32).toNatClampNeg ((M 1 (8 : Int32).toNatClampNeg) + (1 : Int32)))) 3 (r37 3)) 7 (r6.2 7)) (M 1 (8 : Int32).toNatClampNeg) (0 : Int32) hf _ (lv_sub hl [2, 1, 0] rfl) _ _ hP hD hS
      refine lv_aload_n hx hb dX9_accept_94 rfl (lv_at hl 0 rfl) ?_
      refine lv_iconst (v := (0 : Int32)) hx hb dX9_accept_95 (by decide) ?_
      refine va_put (D := (dC, dI)) (ci := 9) (v := .int (0 : Int32)) (ty := .int) (C := RX9) (T := TX9) (N := 13) hx hb hts hinX9 tyX9 tyX9_ok nmX9 hown hK hP hD hS 0 rfl rfl 8 (by decide) hw4 (fun _ h9 => h9) rfl (by decide +kernel) rfl rfl (Nat.le_of_ble_eq_true rfl) dX9_accept_96 (fun H locs hP hD hS => ?_)
      have hP : va_P (dC, dI) vwCl (wX9 cI cZ a (sr (sr (sr (sr M 0 (upd (N 0) 8 (0 : Int32))) 1 (N 1)) 3 (N 3)) 7 (N 7))) H := hP
      have hD : va_D A (wX9 cI cZ a (sr (sr (sr (sr M 0 (upd (N 0) 8 (0 : Int32))) 1 (N 1)) 3 (N 3)) 7 (N 7))) := hD
      refine lv_iload_n hx hb dX9_accept_99 rfl (lv_at hl 1 rfl) ?_
      have e9 := so_e hf
      subst e9
      exact W.iret (v := l1) hx hb hr (fun t ht hW => ⟨⟨l1, (), rfl, rfl, WE.mk hP hD ht⟩, hS.F ht⟩) hS.2.2 dX9_accept_100
    · have hf := it_n hf c9
      refine lv_aload_n hx hb dX9_accept_30 rfl (lv_at hl 0 rfl) ?_
      refine lv_iconst (v := (2 : Int32)) hx hb dX9_accept_31 (by decide) ?_
      obtain ⟨r32, hc32, hf⟩ := bi_s hf
      have hPc := hP
      have hDc := hD
      have hFc := va_free (wc := (wX9 cI cZ a (sr (sr M 0 (r6.2 0)) 7 (r6.2 7)))) hD hS hA [0, 1, 2, 3, 4, 5, 6, 7, 8] rfl
      refine va_calli (va_runV (As := [.int (2 : Int32)]) (rest := []) ⟨hx, hb, hml, hown, hts⟩ (c_X9_fails l dC dI cI cZ a H.size (sr (sr M 0 (r6.2 0)) 7 (r6.2 7)) (2 : Int32) r32 hc32) (cwV 1 hts gX9_accept_X9_fails rfl rfl rfl (by decide +kernel) ⟨Nat.le_of_ble_eq_true rfl, Nat.le_of_ble_eq_true rfl⟩) ⟨WR.blind, va_recv hK hP (ci := 9) (q0 := 0) rfl rfl, WR.pre hPc hK hDc hNW⟩ rfl rfl hl.1 rfl (lv_room (Nat.le_of_ble_eq_true rfl)) dX9_accept_32 ⟨Nat.le_of_ble_eq_true rfl, Nat.le_of_ble_eq_true rfl⟩) hS (fun q _ h => hFc q h) hFc (fun rv u t H1 locs ht hvm hw hB hz1 hk1 hS => ?_)
      obtain ⟨hP1, hD1⟩ := hB
      rw [ht] at hP1
      subst hw
      have hP := hP1
      have hD := hD1.weaken (fun k q _ h => hFc q.1 h)
      have hP : va_P (dC, dI) vwCl (wX9 cI cZ a (sr (sr M 0 (r32.2 0)) 7 (r6.2 7))) H1 := hP
      have hD : va_D A (wX9 cI cZ a (sr (sr M 0 (r32.2 0)) 7 (r6.2 7))) := hD
      generalize H1 = H at hP hS ⊢
      have e9 := so_e hf
      subst e9
      exact W.iret (v := r32.1) hx hb hr (fun t ht hW => ⟨⟨r32.1, (), rfl, rfl, WE.mk hP hD ht⟩, hS.F ht⟩) hS.2.2 dX9_accept_35
  · have hf := it_n hf c9
    refine lv_aload_n hx hb dX9_accept_12 rfl (lv_at hl 0 rfl) ?_
    refine lv_iconst (v := (1 : Int32)) hx hb dX9_accept_13 (by decide) ?_
    obtain ⟨r14, hc14, hf⟩ := bi_s hf
    have hPc := hP
    have hDc := hD
    have hFc := va_free (wc := (wX9 cI cZ a (sr (sr M 0 (r6.2 0)) 7 (r6.2 7)))) hD hS hA [0, 1, 2, 3, 4, 5, 6, 7, 8] rfl
    refine va_calli (va_runV (As := [.int (1 : Int32)]) (rest := []) ⟨hx, hb, hml, hown, hts⟩ (c_X9_fails l dC dI cI cZ a H.size (sr (sr M 0 (r6.2 0)) 7 (r6.2 7)) (1 : Int32) r14 hc14) (cwV 1 hts gX9_accept_X9_fails rfl rfl rfl (by decide +kernel) ⟨Nat.le_of_ble_eq_true rfl, Nat.le_of_ble_eq_true rfl⟩) ⟨WR.blind, va_recv hK hP (ci := 9) (q0 := 0) rfl rfl, WR.pre hPc hK hDc hNW⟩ rfl rfl hl.1 rfl (lv_room (Nat.le_of_ble_eq_true rfl)) dX9_accept_14 ⟨Nat.le_of_ble_eq_true rfl, Nat.le_of_ble_eq_true rfl⟩) hS (fun q _ h => hFc q h) hFc (fun rv u t H1 locs ht hvm hw hB hz1 hk1 hS => ?_)
    obtain ⟨hP1, hD1⟩ := hB
    rw [ht] at hP1
    subst hw
    have hP := hP1
    have hD := hD1.weaken (fun k q _ h => hFc q.1 h)
    have hP : va_P (dC, dI) vwCl (wX9 cI cZ a (sr (sr M 0 (r14.2 0)) 7 (r6.2 7))) H1 := hP
    have hD : va_D A (wX9 cI cZ a (sr (sr M 0 (r14.2 0)) 7 (r6.2 7))) := hD
    generalize H1 = H at hP hS ⊢
    have e9 := so_e hf
    subst e9
    exact W.iret (v := r14.1) hx hb hr (fun t ht hW => ⟨⟨r14.1, (), rfl, rfl, WE.mk hP hD ht⟩, hS.F ht⟩) hS.2.2 dX9_accept_17
set_option maxHeartbeats 4000000 in
set_option maxRecDepth 100000 in
theorem c_X9_cancel (l : Launch) (dC : Nat → ClassId) (dI : Nat → Nat → Nat) (cI cZ : ClassId) (a : Nat → Nat) (sz : Nat) (M : Mem) (a1 : Int32) (z : Int32 × Mem) (hf : fX9_cancel M a1 = some z) : Met l yX9_cancel wsX9_cancel ({ frames := 2, cells := 0, slots := 0, locals := 45 } : Room) (va_Pc [.ref (a 0), .int a1] (WR (dC, dI) cI cZ (wX9 cI cZ a M) sz)) (va_Qi (S := Unit) (fun r _ => r = z.1) (fun _ t => WE (dC, dI) cI cZ (wX9 cI cZ a (sr (sr (sr M 0 (z.2 0)) 1 (z.2 1)) 3 (z.2 3))) (va_A (wX9 cI cZ a M) sz) t) (va_A (wX9 cI cZ a M) sz)) 0 0 (va_A (wX9 cI cZ a M) sz) := by
  refine Met.ofW (cc := cX9_cancel) (maxL := 3) (ret := (some .int)) (by decide) rfl ?_
  intro p e s m args below meth c s₁ B hml hv
  obtain ⟨rfl, hsz, hP, hK, hD0, hNW⟩ := hv
  have hx := B.exec
  have hb := B.bytes
  have hr := B.returns
  have hts := atoms_spec (ws := wsX9_cancel) B.pre
  have hown : s.vm.findClass RX9 = some m.cls := findClass_of_methodNamed B.named
  have hlocks := B.notSynchronized
  have hinX9 : ∀ w ∈ u_ws RX9 TX9 13, w ∈ wsX9_cancel := by decide +kernel
  have hw1 := hts (.fieldLink RX9 35 "GlideShelvesModel" "thrown" "I") (by decide +kernel)
  subst hsz
  have hD := hD0.self (sz := s.heap.size)
  generalize hAe : va_A (wX9 cI cZ a M) s.heap.size = A at hD ⊢
  have hA : ∀ q : Nat, s.heap.size ≤ q → A q := fun q h => by rw [← hAe]; exact Or.inr h
  have hS : va_S A s.heap s.heap [] := va_S.rf
  have hl := lv_entry ([.ref (a 0), .int a1]) (n := 3) (Nat.le_of_ble_eq_true rfl)
  rw [lg_entry_eq]
  generalize (lg_sl ([.ref (a 0), .int a1]) ++ List.replicate (3 - (lg_sl ([.ref (a 0), .int a1])).length) Slot.unset).toArray = ls at hl ⊢
  have hl : lv_has ls 3 [(0, .ref (a 0)), (1, .int a1)] := hl
  unfold fX9_cancel at hf
  suffices hgo : ∀ (H : Heap) (locs : List Loc), va_P (dC, dI) vwCl (wX9 cI cZ a M) H → va_D A (wX9 cI cZ a M) → va_S A s.heap H locs → W p l e (headSpec wsX9_cancel ({ frames := 2, cells := 0, slots := 0, locals := 45 } : Room)).room s m ([.ref (a 0), .int a1] : List Value).toArray below meth c H locs 0 0 (MQ below (va_Qi (S := Unit) (fun r _ => r = z.1) (fun _ t => WE (dC, dI) cI cZ (wX9 cI cZ a (sr (sr (sr M 0 (z.2 0)) 1 (z.2 1)) 3 (z.2 3))) A t) A) ([.ref (a 0), .int a1] : List Value).toArray s 0 0 A) (F0 m 0 ls []) from hgo _ _ hP hD hS
  intro H locs hP hD hS
  refine lv_aload_n hx hb dX9_cancel_0 rfl (lv_at hl 0 rfl) ?_
  refine lv_iconst (v := (0 : Int32)) hx hb dX9_cancel_1 (by decide) ?_
  refine va_put (D := (dC, dI)) (ci := 9) (v := .int (0 : Int32)) (ty := .int) (C := RX9) (T := TX9) (N := 13) hx hb hts hinX9 tyX9 tyX9_ok nmX9 hown hK hP hD hS 0 rfl rfl 0 (by decide) hw1 (fun _ h9 => h9) rfl (by decide +kernel) rfl rfl (Nat.le_of_ble_eq_true rfl) dX9_cancel_2 (fun H locs hP hD hS => ?_)
  have hP : va_P (dC, dI) vwCl (wX9 cI cZ a (sr M 0 (upd (M 0) 0 (0 : Int32)))) H := hP
  have hD : va_D A (wX9 cI cZ a (sr M 0 (upd (M 0) 0 (0 : Int32)))) := hD
  refine lv_aload_n hx hb dX9_cancel_5 rfl (lv_at hl 0 rfl) ?_
  refine lv_iload_n hx hb dX9_cancel_6 rfl (lv_at hl 1 rfl) ?_
  obtain ⟨r7, hc7, hf⟩ := bi_s hf
  have hPc := hP
  refine cRO (W.runV (As := [.int a1]) (rest := []) ⟨hx, hb, hml, hown, hts⟩ (c_X9_isOrder l dC dI cI cZ a (sr M 0 (upd (M 0) 0 (0 : Int32))) a1 r7 hc7) (cwV 1 hts gX9_cancel_X9_isOrder rfl rfl rfl (by decide +kernel) ⟨Nat.le_of_ble_eq_true rfl, Nat.le_of_ble_eq_true rfl⟩) ⟨RO.blind, va_recv hK hP (ci := 9) (q0 := 0) rfl rfl, RO.pre hPc hK hNW⟩ rfl rfl hl.1 rfl (lv_room (Nat.le_of_ble_eq_true rfl)) dX9_cancel_7 ⟨Nat.le_of_ble_eq_true rfl, Nat.le_of_ble_eq_true rfl⟩) ?_
  refine lv_if_ne (tgt := 19) hx hb dX9_cancel_10 (by decide) (fun c9 => ?_) (fun c9 => ?_)
  · have hf := it_t hf c9
    refine lv_aload_n hx hb dX9_cancel_19 rfl (lv_at hl 0 rfl) ?_
    obtain ⟨r20, hc20, hf⟩ := bi_s hf
    have hPc := hP
    have hDc := hD
    have hFc := va_free (wc := (wX9 cI cZ a (sr M 0 (upd (M 0) 0 (0 : Int32))))) hD hS hA [0, 1, 2, 3, 4, 5, 6, 7, 8] rfl
    refine va_callv (va_runV (As := []) (rest := []) ⟨hx, hb, hml, hown, hts⟩ (c_X9_records l dC dI cI cZ a H.size (sr M 0 (upd (M 0) 0 (0 : Int32))) r20 hc20) (cwV 0 hts gX9_cancel_X9_records rfl rfl rfl (by decide +kernel) ⟨Nat.le_of_ble_eq_true rfl, Nat.le_of_ble_eq_true rfl⟩) ⟨WR.blind, va_recv hK hP (ci := 9) (q0 := 0) rfl rfl, WR.pre hPc hK hDc hNW⟩ rfl rfl hl.1 rfl (lv_room (Nat.le_of_ble_eq_true rfl)) dX9_cancel_20 ⟨Nat.le_of_ble_eq_true rfl, Nat.le_of_ble_eq_true rfl⟩) hS (fun q _ h => hFc q h) hFc (fun u t H1 locs ht hvm hw hB hz1 hk1 hS => ?_)
    obtain ⟨hP1, hD1⟩ := hB
    rw [ht] at hP1
    have hP := hP1
    have hD := hD1.weaken (fun k q _ h => hFc q.1 h)
    have hP : va_P (dC, dI) vwCl (wX9 cI cZ a (sr (sr M 0 (r20 0)) 3 (r20 3))) H1 := hP
    have hD : va_D A (wX9 cI cZ a (sr (sr M 0 (r20 0)) 3 (r20 3))) := hD
    generalize H1 = H at hP hS ⊢
    refine lv_aload_n hx hb dX9_cancel_23 rfl (lv_at hl 0 rfl) ?_
    refine lv_iload_n hx hb dX9_cancel_24 rfl (lv_at hl 1 rfl) ?_
    obtain ⟨r25, hc25, hf⟩ := bi_s hf
    have hPc := hP
    refine cRO (W.runV (As := [.int a1]) (rest := []) ⟨hx, hb, hml, hown, hts⟩ (c_X9_wantedMany l dC dI cI cZ a (sr (sr M 0 (r20 0)) 3 (r20 3)) a1 r25 hc25) (cwV 1 hts gX9_cancel_X9_wantedMany rfl rfl rfl (by decide +kernel) ⟨Nat.le_of_ble_eq_true rfl, Nat.le_of_ble_eq_true rfl⟩) ⟨RO.blind, va_recv hK hP (ci := 9) (q0 := 0) rfl rfl, RO.pre hPc hK hNW⟩ rfl rfl hl.1 rfl (lv_room (Nat.le_of_ble_eq_true rfl)) dX9_cancel_25 ⟨Nat.le_of_ble_eq_true rfl, Nat.le_of_ble_eq_true rfl⟩) ?_
    refine lv_istore_n (lv' := [(2, .int r25), (0, .ref (a 0)), (1, .int a1)]) hx hb dX9_cancel_28 rfl hl (by decide) rfl (fun ls hl => ?_)
    refine lv_aload_n hx hb dX9_cancel_29 rfl (lv_at hl 1 rfl) ?_
    refine lv_iload_n hx hb dX9_cancel_30 rfl (lv_at hl 2 rfl) ?_
    obtain ⟨r31, hc31, hf⟩ := bi_s hf
    have hPc := hP
    have hDc := hD
    have hFc := va_free (wc := (wX9 cI cZ a (sr (sr M 0 (r20 0)) 3 (r20 3)))) hD hS hA [0, 1, 2, 3, 4, 5, 6, 7, 8] rfl
    refine va_callv (va_runV (As := [.int a1]) (rest := []) ⟨hx, hb, hml, hown, hts⟩ (c_X9_drops l dC dI cI cZ a H.size (sr (sr M 0 (r20 0)) 3 (r20 3)) a1 r31 hc31) (cwV 1 hts gX9_cancel_X9_drops rfl rfl rfl (by decide +kernel) ⟨Nat.le_of_ble_eq_true rfl, Nat.le_of_ble_eq_true rfl⟩) ⟨WR.blind, va_recv hK hP (ci := 9) (q0 := 0) rfl rfl, WR.pre hPc hK hDc hNW⟩ rfl rfl hl.1 rfl (lv_room (Nat.le_of_ble_eq_true rfl)) dX9_cancel_31 ⟨Nat.le_of_ble_eq_true rfl, Nat.le_of_ble_eq_true rfl⟩) hS (fun q _ h => hFc q h) hFc (fun u t H1 locs ht hvm hw hB hz1 hk1 hS => ?_)
    obtain ⟨hP1, hD1⟩ := hB
    rw [ht] at hP1
    have hP := hP1
    have hD := hD1.weaken (fun k q _ h => hFc q.1 h)
    have hP : va_P (dC, dI) vwCl (wX9 cI cZ a (sr (sr (sr M 0 (r20 0)) 1 (r31 1)) 3 (r20 3))) H1 := hP
    have hD : va_D A (wX9 cI cZ a (sr (sr (sr M 0 (r20 0)) 1 (r31 1)) 3 (r20 3))) := hD
    generalize H1 = H at hP hS ⊢
    refine lv_iload_n hx hb dX9_cancel_34 rfl (lv_at hl 0 rfl) ?_
    have e9 := so_e hf
    subst e9
    exact W.iret (v := r25) hx hb hr (fun t ht hW => ⟨⟨r25, (), rfl, rfl, WE.mk hP hD ht⟩, hS.F ht⟩) hS.2.2 dX9_cancel_35
  · have hf := it_n hf c9
    refine lv_aload_n hx hb dX9_cancel_13 rfl (lv_at hl 0 rfl) ?_
    refine lv_iconst (v := (1 : Int32)) hx hb dX9_cancel_14 (by decide) ?_
    obtain ⟨r15, hc15, hf⟩ := bi_s hf
    have hPc := hP
    have hDc := hD
    have hFc := va_free (wc := (wX9 cI cZ a (sr M 0 (upd (M 0) 0 (0 : Int32))))) hD hS hA [0, 1, 2, 3, 4, 5, 6, 7, 8] rfl
    refine va_calli (va_runV (As := [.int (1 : Int32)]) (rest := []) ⟨hx, hb, hml, hown, hts⟩ (c_X9_fails l dC dI cI cZ a H.size (sr M 0 (upd (M 0) 0 (0 : Int32))) (1 : Int32) r15 hc15) (cwV 1 hts gX9_cancel_X9_fails rfl rfl rfl (by decide +kernel) ⟨Nat.le_of_ble_eq_true rfl, Nat.le_of_ble_eq_true rfl⟩) ⟨WR.blind, va_recv hK hP (ci := 9) (q0 := 0) rfl rfl, WR.pre hPc hK hDc hNW⟩ rfl rfl hl.1 rfl (lv_room (Nat.le_of_ble_eq_true rfl)) dX9_cancel_15 ⟨Nat.le_of_ble_eq_true rfl, Nat.le_of_ble_eq_true rfl⟩) hS (fun q _ h => hFc q h) hFc (fun rv u t H1 locs ht hvm hw hB hz1 hk1 hS => ?_)
    obtain ⟨hP1, hD1⟩ := hB
    rw [ht] at hP1
    subst hw
    have hP := hP1
    have hD := hD1.weaken (fun k q _ h => hFc q.1 h)
    have hP : va_P (dC, dI) vwCl (wX9 cI cZ a (sr M 0 (r15.2 0))) H1 := hP
    have hD : va_D A (wX9 cI cZ a (sr M 0 (r15.2 0))) := hD
    generalize H1 = H at hP hS ⊢
    have e9 := so_e hf
    subst e9
    exact W.iret (v := r15.1) hx hb hr (fun t ht hW => ⟨⟨r15.1, (), rfl, rfl, WE.mk hP hD ht⟩, hS.F ht⟩) hS.2.2 dX9_cancel_18
set_option maxHeartbeats 4000000 in
set_option maxRecDepth 100000 in
theorem c_X9_serve (l : Launch) (dC : Nat → ClassId) (dI : Nat → Nat → Nat) (cI cZ : ClassId) (a : Nat → Nat) (sz : Nat) (M : Mem) (a1 : Int32) (z : Int32 × Mem) (hf : fX9_serve M a1 = some z) : Met l yX9_serve wsX9_serve ({ frames := 6, cells := 0, slots := 0, locals := 139 } : Room) (va_Pc [.ref (a 0), .int a1] (WR (dC, dI) cI cZ (wX9 cI cZ a M) sz)) (va_Qi (S := Unit) (fun r _ => r = z.1) (fun _ t => WE (dC, dI) cI cZ (wX9 cI cZ a (sr (sr (sr (sr M 0 (z.2 0)) 1 (z.2 1)) 3 (z.2 3)) 8 (z.2 8))) (va_A (wX9 cI cZ a M) sz) t) (va_A (wX9 cI cZ a M) sz)) 0 0 (va_A (wX9 cI cZ a M) sz) := by
  refine Met.ofW (cc := cX9_serve) (maxL := 2) (ret := (some .int)) (by decide) rfl ?_
  intro p e s m args below meth c s₁ B hml hv
  obtain ⟨rfl, hsz, hP, hK, hD0, hNW⟩ := hv
  have hx := B.exec
  have hb := B.bytes
  have hr := B.returns
  have hts := atoms_spec (ws := wsX9_serve) B.pre
  have hown : s.vm.findClass RX9 = some m.cls := findClass_of_methodNamed B.named
  have hlocks := B.notSynchronized
  have hinX9 : ∀ w ∈ u_ws RX9 TX9 13, w ∈ wsX9_serve := by decide +kernel
  have hw1 := hts (.fieldLink RX9 35 "GlideShelvesModel" "thrown" "I") (by decide +kernel)
  subst hsz
  have hD := hD0.self (sz := s.heap.size)
  generalize hAe : va_A (wX9 cI cZ a M) s.heap.size = A at hD ⊢
  have hA : ∀ q : Nat, s.heap.size ≤ q → A q := fun q h => by rw [← hAe]; exact Or.inr h
  have hS : va_S A s.heap s.heap [] := va_S.rf
  have hfX9_serve_B34 : ∀ (N : Mem), fX9_serve_B34 M  N = some z → ∀ (ls : Array Slot), lv_has ls 2 [(0, .ref (a 0))] → ∀ (H : Heap) (locs : List Loc), va_P (dC, dI) vwCl (wX9 cI cZ a (sr (sr (sr (sr M 0 (N 0)) 1 (N 1)) 3 (N 3)) 8 (N 8))) H → va_D A (wX9 cI cZ a (sr (sr (sr (sr M 0 (N 0)) 1 (N 1)) 3 (N 3)) 8 (N 8))) → va_S A s.heap H locs → W p l e (headSpec wsX9_serve ({ frames := 6, cells := 0, slots := 0, locals := 139 } : Room)).room s m ([.ref (a 0), .int a1] : List Value).toArray below meth c H locs 0 0 (MQ below (va_Qi (S := Unit) (fun r _ => r = z.1) (fun _ t => WE (dC, dI) cI cZ (wX9 cI cZ a (sr (sr (sr (sr M 0 (z.2 0)) 1 (z.2 1)) 3 (z.2 3)) 8 (z.2 8))) A t) A) ([.ref (a 0), .int a1] : List Value).toArray s 0 0 A) (F0 m 34 ls []) := by
    intro  N hf ls hl H locs hP hD hS
    unfold fX9_serve_B34 at hf
    refine lv_aload_n hx hb dX9_serve_34 rfl (lv_at hl 0 rfl) ?_
    refine lv_iconst (v := (2 : Int32)) hx hb dX9_serve_35 (by decide) ?_
    obtain ⟨r36, hc36, hf⟩ := bi_s hf
    have hPc := hP
    have hDc := hD
    have hFc := va_free (wc := (wX9 cI cZ a (sr (sr (sr (sr M 0 (N 0)) 1 (N 1)) 3 (N 3)) 8 (N 8)))) hD hS hA [0, 1, 2, 3, 4, 5, 6, 7, 8] rfl
    refine va_calli (va_runV (As := [.int (2 : Int32)]) (rest := []) ⟨hx, hb, hml, hown, hts⟩ (c_X9_fails l dC dI cI cZ a H.size (sr (sr (sr (sr M 0 (N 0)) 1 (N 1)) 3 (N 3)) 8 (N 8)) (2 : Int32) r36 hc36) (cwV 1 hts gX9_serve_X9_fails rfl rfl rfl (by decide +kernel) ⟨Nat.le_of_ble_eq_true rfl, Nat.le_of_ble_eq_true rfl⟩) ⟨WR.blind, va_recv hK hP (ci := 9) (q0 := 0) rfl rfl, WR.pre hPc hK hDc hNW⟩ rfl rfl hl.1 rfl (lv_room (Nat.le_of_ble_eq_true rfl)) dX9_serve_36 ⟨Nat.le_of_ble_eq_true rfl, Nat.le_of_ble_eq_true rfl⟩) hS (fun q _ h => hFc q h) hFc (fun rv u t H1 locs ht hvm hw hB hz1 hk1 hS => ?_)
    obtain ⟨hP1, hD1⟩ := hB
    rw [ht] at hP1
    subst hw
    have hP := hP1
    have hD := hD1.weaken (fun k q _ h => hFc q.1 h)
    have hP : va_P (dC, dI) vwCl (wX9 cI cZ a (sr (sr (sr (sr M 0 (r36.2 0)) 1 (N 1)) 3 (N 3)) 8 (N 8))) H1 := hP
    have hD : va_D A (wX9 cI cZ a (sr (sr (sr (sr M 0 (r36.2 0)) 1 (N 1)) 3 (N 3)) 8 (N 8))) := hD
    generalize H1 = H at hP hS ⊢
    have e9 := so_e hf
    subst e9
    exact W.iret (v := r36.1) hx hb hr (fun t ht hW => ⟨⟨r36.1, (), rfl, rfl, WE.mk hP hD ht⟩, hS.F ht⟩) hS.2.2 dX9_serve_39
  have hl := lv_entry ([.ref (a 0), .int a1]) (n := 2) (Nat.le_of_ble_eq_true rfl)
  rw [lg_entry_eq]
  generalize (lg_sl ([.ref (a 0), .int a1]) ++ List.replicate (2 - (lg_sl ([.ref (a 0), .int a1])).length) Slot.unset).toArray = ls at hl ⊢
  have hl : lv_has ls 2 [(0, .ref (a 0)), (1, .int a1)] := hl
  unfold fX9_serve at hf
  suffices hgo : ∀ (H : Heap) (locs : List Loc), va_P (dC, dI) vwCl (wX9 cI cZ a M) H → va_D A (wX9 cI cZ a M) → va_S A s.heap H locs → W p l e (headSpec wsX9_serve ({ frames := 6, cells := 0, slots := 0, locals := 139 } : Room)).room s m ([.ref (a 0), .int a1] : List Value).toArray below meth c H locs 0 0 (MQ below (va_Qi (S := Unit) (fun r _ => r = z.1) (fun _ t => WE (dC, dI) cI cZ (wX9 cI cZ a (sr (sr (sr (sr M 0 (z.2 0)) 1 (z.2 1)) 3 (z.2 3)) 8 (z.2 8))) A t) A) ([.ref (a 0), .int a1] : List Value).toArray s 0 0 A) (F0 m 0 ls []) from hgo _ _ hP hD hS
  intro H locs hP hD hS
  refine lv_aload_n hx hb dX9_serve_0 rfl (lv_at hl 0 rfl) ?_
  refine lv_iconst (v := (0 : Int32)) hx hb dX9_serve_1 (by decide) ?_
  refine va_put (D := (dC, dI)) (ci := 9) (v := .int (0 : Int32)) (ty := .int) (C := RX9) (T := TX9) (N := 13) hx hb hts hinX9 tyX9 tyX9_ok nmX9 hown hK hP hD hS 0 rfl rfl 0 (by decide) hw1 (fun _ h9 => h9) rfl (by decide +kernel) rfl rfl (Nat.le_of_ble_eq_true rfl) dX9_serve_2 (fun H locs hP hD hS => ?_)
  have hP : va_P (dC, dI) vwCl (wX9 cI cZ a (sr M 0 (upd (M 0) 0 (0 : Int32)))) H := hP
  have hD : va_D A (wX9 cI cZ a (sr M 0 (upd (M 0) 0 (0 : Int32)))) := hD
  refine lv_aload_n hx hb dX9_serve_5 rfl (lv_at hl 0 rfl) ?_
  refine lv_iload_n hx hb dX9_serve_6 rfl (lv_at hl 1 rfl) ?_
  obtain ⟨r7, hc7, hf⟩ := bi_s hf
  have hPc := hP
  refine cRO (W.runV (As := [.int a1]) (rest := []) ⟨hx, hb, hml, hown, hts⟩ (c_X9_isOrder l dC dI cI cZ a (sr M 0 (upd (M 0) 0 (0 : Int32))) a1 r7 hc7) (cwV 1 hts gX9_serve_X9_isOrder rfl rfl rfl (by decide +kernel) ⟨Nat.le_of_ble_eq_true rfl, Nat.le_of_ble_eq_true rfl⟩) ⟨RO.blind, va_recv hK hP (ci := 9) (q0 := 0) rfl rfl, RO.pre hPc hK hNW⟩ rfl rfl hl.1 rfl (lv_room (Nat.le_of_ble_eq_true rfl)) dX9_serve_7 ⟨Nat.le_of_ble_eq_true rfl, Nat.le_of_ble_eq_true rfl⟩) ?_
  refine lv_if_ne (tgt := 19) hx hb dX9_serve_10 (by decide) (fun c9 => ?_) (fun c9 => ?_)
  · have hf := it_t hf c9
    refine lv_aload_n hx hb dX9_serve_19 rfl (lv_at hl 0 rfl) ?_
    obtain ⟨r20, hc20, hf⟩ := bi_s hf
    have hPc := hP
    refine cRO (W.runV (As := []) (rest := []) ⟨hx, hb, hml, hown, hts⟩ (c_X9_hasWindow l dC dI cI cZ a (sr M 0 (upd (M 0) 0 (0 : Int32))) r20 hc20) (cwV 0 hts gX9_serve_X9_hasWindow rfl rfl rfl (by decide +kernel) ⟨Nat.le_of_ble_eq_true rfl, Nat.le_of_ble_eq_true rfl⟩) ⟨RO.blind, va_recv hK hP (ci := 9) (q0 := 0) rfl rfl, RO.pre hPc hK hNW⟩ rfl rfl hl.1 rfl (lv_room (Nat.le_of_ble_eq_true rfl)) dX9_serve_20 ⟨Nat.le_of_ble_eq_true rfl, Nat.le_of_ble_eq_true rfl⟩) ?_
    refine lv_if_ne (tgt := 34) hx hb dX9_serve_23 (by decide) (fun c9 => ?_) (fun c9 => ?_)
    · have hf := it_t hf c9
      exact hfX9_serve_B34  (sr M 0 (upd (M 0) 0 (0 : Int32))) hf _ (lv_sub hl [0] rfl) _ _ hP hD hS
    · have hf := it_n hf c9
      refine lv_aload_n hx hb dX9_serve_26 rfl (lv_at hl 0 rfl) ?_
      refine lv_iload_n hx hb dX9_serve_27 rfl (lv_at hl 1 rfl) ?_
      obtain ⟨r28, hc28, hf⟩ := bi_s hf
      have hPc := hP
      refine cRO (W.runV (As := [.int a1]) (rest := []) ⟨hx, hb, hml, hown, hts⟩ (c_X9_canBe l dC dI cI cZ a (sr M 0 (upd (M 0) 0 (0 : Int32))) a1 r28 hc28) (cwV 1 hts gX9_serve_X9_canBe rfl rfl rfl (by decide +kernel) ⟨Nat.le_of_ble_eq_true rfl, Nat.le_of_ble_eq_true rfl⟩) ⟨RO.blind, va_recv hK hP (ci := 9) (q0 := 0) rfl rfl, RO.pre hPc hK hNW⟩ rfl rfl hl.1 rfl (lv_room (Nat.le_of_ble_eq_true rfl)) dX9_serve_28 ⟨Nat.le_of_ble_eq_true rfl, Nat.le_of_ble_eq_true rfl⟩) ?_
      refine lv_if_ne (tgt := 40) hx hb dX9_serve_31 (by decide) (fun c9 => ?_) (fun c9 => ?_)
      · have hf := it_t hf c9
        refine lv_aload_n hx hb dX9_serve_40 rfl (lv_at hl 0 rfl) ?_
        obtain ⟨r41, hc41, hf⟩ := bi_s hf
        have hPc := hP
        have hDc := hD
        have hFc := va_free (wc := (wX9 cI cZ a (sr M 0 (upd (M 0) 0 (0 : Int32))))) hD hS hA [0, 1, 2, 3, 4, 5, 6, 7, 8] rfl
        refine va_callv (va_runV (As := []) (rest := []) ⟨hx, hb, hml, hown, hts⟩ (c_X9_records l dC dI cI cZ a H.size (sr M 0 (upd (M 0) 0 (0 : Int32))) r41 hc41) (cwV 0 hts gX9_serve_X9_records rfl rfl rfl (by decide +kernel) ⟨Nat.le_of_ble_eq_true rfl, Nat.le_of_ble_eq_true rfl⟩) ⟨WR.blind, va_recv hK hP (ci := 9) (q0 := 0) rfl rfl, WR.pre hPc hK hDc hNW⟩ rfl rfl hl.1 rfl (lv_room (Nat.le_of_ble_eq_true rfl)) dX9_serve_41 ⟨Nat.le_of_ble_eq_true rfl, Nat.le_of_ble_eq_true rfl⟩) hS (fun q _ h => hFc q h) hFc (fun u t H1 locs ht hvm hw hB hz1 hk1 hS => ?_)
        obtain ⟨hP1, hD1⟩ := hB
        rw [ht] at hP1
        have hP := hP1
        have hD := hD1.weaken (fun k q _ h => hFc q.1 h)
        have hP : va_P (dC, dI) vwCl (wX9 cI cZ a (sr (sr M 0 (r41 0)) 3 (r41 3))) H1 := hP
        have hD : va_D A (wX9 cI cZ a (sr (sr M 0 (r41 0)) 3 (r41 3))) := hD
        generalize H1 = H at hP hS ⊢
        refine lv_aload_n hx hb dX9_serve_44 rfl (lv_at hl 0 rfl) ?_
        refine lv_iload_n hx hb dX9_serve_45 rfl (lv_at hl 1 rfl) ?_
        obtain ⟨r46, hc46, hf⟩ := bi_s hf
        have hPc := hP
        have hDc := hD
        have hFc := va_free (wc := (wX9 cI cZ a (sr (sr M 0 (r41 0)) 3 (r41 3)))) hD hS hA [0, 1, 2, 3, 4, 5, 6, 7, 8] rfl
        refine va_calli (va_runV (As := [.int a1]) (rest := []) ⟨hx, hb, hml, hown, hts⟩ (c_X9_serves l dC dI cI cZ a H.size (sr (sr M 0 (r41 0)) 3 (r41 3)) a1 r46 hc46) (cwV 1 hts gX9_serve_X9_serves rfl rfl rfl (by decide +kernel) ⟨Nat.le_of_ble_eq_true rfl, Nat.le_of_ble_eq_true rfl⟩) ⟨WR.blind, va_recv hK hP (ci := 9) (q0 := 0) rfl rfl, WR.pre hPc hK hDc hNW⟩ rfl rfl hl.1 rfl (lv_room (Nat.le_of_ble_eq_true rfl)) dX9_serve_46 ⟨Nat.le_of_ble_eq_true rfl, Nat.le_of_ble_eq_true rfl⟩) hS (fun q _ h => hFc q h) hFc (fun rv u t H1 locs ht hvm hw hB hz1 hk1 hS => ?_)
        obtain ⟨hP1, hD1⟩ := hB
        rw [ht] at hP1
        subst hw
        have hP := hP1
        have hD := hD1.weaken (fun k q _ h => hFc q.1 h)
        have hP : va_P (dC, dI) vwCl (wX9 cI cZ a (sr (sr (sr (sr M 0 (r41 0)) 1 (r46.2 1)) 3 (r41 3)) 8 (r46.2 8))) H1 := hP
        have hD : va_D A (wX9 cI cZ a (sr (sr (sr (sr M 0 (r41 0)) 1 (r46.2 1)) 3 (r41 3)) 8 (r46.2 8))) := hD
        generalize H1 = H at hP hS ⊢
        have e9 := so_e hf
        subst e9
        exact W.iret (v := r46.1) hx hb hr (fun t ht hW => ⟨⟨r46.1, (), rfl, rfl, WE.mk hP hD ht⟩, hS.F ht⟩) hS.2.2 dX9_serve_49
      · have hf := it_n hf c9
        exact hfX9_serve_B34  (sr M 0 (upd (M 0) 0 (0 : Int32))) hf _ (lv_sub hl [0] rfl) _ _ hP hD hS
  · have hf := it_n hf c9
    refine lv_aload_n hx hb dX9_serve_13 rfl (lv_at hl 0 rfl) ?_
    refine lv_iconst (v := (1 : Int32)) hx hb dX9_serve_14 (by decide) ?_
    obtain ⟨r15, hc15, hf⟩ := bi_s hf
    have hPc := hP
    have hDc := hD
    have hFc := va_free (wc := (wX9 cI cZ a (sr M 0 (upd (M 0) 0 (0 : Int32))))) hD hS hA [0, 1, 2, 3, 4, 5, 6, 7, 8] rfl
    refine va_calli (va_runV (As := [.int (1 : Int32)]) (rest := []) ⟨hx, hb, hml, hown, hts⟩ (c_X9_fails l dC dI cI cZ a H.size (sr M 0 (upd (M 0) 0 (0 : Int32))) (1 : Int32) r15 hc15) (cwV 1 hts gX9_serve_X9_fails rfl rfl rfl (by decide +kernel) ⟨Nat.le_of_ble_eq_true rfl, Nat.le_of_ble_eq_true rfl⟩) ⟨WR.blind, va_recv hK hP (ci := 9) (q0 := 0) rfl rfl, WR.pre hPc hK hDc hNW⟩ rfl rfl hl.1 rfl (lv_room (Nat.le_of_ble_eq_true rfl)) dX9_serve_15 ⟨Nat.le_of_ble_eq_true rfl, Nat.le_of_ble_eq_true rfl⟩) hS (fun q _ h => hFc q h) hFc (fun rv u t H1 locs ht hvm hw hB hz1 hk1 hS => ?_)
    obtain ⟨hP1, hD1⟩ := hB
    rw [ht] at hP1
    subst hw
    have hP := hP1
    have hD := hD1.weaken (fun k q _ h => hFc q.1 h)
    have hP : va_P (dC, dI) vwCl (wX9 cI cZ a (sr M 0 (r15.2 0))) H1 := hP
    have hD : va_D A (wX9 cI cZ a (sr M 0 (r15.2 0))) := hD
    generalize H1 = H at hP hS ⊢
    have e9 := so_e hf
    subst e9
    exact W.iret (v := r15.1) hx hb hr (fun t ht hW => ⟨⟨r15.1, (), rfl, rfl, WE.mk hP hD ht⟩, hS.F ht⟩) hS.2.2 dX9_serve_18
set_option maxHeartbeats 4000000 in
set_option maxRecDepth 100000 in
theorem c_X9_serveAll (l : Launch) (dC : Nat → ClassId) (dI : Nat → Nat → Nat) (cI cZ : ClassId) (a : Nat → Nat) (sz : Nat) (M : Mem) (z : Int32 × Mem) (hf : fX9_serveAll M  = some z) : Met l yX9_serveAll wsX9_serveAll ({ frames := 7, cells := 0, slots := 0, locals := 161 } : Room) (va_Pc [.ref (a 0)] (WR (dC, dI) cI cZ (wX9 cI cZ a M) sz)) (va_Qi (S := Unit) (fun r _ => r = z.1) (fun _ t => WE (dC, dI) cI cZ (wX9 cI cZ a (sr (sr (sr (sr M 0 (z.2 0)) 1 (z.2 1)) 3 (z.2 3)) 8 (z.2 8))) (va_A (wX9 cI cZ a M) sz) t) (va_A (wX9 cI cZ a M) sz)) 0 0 (va_A (wX9 cI cZ a M) sz) := by
  refine Met.ofW (cc := cX9_serveAll) (maxL := 1) (ret := (some .int)) (by decide) rfl ?_
  intro p e s m args below meth c s₁ B hml hv
  obtain ⟨rfl, hsz, hP, hK, hD0, hNW⟩ := hv
  have hx := B.exec
  have hb := B.bytes
  have hr := B.returns
  have hts := atoms_spec (ws := wsX9_serveAll) B.pre
  have hown : s.vm.findClass RX9 = some m.cls := findClass_of_methodNamed B.named
  have hlocks := B.notSynchronized
  have hinX9 : ∀ w ∈ u_ws RX9 TX9 13, w ∈ wsX9_serveAll := by decide +kernel
  have hw1 := hts (.fieldLink RX9 35 "GlideShelvesModel" "thrown" "I") (by decide +kernel)
  subst hsz
  have hD := hD0.self (sz := s.heap.size)
  generalize hAe : va_A (wX9 cI cZ a M) s.heap.size = A at hD ⊢
  have hA : ∀ q : Nat, s.heap.size ≤ q → A q := fun q h => by rw [← hAe]; exact Or.inr h
  have hS : va_S A s.heap s.heap [] := va_S.rf
  have hl := lv_entry ([.ref (a 0)]) (n := 1) (Nat.le_of_ble_eq_true rfl)
  rw [lg_entry_eq]
  generalize (lg_sl ([.ref (a 0)]) ++ List.replicate (1 - (lg_sl ([.ref (a 0)])).length) Slot.unset).toArray = ls at hl ⊢
  have hl : lv_has ls 1 [(0, .ref (a 0))] := hl
  unfold fX9_serveAll at hf
  suffices hgo : ∀ (H : Heap) (locs : List Loc), va_P (dC, dI) vwCl (wX9 cI cZ a M) H → va_D A (wX9 cI cZ a M) → va_S A s.heap H locs → W p l e (headSpec wsX9_serveAll ({ frames := 7, cells := 0, slots := 0, locals := 161 } : Room)).room s m ([.ref (a 0)] : List Value).toArray below meth c H locs 0 0 (MQ below (va_Qi (S := Unit) (fun r _ => r = z.1) (fun _ t => WE (dC, dI) cI cZ (wX9 cI cZ a (sr (sr (sr (sr M 0 (z.2 0)) 1 (z.2 1)) 3 (z.2 3)) 8 (z.2 8))) A t) A) ([.ref (a 0)] : List Value).toArray s 0 0 A) (F0 m 0 ls []) from hgo _ _ hP hD hS
  intro H locs hP hD hS
  refine lv_aload_n hx hb dX9_serveAll_0 rfl (lv_at hl 0 rfl) ?_
  refine lv_iconst (v := (0 : Int32)) hx hb dX9_serveAll_1 (by decide) ?_
  refine va_put (D := (dC, dI)) (ci := 9) (v := .int (0 : Int32)) (ty := .int) (C := RX9) (T := TX9) (N := 13) hx hb hts hinX9 tyX9 tyX9_ok nmX9 hown hK hP hD hS 0 rfl rfl 0 (by decide) hw1 (fun _ h9 => h9) rfl (by decide +kernel) rfl rfl (Nat.le_of_ble_eq_true rfl) dX9_serveAll_2 (fun H locs hP hD hS => ?_)
  have hP : va_P (dC, dI) vwCl (wX9 cI cZ a (sr M 0 (upd (M 0) 0 (0 : Int32)))) H := hP
  have hD : va_D A (wX9 cI cZ a (sr M 0 (upd (M 0) 0 (0 : Int32)))) := hD
  refine lv_aload_n hx hb dX9_serveAll_5 rfl (lv_at hl 0 rfl) ?_
  obtain ⟨r6, hc6, hf⟩ := bi_s hf
  have hPc := hP
  refine cRO (W.runV (As := []) (rest := []) ⟨hx, hb, hml, hown, hts⟩ (c_X9_hasWindow l dC dI cI cZ a (sr M 0 (upd (M 0) 0 (0 : Int32))) r6 hc6) (cwV 0 hts gX9_serveAll_X9_hasWindow rfl rfl rfl (by decide +kernel) ⟨Nat.le_of_ble_eq_true rfl, Nat.le_of_ble_eq_true rfl⟩) ⟨RO.blind, va_recv hK hP (ci := 9) (q0 := 0) rfl rfl, RO.pre hPc hK hNW⟩ rfl rfl hl.1 rfl (lv_room (Nat.le_of_ble_eq_true rfl)) dX9_serveAll_6 ⟨Nat.le_of_ble_eq_true rfl, Nat.le_of_ble_eq_true rfl⟩) ?_
  refine lv_if_eq (tgt := 18) hx hb dX9_serveAll_9 (by decide) (fun c9 => ?_) (fun c9 => ?_)
  · have hf := it_t hf c9
    refine lv_aload_n hx hb dX9_serveAll_18 rfl (lv_at hl 0 rfl) ?_
    obtain ⟨r19, hc19, hf⟩ := bi_s hf
    have hPc := hP
    have hDc := hD
    have hFc := va_free (wc := (wX9 cI cZ a (sr M 0 (upd (M 0) 0 (0 : Int32))))) hD hS hA [0, 1, 2, 3, 4, 5, 6, 7, 8] rfl
    refine va_callv (va_runV (As := []) (rest := []) ⟨hx, hb, hml, hown, hts⟩ (c_X9_records l dC dI cI cZ a H.size (sr M 0 (upd (M 0) 0 (0 : Int32))) r19 hc19) (cwV 0 hts gX9_serveAll_X9_records rfl rfl rfl (by decide +kernel) ⟨Nat.le_of_ble_eq_true rfl, Nat.le_of_ble_eq_true rfl⟩) ⟨WR.blind, va_recv hK hP (ci := 9) (q0 := 0) rfl rfl, WR.pre hPc hK hDc hNW⟩ rfl rfl hl.1 rfl (lv_room (Nat.le_of_ble_eq_true rfl)) dX9_serveAll_19 ⟨Nat.le_of_ble_eq_true rfl, Nat.le_of_ble_eq_true rfl⟩) hS (fun q _ h => hFc q h) hFc (fun u t H1 locs ht hvm hw hB hz1 hk1 hS => ?_)
    obtain ⟨hP1, hD1⟩ := hB
    rw [ht] at hP1
    have hP := hP1
    have hD := hD1.weaken (fun k q _ h => hFc q.1 h)
    have hP : va_P (dC, dI) vwCl (wX9 cI cZ a (sr (sr M 0 (r19 0)) 3 (r19 3))) H1 := hP
    have hD : va_D A (wX9 cI cZ a (sr (sr M 0 (r19 0)) 3 (r19 3))) := hD
    generalize H1 = H at hP hS ⊢
    refine lv_aload_n hx hb dX9_serveAll_22 rfl (lv_at hl 0 rfl) ?_
    obtain ⟨r23, hc23, hf⟩ := bi_s hf
    have hPc := hP
    have hDc := hD
    have hFc := va_free (wc := (wX9 cI cZ a (sr (sr M 0 (r19 0)) 3 (r19 3)))) hD hS hA [0, 1, 2, 3, 4, 5, 6, 7, 8] rfl
    refine va_calli (va_runV (As := []) (rest := []) ⟨hx, hb, hml, hown, hts⟩ (c_X9_servesAll l dC dI cI cZ a H.size (sr (sr M 0 (r19 0)) 3 (r19 3)) r23 hc23) (cwV 0 hts gX9_serveAll_X9_servesAll rfl rfl rfl (by decide +kernel) ⟨Nat.le_of_ble_eq_true rfl, Nat.le_of_ble_eq_true rfl⟩) ⟨WR.blind, va_recv hK hP (ci := 9) (q0 := 0) rfl rfl, WR.pre hPc hK hDc hNW⟩ rfl rfl hl.1 rfl (lv_room (Nat.le_of_ble_eq_true rfl)) dX9_serveAll_23 ⟨Nat.le_of_ble_eq_true rfl, Nat.le_of_ble_eq_true rfl⟩) hS (fun q _ h => hFc q h) hFc (fun rv u t H1 locs ht hvm hw hB hz1 hk1 hS => ?_)
    obtain ⟨hP1, hD1⟩ := hB
    rw [ht] at hP1
    subst hw
    have hP := hP1
    have hD := hD1.weaken (fun k q _ h => hFc q.1 h)
    have hP : va_P (dC, dI) vwCl (wX9 cI cZ a (sr (sr (sr (sr M 0 (r19 0)) 1 (r23.2 1)) 3 (r19 3)) 8 (r23.2 8))) H1 := hP
    have hD : va_D A (wX9 cI cZ a (sr (sr (sr (sr M 0 (r19 0)) 1 (r23.2 1)) 3 (r19 3)) 8 (r23.2 8))) := hD
    generalize H1 = H at hP hS ⊢
    have e9 := so_e hf
    subst e9
    exact W.iret (v := r23.1) hx hb hr (fun t ht hW => ⟨⟨r23.1, (), rfl, rfl, WE.mk hP hD ht⟩, hS.F ht⟩) hS.2.2 dX9_serveAll_26
  · have hf := it_f hf c9
    refine lv_aload_n hx hb dX9_serveAll_12 rfl (lv_at hl 0 rfl) ?_
    refine lv_iconst (v := (1 : Int32)) hx hb dX9_serveAll_13 (by decide) ?_
    obtain ⟨r14, hc14, hf⟩ := bi_s hf
    have hPc := hP
    have hDc := hD
    have hFc := va_free (wc := (wX9 cI cZ a (sr M 0 (upd (M 0) 0 (0 : Int32))))) hD hS hA [0, 1, 2, 3, 4, 5, 6, 7, 8] rfl
    refine va_calli (va_runV (As := [.int (1 : Int32)]) (rest := []) ⟨hx, hb, hml, hown, hts⟩ (c_X9_fails l dC dI cI cZ a H.size (sr M 0 (upd (M 0) 0 (0 : Int32))) (1 : Int32) r14 hc14) (cwV 1 hts gX9_serveAll_X9_fails rfl rfl rfl (by decide +kernel) ⟨Nat.le_of_ble_eq_true rfl, Nat.le_of_ble_eq_true rfl⟩) ⟨WR.blind, va_recv hK hP (ci := 9) (q0 := 0) rfl rfl, WR.pre hPc hK hDc hNW⟩ rfl rfl hl.1 rfl (lv_room (Nat.le_of_ble_eq_true rfl)) dX9_serveAll_14 ⟨Nat.le_of_ble_eq_true rfl, Nat.le_of_ble_eq_true rfl⟩) hS (fun q _ h => hFc q h) hFc (fun rv u t H1 locs ht hvm hw hB hz1 hk1 hS => ?_)
    obtain ⟨hP1, hD1⟩ := hB
    rw [ht] at hP1
    subst hw
    have hP := hP1
    have hD := hD1.weaken (fun k q _ h => hFc q.1 h)
    have hP : va_P (dC, dI) vwCl (wX9 cI cZ a (sr M 0 (r14.2 0))) H1 := hP
    have hD : va_D A (wX9 cI cZ a (sr M 0 (r14.2 0))) := hD
    generalize H1 = H at hP hS ⊢
    have e9 := so_e hf
    subst e9
    exact W.iret (v := r14.1) hx hb hr (fun t ht hW => ⟨⟨r14.1, (), rfl, rfl, WE.mk hP hD ht⟩, hS.F ht⟩) hS.2.2 dX9_serveAll_17
set_option maxHeartbeats 4000000 in
set_option maxRecDepth 100000 in
theorem c_X9_sets (l : Launch) (dC : Nat → ClassId) (dI : Nat → Nat → Nat) (cI cZ : ClassId) (a : Nat → Nat) (sz : Nat) (M : Mem) (a1 : Int32) (a2 : Int32) (z : Int32 × Mem) (hf : fX9_sets M a1 a2 = some z) : Met l yX9_sets wsX9_sets ({ frames := 0, cells := 0, slots := 0, locals := 0 } : Room) (va_Pc [.ref (a 0), .int a1, .int a2] (WR (dC, dI) cI cZ (wX9 cI cZ a M) sz)) (va_Qi (S := Unit) (fun r _ => r = z.1) (fun _ t => WE (dC, dI) cI cZ (wX9 cI cZ a (sr M 1 (z.2 1))) (va_A (wX9 cI cZ a M) sz) t) (va_A (wX9 cI cZ a M) sz)) 0 0 (va_A (wX9 cI cZ a M) sz) := by
  refine Met.ofW (cc := cX9_sets) (maxL := 4) (ret := (some .int)) (by decide) rfl ?_
  intro p e s m args below meth c s₁ B hml hv
  obtain ⟨rfl, hsz, hP, hK, hD0, hNW⟩ := hv
  have hx := B.exec
  have hb := B.bytes
  have hr := B.returns
  have hts := atoms_spec (ws := wsX9_sets) B.pre
  have hown : s.vm.findClass RX9 = some m.cls := findClass_of_methodNamed B.named
  have hlocks := B.notSynchronized
  have hinX9 : ∀ w ∈ u_ws RX9 TX9 13, w ∈ wsX9_sets := by decide +kernel
  have hw1 := hts (.fieldLink RX9 7 "GlideShelvesModel" "s" "[I") (by decide +kernel)
  subst hsz
  have hD := hD0.self (sz := s.heap.size)
  generalize hAe : va_A (wX9 cI cZ a M) s.heap.size = A at hD ⊢
  have hA : ∀ q : Nat, s.heap.size ≤ q → A q := fun q h => by rw [← hAe]; exact Or.inr h
  have hS : va_S A s.heap s.heap [] := va_S.rf
  have hl := lv_entry ([.ref (a 0), .int a1, .int a2]) (n := 4) (Nat.le_of_ble_eq_true rfl)
  rw [lg_entry_eq]
  generalize (lg_sl ([.ref (a 0), .int a1, .int a2]) ++ List.replicate (4 - (lg_sl ([.ref (a 0), .int a1, .int a2])).length) Slot.unset).toArray = ls at hl ⊢
  have hl : lv_has ls 4 [(0, .ref (a 0)), (1, .int a1), (2, .int a2)] := hl
  unfold fX9_sets at hf
  suffices hgo : ∀ (H : Heap) (locs : List Loc), va_P (dC, dI) vwCl (wX9 cI cZ a M) H → va_D A (wX9 cI cZ a M) → va_S A s.heap H locs → W p l e (headSpec wsX9_sets ({ frames := 0, cells := 0, slots := 0, locals := 0 } : Room)).room s m ([.ref (a 0), .int a1, .int a2] : List Value).toArray below meth c H locs 0 0 (MQ below (va_Qi (S := Unit) (fun r _ => r = z.1) (fun _ t => WE (dC, dI) cI cZ (wX9 cI cZ a (sr M 1 (z.2 1))) A t) A) ([.ref (a 0), .int a1, .int a2] : List Value).toArray s 0 0 A) (F0 m 0 ls []) from hgo _ _ hP hD hS
  intro H locs hP hD hS
  refine lv_aload_n hx hb dX9_sets_0 rfl (lv_at hl 0 rfl) ?_
  refine va_get (D := (dC, dI)) (ci := 9) (v := .ref (a 1)) (C := RX9) (T := TX9) (N := 13) hx hb hts hinX9 hown hK hP 0 rfl rfl 1 (by decide) hw1 (fun _ h9 => h9) rfl dX9_sets_1 ?_
  refine lv_iload_n hx hb dX9_sets_4 rfl (lv_at hl 1 rfl) ?_
  obtain ⟨hi, hf⟩ := gd_s hf
  refine va_iald (D := (dC, dI)) (f := (M 1)) hx hb hK hP 1 0 rfl rfl (inb_in hi) dX9_sets_5 ?_
  refine lv_istore_n (lv' := [(3, .int (M 1 a1.toNatClampNeg)), (0, .ref (a 0)), (1, .int a1), (2, .int a2)]) hx hb dX9_sets_6 rfl hl (by decide) rfl (fun ls hl => ?_)
  refine lv_aload_n hx hb dX9_sets_7 rfl (lv_at hl 1 rfl) ?_
  refine va_get (D := (dC, dI)) (ci := 9) (v := .ref (a 1)) (C := RX9) (T := TX9) (N := 13) hx hb hts hinX9 hown hK hP 0 rfl rfl 1 (by decide) hw1 (fun _ h9 => h9) rfl dX9_sets_8 ?_
  refine lv_iload_n hx hb dX9_sets_11 rfl (lv_at hl 2 rfl) ?_
  refine lv_iload_n hx hb dX9_sets_12 rfl (lv_at hl 3 rfl) ?_
  obtain ⟨hi, hf⟩ := gd_s hf
  refine va_iast (D := (dC, dI)) (f := (M 1)) hx hb hK hP hD hS 1 0 rfl rfl (inb_in hi) dX9_sets_13 (fun H locs hP hD hS => ?_)
  have hP : va_P (dC, dI) vwCl (wX9 cI cZ a (sr M 1 (upd (M 1) a1.toNatClampNeg a2))) H := hP
  have hD : va_D A (wX9 cI cZ a (sr M 1 (upd (M 1) a1.toNatClampNeg a2))) := hD
  refine lv_iload_n hx hb dX9_sets_14 rfl (lv_at hl 0 rfl) ?_
  have e9 := so_e hf
  subst e9
  exact W.iret (v := (M 1 a1.toNatClampNeg)) hx hb hr (fun t ht hW => ⟨⟨(M 1 a1.toNatClampNeg), (), rfl, rfl, WE.mk hP hD ht⟩, hS.F ht⟩) hS.2.2 dX9_sets_15
set_option maxHeartbeats 4000000 in
set_option maxRecDepth 100000 in
theorem c_X9_changeLeast (l : Launch) (dC : Nat → ClassId) (dI : Nat → Nat → Nat) (cI cZ : ClassId) (a : Nat → Nat) (sz : Nat) (M : Mem) (a1 : Int32) (a2 : Int32) (z : Int32 × Mem) (hf : fX9_changeLeast M a1 a2 = some z) : Met l yX9_changeLeast wsX9_changeLeast ({ frames := 2, cells := 0, slots := 0, locals := 42 } : Room) (va_Pc [.ref (a 0), .int a1, .int a2] (WR (dC, dI) cI cZ (wX9 cI cZ a M) sz)) (va_Qi (S := Unit) (fun r _ => r = z.1) (fun _ t => WE (dC, dI) cI cZ (wX9 cI cZ a (sr (sr (sr M 0 (z.2 0)) 1 (z.2 1)) 3 (z.2 3))) (va_A (wX9 cI cZ a M) sz) t) (va_A (wX9 cI cZ a M) sz)) 0 0 (va_A (wX9 cI cZ a M) sz) := by
  refine Met.ofW (cc := cX9_changeLeast) (maxL := 3) (ret := (some .int)) (by decide) rfl ?_
  intro p e s m args below meth c s₁ B hml hv
  obtain ⟨rfl, hsz, hP, hK, hD0, hNW⟩ := hv
  have hx := B.exec
  have hb := B.bytes
  have hr := B.returns
  have hts := atoms_spec (ws := wsX9_changeLeast) B.pre
  have hown : s.vm.findClass RX9 = some m.cls := findClass_of_methodNamed B.named
  have hlocks := B.notSynchronized
  have hinX9 : ∀ w ∈ u_ws RX9 TX9 13, w ∈ wsX9_changeLeast := by decide +kernel
  have hw1 := hts (.fieldLink RX9 35 "GlideShelvesModel" "thrown" "I") (by decide +kernel)
  subst hsz
  have hD := hD0.self (sz := s.heap.size)
  generalize hAe : va_A (wX9 cI cZ a M) s.heap.size = A at hD ⊢
  have hA : ∀ q : Nat, s.heap.size ≤ q → A q := fun q h => by rw [← hAe]; exact Or.inr h
  have hS : va_S A s.heap s.heap [] := va_S.rf
  have hl := lv_entry ([.ref (a 0), .int a1, .int a2]) (n := 3) (Nat.le_of_ble_eq_true rfl)
  rw [lg_entry_eq]
  generalize (lg_sl ([.ref (a 0), .int a1, .int a2]) ++ List.replicate (3 - (lg_sl ([.ref (a 0), .int a1, .int a2])).length) Slot.unset).toArray = ls at hl ⊢
  have hl : lv_has ls 3 [(0, .ref (a 0)), (1, .int a1), (2, .int a2)] := hl
  unfold fX9_changeLeast at hf
  suffices hgo : ∀ (H : Heap) (locs : List Loc), va_P (dC, dI) vwCl (wX9 cI cZ a M) H → va_D A (wX9 cI cZ a M) → va_S A s.heap H locs → W p l e (headSpec wsX9_changeLeast ({ frames := 2, cells := 0, slots := 0, locals := 42 } : Room)).room s m ([.ref (a 0), .int a1, .int a2] : List Value).toArray below meth c H locs 0 0 (MQ below (va_Qi (S := Unit) (fun r _ => r = z.1) (fun _ t => WE (dC, dI) cI cZ (wX9 cI cZ a (sr (sr (sr M 0 (z.2 0)) 1 (z.2 1)) 3 (z.2 3))) A t) A) ([.ref (a 0), .int a1, .int a2] : List Value).toArray s 0 0 A) (F0 m 0 ls []) from hgo _ _ hP hD hS
  intro H locs hP hD hS
  refine lv_aload_n hx hb dX9_changeLeast_0 rfl (lv_at hl 0 rfl) ?_
  refine lv_iconst (v := (0 : Int32)) hx hb dX9_changeLeast_1 (by decide) ?_
  refine va_put (D := (dC, dI)) (ci := 9) (v := .int (0 : Int32)) (ty := .int) (C := RX9) (T := TX9) (N := 13) hx hb hts hinX9 tyX9 tyX9_ok nmX9 hown hK hP hD hS 0 rfl rfl 0 (by decide) hw1 (fun _ h9 => h9) rfl (by decide +kernel) rfl rfl (Nat.le_of_ble_eq_true rfl) dX9_changeLeast_2 (fun H locs hP hD hS => ?_)
  have hP : va_P (dC, dI) vwCl (wX9 cI cZ a (sr M 0 (upd (M 0) 0 (0 : Int32)))) H := hP
  have hD : va_D A (wX9 cI cZ a (sr M 0 (upd (M 0) 0 (0 : Int32)))) := hD
  refine lv_iload_n hx hb dX9_changeLeast_5 rfl (lv_at hl 1 rfl) ?_
  obtain ⟨r6, hc6, hf⟩ := bi_s hf
  refine cRO (W.runS (As := [.int a1]) (rest := []) ⟨hx, hb, hml, hown, hts⟩ (c_X9_isKind l a1 r6 hc6) (va_cwS 1 hts gX9_changeLeast_X9_isKind rfl rfl rfl (by decide +kernel) ⟨Nat.le_of_ble_eq_true rfl, Nat.le_of_ble_eq_true rfl⟩) ⟨tr_blind, tr_pre⟩ rfl rfl hl.1 rfl (lv_room (Nat.le_of_ble_eq_true rfl)) dX9_changeLeast_6 ⟨Nat.le_of_ble_eq_true rfl, Nat.le_of_ble_eq_true rfl⟩) ?_
  refine lv_if_ne (tgt := 18) hx hb dX9_changeLeast_9 (by decide) (fun c9 => ?_) (fun c9 => ?_)
  · have hf := it_t hf c9
    refine lv_iload_n hx hb dX9_changeLeast_18 rfl (lv_at hl 2 rfl) ?_
    refine lv_iconst (v := (0 : Int32)) hx hb dX9_changeLeast_19 (by decide) ?_
    refine lv_bipush (v := (99 : Int32)) hx hb dX9_changeLeast_20 (by decide) ?_
    obtain ⟨r22, hc22, hf⟩ := bi_s hf
    refine cRO (W.runS (As := [.int a2, .int (0 : Int32), .int (99 : Int32)]) (rest := []) ⟨hx, hb, hml, hown, hts⟩ (c_X9_in l a2 (0 : Int32) (99 : Int32) r22 hc22) (va_cwS 3 hts gX9_changeLeast_X9_in rfl rfl rfl (by decide +kernel) ⟨Nat.le_of_ble_eq_true rfl, Nat.le_of_ble_eq_true rfl⟩) ⟨tr_blind, tr_pre⟩ rfl rfl hl.1 rfl (lv_room (Nat.le_of_ble_eq_true rfl)) dX9_changeLeast_22 ⟨Nat.le_of_ble_eq_true rfl, Nat.le_of_ble_eq_true rfl⟩) ?_
    refine lv_if_ne (tgt := 34) hx hb dX9_changeLeast_25 (by decide) (fun c9 => ?_) (fun c9 => ?_)
    · have hf := it_t hf c9
      refine lv_aload_n hx hb dX9_changeLeast_34 rfl (lv_at hl 0 rfl) ?_
      obtain ⟨r35, hc35, hf⟩ := bi_s hf
      have hPc := hP
      have hDc := hD
      have hFc := va_free (wc := (wX9 cI cZ a (sr M 0 (upd (M 0) 0 (0 : Int32))))) hD hS hA [0, 1, 2, 3, 4, 5, 6, 7, 8] rfl
      refine va_callv (va_runV (As := []) (rest := []) ⟨hx, hb, hml, hown, hts⟩ (c_X9_records l dC dI cI cZ a H.size (sr M 0 (upd (M 0) 0 (0 : Int32))) r35 hc35) (cwV 0 hts gX9_changeLeast_X9_records rfl rfl rfl (by decide +kernel) ⟨Nat.le_of_ble_eq_true rfl, Nat.le_of_ble_eq_true rfl⟩) ⟨WR.blind, va_recv hK hP (ci := 9) (q0 := 0) rfl rfl, WR.pre hPc hK hDc hNW⟩ rfl rfl hl.1 rfl (lv_room (Nat.le_of_ble_eq_true rfl)) dX9_changeLeast_35 ⟨Nat.le_of_ble_eq_true rfl, Nat.le_of_ble_eq_true rfl⟩) hS (fun q _ h => hFc q h) hFc (fun u t H1 locs ht hvm hw hB hz1 hk1 hS => ?_)
      obtain ⟨hP1, hD1⟩ := hB
      rw [ht] at hP1
      have hP := hP1
      have hD := hD1.weaken (fun k q _ h => hFc q.1 h)
      have hP : va_P (dC, dI) vwCl (wX9 cI cZ a (sr (sr M 0 (r35 0)) 3 (r35 3))) H1 := hP
      have hD : va_D A (wX9 cI cZ a (sr (sr M 0 (r35 0)) 3 (r35 3))) := hD
      generalize H1 = H at hP hS ⊢
      refine lv_aload_n hx hb dX9_changeLeast_38 rfl (lv_at hl 0 rfl) ?_
      refine lv_sipush (v := (187 : Int32)) hx hb dX9_changeLeast_39 (by decide) ?_
      refine lv_iload_n hx hb dX9_changeLeast_42 rfl (lv_at hl 1 rfl) ?_
      refine lv_iadd hx hb dX9_changeLeast_43 ?_
      refine lv_iload_n hx hb dX9_changeLeast_44 rfl (lv_at hl 2 rfl) ?_
      obtain ⟨r45, hc45, hf⟩ := bi_s hf
      have hPc := hP
      have hDc := hD
      have hFc := va_free (wc := (wX9 cI cZ a (sr (sr M 0 (r35 0)) 3 (r35 3)))) hD hS hA [0, 1, 2, 3, 4, 5, 6, 7, 8] rfl
      refine va_calli (va_runV (As := [.int ((187 : Int32) + a1), .int a2]) (rest := []) ⟨hx, hb, hml, hown, hts⟩ (c_X9_sets l dC dI cI cZ a H.size (sr (sr M 0 (r35 0)) 3 (r35 3)) ((187 : Int32) + a1) a2 r45 hc45) (cwV 2 hts gX9_changeLeast_X9_sets rfl rfl rfl (by decide +kernel) ⟨Nat.le_of_ble_eq_true rfl, Nat.le_of_ble_eq_true rfl⟩) ⟨WR.blind, va_recv hK hP (ci := 9) (q0 := 0) rfl rfl, WR.pre hPc hK hDc hNW⟩ rfl rfl hl.1 rfl (lv_room (Nat.le_of_ble_eq_true rfl)) dX9_changeLeast_45 ⟨Nat.le_of_ble_eq_true rfl, Nat.le_of_ble_eq_true rfl⟩) hS (fun q _ h => hFc q h) hFc (fun rv u t H1 locs ht hvm hw hB hz1 hk1 hS => ?_)
      obtain ⟨hP1, hD1⟩ := hB
      rw [ht] at hP1
      subst hw
      have hP := hP1
      have hD := hD1.weaken (fun k q _ h => hFc q.1 h)
      have hP : va_P (dC, dI) vwCl (wX9 cI cZ a (sr (sr (sr M 0 (r35 0)) 1 (r45.2 1)) 3 (r35 3))) H1 := hP
      have hD : va_D A (wX9 cI cZ a (sr (sr (sr M 0 (r35 0)) 1 (r45.2 1)) 3 (r35 3))) := hD
      generalize H1 = H at hP hS ⊢
      have e9 := so_e hf
      subst e9
      exact W.iret (v := r45.1) hx hb hr (fun t ht hW => ⟨⟨r45.1, (), rfl, rfl, WE.mk hP hD ht⟩, hS.F ht⟩) hS.2.2 dX9_changeLeast_48
    · have hf := it_n hf c9
      refine lv_aload_n hx hb dX9_changeLeast_28 rfl (lv_at hl 0 rfl) ?_
      refine lv_iconst (v := (2 : Int32)) hx hb dX9_changeLeast_29 (by decide) ?_
      obtain ⟨r30, hc30, hf⟩ := bi_s hf
      have hPc := hP
      have hDc := hD
      have hFc := va_free (wc := (wX9 cI cZ a (sr M 0 (upd (M 0) 0 (0 : Int32))))) hD hS hA [0, 1, 2, 3, 4, 5, 6, 7, 8] rfl
      refine va_calli (va_runV (As := [.int (2 : Int32)]) (rest := []) ⟨hx, hb, hml, hown, hts⟩ (c_X9_fails l dC dI cI cZ a H.size (sr M 0 (upd (M 0) 0 (0 : Int32))) (2 : Int32) r30 hc30) (cwV 1 hts gX9_changeLeast_X9_fails rfl rfl rfl (by decide +kernel) ⟨Nat.le_of_ble_eq_true rfl, Nat.le_of_ble_eq_true rfl⟩) ⟨WR.blind, va_recv hK hP (ci := 9) (q0 := 0) rfl rfl, WR.pre hPc hK hDc hNW⟩ rfl rfl hl.1 rfl (lv_room (Nat.le_of_ble_eq_true rfl)) dX9_changeLeast_30 ⟨Nat.le_of_ble_eq_true rfl, Nat.le_of_ble_eq_true rfl⟩) hS (fun q _ h => hFc q h) hFc (fun rv u t H1 locs ht hvm hw hB hz1 hk1 hS => ?_)
      obtain ⟨hP1, hD1⟩ := hB
      rw [ht] at hP1
      subst hw
      have hP := hP1
      have hD := hD1.weaken (fun k q _ h => hFc q.1 h)
      have hP : va_P (dC, dI) vwCl (wX9 cI cZ a (sr M 0 (r30.2 0))) H1 := hP
      have hD : va_D A (wX9 cI cZ a (sr M 0 (r30.2 0))) := hD
      generalize H1 = H at hP hS ⊢
      have e9 := so_e hf
      subst e9
      exact W.iret (v := r30.1) hx hb hr (fun t ht hW => ⟨⟨r30.1, (), rfl, rfl, WE.mk hP hD ht⟩, hS.F ht⟩) hS.2.2 dX9_changeLeast_33
  · have hf := it_n hf c9
    refine lv_aload_n hx hb dX9_changeLeast_12 rfl (lv_at hl 0 rfl) ?_
    refine lv_iconst (v := (1 : Int32)) hx hb dX9_changeLeast_13 (by decide) ?_
    obtain ⟨r14, hc14, hf⟩ := bi_s hf
    have hPc := hP
    have hDc := hD
    have hFc := va_free (wc := (wX9 cI cZ a (sr M 0 (upd (M 0) 0 (0 : Int32))))) hD hS hA [0, 1, 2, 3, 4, 5, 6, 7, 8] rfl
    refine va_calli (va_runV (As := [.int (1 : Int32)]) (rest := []) ⟨hx, hb, hml, hown, hts⟩ (c_X9_fails l dC dI cI cZ a H.size (sr M 0 (upd (M 0) 0 (0 : Int32))) (1 : Int32) r14 hc14) (cwV 1 hts gX9_changeLeast_X9_fails rfl rfl rfl (by decide +kernel) ⟨Nat.le_of_ble_eq_true rfl, Nat.le_of_ble_eq_true rfl⟩) ⟨WR.blind, va_recv hK hP (ci := 9) (q0 := 0) rfl rfl, WR.pre hPc hK hDc hNW⟩ rfl rfl hl.1 rfl (lv_room (Nat.le_of_ble_eq_true rfl)) dX9_changeLeast_14 ⟨Nat.le_of_ble_eq_true rfl, Nat.le_of_ble_eq_true rfl⟩) hS (fun q _ h => hFc q h) hFc (fun rv u t H1 locs ht hvm hw hB hz1 hk1 hS => ?_)
    obtain ⟨hP1, hD1⟩ := hB
    rw [ht] at hP1
    subst hw
    have hP := hP1
    have hD := hD1.weaken (fun k q _ h => hFc q.1 h)
    have hP : va_P (dC, dI) vwCl (wX9 cI cZ a (sr M 0 (r14.2 0))) H1 := hP
    have hD : va_D A (wX9 cI cZ a (sr M 0 (r14.2 0))) := hD
    generalize H1 = H at hP hS ⊢
    have e9 := so_e hf
    subst e9
    exact W.iret (v := r14.1) hx hb hr (fun t ht hW => ⟨⟨r14.1, (), rfl, rfl, WE.mk hP hD ht⟩, hS.F ht⟩) hS.2.2 dX9_changeLeast_17
set_option maxHeartbeats 4000000 in
set_option maxRecDepth 100000 in
theorem c_X9_canWeigh (l : Launch) (dC : Nat → ClassId) (dI : Nat → Nat → Nat) (cI cZ : ClassId) (a : Nat → Nat) (M : Mem) (a1 : Int32) (a2 : Int32) (z : Int32) (hf : fX9_canWeigh M a1 a2 = some z) : Met l yX9_canWeigh wsX9_canWeigh ({ frames := 2, cells := 0, slots := 0, locals := 45 } : Room) (va_Pc [.ref (a 0), .int a1, .int a2] (RO (dC, dI) cI cZ (wX9 cI cZ a M))) (k2_QcV (.int z)) 0 0 (fun _ => False) := by
  refine Met.ofW (cc := cX9_canWeigh) (maxL := 5) (ret := (some .boolean)) (by decide) rfl ?_
  intro p e s m args below meth c s₁ B hml hv
  obtain ⟨rfl, hP, hK, hNW⟩ := hv
  have hx := B.exec
  have hb := B.bytes
  have hr := B.returns
  have hts := atoms_spec (ws := wsX9_canWeigh) B.pre
  have hown : s.vm.findClass RX9 = some m.cls := findClass_of_methodNamed B.named
  have hlocks := B.notSynchronized
  have hinX9 : ∀ w ∈ u_ws RX9 TX9 13, w ∈ wsX9_canWeigh := by decide +kernel
  have hw1 := hts (.fieldLink RX9 7 "GlideShelvesModel" "s" "[I") (by decide +kernel)
  have hfX9_canWeigh_B60 : ∀ (kb : Int32 → Int32 → Int32 → Int32 → Option (Int32)) (hkb : ∀ (l1 : Int32) (l2 : Int32) (l3 : Int32) (l4 : Int32), kb l1 l2 l3 l4 = some z → ∀ (ls : Array Slot), lv_has ls 5 [(0, .ref (a 0)), (1, .int l1), (2, .int l2), (3, .int l3), (4, .int l4)] → W p l e (headSpec wsX9_canWeigh ({ frames := 2, cells := 0, slots := 0, locals := 45 } : Room)).room s m ([.ref (a 0), .int a1, .int a2] : List Value).toArray below meth c s.heap [] 0 0 (MQ below (k2_QcV (.int z)) ([.ref (a 0), .int a1, .int a2] : List Value).toArray s 0 0 (fun _ => False)) (F0 m 5 ls [])) (kx67 : Int32 → Option (Int32)) (hkx67 : ∀ (l3 : Int32), kx67 l3 = some z → ∀ (ls : Array Slot), lv_has ls 5 [(3, .int l3)] → W p l e (headSpec wsX9_canWeigh ({ frames := 2, cells := 0, slots := 0, locals := 45 } : Room)).room s m ([.ref (a 0), .int a1, .int a2] : List Value).toArray below meth c s.heap [] 0 0 (MQ below (k2_QcV (.int z)) ([.ref (a 0), .int a1, .int a2] : List Value).toArray s 0 0 (fun _ => False)) (F0 m 67 ls [])), ∀ (l1 : Int32) (l2 : Int32) (l4 : Int32) (s0 : Int32), fX9_canWeigh_B60 M kb kx67 l1 l2 l4 s0 = some z → ∀ (ls : Array Slot), lv_has ls 5 [(0, .ref (a 0)), (1, .int l1), (2, .int l2), (4, .int l4)] → W p l e (headSpec wsX9_canWeigh ({ frames := 2, cells := 0, slots := 0, locals := 45 } : Room)).room s m ([.ref (a 0), .int a1, .int a2] : List Value).toArray below meth c s.heap [] 0 0 (MQ below (k2_QcV (.int z)) ([.ref (a 0), .int a1, .int a2] : List Value).toArray s 0 0 (fun _ => False)) (F0 m 60 ls [.int s0]) := by
    intro kb hkb kx67 hkx67 l1 l2 l4 s0 hf ls hl
    unfold fX9_canWeigh_B60 at hf
    refine lv_istore_n (lv' := [(3, .int s0), (0, .ref (a 0)), (1, .int l1), (2, .int l2), (4, .int l4)]) hx hb dX9_canWeigh_60 rfl hl (by decide) rfl (fun ls hl => ?_)
    refine lv_iinc (v := (l4 + (1 : Int32))) (lv' := [(4, .int (l4 + (1 : Int32))), (3, .int s0), (0, .ref (a 0)), (1, .int l1), (2, .int l2)]) hx hb dX9_canWeigh_61 hl (k := 4) rfl rfl (by decide) rfl (fun ls hl => ?_)
    refine lv_goto (tgt := 5) hx hb dX9_canWeigh_64 (by decide) ?_
    exact hkb l1 l2 s0 (l4 + (1 : Int32)) hf _ (lv_sub hl [2, 3, 4, 1, 0] rfl)
  have hfX9_canWeigh_B59 : ∀ (kb : Int32 → Int32 → Int32 → Int32 → Option (Int32)) (hkb : ∀ (l1 : Int32) (l2 : Int32) (l3 : Int32) (l4 : Int32), kb l1 l2 l3 l4 = some z → ∀ (ls : Array Slot), lv_has ls 5 [(0, .ref (a 0)), (1, .int l1), (2, .int l2), (3, .int l3), (4, .int l4)] → W p l e (headSpec wsX9_canWeigh ({ frames := 2, cells := 0, slots := 0, locals := 45 } : Room)).room s m ([.ref (a 0), .int a1, .int a2] : List Value).toArray below meth c s.heap [] 0 0 (MQ below (k2_QcV (.int z)) ([.ref (a 0), .int a1, .int a2] : List Value).toArray s 0 0 (fun _ => False)) (F0 m 5 ls [])) (kx67 : Int32 → Option (Int32)) (hkx67 : ∀ (l3 : Int32), kx67 l3 = some z → ∀ (ls : Array Slot), lv_has ls 5 [(3, .int l3)] → W p l e (headSpec wsX9_canWeigh ({ frames := 2, cells := 0, slots := 0, locals := 45 } : Room)).room s m ([.ref (a 0), .int a1, .int a2] : List Value).toArray below meth c s.heap [] 0 0 (MQ below (k2_QcV (.int z)) ([.ref (a 0), .int a1, .int a2] : List Value).toArray s 0 0 (fun _ => False)) (F0 m 67 ls [])), ∀ (l1 : Int32) (l2 : Int32) (l4 : Int32), fX9_canWeigh_B59 M kb kx67 l1 l2 l4 = some z → ∀ (ls : Array Slot), lv_has ls 5 [(0, .ref (a 0)), (1, .int l1), (2, .int l2), (4, .int l4)] → W p l e (headSpec wsX9_canWeigh ({ frames := 2, cells := 0, slots := 0, locals := 45 } : Room)).room s m ([.ref (a 0), .int a1, .int a2] : List Value).toArray below meth c s.heap [] 0 0 (MQ below (k2_QcV (.int z)) ([.ref (a 0), .int a1, .int a2] : List Value).toArray s 0 0 (fun _ => False)) (F0 m 59 ls []) := by
    intro kb hkb kx67 hkx67 l1 l2 l4 hf ls hl
    unfold fX9_canWeigh_B59 at hf
    refine lv_iconst (v := (0 : Int32)) hx hb dX9_canWeigh_59 (by decide) ?_
    exact hfX9_canWeigh_B60 _ hkb _ hkx67 l1 l2 l4 (0 : Int32) hf _ (lv_sub hl [0, 1, 2, 3] rfl)
  have hfX9_canWeigh_L5 : ∀ (n : Nat) (kx67 : Int32 → Option (Int32)) (hkx67 : ∀ (l3 : Int32), kx67 l3 = some z → ∀ (ls : Array Slot), lv_has ls 5 [(3, .int l3)] → W p l e (headSpec wsX9_canWeigh ({ frames := 2, cells := 0, slots := 0, locals := 45 } : Room)).room s m ([.ref (a 0), .int a1, .int a2] : List Value).toArray below meth c s.heap [] 0 0 (MQ below (k2_QcV (.int z)) ([.ref (a 0), .int a1, .int a2] : List Value).toArray s 0 0 (fun _ => False)) (F0 m 67 ls [])), ∀ (l1 : Int32) (l2 : Int32) (l3 : Int32) (l4 : Int32), fX9_canWeigh_L5 M n kx67 l1 l2 l3 l4 = some z → ∀ (ls : Array Slot), lv_has ls 5 [(0, .ref (a 0)), (1, .int l1), (2, .int l2), (3, .int l3), (4, .int l4)] → W p l e (headSpec wsX9_canWeigh ({ frames := 2, cells := 0, slots := 0, locals := 45 } : Room)).room s m ([.ref (a 0), .int a1, .int a2] : List Value).toArray below meth c s.heap [] 0 0 (MQ below (k2_QcV (.int z)) ([.ref (a 0), .int a1, .int a2] : List Value).toArray s 0 0 (fun _ => False)) (F0 m 5 ls []) := by
    intro n
    induction n with
    | zero =>
      intro kx67 hkx67 l1 l2 l3 l4 hf ls hl
      rw [fX9_canWeigh_L5] at hf
      cases hf
    | succ n ih =>
      intro kx67 hkx67 l1 l2 l3 l4 hf ls hl
      rw [fX9_canWeigh_L5] at hf
      refine lv_iload hx hb dX9_canWeigh_5 (lv_at hl 4 rfl) ?_
      refine lv_aload_n hx hb dX9_canWeigh_7 rfl (lv_at hl 0 rfl) ?_
      refine va_get (D := (dC, dI)) (ci := 9) (v := .ref (a 1)) (C := RX9) (T := TX9) (N := 13) hx hb hts hinX9 hown hK hP 0 rfl rfl 1 (by decide) hw1 (fun _ h9 => h9) rfl dX9_canWeigh_8 ?_
      refine lv_iconst (v := (0 : Int32)) hx hb dX9_canWeigh_11 (by decide) ?_
      obtain ⟨hi, hf⟩ := gd_s hf
      refine va_iald (D := (dC, dI)) (f := (M 1)) hx hb hK hP 1 0 rfl rfl (inb_in hi) dX9_canWeigh_12 ?_
      refine lv_icmp_ge (tgt := 67) hx hb dX9_canWeigh_13 (by decide) (fun c9 => ?_) (fun c9 => ?_)
      · have hf := it_t hf c9
        exact hkx67 l3 hf _ (lv_sub hl [3] rfl)
      · have hf := it_f hf c9
        refine lv_iload_n hx hb dX9_canWeigh_16 rfl (lv_at hl 3 rfl) ?_
        refine lv_if_eq (tgt := 59) hx hb dX9_canWeigh_17 (by decide) (fun c9 => ?_) (fun c9 => ?_)
        · have hf := it_t hf c9
          exact hfX9_canWeigh_B59 _ (ih kx67 hkx67) _ hkx67 l1 l2 l4 hf _ (lv_sub hl [0, 1, 2, 4] rfl)
        · have hf := it_f hf c9
          refine lv_aload_n hx hb dX9_canWeigh_20 rfl (lv_at hl 0 rfl) ?_
          refine lv_iload hx hb dX9_canWeigh_21 (lv_at hl 4 rfl) ?_
          obtain ⟨r23, hc23, hf⟩ := bi_s hf
          have hPc := hP
          refine cRO (W.runV (As := [.int l4]) (rest := []) ⟨hx, hb, hml, hown, hts⟩ (c_X9_weight l dC dI cI cZ a M l4 r23 hc23) (cwV 1 hts gX9_canWeigh_X9_weight rfl rfl rfl (by decide +kernel) ⟨Nat.le_of_ble_eq_true rfl, Nat.le_of_ble_eq_true rfl⟩) ⟨RO.blind, va_recv hK hP (ci := 9) (q0 := 0) rfl rfl, RO.pre hPc hK hNW⟩ rfl rfl hl.1 rfl (lv_room (Nat.le_of_ble_eq_true rfl)) dX9_canWeigh_23 ⟨Nat.le_of_ble_eq_true rfl, Nat.le_of_ble_eq_true rfl⟩) ?_
          refine lv_aload_n hx hb dX9_canWeigh_26 rfl (lv_at hl 0 rfl) ?_
          refine lv_iload hx hb dX9_canWeigh_27 (lv_at hl 4 rfl) ?_
          refine lv_iconst (v := (4 : Int32)) hx hb dX9_canWeigh_29 (by decide) ?_
          refine lv_iload_n hx hb dX9_canWeigh_30 rfl (lv_at hl 1 rfl) ?_
          refine lv_iadd hx hb dX9_canWeigh_31 ?_
          obtain ⟨r32, hc32, hf⟩ := bi_s hf
          have hPc := hP
          refine cRO (W.runV (As := [.int l4, .int ((4 : Int32) + l1)]) (rest := [.int r23]) ⟨hx, hb, hml, hown, hts⟩ (c_X9_of l dC dI cI cZ a M l4 ((4 : Int32) + l1) r32 hc32) (cwV 2 hts gX9_canWeigh_X9_of rfl rfl rfl (by decide +kernel) ⟨Nat.le_of_ble_eq_true rfl, Nat.le_of_ble_eq_true rfl⟩) ⟨RO.blind, va_recv hK hP (ci := 9) (q0 := 0) rfl rfl, RO.pre hPc hK hNW⟩ rfl rfl hl.1 rfl (lv_room (Nat.le_of_ble_eq_true rfl)) dX9_canWeigh_32 ⟨Nat.le_of_ble_eq_true rfl, Nat.le_of_ble_eq_true rfl⟩) ?_
          refine lv_iload_n hx hb dX9_canWeigh_35 rfl (lv_at hl 2 rfl) ?_
          refine lv_aload_n hx hb dX9_canWeigh_36 rfl (lv_at hl 0 rfl) ?_
          refine va_get (D := (dC, dI)) (ci := 9) (v := .ref (a 1)) (C := RX9) (T := TX9) (N := 13) hx hb hts hinX9 hown hK hP 0 rfl rfl 1 (by decide) hw1 (fun _ h9 => h9) rfl dX9_canWeigh_37 ?_
          refine lv_sipush (v := (177 : Int32)) hx hb dX9_canWeigh_40 (by decide) ?_
          refine lv_iload_n hx hb dX9_canWeigh_43 rfl (lv_at hl 1 rfl) ?_
          refine lv_iadd hx hb dX9_canWeigh_44 ?_
          obtain ⟨hi, hf⟩ := gd_s hf
          refine va_iald (D := (dC, dI)) (f := (M 1)) hx hb hK hP 1 0 rfl rfl (inb_in hi) dX9_canWeigh_45 ?_
          refine lv_isub hx hb dX9_canWeigh_46 ?_
          refine lv_imul hx hb dX9_canWeigh_47 ?_
          refine lv_iadd hx hb dX9_canWeigh_48 ?_
          refine lv_sipush (v := (150 : Int32)) hx hb dX9_canWeigh_49 (by decide) ?_
          refine lv_icmp_gt (tgt := 59) hx hb dX9_canWeigh_52 (by decide) (fun c9 => ?_) (fun c9 => ?_)
          · have hf := it_t hf c9
            exact hfX9_canWeigh_B59 _ (ih kx67 hkx67) _ hkx67 l1 l2 l4 hf _ (lv_sub hl [0, 1, 2, 4] rfl)
          · have hf := it_f hf c9
            refine lv_iconst (v := (1 : Int32)) hx hb dX9_canWeigh_55 (by decide) ?_
            refine lv_goto (tgt := 60) hx hb dX9_canWeigh_56 (by decide) ?_
            exact hfX9_canWeigh_B60 _ (ih kx67 hkx67) _ hkx67 l1 l2 l4 (1 : Int32) hf _ (lv_sub hl [0, 1, 2, 4] rfl)
  have hl := lv_entry ([.ref (a 0), .int a1, .int a2]) (n := 5) (Nat.le_of_ble_eq_true rfl)
  rw [lg_entry_eq]
  generalize (lg_sl ([.ref (a 0), .int a1, .int a2]) ++ List.replicate (5 - (lg_sl ([.ref (a 0), .int a1, .int a2])).length) Slot.unset).toArray = ls at hl ⊢
  have hl : lv_has ls 5 [(0, .ref (a 0)), (1, .int a1), (2, .int a2)] := hl
  unfold fX9_canWeigh at hf
  refine lv_iconst (v := (1 : Int32)) hx hb dX9_canWeigh_0 (by decide) ?_
  refine lv_istore_n (lv' := [(3, .int (1 : Int32)), (0, .ref (a 0)), (1, .int a1), (2, .int a2)]) hx hb dX9_canWeigh_1 rfl hl (by decide) rfl (fun ls hl => ?_)
  refine lv_iconst (v := (0 : Int32)) hx hb dX9_canWeigh_2 (by decide) ?_
  refine lv_istore (lv' := [(4, .int (0 : Int32)), (3, .int (1 : Int32)), (0, .ref (a 0)), (1, .int a1), (2, .int a2)]) hx hb dX9_canWeigh_3 hl (by decide) rfl (fun ls hl => ?_)
  refine hfX9_canWeigh_L5 5000 _ (fun l3 hf ls hl => ?_) a1 a2 (1 : Int32) (0 : Int32) hf _ (lv_sub hl [2, 3, 4, 1, 0] rfl)
  refine lv_iload_n hx hb dX9_canWeigh_67 rfl (lv_at hl 0 rfl) ?_
  obtain ⟨hz, hf⟩ := gd_s hf
  exact W.zret (v := l3) hx hb hr (isb_nar hz) (fun t ht hW => ⟨congrArg (fun x => Outcome.returned (some (Value.int x))) (so_e hf), ht⟩) fl0 dX9_canWeigh_68
