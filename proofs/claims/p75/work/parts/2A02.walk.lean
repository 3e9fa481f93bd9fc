set_option maxHeartbeats 4000000 in
set_option maxRecDepth 100000 in
theorem c_X4_readDigit (l : Launch) (dC : Nat → ClassId) (dI : Nat → Nat → Nat) (cI cZ : ClassId) (a : Nat → Nat) (sz : Nat) (M : Mem) (a1 : Int32) (z : Int32 × Mem) (hf : fX4_readDigit M a1 = some z) : Met l yX4_readDigit wsX4_readDigit ({ frames := 0, cells := 0, slots := 0, locals := 0 } : Room) (va_Pc [.ref (a 0), .int a1] (WR (dC, dI) cI cZ (wX4 cI cZ a M) sz)) (va_Qi (S := Unit) (fun r _ => r = z.1) (fun _ t => WE (dC, dI) cI cZ (wX4 cI cZ a (sr M 1 (z.2 1))) (va_A (wX4 cI cZ a M) sz) t) (va_A (wX4 cI cZ a M) sz)) 0 0 (va_A (wX4 cI cZ a M) sz) := by
  refine Met.ofW (cc := cX4_readDigit) (maxL := 3) (ret := (some .boolean)) (by decide) rfl ?_
  intro p e s m args below meth c s₁ B hml hv
  obtain ⟨rfl, hsz, hP, hK, hD0, hNW⟩ := hv
  have hx := B.exec
  have hb := B.bytes
  have hr := B.returns
  have hts := atoms_spec (ws := wsX4_readDigit) B.pre
  have hown : s.vm.findClass RX4 = some m.cls := findClass_of_methodNamed B.named
  have hlocks := B.notSynchronized
  have hinX4 : ∀ w ∈ u_ws RX4 TX4 3, w ∈ wsX4_readDigit := by decide +kernel
  have hw1 := hts (.fieldLink RX4 15 "GlideShelves$OrderReader" "kind" "I") (by decide +kernel)
  have hw2 := hts (.fieldLink RX4 18 "GlideShelves$OrderReader" "numbers" "[I") (by decide +kernel)
  subst hsz
  have hD := hD0.self (sz := s.heap.size)
  generalize hAe : va_A (wX4 cI cZ a M) s.heap.size = A at hD ⊢
  have hA : ∀ q : Nat, s.heap.size ≤ q → A q := fun q h => by rw [← hAe]; exact Or.inr h
  have hS : va_S A s.heap s.heap [] := va_S.rf
  have hfX4_readDigit_B31 : ∀ (N : Mem), fX4_readDigit_B31 M  N = some z → ∀ (ls : Array Slot), lv_has ls 3 [] → ∀ (H : Heap) (locs : List Loc), va_P (dC, dI) vwCl (wX4 cI cZ a (sr M 1 (N 1))) H → va_D A (wX4 cI cZ a (sr M 1 (N 1))) → va_S A s.heap H locs → W p l e (headSpec wsX4_readDigit ({ frames := 0, cells := 0, slots := 0, locals := 0 } : Room)).room s m ([.ref (a 0), .int a1] : List Value).toArray below meth c H locs 0 0 (MQ below (va_Qi (S := Unit) (fun r _ => r = z.1) (fun _ t => WE (dC, dI) cI cZ (wX4 cI cZ a (sr M 1 (z.2 1))) A t) A) ([.ref (a 0), .int a1] : List Value).toArray s 0 0 A) (F0 m 31 ls []) := by
    intro  N hf ls hl H locs hP hD hS
    unfold fX4_readDigit_B31 at hf
    refine lv_iconst (v := (0 : Int32)) hx hb dX4_readDigit_31 (by decide) ?_
    obtain ⟨hz, hf⟩ := gd_s hf
    have e9 := so_e hf
    subst e9
    exact W.zret (v := (0 : Int32)) hx hb hr (isb_nar hz) (fun t ht hW => ⟨⟨(0 : Int32), (), rfl, rfl, WE.mk hP hD ht⟩, hS.F ht⟩) hS.2.2 dX4_readDigit_32
  have hfX4_readDigit_B75 : ∀ (N : Mem) (s0 : Int32), fX4_readDigit_B75 M  N s0 = some z → ∀ (ls : Array Slot), lv_has ls 3 [] → ∀ (H : Heap) (locs : List Loc), va_P (dC, dI) vwCl (wX4 cI cZ a (sr M 1 (N 1))) H → va_D A (wX4 cI cZ a (sr M 1 (N 1))) → va_S A s.heap H locs → W p l e (headSpec wsX4_readDigit ({ frames := 0, cells := 0, slots := 0, locals := 0 } : Room)).room s m ([.ref (a 0), .int a1] : List Value).toArray below meth c H locs 0 0 (MQ below (va_Qi (S := Unit) (fun r _ => r = z.1) (fun _ t => WE (dC, dI) cI cZ (wX4 cI cZ a (sr M 1 (z.2 1))) A t) A) ([.ref (a 0), .int a1] : List Value).toArray s 0 0 A) (F0 m 75 ls [.int s0]) := by
    intro  N s0 hf ls hl H locs hP hD hS
    unfold fX4_readDigit_B75 at hf
    obtain ⟨hz, hf⟩ := gd_s hf
    have e9 := so_e hf
    subst e9
    exact W.zret (v := s0) hx hb hr (isb_nar hz) (fun t ht hW => ⟨⟨s0, (), rfl, rfl, WE.mk hP hD ht⟩, hS.F ht⟩) hS.2.2 dX4_readDigit_75
  have hl := lv_entry ([.ref (a 0), .int a1]) (n := 3) (Nat.le_of_ble_eq_true rfl)
  rw [lg_entry_eq]
  generalize (lg_sl ([.ref (a 0), .int a1]) ++ List.replicate (3 - (lg_sl ([.ref (a 0), .int a1])).length) Slot.unset).toArray = ls at hl ⊢
  have hl : lv_has ls 3 [(0, .ref (a 0)), (1, .int a1)] := hl
  unfold fX4_readDigit at hf
  suffices hgo : ∀ (H : Heap) (locs : List Loc), va_P (dC, dI) vwCl (wX4 cI cZ a M) H → va_D A (wX4 cI cZ a M) → va_S A s.heap H locs → W p l e (headSpec wsX4_readDigit ({ frames := 0, cells := 0, slots := 0, locals := 0 } : Room)).room s m ([.ref (a 0), .int a1] : List Value).toArray below meth c H locs 0 0 (MQ below (va_Qi (S := Unit) (fun r _ => r = z.1) (fun _ t => WE (dC, dI) cI cZ (wX4 cI cZ a (sr M 1 (z.2 1))) A t) A) ([.ref (a 0), .int a1] : List Value).toArray s 0 0 A) (F0 m 0 ls []) from hgo _ _ hP hD hS
  intro H locs hP hD hS
  refine lv_iload_n hx hb dX4_readDigit_0 rfl (lv_at hl 1 rfl) ?_
  refine lv_bipush (v := (48 : Int32)) hx hb dX4_readDigit_1 (by decide) ?_
  refine lv_isub hx hb dX4_readDigit_3 ?_
  refine lv_istore_n (lv' := [(2, .int (a1 - (48 : Int32))), (0, .ref (a 0)), (1, .int a1)]) hx hb dX4_readDigit_4 rfl hl (by decide) rfl (fun ls hl => ?_)
  refine lv_iload_n hx hb dX4_readDigit_5 rfl (lv_at hl 0 rfl) ?_
  refine lv_if_lt (tgt := 31) hx hb dX4_readDigit_6 (by decide) (fun c9 => ?_) (fun c9 => ?_)
  · have hf := it_t hf c9
    exact hfX4_readDigit_B31  M hf _ (lv_sub hl [] rfl) _ _ hP hD hS
  · have hf := it_f hf c9
    refine lv_iload_n hx hb dX4_readDigit_9 rfl (lv_at hl 0 rfl) ?_
    refine lv_bipush (v := (9 : Int32)) hx hb dX4_readDigit_10 (by decide) ?_
    refine lv_icmp_gt (tgt := 31) hx hb dX4_readDigit_12 (by decide) (fun c9 => ?_) (fun c9 => ?_)
    · have hf := it_t hf c9
      exact hfX4_readDigit_B31  M hf _ (lv_sub hl [] rfl) _ _ hP hD hS
    · have hf := it_f hf c9
      refine lv_aload_n hx hb dX4_readDigit_15 rfl (lv_at hl 1 rfl) ?_
      refine va_get (D := (dC, dI)) (ci := 4) (v := .int (M 0 1)) (C := RX4) (T := TX4) (N := 3) hx hb hts hinX4 hown hK hP 0 rfl rfl 1 (by decide) hw1 (fun _ h9 => h9) rfl dX4_readDigit_16 ?_
      refine lv_if_lt (tgt := 31) hx hb dX4_readDigit_19 (by decide) (fun c9 => ?_) (fun c9 => ?_)
      · have hf := it_t hf c9
        exact hfX4_readDigit_B31  M hf _ (lv_sub hl [] rfl) _ _ hP hD hS
      · have hf := it_f hf c9
        refine lv_aload_n hx hb dX4_readDigit_22 rfl (lv_at hl 1 rfl) ?_
        refine va_get (D := (dC, dI)) (ci := 4) (v := .int (M 0 1)) (C := RX4) (T := TX4) (N := 3) hx hb hts hinX4 hown hK hP 0 rfl rfl 1 (by decide) hw1 (fun _ h9 => h9) rfl dX4_readDigit_23 ?_
        refine lv_bipush (v := (10 : Int32)) hx hb dX4_readDigit_26 (by decide) ?_
        refine lv_icmp_lt (tgt := 33) hx hb dX4_readDigit_28 (by decide) (fun c9 => ?_) (fun c9 => ?_)
        · have hf := it_t hf c9
          refine lv_aload_n hx hb dX4_readDigit_33 rfl (lv_at hl 1 rfl) ?_
          refine va_get (D := (dC, dI)) (ci := 4) (v := .ref (a 1)) (C := RX4) (T := TX4) (N := 3) hx hb hts hinX4 hown hK hP 0 rfl rfl 2 (by decide) hw2 (fun _ h9 => h9) rfl dX4_readDigit_34 ?_
          refine lv_aload_n hx hb dX4_readDigit_37 rfl (lv_at hl 1 rfl) ?_
          refine va_get (D := (dC, dI)) (ci := 4) (v := .int (M 0 1)) (C := RX4) (T := TX4) (N := 3) hx hb hts hinX4 hown hK hP 0 rfl rfl 1 (by decide) hw1 (fun _ h9 => h9) rfl dX4_readDigit_38 ?_
          refine lv_aload_n hx hb dX4_readDigit_41 rfl (lv_at hl 1 rfl) ?_
          refine va_get (D := (dC, dI)) (ci := 4) (v := .ref (a 1)) (C := RX4) (T := TX4) (N := 3) hx hb hts hinX4 hown hK hP 0 rfl rfl 2 (by decide) hw2 (fun _ h9 => h9) rfl dX4_readDigit_42 ?_
          refine lv_aload_n hx hb dX4_readDigit_45 rfl (lv_at hl 1 rfl) ?_
          refine va_get (D := (dC, dI)) (ci := 4) (v := .int (M 0 1)) (C := RX4) (T := TX4) (N := 3) hx hb hts hinX4 hown hK hP 0 rfl rfl 1 (by decide) hw1 (fun _ h9 => h9) rfl dX4_readDigit_46 ?_
          obtain ⟨hi, hf⟩ := gd_s hf
          refine va_iald (D := (dC, dI)) (f := (M 1)) hx hb hK hP 1 0 rfl rfl (inb_in hi) dX4_readDigit_49 ?_
          refine lv_bipush (v := (10 : Int32)) hx hb dX4_readDigit_50 (by decide) ?_
          refine lv_imul hx hb dX4_readDigit_52 ?_
          refine lv_iload_n hx hb dX4_readDigit_53 rfl (lv_at hl 0 rfl) ?_
          refine lv_iadd hx hb dX4_readDigit_54 ?_
          obtain ⟨hi, hf⟩ := gd_s hf
          refine va_iast (D := (dC, dI)) (f := (M 1)) hx hb hK hP hD hS 1 0 rfl rfl (inb_in hi) dX4_readDigit_55 (fun H locs hP hD hS => ?_)
          have hP : va_P (dC, dI) vwCl (wX4 cI cZ a (sr M 1 (upd (M 1) (M 0 1).toNatClampNeg (((M 1 (M 0 1).toNatClampNeg) * (10 : Int32)) + (a1 - (48 : Int32)))))) H := hP
          have hD : va_D A (wX4 cI cZ a (sr M 1 (upd (M 1) (M 0 1).toNatClampNeg (((M 1 (M 0 1).toNatClampNeg) * (10 : Int32)) + (a1 - (48 : Int32)))))) := hD
          refine lv_aload_n hx hb dX4_readDigit_56 rfl (lv_at hl 1 rfl) ?_
          refine va_get (D := (dC, dI)) (ci := 4) (v := .ref (a 1)) (C := RX4) (T := TX4) (N := 3) hx hb hts hinX4 hown hK hP 0 rfl rfl 2 (by decide) hw2 (fun _ h9 => h9) rfl dX4_readDigit_57 ?_
          refine lv_aload_n hx hb dX4_readDigit_60 rfl (lv_at hl 1 rfl) ?_
          refine va_get (D := (dC, dI)) (ci := 4) (v := .int (M 0 1)) (C := RX4) (T := TX4) (N := 3) hx hb hts hinX4 hown hK hP 0 rfl rfl 1 (by decide) hw1 (fun _ h9 => h9) rfl dX4_readDigit_61 ?_
          obtain ⟨hi, hf⟩ := gd_s hf
          refine va_iald (D := (dC, dI)) (f := (upd (M 1) (M 0 1).toNatClampNeg (((M 1 (M 0 1).toNatClampNeg) * (10 : Int32)) + (a1 - (48 : Int32))))) hx hb hK hP 1 0 rfl rfl (inb_in hi) dX4_readDigit_64 ?_
          refine lv_bipush (v := (20 : Int32)) hx hb dX4_readDigit_65 (by decide) ?_
          refine lv_icmp_gt (tgt := 74) hx hb dX4_readDigit_67 (by decide) (fun c9 => ?_) (fun c9 => ?_)
          · have hf := it_t hf c9
            refine lv_iconst (v := (0 : Int32)) hx hb dX4_readDigit_74 (by decide) ?_
            exact hfX4_readDigit_B75  (sr M 1 (upd (M 1) (M 0 1).toNatClampNeg (((M 1 (M 0 1).toNatClampNeg) * (10 : Int32)) + (a1 - (48 : Int32))))) (0 : Int32) hf _ (lv_sub hl [] rfl) _ _ hP hD hS
          · have hf := it_f hf c9
            refine lv_iconst (v := (1 : Int32)) hx hb dX4_readDigit_70 (by decide) ?_
            refine lv_goto (tgt := 75) hx hb dX4_readDigit_71 (by decide) ?_
            exact hfX4_readDigit_B75  (sr M 1 (upd (M 1) (M 0 1).toNatClampNeg (((M 1 (M 0 1).toNatClampNeg) * (10 : Int32)) + (a1 - (48 : Int32))))) (1 : Int32) hf _ (lv_sub hl [] rfl) _ _ hP hD hS
        · have hf := it_f hf c9
          exact hfX4_readDigit_B31  M hf _ (lv_sub hl [] rfl) _ _ hP hD hS
set_option maxHeartbeats 4000000 in
set_option maxRecDepth 100000 in
theorem c_X4_readKind (l : Launch) (dC : Nat → ClassId) (dI : Nat → Nat → Nat) (cI cZ : ClassId) (a : Nat → Nat) (sz : Nat) (M : Mem) (a1 : Int32) (z : Int32 × Mem) (hf : fX4_readKind M a1 = some z) : Met l yX4_readKind wsX4_readKind ({ frames := 0, cells := 0, slots := 0, locals := 0 } : Room) (va_Pc [.ref (a 0), .int a1] (WR (dC, dI) cI cZ (wX4 cI cZ a M) sz)) (va_Qi (S := Unit) (fun r _ => r = z.1) (fun _ t => WE (dC, dI) cI cZ (wX4 cI cZ a (sr M 0 (z.2 0))) (va_A (wX4 cI cZ a M) sz) t) (va_A (wX4 cI cZ a M) sz)) 0 0 (va_A (wX4 cI cZ a M) sz) := by
  refine Met.ofW (cc := cX4_readKind) (maxL := 3) (ret := (some .boolean)) (by decide) rfl ?_
  intro p e s m args below meth c s₁ B hml hv
  obtain ⟨rfl, hsz, hP, hK, hD0, hNW⟩ := hv
  have hx := B.exec
  have hb := B.bytes
  have hr := B.returns
  have hts := atoms_spec (ws := wsX4_readKind) B.pre
  have hown : s.vm.findClass RX4 = some m.cls := findClass_of_methodNamed B.named
  have hlocks := B.notSynchronized
  have hinX4 : ∀ w ∈ u_ws RX4 TX4 3, w ∈ wsX4_readKind := by decide +kernel
  have hw1 := hts (.fieldLink RX4 15 "GlideShelves$OrderReader" "kind" "I") (by decide +kernel)
  have hw2 := hts (.fieldLink RX4 11 "GlideShelves$OrderReader" "stage" "I") (by decide +kernel)
  subst hsz
  have hD := hD0.self (sz := s.heap.size)
  generalize hAe : va_A (wX4 cI cZ a M) s.heap.size = A at hD ⊢
  have hA : ∀ q : Nat, s.heap.size ≤ q → A q := fun q h => by rw [← hAe]; exact Or.inr h
  have hS : va_S A s.heap s.heap [] := va_S.rf
  have hfX4_readKind_B23 : ∀ (N : Mem), fX4_readKind_B23 M  N = some z → ∀ (ls : Array Slot), lv_has ls 3 [] → ∀ (H : Heap) (locs : List Loc), va_P (dC, dI) vwCl (wX4 cI cZ a (sr M 0 (N 0))) H → va_D A (wX4 cI cZ a (sr M 0 (N 0))) → va_S A s.heap H locs → W p l e (headSpec wsX4_readKind ({ frames := 0, cells := 0, slots := 0, locals := 0 } : Room)).room s m ([.ref (a 0), .int a1] : List Value).toArray below meth c H locs 0 0 (MQ below (va_Qi (S := Unit) (fun r _ => r = z.1) (fun _ t => WE (dC, dI) cI cZ (wX4 cI cZ a (sr M 0 (z.2 0))) A t) A) ([.ref (a 0), .int a1] : List Value).toArray s 0 0 A) (F0 m 23 ls []) := by
    intro  N hf ls hl H locs hP hD hS
    unfold fX4_readKind_B23 at hf
    refine lv_iconst (v := (0 : Int32)) hx hb dX4_readKind_23 (by decide) ?_
    obtain ⟨hz, hf⟩ := gd_s hf
    have e9 := so_e hf
    subst e9
    exact W.zret (v := (0 : Int32)) hx hb hr (isb_nar hz) (fun t ht hW => ⟨⟨(0 : Int32), (), rfl, rfl, WE.mk hP hD ht⟩, hS.F ht⟩) hS.2.2 dX4_readKind_24
  have hl := lv_entry ([.ref (a 0), .int a1]) (n := 3) (Nat.le_of_ble_eq_true rfl)
  rw [lg_entry_eq]
  generalize (lg_sl ([.ref (a 0), .int a1]) ++ List.replicate (3 - (lg_sl ([.ref (a 0), .int a1])).length) Slot.unset).toArray = ls at hl ⊢
  have hl : lv_has ls 3 [(0, .ref (a 0)), (1, .int a1)] := hl
  unfold fX4_readKind at hf
  suffices hgo : ∀ (H : Heap) (locs : List Loc), va_P (dC, dI) vwCl (wX4 cI cZ a M) H → va_D A (wX4 cI cZ a M) → va_S A s.heap H locs → W p l e (headSpec wsX4_readKind ({ frames := 0, cells := 0, slots := 0, locals := 0 } : Room)).room s m ([.ref (a 0), .int a1] : List Value).toArray below meth c H locs 0 0 (MQ below (va_Qi (S := Unit) (fun r _ => r = z.1) (fun _ t => WE (dC, dI) cI cZ (wX4 cI cZ a (sr M 0 (z.2 0))) A t) A) ([.ref (a 0), .int a1] : List Value).toArray s 0 0 A) (F0 m 0 ls []) from hgo _ _ hP hD hS
  intro H locs hP hD hS
  refine lv_iload_n hx hb dX4_readKind_0 rfl (lv_at hl 1 rfl) ?_
  refine lv_bipush (v := (48 : Int32)) hx hb dX4_readKind_1 (by decide) ?_
  refine lv_isub hx hb dX4_readKind_3 ?_
  refine lv_istore_n (lv' := [(2, .int (a1 - (48 : Int32))), (0, .ref (a 0)), (1, .int a1)]) hx hb dX4_readKind_4 rfl hl (by decide) rfl (fun ls hl => ?_)
  refine lv_iload_n hx hb dX4_readKind_5 rfl (lv_at hl 0 rfl) ?_
  refine lv_aload_n hx hb dX4_readKind_6 rfl (lv_at hl 1 rfl) ?_
  refine va_get (D := (dC, dI)) (ci := 4) (v := .int (M 0 1)) (C := RX4) (T := TX4) (N := 3) hx hb hts hinX4 hown hK hP 0 rfl rfl 1 (by decide) hw1 (fun _ h9 => h9) rfl dX4_readKind_7 ?_
  refine lv_icmp_le (tgt := 23) hx hb dX4_readKind_10 (by decide) (fun c9 => ?_) (fun c9 => ?_)
  · have hf := it_t hf c9
    exact hfX4_readKind_B23  M hf _ (lv_sub hl [] rfl) _ _ hP hD hS
  · have hf := it_f hf c9
    refine lv_iload_n hx hb dX4_readKind_13 rfl (lv_at hl 0 rfl) ?_
    refine lv_if_lt (tgt := 23) hx hb dX4_readKind_14 (by decide) (fun c9 => ?_) (fun c9 => ?_)
    · have hf := it_t hf c9
      exact hfX4_readKind_B23  M hf _ (lv_sub hl [] rfl) _ _ hP hD hS
    · have hf := it_f hf c9
      refine lv_iload_n hx hb dX4_readKind_17 rfl (lv_at hl 0 rfl) ?_
      refine lv_bipush (v := (10 : Int32)) hx hb dX4_readKind_18 (by decide) ?_
      refine lv_icmp_lt (tgt := 25) hx hb dX4_readKind_20 (by decide) (fun c9 => ?_) (fun c9 => ?_)
      · have hf := it_t hf c9
        refine lv_aload_n hx hb dX4_readKind_25 rfl (lv_at hl 1 rfl) ?_
        refine lv_iload_n hx hb dX4_readKind_26 rfl (lv_at hl 0 rfl) ?_
        refine va_put (D := (dC, dI)) (ci := 4) (v := .int (a1 - (48 : Int32))) (ty := .int) (C := RX4) (T := TX4) (N := 3) hx hb hts hinX4 tyX4 tyX4_ok nmX4 hown hK hP hD hS 0 rfl rfl 1 (by decide) hw1 (fun _ h9 => h9) rfl (by decide +kernel) rfl rfl (Nat.le_of_ble_eq_true rfl) dX4_readKind_27 (fun H locs hP hD hS => ?_)
        have hP : va_P (dC, dI) vwCl (wX4 cI cZ a (sr M 0 (upd (M 0) 1 (a1 - (48 : Int32))))) H := hP
        have hD : va_D A (wX4 cI cZ a (sr M 0 (upd (M 0) 1 (a1 - (48 : Int32))))) := hD
        refine lv_aload_n hx hb dX4_readKind_30 rfl (lv_at hl 1 rfl) ?_
        refine lv_iconst (v := (1 : Int32)) hx hb dX4_readKind_31 (by decide) ?_
        refine va_put (D := (dC, dI)) (ci := 4) (v := .int (1 : Int32)) (ty := .int) (C := RX4) (T := TX4) (N := 3) hx hb hts hinX4 tyX4 tyX4_ok nmX4 hown hK hP hD hS 0 rfl rfl 0 (by decide) hw2 (fun _ h9 => h9) rfl (by decide +kernel) rfl rfl (Nat.le_of_ble_eq_true rfl) dX4_readKind_32 (fun H locs hP hD hS => ?_)
        have hP : va_P (dC, dI) vwCl (wX4 cI cZ a (sr M 0 (upd (upd (M 0) 1 (a1 - (48 : Int32))) 0 (1 : Int32)))) H := hP
        have hD : va_D A (wX4 cI cZ a (sr M 0 (upd (upd (M 0) 1 (a1 - (48 : Int32))) 0 (1 : Int32)))) := hD
        refine lv_iconst (v := (1 : Int32)) hx hb dX4_readKind_35 (by decide) ?_
        obtain ⟨hz, hf⟩ := gd_s hf
        have e9 := so_e hf
        subst e9
        exact W.zret (v := (1 : Int32)) hx hb hr (isb_nar hz) (fun t ht hW => ⟨⟨(1 : Int32), (), rfl, rfl, WE.mk hP hD ht⟩, hS.F ht⟩) hS.2.2 dX4_readKind_36
      · have hf := it_f hf c9
        exact hfX4_readKind_B23  M hf _ (lv_sub hl [] rfl) _ _ hP hD hS
set_option maxHeartbeats 4000000 in
set_option maxRecDepth 100000 in
theorem c_X4_read (l : Launch) (dC : Nat → ClassId) (dI : Nat → Nat → Nat) (cI cZ : ClassId) (a : Nat → Nat) (sz : Nat) (M : Mem) (a1 : Int32) (z : Int32 × Mem) (hf : fX4_read M a1 = some z) : Met l yX4_read wsX4_read ({ frames := 1, cells := 0, slots := 0, locals := 22 } : Room) (va_Pc [.ref (a 0), .int a1] (WR (dC, dI) cI cZ (wX4 cI cZ a M) sz)) (va_Qi (S := Unit) (fun r _ => r = z.1) (fun _ t => WE (dC, dI) cI cZ (wX4 cI cZ a (sr (sr M 0 (z.2 0)) 1 (z.2 1))) (va_A (wX4 cI cZ a M) sz) t) (va_A (wX4 cI cZ a M) sz)) 0 0 (va_A (wX4 cI cZ a M) sz) := by
  refine Met.ofW (cc := cX4_read) (maxL := 2) (ret := (some .boolean)) (by decide) rfl ?_
  intro p e s m args below meth c s₁ B hml hv
  obtain ⟨rfl, hsz, hP, hK, hD0, hNW⟩ := hv
  have hx := B.exec
  have hb := B.bytes
  have hr := B.returns
  have hts := atoms_spec (ws := wsX4_read) B.pre
  have hown : s.vm.findClass RX4 = some m.cls := findClass_of_methodNamed B.named
  have hlocks := B.notSynchronized
  have hinX4 : ∀ w ∈ u_ws RX4 TX4 3, w ∈ wsX4_read := by decide +kernel
  have hw1 := hts (.fieldLink RX4 11 "GlideShelves$OrderReader" "stage" "I") (by decide +kernel)
  subst hsz
  have hD := hD0.self (sz := s.heap.size)
  generalize hAe : va_A (wX4 cI cZ a M) s.heap.size = A at hD ⊢
  have hA : ∀ q : Nat, s.heap.size ≤ q → A q := fun q h => by rw [← hAe]; exact Or.inr h
  have hS : va_S A s.heap s.heap [] := va_S.rf
  have hfX4_read_B54 : ∀ (N : Mem) (s0 : Int32), fX4_read_B54 M  N s0 = some z → ∀ (ls : Array Slot), lv_has ls 2 [] → ∀ (H : Heap) (locs : List Loc), va_P (dC, dI) vwCl (wX4 cI cZ a (sr (sr M 0 (N 0)) 1 (N 1))) H → va_D A (wX4 cI cZ a (sr (sr M 0 (N 0)) 1 (N 1))) → va_S A s.heap H locs → W p l e (headSpec wsX4_read ({ frames := 1, cells := 0, slots := 0, locals := 22 } : Room)).room s m ([.ref (a 0), .int a1] : List Value).toArray below meth c H locs 0 0 (MQ below (va_Qi (S := Unit) (fun r _ => r = z.1) (fun _ t => WE (dC, dI) cI cZ (wX4 cI cZ a (sr (sr M 0 (z.2 0)) 1 (z.2 1))) A t) A) ([.ref (a 0), .int a1] : List Value).toArray s 0 0 A) (F0 m 54 ls [.int s0]) := by
    intro  N s0 hf ls hl H locs hP hD hS
    unfold fX4_read_B54 at hf
    obtain ⟨hz, hf⟩ := gd_s hf
    have e9 := so_e hf
    subst e9
    exact W.zret (v := s0) hx hb hr (isb_nar hz) (fun t ht hW => ⟨⟨s0, (), rfl, rfl, WE.mk hP hD ht⟩, hS.F ht⟩) hS.2.2 dX4_read_54
  have hfX4_read_B79 : ∀ (N : Mem) (s0 : Int32), fX4_read_B79 M  N s0 = some z → ∀ (ls : Array Slot), lv_has ls 2 [] → ∀ (H : Heap) (locs : List Loc), va_P (dC, dI) vwCl (wX4 cI cZ a (sr (sr M 0 (N 0)) 1 (N 1))) H → va_D A (wX4 cI cZ a (sr (sr M 0 (N 0)) 1 (N 1))) → va_S A s.heap H locs → W p l e (headSpec wsX4_read ({ frames := 1, cells := 0, slots := 0, locals := 22 } : Room)).room s m ([.ref (a 0), .int a1] : List Value).toArray below meth c H locs 0 0 (MQ below (va_Qi (S := Unit) (fun r _ => r = z.1) (fun _ t => WE (dC, dI) cI cZ (wX4 cI cZ a (sr (sr M 0 (z.2 0)) 1 (z.2 1))) A t) A) ([.ref (a 0), .int a1] : List Value).toArray s 0 0 A) (F0 m 79 ls [.int s0]) := by
    intro  N s0 hf ls hl H locs hP hD hS
    unfold fX4_read_B79 at hf
    obtain ⟨hz, hf⟩ := gd_s hf
    have e9 := so_e hf
    subst e9
    exact W.zret (v := s0) hx hb hr (isb_nar hz) (fun t ht hW => ⟨⟨s0, (), rfl, rfl, WE.mk hP hD ht⟩, hS.F ht⟩) hS.2.2 dX4_read_79
  have hfX4_read_B78 : ∀ (N : Mem), fX4_read_B78 M  N = some z → ∀ (ls : Array Slot), lv_has ls 2 [] → ∀ (H : Heap) (locs : List Loc), va_P (dC, dI) vwCl (wX4 cI cZ a (sr (sr M 0 (N 0)) 1 (N 1))) H → va_D A (wX4 cI cZ a (sr (sr M 0 (N 0)) 1 (N 1))) → va_S A s.heap H locs → W p l e (headSpec wsX4_read ({ frames := 1, cells := 0, slots := 0, locals := 22 } : Room)).room s m ([.ref (a 0), .int a1] : List Value).toArray below meth c H locs 0 0 (MQ below (va_Qi (S := Unit) (fun r _ => r = z.1) (fun _ t => WE (dC, dI) cI cZ (wX4 cI cZ a (sr (sr M 0 (z.2 0)) 1 (z.2 1))) A t) A) ([.ref (a 0), .int a1] : List Value).toArray s 0 0 A) (F0 m 78 ls []) := by
    intro  N hf ls hl H locs hP hD hS
    unfold fX4_read_B78 at hf
    refine lv_iconst (v := (0 : Int32)) hx hb dX4_read_78 (by decide) ?_
    exact hfX4_read_B79  (sr (sr M 0 (N 0)) 1 (N 1)) (0 : Int32) hf _ (lv_sub hl [] rfl) _ _ hP hD hS
  have hfX4_read_B98 : ∀ (N : Mem) (s0 : Int32), fX4_read_B98 M  N s0 = some z → ∀ (ls : Array Slot), lv_has ls 2 [] → ∀ (H : Heap) (locs : List Loc), va_P (dC, dI) vwCl (wX4 cI cZ a (sr (sr M 0 (N 0)) 1 (N 1))) H → va_D A (wX4 cI cZ a (sr (sr M 0 (N 0)) 1 (N 1))) → va_S A s.heap H locs → W p l e (headSpec wsX4_read ({ frames := 1, cells := 0, slots := 0, locals := 22 } : Room)).room s m ([.ref (a 0), .int a1] : List Value).toArray below meth c H locs 0 0 (MQ below (va_Qi (S := Unit) (fun r _ => r = z.1) (fun _ t => WE (dC, dI) cI cZ (wX4 cI cZ a (sr (sr M 0 (z.2 0)) 1 (z.2 1))) A t) A) ([.ref (a 0), .int a1] : List Value).toArray s 0 0 A) (F0 m 98 ls [.int s0]) := by
    intro  N s0 hf ls hl H locs hP hD hS
    unfold fX4_read_B98 at hf
    obtain ⟨hz, hf⟩ := gd_s hf
    have e9 := so_e hf
    subst e9
    exact W.zret (v := s0) hx hb hr (isb_nar hz) (fun t ht hW => ⟨⟨s0, (), rfl, rfl, WE.mk hP hD ht⟩, hS.F ht⟩) hS.2.2 dX4_read_98
  have hl := lv_entry ([.ref (a 0), .int a1]) (n := 2) (Nat.le_of_ble_eq_true rfl)
  rw [lg_entry_eq]
  generalize (lg_sl ([.ref (a 0), .int a1]) ++ List.replicate (2 - (lg_sl ([.ref (a 0), .int a1])).length) Slot.unset).toArray = ls at hl ⊢
  have hl : lv_has ls 2 [(0, .ref (a 0)), (1, .int a1)] := hl
  unfold fX4_read at hf
  suffices hgo : ∀ (H : Heap) (locs : List Loc), va_P (dC, dI) vwCl (wX4 cI cZ a M) H → va_D A (wX4 cI cZ a M) → va_S A s.heap H locs → W p l e (headSpec wsX4_read ({ frames := 1, cells := 0, slots := 0, locals := 22 } : Room)).room s m ([.ref (a 0), .int a1] : List Value).toArray below meth c H locs 0 0 (MQ below (va_Qi (S := Unit) (fun r _ => r = z.1) (fun _ t => WE (dC, dI) cI cZ (wX4 cI cZ a (sr (sr M 0 (z.2 0)) 1 (z.2 1))) A t) A) ([.ref (a 0), .int a1] : List Value).toArray s 0 0 A) (F0 m 0 ls []) from hgo _ _ hP hD hS
  intro H locs hP hD hS
  refine lv_aload_n hx hb dX4_read_0 rfl (lv_at hl 0 rfl) ?_
  refine va_get (D := (dC, dI)) (ci := 4) (v := .int (M 0 0)) (C := RX4) (T := TX4) (N := 3) hx hb hts hinX4 hown hK hP 0 rfl rfl 0 (by decide) hw1 (fun _ h9 => h9) rfl dX4_read_1 ?_
  by_cases c900 : (M 0 0) = (0 : Int32)
  · have hf := it_t hf c900
    refine lv_tableIn (off := 28) (tgt := 32) hx hb dX4_read_4 (by rw [c900]; decide) (by rw [c900]; decide) (by rw [c900]; rfl) (by decide) ?_
    refine lv_aload_n hx hb dX4_read_32 rfl (lv_at hl 0 rfl) ?_
    refine lv_iload_n hx hb dX4_read_33 rfl (lv_at hl 1 rfl) ?_
    obtain ⟨r34, hc34, hf⟩ := bi_s hf
    have hPc := hP
    have hDc := hD
    have hFc := va_free (wc := (wX4 cI cZ a M)) hD hS hA [0, 1] rfl
    refine va_calli (va_runV (As := [.int a1]) (rest := []) ⟨hx, hb, hml, hown, hts⟩ (c_X4_readKind l dC dI cI cZ a H.size M a1 r34 hc34) (cwV 1 hts gX4_read_X4_readKind rfl rfl rfl (by decide +kernel) ⟨Nat.le_of_ble_eq_true rfl, Nat.le_of_ble_eq_true rfl⟩) ⟨WR.blind, va_recv hK hP (ci := 4) (q0 := 0) rfl rfl, WR.pre hPc hK hDc hNW⟩ rfl rfl hl.1 rfl (lv_room (Nat.le_of_ble_eq_true rfl)) dX4_read_34 ⟨Nat.le_of_ble_eq_true rfl, Nat.le_of_ble_eq_true rfl⟩) hS (fun q _ h => hFc q h) hFc (fun rv u t H1 locs ht hvm hw hB hz1 hk1 hS => ?_)
    obtain ⟨hP1, hD1⟩ := hB
    rw [ht] at hP1
    subst hw
    have hP := hP1
    have hD := hD1.weaken (fun k q _ h => hFc q.1 h)
    have hP : va_P (dC, dI) vwCl (wX4 cI cZ a (sr M 0 (r34.2 0))) H1 := hP
    have hD : va_D A (wX4 cI cZ a (sr M 0 (r34.2 0))) := hD
    generalize H1 = H at hP hS ⊢
    obtain ⟨hz, hf⟩ := gd_s hf
    have e9 := so_e hf
    subst e9
    exact W.zret (v := r34.1) hx hb hr (isb_nar hz) (fun t ht hW => ⟨⟨r34.1, (), rfl, rfl, WE.mk hP hD ht⟩, hS.F ht⟩) hS.2.2 dX4_read_37
  have hf := it_f hf c900
  by_cases c901 : (M 0 0) = (1 : Int32)
  · have hf := it_t hf c901
    refine lv_tableIn (off := 34) (tgt := 38) hx hb dX4_read_4 (by rw [c901]; decide) (by rw [c901]; decide) (by rw [c901]; rfl) (by decide) ?_
    refine lv_aload_n hx hb dX4_read_38 rfl (lv_at hl 0 rfl) ?_
    refine lv_iconst (v := (2 : Int32)) hx hb dX4_read_39 (by decide) ?_
    refine va_put (D := (dC, dI)) (ci := 4) (v := .int (2 : Int32)) (ty := .int) (C := RX4) (T := TX4) (N := 3) hx hb hts hinX4 tyX4 tyX4_ok nmX4 hown hK hP hD hS 0 rfl rfl 0 (by decide) hw1 (fun _ h9 => h9) rfl (by decide +kernel) rfl rfl (Nat.le_of_ble_eq_true rfl) dX4_read_40 (fun H locs hP hD hS => ?_)
    have hP : va_P (dC, dI) vwCl (wX4 cI cZ a (sr M 0 (upd (M 0) 0 (2 : Int32)))) H := hP
    have hD : va_D A (wX4 cI cZ a (sr M 0 (upd (M 0) 0 (2 : Int32)))) := hD
    refine lv_iload_n hx hb dX4_read_43 rfl (lv_at hl 1 rfl) ?_
    refine lv_bipush (v := (42 : Int32)) hx hb dX4_read_44 (by decide) ?_
    refine lv_icmp_ne (tgt := 53) hx hb dX4_read_46 (by decide) (fun c9 => ?_) (fun c9 => ?_)
    · have hf := it_t hf c9
      refine lv_iconst (v := (0 : Int32)) hx hb dX4_read_53 (by decide) ?_
      exact hfX4_read_B54  (sr M 0 (upd (M 0) 0 (2 : Int32))) (0 : Int32) hf _ (lv_sub hl [] rfl) _ _ hP hD hS
    · have hf := it_n hf c9
      refine lv_iconst (v := (1 : Int32)) hx hb dX4_read_49 (by decide) ?_
      refine lv_goto (tgt := 54) hx hb dX4_read_50 (by decide) ?_
      exact hfX4_read_B54  (sr M 0 (upd (M 0) 0 (2 : Int32))) (1 : Int32) hf _ (lv_sub hl [] rfl) _ _ hP hD hS
  have hf := it_f hf c901
  by_cases c902 : (M 0 0) = (2 : Int32)
  · have hf := it_t hf c902
    refine lv_tableIn (off := 51) (tgt := 55) hx hb dX4_read_4 (by rw [c902]; decide) (by rw [c902]; decide) (by rw [c902]; rfl) (by decide) ?_
    refine lv_aload_n hx hb dX4_read_55 rfl (lv_at hl 0 rfl) ?_
    refine lv_iconst (v := (3 : Int32)) hx hb dX4_read_56 (by decide) ?_
    refine va_put (D := (dC, dI)) (ci := 4) (v := .int (3 : Int32)) (ty := .int) (C := RX4) (T := TX4) (N := 3) hx hb hts hinX4 tyX4 tyX4_ok nmX4 hown hK hP hD hS 0 rfl rfl 0 (by decide) hw1 (fun _ h9 => h9) rfl (by decide +kernel) rfl rfl (Nat.le_of_ble_eq_true rfl) dX4_read_57 (fun H locs hP hD hS => ?_)
    have hP : va_P (dC, dI) vwCl (wX4 cI cZ a (sr M 0 (upd (M 0) 0 (3 : Int32)))) H := hP
    have hD : va_D A (wX4 cI cZ a (sr M 0 (upd (M 0) 0 (3 : Int32)))) := hD
    refine lv_iload_n hx hb dX4_read_60 rfl (lv_at hl 1 rfl) ?_
    refine lv_bipush (v := (48 : Int32)) hx hb dX4_read_61 (by decide) ?_
    refine lv_icmp_eq (tgt := 78) hx hb dX4_read_63 (by decide) (fun c9 => ?_) (fun c9 => ?_)
    · have hf := it_t hf c9
      exact hfX4_read_B78  (sr M 0 (upd (M 0) 0 (3 : Int32))) hf _ (lv_sub hl [] rfl) _ _ hP hD hS
    · have hf := it_f hf c9
      refine lv_aload_n hx hb dX4_read_66 rfl (lv_at hl 0 rfl) ?_
      refine lv_iload_n hx hb dX4_read_67 rfl (lv_at hl 1 rfl) ?_
      obtain ⟨r68, hc68, hf⟩ := bi_s hf
      have hPc := hP
      have hDc := hD
      have hFc := va_free (wc := (wX4 cI cZ a (sr M 0 (upd (M 0) 0 (3 : Int32))))) hD hS hA [0, 1] rfl
      refine va_calli (va_runV (As := [.int a1]) (rest := []) ⟨hx, hb, hml, hown, hts⟩ (c_X4_readDigit l dC dI cI cZ a H.size (sr M 0 (upd (M 0) 0 (3 : Int32))) a1 r68 hc68) (cwV 1 hts gX4_read_X4_readDigit rfl rfl rfl (by decide +kernel) ⟨Nat.le_of_ble_eq_true rfl, Nat.le_of_ble_eq_true rfl⟩) ⟨WR.blind, va_recv hK hP (ci := 4) (q0 := 0) rfl rfl, WR.pre hPc hK hDc hNW⟩ rfl rfl hl.1 rfl (lv_room (Nat.le_of_ble_eq_true rfl)) dX4_read_68 ⟨Nat.le_of_ble_eq_true rfl, Nat.le_of_ble_eq_true rfl⟩) hS (fun q _ h => hFc q h) hFc (fun rv u t H1 locs ht hvm hw hB hz1 hk1 hS => ?_)
      obtain ⟨hP1, hD1⟩ := hB
      rw [ht] at hP1
      subst hw
      have hP := hP1
      have hD := hD1.weaken (fun k q _ h => hFc q.1 h)
      have hP : va_P (dC, dI) vwCl (wX4 cI cZ a (sr (sr M 0 (upd (M 0) 0 (3 : Int32))) 1 (r68.2 1))) H1 := hP
      have hD : va_D A (wX4 cI cZ a (sr (sr M 0 (upd (M 0) 0 (3 : Int32))) 1 (r68.2 1))) := hD
      generalize H1 = H at hP hS ⊢
      refine lv_if_eq (tgt := 78) hx hb dX4_read_71 (by decide) (fun c9 => ?_) (fun c9 => ?_)
      · have hf := it_t hf c9
        exact hfX4_read_B78  (sr (sr M 0 (upd (M 0) 0 (3 : Int32))) 1 (r68.2 1)) hf _ (lv_sub hl [] rfl) _ _ hP hD hS
      · have hf := it_f hf c9
        refine lv_iconst (v := (1 : Int32)) hx hb dX4_read_74 (by decide) ?_
        refine lv_goto (tgt := 79) hx hb dX4_read_75 (by decide) ?_
        exact hfX4_read_B79  (sr (sr M 0 (upd (M 0) 0 (3 : Int32))) 1 (r68.2 1)) (1 : Int32) hf _ (lv_sub hl [] rfl) _ _ hP hD hS
  have hf := it_f hf c902
  refine lv_tableOut (tgt := 80) hx hb dX4_read_4 (tab_out 3 (by decide) (fun k hk => by rcases (show k = 0 ∨ k = 1 ∨ k = 2 by omega) with rfl | rfl | rfl <;> assumption)) (by decide) ?_
  refine lv_iload_n hx hb dX4_read_80 rfl (lv_at hl 1 rfl) ?_
  refine lv_bipush (v := (44 : Int32)) hx hb dX4_read_81 (by decide) ?_
  refine lv_icmp_ne (tgt := 93) hx hb dX4_read_83 (by decide) (fun c9 => ?_) (fun c9 => ?_)
  · have hf := it_t hf c9
    refine lv_aload_n hx hb dX4_read_93 rfl (lv_at hl 0 rfl) ?_
    refine lv_iload_n hx hb dX4_read_94 rfl (lv_at hl 1 rfl) ?_
    obtain ⟨r95, hc95, hf⟩ := bi_s hf
    have hPc := hP
    have hDc := hD
    have hFc := va_free (wc := (wX4 cI cZ a M)) hD hS hA [0, 1] rfl
    refine va_calli (va_runV (As := [.int a1]) (rest := []) ⟨hx, hb, hml, hown, hts⟩ (c_X4_readDigit l dC dI cI cZ a H.size M a1 r95 hc95) (cwV 1 hts gX4_read_X4_readDigit rfl rfl rfl (by decide +kernel) ⟨Nat.le_of_ble_eq_true rfl, Nat.le_of_ble_eq_true rfl⟩) ⟨WR.blind, va_recv hK hP (ci := 4) (q0 := 0) rfl rfl, WR.pre hPc hK hDc hNW⟩ rfl rfl hl.1 rfl (lv_room (Nat.le_of_ble_eq_true rfl)) dX4_read_95 ⟨Nat.le_of_ble_eq_true rfl, Nat.le_of_ble_eq_true rfl⟩) hS (fun q _ h => hFc q h) hFc (fun rv u t H1 locs ht hvm hw hB hz1 hk1 hS => ?_)
    obtain ⟨hP1, hD1⟩ := hB
    rw [ht] at hP1
    subst hw
    have hP := hP1
    have hD := hD1.weaken (fun k q _ h => hFc q.1 h)
    have hP : va_P (dC, dI) vwCl (wX4 cI cZ a (sr M 1 (r95.2 1))) H1 := hP
    have hD : va_D A (wX4 cI cZ a (sr M 1 (r95.2 1))) := hD
    generalize H1 = H at hP hS ⊢
    exact hfX4_read_B98  (sr M 1 (r95.2 1)) r95.1 hf _ (lv_sub hl [] rfl) _ _ hP hD hS
  · have hf := it_n hf c9
    refine lv_aload_n hx hb dX4_read_86 rfl (lv_at hl 0 rfl) ?_
    obtain ⟨r87, hc87, hf⟩ := bi_s hf
    have hPc := hP
    have hDc := hD
    have hFc := va_free (wc := (wX4 cI cZ a M)) hD hS hA [0, 1] rfl
    refine va_calli (va_runV (As := []) (rest := []) ⟨hx, hb, hml, hown, hts⟩ (c_X4_readComma l dC dI cI cZ a H.size M r87 hc87) (cwV 0 hts gX4_read_X4_readComma rfl rfl rfl (by decide +kernel) ⟨Nat.le_of_ble_eq_true rfl, Nat.le_of_ble_eq_true rfl⟩) ⟨WR.blind, va_recv hK hP (ci := 4) (q0 := 0) rfl rfl, WR.pre hPc hK hDc hNW⟩ rfl rfl hl.1 rfl (lv_room (Nat.le_of_ble_eq_true rfl)) dX4_read_87 ⟨Nat.le_of_ble_eq_true rfl, Nat.le_of_ble_eq_true rfl⟩) hS (fun q _ h => hFc q h) hFc (fun rv u t H1 locs ht hvm hw hB hz1 hk1 hS => ?_)
    obtain ⟨hP1, hD1⟩ := hB
    rw [ht] at hP1
    subst hw
    have hP := hP1
    have hD := hD1.weaken (fun k q _ h => hFc q.1 h)
    have hP : va_P (dC, dI) vwCl (wX4 cI cZ a (sr M 0 (r87.2 0))) H1 := hP
    have hD : va_D A (wX4 cI cZ a (sr M 0 (r87.2 0))) := hD
    generalize H1 = H at hP hS ⊢
    refine lv_goto (tgt := 98) hx hb dX4_read_90 (by decide) ?_
    exact hfX4_read_B98  (sr M 0 (r87.2 0)) r87.1 hf _ (lv_sub hl [] rfl) _ _ hP hD hS
set_option maxHeartbeats 4000000 in
set_option maxRecDepth 100000 in
theorem c_X5_readAll (l : Launch) (dC : Nat → ClassId) (dI : Nat → Nat → Nat) (cI cZ : ClassId) (a : Nat → Nat) (sz : Nat) (M : Mem) (z : Int32 × Mem) (hf : fX5_readAll M  = some z) : Met l yX5_readAll wsX5_readAll ({ frames := 2, cells := 0, slots := 0, locals := 43 } : Room) (va_Pc [.ref (a 0)] (WR (dC, dI) cI cZ (wX5 cI cZ a M) sz)) (va_Qi (S := Unit) (fun r _ => r = z.1) (fun _ t => WE (dC, dI) cI cZ (wX5 cI cZ a (sr (sr M 2 (z.2 2)) 3 (z.2 3))) (va_A (wX5 cI cZ a M) sz) t) (va_A (wX5 cI cZ a M) sz)) 0 0 (va_A (wX5 cI cZ a M) sz) := by
  refine Met.ofW (cc := cX5_readAll) (maxL := 2) (ret := (some .int)) (by decide) rfl ?_
  intro p e s m args below meth c s₁ B hml hv
  obtain ⟨rfl, hsz, hP, hK, hD0, hNW⟩ := hv
  have hx := B.exec
  have hb := B.bytes
  have hr := B.returns
  have hts := atoms_spec (ws := wsX5_readAll) B.pre
  have hown : s.vm.findClass RX5 = some m.cls := findClass_of_methodNamed B.named
  have hlocks := B.notSynchronized
  have hinX5 : ∀ w ∈ u_ws RX5 TX5 3, w ∈ wsX5_readAll := by decide +kernel
  have hw1 := hts (.fieldLink RX5 22 "GlideShelves$OrderText" "reader" "LGlideShelves$OrderReader;") (by decide +kernel)
  have hw2 := hts (.initialized RX4) (by decide +kernel)
  have hw3 := hts (.instanceMethod yX4_begin) (by decide +kernel)
  have hw4 := hts (.selects RX4 yX4_begin yX4_begin) (by decide +kernel)
  have hw5 := hts (.fieldLink RX5 9 "GlideShelves$OrderText" "length" "I") (by decide +kernel)
  have hw6 := hts (.fieldLink RX5 15 "GlideShelves$OrderText" "codes" "[I") (by decide +kernel)
  have hw7 := hts (.instanceMethod yX4_read) (by decide +kernel)
  have hw8 := hts (.selects RX4 yX4_read yX4_read) (by decide +kernel)
  subst hsz
  have hD := hD0.self (sz := s.heap.size)
  generalize hAe : va_A (wX5 cI cZ a M) s.heap.size = A at hD ⊢
  have hA : ∀ q : Nat, s.heap.size ≤ q → A q := fun q h => by rw [← hAe]; exact Or.inr h
  have hS : va_S A s.heap s.heap [] := va_S.rf
  have hfX5_readAll_L9 : ∀ (n : Nat) (kx33 : Mem → Int32 → Option (Int32 × Mem)) (hkx33 : ∀ (N : Mem) (l1 : Int32), kx33 N l1 = some z → ∀ (ls : Array Slot), lv_has ls 2 [(1, .int l1)] → ∀ (H : Heap) (locs : List Loc), va_P (dC, dI) vwCl (wX5 cI cZ a (sr (sr M 2 (N 2)) 3 (N 3))) H → va_D A (wX5 cI cZ a (sr (sr M 2 (N 2)) 3 (N 3))) → va_S A s.heap H locs → W p l e (headSpec wsX5_readAll ({ frames := 2, cells := 0, slots := 0, locals := 43 } : Room)).room s m ([.ref (a 0)] : List Value).toArray below meth c H locs 0 0 (MQ below (va_Qi (S := Unit) (fun r _ => r = z.1) (fun _ t => WE (dC, dI) cI cZ (wX5 cI cZ a (sr (sr M 2 (z.2 2)) 3 (z.2 3))) A t) A) ([.ref (a 0)] : List Value).toArray s 0 0 A) (F0 m 33 ls [])) (kx41 : Mem → Option (Int32 × Mem)) (hkx41 : ∀ (N : Mem), kx41 N = some z → ∀ (ls : Array Slot), lv_has ls 2 [(0, .ref (a 0))] → ∀ (H : Heap) (locs : List Loc), va_P (dC, dI) vwCl (wX5 cI cZ a (sr (sr M 2 (N 2)) 3 (N 3))) H → va_D A (wX5 cI cZ a (sr (sr M 2 (N 2)) 3 (N 3))) → va_S A s.heap H locs → W p l e (headSpec wsX5_readAll ({ frames := 2, cells := 0, slots := 0, locals := 43 } : Room)).room s m ([.ref (a 0)] : List Value).toArray below meth c H locs 0 0 (MQ below (va_Qi (S := Unit) (fun r _ => r = z.1) (fun _ t => WE (dC, dI) cI cZ (wX5 cI cZ a (sr (sr M 2 (z.2 2)) 3 (z.2 3))) A t) A) ([.ref (a 0)] : List Value).toArray s 0 0 A) (F0 m 41 ls [])), ∀ (N : Mem) (l1 : Int32), fX5_readAll_L9 M n kx33 kx41 N l1 = some z → ∀ (ls : Array Slot), lv_has ls 2 [(0, .ref (a 0)), (1, .int l1)] → ∀ (H : Heap) (locs : List Loc), va_P (dC, dI) vwCl (wX5 cI cZ a (sr (sr M 2 (N 2)) 3 (N 3))) H → va_D A (wX5 cI cZ a (sr (sr M 2 (N 2)) 3 (N 3))) → va_S A s.heap H locs → W p l e (headSpec wsX5_readAll ({ frames := 2, cells := 0, slots := 0, locals := 43 } : Room)).room s m ([.ref (a 0)] : List Value).toArray below meth c H locs 0 0 (MQ below (va_Qi (S := Unit) (fun r _ => r = z.1) (fun _ t => WE (dC, dI) cI cZ (wX5 cI cZ a (sr (sr M 2 (z.2 2)) 3 (z.2 3))) A t) A) ([.ref (a 0)] : List Value).toArray s 0 0 A) (F0 m 9 ls []) := by
    intro n
    induction n with
    | zero =>
      intro kx33 hkx33 kx41 hkx41 N l1 hf ls hl H locs hP hD hS
      rw [fX5_readAll_L9] at hf
      cases hf
    | succ n ih =>
      intro kx33 hkx33 kx41 hkx41 N l1 hf ls hl H locs hP hD hS
      rw [fX5_readAll_L9] at hf
      refine lv_iload_n hx hb dX5_readAll_9 rfl (lv_at hl 1 rfl) ?_
      refine lv_aload_n hx hb dX5_readAll_10 rfl (lv_at hl 0 rfl) ?_
      refine va_get (D := (dC, dI)) (ci := 5) (v := .int (M 0 0)) (C := RX5) (T := TX5) (N := 3) hx hb hts hinX5 hown hK hP 0 rfl rfl 0 (by decide) hw5 (fun _ h9 => h9) rfl dX5_readAll_11 ?_
      refine lv_icmp_ge (tgt := 41) hx hb dX5_readAll_14 (by decide) (fun c9 => ?_) (fun c9 => ?_)
      · have hf := it_t hf c9
        exact hkx41 (sr (sr M 2 (N 2)) 3 (N 3)) hf _ (lv_sub hl [0] rfl) _ _ hP hD hS
      · have hf := it_f hf c9
        refine lv_aload_n hx hb dX5_readAll_17 rfl (lv_at hl 0 rfl) ?_
        refine va_get (D := (dC, dI)) (ci := 5) (v := .ref (a 2)) (C := RX5) (T := TX5) (N := 3) hx hb hts hinX5 hown hK hP 0 rfl rfl 2 (by decide) hw1 (fun _ h9 => h9) rfl dX5_readAll_18 ?_
        refine lv_aload_n hx hb dX5_readAll_21 rfl (lv_at hl 0 rfl) ?_
        refine va_get (D := (dC, dI)) (ci := 5) (v := .ref (a 1)) (C := RX5) (T := TX5) (N := 3) hx hb hts hinX5 hown hK hP 0 rfl rfl 1 (by decide) hw6 (fun _ h9 => h9) rfl dX5_readAll_22 ?_
        refine lv_iload_n hx hb dX5_readAll_25 rfl (lv_at hl 1 rfl) ?_
        obtain ⟨hi, hf⟩ := gd_s hf
        refine va_iald (D := (dC, dI)) (f := (M 1)) hx hb hK hP 1 0 rfl rfl (inb_in hi) dX5_readAll_26 ?_
        obtain ⟨r27, hc27, hf⟩ := bi_s hf
        have hPc := hP.sub (ws' := (wX4 cI cZ (ofs 2 a) (ofs 2 (sr (sr M 2 (N 2)) 3 (N 3))))) [2, 3] rfl
        have hDc := hD.sub (ws' := (wX4 cI cZ (ofs 2 a) (ofs 2 (sr (sr M 2 (N 2)) 3 (N 3))))) [2, 3] (by decide) rfl
        have hFc := va_free (wc := (wX4 cI cZ (ofs 2 a) (ofs 2 (sr (sr M 2 (N 2)) 3 (N 3))))) hD hS hA [2, 3] rfl
        refine va_calli (va_runVN (As := [.int (M 1 l1.toNatClampNeg)]) (rest := []) ⟨hx, hb, hml, hown, hts⟩ (c_X4_read l dC dI cI cZ (ofs 2 a) H.size (ofs 2 (sr (sr M 2 (N 2)) 3 (N 3))) (M 1 l1.toNatClampNeg) r27 hc27) ⟨va_cnB 1 hts gX5_readAll_X4_read_n29 rfl rfl rfl (nw76 hNW) hw2 (by decide +kernel) ⟨Nat.le_of_ble_eq_true rfl, Nat.le_of_ble_eq_true rfl⟩, hw7, hw8⟩ ⟨WR.blind, va_recv hK hP (ci := 4) (q0 := 2) rfl rfl, WR.pre hPc hK hDc hNW⟩ rfl rfl hl.1 rfl (lv_room (Nat.le_of_ble_eq_true rfl)) dX5_readAll_27 ⟨Nat.le_of_ble_eq_true rfl, Nat.le_of_ble_eq_true rfl⟩) hS (fun q _ h => hFc q h) hFc (fun rv u t H1 locs ht hvm hw hB hz1 hk1 hS => ?_)
        obtain ⟨hP1, hD1⟩ := hB
        rw [ht] at hP1
        subst hw
        obtain ⟨hP, hD⟩ := va_join (wr := [(a 0, .inr (5, [.int (M 0 0), .ref (a 1), .ref (a 2)])), (a 1, .inl (cI, 60, .inl (M 1)))]) (w1 := (wX4 cI cZ (ofs 2 a) (sr (sr (ofs 2 (sr (sr M 2 (N 2)) 3 (N 3))) 0 (r27.2 0)) 1 (r27.2 1)))) hP hD [2, 3] [0, 1] rfl rfl (by decide) (by decide) hk1 hFc hP1 hD1
        have hP := hP.sub (ws' := (wX5 cI cZ a (sr (sr M 2 (r27.2 0)) 3 (r27.2 1)))) [0, 1, 2, 3] rfl
        have hD := hD.sub (ws' := (wX5 cI cZ a (sr (sr M 2 (r27.2 0)) 3 (r27.2 1)))) [0, 1, 2, 3] (by decide) rfl
        generalize H1 = H at hP hS ⊢
        refine lv_if_ne (tgt := 35) hx hb dX5_readAll_30 (by decide) (fun c9 => ?_) (fun c9 => ?_)
        · have hf := it_t hf c9
          refine lv_iinc (v := (l1 + (1 : Int32))) (lv' := [(1, .int (l1 + (1 : Int32))), (0, .ref (a 0))]) hx hb dX5_readAll_35 hl (k := 1) rfl rfl (by decide) rfl (fun ls hl => ?_)
          refine lv_goto (tgt := 9) hx hb dX5_readAll_38 (by decide) ?_
          exact ih kx33 hkx33 kx41 hkx41 (sr (sr M 2 (r27.2 0)) 3 (r27.2 1)) (l1 + (1 : Int32)) hf _ (lv_sub hl [1, 0] rfl) _ _ hP hD hS
        · have hf := it_n hf c9
          exact hkx33 (sr (sr M 2 (r27.2 0)) 3 (r27.2 1)) l1 hf _ (lv_sub hl [1] rfl) _ _ hP hD hS
  have hl := lv_entry ([.ref (a 0)]) (n := 2) (Nat.le_of_ble_eq_true rfl)
  rw [lg_entry_eq]
  generalize (lg_sl ([.ref (a 0)]) ++ List.replicate (2 - (lg_sl ([.ref (a 0)])).length) Slot.unset).toArray = ls at hl ⊢
  have hl : lv_has ls 2 [(0, .ref (a 0))] := hl
  unfold fX5_readAll at hf
  suffices hgo : ∀ (H : Heap) (locs : List Loc), va_P (dC, dI) vwCl (wX5 cI cZ a M) H → va_D A (wX5 cI cZ a M) → va_S A s.heap H locs → W p l e (headSpec wsX5_readAll ({ frames := 2, cells := 0, slots := 0, locals := 43 } : Room)).room s m ([.ref (a 0)] : List Value).toArray below meth c H locs 0 0 (MQ below (va_Qi (S := Unit) (fun r _ => r = z.1) (fun _ t => WE (dC, dI) cI cZ (wX5 cI cZ a (sr (sr M 2 (z.2 2)) 3 (z.2 3))) A t) A) ([.ref (a 0)] : List Value).toArray s 0 0 A) (F0 m 0 ls []) from hgo _ _ hP hD hS
  intro H locs hP hD hS
  refine lv_aload_n hx hb dX5_readAll_0 rfl (lv_at hl 0 rfl) ?_
  refine va_get (D := (dC, dI)) (ci := 5) (v := .ref (a 2)) (C := RX5) (T := TX5) (N := 3) hx hb hts hinX5 hown hK hP 0 rfl rfl 2 (by decide) hw1 (fun _ h9 => h9) rfl dX5_readAll_1 ?_
  obtain ⟨r4, hc4, hf⟩ := bi_s hf
  have hPc := hP.sub (ws' := (wX4 cI cZ (ofs 2 a) (ofs 2 M))) [2, 3] rfl
  have hDc := hD.sub (ws' := (wX4 cI cZ (ofs 2 a) (ofs 2 M))) [2, 3] (by decide) rfl
  have hFc := va_free (wc := (wX4 cI cZ (ofs 2 a) (ofs 2 M))) hD hS hA [2, 3] rfl
  refine va_callv (va_runVN (As := []) (rest := []) ⟨hx, hb, hml, hown, hts⟩ (c_X4_begin l dC dI cI cZ (ofs 2 a) H.size (ofs 2 M) r4 hc4) ⟨va_cnB 0 hts gX5_readAll_X4_begin_n26 rfl rfl rfl (nw75 hNW) hw2 (by decide +kernel) ⟨Nat.le_of_ble_eq_true rfl, Nat.le_of_ble_eq_true rfl⟩, hw3, hw4⟩ ⟨WR.blind, va_recv hK hP (ci := 4) (q0 := 2) rfl rfl, WR.pre hPc hK hDc hNW⟩ rfl rfl hl.1 rfl (lv_room (Nat.le_of_ble_eq_true rfl)) dX5_readAll_4 ⟨Nat.le_of_ble_eq_true rfl, Nat.le_of_ble_eq_true rfl⟩) hS (fun q _ h => hFc q h) hFc (fun u t H1 locs ht hvm hw hB hz1 hk1 hS => ?_)
  obtain ⟨hP1, hD1⟩ := hB
  rw [ht] at hP1
  obtain ⟨hP, hD⟩ := va_join (wr := [(a 0, .inr (5, [.int (M 0 0), .ref (a 1), .ref (a 2)])), (a 1, .inl (cI, 60, .inl (M 1)))]) (w1 := (wX4 cI cZ (ofs 2 a) (sr (sr (ofs 2 M) 0 (r4 0)) 1 (r4 1)))) hP hD [2, 3] [0, 1] rfl rfl (by decide) (by decide) hk1 hFc hP1 hD1
  have hP := hP.sub (ws' := (wX5 cI cZ a (sr (sr M 2 (r4 0)) 3 (r4 1)))) [0, 1, 2, 3] rfl
  have hD := hD.sub (ws' := (wX5 cI cZ a (sr (sr M 2 (r4 0)) 3 (r4 1)))) [0, 1, 2, 3] (by decide) rfl
  generalize H1 = H at hP hS ⊢
  refine lv_iconst (v := (0 : Int32)) hx hb dX5_readAll_7 (by decide) ?_
  refine lv_istore_n (lv' := [(1, .int (0 : Int32)), (0, .ref (a 0))]) hx hb dX5_readAll_8 rfl hl (by decide) rfl (fun ls hl => ?_)
  refine hfX5_readAll_L9 5000 _ (fun N l1 hf ls hl H locs hP hD hS => ?_) _ (fun N hf ls hl H locs hP hD hS => ?_) (sr (sr M 2 (r4 0)) 3 (r4 1)) (0 : Int32) hf _ (lv_sub hl [1, 0] rfl) _ _ hP hD hS
  · refine lv_iload_n hx hb dX5_readAll_33 rfl (lv_at hl 0 rfl) ?_
    have e9 := so_e hf
    subst e9
    exact W.iret (v := l1) hx hb hr (fun t ht hW => ⟨⟨l1, (), rfl, rfl, WE.mk hP hD ht⟩, hS.F ht⟩) hS.2.2 dX5_readAll_34
  · refine lv_aload_n hx hb dX5_readAll_41 rfl (lv_at hl 0 rfl) ?_
    refine va_get (D := (dC, dI)) (ci := 5) (v := .int (M 0 0)) (C := RX5) (T := TX5) (N := 3) hx hb hts hinX5 hown hK hP 0 rfl rfl 0 (by decide) hw5 (fun _ h9 => h9) rfl dX5_readAll_42 ?_
    have e9 := so_e hf
    subst e9
    exact W.iret (v := (M 0 0)) hx hb hr (fun t ht hW => ⟨⟨(M 0 0), (), rfl, rfl, WE.mk hP hD ht⟩, hS.F ht⟩) hS.2.2 dX5_readAll_45
set_option maxHeartbeats 4000000 in
set_option maxRecDepth 100000 in
theorem c_X5_isOrder (l : Launch) (dC : Nat → ClassId) (dI : Nat → Nat → Nat) (cI cZ : ClassId) (a : Nat → Nat) (sz : Nat) (M : Mem) (z : Int32 × Mem) (hf : fX5_isOrder M  = some z) : Met l yX5_isOrder wsX5_isOrder ({ frames := 3, cells := 0, slots := 0, locals := 64 } : Room) (va_Pc [.ref (a 0)] (WR (dC, dI) cI cZ (wX5 cI cZ a M) sz)) (va_Qi (S := Unit) (fun r _ => r = z.1) (fun _ t => WE (dC, dI) cI cZ (wX5 cI cZ a (sr (sr M 2 (z.2 2)) 3 (z.2 3))) (va_A (wX5 cI cZ a M) sz) t) (va_A (wX5 cI cZ a M) sz)) 0 0 (va_A (wX5 cI cZ a M) sz) := by
  refine Met.ofW (cc := cX5_isOrder) (maxL := 1) (ret := (some .boolean)) (by decide) rfl ?_
  intro p e s m args below meth c s₁ B hml hv
  obtain ⟨rfl, hsz, hP, hK, hD0, hNW⟩ := hv
  have hx := B.exec
  have hb := B.bytes
  have hr := B.returns
  have hts := atoms_spec (ws := wsX5_isOrder) B.pre
  have hown : s.vm.findClass RX5 = some m.cls := findClass_of_methodNamed B.named
  have hlocks := B.notSynchronized
  have hinX5 : ∀ w ∈ u_ws RX5 TX5 3, w ∈ wsX5_isOrder := by decide +kernel
  have hw1 := hts (.fieldLink RX5 9 "GlideShelves$OrderText" "length" "I") (by decide +kernel)
  have hw2 := hts (.fieldLink RX5 22 "GlideShelves$OrderText" "reader" "LGlideShelves$OrderReader;") (by decide +kernel)
  have hw3 := hts (.initialized RX4) (by decide +kernel)
  have hw4 := hts (.instanceMethod yX4_isAtEnd) (by decide +kernel)
  have hw5 := hts (.selects RX4 yX4_isAtEnd yX4_isAtEnd) (by decide +kernel)
  subst hsz
  have hD := hD0.self (sz := s.heap.size)
  generalize hAe : va_A (wX5 cI cZ a M) s.heap.size = A at hD ⊢
  have hA : ∀ q : Nat, s.heap.size ≤ q → A q := fun q h => by rw [← hAe]; exact Or.inr h
  have hS : va_S A s.heap s.heap [] := va_S.rf
  have hfX5_isOrder_B26 : ∀ (N : Mem) (s0 : Int32), fX5_isOrder_B26 M  N s0 = some z → ∀ (ls : Array Slot), lv_has ls 1 [] → ∀ (H : Heap) (locs : List Loc), va_P (dC, dI) vwCl (wX5 cI cZ a (sr (sr M 2 (N 2)) 3 (N 3))) H → va_D A (wX5 cI cZ a (sr (sr M 2 (N 2)) 3 (N 3))) → va_S A s.heap H locs → W p l e (headSpec wsX5_isOrder ({ frames := 3, cells := 0, slots := 0, locals := 64 } : Room)).room s m ([.ref (a 0)] : List Value).toArray below meth c H locs 0 0 (MQ below (va_Qi (S := Unit) (fun r _ => r = z.1) (fun _ t => WE (dC, dI) cI cZ (wX5 cI cZ a (sr (sr M 2 (z.2 2)) 3 (z.2 3))) A t) A) ([.ref (a 0)] : List Value).toArray s 0 0 A) (F0 m 26 ls [.int s0]) := by
    intro  N s0 hf ls hl H locs hP hD hS
    unfold fX5_isOrder_B26 at hf
    obtain ⟨hz, hf⟩ := gd_s hf
    have e9 := so_e hf
    subst e9
    exact W.zret (v := s0) hx hb hr (isb_nar hz) (fun t ht hW => ⟨⟨s0, (), rfl, rfl, WE.mk hP hD ht⟩, hS.F ht⟩) hS.2.2 dX5_isOrder_26
  have hfX5_isOrder_B25 : ∀ (N : Mem), fX5_isOrder_B25 M  N = some z → ∀ (ls : Array Slot), lv_has ls 1 [] → ∀ (H : Heap) (locs : List Loc), va_P (dC, dI) vwCl (wX5 cI cZ a (sr (sr M 2 (N 2)) 3 (N 3))) H → va_D A (wX5 cI cZ a (sr (sr M 2 (N 2)) 3 (N 3))) → va_S A s.heap H locs → W p l e (headSpec wsX5_isOrder ({ frames := 3, cells := 0, slots := 0, locals := 64 } : Room)).room s m ([.ref (a 0)] : List Value).toArray below meth c H locs 0 0 (MQ below (va_Qi (S := Unit) (fun r _ => r = z.1) (fun _ t => WE (dC, dI) cI cZ (wX5 cI cZ a (sr (sr M 2 (z.2 2)) 3 (z.2 3))) A t) A) ([.ref (a 0)] : List Value).toArray s 0 0 A) (F0 m 25 ls []) := by
    intro  N hf ls hl H locs hP hD hS
    unfold fX5_isOrder_B25 at hf
    refine lv_iconst (v := (0 : Int32)) hx hb dX5_isOrder_25 (by decide) ?_
    exact hfX5_isOrder_B26  (sr (sr M 2 (N 2)) 3 (N 3)) (0 : Int32) hf _ (lv_sub hl [] rfl) _ _ hP hD hS
  have hl := lv_entry ([.ref (a 0)]) (n := 1) (Nat.le_of_ble_eq_true rfl)
  rw [lg_entry_eq]
  generalize (lg_sl ([.ref (a 0)]) ++ List.replicate (1 - (lg_sl ([.ref (a 0)])).length) Slot.unset).toArray = ls at hl ⊢
  have hl : lv_has ls 1 [(0, .ref (a 0))] := hl
  unfold fX5_isOrder at hf
  suffices hgo : ∀ (H : Heap) (locs : List Loc), va_P (dC, dI) vwCl (wX5 cI cZ a M) H → va_D A (wX5 cI cZ a M) → va_S A s.heap H locs → W p l e (headSpec wsX5_isOrder ({ frames := 3, cells := 0, slots := 0, locals := 64 } : Room)).room s m ([.ref (a 0)] : List Value).toArray below meth c H locs 0 0 (MQ below (va_Qi (S := Unit) (fun r _ => r = z.1) (fun _ t => WE (dC, dI) cI cZ (wX5 cI cZ a (sr (sr M 2 (z.2 2)) 3 (z.2 3))) A t) A) ([.ref (a 0)] : List Value).toArray s 0 0 A) (F0 m 0 ls []) from hgo _ _ hP hD hS
  intro H locs hP hD hS
  refine lv_aload_n hx hb dX5_isOrder_0 rfl (lv_at hl 0 rfl) ?_
  obtain ⟨r1, hc1, hf⟩ := bi_s hf
  have hPc := hP
  have hDc := hD
  have hFc := va_free (wc := (wX5 cI cZ a M)) hD hS hA [0, 1, 2, 3] rfl
  refine va_calli (va_runV (As := []) (rest := []) ⟨hx, hb, hml, hown, hts⟩ (c_X5_readAll l dC dI cI cZ a H.size M r1 hc1) (cwV 0 hts gX5_isOrder_X5_readAll rfl rfl rfl (by decide +kernel) ⟨Nat.le_of_ble_eq_true rfl, Nat.le_of_ble_eq_true rfl⟩) ⟨WR.blind, va_recv hK hP (ci := 5) (q0 := 0) rfl rfl, WR.pre hPc hK hDc hNW⟩ rfl rfl hl.1 rfl (lv_room (Nat.le_of_ble_eq_true rfl)) dX5_isOrder_1 ⟨Nat.le_of_ble_eq_true rfl, Nat.le_of_ble_eq_true rfl⟩) hS (fun q _ h => hFc q h) hFc (fun rv u t H1 locs ht hvm hw hB hz1 hk1 hS => ?_)
  obtain ⟨hP1, hD1⟩ := hB
  rw [ht] at hP1
  subst hw
  have hP := hP1
  have hD := hD1.weaken (fun k q _ h => hFc q.1 h)
  have hP : va_P (dC, dI) vwCl (wX5 cI cZ a (sr (sr M 2 (r1.2 2)) 3 (r1.2 3))) H1 := hP
  have hD : va_D A (wX5 cI cZ a (sr (sr M 2 (r1.2 2)) 3 (r1.2 3))) := hD
  generalize H1 = H at hP hS ⊢
  refine lv_aload_n hx hb dX5_isOrder_4 rfl (lv_at hl 0 rfl) ?_
  refine va_get (D := (dC, dI)) (ci := 5) (v := .int (M 0 0)) (C := RX5) (T := TX5) (N := 3) hx hb hts hinX5 hown hK hP 0 rfl rfl 0 (by decide) hw1 (fun _ h9 => h9) rfl dX5_isOrder_5 ?_
  refine lv_icmp_ne (tgt := 25) hx hb dX5_isOrder_8 (by decide) (fun c9 => ?_) (fun c9 => ?_)
  · have hf := it_t hf c9
    exact hfX5_isOrder_B25  (sr (sr M 2 (r1.2 2)) 3 (r1.2 3)) hf _ (lv_sub hl [] rfl) _ _ hP hD hS
  · have hf := it_n hf c9
    refine lv_aload_n hx hb dX5_isOrder_11 rfl (lv_at hl 0 rfl) ?_
    refine va_get (D := (dC, dI)) (ci := 5) (v := .ref (a 2)) (C := RX5) (T := TX5) (N := 3) hx hb hts hinX5 hown hK hP 0 rfl rfl 2 (by decide) hw2 (fun _ h9 => h9) rfl dX5_isOrder_12 ?_
    obtain ⟨r15, hc15, hf⟩ := bi_s hf
    have hPc := hP.sub (ws' := (wX4 cI cZ (ofs 2 a) (ofs 2 (sr (sr M 2 (r1.2 2)) 3 (r1.2 3))))) [2, 3] rfl
    refine cRO (va_Run.run (va_runVN (As := []) (rest := []) ⟨hx, hb, hml, hown, hts⟩ (c_X4_isAtEnd l dC dI cI cZ (ofs 2 a) (ofs 2 (sr (sr M 2 (r1.2 2)) 3 (r1.2 3))) r15 hc15) ⟨va_cnB 0 hts gX5_isOrder_X4_isAtEnd_n37 rfl rfl rfl (nw77 hNW) hw3 (by decide +kernel) ⟨Nat.le_of_ble_eq_true rfl, Nat.le_of_ble_eq_true rfl⟩, hw4, hw5⟩ ⟨RO.blind, va_recv hK hP (ci := 4) (q0 := 2) rfl rfl, RO.pre hPc hK hNW⟩ rfl rfl hl.1 rfl (lv_room (Nat.le_of_ble_eq_true rfl)) dX5_isOrder_15 ⟨Nat.le_of_ble_eq_true rfl, Nat.le_of_ble_eq_true rfl⟩)) ?_
    refine lv_if_eq (tgt := 25) hx hb dX5_isOrder_18 (by decide) (fun c9 => ?_) (fun c9 => ?_)
    · have hf := it_t hf c9
      exact hfX5_isOrder_B25  (sr (sr M 2 (r1.2 2)) 3 (r1.2 3)) hf _ (lv_sub hl [] rfl) _ _ hP hD hS
    · have hf := it_f hf c9
      refine lv_iconst (v := (1 : Int32)) hx hb dX5_isOrder_21 (by decide) ?_
      refine lv_goto (tgt := 26) hx hb dX5_isOrder_22 (by decide) ?_
      exact hfX5_isOrder_B26  (sr (sr M 2 (r1.2 2)) 3 (r1.2 3)) (1 : Int32) hf _ (lv_sub hl [] rfl) _ _ hP hD hS
set_option maxHeartbeats 4000000 in
set_option maxRecDepth 100000 in
theorem c_X6_copyFrom (l : Launch) (dC : Nat → ClassId) (dI : Nat → Nat → Nat) (cI cZ : ClassId) (a : Nat → Nat) (sz : Nat) (M : Mem) (z : Mem) (hf : fX6_copyFrom M  = some z) : Met l yX6_copyFrom wsX6_copyFrom ({ frames := 2, cells := 0, slots := 0, locals := 81 } : Room) (va_Pc [.ref (a 0), .ref (a 16)] (WR (dC, dI) cI cZ (wX6_copyFrom cI cZ a M) sz)) (va_Qv (S := Unit) (fun _ => True) (fun _ t => WE (dC, dI) cI cZ (wX6_copyFrom cI cZ a (sr (sr (sr (sr (sr (sr (sr (sr (sr (sr (sr (sr (sr (sr (sr M 0 (z 0)) 1 (z 1)) 2 (z 2)) 3 (z 3)) 4 (z 4)) 5 (z 5)) 6 (z 6)) 7 (z 7)) 8 (z 8)) 10 (z 10)) 11 (z 11)) 12 (z 12)) 13 (z 13)) 14 (z 14)) 15 (z 15))) (va_A (wX6_copyFrom cI cZ a M) sz) t) (va_A (wX6_copyFrom cI cZ a M) sz)) 0 0 (va_A (wX6_copyFrom cI cZ a M) sz) := by
  refine Met.ofW (cc := cX6_copyFrom) (maxL := 2) (ret := none) (by decide) rfl ?_
  intro p e s m args below meth c s₁ B hml hv
  obtain ⟨rfl, hsz, hP, hK, hD0, hNW⟩ := hv
  have hx := B.exec
  have hb := B.bytes
  have hr := B.returns
  have hts := atoms_spec (ws := wsX6_copyFrom) B.pre
  have hown : s.vm.findClass RX6 = some m.cls := findClass_of_methodNamed B.named
  have hlocks := B.notSynchronized
  have hinX6 : ∀ w ∈ u_ws RX6 TX6 5, w ∈ wsX6_copyFrom := by decide +kernel
  have hw1 := hts (.fieldLink RX6 12 "GlideShelves$State" "tower" "LGlideShelves$Tower;") (by decide +kernel)
  have hw2 := hts (.initialized RX7) (by decide +kernel)
  have hw3 := hts (.instanceMethod yX7_copyFrom) (by decide +kernel)
  have hw4 := hts (.selects RX7 yX7_copyFrom yX7_copyFrom) (by decide +kernel)
  have hw5 := hts (.fieldLink RX6 21 "GlideShelves$State" "lift" "LGlideShelves$Lift;") (by decide +kernel)
  have hw6 := hts (.initialized RX2) (by decide +kernel)
  have hw7 := hts (.instanceMethod yX2_copyFrom) (by decide +kernel)
  have hw8 := hts (.selects RX2 yX2_copyFrom yX2_copyFrom) (by decide +kernel)
  have hw9 := hts (.fieldLink RX6 28 "GlideShelves$State" "goods" "LGlideShelves$Goods;") (by decide +kernel)
  have hw10 := hts (.initialized RX0) (by decide +kernel)
  have hw11 := hts (.instanceMethod yX0_copyFrom) (by decide +kernel)
  have hw12 := hts (.selects RX0 yX0_copyFrom yX0_copyFrom) (by decide +kernel)
  have hw13 := hts (.fieldLink RX6 35 "GlideShelves$State" "book" "LGlideShelves$OrderBook;") (by decide +kernel)
  have hw14 := hts (.initialized RX3) (by decide +kernel)
  have hw15 := hts (.instanceMethod yX3_copyFrom) (by decide +kernel)
  have hw16 := hts (.selects RX3 yX3_copyFrom yX3_copyFrom) (by decide +kernel)
  have hw17 := hts (.fieldLink RX6 39 "GlideShelves$State" "servedOrders" "I") (by decide +kernel)
  subst hsz
  have hD := hD0.self (sz := s.heap.size)
  generalize hAe : va_A (wX6_copyFrom cI cZ a M) s.heap.size = A at hD ⊢
  have hA : ∀ q : Nat, s.heap.size ≤ q → A q := fun q h => by rw [← hAe]; exact Or.inr h
  have hS : va_S A s.heap s.heap [] := va_S.rf
  have hl := lv_entry ([.ref (a 0), .ref (a 16)]) (n := 2) (Nat.le_of_ble_eq_true rfl)
  rw [lg_entry_eq]
  generalize (lg_sl ([.ref (a 0), .ref (a 16)]) ++ List.replicate (2 - (lg_sl ([.ref (a 0), .ref (a 16)])).length) Slot.unset).toArray = ls at hl ⊢
  have hl : lv_has ls 2 [(0, .ref (a 0)), (1, .ref (a 16))] := hl
  unfold fX6_copyFrom at hf
  suffices hgo : ∀ (H : Heap) (locs : List Loc), va_P (dC, dI) vwCl (wX6_copyFrom cI cZ a M) H → va_D A (wX6_copyFrom cI cZ a M) → va_S A s.heap H locs → W p l e (headSpec wsX6_copyFrom ({ frames := 2, cells := 0, slots := 0, locals := 81 } : Room)).room s m ([.ref (a 0), .ref (a 16)] : List Value).toArray below meth c H locs 0 0 (MQ below (va_Qv (S := Unit) (fun _ => True) (fun _ t => WE (dC, dI) cI cZ (wX6_copyFrom cI cZ a (sr (sr (sr (sr (sr (sr (sr (sr (sr (sr (sr (sr (sr (sr (sr M 0 (z 0)) 1 (z 1)) 2 (z 2)) 3 (z 3)) 4 (z 4)) 5 (z 5)) 6 (z 6)) 7 (z 7)) 8 (z 8)) 10 (z 10)) 11 (z 11)) 12 (z 12)) 13 (z 13)) 14 (z 14)) 15 (z 15))) A t) A) ([.ref (a 0), .ref (a 16)] : List Value).toArray s 0 0 A) (F0 m 0 ls []) from hgo _ _ hP hD hS
  intro H locs hP hD hS
  refine lv_aload_n hx hb dX6_copyFrom_0 rfl (lv_at hl 0 rfl) ?_
  refine va_get (D := (dC, dI)) (ci := 6) (v := .ref (a 1)) (C := RX6) (T := TX6) (N := 5) hx hb hts hinX6 hown hK hP 0 rfl rfl 0 (by decide) hw1 (fun _ h9 => h9) rfl dX6_copyFrom_1 ?_
  refine lv_aload_n hx hb dX6_copyFrom_4 rfl (lv_at hl 1 rfl) ?_
  refine va_get (D := (dC, dI)) (ci := 6) (v := .ref (a 17)) (C := RX6) (T := TX6) (N := 5) hx hb hts hinX6 hown hK hP 16 rfl rfl 0 (by decide) hw1 (fun _ h9 => h9) rfl dX6_copyFrom_5 ?_
  obtain ⟨r8, hc8, hf⟩ := bi_s hf
  have hPc := hP.sub (ws' := (wX7_copyFrom cI cZ (pk [1, 2, 3, 4, 5, 17, 18, 19, 20, 21] a) (pk [1, 2, 3, 4, 5, 17, 18, 19, 20, 21] M))) [1, 2, 3, 4, 5, 17, 18, 19, 20, 21] rfl
  have hDc := hD.sub (ws' := (wX7_copyFrom cI cZ (pk [1, 2, 3, 4, 5, 17, 18, 19, 20, 21] a) (pk [1, 2, 3, 4, 5, 17, 18, 19, 20, 21] M))) [1, 2, 3, 4, 5, 17, 18, 19, 20, 21] (by decide) rfl
  have hFc := va_free (wc := (wX7_copyFrom cI cZ (pk [1, 2, 3, 4, 5, 17, 18, 19, 20, 21] a) (pk [1, 2, 3, 4, 5, 17, 18, 19, 20, 21] M))) hD hS hA [1, 2, 3, 4, 5, 17, 18, 19, 20, 21] rfl
  refine va_callv (va_runVN (As := [.ref (a 17)]) (rest := []) ⟨hx, hb, hml, hown, hts⟩ (c_X7_copyFrom l dC dI cI cZ (pk [1, 2, 3, 4, 5, 17, 18, 19, 20, 21] a) H.size (pk [1, 2, 3, 4, 5, 17, 18, 19, 20, 21] M) r8 hc8) ⟨va_cnB 1 hts gX6_copyFrom_X7_copyFrom_n43 rfl rfl rfl (nw87 hNW) hw2 (by decide +kernel) ⟨Nat.le_of_ble_eq_true rfl, Nat.le_of_ble_eq_true rfl⟩, hw3, hw4⟩ ⟨WR.blind, va_recv hK hP (ci := 7) (q0 := 1) rfl rfl, WR.pre hPc hK hDc hNW⟩ rfl rfl hl.1 rfl (lv_room (Nat.le_of_ble_eq_true rfl)) dX6_copyFrom_8 ⟨Nat.le_of_ble_eq_true rfl, Nat.le_of_ble_eq_true rfl⟩) hS (fun q _ h => hFc q h) hFc (fun u t H1 locs ht hvm hw hB hz1 hk1 hS => ?_)
  obtain ⟨hP1, hD1⟩ := hB
  rw [ht] at hP1
  obtain ⟨hP, hD⟩ := va_join (wr := [(a 0, .inr (6, [.ref (a 1), .ref (a 6), .ref (a 9), .ref (a 14), .int (M 0 4)])), (a 6, .inr (2, [.int (M 6 0), .int (M 6 1), .int (M 6 2), .int (M 6 3), .int (M 6 4), .ref (a 7), .ref (a 8)])), (a 7, .inl (cI, 8, .inl (M 7))), (a 8, .inl (cZ, 8, .inl (M 8))), (a 9, .inr (0, [.ref (a 10), .ref (a 11), .ref (a 12), .ref (a 13)])), (a 10, .inl (cI, 10, .inl (M 10))), (a 11, .inl (cI, 10, .inl (M 11))), (a 12, .inl (cI, 10, .inl (M 12))), (a 13, .inl (cI, 10, .inl (M 13))), (a 14, .inr (3, [.int (M 14 0), .ref (a 15)])), (a 15, .inl (cI, 80, .inl (M 15))), (a 16, .inr (6, [.ref (a 17), .ref (a 22), .ref (a 25), .ref (a 30), .int (M 16 4)])), (a 22, .inr (2, [.int (M 22 0), .int (M 22 1), .int (M 22 2), .int (M 22 3), .int (M 22 4), .ref (a 23), .ref (a 24)])), (a 23, .inl (cI, 8, .inl (M 23))), (a 24, .inl (cZ, 8, .inl (M 24))), (a 25, .inr (0, [.ref (a 26), .ref (a 27), .ref (a 28), .ref (a 29)])), (a 26, .inl (cI, 10, .inl (M 26))), (a 27, .inl (cI, 10, .inl (M 27))), (a 28, .inl (cI, 10, .inl (M 28))), (a 29, .inl (cI, 10, .inl (M 29))), (a 30, .inr (3, [.int (M 30 0), .ref (a 31)])), (a 31, .inl (cI, 80, .inl (M 31)))]) (w1 := (wX7_copyFrom cI cZ (pk [1, 2, 3, 4, 5, 17, 18, 19, 20, 21] a) (sr (sr (sr (sr (sr (pk [1, 2, 3, 4, 5, 17, 18, 19, 20, 21] M) 0 (r8 0)) 1 (r8 1)) 2 (r8 2)) 3 (r8 3)) 4 (r8 4)))) hP hD [1, 2, 3, 4, 5, 17, 18, 19, 20, 21] [0, 6, 7, 8, 9, 10, 11, 12, 13, 14, 15, 16, 22, 23, 24, 25, 26, 27, 28, 29, 30, 31] rfl rfl (by decide) (by decide) hk1 hFc hP1 hD1
  have hP := hP.sub (ws' := (wX6_copyFrom cI cZ a (sr (sr (sr (sr (sr M 1 (r8 0)) 2 (r8 1)) 3 (r8 2)) 4 (r8 3)) 5 (r8 4)))) [0, 22, 23, 24, 25, 26, 1, 2, 3, 4, 5, 6, 7, 8, 9, 10, 11, 27, 28, 29, 30, 31, 12, 13, 14, 15, 16, 17, 18, 19, 20, 21] rfl
  have hD := hD.sub (ws' := (wX6_copyFrom cI cZ a (sr (sr (sr (sr (sr M 1 (r8 0)) 2 (r8 1)) 3 (r8 2)) 4 (r8 3)) 5 (r8 4)))) [0, 22, 23, 24, 25, 26, 1, 2, 3, 4, 5, 6, 7, 8, 9, 10, 11, 27, 28, 29, 30, 31, 12, 13, 14, 15, 16, 17, 18, 19, 20, 21] (by decide) rfl
  generalize H1 = H at hP hS ⊢
  refine lv_aload_n hx hb dX6_copyFrom_11 rfl (lv_at hl 0 rfl) ?_
  refine va_get (D := (dC, dI)) (ci := 6) (v := .ref (a 6)) (C := RX6) (T := TX6) (N := 5) hx hb hts hinX6 hown hK hP 0 rfl rfl 1 (by decide) hw5 (fun _ h9 => h9) rfl dX6_copyFrom_12 ?_
  refine lv_aload_n hx hb dX6_copyFrom_15 rfl (lv_at hl 1 rfl) ?_
  refine va_get (D := (dC, dI)) (ci := 6) (v := .ref (a 22)) (C := RX6) (T := TX6) (N := 5) hx hb hts hinX6 hown hK hP 16 rfl rfl 1 (by decide) hw5 (fun _ h9 => h9) rfl dX6_copyFrom_16 ?_
  obtain ⟨r19, hc19, hf⟩ := bi_s hf
  have hPc := hP.sub (ws' := (wX2_copyFrom cI cZ (pk [6, 7, 8, 22, 23, 24] a) (pk [6, 7, 8, 22, 23, 24] (sr (sr (sr (sr (sr M 1 (r8 0)) 2 (r8 1)) 3 (r8 2)) 4 (r8 3)) 5 (r8 4))))) [6, 7, 8, 22, 23, 24] rfl
  have hDc := hD.sub (ws' := (wX2_copyFrom cI cZ (pk [6, 7, 8, 22, 23, 24] a) (pk [6, 7, 8, 22, 23, 24] (sr (sr (sr (sr (sr M 1 (r8 0)) 2 (r8 1)) 3 (r8 2)) 4 (r8 3)) 5 (r8 4))))) [6, 7, 8, 22, 23, 24] (by decide) rfl
  have hFc := va_free (wc := (wX2_copyFrom cI cZ (pk [6, 7, 8, 22, 23, 24] a) (pk [6, 7, 8, 22, 23, 24] (sr (sr (sr (sr (sr M 1 (r8 0)) 2 (r8 1)) 3 (r8 2)) 4 (r8 3)) 5 (r8 4))))) hD hS hA [6, 7, 8, 22, 23, 24] rfl
  refine va_callv (va_runVN (As := [.ref (a 22)]) (rest := []) ⟨hx, hb, hml, hown, hts⟩ (c_X2_copyFrom l dC dI cI cZ (pk [6, 7, 8, 22, 23, 24] a) H.size (pk [6, 7, 8, 22, 23, 24] (sr (sr (sr (sr (sr M 1 (r8 0)) 2 (r8 1)) 3 (r8 2)) 4 (r8 3)) 5 (r8 4))) r19 hc19) ⟨va_cnB 1 hts gX6_copyFrom_X2_copyFrom_n47 rfl rfl rfl (nw88 hNW) hw6 (by decide +kernel) ⟨Nat.le_of_ble_eq_true rfl, Nat.le_of_ble_eq_true rfl⟩, hw7, hw8⟩ ⟨WR.blind, va_recv hK hP (ci := 2) (q0 := 6) rfl rfl, WR.pre hPc hK hDc hNW⟩ rfl rfl hl.1 rfl (lv_room (Nat.le_of_ble_eq_true rfl)) dX6_copyFrom_19 ⟨Nat.le_of_ble_eq_true rfl, Nat.le_of_ble_eq_true rfl⟩) hS (fun q _ h => hFc q h) hFc (fun u t H1 locs ht hvm hw hB hz1 hk1 hS => ?_)
  obtain ⟨hP1, hD1⟩ := hB
  rw [ht] at hP1
  obtain ⟨hP, hD⟩ := va_join (wr := [(a 0, .inr (6, [.ref (a 1), .ref (a 6), .ref (a 9), .ref (a 14), .int (M 0 4)])), (a 1, .inr (7, [.int ((r8 0) 0), .int ((r8 0) 1), .ref (a 2), .ref (a 3), .ref (a 4), .ref (a 5)])), (a 2, .inl (cI, 12, .inl (r8 1))), (a 3, .inl (cI, 12, .inl (r8 2))), (a 4, .inl (cI, 12, .inl (r8 3))), (a 5, .inl (cI, 120, .inl (r8 4))), (a 9, .inr (0, [.ref (a 10), .ref (a 11), .ref (a 12), .ref (a 13)])), (a 10, .inl (cI, 10, .inl (M 10))), (a 11, .inl (cI, 10, .inl (M 11))), (a 12, .inl (cI, 10, .inl (M 12))), (a 13, .inl (cI, 10, .inl (M 13))), (a 14, .inr (3, [.int (M 14 0), .ref (a 15)])), (a 15, .inl (cI, 80, .inl (M 15))), (a 16, .inr (6, [.ref (a 17), .ref (a 22), .ref (a 25), .ref (a 30), .int (M 16 4)])), (a 17, .inr (7, [.int (M 17 0), .int (M 17 1), .ref (a 18), .ref (a 19), .ref (a 20), .ref (a 21)])), (a 18, .inl (cI, 12, .inl (M 18))), (a 19, .inl (cI, 12, .inl (M 19))), (a 20, .inl (cI, 12, .inl (M 20))), (a 21, .inl (cI, 120, .inl (M 21))), (a 25, .inr (0, [.ref (a 26), .ref (a 27), .ref (a 28), .ref (a 29)])), (a 26, .inl (cI, 10, .inl (M 26))), (a 27, .inl (cI, 10, .inl (M 27))), (a 28, .inl (cI, 10, .inl (M 28))), (a 29, .inl (cI, 10, .inl (M 29))), (a 30, .inr (3, [.int (M 30 0), .ref (a 31)])), (a 31, .inl (cI, 80, .inl (M 31)))]) (w1 := (wX2_copyFrom cI cZ (pk [6, 7, 8, 22, 23, 24] a) (sr (sr (sr (pk [6, 7, 8, 22, 23, 24] (sr (sr (sr (sr (sr M 1 (r8 0)) 2 (r8 1)) 3 (r8 2)) 4 (r8 3)) 5 (r8 4))) 0 (r19 0)) 1 (r19 1)) 2 (r19 2)))) hP hD [6, 7, 8, 22, 23, 24] [0, 1, 2, 3, 4, 5, 9, 10, 11, 12, 13, 14, 15, 16, 17, 18, 19, 20, 21, 25, 26, 27, 28, 29, 30, 31] rfl rfl (by decide) (by decide) hk1 hFc hP1 hD1
  have hP := hP.sub (ws' := (wX6_copyFrom cI cZ a (sr (sr (sr (sr (sr (sr (sr (sr M 1 (r8 0)) 2 (r8 1)) 3 (r8 2)) 4 (r8 3)) 5 (r8 4)) 6 (r19 0)) 7 (r19 1)) 8 (r19 2)))) [0, 1, 2, 3, 4, 5, 26, 27, 28, 6, 7, 8, 9, 10, 11, 12, 13, 14, 15, 16, 17, 18, 29, 30, 31, 19, 20, 21, 22, 23, 24, 25] rfl
  have hD := hD.sub (ws' := (wX6_copyFrom cI cZ a (sr (sr (sr (sr (sr (sr (sr (sr M 1 (r8 0)) 2 (r8 1)) 3 (r8 2)) 4 (r8 3)) 5 (r8 4)) 6 (r19 0)) 7 (r19 1)) 8 (r19 2)))) [0, 1, 2, 3, 4, 5, 26, 27, 28, 6, 7, 8, 9, 10, 11, 12, 13, 14, 15, 16, 17, 18, 29, 30, 31, 19, 20, 21, 22, 23, 24, 25] (by decide) rfl
  generalize H1 = H at hP hS ⊢
  refine lv_aload_n hx hb dX6_copyFrom_22 rfl (lv_at hl 0 rfl) ?_
  refine va_get (D := (dC, dI)) (ci := 6) (v := .ref (a 9)) (C := RX6) (T := TX6) (N := 5) hx hb hts hinX6 hown hK hP 0 rfl rfl 2 (by decide) hw9 (fun _ h9 => h9) rfl dX6_copyFrom_23 ?_
  refine lv_aload_n hx hb dX6_copyFrom_26 rfl (lv_at hl 1 rfl) ?_
  refine va_get (D := (dC, dI)) (ci := 6) (v := .ref (a 25)) (C := RX6) (T := TX6) (N := 5) hx hb hts hinX6 hown hK hP 16 rfl rfl 2 (by decide) hw9 (fun _ h9 => h9) rfl dX6_copyFrom_27 ?_
  obtain ⟨r30, hc30, hf⟩ := bi_s hf
  have hPc := hP.sub (ws' := (wX0_copyFrom cI cZ (pk [9, 10, 11, 12, 13, 25, 26, 27, 28, 29] a) (pk [9, 10, 11, 12, 13, 25, 26, 27, 28, 29] (sr (sr (sr (sr (sr (sr (sr (sr M 1 (r8 0)) 2 (r8 1)) 3 (r8 2)) 4 (r8 3)) 5 (r8 4)) 6 (r19 0)) 7 (r19 1)) 8 (r19 2))))) [9, 10, 11, 12, 13, 25, 26, 27, 28, 29] rfl
  have hDc := hD.sub (ws' := (wX0_copyFrom cI cZ (pk [9, 10, 11, 12, 13, 25, 26, 27, 28, 29] a) (pk [9, 10, 11, 12, 13, 25, 26, 27, 28, 29] (sr (sr (sr (sr (sr (sr (sr (sr M 1 (r8 0)) 2 (r8 1)) 3 (r8 2)) 4 (r8 3)) 5 (r8 4)) 6 (r19 0)) 7 (r19 1)) 8 (r19 2))))) [9, 10, 11, 12, 13, 25, 26, 27, 28, 29] (by decide) rfl
  have hFc := va_free (wc := (wX0_copyFrom cI cZ (pk [9, 10, 11, 12, 13, 25, 26, 27, 28, 29] a) (pk [9, 10, 11, 12, 13, 25, 26, 27, 28, 29] (sr (sr (sr (sr (sr (sr (sr (sr M 1 (r8 0)) 2 (r8 1)) 3 (r8 2)) 4 (r8 3)) 5 (r8 4)) 6 (r19 0)) 7 (r19 1)) 8 (r19 2))))) hD hS hA [9, 10, 11, 12, 13, 25, 26, 27, 28, 29] rfl
  refine va_callv (va_runVN (As := [.ref (a 25)]) (rest := []) ⟨hx, hb, hml, hown, hts⟩ (c_X0_copyFrom l dC dI cI cZ (pk [9, 10, 11, 12, 13, 25, 26, 27, 28, 29] a) H.size (pk [9, 10, 11, 12, 13, 25, 26, 27, 28, 29] (sr (sr (sr (sr (sr (sr (sr (sr M 1 (r8 0)) 2 (r8 1)) 3 (r8 2)) 4 (r8 3)) 5 (r8 4)) 6 (r19 0)) 7 (r19 1)) 8 (r19 2))) r30 hc30) ⟨va_cnB 1 hts gX6_copyFrom_X0_copyFrom_n50 rfl rfl rfl (nw89 hNW) hw10 (by decide +kernel) ⟨Nat.le_of_ble_eq_true rfl, Nat.le_of_ble_eq_true rfl⟩, hw11, hw12⟩ ⟨WR.blind, va_recv hK hP (ci := 0) (q0 := 9) rfl rfl, WR.pre hPc hK hDc hNW⟩ rfl rfl hl.1 rfl (lv_room (Nat.le_of_ble_eq_true rfl)) dX6_copyFrom_30 ⟨Nat.le_of_ble_eq_true rfl, Nat.le_of_ble_eq_true rfl⟩) hS (fun q _ h => hFc q h) hFc (fun u t H1 locs ht hvm hw hB hz1 hk1 hS => ?_)
  obtain ⟨hP1, hD1⟩ := hB
  rw [ht] at hP1
  obtain ⟨hP, hD⟩ := va_join (wr := [(a 0, .inr (6, [.ref (a 1), .ref (a 6), .ref (a 9), .ref (a 14), .int (M 0 4)])), (a 1, .inr (7, [.int ((r8 0) 0), .int ((r8 0) 1), .ref (a 2), .ref (a 3), .ref (a 4), .ref (a 5)])), (a 2, .inl (cI, 12, .inl (r8 1))), (a 3, .inl (cI, 12, .inl (r8 2))), (a 4, .inl (cI, 12, .inl (r8 3))), (a 5, .inl (cI, 120, .inl (r8 4))), (a 6, .inr (2, [.int ((r19 0) 0), .int ((r19 0) 1), .int ((r19 0) 2), .int ((r19 0) 3), .int ((r19 0) 4), .ref (a 7), .ref (a 8)])), (a 7, .inl (cI, 8, .inl (r19 1))), (a 8, .inl (cZ, 8, .inl (r19 2))), (a 14, .inr (3, [.int (M 14 0), .ref (a 15)])), (a 15, .inl (cI, 80, .inl (M 15))), (a 16, .inr (6, [.ref (a 17), .ref (a 22), .ref (a 25), .ref (a 30), .int (M 16 4)])), (a 17, .inr (7, [.int (M 17 0), .int (M 17 1), .ref (a 18), .ref (a 19), .ref (a 20), .ref (a 21)])), (a 18, .inl (cI, 12, .inl (M 18))), (a 19, .inl (cI, 12, .inl (M 19))), (a 20, .inl (cI, 12, .inl (M 20))), (a 21, .inl (cI, 120, .inl (M 21))), (a 22, .inr (2, [.int (M 22 0), .int (M 22 1), .int (M 22 2), .int (M 22 3), .int (M 22 4), .ref (a 23), .ref (a 24)])), (a 23, .inl (cI, 8, .inl (M 23))), (a 24, .inl (cZ, 8, .inl (M 24))), (a 30, .inr (3, [.int (M 30 0), .ref (a 31)])), (a 31, .inl (cI, 80, .inl (M 31)))]) (w1 := (wX0_copyFrom cI cZ (pk [9, 10, 11, 12, 13, 25, 26, 27, 28, 29] a) (sr (sr (sr (sr (pk [9, 10, 11, 12, 13, 25, 26, 27, 28, 29] (sr (sr (sr (sr (sr (sr (sr (sr M 1 (r8 0)) 2 (r8 1)) 3 (r8 2)) 4 (r8 3)) 5 (r8 4)) 6 (r19 0)) 7 (r19 1)) 8 (r19 2))) 1 (r30 1)) 2 (r30 2)) 3 (r30 3)) 4 (r30 4)))) hP hD [9, 10, 11, 12, 13, 25, 26, 27, 28, 29] [0, 1, 2, 3, 4, 5, 6, 7, 8, 14, 15, 16, 17, 18, 19, 20, 21, 22, 23, 24, 30, 31] rfl rfl (by decide) (by decide) hk1 hFc hP1 hD1
  have hP := hP.sub (ws' := (wX6_copyFrom cI cZ a (sr (sr (sr (sr (sr (sr (sr (sr (sr (sr (sr (sr M 1 (r8 0)) 2 (r8 1)) 3 (r8 2)) 4 (r8 3)) 5 (r8 4)) 6 (r19 0)) 7 (r19 1)) 8 (r19 2)) 10 (r30 1)) 11 (r30 2)) 12 (r30 3)) 13 (r30 4)))) [0, 1, 2, 3, 4, 5, 6, 7, 8, 22, 23, 24, 25, 26, 9, 10, 11, 12, 13, 14, 15, 16, 17, 18, 19, 27, 28, 29, 30, 31, 20, 21] rfl
  have hD := hD.sub (ws' := (wX6_copyFrom cI cZ a (sr (sr (sr (sr (sr (sr (sr (sr (sr (sr (sr (sr M 1 (r8 0)) 2 (r8 1)) 3 (r8 2)) 4 (r8 3)) 5 (r8 4)) 6 (r19 0)) 7 (r19 1)) 8 (r19 2)) 10 (r30 1)) 11 (r30 2)) 12 (r30 3)) 13 (r30 4)))) [0, 1, 2, 3, 4, 5, 6, 7, 8, 22, 23, 24, 25, 26, 9, 10, 11, 12, 13, 14, 15, 16, 17, 18, 19, 27, 28, 29, 30, 31, 20, 21] (by decide) rfl
  generalize H1 = H at hP hS ⊢
  refine lv_aload_n hx hb dX6_copyFrom_33 rfl (lv_at hl 0 rfl) ?_
  refine va_get (D := (dC, dI)) (ci := 6) (v := .ref (a 14)) (C := RX6) (T := TX6) (N := 5) hx hb hts hinX6 hown hK hP 0 rfl rfl 3 (by decide) hw13 (fun _ h9 => h9) rfl dX6_copyFrom_34 ?_
  refine lv_aload_n hx hb dX6_copyFrom_37 rfl (lv_at hl 1 rfl) ?_
  refine va_get (D := (dC, dI)) (ci := 6) (v := .ref (a 30)) (C := RX6) (T := TX6) (N := 5) hx hb hts hinX6 hown hK hP 16 rfl rfl 3 (by decide) hw13 (fun _ h9 => h9) rfl dX6_copyFrom_38 ?_
  obtain ⟨r41, hc41, hf⟩ := bi_s hf
  have hPc := hP.sub (ws' := (wX3_copyFrom cI cZ (pk [14, 15, 30, 31] a) (pk [14, 15, 30, 31] (sr (sr (sr (sr (sr (sr (sr (sr (sr (sr (sr (sr M 1 (r8 0)) 2 (r8 1)) 3 (r8 2)) 4 (r8 3)) 5 (r8 4)) 6 (r19 0)) 7 (r19 1)) 8 (r19 2)) 10 (r30 1)) 11 (r30 2)) 12 (r30 3)) 13 (r30 4))))) [14, 15, 30, 31] rfl
  have hDc := hD.sub (ws' := (wX3_copyFrom cI cZ (pk [14, 15, 30, 31] a) (pk [14, 15, 30, 31] (sr (sr (sr (sr (sr (sr (sr (sr (sr (sr (sr (sr M 1 (r8 0)) 2 (r8 1)) 3 (r8 2)) 4 (r8 3)) 5 (r8 4)) 6 (r19 0)) 7 (r19 1)) 8 (r19 2)) 10 (r30 1)) 11 (r30 2)) 12 (r30 3)) 13 (r30 4))))) [14, 15, 30, 31] (by decide) rfl
  have hFc := va_free (wc := (wX3_copyFrom cI cZ (pk [14, 15, 30, 31] a) (pk [14, 15, 30, 31] (sr (sr (sr (sr (sr (sr (sr (sr (sr (sr (sr (sr M 1 (r8 0)) 2 (r8 1)) 3 (r8 2)) 4 (r8 3)) 5 (r8 4)) 6 (r19 0)) 7 (r19 1)) 8 (r19 2)) 10 (r30 1)) 11 (r30 2)) 12 (r30 3)) 13 (r30 4))))) hD hS hA [14, 15, 30, 31] rfl
  refine va_callv (va_runVN (As := [.ref (a 30)]) (rest := []) ⟨hx, hb, hml, hown, hts⟩ (c_X3_copyFrom l dC dI cI cZ (pk [14, 15, 30, 31] a) H.size (pk [14, 15, 30, 31] (sr (sr (sr (sr (sr (sr (sr (sr (sr (sr (sr (sr M 1 (r8 0)) 2 (r8 1)) 3 (r8 2)) 4 (r8 3)) 5 (r8 4)) 6 (r19 0)) 7 (r19 1)) 8 (r19 2)) 10 (r30 1)) 11 (r30 2)) 12 (r30 3)) 13 (r30 4))) r41 hc41) ⟨va_cnB 1 hts gX6_copyFrom_X3_copyFrom_n53 rfl rfl rfl (nw90 hNW) hw14 (by decide +kernel) ⟨Nat.le_of_ble_eq_true rfl, Nat.le_of_ble_eq_true rfl⟩, hw15, hw16⟩ ⟨WR.blind, va_recv hK hP (ci := 3) (q0 := 14) rfl rfl, WR.pre hPc hK hDc hNW⟩ rfl rfl hl.1 rfl (lv_room (Nat.le_of_ble_eq_true rfl)) dX6_copyFrom_41 ⟨Nat.le_of_ble_eq_true rfl, Nat.le_of_ble_eq_true rfl⟩) hS (fun q _ h => hFc q h) hFc (fun u t H1 locs ht hvm hw hB hz1 hk1 hS => ?_)
  obtain ⟨hP1, hD1⟩ := hB
  rw [ht] at hP1
  obtain ⟨hP, hD⟩ := va_join (wr := [(a 0, .inr (6, [.ref (a 1), .ref (a 6), .ref (a 9), .ref (a 14), .int (M 0 4)])), (a 1, .inr (7, [.int ((r8 0) 0), .int ((r8 0) 1), .ref (a 2), .ref (a 3), .ref (a 4), .ref (a 5)])), (a 2, .inl (cI, 12, .inl (r8 1))), (a 3, .inl (cI, 12, .inl (r8 2))), (a 4, .inl (cI, 12, .inl (r8 3))), (a 5, .inl (cI, 120, .inl (r8 4))), (a 6, .inr (2, [.int ((r19 0) 0), .int ((r19 0) 1), .int ((r19 0) 2), .int ((r19 0) 3), .int ((r19 0) 4), .ref (a 7), .ref (a 8)])), (a 7, .inl (cI, 8, .inl (r19 1))), (a 8, .inl (cZ, 8, .inl (r19 2))), (a 9, .inr (0, [.ref (a 10), .ref (a 11), .ref (a 12), .ref (a 13)])), (a 10, .inl (cI, 10, .inl (r30 1))), (a 11, .inl (cI, 10, .inl (r30 2))), (a 12, .inl (cI, 10, .inl (r30 3))), (a 13, .inl (cI, 10, .inl (r30 4))), (a 16, .inr (6, [.ref (a 17), .ref (a 22), .ref (a 25), .ref (a 30), .int (M 16 4)])), (a 17, .inr (7, [.int (M 17 0), .int (M 17 1), .ref (a 18), .ref (a 19), .ref (a 20), .ref (a 21)])), (a 18, .inl (cI, 12, .inl (M 18))), (a 19, .inl (cI, 12, .inl (M 19))), (a 20, .inl (cI, 12, .inl (M 20))), (a 21, .inl (cI, 120, .inl (M 21))), (a 22, .inr (2, [.int (M 22 0), .int (M 22 1), .int (M 22 2), .int (M 22 3), .int (M 22 4), .ref (a 23), .ref (a 24)])), (a 23, .inl (cI, 8, .inl (M 23))), (a 24, .inl (cZ, 8, .inl (M 24))), (a 25, .inr (0, [.ref (a 26), .ref (a 27), .ref (a 28), .ref (a 29)])), (a 26, .inl (cI, 10, .inl (M 26))), (a 27, .inl (cI, 10, .inl (M 27))), (a 28, .inl (cI, 10, .inl (M 28))), (a 29, .inl (cI, 10, .inl (M 29)))]) (w1 := (wX3_copyFrom cI cZ (pk [14, 15, 30, 31] a) (sr (sr (pk [14, 15, 30, 31] (sr (sr (sr (sr (sr (sr (sr (sr (sr (sr (sr (sr M 1 (r8 0)) 2 (r8 1)) 3 (r8 2)) 4 (r8 3)) 5 (r8 4)) 6 (r19 0)) 7 (r19 1)) 8 (r19 2)) 10 (r30 1)) 11 (r30 2)) 12 (r30 3)) 13 (r30 4))) 0 (r41 0)) 1 (r41 1)))) hP hD [14, 15, 30, 31] [0, 1, 2, 3, 4, 5, 6, 7, 8, 9, 10, 11, 12, 13, 16, 17, 18, 19, 20, 21, 22, 23, 24, 25, 26, 27, 28, 29] rfl rfl (by decide) (by decide) hk1 hFc hP1 hD1
  have hP := hP.sub (ws' := (wX6_copyFrom cI cZ a (sr (sr (sr (sr (sr (sr (sr (sr (sr (sr (sr (sr (sr (sr M 1 (r8 0)) 2 (r8 1)) 3 (r8 2)) 4 (r8 3)) 5 (r8 4)) 6 (r19 0)) 7 (r19 1)) 8 (r19 2)) 10 (r30 1)) 11 (r30 2)) 12 (r30 3)) 13 (r30 4)) 14 (r41 0)) 15 (r41 1)))) [0, 1, 2, 3, 4, 5, 6, 7, 8, 9, 10, 11, 12, 13, 28, 29, 14, 15, 16, 17, 18, 19, 20, 21, 22, 23, 24, 25, 26, 27, 30, 31] rfl
  have hD := hD.sub (ws' := (wX6_copyFrom cI cZ a (sr (sr (sr (sr (sr (sr (sr (sr (sr (sr (sr (sr (sr (sr M 1 (r8 0)) 2 (r8 1)) 3 (r8 2)) 4 (r8 3)) 5 (r8 4)) 6 (r19 0)) 7 (r19 1)) 8 (r19 2)) 10 (r30 1)) 11 (r30 2)) 12 (r30 3)) 13 (r30 4)) 14 (r41 0)) 15 (r41 1)))) [0, 1, 2, 3, 4, 5, 6, 7, 8, 9, 10, 11, 12, 13, 28, 29, 14, 15, 16, 17, 18, 19, 20, 21, 22, 23, 24, 25, 26, 27, 30, 31] (by decide) rfl
  generalize H1 = H at hP hS ⊢
  refine lv_aload_n hx hb dX6_copyFrom_44 rfl (lv_at hl 0 rfl) ?_
  refine lv_aload_n hx hb dX6_copyFrom_45 rfl (lv_at hl 1 rfl) ?_
  refine va_get (D := (dC, dI)) (ci := 6) (v := .int (M 16 4)) (C := RX6) (T := TX6) (N := 5) hx hb hts hinX6 hown hK hP 16 rfl rfl 4 (by decide) hw17 (fun _ h9 => h9) rfl dX6_copyFrom_46 ?_
  refine va_put (D := (dC, dI)) (ci := 6) (v := .int (M 16 4)) (ty := .int) (C := RX6) (T := TX6) (N := 5) hx hb hts hinX6 tyX6 tyX6_ok nmX6 hown hK hP hD hS 0 rfl rfl 4 (by decide) hw17 (fun _ h9 => h9) rfl (by decide +kernel) rfl rfl (Nat.le_of_ble_eq_true rfl) dX6_copyFrom_49 (fun H locs hP hD hS => ?_)
  have hP : va_P (dC, dI) vwCl (wX6_copyFrom cI cZ a (sr (sr (sr (sr (sr (sr (sr (sr (sr (sr (sr (sr (sr (sr (sr M 0 (upd (M 0) 4 (M 16 4))) 1 (r8 0)) 2 (r8 1)) 3 (r8 2)) 4 (r8 3)) 5 (r8 4)) 6 (r19 0)) 7 (r19 1)) 8 (r19 2)) 10 (r30 1)) 11 (r30 2)) 12 (r30 3)) 13 (r30 4)) 14 (r41 0)) 15 (r41 1))) H := hP
  have hD : va_D A (wX6_copyFrom cI cZ a (sr (sr (sr (sr (sr (sr (sr (sr (sr (sr (sr (sr (sr (sr (sr M 0 (upd (M 0) 4 (M 16 4))) 1 (r8 0)) 2 (r8 1)) 3 (r8 2)) 4 (r8 3)) 5 (r8 4)) 6 (r19 0)) 7 (r19 1)) 8 (r19 2)) 10 (r30 1)) 11 (r30 2)) 12 (r30 3)) 13 (r30 4)) 14 (r41 0)) 15 (r41 1))) := hD
  have e9 := so_e hf
  subst e9
  exact W.vret hx hb hr (fun t ht hW => ⟨⟨(), rfl, trivial, WE.mk hP hD ht⟩, hS.F ht⟩) hS.2.2 dX6_copyFrom_52
set_option maxHeartbeats 4000000 in
set_option maxRecDepth 100000 in
theorem c_X6_weighShelf (l : Launch) (dC : Nat → ClassId) (dI : Nat → Nat → Nat) (cI cZ : ClassId) (a : Nat → Nat) (M : Mem) (a1 : Int32) (z : Int32) (hf : fX6_weighShelf M a1 = some z) : Met l yX6_weighShelf wsX6_weighShelf ({ frames := 1, cells := 0, slots := 0, locals := 22 } : Room) (va_Pc [.ref (a 0), .int a1] (RO (dC, dI) cI cZ (wX6 cI cZ a M))) (k2_QcV (.int z)) 0 0 (fun _ => False) := by
  refine Met.ofW (cc := cX6_weighShelf) (maxL := 4) (ret := (some .int)) (by decide) rfl ?_
  intro p e s m args below meth c s₁ B hml hv
  obtain ⟨rfl, hP, hK, hNW⟩ := hv
  have hx := B.exec
  have hb := B.bytes
  have hr := B.returns
  have hts := atoms_spec (ws := wsX6_weighShelf) B.pre
  have hown : s.vm.findClass RX6 = some m.cls := findClass_of_methodNamed B.named
  have hlocks := B.notSynchronized
  have hinX6 : ∀ w ∈ u_ws RX6 TX6 5, w ∈ wsX6_weighShelf := by decide +kernel
  have hw1 := hts (.fieldLink RX6 12 "GlideShelves$State" "tower" "LGlideShelves$Tower;") (by decide +kernel)
  have hw2 := hts (.initialized RX7) (by decide +kernel)
  have hw3 := hts (.instanceMethod yX7_countIn) (by decide +kernel)
  have hw4 := hts (.selects RX7 yX7_countIn yX7_countIn) (by decide +kernel)
  have hw5 := hts (.fieldLink RX6 28 "GlideShelves$State" "goods" "LGlideShelves$Goods;") (by decide +kernel)
  have hinX0 : ∀ w ∈ u_ws RX0 TX0 4, w ∈ wsX6_weighShelf := by decide +kernel
  have hfX6_weighShelf_L4 : ∀ (n : Nat) (kx38 : Int32 → Option (Int32)) (hkx38 : ∀ (l2 : Int32), kx38 l2 = some z → ∀ (ls : Array Slot), lv_has ls 4 [(2, .int l2)] → W p l e (headSpec wsX6_weighShelf ({ frames := 1, cells := 0, slots := 0, locals := 22 } : Room)).room s m ([.ref (a 0), .int a1] : List Value).toArray below meth c s.heap [] 0 0 (MQ below (k2_QcV (.int z)) ([.ref (a 0), .int a1] : List Value).toArray s 0 0 (fun _ => False)) (F0 m 38 ls [])), ∀ (l1 : Int32) (l2 : Int32) (l3 : Int32), fX6_weighShelf_L4 M n kx38 l1 l2 l3 = some z → ∀ (ls : Array Slot), lv_has ls 4 [(0, .ref (a 0)), (1, .int l1), (2, .int l2), (3, .int l3)] → W p l e (headSpec wsX6_weighShelf ({ frames := 1, cells := 0, slots := 0, locals := 22 } : Room)).room s m ([.ref (a 0), .int a1] : List Value).toArray below meth c s.heap [] 0 0 (MQ below (k2_QcV (.int z)) ([.ref (a 0), .int a1] : List Value).toArray s 0 0 (fun _ => False)) (F0 m 4 ls []) := by
    intro n
    induction n with
    | zero =>
      intro kx38 hkx38 l1 l2 l3 hf ls hl
      rw [fX6_weighShelf_L4] at hf
      cases hf
    | succ n ih =>
      intro kx38 hkx38 l1 l2 l3 hf ls hl
      rw [fX6_weighShelf_L4] at hf
      refine lv_iload_n hx hb dX6_weighShelf_4 rfl (lv_at hl 3 rfl) ?_
      refine lv_bipush (v := (10 : Int32)) hx hb dX6_weighShelf_5 (by decide) ?_
      refine lv_icmp_ge (tgt := 38) hx hb dX6_weighShelf_7 (by decide) (fun c9 => ?_) (fun c9 => ?_)
      · have hf := it_t hf c9
        exact hkx38 l2 hf _ (lv_sub hl [2] rfl)
      · have hf := it_f hf c9
        refine lv_iload_n hx hb dX6_weighShelf_10 rfl (lv_at hl 2 rfl) ?_
        refine lv_aload_n hx hb dX6_weighShelf_11 rfl (lv_at hl 0 rfl) ?_
        refine va_get (D := (dC, dI)) (ci := 6) (v := .ref (a 1)) (C := RX6) (T := TX6) (N := 5) hx hb hts hinX6 hown hK hP 0 rfl rfl 0 (by decide) hw1 (fun _ h9 => h9) rfl dX6_weighShelf_12 ?_
        refine lv_iload_n hx hb dX6_weighShelf_15 rfl (lv_at hl 1 rfl) ?_
        refine lv_iload_n hx hb dX6_weighShelf_16 rfl (lv_at hl 3 rfl) ?_
        obtain ⟨r17, hc17, hf⟩ := bi_s hf
        have hPc := hP.sub (ws' := (wX7 cI cZ (ofs 1 a) (ofs 1 M))) [1, 2, 3, 4, 5] rfl
        refine cRO (va_Run.run (va_runVN (As := [.int l1, .int l3]) (rest := [.int l2]) ⟨hx, hb, hml, hown, hts⟩ (c_X7_countIn l dC dI cI cZ (ofs 1 a) (ofs 1 M) l1 l3 r17 hc17) ⟨va_cnB 2 hts gX6_weighShelf_X7_countIn_n56 rfl rfl rfl (nw91 hNW) hw2 (by decide +kernel) ⟨Nat.le_of_ble_eq_true rfl, Nat.le_of_ble_eq_true rfl⟩, hw3, hw4⟩ ⟨RO.blind, va_recv hK hP (ci := 7) (q0 := 1) rfl rfl, RO.pre hPc hK hNW⟩ rfl rfl hl.1 rfl (lv_room (Nat.le_of_ble_eq_true rfl)) dX6_weighShelf_17 ⟨Nat.le_of_ble_eq_true rfl, Nat.le_of_ble_eq_true rfl⟩)) ?_
        refine lv_aload_n hx hb dX6_weighShelf_20 rfl (lv_at hl 0 rfl) ?_
        refine va_get (D := (dC, dI)) (ci := 6) (v := .ref (a 9)) (C := RX6) (T := TX6) (N := 5) hx hb hts hinX6 hown hK hP 0 rfl rfl 2 (by decide) hw5 (fun _ h9 => h9) rfl dX6_weighShelf_21 ?_
        refine va_getN (D := (dC, dI)) (ci := 0) (v := .ref (a 10)) (C := RX0) (T := TX0) (N := 4) hx hb hts hinX0 hown hK hP 9 rfl rfl 0 (by decide) (nw34 hNW) (fun _ h9 => h9) rfl dX6_weighShelf_24 ?_
        refine lv_iload_n hx hb dX6_weighShelf_27 rfl (lv_at hl 3 rfl) ?_
        obtain ⟨hi, hf⟩ := gd_s hf
        refine va_iald (D := (dC, dI)) (f := (M 10)) hx hb hK hP 10 0 rfl rfl (inb_in hi) dX6_weighShelf_28 ?_
        refine lv_imul hx hb dX6_weighShelf_29 ?_
        refine lv_iadd hx hb dX6_weighShelf_30 ?_
        refine lv_istore_n (lv' := [(2, .int (l2 + (r17 * (M 10 l3.toNatClampNeg)))), (0, .ref (a 0)), (1, .int l1), (3, .int l3)]) hx hb dX6_weighShelf_31 rfl hl (by decide) rfl (fun ls hl => ?_)
        refine lv_iinc (v := (l3 + (1 : Int32))) (lv' := [(3, .int (l3 + (1 : Int32))), (2, .int (l2 + (r17 * (M 10 l3.toNatClampNeg)))), (0, .ref (a 0)), (1, .int l1)]) hx hb dX6_weighShelf_32 hl (k := 3) rfl rfl (by decide) rfl (fun ls hl => ?_)
        refine lv_goto (tgt := 4) hx hb dX6_weighShelf_35 (by decide) ?_
        exact ih kx38 hkx38 l1 (l2 + (r17 * (M 10 l3.toNatClampNeg))) (l3 + (1 : Int32)) hf _ (lv_sub hl [2, 3, 1, 0] rfl)
  have hl := lv_entry ([.ref (a 0), .int a1]) (n := 4) (Nat.le_of_ble_eq_true rfl)
  rw [lg_entry_eq]
  generalize (lg_sl ([.ref (a 0), .int a1]) ++ List.replicate (4 - (lg_sl ([.ref (a 0), .int a1])).length) Slot.unset).toArray = ls at hl ⊢
  have hl : lv_has ls 4 [(0, .ref (a 0)), (1, .int a1)] := hl
  unfold fX6_weighShelf at hf
  refine lv_iconst (v := (0 : Int32)) hx hb dX6_weighShelf_0 (by decide) ?_
  refine lv_istore_n (lv' := [(2, .int (0 : Int32)), (0, .ref (a 0)), (1, .int a1)]) hx hb dX6_weighShelf_1 rfl hl (by decide) rfl (fun ls hl => ?_)
  refine lv_iconst (v := (0 : Int32)) hx hb dX6_weighShelf_2 (by decide) ?_
  refine lv_istore_n (lv' := [(3, .int (0 : Int32)), (2, .int (0 : Int32)), (0, .ref (a 0)), (1, .int a1)]) hx hb dX6_weighShelf_3 rfl hl (by decide) rfl (fun ls hl => ?_)
  refine hfX6_weighShelf_L4 5000 _ (fun l2 hf ls hl => ?_) a1 (0 : Int32) (0 : Int32) hf _ (lv_sub hl [2, 3, 1, 0] rfl)
  refine lv_iload_n hx hb dX6_weighShelf_38 rfl (lv_at hl 0 rfl) ?_
  exact W.iret (v := l2) hx hb hr (fun t ht hW => ⟨congrArg (fun x => Outcome.returned (some (Value.int x))) (so_e hf), ht⟩) fl0 dX6_weighShelf_39
set_option maxHeartbeats 4000000 in
set_option maxRecDepth 100000 in
theorem c_X6_findHeaviest (l : Launch) (dC : Nat → ClassId) (dI : Nat → Nat → Nat) (cI cZ : ClassId) (a : Nat → Nat) (M : Mem) (z : Int32) (hf : fX6_findHeaviest M  = some z) : Met l yX6_findHeaviest wsX6_findHeaviest ({ frames := 2, cells := 0, slots := 0, locals := 45 } : Room) (va_Pc [.ref (a 0)] (RO (dC, dI) cI cZ (wX6 cI cZ a M))) (k2_QcV (.int z)) 0 0 (fun _ => False) := by
  refine Met.ofW (cc := cX6_findHeaviest) (maxL := 5) (ret := (some .int)) (by decide) rfl ?_
  intro p e s m args below meth c s₁ B hml hv
  obtain ⟨rfl, hP, hK, hNW⟩ := hv
  have hx := B.exec
  have hb := B.bytes
  have hr := B.returns
  have hts := atoms_spec (ws := wsX6_findHeaviest) B.pre
  have hown : s.vm.findClass RX6 = some m.cls := findClass_of_methodNamed B.named
  have hlocks := B.notSynchronized
  have hinX6 : ∀ w ∈ u_ws RX6 TX6 5, w ∈ wsX6_findHeaviest := by decide +kernel
  have hw1 := hts (.fieldLink RX6 12 "GlideShelves$State" "tower" "LGlideShelves$Tower;") (by decide +kernel)
  have hinX7 : ∀ w ∈ u_ws RX7 TX7 6, w ∈ wsX6_findHeaviest := by decide +kernel
  have hfX6_findHeaviest_B40 : ∀ (kb : Int32 → Int32 → Int32 → Option (Int32)) (hkb : ∀ (l1 : Int32) (l2 : Int32) (l3 : Int32), kb l1 l2 l3 = some z → ∀ (ls : Array Slot), lv_has ls 5 [(0, .ref (a 0)), (1, .int l1), (2, .int l2), (3, .int l3)] → W p l e (headSpec wsX6_findHeaviest ({ frames := 2, cells := 0, slots := 0, locals := 45 } : Room)).room s m ([.ref (a 0)] : List Value).toArray below meth c s.heap [] 0 0 (MQ below (k2_QcV (.int z)) ([.ref (a 0)] : List Value).toArray s 0 0 (fun _ => False)) (F0 m 6 ls [])) (kx46 : Int32 → Option (Int32)) (hkx46 : ∀ (l1 : Int32), kx46 l1 = some z → ∀ (ls : Array Slot), lv_has ls 5 [(1, .int l1)] → W p l e (headSpec wsX6_findHeaviest ({ frames := 2, cells := 0, slots := 0, locals := 45 } : Room)).room s m ([.ref (a 0)] : List Value).toArray below meth c s.heap [] 0 0 (MQ below (k2_QcV (.int z)) ([.ref (a 0)] : List Value).toArray s 0 0 (fun _ => False)) (F0 m 46 ls [])), ∀ (l1 : Int32) (l2 : Int32) (l3 : Int32), fX6_findHeaviest_B40 M kb kx46 l1 l2 l3 = some z → ∀ (ls : Array Slot), lv_has ls 5 [(0, .ref (a 0)), (1, .int l1), (2, .int l2), (3, .int l3)] → W p l e (headSpec wsX6_findHeaviest ({ frames := 2, cells := 0, slots := 0, locals := 45 } : Room)).room s m ([.ref (a 0)] : List Value).toArray below meth c s.heap [] 0 0 (MQ below (k2_QcV (.int z)) ([.ref (a 0)] : List Value).toArray s 0 0 (fun _ => False)) (F0 m 40 ls []) := by
    intro kb hkb kx46 hkx46 l1 l2 l3 hf ls hl
    unfold fX6_findHeaviest_B40 at hf
    refine lv_iinc (v := (l3 + (1 : Int32))) (lv' := [(3, .int (l3 + (1 : Int32))), (0, .ref (a 0)), (1, .int l1), (2, .int l2)]) hx hb dX6_findHeaviest_40 hl (k := 3) rfl rfl (by decide) rfl (fun ls hl => ?_)
    refine lv_goto (tgt := 6) hx hb dX6_findHeaviest_43 (by decide) ?_
    exact hkb l1 l2 (l3 + (1 : Int32)) hf _ (lv_sub hl [1, 2, 3, 0] rfl)
  have hfX6_findHeaviest_B35 : ∀ (kb : Int32 → Int32 → Int32 → Option (Int32)) (hkb : ∀ (l1 : Int32) (l2 : Int32) (l3 : Int32), kb l1 l2 l3 = some z → ∀ (ls : Array Slot), lv_has ls 5 [(0, .ref (a 0)), (1, .int l1), (2, .int l2), (3, .int l3)] → W p l e (headSpec wsX6_findHeaviest ({ frames := 2, cells := 0, slots := 0, locals := 45 } : Room)).room s m ([.ref (a 0)] : List Value).toArray below meth c s.heap [] 0 0 (MQ below (k2_QcV (.int z)) ([.ref (a 0)] : List Value).toArray s 0 0 (fun _ => False)) (F0 m 6 ls [])) (kx46 : Int32 → Option (Int32)) (hkx46 : ∀ (l1 : Int32), kx46 l1 = some z → ∀ (ls : Array Slot), lv_has ls 5 [(1, .int l1)] → W p l e (headSpec wsX6_findHeaviest ({ frames := 2, cells := 0, slots := 0, locals := 45 } : Room)).room s m ([.ref (a 0)] : List Value).toArray below meth c s.heap [] 0 0 (MQ below (k2_QcV (.int z)) ([.ref (a 0)] : List Value).toArray s 0 0 (fun _ => False)) (F0 m 46 ls [])), ∀ (l3 : Int32) (l4 : Int32), fX6_findHeaviest_B35 M kb kx46 l3 l4 = some z → ∀ (ls : Array Slot), lv_has ls 5 [(0, .ref (a 0)), (3, .int l3), (4, .int l4)] → W p l e (headSpec wsX6_findHeaviest ({ frames := 2, cells := 0, slots := 0, locals := 45 } : Room)).room s m ([.ref (a 0)] : List Value).toArray below meth c s.heap [] 0 0 (MQ below (k2_QcV (.int z)) ([.ref (a 0)] : List Value).toArray s 0 0 (fun _ => False)) (F0 m 35 ls []) := by
    intro kb hkb kx46 hkx46 l3 l4 hf ls hl
    unfold fX6_findHeaviest_B35 at hf
    refine lv_iload_n hx hb dX6_findHeaviest_35 rfl (lv_at hl 1 rfl) ?_
    refine lv_istore_n (lv' := [(1, .int l3), (0, .ref (a 0)), (3, .int l3), (4, .int l4)]) hx hb dX6_findHeaviest_36 rfl hl (by decide) rfl (fun ls hl => ?_)
    refine lv_iload hx hb dX6_findHeaviest_37 (lv_at hl 3 rfl) ?_
    refine lv_istore_n (lv' := [(2, .int l4), (1, .int l3), (0, .ref (a 0)), (3, .int l3), (4, .int l4)]) hx hb dX6_findHeaviest_39 rfl hl (by decide) rfl (fun ls hl => ?_)
    exact hfX6_findHeaviest_B40 _ hkb _ hkx46 l3 l4 l3 hf _ (lv_sub hl [2, 1, 0, 3] rfl)
  have hfX6_findHeaviest_L6 : ∀ (n : Nat) (kx46 : Int32 → Option (Int32)) (hkx46 : ∀ (l1 : Int32), kx46 l1 = some z → ∀ (ls : Array Slot), lv_has ls 5 [(1, .int l1)] → W p l e (headSpec wsX6_findHeaviest ({ frames := 2, cells := 0, slots := 0, locals := 45 } : Room)).room s m ([.ref (a 0)] : List Value).toArray below meth c s.heap [] 0 0 (MQ below (k2_QcV (.int z)) ([.ref (a 0)] : List Value).toArray s 0 0 (fun _ => False)) (F0 m 46 ls [])), ∀ (l1 : Int32) (l2 : Int32) (l3 : Int32), fX6_findHeaviest_L6 M n kx46 l1 l2 l3 = some z → ∀ (ls : Array Slot), lv_has ls 5 [(0, .ref (a 0)), (1, .int l1), (2, .int l2), (3, .int l3)] → W p l e (headSpec wsX6_findHeaviest ({ frames := 2, cells := 0, slots := 0, locals := 45 } : Room)).room s m ([.ref (a 0)] : List Value).toArray below meth c s.heap [] 0 0 (MQ below (k2_QcV (.int z)) ([.ref (a 0)] : List Value).toArray s 0 0 (fun _ => False)) (F0 m 6 ls []) := by
    intro n
    induction n with
    | zero =>
      intro kx46 hkx46 l1 l2 l3 hf ls hl
      rw [fX6_findHeaviest_L6] at hf
      cases hf
    | succ n ih =>
      intro kx46 hkx46 l1 l2 l3 hf ls hl
      rw [fX6_findHeaviest_L6] at hf
      refine lv_iload_n hx hb dX6_findHeaviest_6 rfl (lv_at hl 3 rfl) ?_
      refine lv_aload_n hx hb dX6_findHeaviest_7 rfl (lv_at hl 0 rfl) ?_
      refine va_get (D := (dC, dI)) (ci := 6) (v := .ref (a 1)) (C := RX6) (T := TX6) (N := 5) hx hb hts hinX6 hown hK hP 0 rfl rfl 0 (by decide) hw1 (fun _ h9 => h9) rfl dX6_findHeaviest_8 ?_
      refine va_getN (D := (dC, dI)) (ci := 7) (v := .int (M 1 0)) (C := RX7) (T := TX7) (N := 6) hx hb hts hinX7 hown hK hP 1 rfl rfl 0 (by decide) (nw35 hNW) (fun _ h9 => h9) rfl dX6_findHeaviest_11 ?_
      refine lv_icmp_ge (tgt := 46) hx hb dX6_findHeaviest_14 (by decide) (fun c9 => ?_) (fun c9 => ?_)
      · have hf := it_t hf c9
        exact hkx46 l1 hf _ (lv_sub hl [1] rfl)
      · have hf := it_f hf c9
        refine lv_aload_n hx hb dX6_findHeaviest_17 rfl (lv_at hl 0 rfl) ?_
        refine lv_iload_n hx hb dX6_findHeaviest_18 rfl (lv_at hl 3 rfl) ?_
        obtain ⟨r19, hc19, hf⟩ := bi_s hf
        have hPc := hP
        refine cRO (W.runV (As := [.int l3]) (rest := []) ⟨hx, hb, hml, hown, hts⟩ (c_X6_weighShelf l dC dI cI cZ a M l3 r19 hc19) (cwV 1 hts gX6_findHeaviest_X6_weighShelf rfl rfl rfl (by decide +kernel) ⟨Nat.le_of_ble_eq_true rfl, Nat.le_of_ble_eq_true rfl⟩) ⟨RO.blind, va_recv hK hP (ci := 6) (q0 := 0) rfl rfl, RO.pre hPc hK hNW⟩ rfl rfl hl.1 rfl (lv_room (Nat.le_of_ble_eq_true rfl)) dX6_findHeaviest_19 ⟨Nat.le_of_ble_eq_true rfl, Nat.le_of_ble_eq_true rfl⟩) ?_
        refine lv_istore (lv' := [(4, .int r19), (0, .ref (a 0)), (1, .int l1), (2, .int l2), (3, .int l3)]) hx hb dX6_findHeaviest_22 hl (by decide) rfl (fun ls hl => ?_)
        refine lv_iload_n hx hb dX6_findHeaviest_24 rfl (lv_at hl 2 rfl) ?_
        refine lv_iconst (v := (-1 : Int32)) hx hb dX6_findHeaviest_25 (by decide) ?_
        refine lv_icmp_eq (tgt := 35) hx hb dX6_findHeaviest_26 (by decide) (fun c9 => ?_) (fun c9 => ?_)
        · have hf := it_t hf c9
          exact hfX6_findHeaviest_B35 _ (ih kx46 hkx46) _ hkx46 l3 r19 hf _ (lv_sub hl [1, 4, 0] rfl)
        · have hf := it_f hf c9
          refine lv_iload hx hb dX6_findHeaviest_29 (lv_at hl 0 rfl) ?_
          refine lv_iload_n hx hb dX6_findHeaviest_31 rfl (lv_at hl 3 rfl) ?_
          refine lv_icmp_le (tgt := 40) hx hb dX6_findHeaviest_32 (by decide) (fun c9 => ?_) (fun c9 => ?_)
          · have hf := it_t hf c9
            exact hfX6_findHeaviest_B40 _ (ih kx46 hkx46) _ hkx46 l1 l2 l3 hf _ (lv_sub hl [1, 2, 3, 4] rfl)
          · have hf := it_f hf c9
            exact hfX6_findHeaviest_B35 _ (ih kx46 hkx46) _ hkx46 l3 r19 hf _ (lv_sub hl [1, 4, 0] rfl)
  have hl := lv_entry ([.ref (a 0)]) (n := 5) (Nat.le_of_ble_eq_true rfl)
  rw [lg_entry_eq]
  generalize (lg_sl ([.ref (a 0)]) ++ List.replicate (5 - (lg_sl ([.ref (a 0)])).length) Slot.unset).toArray = ls at hl ⊢
  have hl : lv_has ls 5 [(0, .ref (a 0))] := hl
  unfold fX6_findHeaviest at hf
  refine lv_iconst (v := (-1 : Int32)) hx hb dX6_findHeaviest_0 (by decide) ?_
  refine lv_istore_n (lv' := [(1, .int (-1 : Int32)), (0, .ref (a 0))]) hx hb dX6_findHeaviest_1 rfl hl (by decide) rfl (fun ls hl => ?_)
  refine lv_iconst (v := (0 : Int32)) hx hb dX6_findHeaviest_2 (by decide) ?_
  refine lv_istore_n (lv' := [(2, .int (0 : Int32)), (1, .int (-1 : Int32)), (0, .ref (a 0))]) hx hb dX6_findHeaviest_3 rfl hl (by decide) rfl (fun ls hl => ?_)
  refine lv_iconst (v := (0 : Int32)) hx hb dX6_findHeaviest_4 (by decide) ?_
  refine lv_istore_n (lv' := [(3, .int (0 : Int32)), (2, .int (0 : Int32)), (1, .int (-1 : Int32)), (0, .ref (a 0))]) hx hb dX6_findHeaviest_5 rfl hl (by decide) rfl (fun ls hl => ?_)
  refine hfX6_findHeaviest_L6 5000 _ (fun l1 hf ls hl => ?_) (-1 : Int32) (0 : Int32) (0 : Int32) hf _ (lv_sub hl [3, 2, 1, 0] rfl)
  refine lv_iload_n hx hb dX6_findHeaviest_46 rfl (lv_at hl 0 rfl) ?_
  exact W.iret (v := l1) hx hb hr (fun t ht hW => ⟨congrArg (fun x => Outcome.returned (some (Value.int x))) (so_e hf), ht⟩) fl0 dX6_findHeaviest_47
set_option maxHeartbeats 4000000 in
set_option maxRecDepth 100000 in
theorem c_X6_missing (l : Launch) (dC : Nat → ClassId) (dI : Nat → Nat → Nat) (cI cZ : ClassId) (a : Nat → Nat) (M : Mem) (a1 : Int32) (z : Int32) (hf : fX6_missing M a1 = some z) : Met l yX6_missing wsX6_missing ({ frames := 2, cells := 0, slots := 0, locals := 45 } : Room) (va_Pc [.ref (a 0), .int a1] (RO (dC, dI) cI cZ (wX6 cI cZ a M))) (k2_QcV (.int z)) 0 0 (fun _ => False) := by
  refine Met.ofW (cc := cX6_missing) (maxL := 2) (ret := (some .int)) (by decide) rfl ?_
  intro p e s m args below meth c s₁ B hml hv
  obtain ⟨rfl, hP, hK, hNW⟩ := hv
  have hx := B.exec
  have hb := B.bytes
  have hr := B.returns
  have hts := atoms_spec (ws := wsX6_missing) B.pre
  have hown : s.vm.findClass RX6 = some m.cls := findClass_of_methodNamed B.named
  have hlocks := B.notSynchronized
  have hinX6 : ∀ w ∈ u_ws RX6 TX6 5, w ∈ wsX6_missing := by decide +kernel
  have hw1 := hts (.fieldLink RX6 28 "GlideShelves$State" "goods" "LGlideShelves$Goods;") (by decide +kernel)
  have hinX0 : ∀ w ∈ u_ws RX0 TX0 4, w ∈ wsX6_missing := by decide +kernel
  have hw3 := hts (.fieldLink RX6 12 "GlideShelves$State" "tower" "LGlideShelves$Tower;") (by decide +kernel)
  have hw4 := hts (.initialized RX7) (by decide +kernel)
  have hw5 := hts (.instanceMethod yX7_stockOf) (by decide +kernel)
  have hw6 := hts (.selects RX7 yX7_stockOf yX7_stockOf) (by decide +kernel)
  have hw7 := hts (.methodLink RX6 83 Lib.Math.max.name) (by decide +kernel)
  have hw8 := hts (.static Lib.Math.max.name) (by decide +kernel)
  have hw9 := hts (.initialized "java/lang/Math") (by decide +kernel)
  have hw10 := hts (.code Lib.Math.max.name Lib.Math.max.code 2 (some .int)) (by decide +kernel)
  have hl := lv_entry ([.ref (a 0), .int a1]) (n := 2) (Nat.le_of_ble_eq_true rfl)
  rw [lg_entry_eq]
  generalize (lg_sl ([.ref (a 0), .int a1]) ++ List.replicate (2 - (lg_sl ([.ref (a 0), .int a1])).length) Slot.unset).toArray = ls at hl ⊢
  have hl : lv_has ls 2 [(0, .ref (a 0)), (1, .int a1)] := hl
  unfold fX6_missing at hf
  refine lv_iconst (v := (0 : Int32)) hx hb dX6_missing_0 (by decide) ?_
  refine lv_aload_n hx hb dX6_missing_1 rfl (lv_at hl 0 rfl) ?_
  refine va_get (D := (dC, dI)) (ci := 6) (v := .ref (a 9)) (C := RX6) (T := TX6) (N := 5) hx hb hts hinX6 hown hK hP 0 rfl rfl 2 (by decide) hw1 (fun _ h9 => h9) rfl dX6_missing_2 ?_
  refine va_getN (D := (dC, dI)) (ci := 0) (v := .ref (a 11)) (C := RX0) (T := TX0) (N := 4) hx hb hts hinX0 hown hK hP 9 rfl rfl 1 (by decide) (nw38 hNW) (fun _ h9 => h9) rfl dX6_missing_5 ?_
  refine lv_iload_n hx hb dX6_missing_8 rfl (lv_at hl 1 rfl) ?_
  obtain ⟨hi, hf⟩ := gd_s hf
  refine va_iald (D := (dC, dI)) (f := (M 11)) hx hb hK hP 11 0 rfl rfl (inb_in hi) dX6_missing_9 ?_
  refine lv_aload_n hx hb dX6_missing_10 rfl (lv_at hl 0 rfl) ?_
  refine va_get (D := (dC, dI)) (ci := 6) (v := .ref (a 1)) (C := RX6) (T := TX6) (N := 5) hx hb hts hinX6 hown hK hP 0 rfl rfl 0 (by decide) hw3 (fun _ h9 => h9) rfl dX6_missing_11 ?_
  refine lv_iload_n hx hb dX6_missing_14 rfl (lv_at hl 1 rfl) ?_
  obtain ⟨r15, hc15, hf⟩ := bi_s hf
  have hPc := hP.sub (ws' := (wX7 cI cZ (ofs 1 a) (ofs 1 M))) [1, 2, 3, 4, 5] rfl
  refine cRO (va_Run.run (va_runVN (As := [.int a1]) (rest := [.int (M 11 a1.toNatClampNeg), .int (0 : Int32)]) ⟨hx, hb, hml, hown, hts⟩ (c_X7_stockOf l dC dI cI cZ (ofs 1 a) (ofs 1 M) a1 r15 hc15) ⟨va_cnB 1 hts gX6_missing_X7_stockOf_n80 rfl rfl rfl (nw92 hNW) hw4 (by decide +kernel) ⟨Nat.le_of_ble_eq_true rfl, Nat.le_of_ble_eq_true rfl⟩, hw5, hw6⟩ ⟨RO.blind, va_recv hK hP (ci := 7) (q0 := 1) rfl rfl, RO.pre hPc hK hNW⟩ rfl rfl hl.1 rfl (lv_room (Nat.le_of_ble_eq_true rfl)) dX6_missing_15 ⟨Nat.le_of_ble_eq_true rfl, Nat.le_of_ble_eq_true rfl⟩)) ?_
  refine lv_isub hx hb dX6_missing_18 ?_
  refine va_mmax hx hb (hml.trans hl.1.symm) hown hw7 hw8 hw9 hw10 (Nat.le_of_ble_eq_true rfl) (Nat.le_of_ble_eq_true rfl) (Nat.le_of_ble_eq_true rfl) (Nat.le_of_ble_eq_true rfl) dX6_missing_19 ?_
  exact W.iret (v := (if (0 : Int32) < ((M 11 a1.toNatClampNeg) - r15) then ((M 11 a1.toNatClampNeg) - r15) else (0 : Int32))) hx hb hr (fun t ht hW => ⟨congrArg (fun x => Outcome.returned (some (Value.int x))) (so_e hf), ht⟩) fl0 dX6_missing_22
set_option maxHeartbeats 4000000 in
set_option maxRecDepth 100000 in
theorem c_X6_ticksToBring (l : Launch) (dC : Nat → ClassId) (dI : Nat → Nat → Nat) (cI cZ : ClassId) (a : Nat → Nat) (M : Mem) (a1 : Int32) (z : Int32) (hf : fX6_ticksToBring M a1 = some z) : Met l yX6_ticksToBring wsX6_ticksToBring ({ frames := 1, cells := 0, slots := 0, locals := 40 } : Room) (va_Pc [.ref (a 0), .int a1] (RO (dC, dI) cI cZ (wX6 cI cZ a M))) (k2_QcV (.int z)) 0 0 (fun _ => False) := by
  refine Met.ofW (cc := cX6_ticksToBring) (maxL := 3) (ret := (some .int)) (by decide) rfl ?_
  intro p e s m args below meth c s₁ B hml hv
  obtain ⟨rfl, hP, hK, hNW⟩ := hv
  have hx := B.exec
  have hb := B.bytes
  have hr := B.returns
  have hts := atoms_spec (ws := wsX6_ticksToBring) B.pre
  have hown : s.vm.findClass RX6 = some m.cls := findClass_of_methodNamed B.named
  have hlocks := B.notSynchronized
  have hinX6 : ∀ w ∈ u_ws RX6 TX6 5, w ∈ wsX6_ticksToBring := by decide +kernel
  have hw1 := hts (.fieldLink RX6 12 "GlideShelves$State" "tower" "LGlideShelves$Tower;") (by decide +kernel)
  have hinX7 : ∀ w ∈ u_ws RX7 TX7 6, w ∈ wsX6_ticksToBring := by decide +kernel
  have hw3 := hts (.fieldLink RX6 21 "GlideShelves$State" "lift" "LGlideShelves$Lift;") (by decide +kernel)
  have hinX2 : ∀ w ∈ u_ws RX2 TX2 7, w ∈ wsX6_ticksToBring := by decide +kernel
  have hw5 := hts (.methodLink RX6 91 Lib.Math.abs.name) (by decide +kernel)
  have hw6 := hts (.static Lib.Math.abs.name) (by decide +kernel)
  have hw7 := hts (.initialized "java/lang/Math") (by decide +kernel)
  have hw8 := hts (.code Lib.Math.abs.name Lib.Math.abs.code 1 (some .int)) (by decide +kernel)
  have hw9 := hts (.initialized RX7) (by decide +kernel)
  have hw10 := hts (.static yX7_wayOf) (by decide +kernel)
  have hl := lv_entry ([.ref (a 0), .int a1]) (n := 3) (Nat.le_of_ble_eq_true rfl)
  rw [lg_entry_eq]
  generalize (lg_sl ([.ref (a 0), .int a1]) ++ List.replicate (3 - (lg_sl ([.ref (a 0), .int a1])).length) Slot.unset).toArray = ls at hl ⊢
  have hl : lv_has ls 3 [(0, .ref (a 0)), (1, .int a1)] := hl
  unfold fX6_ticksToBring at hf
  refine lv_aload_n hx hb dX6_ticksToBring_0 rfl (lv_at hl 0 rfl) ?_
  refine va_get (D := (dC, dI)) (ci := 6) (v := .ref (a 1)) (C := RX6) (T := TX6) (N := 5) hx hb hts hinX6 hown hK hP 0 rfl rfl 0 (by decide) hw1 (fun _ h9 => h9) rfl dX6_ticksToBring_1 ?_
  refine va_getN (D := (dC, dI)) (ci := 7) (v := .ref (a 3)) (C := RX7) (T := TX7) (N := 6) hx hb hts hinX7 hown hK hP 1 rfl rfl 3 (by decide) (nw37 hNW) (fun _ h9 => h9) rfl dX6_ticksToBring_4 ?_
  refine lv_iload_n hx hb dX6_ticksToBring_7 rfl (lv_at hl 1 rfl) ?_
  obtain ⟨hi, hf⟩ := gd_s hf
  refine va_iald (D := (dC, dI)) (f := (M 3)) hx hb hK hP 3 0 rfl rfl (inb_in hi) dX6_ticksToBring_8 ?_
  refine lv_istore_n (lv' := [(2, .int (M 3 a1.toNatClampNeg)), (0, .ref (a 0)), (1, .int a1)]) hx hb dX6_ticksToBring_9 rfl hl (by decide) rfl (fun ls hl => ?_)
  refine lv_aload_n hx hb dX6_ticksToBring_10 rfl (lv_at hl 1 rfl) ?_
  refine va_get (D := (dC, dI)) (ci := 6) (v := .ref (a 6)) (C := RX6) (T := TX6) (N := 5) hx hb hts hinX6 hown hK hP 0 rfl rfl 1 (by decide) hw3 (fun _ h9 => h9) rfl dX6_ticksToBring_11 ?_
  refine va_getN (D := (dC, dI)) (ci := 2) (v := .int (M 6 0)) (C := RX2) (T := TX2) (N := 7) hx hb hts hinX2 hown hK hP 6 rfl rfl 0 (by decide) (nw39 hNW) (fun _ h9 => h9) rfl dX6_ticksToBring_14 ?_
  refine lv_iload_n hx hb dX6_ticksToBring_17 rfl (lv_at hl 0 rfl) ?_
  refine lv_bipush (v := (20 : Int32)) hx hb dX6_ticksToBring_18 (by decide) ?_
  refine lv_irem hx hb dX6_ticksToBring_20 (by decide) ?_
  refine lv_isub hx hb dX6_ticksToBring_21 ?_
  refine va_mabs hx hb (hml.trans hl.1.symm) hown hw5 hw6 hw7 hw8 (Nat.le_of_ble_eq_true rfl) (Nat.le_of_ble_eq_true rfl) (Nat.le_of_ble_eq_true rfl) (Nat.le_of_ble_eq_true rfl) dX6_ticksToBring_22 ?_
  refine lv_iload_n hx hb dX6_ticksToBring_25 rfl (lv_at hl 0 rfl) ?_
  obtain ⟨r26, hc26, hf⟩ := bi_s hf
  refine cRO (va_Run.run (va_runSN (As := [.int (M 3 a1.toNatClampNeg)]) (rest := [.int (if 0 ≤ ((M 6 0) - ((M 3 a1.toNatClampNeg) - (M 3 a1.toNatClampNeg) / (20 : Int32) * (20 : Int32))) then ((M 6 0) - ((M 3 a1.toNatClampNeg) - (M 3 a1.toNatClampNeg) / (20 : Int32) * (20 : Int32))) else 0 - ((M 6 0) - ((M 3 a1.toNatClampNeg) - (M 3 a1.toNatClampNeg) / (20 : Int32) * (20 : Int32))))]) ⟨hx, hb, hml, hown, hts⟩ (c_X7_wayOf l (M 3 a1.toNatClampNeg) r26 hc26) ⟨va_cnB 1 hts gX6_ticksToBring_X7_wayOf_n94 rfl rfl rfl (nw93 hNW) hw9 (by decide +kernel) ⟨Nat.le_of_ble_eq_true rfl, Nat.le_of_ble_eq_true rfl⟩, hw10, trivial⟩ ⟨tr_blind, tr_pre⟩ rfl rfl hl.1 rfl (lv_room (Nat.le_of_ble_eq_true rfl)) dX6_ticksToBring_26 ⟨Nat.le_of_ble_eq_true rfl, Nat.le_of_ble_eq_true rfl⟩)) ?_
  refine lv_iadd hx hb dX6_ticksToBring_29 ?_
  exact W.iret (v := ((if 0 ≤ ((M 6 0) - ((M 3 a1.toNatClampNeg) - (M 3 a1.toNatClampNeg) / (20 : Int32) * (20 : Int32))) then ((M 6 0) - ((M 3 a1.toNatClampNeg) - (M 3 a1.toNatClampNeg) / (20 : Int32) * (20 : Int32))) else 0 - ((M 6 0) - ((M 3 a1.toNatClampNeg) - (M 3 a1.toNatClampNeg) / (20 : Int32) * (20 : Int32)))) + r26)) hx hb hr (fun t ht hW => ⟨congrArg (fun x => Outcome.returned (some (Value.int x))) (so_e hf), ht⟩) fl0 dX6_ticksToBring_30
set_option maxHeartbeats 4000000 in
set_option maxRecDepth 100000 in
theorem c_X6_bring (l : Launch) (dC : Nat → ClassId) (dI : Nat → Nat → Nat) (cI cZ : ClassId) (a : Nat → Nat) (sz : Nat) (M : Mem) (a1 : Int32) (z : Int32 × Mem) (hf : fX6_bring M a1 = some z) : Met l yX6_bring wsX6_bring ({ frames := 2, cells := 0, slots := 0, locals := 64 } : Room) (va_Pc [.ref (a 0), .int a1] (WR (dC, dI) cI cZ (wX6 cI cZ a M) sz)) (va_Qi (S := Unit) (fun r _ => r = z.1) (fun _ t => WE (dC, dI) cI cZ (wX6 cI cZ a (sr (sr (sr (sr (sr M 1 (z.2 1)) 4 (z.2 4)) 6 (z.2 6)) 7 (z.2 7)) 8 (z.2 8))) (va_A (wX6 cI cZ a M) sz) t) (va_A (wX6 cI cZ a M) sz)) 0 0 (va_A (wX6 cI cZ a M) sz) := by
  refine Met.ofW (cc := cX6_bring) (maxL := 3) (ret := (some .int)) (by decide) rfl ?_
  intro p e s m args below meth c s₁ B hml hv
  obtain ⟨rfl, hsz, hP, hK, hD0, hNW⟩ := hv
  have hx := B.exec
  have hb := B.bytes
  have hr := B.returns
  have hts := atoms_spec (ws := wsX6_bring) B.pre
  have hown : s.vm.findClass RX6 = some m.cls := findClass_of_methodNamed B.named
  have hlocks := B.notSynchronized
  have hinX6 : ∀ w ∈ u_ws RX6 TX6 5, w ∈ wsX6_bring := by decide +kernel
  have hw1 := hts (.fieldLink RX6 21 "GlideShelves$State" "lift" "LGlideShelves$Lift;") (by decide +kernel)
  have hw2 := hts (.initialized RX2) (by decide +kernel)
  have hw3 := hts (.instanceMethod yX2_go) (by decide +kernel)
  have hw4 := hts (.selects RX2 yX2_go yX2_go) (by decide +kernel)
  have hw5 := hts (.fieldLink RX6 12 "GlideShelves$State" "tower" "LGlideShelves$Tower;") (by decide +kernel)
  have hinX7 : ∀ w ∈ u_ws RX7 TX7 6, w ∈ wsX6_bring := by decide +kernel
  subst hsz
  have hD := hD0.self (sz := s.heap.size)
  generalize hAe : va_A (wX6 cI cZ a M) s.heap.size = A at hD ⊢
  have hA : ∀ q : Nat, s.heap.size ≤ q → A q := fun q h => by rw [← hAe]; exact Or.inr h
  have hS : va_S A s.heap s.heap [] := va_S.rf
  have hl := lv_entry ([.ref (a 0), .int a1]) (n := 3) (Nat.le_of_ble_eq_true rfl)
  rw [lg_entry_eq]
  generalize (lg_sl ([.ref (a 0), .int a1]) ++ List.replicate (3 - (lg_sl ([.ref (a 0), .int a1])).length) Slot.unset).toArray = ls at hl ⊢
  have hl : lv_has ls 3 [(0, .ref (a 0)), (1, .int a1)] := hl
  unfold fX6_bring at hf
  suffices hgo : ∀ (H : Heap) (locs : List Loc), va_P (dC, dI) vwCl (wX6 cI cZ a M) H → va_D A (wX6 cI cZ a M) → va_S A s.heap H locs → W p l e (headSpec wsX6_bring ({ frames := 2, cells := 0, slots := 0, locals := 64 } : Room)).room s m ([.ref (a 0), .int a1] : List Value).toArray below meth c H locs 0 0 (MQ below (va_Qi (S := Unit) (fun r _ => r = z.1) (fun _ t => WE (dC, dI) cI cZ (wX6 cI cZ a (sr (sr (sr (sr (sr M 1 (z.2 1)) 4 (z.2 4)) 6 (z.2 6)) 7 (z.2 7)) 8 (z.2 8))) A t) A) ([.ref (a 0), .int a1] : List Value).toArray s 0 0 A) (F0 m 0 ls []) from hgo _ _ hP hD hS
  intro H locs hP hD hS
  refine lv_aload_n hx hb dX6_bring_0 rfl (lv_at hl 0 rfl) ?_
  refine lv_iload_n hx hb dX6_bring_1 rfl (lv_at hl 1 rfl) ?_
  obtain ⟨r2, hc2, hf⟩ := bi_s hf
  have hPc := hP
  refine cRO (W.runV (As := [.int a1]) (rest := []) ⟨hx, hb, hml, hown, hts⟩ (c_X6_ticksToBring l dC dI cI cZ a M a1 r2 hc2) (cwV 1 hts gX6_bring_X6_ticksToBring rfl rfl rfl (by decide +kernel) ⟨Nat.le_of_ble_eq_true rfl, Nat.le_of_ble_eq_true rfl⟩) ⟨RO.blind, va_recv hK hP (ci := 6) (q0 := 0) rfl rfl, RO.pre hPc hK hNW⟩ rfl rfl hl.1 rfl (lv_room (Nat.le_of_ble_eq_true rfl)) dX6_bring_2 ⟨Nat.le_of_ble_eq_true rfl, Nat.le_of_ble_eq_true rfl⟩) ?_
  refine lv_istore_n (lv' := [(2, .int r2), (0, .ref (a 0)), (1, .int a1)]) hx hb dX6_bring_5 rfl hl (by decide) rfl (fun ls hl => ?_)
  refine lv_aload_n hx hb dX6_bring_6 rfl (lv_at hl 1 rfl) ?_
  refine va_get (D := (dC, dI)) (ci := 6) (v := .ref (a 6)) (C := RX6) (T := TX6) (N := 5) hx hb hts hinX6 hown hK hP 0 rfl rfl 1 (by decide) hw1 (fun _ h9 => h9) rfl dX6_bring_7 ?_
  refine lv_iload_n hx hb dX6_bring_10 rfl (lv_at hl 0 rfl) ?_
  refine lv_iconst (v := (1 : Int32)) hx hb dX6_bring_11 (by decide) ?_
  refine lv_iconst (v := (0 : Int32)) hx hb dX6_bring_12 (by decide) ?_
  obtain ⟨r13, hc13, hf⟩ := bi_s hf
  have hPc := hP.sub (ws' := (wX2 cI cZ (ofs 6 a) (ofs 6 M))) [6, 7, 8] rfl
  have hDc := hD.sub (ws' := (wX2 cI cZ (ofs 6 a) (ofs 6 M))) [6, 7, 8] (by decide) rfl
  have hFc := va_free (wc := (wX2 cI cZ (ofs 6 a) (ofs 6 M))) hD hS hA [6, 7, 8] rfl
  refine va_callv (va_runVN (As := [.int r2, .int (1 : Int32), .int (0 : Int32)]) (rest := []) ⟨hx, hb, hml, hown, hts⟩ (c_X2_go l dC dI cI cZ (ofs 6 a) H.size (ofs 6 M) r2 (1 : Int32) (0 : Int32) r13 hc13) ⟨va_cnB 3 hts gX6_bring_X2_go_n100 rfl rfl rfl (nw78 hNW) hw2 (by decide +kernel) ⟨Nat.le_of_ble_eq_true rfl, Nat.le_of_ble_eq_true rfl⟩, hw3, hw4⟩ ⟨WR.blind, va_recv hK hP (ci := 2) (q0 := 6) rfl rfl, WR.pre hPc hK hDc hNW⟩ rfl rfl hl.1 rfl (lv_room (Nat.le_of_ble_eq_true rfl)) dX6_bring_13 ⟨Nat.le_of_ble_eq_true rfl, Nat.le_of_ble_eq_true rfl⟩) hS (fun q _ h => hFc q h) hFc (fun u t H1 locs ht hvm hw hB hz1 hk1 hS => ?_)
  obtain ⟨hP1, hD1⟩ := hB
  rw [ht] at hP1
  obtain ⟨hP, hD⟩ := va_join (wr := [(a 0, .inr (6, [.ref (a 1), .ref (a 6), .ref (a 9), .ref (a 14), .int (M 0 4)])), (a 1, .inr (7, [.int (M 1 0), .int (M 1 1), .ref (a 2), .ref (a 3), .ref (a 4), .ref (a 5)])), (a 2, .inl (cI, 12, .inl (M 2))), (a 3, .inl (cI, 12, .inl (M 3))), (a 4, .inl (cI, 12, .inl (M 4))), (a 5, .inl (cI, 120, .inl (M 5))), (a 9, .inr (0, [.ref (a 10), .ref (a 11), .ref (a 12), .ref (a 13)])), (a 10, .inl (cI, 10, .inl (M 10))), (a 11, .inl (cI, 10, .inl (M 11))), (a 12, .inl (cI, 10, .inl (M 12))), (a 13, .inl (cI, 10, .inl (M 13))), (a 14, .inr (3, [.int (M 14 0), .ref (a 15)])), (a 15, .inl (cI, 80, .inl (M 15)))]) (w1 := (wX2 cI cZ (ofs 6 a) (sr (sr (sr (ofs 6 M) 0 (r13 0)) 1 (r13 1)) 2 (r13 2)))) hP hD [6, 7, 8] [0, 1, 2, 3, 4, 5, 9, 10, 11, 12, 13, 14, 15] rfl rfl (by decide) (by decide) hk1 hFc hP1 hD1
  have hP := hP.sub (ws' := (wX6 cI cZ a (sr (sr (sr M 6 (r13 0)) 7 (r13 1)) 8 (r13 2)))) [0, 1, 2, 3, 4, 5, 13, 14, 15, 6, 7, 8, 9, 10, 11, 12] rfl
  have hD := hD.sub (ws' := (wX6 cI cZ a (sr (sr (sr M 6 (r13 0)) 7 (r13 1)) 8 (r13 2)))) [0, 1, 2, 3, 4, 5, 13, 14, 15, 6, 7, 8, 9, 10, 11, 12] (by decide) rfl
  generalize H1 = H at hP hS ⊢
  refine lv_aload_n hx hb dX6_bring_16 rfl (lv_at hl 1 rfl) ?_
  refine va_get (D := (dC, dI)) (ci := 6) (v := .ref (a 1)) (C := RX6) (T := TX6) (N := 5) hx hb hts hinX6 hown hK hP 0 rfl rfl 0 (by decide) hw5 (fun _ h9 => h9) rfl dX6_bring_17 ?_
  refine lv_iload_n hx hb dX6_bring_20 rfl (lv_at hl 2 rfl) ?_
  refine va_putN (D := (dC, dI)) (ci := 7) (v := .int a1) (ty := .int) (C := RX7) (T := TX7) (N := 6) hx hb hts hinX7 tyX7 tyX7_ok nmX7 hown hK hP hD hS 1 rfl rfl 1 (by decide) (nw36 hNW) (fun _ h9 => h9) rfl (by decide +kernel) rfl rfl (Nat.le_of_ble_eq_true rfl) dX6_bring_21 (fun H locs hP hD hS => ?_)
  have hP : va_P (dC, dI) vwCl (wX6 cI cZ a (sr (sr (sr (sr M 1 (upd (M 1) 1 a1)) 6 (r13 0)) 7 (r13 1)) 8 (r13 2))) H := hP
  have hD : va_D A (wX6 cI cZ a (sr (sr (sr (sr M 1 (upd (M 1) 1 a1)) 6 (r13 0)) 7 (r13 1)) 8 (r13 2))) := hD
  refine lv_aload_n hx hb dX6_bring_24 rfl (lv_at hl 1 rfl) ?_
  refine va_get (D := (dC, dI)) (ci := 6) (v := .ref (a 1)) (C := RX6) (T := TX6) (N := 5) hx hb hts hinX6 hown hK hP 0 rfl rfl 0 (by decide) hw5 (fun _ h9 => h9) rfl dX6_bring_25 ?_
  refine va_getN (D := (dC, dI)) (ci := 7) (v := .ref (a 4)) (C := RX7) (T := TX7) (N := 6) hx hb hts hinX7 hown hK hP 1 rfl rfl 4 (by decide) (nw27 hNW) (fun _ h9 => h9) rfl dX6_bring_28 ?_
  refine lv_iload_n hx hb dX6_bring_31 rfl (lv_at hl 2 rfl) ?_
  refine lv_dup2_11 hx hb dX6_bring_32 rfl rfl ?_
  obtain ⟨hi, hf⟩ := gd_s hf
  refine va_iald (D := (dC, dI)) (f := (M 4)) hx hb hK hP 4 0 rfl rfl (inb_in hi) dX6_bring_33 ?_
  refine lv_iconst (v := (1 : Int32)) hx hb dX6_bring_34 (by decide) ?_
  refine lv_iadd hx hb dX6_bring_35 ?_
  obtain ⟨hi, hf⟩ := gd_s hf
  refine va_iast (D := (dC, dI)) (f := (M 4)) hx hb hK hP hD hS 4 0 rfl rfl (inb_in hi) dX6_bring_36 (fun H locs hP hD hS => ?_)
  have hP : va_P (dC, dI) vwCl (wX6 cI cZ a (sr (sr (sr (sr (sr M 1 (upd (M 1) 1 a1)) 4 (upd (M 4) a1.toNatClampNeg ((M 4 a1.toNatClampNeg) + (1 : Int32)))) 6 (r13 0)) 7 (r13 1)) 8 (r13 2))) H := hP
  have hD : va_D A (wX6 cI cZ a (sr (sr (sr (sr (sr M 1 (upd (M 1) 1 a1)) 4 (upd (M 4) a1.toNatClampNeg ((M 4 a1.toNatClampNeg) + (1 : Int32)))) 6 (r13 0)) 7 (r13 1)) 8 (r13 2))) := hD
  refine lv_iload_n hx hb dX6_bring_37 rfl (lv_at hl 0 rfl) ?_
  have e9 := so_e hf
  subst e9
  exact W.iret (v := r2) hx hb hr (fun t ht hW => ⟨⟨r2, (), rfl, rfl, WE.mk hP hD ht⟩, hS.F ht⟩) hS.2.2 dX6_bring_38
set_option maxHeartbeats 4000000 in
set_option maxRecDepth 100000 in
theorem c_X6_putAt (l : Launch) (dC : Nat → ClassId) (dI : Nat → Nat → Nat) (cI cZ : ClassId) (a : Nat → Nat) (sz : Nat) (M : Mem) (a1 : Int32) (z : Int32 × Mem) (hf : fX6_putAt M a1 = some z) : Met l yX6_putAt wsX6_putAt ({ frames := 2, cells := 0, slots := 0, locals := 64 } : Room) (va_Pc [.ref (a 0), .int a1] (WR (dC, dI) cI cZ (wX6 cI cZ a M) sz)) (va_Qi (S := Unit) (fun r _ => r = z.1) (fun _ t => WE (dC, dI) cI cZ (wX6 cI cZ a (sr (sr (sr (sr (sr M 1 (z.2 1)) 3 (z.2 3)) 6 (z.2 6)) 7 (z.2 7)) 8 (z.2 8))) (va_A (wX6 cI cZ a M) sz) t) (va_A (wX6 cI cZ a M) sz)) 0 0 (va_A (wX6 cI cZ a M) sz) := by
  refine Met.ofW (cc := cX6_putAt) (maxL := 4) (ret := (some .int)) (by decide) rfl ?_
  intro p e s m args below meth c s₁ B hml hv
  obtain ⟨rfl, hsz, hP, hK, hD0, hNW⟩ := hv
  have hx := B.exec
  have hb := B.bytes
  have hr := B.returns
  have hts := atoms_spec (ws := wsX6_putAt) B.pre
  have hown : s.vm.findClass RX6 = some m.cls := findClass_of_methodNamed B.named
  have hlocks := B.notSynchronized
  have hinX6 : ∀ w ∈ u_ws RX6 TX6 5, w ∈ wsX6_putAt := by decide +kernel
  have hw1 := hts (.fieldLink RX6 12 "GlideShelves$State" "tower" "LGlideShelves$Tower;") (by decide +kernel)
  have hinX7 : ∀ w ∈ u_ws RX7 TX7 6, w ∈ wsX6_putAt := by decide +kernel
  have hw3 := hts (.initialized RX7) (by decide +kernel)
  have hw4 := hts (.static yX7_wayOf) (by decide +kernel)
  have hw5 := hts (.fieldLink RX6 21 "GlideShelves$State" "lift" "LGlideShelves$Lift;") (by decide +kernel)
  have hw6 := hts (.initialized RX2) (by decide +kernel)
  have hw7 := hts (.instanceMethod yX2_go) (by decide +kernel)
  have hw8 := hts (.selects RX2 yX2_go yX2_go) (by decide +kernel)
  subst hsz
  have hD := hD0.self (sz := s.heap.size)
  generalize hAe : va_A (wX6 cI cZ a M) s.heap.size = A at hD ⊢
  have hA : ∀ q : Nat, s.heap.size ≤ q → A q := fun q h => by rw [← hAe]; exact Or.inr h
  have hS : va_S A s.heap s.heap [] := va_S.rf
  have hfX6_putAt_B23 : ∀ (N : Mem), fX6_putAt_B23 M  N = some z → ∀ (ls : Array Slot), lv_has ls 4 [] → ∀ (H : Heap) (locs : List Loc), va_P (dC, dI) vwCl (wX6 cI cZ a (sr (sr (sr (sr (sr M 1 (N 1)) 3 (N 3)) 6 (N 6)) 7 (N 7)) 8 (N 8))) H → va_D A (wX6 cI cZ a (sr (sr (sr (sr (sr M 1 (N 1)) 3 (N 3)) 6 (N 6)) 7 (N 7)) 8 (N 8))) → va_S A s.heap H locs → W p l e (headSpec wsX6_putAt ({ frames := 2, cells := 0, slots := 0, locals := 64 } : Room)).room s m ([.ref (a 0), .int a1] : List Value).toArray below meth c H locs 0 0 (MQ below (va_Qi (S := Unit) (fun r _ => r = z.1) (fun _ t => WE (dC, dI) cI cZ (wX6 cI cZ a (sr (sr (sr (sr (sr M 1 (z.2 1)) 3 (z.2 3)) 6 (z.2 6)) 7 (z.2 7)) 8 (z.2 8))) A t) A) ([.ref (a 0), .int a1] : List Value).toArray s 0 0 A) (F0 m 23 ls []) := by
    intro  N hf ls hl H locs hP hD hS
    unfold fX6_putAt_B23 at hf
    refine lv_iconst (v := (0 : Int32)) hx hb dX6_putAt_23 (by decide) ?_
    have e9 := so_e hf
    subst e9
    exact W.iret (v := (0 : Int32)) hx hb hr (fun t ht hW => ⟨⟨(0 : Int32), (), rfl, rfl, WE.mk hP hD ht⟩, hS.F ht⟩) hS.2.2 dX6_putAt_24
  have hl := lv_entry ([.ref (a 0), .int a1]) (n := 4) (Nat.le_of_ble_eq_true rfl)
  rw [lg_entry_eq]
  generalize (lg_sl ([.ref (a 0), .int a1]) ++ List.replicate (4 - (lg_sl ([.ref (a 0), .int a1])).length) Slot.unset).toArray = ls at hl ⊢
  have hl : lv_has ls 4 [(0, .ref (a 0)), (1, .int a1)] := hl
  unfold fX6_putAt at hf
  suffices hgo : ∀ (H : Heap) (locs : List Loc), va_P (dC, dI) vwCl (wX6 cI cZ a M) H → va_D A (wX6 cI cZ a M) → va_S A s.heap H locs → W p l e (headSpec wsX6_putAt ({ frames := 2, cells := 0, slots := 0, locals := 64 } : Room)).room s m ([.ref (a 0), .int a1] : List Value).toArray below meth c H locs 0 0 (MQ below (va_Qi (S := Unit) (fun r _ => r = z.1) (fun _ t => WE (dC, dI) cI cZ (wX6 cI cZ a (sr (sr (sr (sr (sr M 1 (z.2 1)) 3 (z.2 3)) 6 (z.2 6)) 7 (z.2 7)) 8 (z.2 8))) A t) A) ([.ref (a 0), .int a1] : List Value).toArray s 0 0 A) (F0 m 0 ls []) from hgo _ _ hP hD hS
  intro H locs hP hD hS
  refine lv_aload_n hx hb dX6_putAt_0 rfl (lv_at hl 0 rfl) ?_
  refine va_get (D := (dC, dI)) (ci := 6) (v := .ref (a 1)) (C := RX6) (T := TX6) (N := 5) hx hb hts hinX6 hown hK hP 0 rfl rfl 0 (by decide) hw1 (fun _ h9 => h9) rfl dX6_putAt_1 ?_
  refine va_getN (D := (dC, dI)) (ci := 7) (v := .int (M 1 1)) (C := RX7) (T := TX7) (N := 6) hx hb hts hinX7 hown hK hP 1 rfl rfl 1 (by decide) (nw36 hNW) (fun _ h9 => h9) rfl dX6_putAt_4 ?_
  refine lv_istore_n (lv' := [(2, .int (M 1 1)), (0, .ref (a 0)), (1, .int a1)]) hx hb dX6_putAt_7 rfl hl (by decide) rfl (fun ls hl => ?_)
  refine lv_iload_n hx hb dX6_putAt_8 rfl (lv_at hl 0 rfl) ?_
  refine lv_if_lt (tgt := 23) hx hb dX6_putAt_9 (by decide) (fun c9 => ?_) (fun c9 => ?_)
  · have hf := it_t hf c9
    exact hfX6_putAt_B23  M hf _ (lv_sub hl [] rfl) _ _ hP hD hS
  · have hf := it_f hf c9
    refine lv_iload_n hx hb dX6_putAt_12 rfl (lv_at hl 0 rfl) ?_
    refine lv_aload_n hx hb dX6_putAt_13 rfl (lv_at hl 1 rfl) ?_
    refine va_get (D := (dC, dI)) (ci := 6) (v := .ref (a 1)) (C := RX6) (T := TX6) (N := 5) hx hb hts hinX6 hown hK hP 0 rfl rfl 0 (by decide) hw1 (fun _ h9 => h9) rfl dX6_putAt_14 ?_
    refine va_getN (D := (dC, dI)) (ci := 7) (v := .int (M 1 0)) (C := RX7) (T := TX7) (N := 6) hx hb hts hinX7 hown hK hP 1 rfl rfl 0 (by decide) (nw35 hNW) (fun _ h9 => h9) rfl dX6_putAt_17 ?_
    refine lv_icmp_lt (tgt := 25) hx hb dX6_putAt_20 (by decide) (fun c9 => ?_) (fun c9 => ?_)
    · have hf := it_t hf c9
      refine lv_iload_n hx hb dX6_putAt_25 rfl (lv_at hl 2 rfl) ?_
      obtain ⟨r26, hc26, hf⟩ := bi_s hf
      refine cRO (va_Run.run (va_runSN (As := [.int a1]) (rest := []) ⟨hx, hb, hml, hown, hts⟩ (c_X7_wayOf l a1 r26 hc26) ⟨va_cnB 1 hts gX6_putAt_X7_wayOf_n94 rfl rfl rfl (nw93 hNW) hw3 (by decide +kernel) ⟨Nat.le_of_ble_eq_true rfl, Nat.le_of_ble_eq_true rfl⟩, hw4, trivial⟩ ⟨tr_blind, tr_pre⟩ rfl rfl hl.1 rfl (lv_room (Nat.le_of_ble_eq_true rfl)) dX6_putAt_26 ⟨Nat.le_of_ble_eq_true rfl, Nat.le_of_ble_eq_true rfl⟩)) ?_
      refine lv_istore_n (lv' := [(3, .int r26), (2, .int (M 1 1)), (0, .ref (a 0)), (1, .int a1)]) hx hb dX6_putAt_29 rfl hl (by decide) rfl (fun ls hl => ?_)
      refine lv_aload_n hx hb dX6_putAt_30 rfl (lv_at hl 2 rfl) ?_
      refine va_get (D := (dC, dI)) (ci := 6) (v := .ref (a 6)) (C := RX6) (T := TX6) (N := 5) hx hb hts hinX6 hown hK hP 0 rfl rfl 1 (by decide) hw5 (fun _ h9 => h9) rfl dX6_putAt_31 ?_
      refine lv_iload_n hx hb dX6_putAt_34 rfl (lv_at hl 0 rfl) ?_
      refine lv_iconst (v := (0 : Int32)) hx hb dX6_putAt_35 (by decide) ?_
      refine lv_iload_n hx hb dX6_putAt_36 rfl (lv_at hl 3 rfl) ?_
      refine lv_bipush (v := (20 : Int32)) hx hb dX6_putAt_37 (by decide) ?_
      refine lv_irem hx hb dX6_putAt_39 (by decide) ?_
      obtain ⟨r40, hc40, hf⟩ := bi_s hf
      have hPc := hP.sub (ws' := (wX2 cI cZ (ofs 6 a) (ofs 6 M))) [6, 7, 8] rfl
      have hDc := hD.sub (ws' := (wX2 cI cZ (ofs 6 a) (ofs 6 M))) [6, 7, 8] (by decide) rfl
      have hFc := va_free (wc := (wX2 cI cZ (ofs 6 a) (ofs 6 M))) hD hS hA [6, 7, 8] rfl
      refine va_callv (va_runVN (As := [.int r26, .int (0 : Int32), .int (a1 - a1 / (20 : Int32) * (20 : Int32))]) (rest := []) ⟨hx, hb, hml, hown, hts⟩ (c_X2_go l dC dI cI cZ (ofs 6 a) H.size (ofs 6 M) r26 (0 : Int32) (a1 - a1 / (20 : Int32) * (20 : Int32)) r40 hc40) ⟨va_cnB 3 hts gX6_putAt_X2_go_n100 rfl rfl rfl (nw78 hNW) hw6 (by decide +kernel) ⟨Nat.le_of_ble_eq_true rfl, Nat.le_of_ble_eq_true rfl⟩, hw7, hw8⟩ ⟨WR.blind, va_recv hK hP (ci := 2) (q0 := 6) rfl rfl, WR.pre hPc hK hDc hNW⟩ rfl rfl hl.1 rfl (lv_room (Nat.le_of_ble_eq_true rfl)) dX6_putAt_40 ⟨Nat.le_of_ble_eq_true rfl, Nat.le_of_ble_eq_true rfl⟩) hS (fun q _ h => hFc q h) hFc (fun u t H1 locs ht hvm hw hB hz1 hk1 hS => ?_)
      obtain ⟨hP1, hD1⟩ := hB
      rw [ht] at hP1
      obtain ⟨hP, hD⟩ := va_join (wr := [(a 0, .inr (6, [.ref (a 1), .ref (a 6), .ref (a 9), .ref (a 14), .int (M 0 4)])), (a 1, .inr (7, [.int (M 1 0), .int (M 1 1), .ref (a 2), .ref (a 3), .ref (a 4), .ref (a 5)])), (a 2, .inl (cI, 12, .inl (M 2))), (a 3, .inl (cI, 12, .inl (M 3))), (a 4, .inl (cI, 12, .inl (M 4))), (a 5, .inl (cI, 120, .inl (M 5))), (a 9, .inr (0, [.ref (a 10), .ref (a 11), .ref (a 12), .ref (a 13)])), (a 10, .inl (cI, 10, .inl (M 10))), (a 11, .inl (cI, 10, .inl (M 11))), (a 12, .inl (cI, 10, .inl (M 12))), (a 13, .inl (cI, 10, .inl (M 13))), (a 14, .inr (3, [.int (M 14 0), .ref (a 15)])), (a 15, .inl (cI, 80, .inl (M 15)))]) (w1 := (wX2 cI cZ (ofs 6 a) (sr (sr (sr (ofs 6 M) 0 (r40 0)) 1 (r40 1)) 2 (r40 2)))) hP hD [6, 7, 8] [0, 1, 2, 3, 4, 5, 9, 10, 11, 12, 13, 14, 15] rfl rfl (by decide) (by decide) hk1 hFc hP1 hD1
      have hP := hP.sub (ws' := (wX6 cI cZ a (sr (sr (sr M 6 (r40 0)) 7 (r40 1)) 8 (r40 2)))) [0, 1, 2, 3, 4, 5, 13, 14, 15, 6, 7, 8, 9, 10, 11, 12] rfl
      have hD := hD.sub (ws' := (wX6 cI cZ a (sr (sr (sr M 6 (r40 0)) 7 (r40 1)) 8 (r40 2)))) [0, 1, 2, 3, 4, 5, 13, 14, 15, 6, 7, 8, 9, 10, 11, 12] (by decide) rfl
      generalize H1 = H at hP hS ⊢
      refine lv_aload_n hx hb dX6_putAt_43 rfl (lv_at hl 2 rfl) ?_
      refine va_get (D := (dC, dI)) (ci := 6) (v := .ref (a 1)) (C := RX6) (T := TX6) (N := 5) hx hb hts hinX6 hown hK hP 0 rfl rfl 0 (by decide) hw1 (fun _ h9 => h9) rfl dX6_putAt_44 ?_
      refine va_getN (D := (dC, dI)) (ci := 7) (v := .ref (a 3)) (C := RX7) (T := TX7) (N := 6) hx hb hts hinX7 hown hK hP 1 rfl rfl 3 (by decide) (nw37 hNW) (fun _ h9 => h9) rfl dX6_putAt_47 ?_
      refine lv_iload_n hx hb dX6_putAt_50 rfl (lv_at hl 1 rfl) ?_
      refine lv_iload_n hx hb dX6_putAt_51 rfl (lv_at hl 3 rfl) ?_
      obtain ⟨hi, hf⟩ := gd_s hf
      refine va_iast (D := (dC, dI)) (f := (M 3)) hx hb hK hP hD hS 3 0 rfl rfl (inb_in hi) dX6_putAt_52 (fun H locs hP hD hS => ?_)
      have hP : va_P (dC, dI) vwCl (wX6 cI cZ a (sr (sr (sr (sr M 3 (upd (M 3) (M 1 1).toNatClampNeg a1)) 6 (r40 0)) 7 (r40 1)) 8 (r40 2))) H := hP
      have hD : va_D A (wX6 cI cZ a (sr (sr (sr (sr M 3 (upd (M 3) (M 1 1).toNatClampNeg a1)) 6 (r40 0)) 7 (r40 1)) 8 (r40 2))) := hD
      refine lv_aload_n hx hb dX6_putAt_53 rfl (lv_at hl 2 rfl) ?_
      refine va_get (D := (dC, dI)) (ci := 6) (v := .ref (a 1)) (C := RX6) (T := TX6) (N := 5) hx hb hts hinX6 hown hK hP 0 rfl rfl 0 (by decide) hw1 (fun _ h9 => h9) rfl dX6_putAt_54 ?_
      refine lv_iconst (v := (-1 : Int32)) hx hb dX6_putAt_57 (by decide) ?_
      refine va_putN (D := (dC, dI)) (ci := 7) (v := .int (-1 : Int32)) (ty := .int) (C := RX7) (T := TX7) (N := 6) hx hb hts hinX7 tyX7 tyX7_ok nmX7 hown hK hP hD hS 1 rfl rfl 1 (by decide) (nw36 hNW) (fun _ h9 => h9) rfl (by decide +kernel) rfl rfl (Nat.le_of_ble_eq_true rfl) dX6_putAt_58 (fun H locs hP hD hS => ?_)
      have hP : va_P (dC, dI) vwCl (wX6 cI cZ a (sr (sr (sr (sr (sr M 1 (upd (M 1) 1 (-1 : Int32))) 3 (upd (M 3) (M 1 1).toNatClampNeg a1)) 6 (r40 0)) 7 (r40 1)) 8 (r40 2))) H := hP
      have hD : va_D A (wX6 cI cZ a (sr (sr (sr (sr (sr M 1 (upd (M 1) 1 (-1 : Int32))) 3 (upd (M 3) (M 1 1).toNatClampNeg a1)) 6 (r40 0)) 7 (r40 1)) 8 (r40 2))) := hD
      refine lv_iload_n hx hb dX6_putAt_61 rfl (lv_at hl 0 rfl) ?_
      have e9 := so_e hf
      subst e9
      exact W.iret (v := r26) hx hb hr (fun t ht hW => ⟨⟨r26, (), rfl, rfl, WE.mk hP hD ht⟩, hS.F ht⟩) hS.2.2 dX6_putAt_62
    · have hf := it_f hf c9
      exact hfX6_putAt_B23  M hf _ (lv_sub hl [] rfl) _ _ hP hD hS
