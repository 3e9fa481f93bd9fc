set_option maxHeartbeats 4000000 in
set_option maxRecDepth 100000 in
theorem c_X6_putBack (l : Launch) (dC : Nat → ClassId) (dI : Nat → Nat → Nat) (cI cZ : ClassId) (a : Nat → Nat) (sz : Nat) (M : Mem) (z : Int32 × Mem) (hf : fX6_putBack M  = some z) : Met l yX6_putBack wsX6_putBack ({ frames := 3, cells := 0, slots := 0, locals := 87 } : Room) (va_Pc [.ref (a 0)] (WR (dC, dI) cI cZ (wX6 cI cZ a M) sz)) (va_Qi (S := Unit) (fun r _ => r = z.1) (fun _ t => WE (dC, dI) cI cZ (wX6 cI cZ a (sr (sr (sr (sr (sr M 1 (z.2 1)) 3 (z.2 3)) 6 (z.2 6)) 7 (z.2 7)) 8 (z.2 8))) (va_A (wX6 cI cZ a M) sz) t) (va_A (wX6 cI cZ a M) sz)) 0 0 (va_A (wX6 cI cZ a M) sz) := by
  refine Met.ofW (cc := cX6_putBack) (maxL := 3) (ret := (some .int)) (by decide) rfl ?_
  intro p e s m args below meth c s₁ B hml hv
  obtain ⟨rfl, hsz, hP, hK, hD0, hNW⟩ := hv
  have hx := B.exec
  have hb := B.bytes
  have hr := B.returns
  have hts := atoms_spec (ws := wsX6_putBack) B.pre
  have hown : s.vm.findClass RX6 = some m.cls := findClass_of_methodNamed B.named
  have hlocks := B.notSynchronized
  have hinX6 : ∀ w ∈ u_ws RX6 TX6 5, w ∈ wsX6_putBack := by decide +kernel
  have hw1 := hts (.fieldLink RX6 12 "GlideShelves$State" "tower" "LGlideShelves$Tower;") (by decide +kernel)
  have hinX7 : ∀ w ∈ u_ws RX7 TX7 6, w ∈ wsX6_putBack := by decide +kernel
  have hw3 := hts (.fieldLink RX6 21 "GlideShelves$State" "lift" "LGlideShelves$Lift;") (by decide +kernel)
  have hinX2 : ∀ w ∈ u_ws RX2 TX2 7, w ∈ wsX6_putBack := by decide +kernel
  have hw5 := hts (.initialized RX7) (by decide +kernel)
  have hw6 := hts (.instanceMethod yX7_firstFree) (by decide +kernel)
  have hw7 := hts (.selects RX7 yX7_firstFree yX7_firstFree) (by decide +kernel)
  subst hsz
  have hD := hD0.self (sz := s.heap.size)
  generalize hAe : va_A (wX6 cI cZ a M) s.heap.size = A at hD ⊢
  have hA : ∀ q : Nat, s.heap.size ≤ q → A q := fun q h => by rw [← hAe]; exact Or.inr h
  have hS : va_S A s.heap s.heap [] := va_S.rf
  have hfX6_putBack_B23 : ∀ (N : Mem), fX6_putBack_B23 M  N = some z → ∀ (ls : Array Slot), lv_has ls 3 [] → ∀ (H : Heap) (locs : List Loc), va_P (dC, dI) vwCl (wX6 cI cZ a (sr (sr (sr (sr (sr M 1 (N 1)) 3 (N 3)) 6 (N 6)) 7 (N 7)) 8 (N 8))) H → va_D A (wX6 cI cZ a (sr (sr (sr (sr (sr M 1 (N 1)) 3 (N 3)) 6 (N 6)) 7 (N 7)) 8 (N 8))) → va_S A s.heap H locs → W p l e (headSpec wsX6_putBack ({ frames := 3, cells := 0, slots := 0, locals := 87 } : Room)).room s m ([.ref (a 0)] : List Value).toArray below meth c H locs 0 0 (MQ below (va_Qi (S := Unit) (fun r _ => r = z.1) (fun _ t => WE (dC, dI) cI cZ (wX6 cI cZ a (sr (sr (sr (sr (sr M 1 (z.2 1)) 3 (z.2 3)) 6 (z.2 6)) 7 (z.2 7)) 8 (z.2 8))) A t) A) ([.ref (a 0)] : List Value).toArray s 0 0 A) (F0 m 23 ls []) := by
    intro  N hf ls hl H locs hP hD hS
    unfold fX6_putBack_B23 at hf
    refine lv_iconst (v := (0 : Int32)) hx hb dX6_putBack_23 (by decide) ?_
    have e9 := so_e hf
    subst e9
    exact W.iret (v := (0 : Int32)) hx hb hr (fun t ht hW => ⟨⟨(0 : Int32), (), rfl, rfl, WE.mk hP hD ht⟩, hS.F ht⟩) hS.2.2 dX6_putBack_24
  have hfX6_putBack_B75 : ∀ (N : Mem) (s1 : Int32), fX6_putBack_B75 M  N s1 = some z → ∀ (ls : Array Slot), lv_has ls 3 [] → ∀ (H : Heap) (locs : List Loc), va_P (dC, dI) vwCl (wX6 cI cZ a (sr (sr (sr (sr (sr M 1 (N 1)) 3 (N 3)) 6 (N 6)) 7 (N 7)) 8 (N 8))) H → va_D A (wX6 cI cZ a (sr (sr (sr (sr (sr M 1 (N 1)) 3 (N 3)) 6 (N 6)) 7 (N 7)) 8 (N 8))) → va_S A s.heap H locs → W p l e (headSpec wsX6_putBack ({ frames := 3, cells := 0, slots := 0, locals := 87 } : Room)).room s m ([.ref (a 0)] : List Value).toArray below meth c H locs 0 0 (MQ below (va_Qi (S := Unit) (fun r _ => r = z.1) (fun _ t => WE (dC, dI) cI cZ (wX6 cI cZ a (sr (sr (sr (sr (sr M 1 (z.2 1)) 3 (z.2 3)) 6 (z.2 6)) 7 (z.2 7)) 8 (z.2 8))) A t) A) ([.ref (a 0)] : List Value).toArray s 0 0 A) (F0 m 75 ls [.int s1, .ref (a 0)]) := by
    intro  N s1 hf ls hl H locs hP hD hS
    unfold fX6_putBack_B75 at hf
    obtain ⟨r75, hc75, hf⟩ := bi_s hf
    have hPc := hP
    have hDc := hD
    have hFc := va_free (wc := (wX6 cI cZ a (sr (sr (sr (sr (sr M 1 (N 1)) 3 (N 3)) 6 (N 6)) 7 (N 7)) 8 (N 8)))) hD hS hA [0, 1, 2, 3, 4, 5, 6, 7, 8, 9, 10, 11, 12, 13, 14, 15] rfl
    refine va_calli (va_runV (As := [.int s1]) (rest := []) ⟨hx, hb, hml, hown, hts⟩ (c_X6_putAt l dC dI cI cZ a H.size (sr (sr (sr (sr (sr M 1 (N 1)) 3 (N 3)) 6 (N 6)) 7 (N 7)) 8 (N 8)) s1 r75 hc75) (cwV 1 hts gX6_putBack_X6_putAt rfl rfl rfl (by decide +kernel) ⟨Nat.le_of_ble_eq_true rfl, Nat.le_of_ble_eq_true rfl⟩) ⟨WR.blind, va_recv hK hP (ci := 6) (q0 := 0) rfl rfl, WR.pre hPc hK hDc hNW⟩ rfl rfl hl.1 rfl (lv_room (Nat.le_of_ble_eq_true rfl)) dX6_putBack_75 ⟨Nat.le_of_ble_eq_true rfl, Nat.le_of_ble_eq_true rfl⟩) hS (fun q _ h => hFc q h) hFc (fun rv u t H1 locs ht hvm hw hB hz1 hk1 hS => ?_)
    obtain ⟨hP1, hD1⟩ := hB
    rw [ht] at hP1
    subst hw
    have hP := hP1
    have hD := hD1.weaken (fun k q _ h => hFc q.1 h)
    have hP : va_P (dC, dI) vwCl (wX6 cI cZ a (sr (sr (sr (sr (sr M 1 (r75.2 1)) 3 (r75.2 3)) 6 (r75.2 6)) 7 (r75.2 7)) 8 (r75.2 8))) H1 := hP
    have hD : va_D A (wX6 cI cZ a (sr (sr (sr (sr (sr M 1 (r75.2 1)) 3 (r75.2 3)) 6 (r75.2 6)) 7 (r75.2 7)) 8 (r75.2 8))) := hD
    generalize H1 = H at hP hS ⊢
    have e9 := so_e hf
    subst e9
    exact W.iret (v := r75.1) hx hb hr (fun t ht hW => ⟨⟨r75.1, (), rfl, rfl, WE.mk hP hD ht⟩, hS.F ht⟩) hS.2.2 dX6_putBack_78
  have hfX6_putBack_B55 : ∀ (N : Mem) (l1 : Int32) (s0 : Int32), fX6_putBack_B55 M  N l1 s0 = some z → ∀ (ls : Array Slot), lv_has ls 3 [(0, .ref (a 0)), (1, .int l1)] → ∀ (H : Heap) (locs : List Loc), va_P (dC, dI) vwCl (wX6 cI cZ a (sr (sr (sr (sr (sr M 1 (N 1)) 3 (N 3)) 6 (N 6)) 7 (N 7)) 8 (N 8))) H → va_D A (wX6 cI cZ a (sr (sr (sr (sr (sr M 1 (N 1)) 3 (N 3)) 6 (N 6)) 7 (N 7)) 8 (N 8))) → va_S A s.heap H locs → W p l e (headSpec wsX6_putBack ({ frames := 3, cells := 0, slots := 0, locals := 87 } : Room)).room s m ([.ref (a 0)] : List Value).toArray below meth c H locs 0 0 (MQ below (va_Qi (S := Unit) (fun r _ => r = z.1) (fun _ t => WE (dC, dI) cI cZ (wX6 cI cZ a (sr (sr (sr (sr (sr M 1 (z.2 1)) 3 (z.2 3)) 6 (z.2 6)) 7 (z.2 7)) 8 (z.2 8))) A t) A) ([.ref (a 0)] : List Value).toArray s 0 0 A) (F0 m 55 ls [.int s0]) := by
    intro  N l1 s0 hf ls hl H locs hP hD hS
    unfold fX6_putBack_B55 at hf
    refine lv_istore_n (lv' := [(2, .int s0), (0, .ref (a 0)), (1, .int l1)]) hx hb dX6_putBack_55 rfl hl (by decide) rfl (fun ls hl => ?_)
    refine lv_aload_n hx hb dX6_putBack_56 rfl (lv_at hl 1 rfl) ?_
    refine lv_iload_n hx hb dX6_putBack_57 rfl (lv_at hl 0 rfl) ?_
    refine lv_iconst (v := (-1 : Int32)) hx hb dX6_putBack_58 (by decide) ?_
    refine lv_icmp_ne (tgt := 74) hx hb dX6_putBack_59 (by decide) (fun c9 => ?_) (fun c9 => ?_)
    · have hf := it_t hf c9
      refine lv_iload_n hx hb dX6_putBack_74 rfl (lv_at hl 0 rfl) ?_
      exact hfX6_putBack_B75  (sr (sr (sr (sr (sr M 1 (N 1)) 3 (N 3)) 6 (N 6)) 7 (N 7)) 8 (N 8)) s0 hf _ (lv_sub hl [] rfl) _ _ hP hD hS
    · have hf := it_n hf c9
      refine lv_aload_n hx hb dX6_putBack_62 rfl (lv_at hl 1 rfl) ?_
      refine va_get (D := (dC, dI)) (ci := 6) (v := .ref (a 1)) (C := RX6) (T := TX6) (N := 5) hx hb hts hinX6 hown hK hP 0 rfl rfl 0 (by decide) hw1 (fun _ h9 => h9) rfl dX6_putBack_63 ?_
      refine va_getN (D := (dC, dI)) (ci := 7) (v := .ref (a 3)) (C := RX7) (T := TX7) (N := 6) hx hb hts hinX7 hown hK hP 1 rfl rfl 3 (by decide) (nw37 hNW) (fun _ h9 => h9) rfl dX6_putBack_66 ?_
      refine lv_iload_n hx hb dX6_putBack_69 rfl (lv_at hl 2 rfl) ?_
      obtain ⟨hi, hf⟩ := gd_s hf
      refine va_iald (D := (dC, dI)) (f := (N 3)) hx hb hK hP 3 0 rfl rfl (inb_in hi) dX6_putBack_70 ?_
      refine lv_goto (tgt := 75) hx hb dX6_putBack_71 (by decide) ?_
      exact hfX6_putBack_B75  (sr (sr (sr (sr (sr M 1 (N 1)) 3 (N 3)) 6 (N 6)) 7 (N 7)) 8 (N 8)) (N 3 l1.toNatClampNeg) hf _ (lv_sub hl [] rfl) _ _ hP hD hS
  have hl := lv_entry ([.ref (a 0)]) (n := 3) (Nat.le_of_ble_eq_true rfl)
  rw [lg_entry_eq]
  generalize (lg_sl ([.ref (a 0)]) ++ List.replicate (3 - (lg_sl ([.ref (a 0)])).length) Slot.unset).toArray = ls at hl ⊢
  have hl : lv_has ls 3 [(0, .ref (a 0))] := hl
  unfold fX6_putBack at hf
  suffices hgo : ∀ (H : Heap) (locs : List Loc), va_P (dC, dI) vwCl (wX6 cI cZ a M) H → va_D A (wX6 cI cZ a M) → va_S A s.heap H locs → W p l e (headSpec wsX6_putBack ({ frames := 3, cells := 0, slots := 0, locals := 87 } : Room)).room s m ([.ref (a 0)] : List Value).toArray below meth c H locs 0 0 (MQ below (va_Qi (S := Unit) (fun r _ => r = z.1) (fun _ t => WE (dC, dI) cI cZ (wX6 cI cZ a (sr (sr (sr (sr (sr M 1 (z.2 1)) 3 (z.2 3)) 6 (z.2 6)) 7 (z.2 7)) 8 (z.2 8))) A t) A) ([.ref (a 0)] : List Value).toArray s 0 0 A) (F0 m 0 ls []) from hgo _ _ hP hD hS
  intro H locs hP hD hS
  refine lv_aload_n hx hb dX6_putBack_0 rfl (lv_at hl 0 rfl) ?_
  refine va_get (D := (dC, dI)) (ci := 6) (v := .ref (a 1)) (C := RX6) (T := TX6) (N := 5) hx hb hts hinX6 hown hK hP 0 rfl rfl 0 (by decide) hw1 (fun _ h9 => h9) rfl dX6_putBack_1 ?_
  refine va_getN (D := (dC, dI)) (ci := 7) (v := .int (M 1 1)) (C := RX7) (T := TX7) (N := 6) hx hb hts hinX7 hown hK hP 1 rfl rfl 1 (by decide) (nw36 hNW) (fun _ h9 => h9) rfl dX6_putBack_4 ?_
  refine lv_istore_n (lv' := [(1, .int (M 1 1)), (0, .ref (a 0))]) hx hb dX6_putBack_7 rfl hl (by decide) rfl (fun ls hl => ?_)
  refine lv_iload_n hx hb dX6_putBack_8 rfl (lv_at hl 0 rfl) ?_
  refine lv_if_lt (tgt := 23) hx hb dX6_putBack_9 (by decide) (fun c9 => ?_) (fun c9 => ?_)
  · have hf := it_t hf c9
    exact hfX6_putBack_B23  M hf _ (lv_sub hl [] rfl) _ _ hP hD hS
  · have hf := it_f hf c9
    refine lv_iload_n hx hb dX6_putBack_12 rfl (lv_at hl 0 rfl) ?_
    refine lv_aload_n hx hb dX6_putBack_13 rfl (lv_at hl 1 rfl) ?_
    refine va_get (D := (dC, dI)) (ci := 6) (v := .ref (a 1)) (C := RX6) (T := TX6) (N := 5) hx hb hts hinX6 hown hK hP 0 rfl rfl 0 (by decide) hw1 (fun _ h9 => h9) rfl dX6_putBack_14 ?_
    refine va_getN (D := (dC, dI)) (ci := 7) (v := .int (M 1 0)) (C := RX7) (T := TX7) (N := 6) hx hb hts hinX7 hown hK hP 1 rfl rfl 0 (by decide) (nw35 hNW) (fun _ h9 => h9) rfl dX6_putBack_17 ?_
    refine lv_icmp_lt (tgt := 25) hx hb dX6_putBack_20 (by decide) (fun c9 => ?_) (fun c9 => ?_)
    · have hf := it_t hf c9
      refine lv_aload_n hx hb dX6_putBack_25 rfl (lv_at hl 1 rfl) ?_
      refine va_get (D := (dC, dI)) (ci := 6) (v := .ref (a 6)) (C := RX6) (T := TX6) (N := 5) hx hb hts hinX6 hown hK hP 0 rfl rfl 1 (by decide) hw3 (fun _ h9 => h9) rfl dX6_putBack_26 ?_
      refine va_getN (D := (dC, dI)) (ci := 2) (v := .int (M 6 1)) (C := RX2) (T := TX2) (N := 7) hx hb hts hinX2 hown hK hP 6 rfl rfl 1 (by decide) (nw28 hNW) (fun _ h9 => h9) rfl dX6_putBack_29 ?_
      refine lv_if_eq (tgt := 39) hx hb dX6_putBack_32 (by decide) (fun c9 => ?_) (fun c9 => ?_)
      · have hf := it_t hf c9
        refine lv_aload_n hx hb dX6_putBack_39 rfl (lv_at hl 1 rfl) ?_
        refine va_get (D := (dC, dI)) (ci := 6) (v := .ref (a 1)) (C := RX6) (T := TX6) (N := 5) hx hb hts hinX6 hown hK hP 0 rfl rfl 0 (by decide) hw1 (fun _ h9 => h9) rfl dX6_putBack_40 ?_
        refine lv_aload_n hx hb dX6_putBack_43 rfl (lv_at hl 1 rfl) ?_
        refine va_get (D := (dC, dI)) (ci := 6) (v := .ref (a 1)) (C := RX6) (T := TX6) (N := 5) hx hb hts hinX6 hown hK hP 0 rfl rfl 0 (by decide) hw1 (fun _ h9 => h9) rfl dX6_putBack_44 ?_
        refine va_getN (D := (dC, dI)) (ci := 7) (v := .ref (a 2)) (C := RX7) (T := TX7) (N := 6) hx hb hts hinX7 hown hK hP 1 rfl rfl 2 (by decide) (nw29 hNW) (fun _ h9 => h9) rfl dX6_putBack_47 ?_
        refine lv_iload_n hx hb dX6_putBack_50 rfl (lv_at hl 0 rfl) ?_
        obtain ⟨hi, hf⟩ := gd_s hf
        refine va_iald (D := (dC, dI)) (f := (M 2)) hx hb hK hP 2 0 rfl rfl (inb_in hi) dX6_putBack_51 ?_
        obtain ⟨r52, hc52, hf⟩ := bi_s hf
        have hPc := hP.sub (ws' := (wX7 cI cZ (ofs 1 a) (ofs 1 M))) [1, 2, 3, 4, 5] rfl
        refine cRO (va_Run.run (va_runVN (As := [.int (M 2 (M 1 1).toNatClampNeg)]) (rest := []) ⟨hx, hb, hml, hown, hts⟩ (c_X7_firstFree l dC dI cI cZ (ofs 1 a) (ofs 1 M) (M 2 (M 1 1).toNatClampNeg) r52 hc52) ⟨va_cnB 1 hts gX6_putBack_X7_firstFree_n114 rfl rfl rfl (nw80 hNW) hw5 (by decide +kernel) ⟨Nat.le_of_ble_eq_true rfl, Nat.le_of_ble_eq_true rfl⟩, hw6, hw7⟩ ⟨RO.blind, va_recv hK hP (ci := 7) (q0 := 1) rfl rfl, RO.pre hPc hK hNW⟩ rfl rfl hl.1 rfl (lv_room (Nat.le_of_ble_eq_true rfl)) dX6_putBack_52 ⟨Nat.le_of_ble_eq_true rfl, Nat.le_of_ble_eq_true rfl⟩)) ?_
        exact hfX6_putBack_B55  M (M 1 1) r52 hf _ (lv_sub hl [1, 0] rfl) _ _ hP hD hS
      · have hf := it_f hf c9
        refine lv_iconst (v := (-1 : Int32)) hx hb dX6_putBack_35 (by decide) ?_
        refine lv_goto (tgt := 55) hx hb dX6_putBack_36 (by decide) ?_
        exact hfX6_putBack_B55  M (M 1 1) (-1 : Int32) hf _ (lv_sub hl [1, 0] rfl) _ _ hP hD hS
    · have hf := it_f hf c9
      exact hfX6_putBack_B23  M hf _ (lv_sub hl [] rfl) _ _ hP hD hS
set_option maxHeartbeats 4000000 in
set_option maxRecDepth 100000 in
theorem c_X6_isEnough (l : Launch) (dC : Nat → ClassId) (dI : Nat → Nat → Nat) (cI cZ : ClassId) (a : Nat → Nat) (M : Mem) (a1 : Int32) (a2 : Int32) (z : Int32) (hf : fX6_isEnough M a1 a2 = some z) : Met l yX6_isEnough wsX6_isEnough ({ frames := 1, cells := 0, slots := 0, locals := 22 } : Room) (va_Pc [.ref (a 0), .int a1, .int a2] (RO (dC, dI) cI cZ (wX6 cI cZ a M))) (k2_QcV (.int z)) 0 0 (fun _ => False) := by
  refine Met.ofW (cc := cX6_isEnough) (maxL := 6) (ret := (some .boolean)) (by decide) rfl ?_
  intro p e s m args below meth c s₁ B hml hv
  obtain ⟨rfl, hP, hK, hNW⟩ := hv
  have hx := B.exec
  have hb := B.bytes
  have hr := B.returns
  have hts := atoms_spec (ws := wsX6_isEnough) B.pre
  have hown : s.vm.findClass RX6 = some m.cls := findClass_of_methodNamed B.named
  have hlocks := B.notSynchronized
  have hinX6 : ∀ w ∈ u_ws RX6 TX6 5, w ∈ wsX6_isEnough := by decide +kernel
  have hw1 := hts (.fieldLink RX6 35 "GlideShelves$State" "book" "LGlideShelves$OrderBook;") (by decide +kernel)
  have hw2 := hts (.initialized RX3) (by decide +kernel)
  have hw3 := hts (.instanceMethod yX3_wantedOf) (by decide +kernel)
  have hw4 := hts (.selects RX3 yX3_wantedOf yX3_wantedOf) (by decide +kernel)
  have hw5 := hts (.fieldLink RX6 12 "GlideShelves$State" "tower" "LGlideShelves$Tower;") (by decide +kernel)
  have hinX7 : ∀ w ∈ u_ws RX7 TX7 6, w ∈ wsX6_isEnough := by decide +kernel
  have hw7 := hts (.initialized RX7) (by decide +kernel)
  have hw8 := hts (.instanceMethod yX7_countIn) (by decide +kernel)
  have hw9 := hts (.selects RX7 yX7_countIn yX7_countIn) (by decide +kernel)
  have hfX6_isEnough_B63 : ∀ (kb : Int32 → Int32 → Int32 → Int32 → Int32 → Option (Int32)) (hkb : ∀ (l1 : Int32) (l2 : Int32) (l3 : Int32) (l4 : Int32) (l5 : Int32), kb l1 l2 l3 l4 l5 = some z → ∀ (ls : Array Slot), lv_has ls 6 [(0, .ref (a 0)), (1, .int l1), (2, .int l2), (3, .int l3), (4, .int l4), (5, .int l5)] → W p l e (headSpec wsX6_isEnough ({ frames := 1, cells := 0, slots := 0, locals := 22 } : Room)).room s m ([.ref (a 0), .int a1, .int a2] : List Value).toArray below meth c s.heap [] 0 0 (MQ below (k2_QcV (.int z)) ([.ref (a 0), .int a1, .int a2] : List Value).toArray s 0 0 (fun _ => False)) (F0 m 22 ls [])) (kx69 : Int32 → Int32 → Int32 → Int32 → Option (Int32)) (hkx69 : ∀ (l1 : Int32) (l2 : Int32) (l3 : Int32) (l4 : Int32), kx69 l1 l2 l3 l4 = some z → ∀ (ls : Array Slot), lv_has ls 6 [(0, .ref (a 0)), (1, .int l1), (2, .int l2), (3, .int l3), (4, .int l4)] → W p l e (headSpec wsX6_isEnough ({ frames := 1, cells := 0, slots := 0, locals := 22 } : Room)).room s m ([.ref (a 0), .int a1, .int a2] : List Value).toArray below meth c s.heap [] 0 0 (MQ below (k2_QcV (.int z)) ([.ref (a 0), .int a1, .int a2] : List Value).toArray s 0 0 (fun _ => False)) (F0 m 69 ls [])), ∀ (l1 : Int32) (l2 : Int32) (l3 : Int32) (l4 : Int32) (l5 : Int32), fX6_isEnough_B63 M kb kx69 l1 l2 l3 l4 l5 = some z → ∀ (ls : Array Slot), lv_has ls 6 [(0, .ref (a 0)), (1, .int l1), (2, .int l2), (3, .int l3), (4, .int l4), (5, .int l5)] → W p l e (headSpec wsX6_isEnough ({ frames := 1, cells := 0, slots := 0, locals := 22 } : Room)).room s m ([.ref (a 0), .int a1, .int a2] : List Value).toArray below meth c s.heap [] 0 0 (MQ below (k2_QcV (.int z)) ([.ref (a 0), .int a1, .int a2] : List Value).toArray s 0 0 (fun _ => False)) (F0 m 63 ls []) := by
    intro kb hkb kx69 hkx69 l1 l2 l3 l4 l5 hf ls hl
    unfold fX6_isEnough_B63 at hf
    refine lv_iinc (v := (l5 + (1 : Int32))) (lv' := [(5, .int (l5 + (1 : Int32))), (0, .ref (a 0)), (1, .int l1), (2, .int l2), (3, .int l3), (4, .int l4)]) hx hb dX6_isEnough_63 hl (k := 5) rfl rfl (by decide) rfl (fun ls hl => ?_)
    refine lv_goto (tgt := 22) hx hb dX6_isEnough_66 (by decide) ?_
    exact hkb l1 l2 l3 l4 (l5 + (1 : Int32)) hf _ (lv_sub hl [1, 2, 3, 4, 5, 0] rfl)
  have hfX6_isEnough_L22 : ∀ (n : Nat) (kx69 : Int32 → Int32 → Int32 → Int32 → Option (Int32)) (hkx69 : ∀ (l1 : Int32) (l2 : Int32) (l3 : Int32) (l4 : Int32), kx69 l1 l2 l3 l4 = some z → ∀ (ls : Array Slot), lv_has ls 6 [(0, .ref (a 0)), (1, .int l1), (2, .int l2), (3, .int l3), (4, .int l4)] → W p l e (headSpec wsX6_isEnough ({ frames := 1, cells := 0, slots := 0, locals := 22 } : Room)).room s m ([.ref (a 0), .int a1, .int a2] : List Value).toArray below meth c s.heap [] 0 0 (MQ below (k2_QcV (.int z)) ([.ref (a 0), .int a1, .int a2] : List Value).toArray s 0 0 (fun _ => False)) (F0 m 69 ls [])), ∀ (l1 : Int32) (l2 : Int32) (l3 : Int32) (l4 : Int32) (l5 : Int32), fX6_isEnough_L22 M n kx69 l1 l2 l3 l4 l5 = some z → ∀ (ls : Array Slot), lv_has ls 6 [(0, .ref (a 0)), (1, .int l1), (2, .int l2), (3, .int l3), (4, .int l4), (5, .int l5)] → W p l e (headSpec wsX6_isEnough ({ frames := 1, cells := 0, slots := 0, locals := 22 } : Room)).room s m ([.ref (a 0), .int a1, .int a2] : List Value).toArray below meth c s.heap [] 0 0 (MQ below (k2_QcV (.int z)) ([.ref (a 0), .int a1, .int a2] : List Value).toArray s 0 0 (fun _ => False)) (F0 m 22 ls []) := by
    intro n
    induction n with
    | zero =>
      intro kx69 hkx69 l1 l2 l3 l4 l5 hf ls hl
      rw [fX6_isEnough_L22] at hf
      cases hf
    | succ n ih =>
      intro kx69 hkx69 l1 l2 l3 l4 l5 hf ls hl
      rw [fX6_isEnough_L22] at hf
      refine lv_iload hx hb dX6_isEnough_22 (lv_at hl 5 rfl) ?_
      refine lv_aload_n hx hb dX6_isEnough_24 rfl (lv_at hl 0 rfl) ?_
      refine va_get (D := (dC, dI)) (ci := 6) (v := .ref (a 1)) (C := RX6) (T := TX6) (N := 5) hx hb hts hinX6 hown hK hP 0 rfl rfl 0 (by decide) hw5 (fun _ h9 => h9) rfl dX6_isEnough_25 ?_
      refine va_getN (D := (dC, dI)) (ci := 7) (v := .int (M 1 0)) (C := RX7) (T := TX7) (N := 6) hx hb hts hinX7 hown hK hP 1 rfl rfl 0 (by decide) (nw35 hNW) (fun _ h9 => h9) rfl dX6_isEnough_28 ?_
      refine lv_icmp_ge (tgt := 69) hx hb dX6_isEnough_31 (by decide) (fun c9 => ?_) (fun c9 => ?_)
      · have hf := it_t hf c9
        exact hkx69 l1 l2 l3 l4 hf _ (lv_sub hl [0, 1, 2, 3, 4] rfl)
      · have hf := it_f hf c9
        refine lv_iload hx hb dX6_isEnough_34 (lv_at hl 4 rfl) ?_
        refine lv_if_le (tgt := 69) hx hb dX6_isEnough_36 (by decide) (fun c9 => ?_) (fun c9 => ?_)
        · have hf := it_t hf c9
          exact hkx69 l1 l2 l3 l4 hf _ (lv_sub hl [0, 1, 2, 3, 4] rfl)
        · have hf := it_f hf c9
          refine lv_iload_n hx hb dX6_isEnough_39 rfl (lv_at hl 2 rfl) ?_
          refine lv_iload hx hb dX6_isEnough_40 (lv_at hl 5 rfl) ?_
          refine lv_ishr hx hb dX6_isEnough_42 ?_
          refine lv_iconst (v := (1 : Int32)) hx hb dX6_isEnough_43 (by decide) ?_
          refine lv_iand hx hb dX6_isEnough_44 ?_
          refine lv_if_eq (tgt := 63) hx hb dX6_isEnough_45 (by decide) (fun c9 => ?_) (fun c9 => ?_)
          · have hf := it_t hf c9
            exact hfX6_isEnough_B63 _ (ih kx69 hkx69) _ hkx69 l1 l2 l3 l4 l5 hf _ (lv_sub hl [0, 1, 2, 3, 4, 5] rfl)
          · have hf := it_f hf c9
            refine lv_iload hx hb dX6_isEnough_48 (lv_at hl 4 rfl) ?_
            refine lv_aload_n hx hb dX6_isEnough_50 rfl (lv_at hl 0 rfl) ?_
            refine va_get (D := (dC, dI)) (ci := 6) (v := .ref (a 1)) (C := RX6) (T := TX6) (N := 5) hx hb hts hinX6 hown hK hP 0 rfl rfl 0 (by decide) hw5 (fun _ h9 => h9) rfl dX6_isEnough_51 ?_
            refine lv_iload hx hb dX6_isEnough_54 (lv_at hl 5 rfl) ?_
            refine lv_iload_n hx hb dX6_isEnough_56 rfl (lv_at hl 3 rfl) ?_
            obtain ⟨r57, hc57, hf⟩ := bi_s hf
            have hPc := hP.sub (ws' := (wX7 cI cZ (ofs 1 a) (ofs 1 M))) [1, 2, 3, 4, 5] rfl
            refine cRO (va_Run.run (va_runVN (As := [.int l5, .int l3]) (rest := [.int l4]) ⟨hx, hb, hml, hown, hts⟩ (c_X7_countIn l dC dI cI cZ (ofs 1 a) (ofs 1 M) l5 l3 r57 hc57) ⟨va_cnB 2 hts gX6_isEnough_X7_countIn_n56 rfl rfl rfl (nw91 hNW) hw7 (by decide +kernel) ⟨Nat.le_of_ble_eq_true rfl, Nat.le_of_ble_eq_true rfl⟩, hw8, hw9⟩ ⟨RO.blind, va_recv hK hP (ci := 7) (q0 := 1) rfl rfl, RO.pre hPc hK hNW⟩ rfl rfl hl.1 rfl (lv_room (Nat.le_of_ble_eq_true rfl)) dX6_isEnough_57 ⟨Nat.le_of_ble_eq_true rfl, Nat.le_of_ble_eq_true rfl⟩)) ?_
            refine lv_isub hx hb dX6_isEnough_60 ?_
            refine lv_istore (lv' := [(4, .int (l4 - r57)), (0, .ref (a 0)), (1, .int l1), (2, .int l2), (3, .int l3), (5, .int l5)]) hx hb dX6_isEnough_61 hl (by decide) rfl (fun ls hl => ?_)
            exact hfX6_isEnough_B63 _ (ih kx69 hkx69) _ hkx69 l1 l2 l3 (l4 - r57) l5 hf _ (lv_sub hl [1, 2, 3, 4, 0, 5] rfl)
  have hfX6_isEnough_L2 : ∀ (n : Nat) (kx74 : Unit → Option (Int32)) (hkx74 : ∀ (_ : Unit), kx74 () = some z → ∀ (ls : Array Slot), lv_has ls 6 [] → W p l e (headSpec wsX6_isEnough ({ frames := 1, cells := 0, slots := 0, locals := 22 } : Room)).room s m ([.ref (a 0), .int a1, .int a2] : List Value).toArray below meth c s.heap [] 0 0 (MQ below (k2_QcV (.int z)) ([.ref (a 0), .int a1, .int a2] : List Value).toArray s 0 0 (fun _ => False)) (F0 m 74 ls [])) (kx82 : Unit → Option (Int32)) (hkx82 : ∀ (_ : Unit), kx82 () = some z → ∀ (ls : Array Slot), lv_has ls 6 [] → W p l e (headSpec wsX6_isEnough ({ frames := 1, cells := 0, slots := 0, locals := 22 } : Room)).room s m ([.ref (a 0), .int a1, .int a2] : List Value).toArray below meth c s.heap [] 0 0 (MQ below (k2_QcV (.int z)) ([.ref (a 0), .int a1, .int a2] : List Value).toArray s 0 0 (fun _ => False)) (F0 m 82 ls [])), ∀ (l1 : Int32) (l2 : Int32) (l3 : Int32), fX6_isEnough_L2 M n kx74 kx82 l1 l2 l3 = some z → ∀ (ls : Array Slot), lv_has ls 6 [(0, .ref (a 0)), (1, .int l1), (2, .int l2), (3, .int l3)] → W p l e (headSpec wsX6_isEnough ({ frames := 1, cells := 0, slots := 0, locals := 22 } : Room)).room s m ([.ref (a 0), .int a1, .int a2] : List Value).toArray below meth c s.heap [] 0 0 (MQ below (k2_QcV (.int z)) ([.ref (a 0), .int a1, .int a2] : List Value).toArray s 0 0 (fun _ => False)) (F0 m 2 ls []) := by
    intro n
    induction n with
    | zero =>
      intro kx74 hkx74 kx82 hkx82 l1 l2 l3 hf ls hl
      rw [fX6_isEnough_L2] at hf
      cases hf
    | succ n ih =>
      intro kx74 hkx74 kx82 hkx82 l1 l2 l3 hf ls hl
      rw [fX6_isEnough_L2] at hf
      refine lv_iload_n hx hb dX6_isEnough_2 rfl (lv_at hl 3 rfl) ?_
      refine lv_bipush (v := (10 : Int32)) hx hb dX6_isEnough_3 (by decide) ?_
      refine lv_icmp_ge (tgt := 82) hx hb dX6_isEnough_5 (by decide) (fun c9 => ?_) (fun c9 => ?_)
      · have hf := it_t hf c9
        exact hkx82 () hf _ (lv_sub hl [] rfl)
      · have hf := it_f hf c9
        refine lv_aload_n hx hb dX6_isEnough_8 rfl (lv_at hl 0 rfl) ?_
        refine va_get (D := (dC, dI)) (ci := 6) (v := .ref (a 14)) (C := RX6) (T := TX6) (N := 5) hx hb hts hinX6 hown hK hP 0 rfl rfl 3 (by decide) hw1 (fun _ h9 => h9) rfl dX6_isEnough_9 ?_
        refine lv_iload_n hx hb dX6_isEnough_12 rfl (lv_at hl 1 rfl) ?_
        refine lv_iload_n hx hb dX6_isEnough_13 rfl (lv_at hl 3 rfl) ?_
        obtain ⟨r14, hc14, hf⟩ := bi_s hf
        have hPc := hP.sub (ws' := (wX3 cI cZ (ofs 14 a) (ofs 14 M))) [14, 15] rfl
        refine cRO (va_Run.run (va_runVN (As := [.int l1, .int l3]) (rest := []) ⟨hx, hb, hml, hown, hts⟩ (c_X3_wantedOf l dC dI cI cZ (ofs 14 a) (ofs 14 M) l1 l3 r14 hc14) ⟨va_cnB 2 hts gX6_isEnough_X3_wantedOf_n124 rfl rfl rfl (nw81 hNW) hw2 (by decide +kernel) ⟨Nat.le_of_ble_eq_true rfl, Nat.le_of_ble_eq_true rfl⟩, hw3, hw4⟩ ⟨RO.blind, va_recv hK hP (ci := 3) (q0 := 14) rfl rfl, RO.pre hPc hK hNW⟩ rfl rfl hl.1 rfl (lv_room (Nat.le_of_ble_eq_true rfl)) dX6_isEnough_14 ⟨Nat.le_of_ble_eq_true rfl, Nat.le_of_ble_eq_true rfl⟩)) ?_
        refine lv_istore (lv' := [(4, .int r14), (0, .ref (a 0)), (1, .int l1), (2, .int l2), (3, .int l3)]) hx hb dX6_isEnough_17 hl (by decide) rfl (fun ls hl => ?_)
        refine lv_iconst (v := (0 : Int32)) hx hb dX6_isEnough_19 (by decide) ?_
        refine lv_istore (lv' := [(5, .int (0 : Int32)), (4, .int r14), (0, .ref (a 0)), (1, .int l1), (2, .int l2), (3, .int l3)]) hx hb dX6_isEnough_20 hl (by decide) rfl (fun ls hl => ?_)
        refine hfX6_isEnough_L22 5000 _ (fun l1 l2 l3 l4 hf ls hl => ?_) l1 l2 l3 r14 (0 : Int32) hf _ (lv_sub hl [2, 3, 4, 5, 1, 0] rfl)
        refine lv_iload hx hb dX6_isEnough_69 (lv_at hl 4 rfl) ?_
        refine lv_if_le (tgt := 76) hx hb dX6_isEnough_71 (by decide) (fun c9 => ?_) (fun c9 => ?_)
        · have hf := it_t hf c9
          refine lv_iinc (v := (l3 + (1 : Int32))) (lv' := [(3, .int (l3 + (1 : Int32))), (0, .ref (a 0)), (1, .int l1), (2, .int l2), (4, .int l4)]) hx hb dX6_isEnough_76 hl (k := 3) rfl rfl (by decide) rfl (fun ls hl => ?_)
          refine lv_goto (tgt := 2) hx hb dX6_isEnough_79 (by decide) ?_
          exact ih kx74 hkx74 kx82 hkx82 l1 l2 (l3 + (1 : Int32)) hf _ (lv_sub hl [1, 2, 3, 0] rfl)
        · have hf := it_f hf c9
          exact hkx74 () hf _ (lv_sub hl [] rfl)
  have hl := lv_entry ([.ref (a 0), .int a1, .int a2]) (n := 6) (Nat.le_of_ble_eq_true rfl)
  rw [lg_entry_eq]
  generalize (lg_sl ([.ref (a 0), .int a1, .int a2]) ++ List.replicate (6 - (lg_sl ([.ref (a 0), .int a1, .int a2])).length) Slot.unset).toArray = ls at hl ⊢
  have hl : lv_has ls 6 [(0, .ref (a 0)), (1, .int a1), (2, .int a2)] := hl
  unfold fX6_isEnough at hf
  refine lv_iconst (v := (0 : Int32)) hx hb dX6_isEnough_0 (by decide) ?_
  refine lv_istore_n (lv' := [(3, .int (0 : Int32)), (0, .ref (a 0)), (1, .int a1), (2, .int a2)]) hx hb dX6_isEnough_1 rfl hl (by decide) rfl (fun ls hl => ?_)
  refine hfX6_isEnough_L2 5000 _ (fun _ hf ls hl => ?_) _ (fun _ hf ls hl => ?_) a1 a2 (0 : Int32) hf _ (lv_sub hl [1, 2, 3, 0] rfl)
  · refine lv_iconst (v := (0 : Int32)) hx hb dX6_isEnough_74 (by decide) ?_
    obtain ⟨hz, hf⟩ := gd_s hf
    exact W.zret (v := (0 : Int32)) hx hb hr (isb_nar hz) (fun t ht hW => ⟨congrArg (fun x => Outcome.returned (some (Value.int x))) (so_e hf), ht⟩) fl0 dX6_isEnough_75
  · refine lv_iconst (v := (1 : Int32)) hx hb dX6_isEnough_82 (by decide) ?_
    obtain ⟨hz, hf⟩ := gd_s hf
    exact W.zret (v := (1 : Int32)) hx hb hr (isb_nar hz) (fun t ht hW => ⟨congrArg (fun x => Outcome.returned (some (Value.int x))) (so_e hf), ht⟩) fl0 dX6_isEnough_83
set_option maxHeartbeats 4000000 in
set_option maxRecDepth 100000 in
theorem c_X6_isServable (l : Launch) (dC : Nat → ClassId) (dI : Nat → Nat → Nat) (cI cZ : ClassId) (a : Nat → Nat) (M : Mem) (a1 : Int32) (z : Int32) (hf : fX6_isServable M a1 = some z) : Met l yX6_isServable wsX6_isServable ({ frames := 2, cells := 0, slots := 0, locals := 47 } : Room) (va_Pc [.ref (a 0), .int a1] (RO (dC, dI) cI cZ (wX6 cI cZ a M))) (k2_QcV (.int z)) 0 0 (fun _ => False) := by
  refine Met.ofW (cc := cX6_isServable) (maxL := 2) (ret := (some .boolean)) (by decide) rfl ?_
  intro p e s m args below meth c s₁ B hml hv
  obtain ⟨rfl, hP, hK, hNW⟩ := hv
  have hx := B.exec
  have hb := B.bytes
  have hr := B.returns
  have hts := atoms_spec (ws := wsX6_isServable) B.pre
  have hown : s.vm.findClass RX6 = some m.cls := findClass_of_methodNamed B.named
  have hlocks := B.notSynchronized
  have hinX6 : ∀ w ∈ u_ws RX6 TX6 5, w ∈ wsX6_isServable := by decide +kernel
  have hw1 := hts (.fieldLink RX6 12 "GlideShelves$State" "tower" "LGlideShelves$Tower;") (by decide +kernel)
  have hinX7 : ∀ w ∈ u_ws RX7 TX7 6, w ∈ wsX6_isServable := by decide +kernel
  have hl := lv_entry ([.ref (a 0), .int a1]) (n := 2) (Nat.le_of_ble_eq_true rfl)
  rw [lg_entry_eq]
  generalize (lg_sl ([.ref (a 0), .int a1]) ++ List.replicate (2 - (lg_sl ([.ref (a 0), .int a1])).length) Slot.unset).toArray = ls at hl ⊢
  have hl : lv_has ls 2 [(0, .ref (a 0)), (1, .int a1)] := hl
  unfold fX6_isServable at hf
  refine lv_aload_n hx hb dX6_isServable_0 rfl (lv_at hl 0 rfl) ?_
  refine lv_iload_n hx hb dX6_isServable_1 rfl (lv_at hl 1 rfl) ?_
  refine lv_iconst (v := (1 : Int32)) hx hb dX6_isServable_2 (by decide) ?_
  refine lv_aload_n hx hb dX6_isServable_3 rfl (lv_at hl 0 rfl) ?_
  refine va_get (D := (dC, dI)) (ci := 6) (v := .ref (a 1)) (C := RX6) (T := TX6) (N := 5) hx hb hts hinX6 hown hK hP 0 rfl rfl 0 (by decide) hw1 (fun _ h9 => h9) rfl dX6_isServable_4 ?_
  refine va_getN (D := (dC, dI)) (ci := 7) (v := .int (M 1 0)) (C := RX7) (T := TX7) (N := 6) hx hb hts hinX7 hown hK hP 1 rfl rfl 0 (by decide) (nw35 hNW) (fun _ h9 => h9) rfl dX6_isServable_7 ?_
  refine lv_ishl hx hb dX6_isServable_10 ?_
  refine lv_iconst (v := (1 : Int32)) hx hb dX6_isServable_11 (by decide) ?_
  refine lv_isub hx hb dX6_isServable_12 ?_
  obtain ⟨r13, hc13, hf⟩ := bi_s hf
  have hPc := hP
  refine cRO (W.runV (As := [.int a1, .int (((1 : Int32) <<< ((M 1 0) &&& 31)) - (1 : Int32))]) (rest := []) ⟨hx, hb, hml, hown, hts⟩ (c_X6_isEnough l dC dI cI cZ a M a1 (((1 : Int32) <<< ((M 1 0) &&& 31)) - (1 : Int32)) r13 hc13) (cwV 2 hts gX6_isServable_X6_isEnough rfl rfl rfl (by decide +kernel) ⟨Nat.le_of_ble_eq_true rfl, Nat.le_of_ble_eq_true rfl⟩) ⟨RO.blind, va_recv hK hP (ci := 6) (q0 := 0) rfl rfl, RO.pre hPc hK hNW⟩ rfl rfl hl.1 rfl (lv_room (Nat.le_of_ble_eq_true rfl)) dX6_isServable_13 ⟨Nat.le_of_ble_eq_true rfl, Nat.le_of_ble_eq_true rfl⟩) ?_
  obtain ⟨hz, hf⟩ := gd_s hf
  exact W.zret (v := r13) hx hb hr (isb_nar hz) (fun t ht hW => ⟨congrArg (fun x => Outcome.returned (some (Value.int x))) (so_e hf), ht⟩) fl0 dX6_isServable_16
set_option maxHeartbeats 4000000 in
set_option maxRecDepth 100000 in
theorem c_X6_usefulShelves (l : Launch) (dC : Nat → ClassId) (dI : Nat → Nat → Nat) (cI cZ : ClassId) (a : Nat → Nat) (M : Mem) (a1 : Int32) (z : Int32) (hf : fX6_usefulShelves M a1 = some z) : Met l yX6_usefulShelves wsX6_usefulShelves ({ frames := 1, cells := 0, slots := 0, locals := 22 } : Room) (va_Pc [.ref (a 0), .int a1] (RO (dC, dI) cI cZ (wX6 cI cZ a M))) (k2_QcV (.int z)) 0 0 (fun _ => False) := by
  refine Met.ofW (cc := cX6_usefulShelves) (maxL := 5) (ret := (some .int)) (by decide) rfl ?_
  intro p e s m args below meth c s₁ B hml hv
  obtain ⟨rfl, hP, hK, hNW⟩ := hv
  have hx := B.exec
  have hb := B.bytes
  have hr := B.returns
  have hts := atoms_spec (ws := wsX6_usefulShelves) B.pre
  have hown : s.vm.findClass RX6 = some m.cls := findClass_of_methodNamed B.named
  have hlocks := B.notSynchronized
  have hinX6 : ∀ w ∈ u_ws RX6 TX6 5, w ∈ wsX6_usefulShelves := by decide +kernel
  have hw1 := hts (.fieldLink RX6 12 "GlideShelves$State" "tower" "LGlideShelves$Tower;") (by decide +kernel)
  have hinX7 : ∀ w ∈ u_ws RX7 TX7 6, w ∈ wsX6_usefulShelves := by decide +kernel
  have hw3 := hts (.fieldLink RX6 35 "GlideShelves$State" "book" "LGlideShelves$OrderBook;") (by decide +kernel)
  have hw4 := hts (.initialized RX3) (by decide +kernel)
  have hw5 := hts (.instanceMethod yX3_wantedOf) (by decide +kernel)
  have hw6 := hts (.selects RX3 yX3_wantedOf yX3_wantedOf) (by decide +kernel)
  have hw7 := hts (.initialized RX7) (by decide +kernel)
  have hw8 := hts (.instanceMethod yX7_countIn) (by decide +kernel)
  have hw9 := hts (.selects RX7 yX7_countIn yX7_countIn) (by decide +kernel)
  have hfX6_usefulShelves_B57 : ∀ (kb : Int32 → Int32 → Int32 → Int32 → Option (Int32)) (hkb : ∀ (l1 : Int32) (l2 : Int32) (l3 : Int32) (l4 : Int32), kb l1 l2 l3 l4 = some z → ∀ (ls : Array Slot), lv_has ls 5 [(0, .ref (a 0)), (1, .int l1), (2, .int l2), (3, .int l3), (4, .int l4)] → W p l e (headSpec wsX6_usefulShelves ({ frames := 1, cells := 0, slots := 0, locals := 22 } : Room)).room s m ([.ref (a 0), .int a1] : List Value).toArray below meth c s.heap [] 0 0 (MQ below (k2_QcV (.int z)) ([.ref (a 0), .int a1] : List Value).toArray s 0 0 (fun _ => False)) (F0 m 18 ls [])) (kx63 : Int32 → Int32 → Int32 → Option (Int32)) (hkx63 : ∀ (l1 : Int32) (l2 : Int32) (l3 : Int32), kx63 l1 l2 l3 = some z → ∀ (ls : Array Slot), lv_has ls 5 [(0, .ref (a 0)), (1, .int l1), (2, .int l2), (3, .int l3)] → W p l e (headSpec wsX6_usefulShelves ({ frames := 1, cells := 0, slots := 0, locals := 22 } : Room)).room s m ([.ref (a 0), .int a1] : List Value).toArray below meth c s.heap [] 0 0 (MQ below (k2_QcV (.int z)) ([.ref (a 0), .int a1] : List Value).toArray s 0 0 (fun _ => False)) (F0 m 63 ls [])), ∀ (l1 : Int32) (l2 : Int32) (l3 : Int32) (l4 : Int32), fX6_usefulShelves_B57 M kb kx63 l1 l2 l3 l4 = some z → ∀ (ls : Array Slot), lv_has ls 5 [(0, .ref (a 0)), (1, .int l1), (2, .int l2), (3, .int l3), (4, .int l4)] → W p l e (headSpec wsX6_usefulShelves ({ frames := 1, cells := 0, slots := 0, locals := 22 } : Room)).room s m ([.ref (a 0), .int a1] : List Value).toArray below meth c s.heap [] 0 0 (MQ below (k2_QcV (.int z)) ([.ref (a 0), .int a1] : List Value).toArray s 0 0 (fun _ => False)) (F0 m 57 ls []) := by
    intro kb hkb kx63 hkx63 l1 l2 l3 l4 hf ls hl
    unfold fX6_usefulShelves_B57 at hf
    refine lv_iinc (v := (l4 + (1 : Int32))) (lv' := [(4, .int (l4 + (1 : Int32))), (0, .ref (a 0)), (1, .int l1), (2, .int l2), (3, .int l3)]) hx hb dX6_usefulShelves_57 hl (k := 4) rfl rfl (by decide) rfl (fun ls hl => ?_)
    refine lv_goto (tgt := 18) hx hb dX6_usefulShelves_60 (by decide) ?_
    exact hkb l1 l2 l3 (l4 + (1 : Int32)) hf _ (lv_sub hl [1, 2, 3, 4, 0] rfl)
  have hfX6_usefulShelves_L18 : ∀ (n : Nat) (kx63 : Int32 → Int32 → Int32 → Option (Int32)) (hkx63 : ∀ (l1 : Int32) (l2 : Int32) (l3 : Int32), kx63 l1 l2 l3 = some z → ∀ (ls : Array Slot), lv_has ls 5 [(0, .ref (a 0)), (1, .int l1), (2, .int l2), (3, .int l3)] → W p l e (headSpec wsX6_usefulShelves ({ frames := 1, cells := 0, slots := 0, locals := 22 } : Room)).room s m ([.ref (a 0), .int a1] : List Value).toArray below meth c s.heap [] 0 0 (MQ below (k2_QcV (.int z)) ([.ref (a 0), .int a1] : List Value).toArray s 0 0 (fun _ => False)) (F0 m 63 ls [])), ∀ (l1 : Int32) (l2 : Int32) (l3 : Int32) (l4 : Int32), fX6_usefulShelves_L18 M n kx63 l1 l2 l3 l4 = some z → ∀ (ls : Array Slot), lv_has ls 5 [(0, .ref (a 0)), (1, .int l1), (2, .int l2), (3, .int l3), (4, .int l4)] → W p l e (headSpec wsX6_usefulShelves ({ frames := 1, cells := 0, slots := 0, locals := 22 } : Room)).room s m ([.ref (a 0), .int a1] : List Value).toArray below meth c s.heap [] 0 0 (MQ below (k2_QcV (.int z)) ([.ref (a 0), .int a1] : List Value).toArray s 0 0 (fun _ => False)) (F0 m 18 ls []) := by
    intro n
    induction n with
    | zero =>
      intro kx63 hkx63 l1 l2 l3 l4 hf ls hl
      rw [fX6_usefulShelves_L18] at hf
      cases hf
    | succ n ih =>
      intro kx63 hkx63 l1 l2 l3 l4 hf ls hl
      rw [fX6_usefulShelves_L18] at hf
      refine lv_iload hx hb dX6_usefulShelves_18 (lv_at hl 4 rfl) ?_
      refine lv_bipush (v := (10 : Int32)) hx hb dX6_usefulShelves_20 (by decide) ?_
      refine lv_icmp_ge (tgt := 63) hx hb dX6_usefulShelves_22 (by decide) (fun c9 => ?_) (fun c9 => ?_)
      · have hf := it_t hf c9
        exact hkx63 l1 l2 l3 hf _ (lv_sub hl [0, 1, 2, 3] rfl)
      · have hf := it_f hf c9
        refine lv_aload_n hx hb dX6_usefulShelves_25 rfl (lv_at hl 0 rfl) ?_
        refine va_get (D := (dC, dI)) (ci := 6) (v := .ref (a 14)) (C := RX6) (T := TX6) (N := 5) hx hb hts hinX6 hown hK hP 0 rfl rfl 3 (by decide) hw3 (fun _ h9 => h9) rfl dX6_usefulShelves_26 ?_
        refine lv_iload_n hx hb dX6_usefulShelves_29 rfl (lv_at hl 1 rfl) ?_
        refine lv_iload hx hb dX6_usefulShelves_30 (lv_at hl 4 rfl) ?_
        obtain ⟨r32, hc32, hf⟩ := bi_s hf
        have hPc := hP.sub (ws' := (wX3 cI cZ (ofs 14 a) (ofs 14 M))) [14, 15] rfl
        refine cRO (va_Run.run (va_runVN (As := [.int l1, .int l4]) (rest := []) ⟨hx, hb, hml, hown, hts⟩ (c_X3_wantedOf l dC dI cI cZ (ofs 14 a) (ofs 14 M) l1 l4 r32 hc32) ⟨va_cnB 2 hts gX6_usefulShelves_X3_wantedOf_n124 rfl rfl rfl (nw81 hNW) hw4 (by decide +kernel) ⟨Nat.le_of_ble_eq_true rfl, Nat.le_of_ble_eq_true rfl⟩, hw5, hw6⟩ ⟨RO.blind, va_recv hK hP (ci := 3) (q0 := 14) rfl rfl, RO.pre hPc hK hNW⟩ rfl rfl hl.1 rfl (lv_room (Nat.le_of_ble_eq_true rfl)) dX6_usefulShelves_32 ⟨Nat.le_of_ble_eq_true rfl, Nat.le_of_ble_eq_true rfl⟩)) ?_
        refine lv_if_le (tgt := 57) hx hb dX6_usefulShelves_35 (by decide) (fun c9 => ?_) (fun c9 => ?_)
        · have hf := it_t hf c9
          exact hfX6_usefulShelves_B57 _ (ih kx63 hkx63) _ hkx63 l1 l2 l3 l4 hf _ (lv_sub hl [0, 1, 2, 3, 4] rfl)
        · have hf := it_f hf c9
          refine lv_aload_n hx hb dX6_usefulShelves_38 rfl (lv_at hl 0 rfl) ?_
          refine va_get (D := (dC, dI)) (ci := 6) (v := .ref (a 1)) (C := RX6) (T := TX6) (N := 5) hx hb hts hinX6 hown hK hP 0 rfl rfl 0 (by decide) hw1 (fun _ h9 => h9) rfl dX6_usefulShelves_39 ?_
          refine lv_iload_n hx hb dX6_usefulShelves_42 rfl (lv_at hl 3 rfl) ?_
          refine lv_iload hx hb dX6_usefulShelves_43 (lv_at hl 4 rfl) ?_
          obtain ⟨r45, hc45, hf⟩ := bi_s hf
          have hPc := hP.sub (ws' := (wX7 cI cZ (ofs 1 a) (ofs 1 M))) [1, 2, 3, 4, 5] rfl
          refine cRO (va_Run.run (va_runVN (As := [.int l3, .int l4]) (rest := []) ⟨hx, hb, hml, hown, hts⟩ (c_X7_countIn l dC dI cI cZ (ofs 1 a) (ofs 1 M) l3 l4 r45 hc45) ⟨va_cnB 2 hts gX6_usefulShelves_X7_countIn_n56 rfl rfl rfl (nw91 hNW) hw7 (by decide +kernel) ⟨Nat.le_of_ble_eq_true rfl, Nat.le_of_ble_eq_true rfl⟩, hw8, hw9⟩ ⟨RO.blind, va_recv hK hP (ci := 7) (q0 := 1) rfl rfl, RO.pre hPc hK hNW⟩ rfl rfl hl.1 rfl (lv_room (Nat.le_of_ble_eq_true rfl)) dX6_usefulShelves_45 ⟨Nat.le_of_ble_eq_true rfl, Nat.le_of_ble_eq_true rfl⟩)) ?_
          refine lv_if_le (tgt := 57) hx hb dX6_usefulShelves_48 (by decide) (fun c9 => ?_) (fun c9 => ?_)
          · have hf := it_t hf c9
            exact hfX6_usefulShelves_B57 _ (ih kx63 hkx63) _ hkx63 l1 l2 l3 l4 hf _ (lv_sub hl [0, 1, 2, 3, 4] rfl)
          · have hf := it_f hf c9
            refine lv_iload_n hx hb dX6_usefulShelves_51 rfl (lv_at hl 2 rfl) ?_
            refine lv_iconst (v := (1 : Int32)) hx hb dX6_usefulShelves_52 (by decide) ?_
            refine lv_iload_n hx hb dX6_usefulShelves_53 rfl (lv_at hl 3 rfl) ?_
            refine lv_ishl hx hb dX6_usefulShelves_54 ?_
            refine lv_ior hx hb dX6_usefulShelves_55 ?_
            refine lv_istore_n (lv' := [(2, .int (l2 ||| ((1 : Int32) <<< (l3 &&& 31)))), (0, .ref (a 0)), (1, .int l1), (3, .int l3), (4, .int l4)]) hx hb dX6_usefulShelves_56 rfl hl (by decide) rfl (fun ls hl => ?_)
            exact hfX6_usefulShelves_B57 _ (ih kx63 hkx63) _ hkx63 l1 (l2 ||| ((1 : Int32) <<< (l3 &&& 31))) l3 l4 hf _ (lv_sub hl [1, 2, 0, 3, 4] rfl)
  have hfX6_usefulShelves_L4 : ∀ (n : Nat) (kx69 : Int32 → Option (Int32)) (hkx69 : ∀ (l2 : Int32), kx69 l2 = some z → ∀ (ls : Array Slot), lv_has ls 5 [(2, .int l2)] → W p l e (headSpec wsX6_usefulShelves ({ frames := 1, cells := 0, slots := 0, locals := 22 } : Room)).room s m ([.ref (a 0), .int a1] : List Value).toArray below meth c s.heap [] 0 0 (MQ below (k2_QcV (.int z)) ([.ref (a 0), .int a1] : List Value).toArray s 0 0 (fun _ => False)) (F0 m 69 ls [])), ∀ (l1 : Int32) (l2 : Int32) (l3 : Int32), fX6_usefulShelves_L4 M n kx69 l1 l2 l3 = some z → ∀ (ls : Array Slot), lv_has ls 5 [(0, .ref (a 0)), (1, .int l1), (2, .int l2), (3, .int l3)] → W p l e (headSpec wsX6_usefulShelves ({ frames := 1, cells := 0, slots := 0, locals := 22 } : Room)).room s m ([.ref (a 0), .int a1] : List Value).toArray below meth c s.heap [] 0 0 (MQ below (k2_QcV (.int z)) ([.ref (a 0), .int a1] : List Value).toArray s 0 0 (fun _ => False)) (F0 m 4 ls []) := by
    intro n
    induction n with
    | zero =>
      intro kx69 hkx69 l1 l2 l3 hf ls hl
      rw [fX6_usefulShelves_L4] at hf
      cases hf
    | succ n ih =>
      intro kx69 hkx69 l1 l2 l3 hf ls hl
      rw [fX6_usefulShelves_L4] at hf
      refine lv_iload_n hx hb dX6_usefulShelves_4 rfl (lv_at hl 3 rfl) ?_
      refine lv_aload_n hx hb dX6_usefulShelves_5 rfl (lv_at hl 0 rfl) ?_
      refine va_get (D := (dC, dI)) (ci := 6) (v := .ref (a 1)) (C := RX6) (T := TX6) (N := 5) hx hb hts hinX6 hown hK hP 0 rfl rfl 0 (by decide) hw1 (fun _ h9 => h9) rfl dX6_usefulShelves_6 ?_
      refine va_getN (D := (dC, dI)) (ci := 7) (v := .int (M 1 0)) (C := RX7) (T := TX7) (N := 6) hx hb hts hinX7 hown hK hP 1 rfl rfl 0 (by decide) (nw35 hNW) (fun _ h9 => h9) rfl dX6_usefulShelves_9 ?_
      refine lv_icmp_ge (tgt := 69) hx hb dX6_usefulShelves_12 (by decide) (fun c9 => ?_) (fun c9 => ?_)
      · have hf := it_t hf c9
        exact hkx69 l2 hf _ (lv_sub hl [2] rfl)
      · have hf := it_f hf c9
        refine lv_iconst (v := (0 : Int32)) hx hb dX6_usefulShelves_15 (by decide) ?_
        refine lv_istore (lv' := [(4, .int (0 : Int32)), (0, .ref (a 0)), (1, .int l1), (2, .int l2), (3, .int l3)]) hx hb dX6_usefulShelves_16 hl (by decide) rfl (fun ls hl => ?_)
        refine hfX6_usefulShelves_L18 5000 _ (fun l1 l2 l3 hf ls hl => ?_) l1 l2 l3 (0 : Int32) hf _ (lv_sub hl [1, 2, 3, 4, 0] rfl)
        refine lv_iinc (v := (l3 + (1 : Int32))) (lv' := [(3, .int (l3 + (1 : Int32))), (0, .ref (a 0)), (1, .int l1), (2, .int l2)]) hx hb dX6_usefulShelves_63 hl (k := 3) rfl rfl (by decide) rfl (fun ls hl => ?_)
        refine lv_goto (tgt := 4) hx hb dX6_usefulShelves_66 (by decide) ?_
        exact ih kx69 hkx69 l1 l2 (l3 + (1 : Int32)) hf _ (lv_sub hl [1, 2, 3, 0] rfl)
  have hl := lv_entry ([.ref (a 0), .int a1]) (n := 5) (Nat.le_of_ble_eq_true rfl)
  rw [lg_entry_eq]
  generalize (lg_sl ([.ref (a 0), .int a1]) ++ List.replicate (5 - (lg_sl ([.ref (a 0), .int a1])).length) Slot.unset).toArray = ls at hl ⊢
  have hl : lv_has ls 5 [(0, .ref (a 0)), (1, .int a1)] := hl
  unfold fX6_usefulShelves at hf
  refine lv_iconst (v := (0 : Int32)) hx hb dX6_usefulShelves_0 (by decide) ?_
  refine lv_istore_n (lv' := [(2, .int (0 : Int32)), (0, .ref (a 0)), (1, .int a1)]) hx hb dX6_usefulShelves_1 rfl hl (by decide) rfl (fun ls hl => ?_)
  refine lv_iconst (v := (0 : Int32)) hx hb dX6_usefulShelves_2 (by decide) ?_
  refine lv_istore_n (lv' := [(3, .int (0 : Int32)), (2, .int (0 : Int32)), (0, .ref (a 0)), (1, .int a1)]) hx hb dX6_usefulShelves_3 rfl hl (by decide) rfl (fun ls hl => ?_)
  refine hfX6_usefulShelves_L4 5000 _ (fun l2 hf ls hl => ?_) a1 (0 : Int32) (0 : Int32) hf _ (lv_sub hl [2, 3, 1, 0] rfl)
  refine lv_iload_n hx hb dX6_usefulShelves_69 rfl (lv_at hl 0 rfl) ?_
  exact W.iret (v := l2) hx hb hr (fun t ht hW => ⟨congrArg (fun x => Outcome.returned (some (Value.int x))) (so_e hf), ht⟩) fl0 dX6_usefulShelves_70
set_option maxHeartbeats 4000000 in
set_option maxRecDepth 100000 in
theorem c_X6_choice (l : Launch) (dC : Nat → ClassId) (dI : Nat → Nat → Nat) (cI cZ : ClassId) (a : Nat → Nat) (M : Mem) (a1 : Int32) (z : Int32) (hf : fX6_choice M a1 = some z) : Met l yX6_choice wsX6_choice ({ frames := 2, cells := 0, slots := 0, locals := 47 } : Room) (va_Pc [.ref (a 0), .int a1] (RO (dC, dI) cI cZ (wX6 cI cZ a M))) (k2_QcV (.int z)) 0 0 (fun _ => False) := by
  refine Met.ofW (cc := cX6_choice) (maxL := 6) (ret := (some .int)) (by decide) rfl ?_
  intro p e s m args below meth c s₁ B hml hv
  obtain ⟨rfl, hP, hK, hNW⟩ := hv
  have hx := B.exec
  have hb := B.bytes
  have hr := B.returns
  have hts := atoms_spec (ws := wsX6_choice) B.pre
  have hown : s.vm.findClass RX6 = some m.cls := findClass_of_methodNamed B.named
  have hlocks := B.notSynchronized
  have hfX6_choice_B62 : ∀ (kb : Int32 → Int32 → Int32 → Int32 → Int32 → Option (Int32)) (hkb : ∀ (l1 : Int32) (l2 : Int32) (l3 : Int32) (l4 : Int32) (l5 : Int32), kb l1 l2 l3 l4 l5 = some z → ∀ (ls : Array Slot), lv_has ls 6 [(0, .ref (a 0)), (1, .int l1), (2, .int l2), (3, .int l3), (4, .int l4), (5, .int l5)] → W p l e (headSpec wsX6_choice ({ frames := 2, cells := 0, slots := 0, locals := 47 } : Room)).room s m ([.ref (a 0), .int a1] : List Value).toArray below meth c s.heap [] 0 0 (MQ below (k2_QcV (.int z)) ([.ref (a 0), .int a1] : List Value).toArray s 0 0 (fun _ => False)) (F0 m 17 ls [])) (kx68 : Int32 → Option (Int32)) (hkx68 : ∀ (l3 : Int32), kx68 l3 = some z → ∀ (ls : Array Slot), lv_has ls 6 [(3, .int l3)] → W p l e (headSpec wsX6_choice ({ frames := 2, cells := 0, slots := 0, locals := 47 } : Room)).room s m ([.ref (a 0), .int a1] : List Value).toArray below meth c s.heap [] 0 0 (MQ below (k2_QcV (.int z)) ([.ref (a 0), .int a1] : List Value).toArray s 0 0 (fun _ => False)) (F0 m 68 ls [])), ∀ (l1 : Int32) (l2 : Int32) (l3 : Int32) (l4 : Int32) (l5 : Int32), fX6_choice_B62 M kb kx68 l1 l2 l3 l4 l5 = some z → ∀ (ls : Array Slot), lv_has ls 6 [(0, .ref (a 0)), (1, .int l1), (2, .int l2), (3, .int l3), (4, .int l4), (5, .int l5)] → W p l e (headSpec wsX6_choice ({ frames := 2, cells := 0, slots := 0, locals := 47 } : Room)).room s m ([.ref (a 0), .int a1] : List Value).toArray below meth c s.heap [] 0 0 (MQ below (k2_QcV (.int z)) ([.ref (a 0), .int a1] : List Value).toArray s 0 0 (fun _ => False)) (F0 m 62 ls []) := by
    intro kb hkb kx68 hkx68 l1 l2 l3 l4 l5 hf ls hl
    unfold fX6_choice_B62 at hf
    refine lv_iinc (v := (l5 + (1 : Int32))) (lv' := [(5, .int (l5 + (1 : Int32))), (0, .ref (a 0)), (1, .int l1), (2, .int l2), (3, .int l3), (4, .int l4)]) hx hb dX6_choice_62 hl (k := 5) rfl rfl (by decide) rfl (fun ls hl => ?_)
    refine lv_goto (tgt := 17) hx hb dX6_choice_65 (by decide) ?_
    exact hkb l1 l2 l3 l4 (l5 + (1 : Int32)) hf _ (lv_sub hl [1, 2, 3, 4, 5, 0] rfl)
  have hfX6_choice_L17 : ∀ (n : Nat) (kx68 : Int32 → Option (Int32)) (hkx68 : ∀ (l3 : Int32), kx68 l3 = some z → ∀ (ls : Array Slot), lv_has ls 6 [(3, .int l3)] → W p l e (headSpec wsX6_choice ({ frames := 2, cells := 0, slots := 0, locals := 47 } : Room)).room s m ([.ref (a 0), .int a1] : List Value).toArray below meth c s.heap [] 0 0 (MQ below (k2_QcV (.int z)) ([.ref (a 0), .int a1] : List Value).toArray s 0 0 (fun _ => False)) (F0 m 68 ls [])), ∀ (l1 : Int32) (l2 : Int32) (l3 : Int32) (l4 : Int32) (l5 : Int32), fX6_choice_L17 M n kx68 l1 l2 l3 l4 l5 = some z → ∀ (ls : Array Slot), lv_has ls 6 [(0, .ref (a 0)), (1, .int l1), (2, .int l2), (3, .int l3), (4, .int l4), (5, .int l5)] → W p l e (headSpec wsX6_choice ({ frames := 2, cells := 0, slots := 0, locals := 47 } : Room)).room s m ([.ref (a 0), .int a1] : List Value).toArray below meth c s.heap [] 0 0 (MQ below (k2_QcV (.int z)) ([.ref (a 0), .int a1] : List Value).toArray s 0 0 (fun _ => False)) (F0 m 17 ls []) := by
    intro n
    induction n with
    | zero =>
      intro kx68 hkx68 l1 l2 l3 l4 l5 hf ls hl
      rw [fX6_choice_L17] at hf
      cases hf
    | succ n ih =>
      intro kx68 hkx68 l1 l2 l3 l4 l5 hf ls hl
      rw [fX6_choice_L17] at hf
      refine lv_iload hx hb dX6_choice_17 (lv_at hl 5 rfl) ?_
      refine lv_iload_n hx hb dX6_choice_19 rfl (lv_at hl 2 rfl) ?_
      refine lv_icmp_ge (tgt := 68) hx hb dX6_choice_20 (by decide) (fun c9 => ?_) (fun c9 => ?_)
      · have hf := it_t hf c9
        exact hkx68 l3 hf _ (lv_sub hl [3] rfl)
      · have hf := it_f hf c9
        refine lv_iload hx hb dX6_choice_23 (lv_at hl 5 rfl) ?_
        refine lv_iload_n hx hb dX6_choice_25 rfl (lv_at hl 2 rfl) ?_
        refine lv_iconst (v := (-1 : Int32)) hx hb dX6_choice_26 (by decide) ?_
        refine lv_ixor hx hb dX6_choice_27 ?_
        refine lv_iand hx hb dX6_choice_28 ?_
        refine lv_if_ne (tgt := 62) hx hb dX6_choice_29 (by decide) (fun c9 => ?_) (fun c9 => ?_)
        · have hf := it_t hf c9
          exact hfX6_choice_B62 _ (ih kx68 hkx68) _ hkx68 l1 l2 l3 l4 l5 hf _ (lv_sub hl [0, 1, 2, 3, 4, 5] rfl)
        · have hf := it_n hf c9
          refine lv_iload hx hb dX6_choice_32 (lv_at hl 5 rfl) ?_
          obtain ⟨r34, hc34, hf⟩ := bi_s hf
          refine cRO (W.runS (As := [.int l5]) (rest := []) ⟨hx, hb, hml, hown, hts⟩ (c_J6_bitCount_0f7a4 l l5 r34 hc34) (va_cwS 1 hts gX6_choice_J6_bitCount_0f7a4 rfl rfl rfl (by decide +kernel) ⟨Nat.le_of_ble_eq_true rfl, Nat.le_of_ble_eq_true rfl⟩) ⟨tr_blind, tr_pre⟩ rfl rfl hl.1 rfl (lv_room (Nat.le_of_ble_eq_true rfl)) dX6_choice_34 ⟨Nat.le_of_ble_eq_true rfl, Nat.le_of_ble_eq_true rfl⟩) ?_
          refine lv_iload hx hb dX6_choice_37 (lv_at hl 4 rfl) ?_
          refine lv_icmp_ge (tgt := 62) hx hb dX6_choice_39 (by decide) (fun c9 => ?_) (fun c9 => ?_)
          · have hf := it_t hf c9
            exact hfX6_choice_B62 _ (ih kx68 hkx68) _ hkx68 l1 l2 l3 l4 l5 hf _ (lv_sub hl [0, 1, 2, 3, 4, 5] rfl)
          · have hf := it_f hf c9
            refine lv_aload_n hx hb dX6_choice_42 rfl (lv_at hl 0 rfl) ?_
            refine lv_iload_n hx hb dX6_choice_43 rfl (lv_at hl 1 rfl) ?_
            refine lv_iload hx hb dX6_choice_44 (lv_at hl 5 rfl) ?_
            obtain ⟨r46, hc46, hf⟩ := bi_s hf
            have hPc := hP
            refine cRO (W.runV (As := [.int l1, .int l5]) (rest := []) ⟨hx, hb, hml, hown, hts⟩ (c_X6_isEnough l dC dI cI cZ a M l1 l5 r46 hc46) (cwV 2 hts gX6_choice_X6_isEnough rfl rfl rfl (by decide +kernel) ⟨Nat.le_of_ble_eq_true rfl, Nat.le_of_ble_eq_true rfl⟩) ⟨RO.blind, va_recv hK hP (ci := 6) (q0 := 0) rfl rfl, RO.pre hPc hK hNW⟩ rfl rfl hl.1 rfl (lv_room (Nat.le_of_ble_eq_true rfl)) dX6_choice_46 ⟨Nat.le_of_ble_eq_true rfl, Nat.le_of_ble_eq_true rfl⟩) ?_
            refine lv_if_eq (tgt := 62) hx hb dX6_choice_49 (by decide) (fun c9 => ?_) (fun c9 => ?_)
            · have hf := it_t hf c9
              exact hfX6_choice_B62 _ (ih kx68 hkx68) _ hkx68 l1 l2 l3 l4 l5 hf _ (lv_sub hl [0, 1, 2, 3, 4, 5] rfl)
            · have hf := it_f hf c9
              refine lv_iload hx hb dX6_choice_52 (lv_at hl 5 rfl) ?_
              refine lv_istore_n (lv' := [(3, .int l5), (0, .ref (a 0)), (1, .int l1), (2, .int l2), (4, .int l4), (5, .int l5)]) hx hb dX6_choice_54 rfl hl (by decide) rfl (fun ls hl => ?_)
              refine lv_iload hx hb dX6_choice_55 (lv_at hl 5 rfl) ?_
              obtain ⟨r57, hc57, hf⟩ := bi_s hf
              refine cRO (W.runS (As := [.int l5]) (rest := []) ⟨hx, hb, hml, hown, hts⟩ (c_J6_bitCount_0f7a4 l l5 r57 hc57) (va_cwS 1 hts gX6_choice_J6_bitCount_0f7a4 rfl rfl rfl (by decide +kernel) ⟨Nat.le_of_ble_eq_true rfl, Nat.le_of_ble_eq_true rfl⟩) ⟨tr_blind, tr_pre⟩ rfl rfl hl.1 rfl (lv_room (Nat.le_of_ble_eq_true rfl)) dX6_choice_57 ⟨Nat.le_of_ble_eq_true rfl, Nat.le_of_ble_eq_true rfl⟩) ?_
              refine lv_istore (lv' := [(4, .int r57), (3, .int l5), (0, .ref (a 0)), (1, .int l1), (2, .int l2), (5, .int l5)]) hx hb dX6_choice_60 hl (by decide) rfl (fun ls hl => ?_)
              exact hfX6_choice_B62 _ (ih kx68 hkx68) _ hkx68 l1 l2 l5 r57 l5 hf _ (lv_sub hl [2, 3, 4, 1, 0, 5] rfl)
  have hl := lv_entry ([.ref (a 0), .int a1]) (n := 6) (Nat.le_of_ble_eq_true rfl)
  rw [lg_entry_eq]
  generalize (lg_sl ([.ref (a 0), .int a1]) ++ List.replicate (6 - (lg_sl ([.ref (a 0), .int a1])).length) Slot.unset).toArray = ls at hl ⊢
  have hl : lv_has ls 6 [(0, .ref (a 0)), (1, .int a1)] := hl
  unfold fX6_choice at hf
  refine lv_aload_n hx hb dX6_choice_0 rfl (lv_at hl 0 rfl) ?_
  refine lv_iload_n hx hb dX6_choice_1 rfl (lv_at hl 1 rfl) ?_
  obtain ⟨r2, hc2, hf⟩ := bi_s hf
  have hPc := hP
  refine cRO (W.runV (As := [.int a1]) (rest := []) ⟨hx, hb, hml, hown, hts⟩ (c_X6_usefulShelves l dC dI cI cZ a M a1 r2 hc2) (cwV 1 hts gX6_choice_X6_usefulShelves rfl rfl rfl (by decide +kernel) ⟨Nat.le_of_ble_eq_true rfl, Nat.le_of_ble_eq_true rfl⟩) ⟨RO.blind, va_recv hK hP (ci := 6) (q0 := 0) rfl rfl, RO.pre hPc hK hNW⟩ rfl rfl hl.1 rfl (lv_room (Nat.le_of_ble_eq_true rfl)) dX6_choice_2 ⟨Nat.le_of_ble_eq_true rfl, Nat.le_of_ble_eq_true rfl⟩) ?_
  refine lv_istore_n (lv' := [(2, .int r2), (0, .ref (a 0)), (1, .int a1)]) hx hb dX6_choice_5 rfl hl (by decide) rfl (fun ls hl => ?_)
  refine lv_iload_n hx hb dX6_choice_6 rfl (lv_at hl 0 rfl) ?_
  refine lv_istore_n (lv' := [(3, .int r2), (2, .int r2), (0, .ref (a 0)), (1, .int a1)]) hx hb dX6_choice_7 rfl hl (by decide) rfl (fun ls hl => ?_)
  refine lv_iload_n hx hb dX6_choice_8 rfl (lv_at hl 1 rfl) ?_
  obtain ⟨r9, hc9, hf⟩ := bi_s hf
  refine cRO (W.runS (As := [.int r2]) (rest := []) ⟨hx, hb, hml, hown, hts⟩ (c_J6_bitCount_0f7a4 l r2 r9 hc9) (va_cwS 1 hts gX6_choice_J6_bitCount_0f7a4 rfl rfl rfl (by decide +kernel) ⟨Nat.le_of_ble_eq_true rfl, Nat.le_of_ble_eq_true rfl⟩) ⟨tr_blind, tr_pre⟩ rfl rfl hl.1 rfl (lv_room (Nat.le_of_ble_eq_true rfl)) dX6_choice_9 ⟨Nat.le_of_ble_eq_true rfl, Nat.le_of_ble_eq_true rfl⟩) ?_
  refine lv_istore (lv' := [(4, .int r9), (3, .int r2), (2, .int r2), (0, .ref (a 0)), (1, .int a1)]) hx hb dX6_choice_12 hl (by decide) rfl (fun ls hl => ?_)
  refine lv_iconst (v := (0 : Int32)) hx hb dX6_choice_14 (by decide) ?_
  refine lv_istore (lv' := [(5, .int (0 : Int32)), (4, .int r9), (3, .int r2), (2, .int r2), (0, .ref (a 0)), (1, .int a1)]) hx hb dX6_choice_15 hl (by decide) rfl (fun ls hl => ?_)
  refine hfX6_choice_L17 5000 _ (fun l3 hf ls hl => ?_) a1 r2 r2 r9 (0 : Int32) hf _ (lv_sub hl [4, 5, 3, 2, 1, 0] rfl)
  refine lv_iload_n hx hb dX6_choice_68 rfl (lv_at hl 0 rfl) ?_
  exact W.iret (v := l3) hx hb hr (fun t ht hW => ⟨congrArg (fun x => Outcome.returned (some (Value.int x))) (so_e hf), ht⟩) fl0 dX6_choice_69
set_option maxHeartbeats 4000000 in
set_option maxRecDepth 100000 in
theorem c_X6_give (l : Launch) (dC : Nat → ClassId) (dI : Nat → Nat → Nat) (cI cZ : ClassId) (a : Nat → Nat) (sz : Nat) (M : Mem) (a1 : Int32) (a2 : Int32) (z : Mem) (hf : fX6_give M a1 a2 = some z) : Met l yX6_give wsX6_give ({ frames := 1, cells := 0, slots := 0, locals := 40 } : Room) (va_Pc [.ref (a 0), .int a1, .int a2] (WR (dC, dI) cI cZ (wX6 cI cZ a M) sz)) (va_Qv (S := Unit) (fun _ => True) (fun _ t => WE (dC, dI) cI cZ (wX6 cI cZ a (sr (sr (sr M 5 (z 5)) 13 (z 13)) 15 (z 15))) (va_A (wX6 cI cZ a M) sz) t) (va_A (wX6 cI cZ a M) sz)) 0 0 (va_A (wX6 cI cZ a M) sz) := by
  refine Met.ofW (cc := cX6_give) (maxL := 5) (ret := none) (by decide) rfl ?_
  intro p e s m args below meth c s₁ B hml hv
  obtain ⟨rfl, hsz, hP, hK, hD0, hNW⟩ := hv
  have hx := B.exec
  have hb := B.bytes
  have hr := B.returns
  have hts := atoms_spec (ws := wsX6_give) B.pre
  have hown : s.vm.findClass RX6 = some m.cls := findClass_of_methodNamed B.named
  have hlocks := B.notSynchronized
  have hinX6 : ∀ w ∈ u_ws RX6 TX6 5, w ∈ wsX6_give := by decide +kernel
  have hw1 := hts (.fieldLink RX6 12 "GlideShelves$State" "tower" "LGlideShelves$Tower;") (by decide +kernel)
  have hw2 := hts (.initialized RX7) (by decide +kernel)
  have hw3 := hts (.instanceMethod yX7_countIn) (by decide +kernel)
  have hw4 := hts (.selects RX7 yX7_countIn yX7_countIn) (by decide +kernel)
  have hw5 := hts (.fieldLink RX6 35 "GlideShelves$State" "book" "LGlideShelves$OrderBook;") (by decide +kernel)
  have hw6 := hts (.initialized RX3) (by decide +kernel)
  have hw7 := hts (.instanceMethod yX3_wantedOf) (by decide +kernel)
  have hw8 := hts (.selects RX3 yX3_wantedOf yX3_wantedOf) (by decide +kernel)
  have hw9 := hts (.methodLink RX6 135 Lib.Math.min.name) (by decide +kernel)
  have hw10 := hts (.static Lib.Math.min.name) (by decide +kernel)
  have hw11 := hts (.initialized "java/lang/Math") (by decide +kernel)
  have hw12 := hts (.code Lib.Math.min.name Lib.Math.min.code 2 (some .int)) (by decide +kernel)
  have hw13 := hts (.instanceMethod yX7_change) (by decide +kernel)
  have hw14 := hts (.selects RX7 yX7_change yX7_change) (by decide +kernel)
  have hinX3 : ∀ w ∈ u_ws RX3 TX3 2, w ∈ wsX6_give := by decide +kernel
  have hw16 := hts (.fieldLink RX6 28 "GlideShelves$State" "goods" "LGlideShelves$Goods;") (by decide +kernel)
  have hinX0 : ∀ w ∈ u_ws RX0 TX0 4, w ∈ wsX6_give := by decide +kernel
  subst hsz
  have hD := hD0.self (sz := s.heap.size)
  generalize hAe : va_A (wX6 cI cZ a M) s.heap.size = A at hD ⊢
  have hA : ∀ q : Nat, s.heap.size ≤ q → A q := fun q h => by rw [← hAe]; exact Or.inr h
  have hS : va_S A s.heap s.heap [] := va_S.rf
  have hfX6_give_L2 : ∀ (n : Nat) (kx83 : Mem → Option (Mem)) (hkx83 : ∀ (N : Mem), kx83 N = some z → ∀ (ls : Array Slot), lv_has ls 5 [] → ∀ (H : Heap) (locs : List Loc), va_P (dC, dI) vwCl (wX6 cI cZ a (sr (sr (sr M 5 (N 5)) 13 (N 13)) 15 (N 15))) H → va_D A (wX6 cI cZ a (sr (sr (sr M 5 (N 5)) 13 (N 13)) 15 (N 15))) → va_S A s.heap H locs → W p l e (headSpec wsX6_give ({ frames := 1, cells := 0, slots := 0, locals := 40 } : Room)).room s m ([.ref (a 0), .int a1, .int a2] : List Value).toArray below meth c H locs 0 0 (MQ below (va_Qv (S := Unit) (fun _ => True) (fun _ t => WE (dC, dI) cI cZ (wX6 cI cZ a (sr (sr (sr M 5 (z 5)) 13 (z 13)) 15 (z 15))) A t) A) ([.ref (a 0), .int a1, .int a2] : List Value).toArray s 0 0 A) (F0 m 83 ls [])), ∀ (N : Mem) (l1 : Int32) (l2 : Int32) (l3 : Int32), fX6_give_L2 M n kx83 N l1 l2 l3 = some z → ∀ (ls : Array Slot), lv_has ls 5 [(0, .ref (a 0)), (1, .int l1), (2, .int l2), (3, .int l3)] → ∀ (H : Heap) (locs : List Loc), va_P (dC, dI) vwCl (wX6 cI cZ a (sr (sr (sr M 5 (N 5)) 13 (N 13)) 15 (N 15))) H → va_D A (wX6 cI cZ a (sr (sr (sr M 5 (N 5)) 13 (N 13)) 15 (N 15))) → va_S A s.heap H locs → W p l e (headSpec wsX6_give ({ frames := 1, cells := 0, slots := 0, locals := 40 } : Room)).room s m ([.ref (a 0), .int a1, .int a2] : List Value).toArray below meth c H locs 0 0 (MQ below (va_Qv (S := Unit) (fun _ => True) (fun _ t => WE (dC, dI) cI cZ (wX6 cI cZ a (sr (sr (sr M 5 (z 5)) 13 (z 13)) 15 (z 15))) A t) A) ([.ref (a 0), .int a1, .int a2] : List Value).toArray s 0 0 A) (F0 m 2 ls []) := by
    intro n
    induction n with
    | zero =>
      intro kx83 hkx83 N l1 l2 l3 hf ls hl H locs hP hD hS
      rw [fX6_give_L2] at hf
      cases hf
    | succ n ih =>
      intro kx83 hkx83 N l1 l2 l3 hf ls hl H locs hP hD hS
      rw [fX6_give_L2] at hf
      refine lv_iload_n hx hb dX6_give_2 rfl (lv_at hl 3 rfl) ?_
      refine lv_bipush (v := (10 : Int32)) hx hb dX6_give_3 (by decide) ?_
      refine lv_icmp_ge (tgt := 83) hx hb dX6_give_5 (by decide) (fun c9 => ?_) (fun c9 => ?_)
      · have hf := it_t hf c9
        exact hkx83 (sr (sr (sr M 5 (N 5)) 13 (N 13)) 15 (N 15)) hf _ (lv_sub hl [] rfl) _ _ hP hD hS
      · have hf := it_f hf c9
        refine lv_aload_n hx hb dX6_give_8 rfl (lv_at hl 0 rfl) ?_
        refine va_get (D := (dC, dI)) (ci := 6) (v := .ref (a 1)) (C := RX6) (T := TX6) (N := 5) hx hb hts hinX6 hown hK hP 0 rfl rfl 0 (by decide) hw1 (fun _ h9 => h9) rfl dX6_give_9 ?_
        refine lv_iload_n hx hb dX6_give_12 rfl (lv_at hl 1 rfl) ?_
        refine lv_iload_n hx hb dX6_give_13 rfl (lv_at hl 3 rfl) ?_
        obtain ⟨r14, hc14, hf⟩ := bi_s hf
        have hPc := hP.sub (ws' := (wX7 cI cZ (ofs 1 a) (ofs 1 (sr (sr (sr M 5 (N 5)) 13 (N 13)) 15 (N 15))))) [1, 2, 3, 4, 5] rfl
        refine cRO (va_Run.run (va_runVN (As := [.int l1, .int l3]) (rest := []) ⟨hx, hb, hml, hown, hts⟩ (c_X7_countIn l dC dI cI cZ (ofs 1 a) (ofs 1 (sr (sr (sr M 5 (N 5)) 13 (N 13)) 15 (N 15))) l1 l3 r14 hc14) ⟨va_cnB 2 hts gX6_give_X7_countIn_n56 rfl rfl rfl (nw91 hNW) hw2 (by decide +kernel) ⟨Nat.le_of_ble_eq_true rfl, Nat.le_of_ble_eq_true rfl⟩, hw3, hw4⟩ ⟨RO.blind, va_recv hK hP (ci := 7) (q0 := 1) rfl rfl, RO.pre hPc hK hNW⟩ rfl rfl hl.1 rfl (lv_room (Nat.le_of_ble_eq_true rfl)) dX6_give_14 ⟨Nat.le_of_ble_eq_true rfl, Nat.le_of_ble_eq_true rfl⟩)) ?_
        refine lv_aload_n hx hb dX6_give_17 rfl (lv_at hl 0 rfl) ?_
        refine va_get (D := (dC, dI)) (ci := 6) (v := .ref (a 14)) (C := RX6) (T := TX6) (N := 5) hx hb hts hinX6 hown hK hP 0 rfl rfl 3 (by decide) hw5 (fun _ h9 => h9) rfl dX6_give_18 ?_
        refine lv_iload_n hx hb dX6_give_21 rfl (lv_at hl 2 rfl) ?_
        refine lv_iload_n hx hb dX6_give_22 rfl (lv_at hl 3 rfl) ?_
        obtain ⟨r23, hc23, hf⟩ := bi_s hf
        have hPc := hP.sub (ws' := (wX3 cI cZ (ofs 14 a) (ofs 14 (sr (sr (sr M 5 (N 5)) 13 (N 13)) 15 (N 15))))) [14, 15] rfl
        refine cRO (va_Run.run (va_runVN (As := [.int l2, .int l3]) (rest := [.int r14]) ⟨hx, hb, hml, hown, hts⟩ (c_X3_wantedOf l dC dI cI cZ (ofs 14 a) (ofs 14 (sr (sr (sr M 5 (N 5)) 13 (N 13)) 15 (N 15))) l2 l3 r23 hc23) ⟨va_cnB 2 hts gX6_give_X3_wantedOf_n124 rfl rfl rfl (nw81 hNW) hw6 (by decide +kernel) ⟨Nat.le_of_ble_eq_true rfl, Nat.le_of_ble_eq_true rfl⟩, hw7, hw8⟩ ⟨RO.blind, va_recv hK hP (ci := 3) (q0 := 14) rfl rfl, RO.pre hPc hK hNW⟩ rfl rfl hl.1 rfl (lv_room (Nat.le_of_ble_eq_true rfl)) dX6_give_23 ⟨Nat.le_of_ble_eq_true rfl, Nat.le_of_ble_eq_true rfl⟩)) ?_
        refine va_mmin hx hb (hml.trans hl.1.symm) hown hw9 hw10 hw11 hw12 (Nat.le_of_ble_eq_true rfl) (Nat.le_of_ble_eq_true rfl) (Nat.le_of_ble_eq_true rfl) (Nat.le_of_ble_eq_true rfl) dX6_give_26 ?_
        refine lv_istore (lv' := [(4, .int (if r23 < r14 then r23 else r14)), (0, .ref (a 0)), (1, .int l1), (2, .int l2), (3, .int l3)]) hx hb dX6_give_29 hl (by decide) rfl (fun ls hl => ?_)
        refine lv_aload_n hx hb dX6_give_31 rfl (lv_at hl 1 rfl) ?_
        refine va_get (D := (dC, dI)) (ci := 6) (v := .ref (a 1)) (C := RX6) (T := TX6) (N := 5) hx hb hts hinX6 hown hK hP 0 rfl rfl 0 (by decide) hw1 (fun _ h9 => h9) rfl dX6_give_32 ?_
        refine lv_iload_n hx hb dX6_give_35 rfl (lv_at hl 2 rfl) ?_
        refine lv_iload_n hx hb dX6_give_36 rfl (lv_at hl 4 rfl) ?_
        refine lv_iload hx hb dX6_give_37 (lv_at hl 0 rfl) ?_
        refine lv_ineg hx hb dX6_give_39 ?_
        obtain ⟨r40, hc40, hf⟩ := bi_s hf
        have hPc := hP.sub (ws' := (wX7 cI cZ (ofs 1 a) (ofs 1 (sr (sr (sr M 5 (N 5)) 13 (N 13)) 15 (N 15))))) [1, 2, 3, 4, 5] rfl
        have hDc := hD.sub (ws' := (wX7 cI cZ (ofs 1 a) (ofs 1 (sr (sr (sr M 5 (N 5)) 13 (N 13)) 15 (N 15))))) [1, 2, 3, 4, 5] (by decide) rfl
        have hFc := va_free (wc := (wX7 cI cZ (ofs 1 a) (ofs 1 (sr (sr (sr M 5 (N 5)) 13 (N 13)) 15 (N 15))))) hD hS hA [1, 2, 3, 4, 5] rfl
        refine va_calli (va_runVN (As := [.int l1, .int l3, .int (-(if r23 < r14 then r23 else r14))]) (rest := []) ⟨hx, hb, hml, hown, hts⟩ (c_X7_change l dC dI cI cZ (ofs 1 a) H.size (ofs 1 (sr (sr (sr M 5 (N 5)) 13 (N 13)) 15 (N 15))) l1 l3 (-(if r23 < r14 then r23 else r14)) r40 hc40) ⟨va_cnB 3 hts gX6_give_X7_change_n138 rfl rfl rfl (nw82 hNW) hw2 (by decide +kernel) ⟨Nat.le_of_ble_eq_true rfl, Nat.le_of_ble_eq_true rfl⟩, hw13, hw14⟩ ⟨WR.blind, va_recv hK hP (ci := 7) (q0 := 1) rfl rfl, WR.pre hPc hK hDc hNW⟩ rfl rfl hl.1 rfl (lv_room (Nat.le_of_ble_eq_true rfl)) dX6_give_40 ⟨Nat.le_of_ble_eq_true rfl, Nat.le_of_ble_eq_true rfl⟩) hS (fun q _ h => hFc q h) hFc (fun rv u t H1 locs ht hvm hw hB hz1 hk1 hS => ?_)
        obtain ⟨hP1, hD1⟩ := hB
        rw [ht] at hP1
        subst hw
        obtain ⟨hP, hD⟩ := va_join (wr := [(a 0, .inr (6, [.ref (a 1), .ref (a 6), .ref (a 9), .ref (a 14), .int (M 0 4)])), (a 6, .inr (2, [.int (M 6 0), .int (M 6 1), .int (M 6 2), .int (M 6 3), .int (M 6 4), .ref (a 7), .ref (a 8)])), (a 7, .inl (cI, 8, .inl (M 7))), (a 8, .inl (cZ, 8, .inl (M 8))), (a 9, .inr (0, [.ref (a 10), .ref (a 11), .ref (a 12), .ref (a 13)])), (a 10, .inl (cI, 10, .inl (M 10))), (a 11, .inl (cI, 10, .inl (M 11))), (a 12, .inl (cI, 10, .inl (M 12))), (a 13, .inl (cI, 10, .inl (N 13))), (a 14, .inr (3, [.int (M 14 0), .ref (a 15)])), (a 15, .inl (cI, 80, .inl (N 15)))]) (w1 := (wX7 cI cZ (ofs 1 a) (sr (ofs 1 (sr (sr (sr M 5 (N 5)) 13 (N 13)) 15 (N 15))) 4 (r40.2 4)))) hP hD [1, 2, 3, 4, 5] [0, 6, 7, 8, 9, 10, 11, 12, 13, 14, 15] rfl rfl (by decide) (by decide) hk1 hFc hP1 hD1
        have hP := hP.sub (ws' := (wX6 cI cZ a (sr (sr (sr M 5 (r40.2 4)) 13 (N 13)) 15 (N 15)))) [0, 11, 12, 13, 14, 15, 1, 2, 3, 4, 5, 6, 7, 8, 9, 10] rfl
        have hD := hD.sub (ws' := (wX6 cI cZ a (sr (sr (sr M 5 (r40.2 4)) 13 (N 13)) 15 (N 15)))) [0, 11, 12, 13, 14, 15, 1, 2, 3, 4, 5, 6, 7, 8, 9, 10] (by decide) rfl
        generalize H1 = H at hP hS ⊢
        refine lv_pop hx hb dX6_give_43 rfl ?_
        refine lv_aload_n hx hb dX6_give_44 rfl (lv_at hl 1 rfl) ?_
        refine va_get (D := (dC, dI)) (ci := 6) (v := .ref (a 14)) (C := RX6) (T := TX6) (N := 5) hx hb hts hinX6 hown hK hP 0 rfl rfl 3 (by decide) hw5 (fun _ h9 => h9) rfl dX6_give_45 ?_
        refine va_getN (D := (dC, dI)) (ci := 3) (v := .ref (a 15)) (C := RX3) (T := TX3) (N := 2) hx hb hts hinX3 hown hK hP 14 rfl rfl 1 (by decide) (nw30 hNW) (fun _ h9 => h9) rfl dX6_give_48 ?_
        refine lv_iload_n hx hb dX6_give_51 rfl (lv_at hl 3 rfl) ?_
        refine lv_bipush (v := (10 : Int32)) hx hb dX6_give_52 (by decide) ?_
        refine lv_imul hx hb dX6_give_54 ?_
        refine lv_iload_n hx hb dX6_give_55 rfl (lv_at hl 4 rfl) ?_
        refine lv_iadd hx hb dX6_give_56 ?_
        refine lv_dup2_11 hx hb dX6_give_57 rfl rfl ?_
        obtain ⟨hi, hf⟩ := gd_s hf
        refine va_iald (D := (dC, dI)) (f := (N 15)) hx hb hK hP 15 0 rfl rfl (inb_in hi) dX6_give_58 ?_
        refine lv_iload hx hb dX6_give_59 (lv_at hl 0 rfl) ?_
        refine lv_isub hx hb dX6_give_61 ?_
        obtain ⟨hi, hf⟩ := gd_s hf
        refine va_iast (D := (dC, dI)) (f := (N 15)) hx hb hK hP hD hS 15 0 rfl rfl (inb_in hi) dX6_give_62 (fun H locs hP hD hS => ?_)
        have hP : va_P (dC, dI) vwCl (wX6 cI cZ a (sr (sr (sr M 5 (r40.2 4)) 13 (N 13)) 15 (upd (N 15) ((l2 * (10 : Int32)) + l3).toNatClampNeg ((N 15 ((l2 * (10 : Int32)) + l3).toNatClampNeg) - (if r23 < r14 then r23 else r14))))) H := hP
        have hD : va_D A (wX6 cI cZ a (sr (sr (sr M 5 (r40.2 4)) 13 (N 13)) 15 (upd (N 15) ((l2 * (10 : Int32)) + l3).toNatClampNeg ((N 15 ((l2 * (10 : Int32)) + l3).toNatClampNeg) - (if r23 < r14 then r23 else r14))))) := hD
        refine lv_aload_n hx hb dX6_give_63 rfl (lv_at hl 1 rfl) ?_
        refine va_get (D := (dC, dI)) (ci := 6) (v := .ref (a 9)) (C := RX6) (T := TX6) (N := 5) hx hb hts hinX6 hown hK hP 0 rfl rfl 2 (by decide) hw16 (fun _ h9 => h9) rfl dX6_give_64 ?_
        refine va_getN (D := (dC, dI)) (ci := 0) (v := .ref (a 13)) (C := RX0) (T := TX0) (N := 4) hx hb hts hinX0 hown hK hP 9 rfl rfl 3 (by decide) (nw31 hNW) (fun _ h9 => h9) rfl dX6_give_67 ?_
        refine lv_iload_n hx hb dX6_give_70 rfl (lv_at hl 4 rfl) ?_
        refine lv_dup2_11 hx hb dX6_give_71 rfl rfl ?_
        obtain ⟨hi, hf⟩ := gd_s hf
        refine va_iald (D := (dC, dI)) (f := (N 13)) hx hb hK hP 13 0 rfl rfl (inb_in hi) dX6_give_72 ?_
        refine lv_iload hx hb dX6_give_73 (lv_at hl 0 rfl) ?_
        refine lv_iadd hx hb dX6_give_75 ?_
        obtain ⟨hi, hf⟩ := gd_s hf
        refine va_iast (D := (dC, dI)) (f := (N 13)) hx hb hK hP hD hS 13 0 rfl rfl (inb_in hi) dX6_give_76 (fun H locs hP hD hS => ?_)
        have hP : va_P (dC, dI) vwCl (wX6 cI cZ a (sr (sr (sr M 5 (r40.2 4)) 13 (upd (N 13) l3.toNatClampNeg ((N 13 l3.toNatClampNeg) + (if r23 < r14 then r23 else r14)))) 15 (upd (N 15) ((l2 * (10 : Int32)) + l3).toNatClampNeg ((N 15 ((l2 * (10 : Int32)) + l3).toNatClampNeg) - (if r23 < r14 then r23 else r14))))) H := hP
        have hD : va_D A (wX6 cI cZ a (sr (sr (sr M 5 (r40.2 4)) 13 (upd (N 13) l3.toNatClampNeg ((N 13 l3.toNatClampNeg) + (if r23 < r14 then r23 else r14)))) 15 (upd (N 15) ((l2 * (10 : Int32)) + l3).toNatClampNeg ((N 15 ((l2 * (10 : Int32)) + l3).toNatClampNeg) - (if r23 < r14 then r23 else r14))))) := hD
        refine lv_iinc (v := (l3 + (1 : Int32))) (lv' := [(3, .int (l3 + (1 : Int32))), (4, .int (if r23 < r14 then r23 else r14)), (0, .ref (a 0)), (1, .int l1), (2, .int l2)]) hx hb dX6_give_77 hl (k := 4) rfl rfl (by decide) rfl (fun ls hl => ?_)
        refine lv_goto (tgt := 2) hx hb dX6_give_80 (by decide) ?_
        exact ih kx83 hkx83 (sr (sr (sr M 5 (r40.2 4)) 13 (upd (N 13) l3.toNatClampNeg ((N 13 l3.toNatClampNeg) + (if r23 < r14 then r23 else r14)))) 15 (upd (N 15) ((l2 * (10 : Int32)) + l3).toNatClampNeg ((N 15 ((l2 * (10 : Int32)) + l3).toNatClampNeg) - (if r23 < r14 then r23 else r14)))) l1 l2 (l3 + (1 : Int32)) hf _ (lv_sub hl [2, 3, 4, 0] rfl) _ _ hP hD hS
  have hl := lv_entry ([.ref (a 0), .int a1, .int a2]) (n := 5) (Nat.le_of_ble_eq_true rfl)
  rw [lg_entry_eq]
  generalize (lg_sl ([.ref (a 0), .int a1, .int a2]) ++ List.replicate (5 - (lg_sl ([.ref (a 0), .int a1, .int a2])).length) Slot.unset).toArray = ls at hl ⊢
  have hl : lv_has ls 5 [(0, .ref (a 0)), (1, .int a1), (2, .int a2)] := hl
  unfold fX6_give at hf
  suffices hgo : ∀ (H : Heap) (locs : List Loc), va_P (dC, dI) vwCl (wX6 cI cZ a M) H → va_D A (wX6 cI cZ a M) → va_S A s.heap H locs → W p l e (headSpec wsX6_give ({ frames := 1, cells := 0, slots := 0, locals := 40 } : Room)).room s m ([.ref (a 0), .int a1, .int a2] : List Value).toArray below meth c H locs 0 0 (MQ below (va_Qv (S := Unit) (fun _ => True) (fun _ t => WE (dC, dI) cI cZ (wX6 cI cZ a (sr (sr (sr M 5 (z 5)) 13 (z 13)) 15 (z 15))) A t) A) ([.ref (a 0), .int a1, .int a2] : List Value).toArray s 0 0 A) (F0 m 0 ls []) from hgo _ _ hP hD hS
  intro H locs hP hD hS
  refine lv_iconst (v := (0 : Int32)) hx hb dX6_give_0 (by decide) ?_
  refine lv_istore_n (lv' := [(3, .int (0 : Int32)), (0, .ref (a 0)), (1, .int a1), (2, .int a2)]) hx hb dX6_give_1 rfl hl (by decide) rfl (fun ls hl => ?_)
  refine hfX6_give_L2 5000 _ (fun N hf ls hl H locs hP hD hS => ?_) M a1 a2 (0 : Int32) hf _ (lv_sub hl [1, 2, 3, 0] rfl) _ _ hP hD hS
  have e9 := so_e hf
  subst e9
  exact W.vret hx hb hr (fun t ht hW => ⟨⟨(), rfl, trivial, WE.mk hP hD ht⟩, hS.F ht⟩) hS.2.2 dX6_give_83
set_option maxHeartbeats 4000000 in
set_option maxRecDepth 100000 in
theorem c_X6_serveOne (l : Launch) (dC : Nat → ClassId) (dI : Nat → Nat → Nat) (cI cZ : ClassId) (a : Nat → Nat) (sz : Nat) (M : Mem) (a1 : Int32) (z : Int32 × Mem) (hf : fX6_serveOne M a1 = some z) : Met l yX6_serveOne wsX6_serveOne ({ frames := 4, cells := 0, slots := 0, locals := 109 } : Room) (va_Pc [.ref (a 0), .int a1] (WR (dC, dI) cI cZ (wX6 cI cZ a M) sz)) (va_Qi (S := Unit) (fun r _ => r = z.1) (fun _ t => WE (dC, dI) cI cZ (wX6 cI cZ a (sr (sr (sr (sr (sr (sr (sr (sr (sr (sr (sr M 0 (z.2 0)) 1 (z.2 1)) 3 (z.2 3)) 4 (z.2 4)) 5 (z.2 5)) 6 (z.2 6)) 7 (z.2 7)) 8 (z.2 8)) 13 (z.2 13)) 14 (z.2 14)) 15 (z.2 15))) (va_A (wX6 cI cZ a M) sz) t) (va_A (wX6 cI cZ a M) sz)) 0 0 (va_A (wX6 cI cZ a M) sz) := by
  refine Met.ofW (cc := cX6_serveOne) (maxL := 5) (ret := (some .int)) (by decide) rfl ?_
  intro p e s m args below meth c s₁ B hml hv
  obtain ⟨rfl, hsz, hP, hK, hD0, hNW⟩ := hv
  have hx := B.exec
  have hb := B.bytes
  have hr := B.returns
  have hts := atoms_spec (ws := wsX6_serveOne) B.pre
  have hown : s.vm.findClass RX6 = some m.cls := findClass_of_methodNamed B.named
  have hlocks := B.notSynchronized
  have hinX6 : ∀ w ∈ u_ws RX6 TX6 5, w ∈ wsX6_serveOne := by decide +kernel
  have hw1 := hts (.fieldLink RX6 21 "GlideShelves$State" "lift" "LGlideShelves$Lift;") (by decide +kernel)
  have hinX2 : ∀ w ∈ u_ws RX2 TX2 7, w ∈ wsX6_serveOne := by decide +kernel
  have hw3 := hts (.fieldLink RX6 12 "GlideShelves$State" "tower" "LGlideShelves$Tower;") (by decide +kernel)
  have hinX7 : ∀ w ∈ u_ws RX7 TX7 6, w ∈ wsX6_serveOne := by decide +kernel
  have hw5 := hts (.fieldLink RX6 35 "GlideShelves$State" "book" "LGlideShelves$OrderBook;") (by decide +kernel)
  have hw6 := hts (.initialized RX3) (by decide +kernel)
  have hw7 := hts (.instanceMethod yX3_remove) (by decide +kernel)
  have hw8 := hts (.selects RX3 yX3_remove yX3_remove) (by decide +kernel)
  have hw9 := hts (.fieldLink RX6 39 "GlideShelves$State" "servedOrders" "I") (by decide +kernel)
  subst hsz
  have hD := hD0.self (sz := s.heap.size)
  generalize hAe : va_A (wX6 cI cZ a M) s.heap.size = A at hD ⊢
  have hA : ∀ q : Nat, s.heap.size ≤ q → A q := fun q h => by rw [← hAe]; exact Or.inr h
  have hS : va_S A s.heap s.heap [] := va_S.rf
  have hfX6_serveOne_B57 : ∀ (kb : Mem → Int32 → Int32 → Int32 → Int32 → Option (Int32 × Mem)) (hkb : ∀ (N : Mem) (l1 : Int32) (l2 : Int32) (l3 : Int32) (l4 : Int32), kb N l1 l2 l3 l4 = some z → ∀ (ls : Array Slot), lv_has ls 5 [(0, .ref (a 0)), (1, .int l1), (2, .int l2), (3, .int l3), (4, .int l4)] → ∀ (H : Heap) (locs : List Loc), va_P (dC, dI) vwCl (wX6 cI cZ a (sr (sr (sr (sr (sr (sr (sr (sr (sr (sr (sr M 0 (N 0)) 1 (N 1)) 3 (N 3)) 4 (N 4)) 5 (N 5)) 6 (N 6)) 7 (N 7)) 8 (N 8)) 13 (N 13)) 14 (N 14)) 15 (N 15))) H → va_D A (wX6 cI cZ a (sr (sr (sr (sr (sr (sr (sr (sr (sr (sr (sr M 0 (N 0)) 1 (N 1)) 3 (N 3)) 4 (N 4)) 5 (N 5)) 6 (N 6)) 7 (N 7)) 8 (N 8)) 13 (N 13)) 14 (N 14)) 15 (N 15))) → va_S A s.heap H locs → W p l e (headSpec wsX6_serveOne ({ frames := 4, cells := 0, slots := 0, locals := 109 } : Room)).room s m ([.ref (a 0), .int a1] : List Value).toArray below meth c H locs 0 0 (MQ below (va_Qi (S := Unit) (fun r _ => r = z.1) (fun _ t => WE (dC, dI) cI cZ (wX6 cI cZ a (sr (sr (sr (sr (sr (sr (sr (sr (sr (sr (sr M 0 (z.2 0)) 1 (z.2 1)) 3 (z.2 3)) 4 (z.2 4)) 5 (z.2 5)) 6 (z.2 6)) 7 (z.2 7)) 8 (z.2 8)) 13 (z.2 13)) 14 (z.2 14)) 15 (z.2 15))) A t) A) ([.ref (a 0), .int a1] : List Value).toArray s 0 0 A) (F0 m 17 ls [])) (kx63 : Mem → Int32 → Int32 → Option (Int32 × Mem)) (hkx63 : ∀ (N : Mem) (l1 : Int32) (l2 : Int32), kx63 N l1 l2 = some z → ∀ (ls : Array Slot), lv_has ls 5 [(0, .ref (a 0)), (1, .int l1), (2, .int l2)] → ∀ (H : Heap) (locs : List Loc), va_P (dC, dI) vwCl (wX6 cI cZ a (sr (sr (sr (sr (sr (sr (sr (sr (sr (sr (sr M 0 (N 0)) 1 (N 1)) 3 (N 3)) 4 (N 4)) 5 (N 5)) 6 (N 6)) 7 (N 7)) 8 (N 8)) 13 (N 13)) 14 (N 14)) 15 (N 15))) H → va_D A (wX6 cI cZ a (sr (sr (sr (sr (sr (sr (sr (sr (sr (sr (sr M 0 (N 0)) 1 (N 1)) 3 (N 3)) 4 (N 4)) 5 (N 5)) 6 (N 6)) 7 (N 7)) 8 (N 8)) 13 (N 13)) 14 (N 14)) 15 (N 15))) → va_S A s.heap H locs → W p l e (headSpec wsX6_serveOne ({ frames := 4, cells := 0, slots := 0, locals := 109 } : Room)).room s m ([.ref (a 0), .int a1] : List Value).toArray below meth c H locs 0 0 (MQ below (va_Qi (S := Unit) (fun r _ => r = z.1) (fun _ t => WE (dC, dI) cI cZ (wX6 cI cZ a (sr (sr (sr (sr (sr (sr (sr (sr (sr (sr (sr M 0 (z.2 0)) 1 (z.2 1)) 3 (z.2 3)) 4 (z.2 4)) 5 (z.2 5)) 6 (z.2 6)) 7 (z.2 7)) 8 (z.2 8)) 13 (z.2 13)) 14 (z.2 14)) 15 (z.2 15))) A t) A) ([.ref (a 0), .int a1] : List Value).toArray s 0 0 A) (F0 m 63 ls [])), ∀ (N : Mem) (l1 : Int32) (l2 : Int32) (l3 : Int32) (l4 : Int32), fX6_serveOne_B57 M kb kx63 N l1 l2 l3 l4 = some z → ∀ (ls : Array Slot), lv_has ls 5 [(0, .ref (a 0)), (1, .int l1), (2, .int l2), (3, .int l3), (4, .int l4)] → ∀ (H : Heap) (locs : List Loc), va_P (dC, dI) vwCl (wX6 cI cZ a (sr (sr (sr (sr (sr (sr (sr (sr (sr (sr (sr M 0 (N 0)) 1 (N 1)) 3 (N 3)) 4 (N 4)) 5 (N 5)) 6 (N 6)) 7 (N 7)) 8 (N 8)) 13 (N 13)) 14 (N 14)) 15 (N 15))) H → va_D A (wX6 cI cZ a (sr (sr (sr (sr (sr (sr (sr (sr (sr (sr (sr M 0 (N 0)) 1 (N 1)) 3 (N 3)) 4 (N 4)) 5 (N 5)) 6 (N 6)) 7 (N 7)) 8 (N 8)) 13 (N 13)) 14 (N 14)) 15 (N 15))) → va_S A s.heap H locs → W p l e (headSpec wsX6_serveOne ({ frames := 4, cells := 0, slots := 0, locals := 109 } : Room)).room s m ([.ref (a 0), .int a1] : List Value).toArray below meth c H locs 0 0 (MQ below (va_Qi (S := Unit) (fun r _ => r = z.1) (fun _ t => WE (dC, dI) cI cZ (wX6 cI cZ a (sr (sr (sr (sr (sr (sr (sr (sr (sr (sr (sr M 0 (z.2 0)) 1 (z.2 1)) 3 (z.2 3)) 4 (z.2 4)) 5 (z.2 5)) 6 (z.2 6)) 7 (z.2 7)) 8 (z.2 8)) 13 (z.2 13)) 14 (z.2 14)) 15 (z.2 15))) A t) A) ([.ref (a 0), .int a1] : List Value).toArray s 0 0 A) (F0 m 57 ls []) := by
    intro kb hkb kx63 hkx63 N l1 l2 l3 l4 hf ls hl H locs hP hD hS
    unfold fX6_serveOne_B57 at hf
    refine lv_iinc (v := (l4 + (1 : Int32))) (lv' := [(4, .int (l4 + (1 : Int32))), (0, .ref (a 0)), (1, .int l1), (2, .int l2), (3, .int l3)]) hx hb dX6_serveOne_57 hl (k := 4) rfl rfl (by decide) rfl (fun ls hl => ?_)
    refine lv_goto (tgt := 17) hx hb dX6_serveOne_60 (by decide) ?_
    exact hkb (sr (sr (sr (sr (sr (sr (sr (sr (sr (sr (sr M 0 (N 0)) 1 (N 1)) 3 (N 3)) 4 (N 4)) 5 (N 5)) 6 (N 6)) 7 (N 7)) 8 (N 8)) 13 (N 13)) 14 (N 14)) 15 (N 15)) l1 l2 l3 (l4 + (1 : Int32)) hf _ (lv_sub hl [1, 2, 3, 4, 0] rfl) _ _ hP hD hS
  have hfX6_serveOne_L17 : ∀ (n : Nat) (kx63 : Mem → Int32 → Int32 → Option (Int32 × Mem)) (hkx63 : ∀ (N : Mem) (l1 : Int32) (l2 : Int32), kx63 N l1 l2 = some z → ∀ (ls : Array Slot), lv_has ls 5 [(0, .ref (a 0)), (1, .int l1), (2, .int l2)] → ∀ (H : Heap) (locs : List Loc), va_P (dC, dI) vwCl (wX6 cI cZ a (sr (sr (sr (sr (sr (sr (sr (sr (sr (sr (sr M 0 (N 0)) 1 (N 1)) 3 (N 3)) 4 (N 4)) 5 (N 5)) 6 (N 6)) 7 (N 7)) 8 (N 8)) 13 (N 13)) 14 (N 14)) 15 (N 15))) H → va_D A (wX6 cI cZ a (sr (sr (sr (sr (sr (sr (sr (sr (sr (sr (sr M 0 (N 0)) 1 (N 1)) 3 (N 3)) 4 (N 4)) 5 (N 5)) 6 (N 6)) 7 (N 7)) 8 (N 8)) 13 (N 13)) 14 (N 14)) 15 (N 15))) → va_S A s.heap H locs → W p l e (headSpec wsX6_serveOne ({ frames := 4, cells := 0, slots := 0, locals := 109 } : Room)).room s m ([.ref (a 0), .int a1] : List Value).toArray below meth c H locs 0 0 (MQ below (va_Qi (S := Unit) (fun r _ => r = z.1) (fun _ t => WE (dC, dI) cI cZ (wX6 cI cZ a (sr (sr (sr (sr (sr (sr (sr (sr (sr (sr (sr M 0 (z.2 0)) 1 (z.2 1)) 3 (z.2 3)) 4 (z.2 4)) 5 (z.2 5)) 6 (z.2 6)) 7 (z.2 7)) 8 (z.2 8)) 13 (z.2 13)) 14 (z.2 14)) 15 (z.2 15))) A t) A) ([.ref (a 0), .int a1] : List Value).toArray s 0 0 A) (F0 m 63 ls [])), ∀ (N : Mem) (l1 : Int32) (l2 : Int32) (l3 : Int32) (l4 : Int32), fX6_serveOne_L17 M n kx63 N l1 l2 l3 l4 = some z → ∀ (ls : Array Slot), lv_has ls 5 [(0, .ref (a 0)), (1, .int l1), (2, .int l2), (3, .int l3), (4, .int l4)] → ∀ (H : Heap) (locs : List Loc), va_P (dC, dI) vwCl (wX6 cI cZ a (sr (sr (sr (sr (sr (sr (sr (sr (sr (sr (sr M 0 (N 0)) 1 (N 1)) 3 (N 3)) 4 (N 4)) 5 (N 5)) 6 (N 6)) 7 (N 7)) 8 (N 8)) 13 (N 13)) 14 (N 14)) 15 (N 15))) H → va_D A (wX6 cI cZ a (sr (sr (sr (sr (sr (sr (sr (sr (sr (sr (sr M 0 (N 0)) 1 (N 1)) 3 (N 3)) 4 (N 4)) 5 (N 5)) 6 (N 6)) 7 (N 7)) 8 (N 8)) 13 (N 13)) 14 (N 14)) 15 (N 15))) → va_S A s.heap H locs → W p l e (headSpec wsX6_serveOne ({ frames := 4, cells := 0, slots := 0, locals := 109 } : Room)).room s m ([.ref (a 0), .int a1] : List Value).toArray below meth c H locs 0 0 (MQ below (va_Qi (S := Unit) (fun r _ => r = z.1) (fun _ t => WE (dC, dI) cI cZ (wX6 cI cZ a (sr (sr (sr (sr (sr (sr (sr (sr (sr (sr (sr M 0 (z.2 0)) 1 (z.2 1)) 3 (z.2 3)) 4 (z.2 4)) 5 (z.2 5)) 6 (z.2 6)) 7 (z.2 7)) 8 (z.2 8)) 13 (z.2 13)) 14 (z.2 14)) 15 (z.2 15))) A t) A) ([.ref (a 0), .int a1] : List Value).toArray s 0 0 A) (F0 m 17 ls []) := by
    intro n
    induction n with
    | zero =>
      intro kx63 hkx63 N l1 l2 l3 l4 hf ls hl H locs hP hD hS
      rw [fX6_serveOne_L17] at hf
      cases hf
    | succ n ih =>
      intro kx63 hkx63 N l1 l2 l3 l4 hf ls hl H locs hP hD hS
      rw [fX6_serveOne_L17] at hf
      refine lv_iload hx hb dX6_serveOne_17 (lv_at hl 4 rfl) ?_
      refine lv_aload_n hx hb dX6_serveOne_19 rfl (lv_at hl 0 rfl) ?_
      refine va_get (D := (dC, dI)) (ci := 6) (v := .ref (a 1)) (C := RX6) (T := TX6) (N := 5) hx hb hts hinX6 hown hK hP 0 rfl rfl 0 (by decide) hw3 (fun _ h9 => h9) rfl dX6_serveOne_20 ?_
      refine va_getN (D := (dC, dI)) (ci := 7) (v := .int (N 1 0)) (C := RX7) (T := TX7) (N := 6) hx hb hts hinX7 hown hK hP 1 rfl rfl 0 (by decide) (nw35 hNW) (fun _ h9 => h9) rfl dX6_serveOne_23 ?_
      refine lv_icmp_ge (tgt := 63) hx hb dX6_serveOne_26 (by decide) (fun c9 => ?_) (fun c9 => ?_)
      · have hf := it_t hf c9
        exact hkx63 (sr (sr (sr (sr (sr (sr (sr (sr (sr (sr (sr M 0 (N 0)) 1 (N 1)) 3 (N 3)) 4 (N 4)) 5 (N 5)) 6 (N 6)) 7 (N 7)) 8 (N 8)) 13 (N 13)) 14 (N 14)) 15 (N 15)) l1 l2 hf _ (lv_sub hl [0, 1, 2] rfl) _ _ hP hD hS
      · have hf := it_f hf c9
        refine lv_iload_n hx hb dX6_serveOne_29 rfl (lv_at hl 3 rfl) ?_
        refine lv_iload hx hb dX6_serveOne_30 (lv_at hl 4 rfl) ?_
        refine lv_ishr hx hb dX6_serveOne_32 ?_
        refine lv_iconst (v := (1 : Int32)) hx hb dX6_serveOne_33 (by decide) ?_
        refine lv_iand hx hb dX6_serveOne_34 ?_
        refine lv_if_eq (tgt := 57) hx hb dX6_serveOne_35 (by decide) (fun c9 => ?_) (fun c9 => ?_)
        · have hf := it_t hf c9
          exact hfX6_serveOne_B57 _ (ih kx63 hkx63) _ hkx63 (sr (sr (sr (sr (sr (sr (sr (sr (sr (sr (sr M 0 (N 0)) 1 (N 1)) 3 (N 3)) 4 (N 4)) 5 (N 5)) 6 (N 6)) 7 (N 7)) 8 (N 8)) 13 (N 13)) 14 (N 14)) 15 (N 15)) l1 l2 l3 l4 hf _ (lv_sub hl [0, 1, 2, 3, 4] rfl) _ _ hP hD hS
        · have hf := it_f hf c9
          refine lv_aload_n hx hb dX6_serveOne_38 rfl (lv_at hl 0 rfl) ?_
          refine lv_iload hx hb dX6_serveOne_39 (lv_at hl 4 rfl) ?_
          obtain ⟨r41, hc41, hf⟩ := bi_s hf
          have hPc := hP
          have hDc := hD
          have hFc := va_free (wc := (wX6 cI cZ a (sr (sr (sr (sr (sr (sr (sr (sr (sr (sr (sr M 0 (N 0)) 1 (N 1)) 3 (N 3)) 4 (N 4)) 5 (N 5)) 6 (N 6)) 7 (N 7)) 8 (N 8)) 13 (N 13)) 14 (N 14)) 15 (N 15)))) hD hS hA [0, 1, 2, 3, 4, 5, 6, 7, 8, 9, 10, 11, 12, 13, 14, 15] rfl
          refine va_calli (va_runV (As := [.int l4]) (rest := []) ⟨hx, hb, hml, hown, hts⟩ (c_X6_bring l dC dI cI cZ a H.size (sr (sr (sr (sr (sr (sr (sr (sr (sr (sr (sr M 0 (N 0)) 1 (N 1)) 3 (N 3)) 4 (N 4)) 5 (N 5)) 6 (N 6)) 7 (N 7)) 8 (N 8)) 13 (N 13)) 14 (N 14)) 15 (N 15)) l4 r41 hc41) (cwV 1 hts gX6_serveOne_X6_bring rfl rfl rfl (by decide +kernel) ⟨Nat.le_of_ble_eq_true rfl, Nat.le_of_ble_eq_true rfl⟩) ⟨WR.blind, va_recv hK hP (ci := 6) (q0 := 0) rfl rfl, WR.pre hPc hK hDc hNW⟩ rfl rfl hl.1 rfl (lv_room (Nat.le_of_ble_eq_true rfl)) dX6_serveOne_41 ⟨Nat.le_of_ble_eq_true rfl, Nat.le_of_ble_eq_true rfl⟩) hS (fun q _ h => hFc q h) hFc (fun rv u t H1 locs ht hvm hw hB hz1 hk1 hS => ?_)
          obtain ⟨hP1, hD1⟩ := hB
          rw [ht] at hP1
          subst hw
          have hP := hP1
          have hD := hD1.weaken (fun k q _ h => hFc q.1 h)
          have hP : va_P (dC, dI) vwCl (wX6 cI cZ a (sr (sr (sr (sr (sr (sr (sr (sr (sr (sr (sr M 0 (N 0)) 1 (r41.2 1)) 3 (N 3)) 4 (r41.2 4)) 5 (N 5)) 6 (r41.2 6)) 7 (r41.2 7)) 8 (r41.2 8)) 13 (N 13)) 14 (N 14)) 15 (N 15))) H1 := hP
          have hD : va_D A (wX6 cI cZ a (sr (sr (sr (sr (sr (sr (sr (sr (sr (sr (sr M 0 (N 0)) 1 (r41.2 1)) 3 (N 3)) 4 (r41.2 4)) 5 (N 5)) 6 (r41.2 6)) 7 (r41.2 7)) 8 (r41.2 8)) 13 (N 13)) 14 (N 14)) 15 (N 15))) := hD
          generalize H1 = H at hP hS ⊢
          refine lv_pop hx hb dX6_serveOne_44 rfl ?_
          refine lv_aload_n hx hb dX6_serveOne_45 rfl (lv_at hl 0 rfl) ?_
          refine lv_iload hx hb dX6_serveOne_46 (lv_at hl 4 rfl) ?_
          refine lv_iload_n hx hb dX6_serveOne_48 rfl (lv_at hl 1 rfl) ?_
          obtain ⟨r49, hc49, hf⟩ := bi_s hf
          have hPc := hP
          have hDc := hD
          have hFc := va_free (wc := (wX6 cI cZ a (sr (sr (sr (sr (sr (sr (sr (sr (sr (sr (sr M 0 (N 0)) 1 (r41.2 1)) 3 (N 3)) 4 (r41.2 4)) 5 (N 5)) 6 (r41.2 6)) 7 (r41.2 7)) 8 (r41.2 8)) 13 (N 13)) 14 (N 14)) 15 (N 15)))) hD hS hA [0, 1, 2, 3, 4, 5, 6, 7, 8, 9, 10, 11, 12, 13, 14, 15] rfl
          refine va_callv (va_runV (As := [.int l4, .int l1]) (rest := []) ⟨hx, hb, hml, hown, hts⟩ (c_X6_give l dC dI cI cZ a H.size (sr (sr (sr (sr (sr (sr (sr (sr (sr (sr (sr M 0 (N 0)) 1 (r41.2 1)) 3 (N 3)) 4 (r41.2 4)) 5 (N 5)) 6 (r41.2 6)) 7 (r41.2 7)) 8 (r41.2 8)) 13 (N 13)) 14 (N 14)) 15 (N 15)) l4 l1 r49 hc49) (cwV 2 hts gX6_serveOne_X6_give rfl rfl rfl (by decide +kernel) ⟨Nat.le_of_ble_eq_true rfl, Nat.le_of_ble_eq_true rfl⟩) ⟨WR.blind, va_recv hK hP (ci := 6) (q0 := 0) rfl rfl, WR.pre hPc hK hDc hNW⟩ rfl rfl hl.1 rfl (lv_room (Nat.le_of_ble_eq_true rfl)) dX6_serveOne_49 ⟨Nat.le_of_ble_eq_true rfl, Nat.le_of_ble_eq_true rfl⟩) hS (fun q _ h => hFc q h) hFc (fun u t H1 locs ht hvm hw hB hz1 hk1 hS => ?_)
          obtain ⟨hP1, hD1⟩ := hB
          rw [ht] at hP1
          have hP := hP1
          have hD := hD1.weaken (fun k q _ h => hFc q.1 h)
          have hP : va_P (dC, dI) vwCl (wX6 cI cZ a (sr (sr (sr (sr (sr (sr (sr (sr (sr (sr (sr M 0 (N 0)) 1 (r41.2 1)) 3 (N 3)) 4 (r41.2 4)) 5 (r49 5)) 6 (r41.2 6)) 7 (r41.2 7)) 8 (r41.2 8)) 13 (r49 13)) 14 (N 14)) 15 (r49 15))) H1 := hP
          have hD : va_D A (wX6 cI cZ a (sr (sr (sr (sr (sr (sr (sr (sr (sr (sr (sr M 0 (N 0)) 1 (r41.2 1)) 3 (N 3)) 4 (r41.2 4)) 5 (r49 5)) 6 (r41.2 6)) 7 (r41.2 7)) 8 (r41.2 8)) 13 (r49 13)) 14 (N 14)) 15 (r49 15))) := hD
          generalize H1 = H at hP hS ⊢
          refine lv_aload_n hx hb dX6_serveOne_52 rfl (lv_at hl 0 rfl) ?_
          obtain ⟨r53, hc53, hf⟩ := bi_s hf
          have hPc := hP
          have hDc := hD
          have hFc := va_free (wc := (wX6 cI cZ a (sr (sr (sr (sr (sr (sr (sr (sr (sr (sr (sr M 0 (N 0)) 1 (r41.2 1)) 3 (N 3)) 4 (r41.2 4)) 5 (r49 5)) 6 (r41.2 6)) 7 (r41.2 7)) 8 (r41.2 8)) 13 (r49 13)) 14 (N 14)) 15 (r49 15)))) hD hS hA [0, 1, 2, 3, 4, 5, 6, 7, 8, 9, 10, 11, 12, 13, 14, 15] rfl
          refine va_calli (va_runV (As := []) (rest := []) ⟨hx, hb, hml, hown, hts⟩ (c_X6_putBack l dC dI cI cZ a H.size (sr (sr (sr (sr (sr (sr (sr (sr (sr (sr (sr M 0 (N 0)) 1 (r41.2 1)) 3 (N 3)) 4 (r41.2 4)) 5 (r49 5)) 6 (r41.2 6)) 7 (r41.2 7)) 8 (r41.2 8)) 13 (r49 13)) 14 (N 14)) 15 (r49 15)) r53 hc53) (cwV 0 hts gX6_serveOne_X6_putBack rfl rfl rfl (by decide +kernel) ⟨Nat.le_of_ble_eq_true rfl, Nat.le_of_ble_eq_true rfl⟩) ⟨WR.blind, va_recv hK hP (ci := 6) (q0 := 0) rfl rfl, WR.pre hPc hK hDc hNW⟩ rfl rfl hl.1 rfl (lv_room (Nat.le_of_ble_eq_true rfl)) dX6_serveOne_53 ⟨Nat.le_of_ble_eq_true rfl, Nat.le_of_ble_eq_true rfl⟩) hS (fun q _ h => hFc q h) hFc (fun rv u t H1 locs ht hvm hw hB hz1 hk1 hS => ?_)
          obtain ⟨hP1, hD1⟩ := hB
          rw [ht] at hP1
          subst hw
          have hP := hP1
          have hD := hD1.weaken (fun k q _ h => hFc q.1 h)
          have hP : va_P (dC, dI) vwCl (wX6 cI cZ a (sr (sr (sr (sr (sr (sr (sr (sr (sr (sr (sr M 0 (N 0)) 1 (r53.2 1)) 3 (r53.2 3)) 4 (r41.2 4)) 5 (r49 5)) 6 (r53.2 6)) 7 (r53.2 7)) 8 (r53.2 8)) 13 (r49 13)) 14 (N 14)) 15 (r49 15))) H1 := hP
          have hD : va_D A (wX6 cI cZ a (sr (sr (sr (sr (sr (sr (sr (sr (sr (sr (sr M 0 (N 0)) 1 (r53.2 1)) 3 (r53.2 3)) 4 (r41.2 4)) 5 (r49 5)) 6 (r53.2 6)) 7 (r53.2 7)) 8 (r53.2 8)) 13 (r49 13)) 14 (N 14)) 15 (r49 15))) := hD
          generalize H1 = H at hP hS ⊢
          refine lv_pop hx hb dX6_serveOne_56 rfl ?_
          exact hfX6_serveOne_B57 _ (ih kx63 hkx63) _ hkx63 (sr (sr (sr (sr (sr (sr (sr (sr (sr (sr (sr M 0 (N 0)) 1 (r53.2 1)) 3 (r53.2 3)) 4 (r41.2 4)) 5 (r49 5)) 6 (r53.2 6)) 7 (r53.2 7)) 8 (r53.2 8)) 13 (r49 13)) 14 (N 14)) 15 (r49 15)) l1 l2 l3 l4 hf _ (lv_sub hl [0, 1, 2, 3, 4] rfl) _ _ hP hD hS
  have hl := lv_entry ([.ref (a 0), .int a1]) (n := 5) (Nat.le_of_ble_eq_true rfl)
  rw [lg_entry_eq]
  generalize (lg_sl ([.ref (a 0), .int a1]) ++ List.replicate (5 - (lg_sl ([.ref (a 0), .int a1])).length) Slot.unset).toArray = ls at hl ⊢
  have hl : lv_has ls 5 [(0, .ref (a 0)), (1, .int a1)] := hl
  unfold fX6_serveOne at hf
  suffices hgo : ∀ (H : Heap) (locs : List Loc), va_P (dC, dI) vwCl (wX6 cI cZ a M) H → va_D A (wX6 cI cZ a M) → va_S A s.heap H locs → W p l e (headSpec wsX6_serveOne ({ frames := 4, cells := 0, slots := 0, locals := 109 } : Room)).room s m ([.ref (a 0), .int a1] : List Value).toArray below meth c H locs 0 0 (MQ below (va_Qi (S := Unit) (fun r _ => r = z.1) (fun _ t => WE (dC, dI) cI cZ (wX6 cI cZ a (sr (sr (sr (sr (sr (sr (sr (sr (sr (sr (sr M 0 (z.2 0)) 1 (z.2 1)) 3 (z.2 3)) 4 (z.2 4)) 5 (z.2 5)) 6 (z.2 6)) 7 (z.2 7)) 8 (z.2 8)) 13 (z.2 13)) 14 (z.2 14)) 15 (z.2 15))) A t) A) ([.ref (a 0), .int a1] : List Value).toArray s 0 0 A) (F0 m 0 ls []) from hgo _ _ hP hD hS
  intro H locs hP hD hS
  refine lv_aload_n hx hb dX6_serveOne_0 rfl (lv_at hl 0 rfl) ?_
  refine va_get (D := (dC, dI)) (ci := 6) (v := .ref (a 6)) (C := RX6) (T := TX6) (N := 5) hx hb hts hinX6 hown hK hP 0 rfl rfl 1 (by decide) hw1 (fun _ h9 => h9) rfl dX6_serveOne_1 ?_
  refine va_getN (D := (dC, dI)) (ci := 2) (v := .int (M 6 2)) (C := RX2) (T := TX2) (N := 7) hx hb hts hinX2 hown hK hP 6 rfl rfl 2 (by decide) (nw32 hNW) (fun _ h9 => h9) rfl dX6_serveOne_4 ?_
  refine lv_istore_n (lv' := [(2, .int (M 6 2)), (0, .ref (a 0)), (1, .int a1)]) hx hb dX6_serveOne_7 rfl hl (by decide) rfl (fun ls hl => ?_)
  refine lv_aload_n hx hb dX6_serveOne_8 rfl (lv_at hl 1 rfl) ?_
  refine lv_iload_n hx hb dX6_serveOne_9 rfl (lv_at hl 2 rfl) ?_
  obtain ⟨r10, hc10, hf⟩ := bi_s hf
  have hPc := hP
  refine cRO (W.runV (As := [.int a1]) (rest := []) ⟨hx, hb, hml, hown, hts⟩ (c_X6_choice l dC dI cI cZ a M a1 r10 hc10) (cwV 1 hts gX6_serveOne_X6_choice rfl rfl rfl (by decide +kernel) ⟨Nat.le_of_ble_eq_true rfl, Nat.le_of_ble_eq_true rfl⟩) ⟨RO.blind, va_recv hK hP (ci := 6) (q0 := 0) rfl rfl, RO.pre hPc hK hNW⟩ rfl rfl hl.1 rfl (lv_room (Nat.le_of_ble_eq_true rfl)) dX6_serveOne_10 ⟨Nat.le_of_ble_eq_true rfl, Nat.le_of_ble_eq_true rfl⟩) ?_
  refine lv_istore_n (lv' := [(3, .int r10), (2, .int (M 6 2)), (0, .ref (a 0)), (1, .int a1)]) hx hb dX6_serveOne_13 rfl hl (by decide) rfl (fun ls hl => ?_)
  refine lv_iconst (v := (0 : Int32)) hx hb dX6_serveOne_14 (by decide) ?_
  refine lv_istore (lv' := [(4, .int (0 : Int32)), (3, .int r10), (2, .int (M 6 2)), (0, .ref (a 0)), (1, .int a1)]) hx hb dX6_serveOne_15 hl (by decide) rfl (fun ls hl => ?_)
  refine hfX6_serveOne_L17 5000 _ (fun N l1 l2 hf ls hl H locs hP hD hS => ?_) M a1 (M 6 2) r10 (0 : Int32) hf _ (lv_sub hl [3, 4, 2, 1, 0] rfl) _ _ hP hD hS
  refine lv_aload_n hx hb dX6_serveOne_63 rfl (lv_at hl 0 rfl) ?_
  refine va_get (D := (dC, dI)) (ci := 6) (v := .ref (a 14)) (C := RX6) (T := TX6) (N := 5) hx hb hts hinX6 hown hK hP 0 rfl rfl 3 (by decide) hw5 (fun _ h9 => h9) rfl dX6_serveOne_64 ?_
  refine lv_iload_n hx hb dX6_serveOne_67 rfl (lv_at hl 1 rfl) ?_
  obtain ⟨r68, hc68, hf⟩ := bi_s hf
  have hPc := hP.sub (ws' := (wX3 cI cZ (ofs 14 a) (ofs 14 (sr (sr (sr (sr (sr (sr (sr (sr (sr (sr (sr M 0 (N 0)) 1 (N 1)) 3 (N 3)) 4 (N 4)) 5 (N 5)) 6 (N 6)) 7 (N 7)) 8 (N 8)) 13 (N 13)) 14 (N 14)) 15 (N 15))))) [14, 15] rfl
  have hDc := hD.sub (ws' := (wX3 cI cZ (ofs 14 a) (ofs 14 (sr (sr (sr (sr (sr (sr (sr (sr (sr (sr (sr M 0 (N 0)) 1 (N 1)) 3 (N 3)) 4 (N 4)) 5 (N 5)) 6 (N 6)) 7 (N 7)) 8 (N 8)) 13 (N 13)) 14 (N 14)) 15 (N 15))))) [14, 15] (by decide) rfl
  have hFc := va_free (wc := (wX3 cI cZ (ofs 14 a) (ofs 14 (sr (sr (sr (sr (sr (sr (sr (sr (sr (sr (sr M 0 (N 0)) 1 (N 1)) 3 (N 3)) 4 (N 4)) 5 (N 5)) 6 (N 6)) 7 (N 7)) 8 (N 8)) 13 (N 13)) 14 (N 14)) 15 (N 15))))) hD hS hA [14, 15] rfl
  refine va_callv (va_runVN (As := [.int l1]) (rest := []) ⟨hx, hb, hml, hown, hts⟩ (c_X3_remove l dC dI cI cZ (ofs 14 a) H.size (ofs 14 (sr (sr (sr (sr (sr (sr (sr (sr (sr (sr (sr M 0 (N 0)) 1 (N 1)) 3 (N 3)) 4 (N 4)) 5 (N 5)) 6 (N 6)) 7 (N 7)) 8 (N 8)) 13 (N 13)) 14 (N 14)) 15 (N 15))) l1 r68 hc68) ⟨va_cnB 1 hts gX6_serveOne_X3_remove_n165 rfl rfl rfl (nw83 hNW) hw6 (by decide +kernel) ⟨Nat.le_of_ble_eq_true rfl, Nat.le_of_ble_eq_true rfl⟩, hw7, hw8⟩ ⟨WR.blind, va_recv hK hP (ci := 3) (q0 := 14) rfl rfl, WR.pre hPc hK hDc hNW⟩ rfl rfl hl.1 rfl (lv_room (Nat.le_of_ble_eq_true rfl)) dX6_serveOne_68 ⟨Nat.le_of_ble_eq_true rfl, Nat.le_of_ble_eq_true rfl⟩) hS (fun q _ h => hFc q h) hFc (fun u t H1 locs ht hvm hw hB hz1 hk1 hS => ?_)
  obtain ⟨hP1, hD1⟩ := hB
  rw [ht] at hP1
  obtain ⟨hP, hD⟩ := va_join (wr := [(a 0, .inr (6, [.ref (a 1), .ref (a 6), .ref (a 9), .ref (a 14), .int (N 0 4)])), (a 1, .inr (7, [.int (N 1 0), .int (N 1 1), .ref (a 2), .ref (a 3), .ref (a 4), .ref (a 5)])), (a 2, .inl (cI, 12, .inl (M 2))), (a 3, .inl (cI, 12, .inl (N 3))), (a 4, .inl (cI, 12, .inl (N 4))), (a 5, .inl (cI, 120, .inl (N 5))), (a 6, .inr (2, [.int (N 6 0), .int (N 6 1), .int (N 6 2), .int (N 6 3), .int (N 6 4), .ref (a 7), .ref (a 8)])), (a 7, .inl (cI, 8, .inl (N 7))), (a 8, .inl (cZ, 8, .inl (N 8))), (a 9, .inr (0, [.ref (a 10), .ref (a 11), .ref (a 12), .ref (a 13)])), (a 10, .inl (cI, 10, .inl (M 10))), (a 11, .inl (cI, 10, .inl (M 11))), (a 12, .inl (cI, 10, .inl (M 12))), (a 13, .inl (cI, 10, .inl (N 13)))]) (w1 := (wX3 cI cZ (ofs 14 a) (sr (sr (ofs 14 (sr (sr (sr (sr (sr (sr (sr (sr (sr (sr (sr M 0 (N 0)) 1 (N 1)) 3 (N 3)) 4 (N 4)) 5 (N 5)) 6 (N 6)) 7 (N 7)) 8 (N 8)) 13 (N 13)) 14 (N 14)) 15 (N 15))) 0 (r68 0)) 1 (r68 1)))) hP hD [14, 15] [0, 1, 2, 3, 4, 5, 6, 7, 8, 9, 10, 11, 12, 13] rfl rfl (by decide) (by decide) hk1 hFc hP1 hD1
  have hP := hP.sub (ws' := (wX6 cI cZ a (sr (sr (sr (sr (sr (sr (sr (sr (sr (sr (sr M 0 (N 0)) 1 (N 1)) 3 (N 3)) 4 (N 4)) 5 (N 5)) 6 (N 6)) 7 (N 7)) 8 (N 8)) 13 (N 13)) 14 (r68 0)) 15 (r68 1)))) [0, 1, 2, 3, 4, 5, 6, 7, 8, 9, 10, 11, 12, 13, 14, 15] rfl
  have hD := hD.sub (ws' := (wX6 cI cZ a (sr (sr (sr (sr (sr (sr (sr (sr (sr (sr (sr M 0 (N 0)) 1 (N 1)) 3 (N 3)) 4 (N 4)) 5 (N 5)) 6 (N 6)) 7 (N 7)) 8 (N 8)) 13 (N 13)) 14 (r68 0)) 15 (r68 1)))) [0, 1, 2, 3, 4, 5, 6, 7, 8, 9, 10, 11, 12, 13, 14, 15] (by decide) rfl
  generalize H1 = H at hP hS ⊢
  refine lv_aload_n hx hb dX6_serveOne_71 rfl (lv_at hl 0 rfl) ?_
  refine lv_dup hx hb dX6_serveOne_72 rfl ?_
  refine va_get (D := (dC, dI)) (ci := 6) (v := .int (N 0 4)) (C := RX6) (T := TX6) (N := 5) hx hb hts hinX6 hown hK hP 0 rfl rfl 4 (by decide) hw9 (fun _ h9 => h9) rfl dX6_serveOne_73 ?_
  refine lv_iconst (v := (1 : Int32)) hx hb dX6_serveOne_76 (by decide) ?_
  refine lv_iadd hx hb dX6_serveOne_77 ?_
  refine va_put (D := (dC, dI)) (ci := 6) (v := .int ((N 0 4) + (1 : Int32))) (ty := .int) (C := RX6) (T := TX6) (N := 5) hx hb hts hinX6 tyX6 tyX6_ok nmX6 hown hK hP hD hS 0 rfl rfl 4 (by decide) hw9 (fun _ h9 => h9) rfl (by decide +kernel) rfl rfl (Nat.le_of_ble_eq_true rfl) dX6_serveOne_78 (fun H locs hP hD hS => ?_)
  have hP : va_P (dC, dI) vwCl (wX6 cI cZ a (sr (sr (sr (sr (sr (sr (sr (sr (sr (sr (sr M 0 (upd (N 0) 4 ((N 0 4) + (1 : Int32)))) 1 (N 1)) 3 (N 3)) 4 (N 4)) 5 (N 5)) 6 (N 6)) 7 (N 7)) 8 (N 8)) 13 (N 13)) 14 (r68 0)) 15 (r68 1))) H := hP
  have hD : va_D A (wX6 cI cZ a (sr (sr (sr (sr (sr (sr (sr (sr (sr (sr (sr M 0 (upd (N 0) 4 ((N 0 4) + (1 : Int32)))) 1 (N 1)) 3 (N 3)) 4 (N 4)) 5 (N 5)) 6 (N 6)) 7 (N 7)) 8 (N 8)) 13 (N 13)) 14 (r68 0)) 15 (r68 1))) := hD
  refine lv_aload_n hx hb dX6_serveOne_81 rfl (lv_at hl 0 rfl) ?_
  refine va_get (D := (dC, dI)) (ci := 6) (v := .ref (a 6)) (C := RX6) (T := TX6) (N := 5) hx hb hts hinX6 hown hK hP 0 rfl rfl 1 (by decide) hw1 (fun _ h9 => h9) rfl dX6_serveOne_82 ?_
  refine va_getN (D := (dC, dI)) (ci := 2) (v := .int (N 6 2)) (C := RX2) (T := TX2) (N := 7) hx hb hts hinX2 hown hK hP 6 rfl rfl 2 (by decide) (nw32 hNW) (fun _ h9 => h9) rfl dX6_serveOne_85 ?_
  refine lv_iload_n hx hb dX6_serveOne_88 rfl (lv_at hl 2 rfl) ?_
  refine lv_isub hx hb dX6_serveOne_89 ?_
  have e9 := so_e hf
  subst e9
  exact W.iret (v := ((N 6 2) - l2)) hx hb hr (fun t ht hW => ⟨⟨((N 6 2) - l2), (), rfl, rfl, WE.mk hP hD ht⟩, hS.F ht⟩) hS.2.2 dX6_serveOne_90
set_option maxHeartbeats 4000000 in
set_option maxRecDepth 100000 in
theorem c_X6_firstServable (l : Launch) (dC : Nat → ClassId) (dI : Nat → Nat → Nat) (cI cZ : ClassId) (a : Nat → Nat) (M : Mem) (z : Int32) (hf : fX6_firstServable M  = some z) : Met l yX6_firstServable wsX6_firstServable ({ frames := 3, cells := 0, slots := 0, locals := 68 } : Room) (va_Pc [.ref (a 0)] (RO (dC, dI) cI cZ (wX6 cI cZ a M))) (k2_QcV (.int z)) 0 0 (fun _ => False) := by
  refine Met.ofW (cc := cX6_firstServable) (maxL := 2) (ret := (some .int)) (by decide) rfl ?_
  intro p e s m args below meth c s₁ B hml hv
  obtain ⟨rfl, hP, hK, hNW⟩ := hv
  have hx := B.exec
  have hb := B.bytes
  have hr := B.returns
  have hts := atoms_spec (ws := wsX6_firstServable) B.pre
  have hown : s.vm.findClass RX6 = some m.cls := findClass_of_methodNamed B.named
  have hlocks := B.notSynchronized
  have hinX6 : ∀ w ∈ u_ws RX6 TX6 5, w ∈ wsX6_firstServable := by decide +kernel
  have hw1 := hts (.fieldLink RX6 35 "GlideShelves$State" "book" "LGlideShelves$OrderBook;") (by decide +kernel)
  have hinX3 : ∀ w ∈ u_ws RX3 TX3 2, w ∈ wsX6_firstServable := by decide +kernel
  have hfX6_firstServable_L2 : ∀ (n : Nat) (kx21 : Int32 → Option (Int32)) (hkx21 : ∀ (l1 : Int32), kx21 l1 = some z → ∀ (ls : Array Slot), lv_has ls 2 [(1, .int l1)] → W p l e (headSpec wsX6_firstServable ({ frames := 3, cells := 0, slots := 0, locals := 68 } : Room)).room s m ([.ref (a 0)] : List Value).toArray below meth c s.heap [] 0 0 (MQ below (k2_QcV (.int z)) ([.ref (a 0)] : List Value).toArray s 0 0 (fun _ => False)) (F0 m 21 ls [])) (kx29 : Unit → Option (Int32)) (hkx29 : ∀ (_ : Unit), kx29 () = some z → ∀ (ls : Array Slot), lv_has ls 2 [] → W p l e (headSpec wsX6_firstServable ({ frames := 3, cells := 0, slots := 0, locals := 68 } : Room)).room s m ([.ref (a 0)] : List Value).toArray below meth c s.heap [] 0 0 (MQ below (k2_QcV (.int z)) ([.ref (a 0)] : List Value).toArray s 0 0 (fun _ => False)) (F0 m 29 ls [])), ∀ (l1 : Int32), fX6_firstServable_L2 M n kx21 kx29 l1 = some z → ∀ (ls : Array Slot), lv_has ls 2 [(0, .ref (a 0)), (1, .int l1)] → W p l e (headSpec wsX6_firstServable ({ frames := 3, cells := 0, slots := 0, locals := 68 } : Room)).room s m ([.ref (a 0)] : List Value).toArray below meth c s.heap [] 0 0 (MQ below (k2_QcV (.int z)) ([.ref (a 0)] : List Value).toArray s 0 0 (fun _ => False)) (F0 m 2 ls []) := by
    intro n
    induction n with
    | zero =>
      intro kx21 hkx21 kx29 hkx29 l1 hf ls hl
      rw [fX6_firstServable_L2] at hf
      cases hf
    | succ n ih =>
      intro kx21 hkx21 kx29 hkx29 l1 hf ls hl
      rw [fX6_firstServable_L2] at hf
      refine lv_iload_n hx hb dX6_firstServable_2 rfl (lv_at hl 1 rfl) ?_
      refine lv_aload_n hx hb dX6_firstServable_3 rfl (lv_at hl 0 rfl) ?_
      refine va_get (D := (dC, dI)) (ci := 6) (v := .ref (a 14)) (C := RX6) (T := TX6) (N := 5) hx hb hts hinX6 hown hK hP 0 rfl rfl 3 (by decide) hw1 (fun _ h9 => h9) rfl dX6_firstServable_4 ?_
      refine va_getN (D := (dC, dI)) (ci := 3) (v := .int (M 14 0)) (C := RX3) (T := TX3) (N := 2) hx hb hts hinX3 hown hK hP 14 rfl rfl 0 (by decide) (nw33 hNW) (fun _ h9 => h9) rfl dX6_firstServable_7 ?_
      refine lv_icmp_ge (tgt := 29) hx hb dX6_firstServable_10 (by decide) (fun c9 => ?_) (fun c9 => ?_)
      · have hf := it_t hf c9
        exact hkx29 () hf _ (lv_sub hl [] rfl)
      · have hf := it_f hf c9
        refine lv_aload_n hx hb dX6_firstServable_13 rfl (lv_at hl 0 rfl) ?_
        refine lv_iload_n hx hb dX6_firstServable_14 rfl (lv_at hl 1 rfl) ?_
        obtain ⟨r15, hc15, hf⟩ := bi_s hf
        have hPc := hP
        refine cRO (W.runV (As := [.int l1]) (rest := []) ⟨hx, hb, hml, hown, hts⟩ (c_X6_isServable l dC dI cI cZ a M l1 r15 hc15) (cwV 1 hts gX6_firstServable_X6_isServable rfl rfl rfl (by decide +kernel) ⟨Nat.le_of_ble_eq_true rfl, Nat.le_of_ble_eq_true rfl⟩) ⟨RO.blind, va_recv hK hP (ci := 6) (q0 := 0) rfl rfl, RO.pre hPc hK hNW⟩ rfl rfl hl.1 rfl (lv_room (Nat.le_of_ble_eq_true rfl)) dX6_firstServable_15 ⟨Nat.le_of_ble_eq_true rfl, Nat.le_of_ble_eq_true rfl⟩) ?_
        refine lv_if_eq (tgt := 23) hx hb dX6_firstServable_18 (by decide) (fun c9 => ?_) (fun c9 => ?_)
        · have hf := it_t hf c9
          refine lv_iinc (v := (l1 + (1 : Int32))) (lv' := [(1, .int (l1 + (1 : Int32))), (0, .ref (a 0))]) hx hb dX6_firstServable_23 hl (k := 1) rfl rfl (by decide) rfl (fun ls hl => ?_)
          refine lv_goto (tgt := 2) hx hb dX6_firstServable_26 (by decide) ?_
          exact ih kx21 hkx21 kx29 hkx29 (l1 + (1 : Int32)) hf _ (lv_sub hl [1, 0] rfl)
        · have hf := it_f hf c9
          exact hkx21 l1 hf _ (lv_sub hl [1] rfl)
  have hl := lv_entry ([.ref (a 0)]) (n := 2) (Nat.le_of_ble_eq_true rfl)
  rw [lg_entry_eq]
  generalize (lg_sl ([.ref (a 0)]) ++ List.replicate (2 - (lg_sl ([.ref (a 0)])).length) Slot.unset).toArray = ls at hl ⊢
  have hl : lv_has ls 2 [(0, .ref (a 0))] := hl
  unfold fX6_firstServable at hf
  refine lv_iconst (v := (0 : Int32)) hx hb dX6_firstServable_0 (by decide) ?_
  refine lv_istore_n (lv' := [(1, .int (0 : Int32)), (0, .ref (a 0))]) hx hb dX6_firstServable_1 rfl hl (by decide) rfl (fun ls hl => ?_)
  refine hfX6_firstServable_L2 5000 _ (fun l1 hf ls hl => ?_) _ (fun _ hf ls hl => ?_) (0 : Int32) hf _ (lv_sub hl [1, 0] rfl)
  · refine lv_iload_n hx hb dX6_firstServable_21 rfl (lv_at hl 0 rfl) ?_
    exact W.iret (v := l1) hx hb hr (fun t ht hW => ⟨congrArg (fun x => Outcome.returned (some (Value.int x))) (so_e hf), ht⟩) fl0 dX6_firstServable_22
  · refine lv_iconst (v := (-1 : Int32)) hx hb dX6_firstServable_29 (by decide) ?_
    exact W.iret (v := (-1 : Int32)) hx hb hr (fun t ht hW => ⟨congrArg (fun x => Outcome.returned (some (Value.int x))) (so_e hf), ht⟩) fl0 dX6_firstServable_30
set_option maxHeartbeats 4000000 in
set_option maxRecDepth 100000 in
theorem c_X6_serveEach (l : Launch) (dC : Nat → ClassId) (dI : Nat → Nat → Nat) (cI cZ : ClassId) (a : Nat → Nat) (sz : Nat) (M : Mem) (z : Int32 × Mem) (hf : fX6_serveEach M  = some z) : Met l yX6_serveEach wsX6_serveEach ({ frames := 5, cells := 0, slots := 0, locals := 133 } : Room) (va_Pc [.ref (a 0)] (WR (dC, dI) cI cZ (wX6 cI cZ a M) sz)) (va_Qi (S := Unit) (fun r _ => r = z.1) (fun _ t => WE (dC, dI) cI cZ (wX6 cI cZ a (sr (sr (sr (sr (sr (sr (sr (sr (sr (sr (sr M 0 (z.2 0)) 1 (z.2 1)) 3 (z.2 3)) 4 (z.2 4)) 5 (z.2 5)) 6 (z.2 6)) 7 (z.2 7)) 8 (z.2 8)) 13 (z.2 13)) 14 (z.2 14)) 15 (z.2 15))) (va_A (wX6 cI cZ a M) sz) t) (va_A (wX6 cI cZ a M) sz)) 0 0 (va_A (wX6 cI cZ a M) sz) := by
  refine Met.ofW (cc := cX6_serveEach) (maxL := 4) (ret := (some .int)) (by decide) rfl ?_
  intro p e s m args below meth c s₁ B hml hv
  obtain ⟨rfl, hsz, hP, hK, hD0, hNW⟩ := hv
  have hx := B.exec
  have hb := B.bytes
  have hr := B.returns
  have hts := atoms_spec (ws := wsX6_serveEach) B.pre
  have hown : s.vm.findClass RX6 = some m.cls := findClass_of_methodNamed B.named
  have hlocks := B.notSynchronized
  subst hsz
  have hD := hD0.self (sz := s.heap.size)
  generalize hAe : va_A (wX6 cI cZ a M) s.heap.size = A at hD ⊢
  have hA : ∀ q : Nat, s.heap.size ≤ q → A q := fun q h => by rw [← hAe]; exact Or.inr h
  have hS : va_S A s.heap s.heap [] := va_S.rf
  have hfX6_serveEach_L4 : ∀ (n : Nat) (kx20 : Mem → Int32 → Option (Int32 × Mem)) (hkx20 : ∀ (N : Mem) (l1 : Int32), kx20 N l1 = some z → ∀ (ls : Array Slot), lv_has ls 4 [(1, .int l1)] → ∀ (H : Heap) (locs : List Loc), va_P (dC, dI) vwCl (wX6 cI cZ a (sr (sr (sr (sr (sr (sr (sr (sr (sr (sr (sr M 0 (N 0)) 1 (N 1)) 3 (N 3)) 4 (N 4)) 5 (N 5)) 6 (N 6)) 7 (N 7)) 8 (N 8)) 13 (N 13)) 14 (N 14)) 15 (N 15))) H → va_D A (wX6 cI cZ a (sr (sr (sr (sr (sr (sr (sr (sr (sr (sr (sr M 0 (N 0)) 1 (N 1)) 3 (N 3)) 4 (N 4)) 5 (N 5)) 6 (N 6)) 7 (N 7)) 8 (N 8)) 13 (N 13)) 14 (N 14)) 15 (N 15))) → va_S A s.heap H locs → W p l e (headSpec wsX6_serveEach ({ frames := 5, cells := 0, slots := 0, locals := 133 } : Room)).room s m ([.ref (a 0)] : List Value).toArray below meth c H locs 0 0 (MQ below (va_Qi (S := Unit) (fun r _ => r = z.1) (fun _ t => WE (dC, dI) cI cZ (wX6 cI cZ a (sr (sr (sr (sr (sr (sr (sr (sr (sr (sr (sr M 0 (z.2 0)) 1 (z.2 1)) 3 (z.2 3)) 4 (z.2 4)) 5 (z.2 5)) 6 (z.2 6)) 7 (z.2 7)) 8 (z.2 8)) 13 (z.2 13)) 14 (z.2 14)) 15 (z.2 15))) A t) A) ([.ref (a 0)] : List Value).toArray s 0 0 A) (F0 m 20 ls [])) (kx36 : Mem → Int32 → Option (Int32 × Mem)) (hkx36 : ∀ (N : Mem) (l1 : Int32), kx36 N l1 = some z → ∀ (ls : Array Slot), lv_has ls 4 [(1, .int l1)] → ∀ (H : Heap) (locs : List Loc), va_P (dC, dI) vwCl (wX6 cI cZ a (sr (sr (sr (sr (sr (sr (sr (sr (sr (sr (sr M 0 (N 0)) 1 (N 1)) 3 (N 3)) 4 (N 4)) 5 (N 5)) 6 (N 6)) 7 (N 7)) 8 (N 8)) 13 (N 13)) 14 (N 14)) 15 (N 15))) H → va_D A (wX6 cI cZ a (sr (sr (sr (sr (sr (sr (sr (sr (sr (sr (sr M 0 (N 0)) 1 (N 1)) 3 (N 3)) 4 (N 4)) 5 (N 5)) 6 (N 6)) 7 (N 7)) 8 (N 8)) 13 (N 13)) 14 (N 14)) 15 (N 15))) → va_S A s.heap H locs → W p l e (headSpec wsX6_serveEach ({ frames := 5, cells := 0, slots := 0, locals := 133 } : Room)).room s m ([.ref (a 0)] : List Value).toArray below meth c H locs 0 0 (MQ below (va_Qi (S := Unit) (fun r _ => r = z.1) (fun _ t => WE (dC, dI) cI cZ (wX6 cI cZ a (sr (sr (sr (sr (sr (sr (sr (sr (sr (sr (sr M 0 (z.2 0)) 1 (z.2 1)) 3 (z.2 3)) 4 (z.2 4)) 5 (z.2 5)) 6 (z.2 6)) 7 (z.2 7)) 8 (z.2 8)) 13 (z.2 13)) 14 (z.2 14)) 15 (z.2 15))) A t) A) ([.ref (a 0)] : List Value).toArray s 0 0 A) (F0 m 36 ls [])), ∀ (N : Mem) (l1 : Int32) (l2 : Int32), fX6_serveEach_L4 M n kx20 kx36 N l1 l2 = some z → ∀ (ls : Array Slot), lv_has ls 4 [(0, .ref (a 0)), (1, .int l1), (2, .int l2)] → ∀ (H : Heap) (locs : List Loc), va_P (dC, dI) vwCl (wX6 cI cZ a (sr (sr (sr (sr (sr (sr (sr (sr (sr (sr (sr M 0 (N 0)) 1 (N 1)) 3 (N 3)) 4 (N 4)) 5 (N 5)) 6 (N 6)) 7 (N 7)) 8 (N 8)) 13 (N 13)) 14 (N 14)) 15 (N 15))) H → va_D A (wX6 cI cZ a (sr (sr (sr (sr (sr (sr (sr (sr (sr (sr (sr M 0 (N 0)) 1 (N 1)) 3 (N 3)) 4 (N 4)) 5 (N 5)) 6 (N 6)) 7 (N 7)) 8 (N 8)) 13 (N 13)) 14 (N 14)) 15 (N 15))) → va_S A s.heap H locs → W p l e (headSpec wsX6_serveEach ({ frames := 5, cells := 0, slots := 0, locals := 133 } : Room)).room s m ([.ref (a 0)] : List Value).toArray below meth c H locs 0 0 (MQ below (va_Qi (S := Unit) (fun r _ => r = z.1) (fun _ t => WE (dC, dI) cI cZ (wX6 cI cZ a (sr (sr (sr (sr (sr (sr (sr (sr (sr (sr (sr M 0 (z.2 0)) 1 (z.2 1)) 3 (z.2 3)) 4 (z.2 4)) 5 (z.2 5)) 6 (z.2 6)) 7 (z.2 7)) 8 (z.2 8)) 13 (z.2 13)) 14 (z.2 14)) 15 (z.2 15))) A t) A) ([.ref (a 0)] : List Value).toArray s 0 0 A) (F0 m 4 ls []) := by
    intro n
    induction n with
    | zero =>
      intro kx20 hkx20 kx36 hkx36 N l1 l2 hf ls hl H locs hP hD hS
      rw [fX6_serveEach_L4] at hf
      cases hf
    | succ n ih =>
      intro kx20 hkx20 kx36 hkx36 N l1 l2 hf ls hl H locs hP hD hS
      rw [fX6_serveEach_L4] at hf
      refine lv_iload_n hx hb dX6_serveEach_4 rfl (lv_at hl 2 rfl) ?_
      refine lv_bipush (v := (8 : Int32)) hx hb dX6_serveEach_5 (by decide) ?_
      refine lv_icmp_ge (tgt := 36) hx hb dX6_serveEach_7 (by decide) (fun c9 => ?_) (fun c9 => ?_)
      · have hf := it_t hf c9
        exact hkx36 (sr (sr (sr (sr (sr (sr (sr (sr (sr (sr (sr M 0 (N 0)) 1 (N 1)) 3 (N 3)) 4 (N 4)) 5 (N 5)) 6 (N 6)) 7 (N 7)) 8 (N 8)) 13 (N 13)) 14 (N 14)) 15 (N 15)) l1 hf _ (lv_sub hl [1] rfl) _ _ hP hD hS
      · have hf := it_f hf c9
        refine lv_aload_n hx hb dX6_serveEach_10 rfl (lv_at hl 0 rfl) ?_
        obtain ⟨r11, hc11, hf⟩ := bi_s hf
        have hPc := hP
        refine cRO (W.runV (As := []) (rest := []) ⟨hx, hb, hml, hown, hts⟩ (c_X6_firstServable l dC dI cI cZ a (sr (sr (sr (sr (sr (sr (sr (sr (sr (sr (sr M 0 (N 0)) 1 (N 1)) 3 (N 3)) 4 (N 4)) 5 (N 5)) 6 (N 6)) 7 (N 7)) 8 (N 8)) 13 (N 13)) 14 (N 14)) 15 (N 15)) r11 hc11) (cwV 0 hts gX6_serveEach_X6_firstServable rfl rfl rfl (by decide +kernel) ⟨Nat.le_of_ble_eq_true rfl, Nat.le_of_ble_eq_true rfl⟩) ⟨RO.blind, va_recv hK hP (ci := 6) (q0 := 0) rfl rfl, RO.pre hPc hK hNW⟩ rfl rfl hl.1 rfl (lv_room (Nat.le_of_ble_eq_true rfl)) dX6_serveEach_11 ⟨Nat.le_of_ble_eq_true rfl, Nat.le_of_ble_eq_true rfl⟩) ?_
        refine lv_istore_n (lv' := [(3, .int r11), (0, .ref (a 0)), (1, .int l1), (2, .int l2)]) hx hb dX6_serveEach_14 rfl hl (by decide) rfl (fun ls hl => ?_)
        refine lv_iload_n hx hb dX6_serveEach_15 rfl (lv_at hl 0 rfl) ?_
        refine lv_iconst (v := (-1 : Int32)) hx hb dX6_serveEach_16 (by decide) ?_
        refine lv_icmp_ne (tgt := 22) hx hb dX6_serveEach_17 (by decide) (fun c9 => ?_) (fun c9 => ?_)
        · have hf := it_t hf c9
          refine lv_iload_n hx hb dX6_serveEach_22 rfl (lv_at hl 2 rfl) ?_
          refine lv_aload_n hx hb dX6_serveEach_23 rfl (lv_at hl 1 rfl) ?_
          refine lv_iload_n hx hb dX6_serveEach_24 rfl (lv_at hl 0 rfl) ?_
          obtain ⟨r25, hc25, hf⟩ := bi_s hf
          have hPc := hP
          have hDc := hD
          have hFc := va_free (wc := (wX6 cI cZ a (sr (sr (sr (sr (sr (sr (sr (sr (sr (sr (sr M 0 (N 0)) 1 (N 1)) 3 (N 3)) 4 (N 4)) 5 (N 5)) 6 (N 6)) 7 (N 7)) 8 (N 8)) 13 (N 13)) 14 (N 14)) 15 (N 15)))) hD hS hA [0, 1, 2, 3, 4, 5, 6, 7, 8, 9, 10, 11, 12, 13, 14, 15] rfl
          refine va_calli (va_runV (As := [.int r11]) (rest := [.int l1]) ⟨hx, hb, hml, hown, hts⟩ (c_X6_serveOne l dC dI cI cZ a H.size (sr (sr (sr (sr (sr (sr (sr (sr (sr (sr (sr M 0 (N 0)) 1 (N 1)) 3 (N 3)) 4 (N 4)) 5 (N 5)) 6 (N 6)) 7 (N 7)) 8 (N 8)) 13 (N 13)) 14 (N 14)) 15 (N 15)) r11 r25 hc25) (cwV 1 hts gX6_serveEach_X6_serveOne rfl rfl rfl (by decide +kernel) ⟨Nat.le_of_ble_eq_true rfl, Nat.le_of_ble_eq_true rfl⟩) ⟨WR.blind, va_recv hK hP (ci := 6) (q0 := 0) rfl rfl, WR.pre hPc hK hDc hNW⟩ rfl rfl hl.1 rfl (lv_room (Nat.le_of_ble_eq_true rfl)) dX6_serveEach_25 ⟨Nat.le_of_ble_eq_true rfl, Nat.le_of_ble_eq_true rfl⟩) hS (fun q _ h => hFc q h) hFc (fun rv u t H1 locs ht hvm hw hB hz1 hk1 hS => ?_)
          obtain ⟨hP1, hD1⟩ := hB
          rw [ht] at hP1
          subst hw
          have hP := hP1
          have hD := hD1.weaken (fun k q _ h => hFc q.1 h)
          have hP : va_P (dC, dI) vwCl (wX6 cI cZ a (sr (sr (sr (sr (sr (sr (sr (sr (sr (sr (sr M 0 (r25.2 0)) 1 (r25.2 1)) 3 (r25.2 3)) 4 (r25.2 4)) 5 (r25.2 5)) 6 (r25.2 6)) 7 (r25.2 7)) 8 (r25.2 8)) 13 (r25.2 13)) 14 (r25.2 14)) 15 (r25.2 15))) H1 := hP
          have hD : va_D A (wX6 cI cZ a (sr (sr (sr (sr (sr (sr (sr (sr (sr (sr (sr M 0 (r25.2 0)) 1 (r25.2 1)) 3 (r25.2 3)) 4 (r25.2 4)) 5 (r25.2 5)) 6 (r25.2 6)) 7 (r25.2 7)) 8 (r25.2 8)) 13 (r25.2 13)) 14 (r25.2 14)) 15 (r25.2 15))) := hD
          generalize H1 = H at hP hS ⊢
          refine lv_iadd hx hb dX6_serveEach_28 ?_
          refine lv_istore_n (lv' := [(1, .int (l1 + r25.1)), (3, .int r11), (0, .ref (a 0)), (2, .int l2)]) hx hb dX6_serveEach_29 rfl hl (by decide) rfl (fun ls hl => ?_)
          refine lv_iinc (v := (l2 + (1 : Int32))) (lv' := [(2, .int (l2 + (1 : Int32))), (1, .int (l1 + r25.1)), (3, .int r11), (0, .ref (a 0))]) hx hb dX6_serveEach_30 hl (k := 3) rfl rfl (by decide) rfl (fun ls hl => ?_)
          refine lv_goto (tgt := 4) hx hb dX6_serveEach_33 (by decide) ?_
          exact ih kx20 hkx20 kx36 hkx36 (sr (sr (sr (sr (sr (sr (sr (sr (sr (sr (sr M 0 (r25.2 0)) 1 (r25.2 1)) 3 (r25.2 3)) 4 (r25.2 4)) 5 (r25.2 5)) 6 (r25.2 6)) 7 (r25.2 7)) 8 (r25.2 8)) 13 (r25.2 13)) 14 (r25.2 14)) 15 (r25.2 15)) (l1 + r25.1) (l2 + (1 : Int32)) hf _ (lv_sub hl [3, 1, 0] rfl) _ _ hP hD hS
        · have hf := it_n hf c9
          exact hkx20 (sr (sr (sr (sr (sr (sr (sr (sr (sr (sr (sr M 0 (N 0)) 1 (N 1)) 3 (N 3)) 4 (N 4)) 5 (N 5)) 6 (N 6)) 7 (N 7)) 8 (N 8)) 13 (N 13)) 14 (N 14)) 15 (N 15)) l1 hf _ (lv_sub hl [2] rfl) _ _ hP hD hS
  have hl := lv_entry ([.ref (a 0)]) (n := 4) (Nat.le_of_ble_eq_true rfl)
  rw [lg_entry_eq]
  generalize (lg_sl ([.ref (a 0)]) ++ List.replicate (4 - (lg_sl ([.ref (a 0)])).length) Slot.unset).toArray = ls at hl ⊢
  have hl : lv_has ls 4 [(0, .ref (a 0))] := hl
  unfold fX6_serveEach at hf
  suffices hgo : ∀ (H : Heap) (locs : List Loc), va_P (dC, dI) vwCl (wX6 cI cZ a M) H → va_D A (wX6 cI cZ a M) → va_S A s.heap H locs → W p l e (headSpec wsX6_serveEach ({ frames := 5, cells := 0, slots := 0, locals := 133 } : Room)).room s m ([.ref (a 0)] : List Value).toArray below meth c H locs 0 0 (MQ below (va_Qi (S := Unit) (fun r _ => r = z.1) (fun _ t => WE (dC, dI) cI cZ (wX6 cI cZ a (sr (sr (sr (sr (sr (sr (sr (sr (sr (sr (sr M 0 (z.2 0)) 1 (z.2 1)) 3 (z.2 3)) 4 (z.2 4)) 5 (z.2 5)) 6 (z.2 6)) 7 (z.2 7)) 8 (z.2 8)) 13 (z.2 13)) 14 (z.2 14)) 15 (z.2 15))) A t) A) ([.ref (a 0)] : List Value).toArray s 0 0 A) (F0 m 0 ls []) from hgo _ _ hP hD hS
  intro H locs hP hD hS
  refine lv_iconst (v := (0 : Int32)) hx hb dX6_serveEach_0 (by decide) ?_
  refine lv_istore_n (lv' := [(1, .int (0 : Int32)), (0, .ref (a 0))]) hx hb dX6_serveEach_1 rfl hl (by decide) rfl (fun ls hl => ?_)
  refine lv_iconst (v := (0 : Int32)) hx hb dX6_serveEach_2 (by decide) ?_
  refine lv_istore_n (lv' := [(2, .int (0 : Int32)), (1, .int (0 : Int32)), (0, .ref (a 0))]) hx hb dX6_serveEach_3 rfl hl (by decide) rfl (fun ls hl => ?_)
  refine hfX6_serveEach_L4 5000 _ (fun N l1 hf ls hl H locs hP hD hS => ?_) _ (fun N l1 hf ls hl H locs hP hD hS => ?_) M (0 : Int32) (0 : Int32) hf _ (lv_sub hl [2, 1, 0] rfl) _ _ hP hD hS
  · refine lv_iload_n hx hb dX6_serveEach_20 rfl (lv_at hl 0 rfl) ?_
    have e9 := so_e hf
    subst e9
    exact W.iret (v := l1) hx hb hr (fun t ht hW => ⟨⟨l1, (), rfl, rfl, WE.mk hP hD ht⟩, hS.F ht⟩) hS.2.2 dX6_serveEach_21
  · refine lv_iload_n hx hb dX6_serveEach_36 rfl (lv_at hl 0 rfl) ?_
    have e9 := so_e hf
    subst e9
    exact W.iret (v := l1) hx hb hr (fun t ht hW => ⟨⟨l1, (), rfl, rfl, WE.mk hP hD ht⟩, hS.F ht⟩) hS.2.2 dX6_serveEach_37
