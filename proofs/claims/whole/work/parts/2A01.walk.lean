set_option maxHeartbeats 4000000 in
set_option maxRecDepth 100000 in
theorem c_X7_firstFree (l : Launch) (dC : Nat → ClassId) (dI : Nat → Nat → Nat) (cI cZ : ClassId) (a : Nat → Nat) (M : Mem) (a1 : Int32) (z : Int32) (hf : fX7_firstFree M a1 = some z) : Met l yX7_firstFree wsX7_firstFree ({ frames := 2, cells := 0, slots := 0, locals := 45 } : Room) (va_Pc [.ref (a 0), .int a1] (RO (dC, dI) cI cZ (wX7 cI cZ a M))) (k2_QcV (.int z)) 0 0 (fun _ => False) := by
  refine Met.ofW (cc := cX7_firstFree) (maxL := 2) (ret := (some .int)) (by decide) rfl ?_
  intro p e s m args below meth c s₁ B hml hv
  obtain ⟨rfl, hP, hK, hNW⟩ := hv
  have hx := B.exec
  have hb := B.bytes
  have hr := B.returns
  have hts := atoms_spec (ws := wsX7_firstFree) B.pre
  have hown : s.vm.findClass RX7 = some m.cls := findClass_of_methodNamed B.named
  have hlocks := B.notSynchronized
  have hl := lv_entry ([.ref (a 0), .int a1]) (n := 2) (Nat.le_of_ble_eq_true rfl)
  rw [lg_entry_eq]
  generalize (lg_sl ([.ref (a 0), .int a1]) ++ List.replicate (2 - (lg_sl ([.ref (a 0), .int a1])).length) Slot.unset).toArray = ls at hl ⊢
  have hl : lv_has ls 2 [(0, .ref (a 0)), (1, .int a1)] := hl
  unfold fX7_firstFree at hf
  refine lv_aload_n hx hb dX7_firstFree_0 rfl (lv_at hl 0 rfl) ?_
  refine lv_iconst (v := (0 : Int32)) hx hb dX7_firstFree_1 (by decide) ?_
  obtain ⟨r2, hc2, hf⟩ := bi_s hf
  have hPc := hP
  refine cRO (W.runV (As := [.int (0 : Int32)]) (rest := []) ⟨hx, hb, hml, hown, hts⟩ (c_X7_takenOn l dC dI cI cZ a M (0 : Int32) r2 hc2) (cwV 1 hts gX7_firstFree_X7_takenOn rfl rfl rfl (by decide +kernel) ⟨Nat.le_of_ble_eq_true rfl, Nat.le_of_ble_eq_true rfl⟩) ⟨RO.blind, va_recv hK hP (ci := 7) (q0 := 0) rfl rfl, RO.pre hPc hK hNW⟩ rfl rfl hl.1 rfl (lv_room (Nat.le_of_ble_eq_true rfl)) dX7_firstFree_2 ⟨Nat.le_of_ble_eq_true rfl, Nat.le_of_ble_eq_true rfl⟩) ?_
  refine lv_aload_n hx hb dX7_firstFree_5 rfl (lv_at hl 0 rfl) ?_
  refine lv_iconst (v := (1 : Int32)) hx hb dX7_firstFree_6 (by decide) ?_
  obtain ⟨r7, hc7, hf⟩ := bi_s hf
  have hPc := hP
  refine cRO (W.runV (As := [.int (1 : Int32)]) (rest := [.int r2]) ⟨hx, hb, hml, hown, hts⟩ (c_X7_takenOn l dC dI cI cZ a M (1 : Int32) r7 hc7) (cwV 1 hts gX7_firstFree_X7_takenOn rfl rfl rfl (by decide +kernel) ⟨Nat.le_of_ble_eq_true rfl, Nat.le_of_ble_eq_true rfl⟩) ⟨RO.blind, va_recv hK hP (ci := 7) (q0 := 0) rfl rfl, RO.pre hPc hK hNW⟩ rfl rfl hl.1 rfl (lv_room (Nat.le_of_ble_eq_true rfl)) dX7_firstFree_7 ⟨Nat.le_of_ble_eq_true rfl, Nat.le_of_ble_eq_true rfl⟩) ?_
  refine lv_iload_n hx hb dX7_firstFree_10 rfl (lv_at hl 1 rfl) ?_
  obtain ⟨r11, hc11, hf⟩ := bi_s hf
  refine cRO (W.runS (As := [.int r2, .int r7, .int a1]) (rest := []) ⟨hx, hb, hml, hown, hts⟩ (c_X7_firstFit l r2 r7 a1 r11 hc11) (va_cwS 3 hts gX7_firstFree_X7_firstFit rfl rfl rfl (by decide +kernel) ⟨Nat.le_of_ble_eq_true rfl, Nat.le_of_ble_eq_true rfl⟩) ⟨tr_blind, tr_pre⟩ rfl rfl hl.1 rfl (lv_room (Nat.le_of_ble_eq_true rfl)) dX7_firstFree_11 ⟨Nat.le_of_ble_eq_true rfl, Nat.le_of_ble_eq_true rfl⟩) ?_
  exact W.iret (v := r11) hx hb hr (fun t ht hW => ⟨congrArg (fun x => Outcome.returned (some (Value.int x))) (so_e hf), ht⟩) fl0 dX7_firstFree_14
set_option maxHeartbeats 4000000 in
set_option maxRecDepth 100000 in
theorem c_X7_holderOf (l : Launch) (dC : Nat → ClassId) (dI : Nat → Nat → Nat) (cI cZ : ClassId) (a : Nat → Nat) (M : Mem) (a1 : Int32) (z : Int32) (hf : fX7_holderOf M a1 = some z) : Met l yX7_holderOf wsX7_holderOf ({ frames := 0, cells := 0, slots := 0, locals := 0 } : Room) (va_Pc [.ref (a 0), .int a1] (RO (dC, dI) cI cZ (wX7 cI cZ a M))) (k2_QcV (.int z)) 0 0 (fun _ => False) := by
  refine Met.ofW (cc := cX7_holderOf) (maxL := 3) (ret := (some .int)) (by decide) rfl ?_
  intro p e s m args below meth c s₁ B hml hv
  obtain ⟨rfl, hP, hK, hNW⟩ := hv
  have hx := B.exec
  have hb := B.bytes
  have hr := B.returns
  have hts := atoms_spec (ws := wsX7_holderOf) B.pre
  have hown : s.vm.findClass RX7 = some m.cls := findClass_of_methodNamed B.named
  have hlocks := B.notSynchronized
  have hinX7 : ∀ w ∈ u_ws RX7 TX7 6, w ∈ wsX7_holderOf := by decide +kernel
  have hw1 := hts (.fieldLink RX7 9 "GlideShelves$Tower" "count" "I") (by decide +kernel)
  have hw2 := hts (.fieldLink RX7 15 "GlideShelves$Tower" "window" "I") (by decide +kernel)
  have hw3 := hts (.fieldLink RX7 22 "GlideShelves$Tower" "places" "[I") (by decide +kernel)
  have hw4 := hts (.fieldLink RX7 18 "GlideShelves$Tower" "heights" "[I") (by decide +kernel)
  have hfX7_holderOf_B47 : ∀ (kb : Int32 → Int32 → Option (Int32)) (hkb : ∀ (l1 : Int32) (l2 : Int32), kb l1 l2 = some z → ∀ (ls : Array Slot), lv_has ls 3 [(0, .ref (a 0)), (1, .int l1), (2, .int l2)] → W p l e (headSpec wsX7_holderOf ({ frames := 0, cells := 0, slots := 0, locals := 0 } : Room)).room s m ([.ref (a 0), .int a1] : List Value).toArray below meth c s.heap [] 0 0 (MQ below (k2_QcV (.int z)) ([.ref (a 0), .int a1] : List Value).toArray s 0 0 (fun _ => False)) (F0 m 2 ls [])) (kx53 : Unit → Option (Int32)) (hkx53 : ∀ (_ : Unit), kx53 () = some z → ∀ (ls : Array Slot), lv_has ls 3 [] → W p l e (headSpec wsX7_holderOf ({ frames := 0, cells := 0, slots := 0, locals := 0 } : Room)).room s m ([.ref (a 0), .int a1] : List Value).toArray below meth c s.heap [] 0 0 (MQ below (k2_QcV (.int z)) ([.ref (a 0), .int a1] : List Value).toArray s 0 0 (fun _ => False)) (F0 m 53 ls [])), ∀ (l1 : Int32) (l2 : Int32), fX7_holderOf_B47 M kb kx53 l1 l2 = some z → ∀ (ls : Array Slot), lv_has ls 3 [(0, .ref (a 0)), (1, .int l1), (2, .int l2)] → W p l e (headSpec wsX7_holderOf ({ frames := 0, cells := 0, slots := 0, locals := 0 } : Room)).room s m ([.ref (a 0), .int a1] : List Value).toArray below meth c s.heap [] 0 0 (MQ below (k2_QcV (.int z)) ([.ref (a 0), .int a1] : List Value).toArray s 0 0 (fun _ => False)) (F0 m 47 ls []) := by
    intro kb hkb kx53 hkx53 l1 l2 hf ls hl
    unfold fX7_holderOf_B47 at hf
    refine lv_iinc (v := (l2 + (1 : Int32))) (lv' := [(2, .int (l2 + (1 : Int32))), (0, .ref (a 0)), (1, .int l1)]) hx hb dX7_holderOf_47 hl (k := 2) rfl rfl (by decide) rfl (fun ls hl => ?_)
    refine lv_goto (tgt := 2) hx hb dX7_holderOf_50 (by decide) ?_
    exact hkb l1 (l2 + (1 : Int32)) hf _ (lv_sub hl [1, 2, 0] rfl)
  have hfX7_holderOf_L2 : ∀ (n : Nat) (kx45 : Int32 → Option (Int32)) (hkx45 : ∀ (l2 : Int32), kx45 l2 = some z → ∀ (ls : Array Slot), lv_has ls 3 [(2, .int l2)] → W p l e (headSpec wsX7_holderOf ({ frames := 0, cells := 0, slots := 0, locals := 0 } : Room)).room s m ([.ref (a 0), .int a1] : List Value).toArray below meth c s.heap [] 0 0 (MQ below (k2_QcV (.int z)) ([.ref (a 0), .int a1] : List Value).toArray s 0 0 (fun _ => False)) (F0 m 45 ls [])) (kx53 : Unit → Option (Int32)) (hkx53 : ∀ (_ : Unit), kx53 () = some z → ∀ (ls : Array Slot), lv_has ls 3 [] → W p l e (headSpec wsX7_holderOf ({ frames := 0, cells := 0, slots := 0, locals := 0 } : Room)).room s m ([.ref (a 0), .int a1] : List Value).toArray below meth c s.heap [] 0 0 (MQ below (k2_QcV (.int z)) ([.ref (a 0), .int a1] : List Value).toArray s 0 0 (fun _ => False)) (F0 m 53 ls [])), ∀ (l1 : Int32) (l2 : Int32), fX7_holderOf_L2 M n kx45 kx53 l1 l2 = some z → ∀ (ls : Array Slot), lv_has ls 3 [(0, .ref (a 0)), (1, .int l1), (2, .int l2)] → W p l e (headSpec wsX7_holderOf ({ frames := 0, cells := 0, slots := 0, locals := 0 } : Room)).room s m ([.ref (a 0), .int a1] : List Value).toArray below meth c s.heap [] 0 0 (MQ below (k2_QcV (.int z)) ([.ref (a 0), .int a1] : List Value).toArray s 0 0 (fun _ => False)) (F0 m 2 ls []) := by
    intro n
    induction n with
    | zero =>
      intro kx45 hkx45 kx53 hkx53 l1 l2 hf ls hl
      rw [fX7_holderOf_L2] at hf
      cases hf
    | succ n ih =>
      intro kx45 hkx45 kx53 hkx53 l1 l2 hf ls hl
      rw [fX7_holderOf_L2] at hf
      refine lv_iload_n hx hb dX7_holderOf_2 rfl (lv_at hl 2 rfl) ?_
      refine lv_aload_n hx hb dX7_holderOf_3 rfl (lv_at hl 0 rfl) ?_
      refine va_get (D := (dC, dI)) (ci := 7) (v := .int (M 0 0)) (C := RX7) (T := TX7) (N := 6) hx hb hts hinX7 hown hK hP 0 rfl rfl 0 (by decide) hw1 (fun _ h9 => h9) rfl dX7_holderOf_4 ?_
      refine lv_icmp_ge (tgt := 53) hx hb dX7_holderOf_7 (by decide) (fun c9 => ?_) (fun c9 => ?_)
      · have hf := it_t hf c9
        exact hkx53 () hf _ (lv_sub hl [] rfl)
      · have hf := it_f hf c9
        refine lv_iload_n hx hb dX7_holderOf_10 rfl (lv_at hl 2 rfl) ?_
        refine lv_aload_n hx hb dX7_holderOf_11 rfl (lv_at hl 0 rfl) ?_
        refine va_get (D := (dC, dI)) (ci := 7) (v := .int (M 0 1)) (C := RX7) (T := TX7) (N := 6) hx hb hts hinX7 hown hK hP 0 rfl rfl 1 (by decide) hw2 (fun _ h9 => h9) rfl dX7_holderOf_12 ?_
        refine lv_icmp_eq (tgt := 47) hx hb dX7_holderOf_15 (by decide) (fun c9 => ?_) (fun c9 => ?_)
        · have hf := it_t hf c9
          exact hfX7_holderOf_B47 _ (ih kx45 hkx45 kx53 hkx53) _ hkx53 l1 l2 hf _ (lv_sub hl [0, 1, 2] rfl)
        · have hf := it_f hf c9
          refine lv_iload_n hx hb dX7_holderOf_18 rfl (lv_at hl 1 rfl) ?_
          refine lv_aload_n hx hb dX7_holderOf_19 rfl (lv_at hl 0 rfl) ?_
          refine va_get (D := (dC, dI)) (ci := 7) (v := .ref (a 2)) (C := RX7) (T := TX7) (N := 6) hx hb hts hinX7 hown hK hP 0 rfl rfl 3 (by decide) hw3 (fun _ h9 => h9) rfl dX7_holderOf_20 ?_
          refine lv_iload_n hx hb dX7_holderOf_23 rfl (lv_at hl 2 rfl) ?_
          obtain ⟨hi, hf⟩ := gd_s hf
          refine va_iald (D := (dC, dI)) (f := (M 2)) hx hb hK hP 2 0 rfl rfl (inb_in hi) dX7_holderOf_24 ?_
          refine lv_icmp_lt (tgt := 47) hx hb dX7_holderOf_25 (by decide) (fun c9 => ?_) (fun c9 => ?_)
          · have hf := it_t hf c9
            exact hfX7_holderOf_B47 _ (ih kx45 hkx45 kx53 hkx53) _ hkx53 l1 l2 hf _ (lv_sub hl [0, 1, 2] rfl)
          · have hf := it_f hf c9
            refine lv_iload_n hx hb dX7_holderOf_28 rfl (lv_at hl 1 rfl) ?_
            refine lv_aload_n hx hb dX7_holderOf_29 rfl (lv_at hl 0 rfl) ?_
            refine va_get (D := (dC, dI)) (ci := 7) (v := .ref (a 2)) (C := RX7) (T := TX7) (N := 6) hx hb hts hinX7 hown hK hP 0 rfl rfl 3 (by decide) hw3 (fun _ h9 => h9) rfl dX7_holderOf_30 ?_
            refine lv_iload_n hx hb dX7_holderOf_33 rfl (lv_at hl 2 rfl) ?_
            obtain ⟨hi, hf⟩ := gd_s hf
            refine va_iald (D := (dC, dI)) (f := (M 2)) hx hb hK hP 2 0 rfl rfl (inb_in hi) dX7_holderOf_34 ?_
            refine lv_aload_n hx hb dX7_holderOf_35 rfl (lv_at hl 0 rfl) ?_
            refine va_get (D := (dC, dI)) (ci := 7) (v := .ref (a 1)) (C := RX7) (T := TX7) (N := 6) hx hb hts hinX7 hown hK hP 0 rfl rfl 2 (by decide) hw4 (fun _ h9 => h9) rfl dX7_holderOf_36 ?_
            refine lv_iload_n hx hb dX7_holderOf_39 rfl (lv_at hl 2 rfl) ?_
            obtain ⟨hi, hf⟩ := gd_s hf
            refine va_iald (D := (dC, dI)) (f := (M 1)) hx hb hK hP 1 0 rfl rfl (inb_in hi) dX7_holderOf_40 ?_
            refine lv_iadd hx hb dX7_holderOf_41 ?_
            refine lv_icmp_ge (tgt := 47) hx hb dX7_holderOf_42 (by decide) (fun c9 => ?_) (fun c9 => ?_)
            · have hf := it_t hf c9
              exact hfX7_holderOf_B47 _ (ih kx45 hkx45 kx53 hkx53) _ hkx53 l1 l2 hf _ (lv_sub hl [0, 1, 2] rfl)
            · have hf := it_f hf c9
              exact hkx45 l2 hf _ (lv_sub hl [2] rfl)
  have hl := lv_entry ([.ref (a 0), .int a1]) (n := 3) (Nat.le_of_ble_eq_true rfl)
  rw [lg_entry_eq]
  generalize (lg_sl ([.ref (a 0), .int a1]) ++ List.replicate (3 - (lg_sl ([.ref (a 0), .int a1])).length) Slot.unset).toArray = ls at hl ⊢
  have hl : lv_has ls 3 [(0, .ref (a 0)), (1, .int a1)] := hl
  unfold fX7_holderOf at hf
  refine lv_iconst (v := (0 : Int32)) hx hb dX7_holderOf_0 (by decide) ?_
  refine lv_istore_n (lv' := [(2, .int (0 : Int32)), (0, .ref (a 0)), (1, .int a1)]) hx hb dX7_holderOf_1 rfl hl (by decide) rfl (fun ls hl => ?_)
  refine hfX7_holderOf_L2 5000 _ (fun l2 hf ls hl => ?_) _ (fun _ hf ls hl => ?_) a1 (0 : Int32) hf _ (lv_sub hl [1, 2, 0] rfl)
  · refine lv_iload_n hx hb dX7_holderOf_45 rfl (lv_at hl 0 rfl) ?_
    exact W.iret (v := l2) hx hb hr (fun t ht hW => ⟨congrArg (fun x => Outcome.returned (some (Value.int x))) (so_e hf), ht⟩) fl0 dX7_holderOf_46
  · refine lv_iconst (v := (-1 : Int32)) hx hb dX7_holderOf_53 (by decide) ?_
    exact W.iret (v := (-1 : Int32)) hx hb hr (fun t ht hW => ⟨congrArg (fun x => Outcome.returned (some (Value.int x))) (so_e hf), ht⟩) fl0 dX7_holderOf_54
set_option maxHeartbeats 4000000 in
set_option maxRecDepth 100000 in
theorem c_X7_countFree (l : Launch) (dC : Nat → ClassId) (dI : Nat → Nat → Nat) (cI cZ : ClassId) (a : Nat → Nat) (M : Mem) (a1 : Int32) (z : Int32) (hf : fX7_countFree M a1 = some z) : Met l yX7_countFree wsX7_countFree ({ frames := 2, cells := 0, slots := 0, locals := 44 } : Room) (va_Pc [.ref (a 0), .int a1] (RO (dC, dI) cI cZ (wX7 cI cZ a M))) (k2_QcV (.int z)) 0 0 (fun _ => False) := by
  refine Met.ofW (cc := cX7_countFree) (maxL := 5) (ret := (some .int)) (by decide) rfl ?_
  intro p e s m args below meth c s₁ B hml hv
  obtain ⟨rfl, hP, hK, hNW⟩ := hv
  have hx := B.exec
  have hb := B.bytes
  have hr := B.returns
  have hts := atoms_spec (ws := wsX7_countFree) B.pre
  have hown : s.vm.findClass RX7 = some m.cls := findClass_of_methodNamed B.named
  have hlocks := B.notSynchronized
  have hfX7_countFree_B31 : ∀ (kb : Int32 → Int32 → Int32 → Option (Int32)) (hkb : ∀ (l2 : Int32) (l3 : Int32) (l4 : Int32), kb l2 l3 l4 = some z → ∀ (ls : Array Slot), lv_has ls 5 [(2, .int l2), (3, .int l3), (4, .int l4)] → W p l e (headSpec wsX7_countFree ({ frames := 2, cells := 0, slots := 0, locals := 44 } : Room)).room s m ([.ref (a 0), .int a1] : List Value).toArray below meth c s.heap [] 0 0 (MQ below (k2_QcV (.int z)) ([.ref (a 0), .int a1] : List Value).toArray s 0 0 (fun _ => False)) (F0 m 11 ls [])) (kx37 : Int32 → Option (Int32)) (hkx37 : ∀ (l3 : Int32), kx37 l3 = some z → ∀ (ls : Array Slot), lv_has ls 5 [(3, .int l3)] → W p l e (headSpec wsX7_countFree ({ frames := 2, cells := 0, slots := 0, locals := 44 } : Room)).room s m ([.ref (a 0), .int a1] : List Value).toArray below meth c s.heap [] 0 0 (MQ below (k2_QcV (.int z)) ([.ref (a 0), .int a1] : List Value).toArray s 0 0 (fun _ => False)) (F0 m 37 ls [])), ∀ (l2 : Int32) (l3 : Int32) (l4 : Int32), fX7_countFree_B31 M kb kx37 l2 l3 l4 = some z → ∀ (ls : Array Slot), lv_has ls 5 [(2, .int l2), (3, .int l3), (4, .int l4)] → W p l e (headSpec wsX7_countFree ({ frames := 2, cells := 0, slots := 0, locals := 44 } : Room)).room s m ([.ref (a 0), .int a1] : List Value).toArray below meth c s.heap [] 0 0 (MQ below (k2_QcV (.int z)) ([.ref (a 0), .int a1] : List Value).toArray s 0 0 (fun _ => False)) (F0 m 31 ls []) := by
    intro kb hkb kx37 hkx37 l2 l3 l4 hf ls hl
    unfold fX7_countFree_B31 at hf
    refine lv_iinc (v := (l4 + (1 : Int32))) (lv' := [(4, .int (l4 + (1 : Int32))), (2, .int l2), (3, .int l3)]) hx hb dX7_countFree_31 hl (k := 2) rfl rfl (by decide) rfl (fun ls hl => ?_)
    refine lv_goto (tgt := 11) hx hb dX7_countFree_34 (by decide) ?_
    exact hkb l2 l3 (l4 + (1 : Int32)) hf _ (lv_sub hl [1, 2, 0] rfl)
  have hfX7_countFree_L11 : ∀ (n : Nat) (kx37 : Int32 → Option (Int32)) (hkx37 : ∀ (l3 : Int32), kx37 l3 = some z → ∀ (ls : Array Slot), lv_has ls 5 [(3, .int l3)] → W p l e (headSpec wsX7_countFree ({ frames := 2, cells := 0, slots := 0, locals := 44 } : Room)).room s m ([.ref (a 0), .int a1] : List Value).toArray below meth c s.heap [] 0 0 (MQ below (k2_QcV (.int z)) ([.ref (a 0), .int a1] : List Value).toArray s 0 0 (fun _ => False)) (F0 m 37 ls [])), ∀ (l2 : Int32) (l3 : Int32) (l4 : Int32), fX7_countFree_L11 M n kx37 l2 l3 l4 = some z → ∀ (ls : Array Slot), lv_has ls 5 [(2, .int l2), (3, .int l3), (4, .int l4)] → W p l e (headSpec wsX7_countFree ({ frames := 2, cells := 0, slots := 0, locals := 44 } : Room)).room s m ([.ref (a 0), .int a1] : List Value).toArray below meth c s.heap [] 0 0 (MQ below (k2_QcV (.int z)) ([.ref (a 0), .int a1] : List Value).toArray s 0 0 (fun _ => False)) (F0 m 11 ls []) := by
    intro n
    induction n with
    | zero =>
      intro kx37 hkx37 l2 l3 l4 hf ls hl
      rw [fX7_countFree_L11] at hf
      cases hf
    | succ n ih =>
      intro kx37 hkx37 l2 l3 l4 hf ls hl
      rw [fX7_countFree_L11] at hf
      refine lv_iload hx hb dX7_countFree_11 (lv_at hl 2 rfl) ?_
      refine lv_bipush (v := (20 : Int32)) hx hb dX7_countFree_13 (by decide) ?_
      refine lv_icmp_ge (tgt := 37) hx hb dX7_countFree_15 (by decide) (fun c9 => ?_) (fun c9 => ?_)
      · have hf := it_t hf c9
        exact hkx37 l3 hf _ (lv_sub hl [1] rfl)
      · have hf := it_f hf c9
        refine lv_iload_n hx hb dX7_countFree_18 rfl (lv_at hl 0 rfl) ?_
        refine lv_iload hx hb dX7_countFree_19 (lv_at hl 2 rfl) ?_
        refine lv_iconst (v := (1 : Int32)) hx hb dX7_countFree_21 (by decide) ?_
        obtain ⟨r22, hc22, hf⟩ := bi_s hf
        refine cRO (W.runS (As := [.int l2, .int l4, .int (1 : Int32)]) (rest := []) ⟨hx, hb, hml, hown, hts⟩ (c_X7_fits l l2 l4 (1 : Int32) r22 hc22) (va_cwS 3 hts gX7_countFree_X7_fits rfl rfl rfl (by decide +kernel) ⟨Nat.le_of_ble_eq_true rfl, Nat.le_of_ble_eq_true rfl⟩) ⟨tr_blind, tr_pre⟩ rfl rfl hl.1 rfl (lv_room (Nat.le_of_ble_eq_true rfl)) dX7_countFree_22 ⟨Nat.le_of_ble_eq_true rfl, Nat.le_of_ble_eq_true rfl⟩) ?_
        refine lv_if_eq (tgt := 31) hx hb dX7_countFree_25 (by decide) (fun c9 => ?_) (fun c9 => ?_)
        · have hf := it_t hf c9
          exact hfX7_countFree_B31 _ (ih kx37 hkx37) _ hkx37 l2 l3 l4 hf _ (lv_sub hl [0, 1, 2] rfl)
        · have hf := it_f hf c9
          refine lv_iinc (v := (l3 + (1 : Int32))) (lv' := [(3, .int (l3 + (1 : Int32))), (2, .int l2), (4, .int l4)]) hx hb dX7_countFree_28 hl (k := 1) rfl rfl (by decide) rfl (fun ls hl => ?_)
          exact hfX7_countFree_B31 _ (ih kx37 hkx37) _ hkx37 l2 (l3 + (1 : Int32)) l4 hf _ (lv_sub hl [1, 0, 2] rfl)
  have hl := lv_entry ([.ref (a 0), .int a1]) (n := 5) (Nat.le_of_ble_eq_true rfl)
  rw [lg_entry_eq]
  generalize (lg_sl ([.ref (a 0), .int a1]) ++ List.replicate (5 - (lg_sl ([.ref (a 0), .int a1])).length) Slot.unset).toArray = ls at hl ⊢
  have hl : lv_has ls 5 [(0, .ref (a 0)), (1, .int a1)] := hl
  unfold fX7_countFree at hf
  refine lv_aload_n hx hb dX7_countFree_0 rfl (lv_at hl 0 rfl) ?_
  refine lv_iload_n hx hb dX7_countFree_1 rfl (lv_at hl 1 rfl) ?_
  obtain ⟨r2, hc2, hf⟩ := bi_s hf
  have hPc := hP
  refine cRO (W.runV (As := [.int a1]) (rest := []) ⟨hx, hb, hml, hown, hts⟩ (c_X7_takenOn l dC dI cI cZ a M a1 r2 hc2) (cwV 1 hts gX7_countFree_X7_takenOn rfl rfl rfl (by decide +kernel) ⟨Nat.le_of_ble_eq_true rfl, Nat.le_of_ble_eq_true rfl⟩) ⟨RO.blind, va_recv hK hP (ci := 7) (q0 := 0) rfl rfl, RO.pre hPc hK hNW⟩ rfl rfl hl.1 rfl (lv_room (Nat.le_of_ble_eq_true rfl)) dX7_countFree_2 ⟨Nat.le_of_ble_eq_true rfl, Nat.le_of_ble_eq_true rfl⟩) ?_
  refine lv_istore_n (lv' := [(2, .int r2), (0, .ref (a 0)), (1, .int a1)]) hx hb dX7_countFree_5 rfl hl (by decide) rfl (fun ls hl => ?_)
  refine lv_iconst (v := (0 : Int32)) hx hb dX7_countFree_6 (by decide) ?_
  refine lv_istore_n (lv' := [(3, .int (0 : Int32)), (2, .int r2), (0, .ref (a 0)), (1, .int a1)]) hx hb dX7_countFree_7 rfl hl (by decide) rfl (fun ls hl => ?_)
  refine lv_iconst (v := (0 : Int32)) hx hb dX7_countFree_8 (by decide) ?_
  refine lv_istore (lv' := [(4, .int (0 : Int32)), (3, .int (0 : Int32)), (2, .int r2), (0, .ref (a 0)), (1, .int a1)]) hx hb dX7_countFree_9 hl (by decide) rfl (fun ls hl => ?_)
  refine hfX7_countFree_L11 5000 _ (fun l3 hf ls hl => ?_) r2 (0 : Int32) (0 : Int32) hf _ (lv_sub hl [2, 1, 0] rfl)
  refine lv_iload_n hx hb dX7_countFree_37 rfl (lv_at hl 0 rfl) ?_
  exact W.iret (v := l3) hx hb hr (fun t ht hW => ⟨congrArg (fun x => Outcome.returned (some (Value.int x))) (so_e hf), ht⟩) fl0 dX7_countFree_38
set_option maxHeartbeats 4000000 in
set_option maxRecDepth 100000 in
theorem c_X7_longestFree (l : Launch) (dC : Nat → ClassId) (dI : Nat → Nat → Nat) (cI cZ : ClassId) (a : Nat → Nat) (M : Mem) (a1 : Int32) (z : Int32) (hf : fX7_longestFree M a1 = some z) : Met l yX7_longestFree wsX7_longestFree ({ frames := 2, cells := 0, slots := 0, locals := 44 } : Room) (va_Pc [.ref (a 0), .int a1] (RO (dC, dI) cI cZ (wX7 cI cZ a M))) (k2_QcV (.int z)) 0 0 (fun _ => False) := by
  refine Met.ofW (cc := cX7_longestFree) (maxL := 6) (ret := (some .int)) (by decide) rfl ?_
  intro p e s m args below meth c s₁ B hml hv
  obtain ⟨rfl, hP, hK, hNW⟩ := hv
  have hx := B.exec
  have hb := B.bytes
  have hr := B.returns
  have hts := atoms_spec (ws := wsX7_longestFree) B.pre
  have hown : s.vm.findClass RX7 = some m.cls := findClass_of_methodNamed B.named
  have hlocks := B.notSynchronized
  have hw0 := hts (.methodLink RX7 56 Lib.Math.max.name) (by decide +kernel)
  have hw1 := hts (.static Lib.Math.max.name) (by decide +kernel)
  have hw2 := hts (.initialized "java/lang/Math") (by decide +kernel)
  have hw3 := hts (.code Lib.Math.max.name Lib.Math.max.code 2 (some .int)) (by decide +kernel)
  have hfX7_longestFree_B39 : ∀ (kb : Int32 → Int32 → Int32 → Int32 → Option (Int32)) (hkb : ∀ (l2 : Int32) (l3 : Int32) (l4 : Int32) (l5 : Int32), kb l2 l3 l4 l5 = some z → ∀ (ls : Array Slot), lv_has ls 6 [(2, .int l2), (3, .int l3), (4, .int l4), (5, .int l5)] → W p l e (headSpec wsX7_longestFree ({ frames := 2, cells := 0, slots := 0, locals := 44 } : Room)).room s m ([.ref (a 0), .int a1] : List Value).toArray below meth c s.heap [] 0 0 (MQ below (k2_QcV (.int z)) ([.ref (a 0), .int a1] : List Value).toArray s 0 0 (fun _ => False)) (F0 m 14 ls [])) (kx54 : Int32 → Option (Int32)) (hkx54 : ∀ (l3 : Int32), kx54 l3 = some z → ∀ (ls : Array Slot), lv_has ls 6 [(3, .int l3)] → W p l e (headSpec wsX7_longestFree ({ frames := 2, cells := 0, slots := 0, locals := 44 } : Room)).room s m ([.ref (a 0), .int a1] : List Value).toArray below meth c s.heap [] 0 0 (MQ below (k2_QcV (.int z)) ([.ref (a 0), .int a1] : List Value).toArray s 0 0 (fun _ => False)) (F0 m 54 ls [])), ∀ (l2 : Int32) (l3 : Int32) (l5 : Int32) (s0 : Int32), fX7_longestFree_B39 M kb kx54 l2 l3 l5 s0 = some z → ∀ (ls : Array Slot), lv_has ls 6 [(2, .int l2), (3, .int l3), (5, .int l5)] → W p l e (headSpec wsX7_longestFree ({ frames := 2, cells := 0, slots := 0, locals := 44 } : Room)).room s m ([.ref (a 0), .int a1] : List Value).toArray below meth c s.heap [] 0 0 (MQ below (k2_QcV (.int z)) ([.ref (a 0), .int a1] : List Value).toArray s 0 0 (fun _ => False)) (F0 m 39 ls [.int s0]) := by
    intro kb hkb kx54 hkx54 l2 l3 l5 s0 hf ls hl
    unfold fX7_longestFree_B39 at hf
    refine lv_istore (lv' := [(4, .int s0), (2, .int l2), (3, .int l3), (5, .int l5)]) hx hb dX7_longestFree_39 hl (by decide) rfl (fun ls hl => ?_)
    refine lv_iload_n hx hb dX7_longestFree_41 rfl (lv_at hl 2 rfl) ?_
    refine lv_iload hx hb dX7_longestFree_42 (lv_at hl 0 rfl) ?_
    refine va_mmax hx hb (hml.trans hl.1.symm) hown hw0 hw1 hw2 hw3 (Nat.le_of_ble_eq_true rfl) (Nat.le_of_ble_eq_true rfl) (Nat.le_of_ble_eq_true rfl) (Nat.le_of_ble_eq_true rfl) dX7_longestFree_44 ?_
    refine lv_istore_n (lv' := [(3, .int (if l3 < s0 then s0 else l3)), (4, .int s0), (2, .int l2), (5, .int l5)]) hx hb dX7_longestFree_47 rfl hl (by decide) rfl (fun ls hl => ?_)
    refine lv_iinc (v := (l5 + (1 : Int32))) (lv' := [(5, .int (l5 + (1 : Int32))), (3, .int (if l3 < s0 then s0 else l3)), (4, .int s0), (2, .int l2)]) hx hb dX7_longestFree_48 hl (k := 3) rfl rfl (by decide) rfl (fun ls hl => ?_)
    refine lv_goto (tgt := 14) hx hb dX7_longestFree_51 (by decide) ?_
    exact hkb l2 (if l3 < s0 then s0 else l3) s0 (l5 + (1 : Int32)) hf _ (lv_sub hl [3, 1, 2, 0] rfl)
  have hfX7_longestFree_L14 : ∀ (n : Nat) (kx54 : Int32 → Option (Int32)) (hkx54 : ∀ (l3 : Int32), kx54 l3 = some z → ∀ (ls : Array Slot), lv_has ls 6 [(3, .int l3)] → W p l e (headSpec wsX7_longestFree ({ frames := 2, cells := 0, slots := 0, locals := 44 } : Room)).room s m ([.ref (a 0), .int a1] : List Value).toArray below meth c s.heap [] 0 0 (MQ below (k2_QcV (.int z)) ([.ref (a 0), .int a1] : List Value).toArray s 0 0 (fun _ => False)) (F0 m 54 ls [])), ∀ (l2 : Int32) (l3 : Int32) (l4 : Int32) (l5 : Int32), fX7_longestFree_L14 M n kx54 l2 l3 l4 l5 = some z → ∀ (ls : Array Slot), lv_has ls 6 [(2, .int l2), (3, .int l3), (4, .int l4), (5, .int l5)] → W p l e (headSpec wsX7_longestFree ({ frames := 2, cells := 0, slots := 0, locals := 44 } : Room)).room s m ([.ref (a 0), .int a1] : List Value).toArray below meth c s.heap [] 0 0 (MQ below (k2_QcV (.int z)) ([.ref (a 0), .int a1] : List Value).toArray s 0 0 (fun _ => False)) (F0 m 14 ls []) := by
    intro n
    induction n with
    | zero =>
      intro kx54 hkx54 l2 l3 l4 l5 hf ls hl
      rw [fX7_longestFree_L14] at hf
      cases hf
    | succ n ih =>
      intro kx54 hkx54 l2 l3 l4 l5 hf ls hl
      rw [fX7_longestFree_L14] at hf
      refine lv_iload hx hb dX7_longestFree_14 (lv_at hl 3 rfl) ?_
      refine lv_bipush (v := (20 : Int32)) hx hb dX7_longestFree_16 (by decide) ?_
      refine lv_icmp_ge (tgt := 54) hx hb dX7_longestFree_18 (by decide) (fun c9 => ?_) (fun c9 => ?_)
      · have hf := it_t hf c9
        exact hkx54 l3 hf _ (lv_sub hl [1] rfl)
      · have hf := it_f hf c9
        refine lv_iload_n hx hb dX7_longestFree_21 rfl (lv_at hl 0 rfl) ?_
        refine lv_iload hx hb dX7_longestFree_22 (lv_at hl 3 rfl) ?_
        refine lv_iconst (v := (1 : Int32)) hx hb dX7_longestFree_24 (by decide) ?_
        obtain ⟨r25, hc25, hf⟩ := bi_s hf
        refine cRO (W.runS (As := [.int l2, .int l5, .int (1 : Int32)]) (rest := []) ⟨hx, hb, hml, hown, hts⟩ (c_X7_fits l l2 l5 (1 : Int32) r25 hc25) (va_cwS 3 hts gX7_longestFree_X7_fits rfl rfl rfl (by decide +kernel) ⟨Nat.le_of_ble_eq_true rfl, Nat.le_of_ble_eq_true rfl⟩) ⟨tr_blind, tr_pre⟩ rfl rfl hl.1 rfl (lv_room (Nat.le_of_ble_eq_true rfl)) dX7_longestFree_25 ⟨Nat.le_of_ble_eq_true rfl, Nat.le_of_ble_eq_true rfl⟩) ?_
        refine lv_if_eq (tgt := 38) hx hb dX7_longestFree_28 (by decide) (fun c9 => ?_) (fun c9 => ?_)
        · have hf := it_t hf c9
          refine lv_iconst (v := (0 : Int32)) hx hb dX7_longestFree_38 (by decide) ?_
          exact hfX7_longestFree_B39 _ (ih kx54 hkx54) _ hkx54 l2 l3 l5 (0 : Int32) hf _ (lv_sub hl [0, 1, 3] rfl)
        · have hf := it_f hf c9
          refine lv_iload hx hb dX7_longestFree_31 (lv_at hl 2 rfl) ?_
          refine lv_iconst (v := (1 : Int32)) hx hb dX7_longestFree_33 (by decide) ?_
          refine lv_iadd hx hb dX7_longestFree_34 ?_
          refine lv_goto (tgt := 39) hx hb dX7_longestFree_35 (by decide) ?_
          exact hfX7_longestFree_B39 _ (ih kx54 hkx54) _ hkx54 l2 l3 l5 (l4 + (1 : Int32)) hf _ (lv_sub hl [0, 1, 3] rfl)
  have hl := lv_entry ([.ref (a 0), .int a1]) (n := 6) (Nat.le_of_ble_eq_true rfl)
  rw [lg_entry_eq]
  generalize (lg_sl ([.ref (a 0), .int a1]) ++ List.replicate (6 - (lg_sl ([.ref (a 0), .int a1])).length) Slot.unset).toArray = ls at hl ⊢
  have hl : lv_has ls 6 [(0, .ref (a 0)), (1, .int a1)] := hl
  unfold fX7_longestFree at hf
  refine lv_aload_n hx hb dX7_longestFree_0 rfl (lv_at hl 0 rfl) ?_
  refine lv_iload_n hx hb dX7_longestFree_1 rfl (lv_at hl 1 rfl) ?_
  obtain ⟨r2, hc2, hf⟩ := bi_s hf
  have hPc := hP
  refine cRO (W.runV (As := [.int a1]) (rest := []) ⟨hx, hb, hml, hown, hts⟩ (c_X7_takenOn l dC dI cI cZ a M a1 r2 hc2) (cwV 1 hts gX7_longestFree_X7_takenOn rfl rfl rfl (by decide +kernel) ⟨Nat.le_of_ble_eq_true rfl, Nat.le_of_ble_eq_true rfl⟩) ⟨RO.blind, va_recv hK hP (ci := 7) (q0 := 0) rfl rfl, RO.pre hPc hK hNW⟩ rfl rfl hl.1 rfl (lv_room (Nat.le_of_ble_eq_true rfl)) dX7_longestFree_2 ⟨Nat.le_of_ble_eq_true rfl, Nat.le_of_ble_eq_true rfl⟩) ?_
  refine lv_istore_n (lv' := [(2, .int r2), (0, .ref (a 0)), (1, .int a1)]) hx hb dX7_longestFree_5 rfl hl (by decide) rfl (fun ls hl => ?_)
  refine lv_iconst (v := (0 : Int32)) hx hb dX7_longestFree_6 (by decide) ?_
  refine lv_istore_n (lv' := [(3, .int (0 : Int32)), (2, .int r2), (0, .ref (a 0)), (1, .int a1)]) hx hb dX7_longestFree_7 rfl hl (by decide) rfl (fun ls hl => ?_)
  refine lv_iconst (v := (0 : Int32)) hx hb dX7_longestFree_8 (by decide) ?_
  refine lv_istore (lv' := [(4, .int (0 : Int32)), (3, .int (0 : Int32)), (2, .int r2), (0, .ref (a 0)), (1, .int a1)]) hx hb dX7_longestFree_9 hl (by decide) rfl (fun ls hl => ?_)
  refine lv_iconst (v := (0 : Int32)) hx hb dX7_longestFree_11 (by decide) ?_
  refine lv_istore (lv' := [(5, .int (0 : Int32)), (4, .int (0 : Int32)), (3, .int (0 : Int32)), (2, .int r2), (0, .ref (a 0)), (1, .int a1)]) hx hb dX7_longestFree_12 hl (by decide) rfl (fun ls hl => ?_)
  refine hfX7_longestFree_L14 5000 _ (fun l3 hf ls hl => ?_) r2 (0 : Int32) (0 : Int32) (0 : Int32) hf _ (lv_sub hl [3, 2, 1, 0] rfl)
  refine lv_iload_n hx hb dX7_longestFree_54 rfl (lv_at hl 0 rfl) ?_
  exact W.iret (v := l3) hx hb hr (fun t ht hW => ⟨congrArg (fun x => Outcome.returned (some (Value.int x))) (so_e hf), ht⟩) fl0 dX7_longestFree_55
set_option maxHeartbeats 4000000 in
set_option maxRecDepth 100000 in
theorem c_X7_sumOfHeights (l : Launch) (dC : Nat → ClassId) (dI : Nat → Nat → Nat) (cI cZ : ClassId) (a : Nat → Nat) (M : Mem) (z : Int32) (hf : fX7_sumOfHeights M  = some z) : Met l yX7_sumOfHeights wsX7_sumOfHeights ({ frames := 0, cells := 0, slots := 0, locals := 0 } : Room) (va_Pc [.ref (a 0)] (RO (dC, dI) cI cZ (wX7 cI cZ a M))) (k2_QcV (.int z)) 0 0 (fun _ => False) := by
  refine Met.ofW (cc := cX7_sumOfHeights) (maxL := 3) (ret := (some .int)) (by decide) rfl ?_
  intro p e s m args below meth c s₁ B hml hv
  obtain ⟨rfl, hP, hK, hNW⟩ := hv
  have hx := B.exec
  have hb := B.bytes
  have hr := B.returns
  have hts := atoms_spec (ws := wsX7_sumOfHeights) B.pre
  have hown : s.vm.findClass RX7 = some m.cls := findClass_of_methodNamed B.named
  have hlocks := B.notSynchronized
  have hinX7 : ∀ w ∈ u_ws RX7 TX7 6, w ∈ wsX7_sumOfHeights := by decide +kernel
  have hw1 := hts (.fieldLink RX7 9 "GlideShelves$Tower" "count" "I") (by decide +kernel)
  have hw2 := hts (.fieldLink RX7 15 "GlideShelves$Tower" "window" "I") (by decide +kernel)
  have hw3 := hts (.fieldLink RX7 18 "GlideShelves$Tower" "heights" "[I") (by decide +kernel)
  have hfX7_sumOfHeights_B29 : ∀ (kb : Int32 → Int32 → Option (Int32)) (hkb : ∀ (l1 : Int32) (l2 : Int32), kb l1 l2 = some z → ∀ (ls : Array Slot), lv_has ls 3 [(0, .ref (a 0)), (1, .int l1), (2, .int l2)] → W p l e (headSpec wsX7_sumOfHeights ({ frames := 0, cells := 0, slots := 0, locals := 0 } : Room)).room s m ([.ref (a 0)] : List Value).toArray below meth c s.heap [] 0 0 (MQ below (k2_QcV (.int z)) ([.ref (a 0)] : List Value).toArray s 0 0 (fun _ => False)) (F0 m 4 ls [])) (kx35 : Int32 → Option (Int32)) (hkx35 : ∀ (l1 : Int32), kx35 l1 = some z → ∀ (ls : Array Slot), lv_has ls 3 [(1, .int l1)] → W p l e (headSpec wsX7_sumOfHeights ({ frames := 0, cells := 0, slots := 0, locals := 0 } : Room)).room s m ([.ref (a 0)] : List Value).toArray below meth c s.heap [] 0 0 (MQ below (k2_QcV (.int z)) ([.ref (a 0)] : List Value).toArray s 0 0 (fun _ => False)) (F0 m 35 ls [])), ∀ (l1 : Int32) (l2 : Int32), fX7_sumOfHeights_B29 M kb kx35 l1 l2 = some z → ∀ (ls : Array Slot), lv_has ls 3 [(0, .ref (a 0)), (1, .int l1), (2, .int l2)] → W p l e (headSpec wsX7_sumOfHeights ({ frames := 0, cells := 0, slots := 0, locals := 0 } : Room)).room s m ([.ref (a 0)] : List Value).toArray below meth c s.heap [] 0 0 (MQ below (k2_QcV (.int z)) ([.ref (a 0)] : List Value).toArray s 0 0 (fun _ => False)) (F0 m 29 ls []) := by
    intro kb hkb kx35 hkx35 l1 l2 hf ls hl
    unfold fX7_sumOfHeights_B29 at hf
    refine lv_iinc (v := (l2 + (1 : Int32))) (lv' := [(2, .int (l2 + (1 : Int32))), (0, .ref (a 0)), (1, .int l1)]) hx hb dX7_sumOfHeights_29 hl (k := 2) rfl rfl (by decide) rfl (fun ls hl => ?_)
    refine lv_goto (tgt := 4) hx hb dX7_sumOfHeights_32 (by decide) ?_
    exact hkb l1 (l2 + (1 : Int32)) hf _ (lv_sub hl [1, 2, 0] rfl)
  have hfX7_sumOfHeights_L4 : ∀ (n : Nat) (kx35 : Int32 → Option (Int32)) (hkx35 : ∀ (l1 : Int32), kx35 l1 = some z → ∀ (ls : Array Slot), lv_has ls 3 [(1, .int l1)] → W p l e (headSpec wsX7_sumOfHeights ({ frames := 0, cells := 0, slots := 0, locals := 0 } : Room)).room s m ([.ref (a 0)] : List Value).toArray below meth c s.heap [] 0 0 (MQ below (k2_QcV (.int z)) ([.ref (a 0)] : List Value).toArray s 0 0 (fun _ => False)) (F0 m 35 ls [])), ∀ (l1 : Int32) (l2 : Int32), fX7_sumOfHeights_L4 M n kx35 l1 l2 = some z → ∀ (ls : Array Slot), lv_has ls 3 [(0, .ref (a 0)), (1, .int l1), (2, .int l2)] → W p l e (headSpec wsX7_sumOfHeights ({ frames := 0, cells := 0, slots := 0, locals := 0 } : Room)).room s m ([.ref (a 0)] : List Value).toArray below meth c s.heap [] 0 0 (MQ below (k2_QcV (.int z)) ([.ref (a 0)] : List Value).toArray s 0 0 (fun _ => False)) (F0 m 4 ls []) := by
    intro n
    induction n with
    | zero =>
      intro kx35 hkx35 l1 l2 hf ls hl
      rw [fX7_sumOfHeights_L4] at hf
      cases hf
    | succ n ih =>
      intro kx35 hkx35 l1 l2 hf ls hl
      rw [fX7_sumOfHeights_L4] at hf
      refine lv_iload_n hx hb dX7_sumOfHeights_4 rfl (lv_at hl 2 rfl) ?_
      refine lv_aload_n hx hb dX7_sumOfHeights_5 rfl (lv_at hl 0 rfl) ?_
      refine va_get (D := (dC, dI)) (ci := 7) (v := .int (M 0 0)) (C := RX7) (T := TX7) (N := 6) hx hb hts hinX7 hown hK hP 0 rfl rfl 0 (by decide) hw1 (fun _ h9 => h9) rfl dX7_sumOfHeights_6 ?_
      refine lv_icmp_ge (tgt := 35) hx hb dX7_sumOfHeights_9 (by decide) (fun c9 => ?_) (fun c9 => ?_)
      · have hf := it_t hf c9
        exact hkx35 l1 hf _ (lv_sub hl [1] rfl)
      · have hf := it_f hf c9
        refine lv_iload_n hx hb dX7_sumOfHeights_12 rfl (lv_at hl 2 rfl) ?_
        refine lv_aload_n hx hb dX7_sumOfHeights_13 rfl (lv_at hl 0 rfl) ?_
        refine va_get (D := (dC, dI)) (ci := 7) (v := .int (M 0 1)) (C := RX7) (T := TX7) (N := 6) hx hb hts hinX7 hown hK hP 0 rfl rfl 1 (by decide) hw2 (fun _ h9 => h9) rfl dX7_sumOfHeights_14 ?_
        refine lv_icmp_eq (tgt := 29) hx hb dX7_sumOfHeights_17 (by decide) (fun c9 => ?_) (fun c9 => ?_)
        · have hf := it_t hf c9
          exact hfX7_sumOfHeights_B29 _ (ih kx35 hkx35) _ hkx35 l1 l2 hf _ (lv_sub hl [0, 1, 2] rfl)
        · have hf := it_f hf c9
          refine lv_iload_n hx hb dX7_sumOfHeights_20 rfl (lv_at hl 1 rfl) ?_
          refine lv_aload_n hx hb dX7_sumOfHeights_21 rfl (lv_at hl 0 rfl) ?_
          refine va_get (D := (dC, dI)) (ci := 7) (v := .ref (a 1)) (C := RX7) (T := TX7) (N := 6) hx hb hts hinX7 hown hK hP 0 rfl rfl 2 (by decide) hw3 (fun _ h9 => h9) rfl dX7_sumOfHeights_22 ?_
          refine lv_iload_n hx hb dX7_sumOfHeights_25 rfl (lv_at hl 2 rfl) ?_
          obtain ⟨hi, hf⟩ := gd_s hf
          refine va_iald (D := (dC, dI)) (f := (M 1)) hx hb hK hP 1 0 rfl rfl (inb_in hi) dX7_sumOfHeights_26 ?_
          refine lv_iadd hx hb dX7_sumOfHeights_27 ?_
          refine lv_istore_n (lv' := [(1, .int (l1 + (M 1 l2.toNatClampNeg))), (0, .ref (a 0)), (2, .int l2)]) hx hb dX7_sumOfHeights_28 rfl hl (by decide) rfl (fun ls hl => ?_)
          exact hfX7_sumOfHeights_B29 _ (ih kx35 hkx35) _ hkx35 (l1 + (M 1 l2.toNatClampNeg)) l2 hf _ (lv_sub hl [1, 0, 2] rfl)
  have hl := lv_entry ([.ref (a 0)]) (n := 3) (Nat.le_of_ble_eq_true rfl)
  rw [lg_entry_eq]
  generalize (lg_sl ([.ref (a 0)]) ++ List.replicate (3 - (lg_sl ([.ref (a 0)])).length) Slot.unset).toArray = ls at hl ⊢
  have hl : lv_has ls 3 [(0, .ref (a 0))] := hl
  unfold fX7_sumOfHeights at hf
  refine lv_iconst (v := (0 : Int32)) hx hb dX7_sumOfHeights_0 (by decide) ?_
  refine lv_istore_n (lv' := [(1, .int (0 : Int32)), (0, .ref (a 0))]) hx hb dX7_sumOfHeights_1 rfl hl (by decide) rfl (fun ls hl => ?_)
  refine lv_iconst (v := (0 : Int32)) hx hb dX7_sumOfHeights_2 (by decide) ?_
  refine lv_istore_n (lv' := [(2, .int (0 : Int32)), (1, .int (0 : Int32)), (0, .ref (a 0))]) hx hb dX7_sumOfHeights_3 rfl hl (by decide) rfl (fun ls hl => ?_)
  refine hfX7_sumOfHeights_L4 5000 _ (fun l1 hf ls hl => ?_) (0 : Int32) (0 : Int32) hf _ (lv_sub hl [2, 1, 0] rfl)
  refine lv_iload_n hx hb dX7_sumOfHeights_35 rfl (lv_at hl 0 rfl) ?_
  exact W.iret (v := l1) hx hb hr (fun t ht hW => ⟨congrArg (fun x => Outcome.returned (some (Value.int x))) (so_e hf), ht⟩) fl0 dX7_sumOfHeights_36
set_option maxHeartbeats 4000000 in
set_option maxRecDepth 100000 in
theorem c_X7_sumOfUses (l : Launch) (dC : Nat → ClassId) (dI : Nat → Nat → Nat) (cI cZ : ClassId) (a : Nat → Nat) (M : Mem) (z : Int32) (hf : fX7_sumOfUses M  = some z) : Met l yX7_sumOfUses wsX7_sumOfUses ({ frames := 0, cells := 0, slots := 0, locals := 0 } : Room) (va_Pc [.ref (a 0)] (RO (dC, dI) cI cZ (wX7 cI cZ a M))) (k2_QcV (.int z)) 0 0 (fun _ => False) := by
  refine Met.ofW (cc := cX7_sumOfUses) (maxL := 3) (ret := (some .int)) (by decide) rfl ?_
  intro p e s m args below meth c s₁ B hml hv
  obtain ⟨rfl, hP, hK, hNW⟩ := hv
  have hx := B.exec
  have hb := B.bytes
  have hr := B.returns
  have hts := atoms_spec (ws := wsX7_sumOfUses) B.pre
  have hown : s.vm.findClass RX7 = some m.cls := findClass_of_methodNamed B.named
  have hlocks := B.notSynchronized
  have hinX7 : ∀ w ∈ u_ws RX7 TX7 6, w ∈ wsX7_sumOfUses := by decide +kernel
  have hw1 := hts (.fieldLink RX7 9 "GlideShelves$Tower" "count" "I") (by decide +kernel)
  have hw2 := hts (.fieldLink RX7 25 "GlideShelves$Tower" "uses" "[I") (by decide +kernel)
  have hfX7_sumOfUses_L4 : ∀ (n : Nat) (kx27 : Int32 → Option (Int32)) (hkx27 : ∀ (l1 : Int32), kx27 l1 = some z → ∀ (ls : Array Slot), lv_has ls 3 [(1, .int l1)] → W p l e (headSpec wsX7_sumOfUses ({ frames := 0, cells := 0, slots := 0, locals := 0 } : Room)).room s m ([.ref (a 0)] : List Value).toArray below meth c s.heap [] 0 0 (MQ below (k2_QcV (.int z)) ([.ref (a 0)] : List Value).toArray s 0 0 (fun _ => False)) (F0 m 27 ls [])), ∀ (l1 : Int32) (l2 : Int32), fX7_sumOfUses_L4 M n kx27 l1 l2 = some z → ∀ (ls : Array Slot), lv_has ls 3 [(0, .ref (a 0)), (1, .int l1), (2, .int l2)] → W p l e (headSpec wsX7_sumOfUses ({ frames := 0, cells := 0, slots := 0, locals := 0 } : Room)).room s m ([.ref (a 0)] : List Value).toArray below meth c s.heap [] 0 0 (MQ below (k2_QcV (.int z)) ([.ref (a 0)] : List Value).toArray s 0 0 (fun _ => False)) (F0 m 4 ls []) := by
    intro n
    induction n with
    | zero =>
      intro kx27 hkx27 l1 l2 hf ls hl
      rw [fX7_sumOfUses_L4] at hf
      cases hf
    | succ n ih =>
      intro kx27 hkx27 l1 l2 hf ls hl
      rw [fX7_sumOfUses_L4] at hf
      refine lv_iload_n hx hb dX7_sumOfUses_4 rfl (lv_at hl 2 rfl) ?_
      refine lv_aload_n hx hb dX7_sumOfUses_5 rfl (lv_at hl 0 rfl) ?_
      refine va_get (D := (dC, dI)) (ci := 7) (v := .int (M 0 0)) (C := RX7) (T := TX7) (N := 6) hx hb hts hinX7 hown hK hP 0 rfl rfl 0 (by decide) hw1 (fun _ h9 => h9) rfl dX7_sumOfUses_6 ?_
      refine lv_icmp_ge (tgt := 27) hx hb dX7_sumOfUses_9 (by decide) (fun c9 => ?_) (fun c9 => ?_)
      · have hf := it_t hf c9
        exact hkx27 l1 hf _ (lv_sub hl [1] rfl)
      · have hf := it_f hf c9
        refine lv_iload_n hx hb dX7_sumOfUses_12 rfl (lv_at hl 1 rfl) ?_
        refine lv_aload_n hx hb dX7_sumOfUses_13 rfl (lv_at hl 0 rfl) ?_
        refine va_get (D := (dC, dI)) (ci := 7) (v := .ref (a 3)) (C := RX7) (T := TX7) (N := 6) hx hb hts hinX7 hown hK hP 0 rfl rfl 4 (by decide) hw2 (fun _ h9 => h9) rfl dX7_sumOfUses_14 ?_
        refine lv_iload_n hx hb dX7_sumOfUses_17 rfl (lv_at hl 2 rfl) ?_
        obtain ⟨hi, hf⟩ := gd_s hf
        refine va_iald (D := (dC, dI)) (f := (M 3)) hx hb hK hP 3 0 rfl rfl (inb_in hi) dX7_sumOfUses_18 ?_
        refine lv_iadd hx hb dX7_sumOfUses_19 ?_
        refine lv_istore_n (lv' := [(1, .int (l1 + (M 3 l2.toNatClampNeg))), (0, .ref (a 0)), (2, .int l2)]) hx hb dX7_sumOfUses_20 rfl hl (by decide) rfl (fun ls hl => ?_)
        refine lv_iinc (v := (l2 + (1 : Int32))) (lv' := [(2, .int (l2 + (1 : Int32))), (1, .int (l1 + (M 3 l2.toNatClampNeg))), (0, .ref (a 0))]) hx hb dX7_sumOfUses_21 hl (k := 2) rfl rfl (by decide) rfl (fun ls hl => ?_)
        refine lv_goto (tgt := 4) hx hb dX7_sumOfUses_24 (by decide) ?_
        exact ih kx27 hkx27 (l1 + (M 3 l2.toNatClampNeg)) (l2 + (1 : Int32)) hf _ (lv_sub hl [2, 1, 0] rfl)
  have hl := lv_entry ([.ref (a 0)]) (n := 3) (Nat.le_of_ble_eq_true rfl)
  rw [lg_entry_eq]
  generalize (lg_sl ([.ref (a 0)]) ++ List.replicate (3 - (lg_sl ([.ref (a 0)])).length) Slot.unset).toArray = ls at hl ⊢
  have hl : lv_has ls 3 [(0, .ref (a 0))] := hl
  unfold fX7_sumOfUses at hf
  refine lv_iconst (v := (0 : Int32)) hx hb dX7_sumOfUses_0 (by decide) ?_
  refine lv_istore_n (lv' := [(1, .int (0 : Int32)), (0, .ref (a 0))]) hx hb dX7_sumOfUses_1 rfl hl (by decide) rfl (fun ls hl => ?_)
  refine lv_iconst (v := (0 : Int32)) hx hb dX7_sumOfUses_2 (by decide) ?_
  refine lv_istore_n (lv' := [(2, .int (0 : Int32)), (1, .int (0 : Int32)), (0, .ref (a 0))]) hx hb dX7_sumOfUses_3 rfl hl (by decide) rfl (fun ls hl => ?_)
  refine hfX7_sumOfUses_L4 5000 _ (fun l1 hf ls hl => ?_) (0 : Int32) (0 : Int32) hf _ (lv_sub hl [2, 1, 0] rfl)
  refine lv_iload_n hx hb dX7_sumOfUses_27 rfl (lv_at hl 0 rfl) ?_
  exact W.iret (v := l1) hx hb hr (fun t ht hW => ⟨congrArg (fun x => Outcome.returned (some (Value.int x))) (so_e hf), ht⟩) fl0 dX7_sumOfUses_28
set_option maxHeartbeats 4000000 in
set_option maxRecDepth 100000 in
theorem c_X7_sumOfUsedWays (l : Launch) (dC : Nat → ClassId) (dI : Nat → Nat → Nat) (cI cZ : ClassId) (a : Nat → Nat) (M : Mem) (z : Int32) (hf : fX7_sumOfUsedWays M  = some z) : Met l yX7_sumOfUsedWays wsX7_sumOfUsedWays ({ frames := 1, cells := 0, slots := 0, locals := 20 } : Room) (va_Pc [.ref (a 0)] (RO (dC, dI) cI cZ (wX7 cI cZ a M))) (k2_QcV (.int z)) 0 0 (fun _ => False) := by
  refine Met.ofW (cc := cX7_sumOfUsedWays) (maxL := 3) (ret := (some .int)) (by decide) rfl ?_
  intro p e s m args below meth c s₁ B hml hv
  obtain ⟨rfl, hP, hK, hNW⟩ := hv
  have hx := B.exec
  have hb := B.bytes
  have hr := B.returns
  have hts := atoms_spec (ws := wsX7_sumOfUsedWays) B.pre
  have hown : s.vm.findClass RX7 = some m.cls := findClass_of_methodNamed B.named
  have hlocks := B.notSynchronized
  have hinX7 : ∀ w ∈ u_ws RX7 TX7 6, w ∈ wsX7_sumOfUsedWays := by decide +kernel
  have hw1 := hts (.fieldLink RX7 9 "GlideShelves$Tower" "count" "I") (by decide +kernel)
  have hw2 := hts (.fieldLink RX7 22 "GlideShelves$Tower" "places" "[I") (by decide +kernel)
  have hw3 := hts (.fieldLink RX7 25 "GlideShelves$Tower" "uses" "[I") (by decide +kernel)
  have hfX7_sumOfUsedWays_L4 : ∀ (n : Nat) (kx37 : Int32 → Option (Int32)) (hkx37 : ∀ (l1 : Int32), kx37 l1 = some z → ∀ (ls : Array Slot), lv_has ls 3 [(1, .int l1)] → W p l e (headSpec wsX7_sumOfUsedWays ({ frames := 1, cells := 0, slots := 0, locals := 20 } : Room)).room s m ([.ref (a 0)] : List Value).toArray below meth c s.heap [] 0 0 (MQ below (k2_QcV (.int z)) ([.ref (a 0)] : List Value).toArray s 0 0 (fun _ => False)) (F0 m 37 ls [])), ∀ (l1 : Int32) (l2 : Int32), fX7_sumOfUsedWays_L4 M n kx37 l1 l2 = some z → ∀ (ls : Array Slot), lv_has ls 3 [(0, .ref (a 0)), (1, .int l1), (2, .int l2)] → W p l e (headSpec wsX7_sumOfUsedWays ({ frames := 1, cells := 0, slots := 0, locals := 20 } : Room)).room s m ([.ref (a 0)] : List Value).toArray below meth c s.heap [] 0 0 (MQ below (k2_QcV (.int z)) ([.ref (a 0)] : List Value).toArray s 0 0 (fun _ => False)) (F0 m 4 ls []) := by
    intro n
    induction n with
    | zero =>
      intro kx37 hkx37 l1 l2 hf ls hl
      rw [fX7_sumOfUsedWays_L4] at hf
      cases hf
    | succ n ih =>
      intro kx37 hkx37 l1 l2 hf ls hl
      rw [fX7_sumOfUsedWays_L4] at hf
      refine lv_iload_n hx hb dX7_sumOfUsedWays_4 rfl (lv_at hl 2 rfl) ?_
      refine lv_aload_n hx hb dX7_sumOfUsedWays_5 rfl (lv_at hl 0 rfl) ?_
      refine va_get (D := (dC, dI)) (ci := 7) (v := .int (M 0 0)) (C := RX7) (T := TX7) (N := 6) hx hb hts hinX7 hown hK hP 0 rfl rfl 0 (by decide) hw1 (fun _ h9 => h9) rfl dX7_sumOfUsedWays_6 ?_
      refine lv_icmp_ge (tgt := 37) hx hb dX7_sumOfUsedWays_9 (by decide) (fun c9 => ?_) (fun c9 => ?_)
      · have hf := it_t hf c9
        exact hkx37 l1 hf _ (lv_sub hl [1] rfl)
      · have hf := it_f hf c9
        refine lv_iload_n hx hb dX7_sumOfUsedWays_12 rfl (lv_at hl 1 rfl) ?_
        refine lv_aload_n hx hb dX7_sumOfUsedWays_13 rfl (lv_at hl 0 rfl) ?_
        refine va_get (D := (dC, dI)) (ci := 7) (v := .ref (a 2)) (C := RX7) (T := TX7) (N := 6) hx hb hts hinX7 hown hK hP 0 rfl rfl 3 (by decide) hw2 (fun _ h9 => h9) rfl dX7_sumOfUsedWays_14 ?_
        refine lv_iload_n hx hb dX7_sumOfUsedWays_17 rfl (lv_at hl 2 rfl) ?_
        obtain ⟨hi, hf⟩ := gd_s hf
        refine va_iald (D := (dC, dI)) (f := (M 2)) hx hb hK hP 2 0 rfl rfl (inb_in hi) dX7_sumOfUsedWays_18 ?_
        obtain ⟨r19, hc19, hf⟩ := bi_s hf
        refine cRO (W.runS (As := [.int (M 2 l2.toNatClampNeg)]) (rest := [.int l1]) ⟨hx, hb, hml, hown, hts⟩ (c_X7_wayOf l (M 2 l2.toNatClampNeg) r19 hc19) (va_cwS 1 hts gX7_sumOfUsedWays_X7_wayOf rfl rfl rfl (by decide +kernel) ⟨Nat.le_of_ble_eq_true rfl, Nat.le_of_ble_eq_true rfl⟩) ⟨tr_blind, tr_pre⟩ rfl rfl hl.1 rfl (lv_room (Nat.le_of_ble_eq_true rfl)) dX7_sumOfUsedWays_19 ⟨Nat.le_of_ble_eq_true rfl, Nat.le_of_ble_eq_true rfl⟩) ?_
        refine lv_aload_n hx hb dX7_sumOfUsedWays_22 rfl (lv_at hl 0 rfl) ?_
        refine va_get (D := (dC, dI)) (ci := 7) (v := .ref (a 3)) (C := RX7) (T := TX7) (N := 6) hx hb hts hinX7 hown hK hP 0 rfl rfl 4 (by decide) hw3 (fun _ h9 => h9) rfl dX7_sumOfUsedWays_23 ?_
        refine lv_iload_n hx hb dX7_sumOfUsedWays_26 rfl (lv_at hl 2 rfl) ?_
        obtain ⟨hi, hf⟩ := gd_s hf
        refine va_iald (D := (dC, dI)) (f := (M 3)) hx hb hK hP 3 0 rfl rfl (inb_in hi) dX7_sumOfUsedWays_27 ?_
        refine lv_imul hx hb dX7_sumOfUsedWays_28 ?_
        refine lv_iadd hx hb dX7_sumOfUsedWays_29 ?_
        refine lv_istore_n (lv' := [(1, .int (l1 + (r19 * (M 3 l2.toNatClampNeg)))), (0, .ref (a 0)), (2, .int l2)]) hx hb dX7_sumOfUsedWays_30 rfl hl (by decide) rfl (fun ls hl => ?_)
        refine lv_iinc (v := (l2 + (1 : Int32))) (lv' := [(2, .int (l2 + (1 : Int32))), (1, .int (l1 + (r19 * (M 3 l2.toNatClampNeg)))), (0, .ref (a 0))]) hx hb dX7_sumOfUsedWays_31 hl (k := 2) rfl rfl (by decide) rfl (fun ls hl => ?_)
        refine lv_goto (tgt := 4) hx hb dX7_sumOfUsedWays_34 (by decide) ?_
        exact ih kx37 hkx37 (l1 + (r19 * (M 3 l2.toNatClampNeg))) (l2 + (1 : Int32)) hf _ (lv_sub hl [2, 1, 0] rfl)
  have hl := lv_entry ([.ref (a 0)]) (n := 3) (Nat.le_of_ble_eq_true rfl)
  rw [lg_entry_eq]
  generalize (lg_sl ([.ref (a 0)]) ++ List.replicate (3 - (lg_sl ([.ref (a 0)])).length) Slot.unset).toArray = ls at hl ⊢
  have hl : lv_has ls 3 [(0, .ref (a 0))] := hl
  unfold fX7_sumOfUsedWays at hf
  refine lv_iconst (v := (0 : Int32)) hx hb dX7_sumOfUsedWays_0 (by decide) ?_
  refine lv_istore_n (lv' := [(1, .int (0 : Int32)), (0, .ref (a 0))]) hx hb dX7_sumOfUsedWays_1 rfl hl (by decide) rfl (fun ls hl => ?_)
  refine lv_iconst (v := (0 : Int32)) hx hb dX7_sumOfUsedWays_2 (by decide) ?_
  refine lv_istore_n (lv' := [(2, .int (0 : Int32)), (1, .int (0 : Int32)), (0, .ref (a 0))]) hx hb dX7_sumOfUsedWays_3 rfl hl (by decide) rfl (fun ls hl => ?_)
  refine hfX7_sumOfUsedWays_L4 5000 _ (fun l1 hf ls hl => ?_) (0 : Int32) (0 : Int32) hf _ (lv_sub hl [2, 1, 0] rfl)
  refine lv_iload_n hx hb dX7_sumOfUsedWays_37 rfl (lv_at hl 0 rfl) ?_
  exact W.iret (v := l1) hx hb hr (fun t ht hW => ⟨congrArg (fun x => Outcome.returned (some (Value.int x))) (so_e hf), ht⟩) fl0 dX7_sumOfUsedWays_38
set_option maxHeartbeats 4000000 in
set_option maxRecDepth 100000 in
theorem c_X7_mostUsed (l : Launch) (dC : Nat → ClassId) (dI : Nat → Nat → Nat) (cI cZ : ClassId) (a : Nat → Nat) (M : Mem) (a1 : Int32) (z : Int32) (hf : fX7_mostUsed M a1 = some z) : Met l yX7_mostUsed wsX7_mostUsed ({ frames := 0, cells := 0, slots := 0, locals := 0 } : Room) (va_Pc [.ref (a 0), .int a1] (RO (dC, dI) cI cZ (wX7 cI cZ a M))) (k2_QcV (.int z)) 0 0 (fun _ => False) := by
  refine Met.ofW (cc := cX7_mostUsed) (maxL := 5) (ret := (some .int)) (by decide) rfl ?_
  intro p e s m args below meth c s₁ B hml hv
  obtain ⟨rfl, hP, hK, hNW⟩ := hv
  have hx := B.exec
  have hb := B.bytes
  have hr := B.returns
  have hts := atoms_spec (ws := wsX7_mostUsed) B.pre
  have hown : s.vm.findClass RX7 = some m.cls := findClass_of_methodNamed B.named
  have hlocks := B.notSynchronized
  have hinX7 : ∀ w ∈ u_ws RX7 TX7 6, w ∈ wsX7_mostUsed := by decide +kernel
  have hw1 := hts (.fieldLink RX7 9 "GlideShelves$Tower" "count" "I") (by decide +kernel)
  have hw2 := hts (.fieldLink RX7 25 "GlideShelves$Tower" "uses" "[I") (by decide +kernel)
  have hfX7_mostUsed_B54 : ∀ (kb : Int32 → Int32 → Int32 → Option (Int32)) (hkb : ∀ (l1 : Int32) (l2 : Int32) (l3 : Int32), kb l1 l2 l3 = some z → ∀ (ls : Array Slot), lv_has ls 5 [(0, .ref (a 0)), (1, .int l1), (2, .int l2), (3, .int l3)] → W p l e (headSpec wsX7_mostUsed ({ frames := 0, cells := 0, slots := 0, locals := 0 } : Room)).room s m ([.ref (a 0), .int a1] : List Value).toArray below meth c s.heap [] 0 0 (MQ below (k2_QcV (.int z)) ([.ref (a 0), .int a1] : List Value).toArray s 0 0 (fun _ => False)) (F0 m 4 ls [])) (kx60 : Int32 → Option (Int32)) (hkx60 : ∀ (l2 : Int32), kx60 l2 = some z → ∀ (ls : Array Slot), lv_has ls 5 [(2, .int l2)] → W p l e (headSpec wsX7_mostUsed ({ frames := 0, cells := 0, slots := 0, locals := 0 } : Room)).room s m ([.ref (a 0), .int a1] : List Value).toArray below meth c s.heap [] 0 0 (MQ below (k2_QcV (.int z)) ([.ref (a 0), .int a1] : List Value).toArray s 0 0 (fun _ => False)) (F0 m 60 ls [])), ∀ (l1 : Int32) (l2 : Int32) (l3 : Int32), fX7_mostUsed_B54 M kb kx60 l1 l2 l3 = some z → ∀ (ls : Array Slot), lv_has ls 5 [(0, .ref (a 0)), (1, .int l1), (2, .int l2), (3, .int l3)] → W p l e (headSpec wsX7_mostUsed ({ frames := 0, cells := 0, slots := 0, locals := 0 } : Room)).room s m ([.ref (a 0), .int a1] : List Value).toArray below meth c s.heap [] 0 0 (MQ below (k2_QcV (.int z)) ([.ref (a 0), .int a1] : List Value).toArray s 0 0 (fun _ => False)) (F0 m 54 ls []) := by
    intro kb hkb kx60 hkx60 l1 l2 l3 hf ls hl
    unfold fX7_mostUsed_B54 at hf
    refine lv_iinc (v := (l3 + (1 : Int32))) (lv' := [(3, .int (l3 + (1 : Int32))), (0, .ref (a 0)), (1, .int l1), (2, .int l2)]) hx hb dX7_mostUsed_54 hl (k := 3) rfl rfl (by decide) rfl (fun ls hl => ?_)
    refine lv_goto (tgt := 4) hx hb dX7_mostUsed_57 (by decide) ?_
    exact hkb l1 l2 (l3 + (1 : Int32)) hf _ (lv_sub hl [1, 2, 3, 0] rfl)
  have hfX7_mostUsed_B52 : ∀ (kb : Int32 → Int32 → Int32 → Option (Int32)) (hkb : ∀ (l1 : Int32) (l2 : Int32) (l3 : Int32), kb l1 l2 l3 = some z → ∀ (ls : Array Slot), lv_has ls 5 [(0, .ref (a 0)), (1, .int l1), (2, .int l2), (3, .int l3)] → W p l e (headSpec wsX7_mostUsed ({ frames := 0, cells := 0, slots := 0, locals := 0 } : Room)).room s m ([.ref (a 0), .int a1] : List Value).toArray below meth c s.heap [] 0 0 (MQ below (k2_QcV (.int z)) ([.ref (a 0), .int a1] : List Value).toArray s 0 0 (fun _ => False)) (F0 m 4 ls [])) (kx60 : Int32 → Option (Int32)) (hkx60 : ∀ (l2 : Int32), kx60 l2 = some z → ∀ (ls : Array Slot), lv_has ls 5 [(2, .int l2)] → W p l e (headSpec wsX7_mostUsed ({ frames := 0, cells := 0, slots := 0, locals := 0 } : Room)).room s m ([.ref (a 0), .int a1] : List Value).toArray below meth c s.heap [] 0 0 (MQ below (k2_QcV (.int z)) ([.ref (a 0), .int a1] : List Value).toArray s 0 0 (fun _ => False)) (F0 m 60 ls [])), ∀ (l1 : Int32) (l3 : Int32), fX7_mostUsed_B52 M kb kx60 l1 l3 = some z → ∀ (ls : Array Slot), lv_has ls 5 [(0, .ref (a 0)), (1, .int l1), (3, .int l3)] → W p l e (headSpec wsX7_mostUsed ({ frames := 0, cells := 0, slots := 0, locals := 0 } : Room)).room s m ([.ref (a 0), .int a1] : List Value).toArray below meth c s.heap [] 0 0 (MQ below (k2_QcV (.int z)) ([.ref (a 0), .int a1] : List Value).toArray s 0 0 (fun _ => False)) (F0 m 52 ls []) := by
    intro kb hkb kx60 hkx60 l1 l3 hf ls hl
    unfold fX7_mostUsed_B52 at hf
    refine lv_iload_n hx hb dX7_mostUsed_52 rfl (lv_at hl 2 rfl) ?_
    refine lv_istore_n (lv' := [(2, .int l3), (0, .ref (a 0)), (1, .int l1), (3, .int l3)]) hx hb dX7_mostUsed_53 rfl hl (by decide) rfl (fun ls hl => ?_)
    exact hfX7_mostUsed_B54 _ hkb _ hkx60 l1 l3 l3 hf _ (lv_sub hl [1, 2, 0, 3] rfl)
  have hfX7_mostUsed_B25 : ∀ (kb : Int32 → Int32 → Int32 → Option (Int32)) (hkb : ∀ (l1 : Int32) (l2 : Int32) (l3 : Int32), kb l1 l2 l3 = some z → ∀ (ls : Array Slot), lv_has ls 5 [(0, .ref (a 0)), (1, .int l1), (2, .int l2), (3, .int l3)] → W p l e (headSpec wsX7_mostUsed ({ frames := 0, cells := 0, slots := 0, locals := 0 } : Room)).room s m ([.ref (a 0), .int a1] : List Value).toArray below meth c s.heap [] 0 0 (MQ below (k2_QcV (.int z)) ([.ref (a 0), .int a1] : List Value).toArray s 0 0 (fun _ => False)) (F0 m 4 ls [])) (kx60 : Int32 → Option (Int32)) (hkx60 : ∀ (l2 : Int32), kx60 l2 = some z → ∀ (ls : Array Slot), lv_has ls 5 [(2, .int l2)] → W p l e (headSpec wsX7_mostUsed ({ frames := 0, cells := 0, slots := 0, locals := 0 } : Room)).room s m ([.ref (a 0), .int a1] : List Value).toArray below meth c s.heap [] 0 0 (MQ below (k2_QcV (.int z)) ([.ref (a 0), .int a1] : List Value).toArray s 0 0 (fun _ => False)) (F0 m 60 ls [])), ∀ (l1 : Int32) (l2 : Int32) (l3 : Int32) (s0 : Int32), fX7_mostUsed_B25 M kb kx60 l1 l2 l3 s0 = some z → ∀ (ls : Array Slot), lv_has ls 5 [(0, .ref (a 0)), (1, .int l1), (2, .int l2), (3, .int l3)] → W p l e (headSpec wsX7_mostUsed ({ frames := 0, cells := 0, slots := 0, locals := 0 } : Room)).room s m ([.ref (a 0), .int a1] : List Value).toArray below meth c s.heap [] 0 0 (MQ below (k2_QcV (.int z)) ([.ref (a 0), .int a1] : List Value).toArray s 0 0 (fun _ => False)) (F0 m 25 ls [.int s0]) := by
    intro kb hkb kx60 hkx60 l1 l2 l3 s0 hf ls hl
    unfold fX7_mostUsed_B25 at hf
    refine lv_istore (lv' := [(4, .int s0), (0, .ref (a 0)), (1, .int l1), (2, .int l2), (3, .int l3)]) hx hb dX7_mostUsed_25 hl (by decide) rfl (fun ls hl => ?_)
    refine lv_iload hx hb dX7_mostUsed_27 (lv_at hl 0 rfl) ?_
    refine lv_if_eq (tgt := 54) hx hb dX7_mostUsed_29 (by decide) (fun c9 => ?_) (fun c9 => ?_)
    · have hf := it_t hf c9
      exact hfX7_mostUsed_B54 _ hkb _ hkx60 l1 l2 l3 hf _ (lv_sub hl [1, 2, 3, 4] rfl)
    · have hf := it_f hf c9
      refine lv_iload_n hx hb dX7_mostUsed_32 rfl (lv_at hl 3 rfl) ?_
      refine lv_iconst (v := (-1 : Int32)) hx hb dX7_mostUsed_33 (by decide) ?_
      refine lv_icmp_eq (tgt := 52) hx hb dX7_mostUsed_34 (by decide) (fun c9 => ?_) (fun c9 => ?_)
      · have hf := it_t hf c9
        exact hfX7_mostUsed_B52 _ hkb _ hkx60 l1 l3 hf _ (lv_sub hl [1, 2, 4] rfl)
      · have hf := it_f hf c9
        refine lv_aload_n hx hb dX7_mostUsed_37 rfl (lv_at hl 1 rfl) ?_
        refine va_get (D := (dC, dI)) (ci := 7) (v := .ref (a 3)) (C := RX7) (T := TX7) (N := 6) hx hb hts hinX7 hown hK hP 0 rfl rfl 4 (by decide) hw2 (fun _ h9 => h9) rfl dX7_mostUsed_38 ?_
        refine lv_iload_n hx hb dX7_mostUsed_41 rfl (lv_at hl 4 rfl) ?_
        obtain ⟨hi, hf⟩ := gd_s hf
        refine va_iald (D := (dC, dI)) (f := (M 3)) hx hb hK hP 3 0 rfl rfl (inb_in hi) dX7_mostUsed_42 ?_
        refine lv_aload_n hx hb dX7_mostUsed_43 rfl (lv_at hl 1 rfl) ?_
        refine va_get (D := (dC, dI)) (ci := 7) (v := .ref (a 3)) (C := RX7) (T := TX7) (N := 6) hx hb hts hinX7 hown hK hP 0 rfl rfl 4 (by decide) hw2 (fun _ h9 => h9) rfl dX7_mostUsed_44 ?_
        refine lv_iload_n hx hb dX7_mostUsed_47 rfl (lv_at hl 3 rfl) ?_
        obtain ⟨hi, hf⟩ := gd_s hf
        refine va_iald (D := (dC, dI)) (f := (M 3)) hx hb hK hP 3 0 rfl rfl (inb_in hi) dX7_mostUsed_48 ?_
        refine lv_icmp_le (tgt := 54) hx hb dX7_mostUsed_49 (by decide) (fun c9 => ?_) (fun c9 => ?_)
        · have hf := it_t hf c9
          exact hfX7_mostUsed_B54 _ hkb _ hkx60 l1 l2 l3 hf _ (lv_sub hl [1, 2, 3, 4] rfl)
        · have hf := it_f hf c9
          exact hfX7_mostUsed_B52 _ hkb _ hkx60 l1 l3 hf _ (lv_sub hl [1, 2, 4] rfl)
  have hfX7_mostUsed_L4 : ∀ (n : Nat) (kx60 : Int32 → Option (Int32)) (hkx60 : ∀ (l2 : Int32), kx60 l2 = some z → ∀ (ls : Array Slot), lv_has ls 5 [(2, .int l2)] → W p l e (headSpec wsX7_mostUsed ({ frames := 0, cells := 0, slots := 0, locals := 0 } : Room)).room s m ([.ref (a 0), .int a1] : List Value).toArray below meth c s.heap [] 0 0 (MQ below (k2_QcV (.int z)) ([.ref (a 0), .int a1] : List Value).toArray s 0 0 (fun _ => False)) (F0 m 60 ls [])), ∀ (l1 : Int32) (l2 : Int32) (l3 : Int32), fX7_mostUsed_L4 M n kx60 l1 l2 l3 = some z → ∀ (ls : Array Slot), lv_has ls 5 [(0, .ref (a 0)), (1, .int l1), (2, .int l2), (3, .int l3)] → W p l e (headSpec wsX7_mostUsed ({ frames := 0, cells := 0, slots := 0, locals := 0 } : Room)).room s m ([.ref (a 0), .int a1] : List Value).toArray below meth c s.heap [] 0 0 (MQ below (k2_QcV (.int z)) ([.ref (a 0), .int a1] : List Value).toArray s 0 0 (fun _ => False)) (F0 m 4 ls []) := by
    intro n
    induction n with
    | zero =>
      intro kx60 hkx60 l1 l2 l3 hf ls hl
      rw [fX7_mostUsed_L4] at hf
      cases hf
    | succ n ih =>
      intro kx60 hkx60 l1 l2 l3 hf ls hl
      rw [fX7_mostUsed_L4] at hf
      refine lv_iload_n hx hb dX7_mostUsed_4 rfl (lv_at hl 3 rfl) ?_
      refine lv_aload_n hx hb dX7_mostUsed_5 rfl (lv_at hl 0 rfl) ?_
      refine va_get (D := (dC, dI)) (ci := 7) (v := .int (M 0 0)) (C := RX7) (T := TX7) (N := 6) hx hb hts hinX7 hown hK hP 0 rfl rfl 0 (by decide) hw1 (fun _ h9 => h9) rfl dX7_mostUsed_6 ?_
      refine lv_icmp_ge (tgt := 60) hx hb dX7_mostUsed_9 (by decide) (fun c9 => ?_) (fun c9 => ?_)
      · have hf := it_t hf c9
        exact hkx60 l2 hf _ (lv_sub hl [2] rfl)
      · have hf := it_f hf c9
        refine lv_iload_n hx hb dX7_mostUsed_12 rfl (lv_at hl 1 rfl) ?_
        refine lv_iload_n hx hb dX7_mostUsed_13 rfl (lv_at hl 3 rfl) ?_
        refine lv_ishr hx hb dX7_mostUsed_14 ?_
        refine lv_iconst (v := (1 : Int32)) hx hb dX7_mostUsed_15 (by decide) ?_
        refine lv_iand hx hb dX7_mostUsed_16 ?_
        refine lv_if_ne (tgt := 24) hx hb dX7_mostUsed_17 (by decide) (fun c9 => ?_) (fun c9 => ?_)
        · have hf := it_t hf c9
          refine lv_iconst (v := (0 : Int32)) hx hb dX7_mostUsed_24 (by decide) ?_
          exact hfX7_mostUsed_B25 _ (ih kx60 hkx60) _ hkx60 l1 l2 l3 (0 : Int32) hf _ (lv_sub hl [0, 1, 2, 3] rfl)
        · have hf := it_n hf c9
          refine lv_iconst (v := (1 : Int32)) hx hb dX7_mostUsed_20 (by decide) ?_
          refine lv_goto (tgt := 25) hx hb dX7_mostUsed_21 (by decide) ?_
          exact hfX7_mostUsed_B25 _ (ih kx60 hkx60) _ hkx60 l1 l2 l3 (1 : Int32) hf _ (lv_sub hl [0, 1, 2, 3] rfl)
  have hl := lv_entry ([.ref (a 0), .int a1]) (n := 5) (Nat.le_of_ble_eq_true rfl)
  rw [lg_entry_eq]
  generalize (lg_sl ([.ref (a 0), .int a1]) ++ List.replicate (5 - (lg_sl ([.ref (a 0), .int a1])).length) Slot.unset).toArray = ls at hl ⊢
  have hl : lv_has ls 5 [(0, .ref (a 0)), (1, .int a1)] := hl
  unfold fX7_mostUsed at hf
  refine lv_iconst (v := (-1 : Int32)) hx hb dX7_mostUsed_0 (by decide) ?_
  refine lv_istore_n (lv' := [(2, .int (-1 : Int32)), (0, .ref (a 0)), (1, .int a1)]) hx hb dX7_mostUsed_1 rfl hl (by decide) rfl (fun ls hl => ?_)
  refine lv_iconst (v := (0 : Int32)) hx hb dX7_mostUsed_2 (by decide) ?_
  refine lv_istore_n (lv' := [(3, .int (0 : Int32)), (2, .int (-1 : Int32)), (0, .ref (a 0)), (1, .int a1)]) hx hb dX7_mostUsed_3 rfl hl (by decide) rfl (fun ls hl => ?_)
  refine hfX7_mostUsed_L4 5000 _ (fun l2 hf ls hl => ?_) a1 (-1 : Int32) (0 : Int32) hf _ (lv_sub hl [2, 3, 1, 0] rfl)
  refine lv_iload_n hx hb dX7_mostUsed_60 rfl (lv_at hl 0 rfl) ?_
  exact W.iret (v := l2) hx hb hr (fun t ht hW => ⟨congrArg (fun x => Outcome.returned (some (Value.int x))) (so_e hf), ht⟩) fl0 dX7_mostUsed_61
set_option maxHeartbeats 4000000 in
set_option maxRecDepth 100000 in
theorem c_X7_findPacked (l : Launch) (dC : Nat → ClassId) (dI : Nat → Nat → Nat) (cI cZ : ClassId) (a : Nat → Nat) (sz : Nat) (M : Mem) (z : Int32 × Mem) (hf : fX7_findPacked M  = some z) : Met l yX7_findPacked wsX7_findPacked ({ frames := 2, cells := 0, slots := 0, locals := 45 } : Room) (va_Pc [.ref (a 0), .ref (a 5)] (WR (dC, dI) cI cZ (wX7_findPacked cI cZ a M) sz)) (va_Qi (S := Unit) (fun r _ => r = z.1) (fun _ t => WE (dC, dI) cI cZ (wX7_findPacked cI cZ a (sr M 5 (z.2 5))) (va_A (wX7_findPacked cI cZ a M) sz) t) (va_A (wX7_findPacked cI cZ a M) sz)) 0 0 (va_A (wX7_findPacked cI cZ a M) sz) := by
  refine Met.ofW (cc := cX7_findPacked) (maxL := 8) (ret := (some .boolean)) (by decide) rfl ?_
  intro p e s m args below meth c s₁ B hml hv
  obtain ⟨rfl, hsz, hP, hK, hD0, hNW⟩ := hv
  have hx := B.exec
  have hb := B.bytes
  have hr := B.returns
  have hts := atoms_spec (ws := wsX7_findPacked) B.pre
  have hown : s.vm.findClass RX7 = some m.cls := findClass_of_methodNamed B.named
  have hlocks := B.notSynchronized
  have hinX7 : ∀ w ∈ u_ws RX7 TX7 6, w ∈ wsX7_findPacked := by decide +kernel
  have hw1 := hts (.fieldLink RX7 9 "GlideShelves$Tower" "count" "I") (by decide +kernel)
  have hw2 := hts (.fieldLink RX7 18 "GlideShelves$Tower" "heights" "[I") (by decide +kernel)
  subst hsz
  have hD := hD0.self (sz := s.heap.size)
  generalize hAe : va_A (wX7_findPacked cI cZ a M) s.heap.size = A at hD ⊢
  have hA : ∀ q : Nat, s.heap.size ≤ q → A q := fun q h => by rw [← hAe]; exact Or.inr h
  have hS : va_S A s.heap s.heap [] := va_S.rf
  have hfX7_findPacked_B122 : ∀ (kb : Mem → Int32 → Int32 → Int32 → Int32 → Option (Int32 × Mem)) (hkb : ∀ (N : Mem) (l2 : Int32) (l3 : Int32) (l4 : Int32) (l5 : Int32), kb N l2 l3 l4 l5 = some z → ∀ (ls : Array Slot), lv_has ls 8 [(0, .ref (a 0)), (1, .ref (a 5)), (2, .int l2), (3, .int l3), (4, .int l4), (5, .int l5)] → ∀ (H : Heap) (locs : List Loc), va_P (dC, dI) vwCl (wX7_findPacked cI cZ a (sr M 5 (N 5))) H → va_D A (wX7_findPacked cI cZ a (sr M 5 (N 5))) → va_S A s.heap H locs → W p l e (headSpec wsX7_findPacked ({ frames := 2, cells := 0, slots := 0, locals := 45 } : Room)).room s m ([.ref (a 0), .ref (a 5)] : List Value).toArray below meth c H locs 0 0 (MQ below (va_Qi (S := Unit) (fun r _ => r = z.1) (fun _ t => WE (dC, dI) cI cZ (wX7_findPacked cI cZ a (sr M 5 (z.2 5))) A t) A) ([.ref (a 0), .ref (a 5)] : List Value).toArray s 0 0 A) (F0 m 10 ls [])) (kx40 : Mem → Option (Int32 × Mem)) (hkx40 : ∀ (N : Mem), kx40 N = some z → ∀ (ls : Array Slot), lv_has ls 8 [] → ∀ (H : Heap) (locs : List Loc), va_P (dC, dI) vwCl (wX7_findPacked cI cZ a (sr M 5 (N 5))) H → va_D A (wX7_findPacked cI cZ a (sr M 5 (N 5))) → va_S A s.heap H locs → W p l e (headSpec wsX7_findPacked ({ frames := 2, cells := 0, slots := 0, locals := 45 } : Room)).room s m ([.ref (a 0), .ref (a 5)] : List Value).toArray below meth c H locs 0 0 (MQ below (va_Qi (S := Unit) (fun r _ => r = z.1) (fun _ t => WE (dC, dI) cI cZ (wX7_findPacked cI cZ a (sr M 5 (z.2 5))) A t) A) ([.ref (a 0), .ref (a 5)] : List Value).toArray s 0 0 A) (F0 m 40 ls [])) (kx128 : Mem → Option (Int32 × Mem)) (hkx128 : ∀ (N : Mem), kx128 N = some z → ∀ (ls : Array Slot), lv_has ls 8 [] → ∀ (H : Heap) (locs : List Loc), va_P (dC, dI) vwCl (wX7_findPacked cI cZ a (sr M 5 (N 5))) H → va_D A (wX7_findPacked cI cZ a (sr M 5 (N 5))) → va_S A s.heap H locs → W p l e (headSpec wsX7_findPacked ({ frames := 2, cells := 0, slots := 0, locals := 45 } : Room)).room s m ([.ref (a 0), .ref (a 5)] : List Value).toArray below meth c H locs 0 0 (MQ below (va_Qi (S := Unit) (fun r _ => r = z.1) (fun _ t => WE (dC, dI) cI cZ (wX7_findPacked cI cZ a (sr M 5 (z.2 5))) A t) A) ([.ref (a 0), .ref (a 5)] : List Value).toArray s 0 0 A) (F0 m 128 ls [])), ∀ (N : Mem) (l2 : Int32) (l3 : Int32) (l4 : Int32) (l5 : Int32), fX7_findPacked_B122 M kb kx40 kx128 N l2 l3 l4 l5 = some z → ∀ (ls : Array Slot), lv_has ls 8 [(0, .ref (a 0)), (1, .ref (a 5)), (2, .int l2), (3, .int l3), (4, .int l4), (5, .int l5)] → ∀ (H : Heap) (locs : List Loc), va_P (dC, dI) vwCl (wX7_findPacked cI cZ a (sr M 5 (N 5))) H → va_D A (wX7_findPacked cI cZ a (sr M 5 (N 5))) → va_S A s.heap H locs → W p l e (headSpec wsX7_findPacked ({ frames := 2, cells := 0, slots := 0, locals := 45 } : Room)).room s m ([.ref (a 0), .ref (a 5)] : List Value).toArray below meth c H locs 0 0 (MQ below (va_Qi (S := Unit) (fun r _ => r = z.1) (fun _ t => WE (dC, dI) cI cZ (wX7_findPacked cI cZ a (sr M 5 (z.2 5))) A t) A) ([.ref (a 0), .ref (a 5)] : List Value).toArray s 0 0 A) (F0 m 122 ls []) := by
    intro kb hkb kx40 hkx40 kx128 hkx128 N l2 l3 l4 l5 hf ls hl H locs hP hD hS
    unfold fX7_findPacked_B122 at hf
    refine lv_iinc (v := (l5 + (1 : Int32))) (lv' := [(5, .int (l5 + (1 : Int32))), (0, .ref (a 0)), (1, .ref (a 5)), (2, .int l2), (3, .int l3), (4, .int l4)]) hx hb dX7_findPacked_122 hl (k := 5) rfl rfl (by decide) rfl (fun ls hl => ?_)
    refine lv_goto (tgt := 10) hx hb dX7_findPacked_125 (by decide) ?_
    exact hkb (sr M 5 (N 5)) l2 l3 l4 (l5 + (1 : Int32)) hf _ (lv_sub hl [1, 2, 3, 4, 5, 0] rfl) _ _ hP hD hS
  have hfX7_findPacked_L10 : ∀ (n : Nat) (kx40 : Mem → Option (Int32 × Mem)) (hkx40 : ∀ (N : Mem), kx40 N = some z → ∀ (ls : Array Slot), lv_has ls 8 [] → ∀ (H : Heap) (locs : List Loc), va_P (dC, dI) vwCl (wX7_findPacked cI cZ a (sr M 5 (N 5))) H → va_D A (wX7_findPacked cI cZ a (sr M 5 (N 5))) → va_S A s.heap H locs → W p l e (headSpec wsX7_findPacked ({ frames := 2, cells := 0, slots := 0, locals := 45 } : Room)).room s m ([.ref (a 0), .ref (a 5)] : List Value).toArray below meth c H locs 0 0 (MQ below (va_Qi (S := Unit) (fun r _ => r = z.1) (fun _ t => WE (dC, dI) cI cZ (wX7_findPacked cI cZ a (sr M 5 (z.2 5))) A t) A) ([.ref (a 0), .ref (a 5)] : List Value).toArray s 0 0 A) (F0 m 40 ls [])) (kx62 : Mem → Option (Int32 × Mem)) (hkx62 : ∀ (N : Mem), kx62 N = some z → ∀ (ls : Array Slot), lv_has ls 8 [] → ∀ (H : Heap) (locs : List Loc), va_P (dC, dI) vwCl (wX7_findPacked cI cZ a (sr M 5 (N 5))) H → va_D A (wX7_findPacked cI cZ a (sr M 5 (N 5))) → va_S A s.heap H locs → W p l e (headSpec wsX7_findPacked ({ frames := 2, cells := 0, slots := 0, locals := 45 } : Room)).room s m ([.ref (a 0), .ref (a 5)] : List Value).toArray below meth c H locs 0 0 (MQ below (va_Qi (S := Unit) (fun r _ => r = z.1) (fun _ t => WE (dC, dI) cI cZ (wX7_findPacked cI cZ a (sr M 5 (z.2 5))) A t) A) ([.ref (a 0), .ref (a 5)] : List Value).toArray s 0 0 A) (F0 m 62 ls [])) (kx128 : Mem → Option (Int32 × Mem)) (hkx128 : ∀ (N : Mem), kx128 N = some z → ∀ (ls : Array Slot), lv_has ls 8 [] → ∀ (H : Heap) (locs : List Loc), va_P (dC, dI) vwCl (wX7_findPacked cI cZ a (sr M 5 (N 5))) H → va_D A (wX7_findPacked cI cZ a (sr M 5 (N 5))) → va_S A s.heap H locs → W p l e (headSpec wsX7_findPacked ({ frames := 2, cells := 0, slots := 0, locals := 45 } : Room)).room s m ([.ref (a 0), .ref (a 5)] : List Value).toArray below meth c H locs 0 0 (MQ below (va_Qi (S := Unit) (fun r _ => r = z.1) (fun _ t => WE (dC, dI) cI cZ (wX7_findPacked cI cZ a (sr M 5 (z.2 5))) A t) A) ([.ref (a 0), .ref (a 5)] : List Value).toArray s 0 0 A) (F0 m 128 ls [])), ∀ (N : Mem) (l2 : Int32) (l3 : Int32) (l4 : Int32) (l5 : Int32), fX7_findPacked_L10 M n kx40 kx62 kx128 N l2 l3 l4 l5 = some z → ∀ (ls : Array Slot), lv_has ls 8 [(0, .ref (a 0)), (1, .ref (a 5)), (2, .int l2), (3, .int l3), (4, .int l4), (5, .int l5)] → ∀ (H : Heap) (locs : List Loc), va_P (dC, dI) vwCl (wX7_findPacked cI cZ a (sr M 5 (N 5))) H → va_D A (wX7_findPacked cI cZ a (sr M 5 (N 5))) → va_S A s.heap H locs → W p l e (headSpec wsX7_findPacked ({ frames := 2, cells := 0, slots := 0, locals := 45 } : Room)).room s m ([.ref (a 0), .ref (a 5)] : List Value).toArray below meth c H locs 0 0 (MQ below (va_Qi (S := Unit) (fun r _ => r = z.1) (fun _ t => WE (dC, dI) cI cZ (wX7_findPacked cI cZ a (sr M 5 (z.2 5))) A t) A) ([.ref (a 0), .ref (a 5)] : List Value).toArray s 0 0 A) (F0 m 10 ls []) := by
    intro n
    induction n with
    | zero =>
      intro kx40 hkx40 kx62 hkx62 kx128 hkx128 N l2 l3 l4 l5 hf ls hl H locs hP hD hS
      rw [fX7_findPacked_L10] at hf
      cases hf
    | succ n ih =>
      intro kx40 hkx40 kx62 hkx62 kx128 hkx128 N l2 l3 l4 l5 hf ls hl H locs hP hD hS
      rw [fX7_findPacked_L10] at hf
      refine lv_iload hx hb dX7_findPacked_10 (lv_at hl 5 rfl) ?_
      refine lv_aload_n hx hb dX7_findPacked_12 rfl (lv_at hl 0 rfl) ?_
      refine va_get (D := (dC, dI)) (ci := 7) (v := .int (M 0 0)) (C := RX7) (T := TX7) (N := 6) hx hb hts hinX7 hown hK hP 0 rfl rfl 0 (by decide) hw1 (fun _ h9 => h9) rfl dX7_findPacked_13 ?_
      refine lv_icmp_ge (tgt := 128) hx hb dX7_findPacked_16 (by decide) (fun c9 => ?_) (fun c9 => ?_)
      · have hf := it_t hf c9
        exact hkx128 (sr M 5 (N 5)) hf _ (lv_sub hl [] rfl) _ _ hP hD hS
      · have hf := it_f hf c9
        refine lv_aload_n hx hb dX7_findPacked_19 rfl (lv_at hl 0 rfl) ?_
        refine lv_iload hx hb dX7_findPacked_20 (lv_at hl 4 rfl) ?_
        obtain ⟨r22, hc22, hf⟩ := bi_s hf
        have hPc := hP.sub (ws' := (wX7 cI cZ a (sr M 5 (N 5)))) [0, 1, 2, 3, 4] rfl
        refine cRO (W.runV (As := [.int l4]) (rest := []) ⟨hx, hb, hml, hown, hts⟩ (c_X7_mostUsed l dC dI cI cZ a (sr M 5 (N 5)) l4 r22 hc22) (cwV 1 hts gX7_findPacked_X7_mostUsed rfl rfl rfl (by decide +kernel) ⟨Nat.le_of_ble_eq_true rfl, Nat.le_of_ble_eq_true rfl⟩) ⟨RO.blind, va_recv hK hP (ci := 7) (q0 := 0) rfl rfl, RO.pre hPc hK hNW⟩ rfl rfl hl.1 rfl (lv_room (Nat.le_of_ble_eq_true rfl)) dX7_findPacked_22 ⟨Nat.le_of_ble_eq_true rfl, Nat.le_of_ble_eq_true rfl⟩) ?_
        refine lv_istore (lv' := [(6, .int r22), (0, .ref (a 0)), (1, .ref (a 5)), (2, .int l2), (3, .int l3), (4, .int l4), (5, .int l5)]) hx hb dX7_findPacked_25 hl (by decide) rfl (fun ls hl => ?_)
        refine lv_iload hx hb dX7_findPacked_27 (lv_at hl 0 rfl) ?_
        refine lv_iconst (v := (-1 : Int32)) hx hb dX7_findPacked_29 (by decide) ?_
        refine lv_icmp_eq (tgt := 40) hx hb dX7_findPacked_30 (by decide) (fun c9 => ?_) (fun c9 => ?_)
        · have hf := it_t hf c9
          exact hkx40 (sr M 5 (N 5)) hf _ (lv_sub hl [] rfl) _ _ hP hD hS
        · have hf := it_f hf c9
          refine lv_iload hx hb dX7_findPacked_33 (lv_at hl 0 rfl) ?_
          refine lv_aload_n hx hb dX7_findPacked_35 rfl (lv_at hl 2 rfl) ?_
          refine va_alen (v := (12 : Int32)) hx hb hK hP 5 0 rfl rfl rfl dX7_findPacked_36 ?_
          refine lv_icmp_lt (tgt := 42) hx hb dX7_findPacked_37 (by decide) (fun c9 => ?_) (fun c9 => ?_)
          · have hf := it_t hf c9
            refine lv_iload_n hx hb dX7_findPacked_42 rfl (lv_at hl 3 rfl) ?_
            refine lv_iload_n hx hb dX7_findPacked_43 rfl (lv_at hl 4 rfl) ?_
            refine lv_aload_n hx hb dX7_findPacked_44 rfl (lv_at hl 1 rfl) ?_
            refine va_get (D := (dC, dI)) (ci := 7) (v := .ref (a 1)) (C := RX7) (T := TX7) (N := 6) hx hb hts hinX7 hown hK hP 0 rfl rfl 2 (by decide) hw2 (fun _ h9 => h9) rfl dX7_findPacked_45 ?_
            refine lv_iload hx hb dX7_findPacked_48 (lv_at hl 0 rfl) ?_
            obtain ⟨hi, hf⟩ := gd_s hf
            refine va_iald (D := (dC, dI)) (f := (M 1)) hx hb hK hP 1 0 rfl rfl (inb_in hi) dX7_findPacked_50 ?_
            obtain ⟨r51, hc51, hf⟩ := bi_s hf
            refine cRO (W.runS (As := [.int l2, .int l3, .int (M 1 r22.toNatClampNeg)]) (rest := []) ⟨hx, hb, hml, hown, hts⟩ (c_X7_firstFit l l2 l3 (M 1 r22.toNatClampNeg) r51 hc51) (va_cwS 3 hts gX7_findPacked_X7_firstFit rfl rfl rfl (by decide +kernel) ⟨Nat.le_of_ble_eq_true rfl, Nat.le_of_ble_eq_true rfl⟩) ⟨tr_blind, tr_pre⟩ rfl rfl hl.1 rfl (lv_room (Nat.le_of_ble_eq_true rfl)) dX7_findPacked_51 ⟨Nat.le_of_ble_eq_true rfl, Nat.le_of_ble_eq_true rfl⟩) ?_
            refine lv_istore (lv' := [(7, .int r51), (6, .int r22), (0, .ref (a 0)), (1, .ref (a 5)), (2, .int l2), (3, .int l3), (4, .int l4), (5, .int l5)]) hx hb dX7_findPacked_54 hl (by decide) rfl (fun ls hl => ?_)
            refine lv_iload hx hb dX7_findPacked_56 (lv_at hl 0 rfl) ?_
            refine lv_iconst (v := (-1 : Int32)) hx hb dX7_findPacked_58 (by decide) ?_
            refine lv_icmp_ne (tgt := 64) hx hb dX7_findPacked_59 (by decide) (fun c9 => ?_) (fun c9 => ?_)
            · have hf := it_t hf c9
              refine lv_aload_n hx hb dX7_findPacked_64 rfl (lv_at hl 3 rfl) ?_
              refine lv_iload hx hb dX7_findPacked_65 (lv_at hl 1 rfl) ?_
              refine lv_iload hx hb dX7_findPacked_67 (lv_at hl 0 rfl) ?_
              obtain ⟨hi, hf⟩ := gd_s hf
              refine va_iast (D := (dC, dI)) (f := (N 5)) hx hb hK hP hD hS 5 0 rfl rfl (inb_in hi) dX7_findPacked_69 (fun H locs hP hD hS => ?_)
              have hP : va_P (dC, dI) vwCl (wX7_findPacked cI cZ a (sr M 5 (upd (N 5) r22.toNatClampNeg r51))) H := hP
              have hD : va_D A (wX7_findPacked cI cZ a (sr M 5 (upd (N 5) r22.toNatClampNeg r51))) := hD
              refine lv_iload hx hb dX7_findPacked_70 (lv_at hl 6 rfl) ?_
              refine lv_iconst (v := (1 : Int32)) hx hb dX7_findPacked_72 (by decide) ?_
              refine lv_iload hx hb dX7_findPacked_73 (lv_at hl 1 rfl) ?_
              refine lv_ishl hx hb dX7_findPacked_75 ?_
              refine lv_ior hx hb dX7_findPacked_76 ?_
              refine lv_istore (lv' := [(4, .int (l4 ||| ((1 : Int32) <<< (r22 &&& 31)))), (7, .int r51), (6, .int r22), (0, .ref (a 0)), (1, .ref (a 5)), (2, .int l2), (3, .int l3), (5, .int l5)]) hx hb dX7_findPacked_77 hl (by decide) rfl (fun ls hl => ?_)
              refine lv_iload hx hb dX7_findPacked_79 (lv_at hl 1 rfl) ?_
              refine lv_bipush (v := (20 : Int32)) hx hb dX7_findPacked_81 (by decide) ?_
              refine lv_icmp_ge (tgt := 104) hx hb dX7_findPacked_83 (by decide) (fun c9 => ?_) (fun c9 => ?_)
              · have hf := it_t hf c9
                refine lv_iload_n hx hb dX7_findPacked_104 rfl (lv_at hl 6 rfl) ?_
                refine lv_iload hx hb dX7_findPacked_105 (lv_at hl 1 rfl) ?_
                refine lv_bipush (v := (20 : Int32)) hx hb dX7_findPacked_107 (by decide) ?_
                refine lv_isub hx hb dX7_findPacked_109 ?_
                refine lv_aload_n hx hb dX7_findPacked_110 rfl (lv_at hl 3 rfl) ?_
                refine va_get (D := (dC, dI)) (ci := 7) (v := .ref (a 1)) (C := RX7) (T := TX7) (N := 6) hx hb hts hinX7 hown hK hP 0 rfl rfl 2 (by decide) hw2 (fun _ h9 => h9) rfl dX7_findPacked_111 ?_
                refine lv_iload hx hb dX7_findPacked_114 (lv_at hl 2 rfl) ?_
                obtain ⟨hi, hf⟩ := gd_s hf
                refine va_iald (D := (dC, dI)) (f := (M 1)) hx hb hK hP 1 0 rfl rfl (inb_in hi) dX7_findPacked_116 ?_
                obtain ⟨r117, hc117, hf⟩ := bi_s hf
                refine cRO (W.runS (As := [.int (r51 - (20 : Int32)), .int (M 1 r22.toNatClampNeg)]) (rest := [.int l3]) ⟨hx, hb, hml, hown, hts⟩ (c_X7_rowOf l (r51 - (20 : Int32)) (M 1 r22.toNatClampNeg) r117 hc117) (va_cwS 2 hts gX7_findPacked_X7_rowOf rfl rfl rfl (by decide +kernel) ⟨Nat.le_of_ble_eq_true rfl, Nat.le_of_ble_eq_true rfl⟩) ⟨tr_blind, tr_pre⟩ rfl rfl hl.1 rfl (lv_room (Nat.le_of_ble_eq_true rfl)) dX7_findPacked_117 ⟨Nat.le_of_ble_eq_true rfl, Nat.le_of_ble_eq_true rfl⟩) ?_
                refine lv_ior hx hb dX7_findPacked_120 ?_
                refine lv_istore_n (lv' := [(3, .int (l3 ||| r117)), (4, .int (l4 ||| ((1 : Int32) <<< (r22 &&& 31)))), (7, .int r51), (6, .int r22), (0, .ref (a 0)), (1, .ref (a 5)), (2, .int l2), (5, .int l5)]) hx hb dX7_findPacked_121 rfl hl (by decide) rfl (fun ls hl => ?_)
                exact hfX7_findPacked_B122 _ (ih kx40 hkx40 kx62 hkx62 kx128 hkx128) _ hkx40 _ hkx128 (sr M 5 (upd (N 5) r22.toNatClampNeg r51)) l2 (l3 ||| r117) (l4 ||| ((1 : Int32) <<< (r22 &&& 31))) l5 hf _ (lv_sub hl [4, 5, 6, 0, 1, 7] rfl) _ _ hP hD hS
              · have hf := it_f hf c9
                refine lv_iload_n hx hb dX7_findPacked_86 rfl (lv_at hl 5 rfl) ?_
                refine lv_iload hx hb dX7_findPacked_87 (lv_at hl 1 rfl) ?_
                refine lv_aload_n hx hb dX7_findPacked_89 rfl (lv_at hl 3 rfl) ?_
                refine va_get (D := (dC, dI)) (ci := 7) (v := .ref (a 1)) (C := RX7) (T := TX7) (N := 6) hx hb hts hinX7 hown hK hP 0 rfl rfl 2 (by decide) hw2 (fun _ h9 => h9) rfl dX7_findPacked_90 ?_
                refine lv_iload hx hb dX7_findPacked_93 (lv_at hl 2 rfl) ?_
                obtain ⟨hi, hf⟩ := gd_s hf
                refine va_iald (D := (dC, dI)) (f := (M 1)) hx hb hK hP 1 0 rfl rfl (inb_in hi) dX7_findPacked_95 ?_
                obtain ⟨r96, hc96, hf⟩ := bi_s hf
                refine cRO (W.runS (As := [.int r51, .int (M 1 r22.toNatClampNeg)]) (rest := [.int l2]) ⟨hx, hb, hml, hown, hts⟩ (c_X7_rowOf l r51 (M 1 r22.toNatClampNeg) r96 hc96) (va_cwS 2 hts gX7_findPacked_X7_rowOf rfl rfl rfl (by decide +kernel) ⟨Nat.le_of_ble_eq_true rfl, Nat.le_of_ble_eq_true rfl⟩) ⟨tr_blind, tr_pre⟩ rfl rfl hl.1 rfl (lv_room (Nat.le_of_ble_eq_true rfl)) dX7_findPacked_96 ⟨Nat.le_of_ble_eq_true rfl, Nat.le_of_ble_eq_true rfl⟩) ?_
                refine lv_ior hx hb dX7_findPacked_99 ?_
                refine lv_istore_n (lv' := [(2, .int (l2 ||| r96)), (4, .int (l4 ||| ((1 : Int32) <<< (r22 &&& 31)))), (7, .int r51), (6, .int r22), (0, .ref (a 0)), (1, .ref (a 5)), (3, .int l3), (5, .int l5)]) hx hb dX7_findPacked_100 rfl hl (by decide) rfl (fun ls hl => ?_)
                refine lv_goto (tgt := 122) hx hb dX7_findPacked_101 (by decide) ?_
                exact hfX7_findPacked_B122 _ (ih kx40 hkx40 kx62 hkx62 kx128 hkx128) _ hkx40 _ hkx128 (sr M 5 (upd (N 5) r22.toNatClampNeg r51)) (l2 ||| r96) l3 (l4 ||| ((1 : Int32) <<< (r22 &&& 31))) l5 hf _ (lv_sub hl [4, 5, 0, 6, 1, 7] rfl) _ _ hP hD hS
            · have hf := it_n hf c9
              exact hkx62 (sr M 5 (N 5)) hf _ (lv_sub hl [] rfl) _ _ hP hD hS
          · have hf := it_f hf c9
            exact hkx40 (sr M 5 (N 5)) hf _ (lv_sub hl [] rfl) _ _ hP hD hS
  have hl := lv_entry ([.ref (a 0), .ref (a 5)]) (n := 8) (Nat.le_of_ble_eq_true rfl)
  rw [lg_entry_eq]
  generalize (lg_sl ([.ref (a 0), .ref (a 5)]) ++ List.replicate (8 - (lg_sl ([.ref (a 0), .ref (a 5)])).length) Slot.unset).toArray = ls at hl ⊢
  have hl : lv_has ls 8 [(0, .ref (a 0)), (1, .ref (a 5))] := hl
  unfold fX7_findPacked at hf
  suffices hgo : ∀ (H : Heap) (locs : List Loc), va_P (dC, dI) vwCl (wX7_findPacked cI cZ a M) H → va_D A (wX7_findPacked cI cZ a M) → va_S A s.heap H locs → W p l e (headSpec wsX7_findPacked ({ frames := 2, cells := 0, slots := 0, locals := 45 } : Room)).room s m ([.ref (a 0), .ref (a 5)] : List Value).toArray below meth c H locs 0 0 (MQ below (va_Qi (S := Unit) (fun r _ => r = z.1) (fun _ t => WE (dC, dI) cI cZ (wX7_findPacked cI cZ a (sr M 5 (z.2 5))) A t) A) ([.ref (a 0), .ref (a 5)] : List Value).toArray s 0 0 A) (F0 m 0 ls []) from hgo _ _ hP hD hS
  intro H locs hP hD hS
  refine lv_iconst (v := (0 : Int32)) hx hb dX7_findPacked_0 (by decide) ?_
  refine lv_istore_n (lv' := [(2, .int (0 : Int32)), (0, .ref (a 0)), (1, .ref (a 5))]) hx hb dX7_findPacked_1 rfl hl (by decide) rfl (fun ls hl => ?_)
  refine lv_iconst (v := (0 : Int32)) hx hb dX7_findPacked_2 (by decide) ?_
  refine lv_istore_n (lv' := [(3, .int (0 : Int32)), (2, .int (0 : Int32)), (0, .ref (a 0)), (1, .ref (a 5))]) hx hb dX7_findPacked_3 rfl hl (by decide) rfl (fun ls hl => ?_)
  refine lv_iconst (v := (0 : Int32)) hx hb dX7_findPacked_4 (by decide) ?_
  refine lv_istore (lv' := [(4, .int (0 : Int32)), (3, .int (0 : Int32)), (2, .int (0 : Int32)), (0, .ref (a 0)), (1, .ref (a 5))]) hx hb dX7_findPacked_5 hl (by decide) rfl (fun ls hl => ?_)
  refine lv_iconst (v := (0 : Int32)) hx hb dX7_findPacked_7 (by decide) ?_
  refine lv_istore (lv' := [(5, .int (0 : Int32)), (4, .int (0 : Int32)), (3, .int (0 : Int32)), (2, .int (0 : Int32)), (0, .ref (a 0)), (1, .ref (a 5))]) hx hb dX7_findPacked_8 hl (by decide) rfl (fun ls hl => ?_)
  refine hfX7_findPacked_L10 5000 _ (fun N hf ls hl H locs hP hD hS => ?_) _ (fun N hf ls hl H locs hP hD hS => ?_) _ (fun N hf ls hl H locs hP hD hS => ?_) M (0 : Int32) (0 : Int32) (0 : Int32) (0 : Int32) hf _ (lv_sub hl [4, 5, 3, 2, 1, 0] rfl) _ _ hP hD hS
  · refine lv_iconst (v := (0 : Int32)) hx hb dX7_findPacked_40 (by decide) ?_
    obtain ⟨hz, hf⟩ := gd_s hf
    have e9 := so_e hf
    subst e9
    exact W.zret (v := (0 : Int32)) hx hb hr (isb_nar hz) (fun t ht hW => ⟨⟨(0 : Int32), (), rfl, rfl, WE.mk hP hD ht⟩, hS.F ht⟩) hS.2.2 dX7_findPacked_41
  · refine lv_iconst (v := (0 : Int32)) hx hb dX7_findPacked_62 (by decide) ?_
    obtain ⟨hz, hf⟩ := gd_s hf
    have e9 := so_e hf
    subst e9
    exact W.zret (v := (0 : Int32)) hx hb hr (isb_nar hz) (fun t ht hW => ⟨⟨(0 : Int32), (), rfl, rfl, WE.mk hP hD ht⟩, hS.F ht⟩) hS.2.2 dX7_findPacked_63
  · refine lv_iconst (v := (1 : Int32)) hx hb dX7_findPacked_128 (by decide) ?_
    obtain ⟨hz, hf⟩ := gd_s hf
    have e9 := so_e hf
    subst e9
    exact W.zret (v := (1 : Int32)) hx hb hr (isb_nar hz) (fun t ht hW => ⟨⟨(1 : Int32), (), rfl, rfl, WE.mk hP hD ht⟩, hS.F ht⟩) hS.2.2 dX7_findPacked_129
set_option maxHeartbeats 4000000 in
set_option maxRecDepth 100000 in
theorem c_X7_countMoved (l : Launch) (dC : Nat → ClassId) (dI : Nat → Nat → Nat) (cI cZ : ClassId) (a : Nat → Nat) (M : Mem) (z : Int32) (hf : fX7_countMoved M  = some z) : Met l yX7_countMoved wsX7_countMoved ({ frames := 0, cells := 0, slots := 0, locals := 0 } : Room) (va_Pc [.ref (a 0), .ref (a 5)] (RO (dC, dI) cI cZ (wX7_countMoved cI cZ a M))) (k2_QcV (.int z)) 0 0 (fun _ => False) := by
  refine Met.ofW (cc := cX7_countMoved) (maxL := 4) (ret := (some .int)) (by decide) rfl ?_
  intro p e s m args below meth c s₁ B hml hv
  obtain ⟨rfl, hP, hK, hNW⟩ := hv
  have hx := B.exec
  have hb := B.bytes
  have hr := B.returns
  have hts := atoms_spec (ws := wsX7_countMoved) B.pre
  have hown : s.vm.findClass RX7 = some m.cls := findClass_of_methodNamed B.named
  have hlocks := B.notSynchronized
  have hinX7 : ∀ w ∈ u_ws RX7 TX7 6, w ∈ wsX7_countMoved := by decide +kernel
  have hw1 := hts (.fieldLink RX7 9 "GlideShelves$Tower" "count" "I") (by decide +kernel)
  have hw2 := hts (.fieldLink RX7 22 "GlideShelves$Tower" "places" "[I") (by decide +kernel)
  have hfX7_countMoved_B33 : ∀ (kb : Int32 → Int32 → Option (Int32)) (hkb : ∀ (l2 : Int32) (l3 : Int32), kb l2 l3 = some z → ∀ (ls : Array Slot), lv_has ls 4 [(0, .ref (a 0)), (1, .ref (a 5)), (2, .int l2), (3, .int l3)] → W p l e (headSpec wsX7_countMoved ({ frames := 0, cells := 0, slots := 0, locals := 0 } : Room)).room s m ([.ref (a 0), .ref (a 5)] : List Value).toArray below meth c s.heap [] 0 0 (MQ below (k2_QcV (.int z)) ([.ref (a 0), .ref (a 5)] : List Value).toArray s 0 0 (fun _ => False)) (F0 m 4 ls [])) (kx39 : Int32 → Option (Int32)) (hkx39 : ∀ (l2 : Int32), kx39 l2 = some z → ∀ (ls : Array Slot), lv_has ls 4 [(2, .int l2)] → W p l e (headSpec wsX7_countMoved ({ frames := 0, cells := 0, slots := 0, locals := 0 } : Room)).room s m ([.ref (a 0), .ref (a 5)] : List Value).toArray below meth c s.heap [] 0 0 (MQ below (k2_QcV (.int z)) ([.ref (a 0), .ref (a 5)] : List Value).toArray s 0 0 (fun _ => False)) (F0 m 39 ls [])), ∀ (l2 : Int32) (l3 : Int32), fX7_countMoved_B33 M kb kx39 l2 l3 = some z → ∀ (ls : Array Slot), lv_has ls 4 [(0, .ref (a 0)), (1, .ref (a 5)), (2, .int l2), (3, .int l3)] → W p l e (headSpec wsX7_countMoved ({ frames := 0, cells := 0, slots := 0, locals := 0 } : Room)).room s m ([.ref (a 0), .ref (a 5)] : List Value).toArray below meth c s.heap [] 0 0 (MQ below (k2_QcV (.int z)) ([.ref (a 0), .ref (a 5)] : List Value).toArray s 0 0 (fun _ => False)) (F0 m 33 ls []) := by
    intro kb hkb kx39 hkx39 l2 l3 hf ls hl
    unfold fX7_countMoved_B33 at hf
    refine lv_iinc (v := (l3 + (1 : Int32))) (lv' := [(3, .int (l3 + (1 : Int32))), (0, .ref (a 0)), (1, .ref (a 5)), (2, .int l2)]) hx hb dX7_countMoved_33 hl (k := 3) rfl rfl (by decide) rfl (fun ls hl => ?_)
    refine lv_goto (tgt := 4) hx hb dX7_countMoved_36 (by decide) ?_
    exact hkb l2 (l3 + (1 : Int32)) hf _ (lv_sub hl [1, 2, 3, 0] rfl)
  have hfX7_countMoved_L4 : ∀ (n : Nat) (kx39 : Int32 → Option (Int32)) (hkx39 : ∀ (l2 : Int32), kx39 l2 = some z → ∀ (ls : Array Slot), lv_has ls 4 [(2, .int l2)] → W p l e (headSpec wsX7_countMoved ({ frames := 0, cells := 0, slots := 0, locals := 0 } : Room)).room s m ([.ref (a 0), .ref (a 5)] : List Value).toArray below meth c s.heap [] 0 0 (MQ below (k2_QcV (.int z)) ([.ref (a 0), .ref (a 5)] : List Value).toArray s 0 0 (fun _ => False)) (F0 m 39 ls [])), ∀ (l2 : Int32) (l3 : Int32), fX7_countMoved_L4 M n kx39 l2 l3 = some z → ∀ (ls : Array Slot), lv_has ls 4 [(0, .ref (a 0)), (1, .ref (a 5)), (2, .int l2), (3, .int l3)] → W p l e (headSpec wsX7_countMoved ({ frames := 0, cells := 0, slots := 0, locals := 0 } : Room)).room s m ([.ref (a 0), .ref (a 5)] : List Value).toArray below meth c s.heap [] 0 0 (MQ below (k2_QcV (.int z)) ([.ref (a 0), .ref (a 5)] : List Value).toArray s 0 0 (fun _ => False)) (F0 m 4 ls []) := by
    intro n
    induction n with
    | zero =>
      intro kx39 hkx39 l2 l3 hf ls hl
      rw [fX7_countMoved_L4] at hf
      cases hf
    | succ n ih =>
      intro kx39 hkx39 l2 l3 hf ls hl
      rw [fX7_countMoved_L4] at hf
      refine lv_iload_n hx hb dX7_countMoved_4 rfl (lv_at hl 3 rfl) ?_
      refine lv_aload_n hx hb dX7_countMoved_5 rfl (lv_at hl 0 rfl) ?_
      refine va_get (D := (dC, dI)) (ci := 7) (v := .int (M 0 0)) (C := RX7) (T := TX7) (N := 6) hx hb hts hinX7 hown hK hP 0 rfl rfl 0 (by decide) hw1 (fun _ h9 => h9) rfl dX7_countMoved_6 ?_
      refine lv_icmp_ge (tgt := 39) hx hb dX7_countMoved_9 (by decide) (fun c9 => ?_) (fun c9 => ?_)
      · have hf := it_t hf c9
        exact hkx39 l2 hf _ (lv_sub hl [2] rfl)
      · have hf := it_f hf c9
        refine lv_iload_n hx hb dX7_countMoved_12 rfl (lv_at hl 3 rfl) ?_
        refine lv_aload_n hx hb dX7_countMoved_13 rfl (lv_at hl 1 rfl) ?_
        refine va_alen (v := (12 : Int32)) hx hb hK hP 5 0 rfl rfl rfl dX7_countMoved_14 ?_
        refine lv_icmp_ge (tgt := 39) hx hb dX7_countMoved_15 (by decide) (fun c9 => ?_) (fun c9 => ?_)
        · have hf := it_t hf c9
          exact hkx39 l2 hf _ (lv_sub hl [2] rfl)
        · have hf := it_f hf c9
          refine lv_aload_n hx hb dX7_countMoved_18 rfl (lv_at hl 1 rfl) ?_
          refine lv_iload_n hx hb dX7_countMoved_19 rfl (lv_at hl 3 rfl) ?_
          obtain ⟨hi, hf⟩ := gd_s hf
          refine va_iald (D := (dC, dI)) (f := (M 5)) hx hb hK hP 5 0 rfl rfl (inb_in hi) dX7_countMoved_20 ?_
          refine lv_aload_n hx hb dX7_countMoved_21 rfl (lv_at hl 0 rfl) ?_
          refine va_get (D := (dC, dI)) (ci := 7) (v := .ref (a 2)) (C := RX7) (T := TX7) (N := 6) hx hb hts hinX7 hown hK hP 0 rfl rfl 3 (by decide) hw2 (fun _ h9 => h9) rfl dX7_countMoved_22 ?_
          refine lv_iload_n hx hb dX7_countMoved_25 rfl (lv_at hl 3 rfl) ?_
          obtain ⟨hi, hf⟩ := gd_s hf
          refine va_iald (D := (dC, dI)) (f := (M 2)) hx hb hK hP 2 0 rfl rfl (inb_in hi) dX7_countMoved_26 ?_
          refine lv_icmp_eq (tgt := 33) hx hb dX7_countMoved_27 (by decide) (fun c9 => ?_) (fun c9 => ?_)
          · have hf := it_t hf c9
            exact hfX7_countMoved_B33 _ (ih kx39 hkx39) _ hkx39 l2 l3 hf _ (lv_sub hl [0, 1, 2, 3] rfl)
          · have hf := it_f hf c9
            refine lv_iinc (v := (l2 + (1 : Int32))) (lv' := [(2, .int (l2 + (1 : Int32))), (0, .ref (a 0)), (1, .ref (a 5)), (3, .int l3)]) hx hb dX7_countMoved_30 hl (k := 2) rfl rfl (by decide) rfl (fun ls hl => ?_)
            exact hfX7_countMoved_B33 _ (ih kx39 hkx39) _ hkx39 (l2 + (1 : Int32)) l3 hf _ (lv_sub hl [1, 2, 0, 3] rfl)
  have hl := lv_entry ([.ref (a 0), .ref (a 5)]) (n := 4) (Nat.le_of_ble_eq_true rfl)
  rw [lg_entry_eq]
  generalize (lg_sl ([.ref (a 0), .ref (a 5)]) ++ List.replicate (4 - (lg_sl ([.ref (a 0), .ref (a 5)])).length) Slot.unset).toArray = ls at hl ⊢
  have hl : lv_has ls 4 [(0, .ref (a 0)), (1, .ref (a 5))] := hl
  unfold fX7_countMoved at hf
  refine lv_iconst (v := (0 : Int32)) hx hb dX7_countMoved_0 (by decide) ?_
  refine lv_istore_n (lv' := [(2, .int (0 : Int32)), (0, .ref (a 0)), (1, .ref (a 5))]) hx hb dX7_countMoved_1 rfl hl (by decide) rfl (fun ls hl => ?_)
  refine lv_iconst (v := (0 : Int32)) hx hb dX7_countMoved_2 (by decide) ?_
  refine lv_istore_n (lv' := [(3, .int (0 : Int32)), (2, .int (0 : Int32)), (0, .ref (a 0)), (1, .ref (a 5))]) hx hb dX7_countMoved_3 rfl hl (by decide) rfl (fun ls hl => ?_)
  refine hfX7_countMoved_L4 5000 _ (fun l2 hf ls hl => ?_) (0 : Int32) (0 : Int32) hf _ (lv_sub hl [2, 3, 1, 0] rfl)
  refine lv_iload_n hx hb dX7_countMoved_39 rfl (lv_at hl 0 rfl) ?_
  exact W.iret (v := l2) hx hb hr (fun t ht hW => ⟨congrArg (fun x => Outcome.returned (some (Value.int x))) (so_e hf), ht⟩) fl0 dX7_countMoved_40
set_option maxHeartbeats 4000000 in
set_option maxRecDepth 100000 in
theorem c_X7_moveTo (l : Launch) (dC : Nat → ClassId) (dI : Nat → Nat → Nat) (cI cZ : ClassId) (a : Nat → Nat) (sz : Nat) (M : Mem) (z : Mem) (hf : fX7_moveTo M  = some z) : Met l yX7_moveTo wsX7_moveTo ({ frames := 0, cells := 0, slots := 0, locals := 0 } : Room) (va_Pc [.ref (a 0), .ref (a 5)] (WR (dC, dI) cI cZ (wX7_moveTo cI cZ a M) sz)) (va_Qv (S := Unit) (fun _ => True) (fun _ t => WE (dC, dI) cI cZ (wX7_moveTo cI cZ a (sr M 2 (z 2))) (va_A (wX7_moveTo cI cZ a M) sz) t) (va_A (wX7_moveTo cI cZ a M) sz)) 0 0 (va_A (wX7_moveTo cI cZ a M) sz) := by
  refine Met.ofW (cc := cX7_moveTo) (maxL := 3) (ret := none) (by decide) rfl ?_
  intro p e s m args below meth c s₁ B hml hv
  obtain ⟨rfl, hsz, hP, hK, hD0, hNW⟩ := hv
  have hx := B.exec
  have hb := B.bytes
  have hr := B.returns
  have hts := atoms_spec (ws := wsX7_moveTo) B.pre
  have hown : s.vm.findClass RX7 = some m.cls := findClass_of_methodNamed B.named
  have hlocks := B.notSynchronized
  have hinX7 : ∀ w ∈ u_ws RX7 TX7 6, w ∈ wsX7_moveTo := by decide +kernel
  have hw1 := hts (.fieldLink RX7 9 "GlideShelves$Tower" "count" "I") (by decide +kernel)
  have hw2 := hts (.fieldLink RX7 22 "GlideShelves$Tower" "places" "[I") (by decide +kernel)
  subst hsz
  have hD := hD0.self (sz := s.heap.size)
  generalize hAe : va_A (wX7_moveTo cI cZ a M) s.heap.size = A at hD ⊢
  have hA : ∀ q : Nat, s.heap.size ≤ q → A q := fun q h => by rw [← hAe]; exact Or.inr h
  have hS : va_S A s.heap s.heap [] := va_S.rf
  have hfX7_moveTo_L2 : ∀ (n : Nat) (kx31 : Mem → Option (Mem)) (hkx31 : ∀ (N : Mem), kx31 N = some z → ∀ (ls : Array Slot), lv_has ls 3 [] → ∀ (H : Heap) (locs : List Loc), va_P (dC, dI) vwCl (wX7_moveTo cI cZ a (sr M 2 (N 2))) H → va_D A (wX7_moveTo cI cZ a (sr M 2 (N 2))) → va_S A s.heap H locs → W p l e (headSpec wsX7_moveTo ({ frames := 0, cells := 0, slots := 0, locals := 0 } : Room)).room s m ([.ref (a 0), .ref (a 5)] : List Value).toArray below meth c H locs 0 0 (MQ below (va_Qv (S := Unit) (fun _ => True) (fun _ t => WE (dC, dI) cI cZ (wX7_moveTo cI cZ a (sr M 2 (z 2))) A t) A) ([.ref (a 0), .ref (a 5)] : List Value).toArray s 0 0 A) (F0 m 31 ls [])), ∀ (N : Mem) (l2 : Int32), fX7_moveTo_L2 M n kx31 N l2 = some z → ∀ (ls : Array Slot), lv_has ls 3 [(0, .ref (a 0)), (1, .ref (a 5)), (2, .int l2)] → ∀ (H : Heap) (locs : List Loc), va_P (dC, dI) vwCl (wX7_moveTo cI cZ a (sr M 2 (N 2))) H → va_D A (wX7_moveTo cI cZ a (sr M 2 (N 2))) → va_S A s.heap H locs → W p l e (headSpec wsX7_moveTo ({ frames := 0, cells := 0, slots := 0, locals := 0 } : Room)).room s m ([.ref (a 0), .ref (a 5)] : List Value).toArray below meth c H locs 0 0 (MQ below (va_Qv (S := Unit) (fun _ => True) (fun _ t => WE (dC, dI) cI cZ (wX7_moveTo cI cZ a (sr M 2 (z 2))) A t) A) ([.ref (a 0), .ref (a 5)] : List Value).toArray s 0 0 A) (F0 m 2 ls []) := by
    intro n
    induction n with
    | zero =>
      intro kx31 hkx31 N l2 hf ls hl H locs hP hD hS
      rw [fX7_moveTo_L2] at hf
      cases hf
    | succ n ih =>
      intro kx31 hkx31 N l2 hf ls hl H locs hP hD hS
      rw [fX7_moveTo_L2] at hf
      refine lv_iload_n hx hb dX7_moveTo_2 rfl (lv_at hl 2 rfl) ?_
      refine lv_aload_n hx hb dX7_moveTo_3 rfl (lv_at hl 0 rfl) ?_
      refine va_get (D := (dC, dI)) (ci := 7) (v := .int (M 0 0)) (C := RX7) (T := TX7) (N := 6) hx hb hts hinX7 hown hK hP 0 rfl rfl 0 (by decide) hw1 (fun _ h9 => h9) rfl dX7_moveTo_4 ?_
      refine lv_icmp_ge (tgt := 31) hx hb dX7_moveTo_7 (by decide) (fun c9 => ?_) (fun c9 => ?_)
      · have hf := it_t hf c9
        exact hkx31 (sr M 2 (N 2)) hf _ (lv_sub hl [] rfl) _ _ hP hD hS
      · have hf := it_f hf c9
        refine lv_iload_n hx hb dX7_moveTo_10 rfl (lv_at hl 2 rfl) ?_
        refine lv_aload_n hx hb dX7_moveTo_11 rfl (lv_at hl 1 rfl) ?_
        refine va_alen (v := (12 : Int32)) hx hb hK hP 5 0 rfl rfl rfl dX7_moveTo_12 ?_
        refine lv_icmp_ge (tgt := 31) hx hb dX7_moveTo_13 (by decide) (fun c9 => ?_) (fun c9 => ?_)
        · have hf := it_t hf c9
          exact hkx31 (sr M 2 (N 2)) hf _ (lv_sub hl [] rfl) _ _ hP hD hS
        · have hf := it_f hf c9
          refine lv_aload_n hx hb dX7_moveTo_16 rfl (lv_at hl 0 rfl) ?_
          refine va_get (D := (dC, dI)) (ci := 7) (v := .ref (a 2)) (C := RX7) (T := TX7) (N := 6) hx hb hts hinX7 hown hK hP 0 rfl rfl 3 (by decide) hw2 (fun _ h9 => h9) rfl dX7_moveTo_17 ?_
          refine lv_iload_n hx hb dX7_moveTo_20 rfl (lv_at hl 2 rfl) ?_
          refine lv_aload_n hx hb dX7_moveTo_21 rfl (lv_at hl 1 rfl) ?_
          refine lv_iload_n hx hb dX7_moveTo_22 rfl (lv_at hl 2 rfl) ?_
          obtain ⟨hi, hf⟩ := gd_s hf
          refine va_iald (D := (dC, dI)) (f := (M 5)) hx hb hK hP 5 0 rfl rfl (inb_in hi) dX7_moveTo_23 ?_
          obtain ⟨hi, hf⟩ := gd_s hf
          refine va_iast (D := (dC, dI)) (f := (N 2)) hx hb hK hP hD hS 2 0 rfl rfl (inb_in hi) dX7_moveTo_24 (fun H locs hP hD hS => ?_)
          have hP : va_P (dC, dI) vwCl (wX7_moveTo cI cZ a (sr M 2 (upd (N 2) l2.toNatClampNeg (M 5 l2.toNatClampNeg)))) H := hP
          have hD : va_D A (wX7_moveTo cI cZ a (sr M 2 (upd (N 2) l2.toNatClampNeg (M 5 l2.toNatClampNeg)))) := hD
          refine lv_iinc (v := (l2 + (1 : Int32))) (lv' := [(2, .int (l2 + (1 : Int32))), (0, .ref (a 0)), (1, .ref (a 5))]) hx hb dX7_moveTo_25 hl (k := 2) rfl rfl (by decide) rfl (fun ls hl => ?_)
          refine lv_goto (tgt := 2) hx hb dX7_moveTo_28 (by decide) ?_
          exact ih kx31 hkx31 (sr M 2 (upd (N 2) l2.toNatClampNeg (M 5 l2.toNatClampNeg))) (l2 + (1 : Int32)) hf _ (lv_sub hl [1, 2, 0] rfl) _ _ hP hD hS
  have hl := lv_entry ([.ref (a 0), .ref (a 5)]) (n := 3) (Nat.le_of_ble_eq_true rfl)
  rw [lg_entry_eq]
  generalize (lg_sl ([.ref (a 0), .ref (a 5)]) ++ List.replicate (3 - (lg_sl ([.ref (a 0), .ref (a 5)])).length) Slot.unset).toArray = ls at hl ⊢
  have hl : lv_has ls 3 [(0, .ref (a 0)), (1, .ref (a 5))] := hl
  unfold fX7_moveTo at hf
  suffices hgo : ∀ (H : Heap) (locs : List Loc), va_P (dC, dI) vwCl (wX7_moveTo cI cZ a M) H → va_D A (wX7_moveTo cI cZ a M) → va_S A s.heap H locs → W p l e (headSpec wsX7_moveTo ({ frames := 0, cells := 0, slots := 0, locals := 0 } : Room)).room s m ([.ref (a 0), .ref (a 5)] : List Value).toArray below meth c H locs 0 0 (MQ below (va_Qv (S := Unit) (fun _ => True) (fun _ t => WE (dC, dI) cI cZ (wX7_moveTo cI cZ a (sr M 2 (z 2))) A t) A) ([.ref (a 0), .ref (a 5)] : List Value).toArray s 0 0 A) (F0 m 0 ls []) from hgo _ _ hP hD hS
  intro H locs hP hD hS
  refine lv_iconst (v := (0 : Int32)) hx hb dX7_moveTo_0 (by decide) ?_
  refine lv_istore_n (lv' := [(2, .int (0 : Int32)), (0, .ref (a 0)), (1, .ref (a 5))]) hx hb dX7_moveTo_1 rfl hl (by decide) rfl (fun ls hl => ?_)
  refine hfX7_moveTo_L2 5000 _ (fun N hf ls hl H locs hP hD hS => ?_) M (0 : Int32) hf _ (lv_sub hl [1, 2, 0] rfl) _ _ hP hD hS
  have e9 := so_e hf
  subst e9
  exact W.vret hx hb hr (fun t ht hW => ⟨⟨(), rfl, trivial, WE.mk hP hD ht⟩, hS.F ht⟩) hS.2.2 dX7_moveTo_31
set_option maxHeartbeats 4000000 in
set_option maxRecDepth 100000 in
theorem c_X2_copyFrom (l : Launch) (dC : Nat → ClassId) (dI : Nat → Nat → Nat) (cI cZ : ClassId) (a : Nat → Nat) (sz : Nat) (M : Mem) (z : Mem) (hf : fX2_copyFrom M  = some z) : Met l yX2_copyFrom wsX2_copyFrom ({ frames := 0, cells := 0, slots := 0, locals := 0 } : Room) (va_Pc [.ref (a 0), .ref (a 3)] (WR (dC, dI) cI cZ (wX2_copyFrom cI cZ a M) sz)) (va_Qv (S := Unit) (fun _ => True) (fun _ t => WE (dC, dI) cI cZ (wX2_copyFrom cI cZ a (sr (sr (sr M 0 (z 0)) 1 (z 1)) 2 (z 2))) (va_A (wX2_copyFrom cI cZ a M) sz) t) (va_A (wX2_copyFrom cI cZ a M) sz)) 0 0 (va_A (wX2_copyFrom cI cZ a M) sz) := by
  refine Met.ofW (cc := cX2_copyFrom) (maxL := 3) (ret := none) (by decide) rfl ?_
  intro p e s m args below meth c s₁ B hml hv
  obtain ⟨rfl, hsz, hP, hK, hD0, hNW⟩ := hv
  have hx := B.exec
  have hb := B.bytes
  have hr := B.returns
  have hts := atoms_spec (ws := wsX2_copyFrom) B.pre
  have hown : s.vm.findClass RX2 = some m.cls := findClass_of_methodNamed B.named
  have hlocks := B.notSynchronized
  have hinX2 : ∀ w ∈ u_ws RX2 TX2 7, w ∈ wsX2_copyFrom := by decide +kernel
  have hw1 := hts (.fieldLink RX2 9 "GlideShelves$Lift" "slot" "I") (by decide +kernel)
  have hw2 := hts (.fieldLink RX2 15 "GlideShelves$Lift" "keepsPlaces" "Z") (by decide +kernel)
  have hw3 := hts (.fieldLink RX2 19 "GlideShelves$Lift" "allTicks" "I") (by decide +kernel)
  have hw4 := hts (.fieldLink RX2 22 "GlideShelves$Lift" "allFetches" "I") (by decide +kernel)
  have hw5 := hts (.fieldLink RX2 25 "GlideShelves$Lift" "remembered" "I") (by decide +kernel)
  have hw6 := hts (.fieldLink RX2 28 "GlideShelves$Lift" "tripSums" "[I") (by decide +kernel)
  have hw7 := hts (.fieldLink RX2 32 "GlideShelves$Lift" "tripBrought" "[Z") (by decide +kernel)
  subst hsz
  have hD := hD0.self (sz := s.heap.size)
  generalize hAe : va_A (wX2_copyFrom cI cZ a M) s.heap.size = A at hD ⊢
  have hA : ∀ q : Nat, s.heap.size ≤ q → A q := fun q h => by rw [← hAe]; exact Or.inr h
  have hS : va_S A s.heap s.heap [] := va_S.rf
  have hfX2_copyFrom_L42 : ∀ (n : Nat) (kx78 : Mem → Option (Mem)) (hkx78 : ∀ (N : Mem), kx78 N = some z → ∀ (ls : Array Slot), lv_has ls 3 [] → ∀ (H : Heap) (locs : List Loc), va_P (dC, dI) vwCl (wX2_copyFrom cI cZ a (sr (sr (sr M 0 (N 0)) 1 (N 1)) 2 (N 2))) H → va_D A (wX2_copyFrom cI cZ a (sr (sr (sr M 0 (N 0)) 1 (N 1)) 2 (N 2))) → va_S A s.heap H locs → W p l e (headSpec wsX2_copyFrom ({ frames := 0, cells := 0, slots := 0, locals := 0 } : Room)).room s m ([.ref (a 0), .ref (a 3)] : List Value).toArray below meth c H locs 0 0 (MQ below (va_Qv (S := Unit) (fun _ => True) (fun _ t => WE (dC, dI) cI cZ (wX2_copyFrom cI cZ a (sr (sr (sr M 0 (z 0)) 1 (z 1)) 2 (z 2))) A t) A) ([.ref (a 0), .ref (a 3)] : List Value).toArray s 0 0 A) (F0 m 78 ls [])), ∀ (N : Mem) (l2 : Int32), fX2_copyFrom_L42 M n kx78 N l2 = some z → ∀ (ls : Array Slot), lv_has ls 3 [(0, .ref (a 0)), (1, .ref (a 3)), (2, .int l2)] → ∀ (H : Heap) (locs : List Loc), va_P (dC, dI) vwCl (wX2_copyFrom cI cZ a (sr (sr (sr M 0 (N 0)) 1 (N 1)) 2 (N 2))) H → va_D A (wX2_copyFrom cI cZ a (sr (sr (sr M 0 (N 0)) 1 (N 1)) 2 (N 2))) → va_S A s.heap H locs → W p l e (headSpec wsX2_copyFrom ({ frames := 0, cells := 0, slots := 0, locals := 0 } : Room)).room s m ([.ref (a 0), .ref (a 3)] : List Value).toArray below meth c H locs 0 0 (MQ below (va_Qv (S := Unit) (fun _ => True) (fun _ t => WE (dC, dI) cI cZ (wX2_copyFrom cI cZ a (sr (sr (sr M 0 (z 0)) 1 (z 1)) 2 (z 2))) A t) A) ([.ref (a 0), .ref (a 3)] : List Value).toArray s 0 0 A) (F0 m 42 ls []) := by
    intro n
    induction n with
    | zero =>
      intro kx78 hkx78 N l2 hf ls hl H locs hP hD hS
      rw [fX2_copyFrom_L42] at hf
      cases hf
    | succ n ih =>
      intro kx78 hkx78 N l2 hf ls hl H locs hP hD hS
      rw [fX2_copyFrom_L42] at hf
      refine lv_iload_n hx hb dX2_copyFrom_42 rfl (lv_at hl 2 rfl) ?_
      refine lv_bipush (v := (8 : Int32)) hx hb dX2_copyFrom_43 (by decide) ?_
      refine lv_icmp_ge (tgt := 78) hx hb dX2_copyFrom_45 (by decide) (fun c9 => ?_) (fun c9 => ?_)
      · have hf := it_t hf c9
        exact hkx78 (sr (sr (sr M 0 (N 0)) 1 (N 1)) 2 (N 2)) hf _ (lv_sub hl [] rfl) _ _ hP hD hS
      · have hf := it_f hf c9
        refine lv_aload_n hx hb dX2_copyFrom_48 rfl (lv_at hl 0 rfl) ?_
        refine va_get (D := (dC, dI)) (ci := 2) (v := .ref (a 1)) (C := RX2) (T := TX2) (N := 7) hx hb hts hinX2 hown hK hP 0 rfl rfl 5 (by decide) hw6 (fun _ h9 => h9) rfl dX2_copyFrom_49 ?_
        refine lv_iload_n hx hb dX2_copyFrom_52 rfl (lv_at hl 2 rfl) ?_
        refine lv_aload_n hx hb dX2_copyFrom_53 rfl (lv_at hl 1 rfl) ?_
        refine va_get (D := (dC, dI)) (ci := 2) (v := .ref (a 4)) (C := RX2) (T := TX2) (N := 7) hx hb hts hinX2 hown hK hP 3 rfl rfl 5 (by decide) hw6 (fun _ h9 => h9) rfl dX2_copyFrom_54 ?_
        refine lv_iload_n hx hb dX2_copyFrom_57 rfl (lv_at hl 2 rfl) ?_
        obtain ⟨hi, hf⟩ := gd_s hf
        refine va_iald (D := (dC, dI)) (f := (M 4)) hx hb hK hP 4 0 rfl rfl (inb_in hi) dX2_copyFrom_58 ?_
        obtain ⟨hi, hf⟩ := gd_s hf
        refine va_iast (D := (dC, dI)) (f := (N 1)) hx hb hK hP hD hS 1 0 rfl rfl (inb_in hi) dX2_copyFrom_59 (fun H locs hP hD hS => ?_)
        have hP : va_P (dC, dI) vwCl (wX2_copyFrom cI cZ a (sr (sr (sr M 0 (N 0)) 1 (upd (N 1) l2.toNatClampNeg (M 4 l2.toNatClampNeg))) 2 (N 2))) H := hP
        have hD : va_D A (wX2_copyFrom cI cZ a (sr (sr (sr M 0 (N 0)) 1 (upd (N 1) l2.toNatClampNeg (M 4 l2.toNatClampNeg))) 2 (N 2))) := hD
        refine lv_aload_n hx hb dX2_copyFrom_60 rfl (lv_at hl 0 rfl) ?_
        refine va_get (D := (dC, dI)) (ci := 2) (v := .ref (a 2)) (C := RX2) (T := TX2) (N := 7) hx hb hts hinX2 hown hK hP 0 rfl rfl 6 (by decide) hw7 (fun _ h9 => h9) rfl dX2_copyFrom_61 ?_
        refine lv_iload_n hx hb dX2_copyFrom_64 rfl (lv_at hl 2 rfl) ?_
        refine lv_aload_n hx hb dX2_copyFrom_65 rfl (lv_at hl 1 rfl) ?_
        refine va_get (D := (dC, dI)) (ci := 2) (v := .ref (a 5)) (C := RX2) (T := TX2) (N := 7) hx hb hts hinX2 hown hK hP 3 rfl rfl 6 (by decide) hw7 (fun _ h9 => h9) rfl dX2_copyFrom_66 ?_
        refine lv_iload_n hx hb dX2_copyFrom_69 rfl (lv_at hl 2 rfl) ?_
        obtain ⟨hi, hf⟩ := gd_s hf
        refine va_zald (D := (dC, dI)) (f := (M 5)) hx hb hK hP 5 1 rfl rfl (inb_in hi) dX2_copyFrom_70 ?_
        obtain ⟨hi, hf⟩ := gd_s hf
        obtain ⟨hz, hf⟩ := gd_s hf
        refine va_zast (D := (dC, dI)) (f := (N 2)) hx hb hK hP hD hS 2 1 rfl rfl (inb_in hi) dX2_copyFrom_71 (fun H locs hP hD hS => ?_)
        rw [isb_vnar hz] at hP hD
        have hP : va_P (dC, dI) vwCl (wX2_copyFrom cI cZ a (sr (sr (sr M 0 (N 0)) 1 (upd (N 1) l2.toNatClampNeg (M 4 l2.toNatClampNeg))) 2 (upd (N 2) l2.toNatClampNeg (M 5 l2.toNatClampNeg)))) H := hP
        have hD : va_D A (wX2_copyFrom cI cZ a (sr (sr (sr M 0 (N 0)) 1 (upd (N 1) l2.toNatClampNeg (M 4 l2.toNatClampNeg))) 2 (upd (N 2) l2.toNatClampNeg (M 5 l2.toNatClampNeg)))) := hD
        refine lv_iinc (v := (l2 + (1 : Int32))) (lv' := [(2, .int (l2 + (1 : Int32))), (0, .ref (a 0)), (1, .ref (a 3))]) hx hb dX2_copyFrom_72 hl (k := 2) rfl rfl (by decide) rfl (fun ls hl => ?_)
        refine lv_goto (tgt := 42) hx hb dX2_copyFrom_75 (by decide) ?_
        exact ih kx78 hkx78 (sr (sr (sr M 0 (N 0)) 1 (upd (N 1) l2.toNatClampNeg (M 4 l2.toNatClampNeg))) 2 (upd (N 2) l2.toNatClampNeg (M 5 l2.toNatClampNeg))) (l2 + (1 : Int32)) hf _ (lv_sub hl [1, 2, 0] rfl) _ _ hP hD hS
  have hl := lv_entry ([.ref (a 0), .ref (a 3)]) (n := 3) (Nat.le_of_ble_eq_true rfl)
  rw [lg_entry_eq]
  generalize (lg_sl ([.ref (a 0), .ref (a 3)]) ++ List.replicate (3 - (lg_sl ([.ref (a 0), .ref (a 3)])).length) Slot.unset).toArray = ls at hl ⊢
  have hl : lv_has ls 3 [(0, .ref (a 0)), (1, .ref (a 3))] := hl
  unfold fX2_copyFrom at hf
  suffices hgo : ∀ (H : Heap) (locs : List Loc), va_P (dC, dI) vwCl (wX2_copyFrom cI cZ a M) H → va_D A (wX2_copyFrom cI cZ a M) → va_S A s.heap H locs → W p l e (headSpec wsX2_copyFrom ({ frames := 0, cells := 0, slots := 0, locals := 0 } : Room)).room s m ([.ref (a 0), .ref (a 3)] : List Value).toArray below meth c H locs 0 0 (MQ below (va_Qv (S := Unit) (fun _ => True) (fun _ t => WE (dC, dI) cI cZ (wX2_copyFrom cI cZ a (sr (sr (sr M 0 (z 0)) 1 (z 1)) 2 (z 2))) A t) A) ([.ref (a 0), .ref (a 3)] : List Value).toArray s 0 0 A) (F0 m 0 ls []) from hgo _ _ hP hD hS
  intro H locs hP hD hS
  refine lv_aload_n hx hb dX2_copyFrom_0 rfl (lv_at hl 0 rfl) ?_
  refine lv_aload_n hx hb dX2_copyFrom_1 rfl (lv_at hl 1 rfl) ?_
  refine va_get (D := (dC, dI)) (ci := 2) (v := .int (M 3 0)) (C := RX2) (T := TX2) (N := 7) hx hb hts hinX2 hown hK hP 3 rfl rfl 0 (by decide) hw1 (fun _ h9 => h9) rfl dX2_copyFrom_2 ?_
  refine va_put (D := (dC, dI)) (ci := 2) (v := .int (M 3 0)) (ty := .int) (C := RX2) (T := TX2) (N := 7) hx hb hts hinX2 tyX2 tyX2_ok nmX2 hown hK hP hD hS 0 rfl rfl 0 (by decide) hw1 (fun _ h9 => h9) rfl (by decide +kernel) rfl rfl (Nat.le_of_ble_eq_true rfl) dX2_copyFrom_5 (fun H locs hP hD hS => ?_)
  have hP : va_P (dC, dI) vwCl (wX2_copyFrom cI cZ a (sr M 0 (upd (M 0) 0 (M 3 0)))) H := hP
  have hD : va_D A (wX2_copyFrom cI cZ a (sr M 0 (upd (M 0) 0 (M 3 0)))) := hD
  refine lv_aload_n hx hb dX2_copyFrom_8 rfl (lv_at hl 0 rfl) ?_
  refine lv_aload_n hx hb dX2_copyFrom_9 rfl (lv_at hl 1 rfl) ?_
  refine va_get (D := (dC, dI)) (ci := 2) (v := .int (M 3 1)) (C := RX2) (T := TX2) (N := 7) hx hb hts hinX2 hown hK hP 3 rfl rfl 1 (by decide) hw2 (fun _ h9 => h9) rfl dX2_copyFrom_10 ?_
  obtain ⟨hz, hf⟩ := gd_s hf
  refine va_put (D := (dC, dI)) (ci := 2) (v := .int (M 3 1)) (ty := .boolean) (C := RX2) (T := TX2) (N := 7) hx hb hts hinX2 tyX2 tyX2_ok nmX2 hown hK hP hD hS 0 rfl rfl 1 (by decide) hw2 (fun _ h9 => h9) rfl (by decide +kernel) (isb_nar hz) (isb_fit hz) (Nat.le_of_ble_eq_true rfl) dX2_copyFrom_13 (fun H locs hP hD hS => ?_)
  have hP : va_P (dC, dI) vwCl (wX2_copyFrom cI cZ a (sr M 0 (upd (upd (M 0) 0 (M 3 0)) 1 (M 3 1)))) H := hP
  have hD : va_D A (wX2_copyFrom cI cZ a (sr M 0 (upd (upd (M 0) 0 (M 3 0)) 1 (M 3 1)))) := hD
  refine lv_aload_n hx hb dX2_copyFrom_16 rfl (lv_at hl 0 rfl) ?_
  refine lv_aload_n hx hb dX2_copyFrom_17 rfl (lv_at hl 1 rfl) ?_
  refine va_get (D := (dC, dI)) (ci := 2) (v := .int (M 3 2)) (C := RX2) (T := TX2) (N := 7) hx hb hts hinX2 hown hK hP 3 rfl rfl 2 (by decide) hw3 (fun _ h9 => h9) rfl dX2_copyFrom_18 ?_
  refine va_put (D := (dC, dI)) (ci := 2) (v := .int (M 3 2)) (ty := .int) (C := RX2) (T := TX2) (N := 7) hx hb hts hinX2 tyX2 tyX2_ok nmX2 hown hK hP hD hS 0 rfl rfl 2 (by decide) hw3 (fun _ h9 => h9) rfl (by decide +kernel) rfl rfl (Nat.le_of_ble_eq_true rfl) dX2_copyFrom_21 (fun H locs hP hD hS => ?_)
  have hP : va_P (dC, dI) vwCl (wX2_copyFrom cI cZ a (sr M 0 (upd (upd (upd (M 0) 0 (M 3 0)) 1 (M 3 1)) 2 (M 3 2)))) H := hP
  have hD : va_D A (wX2_copyFrom cI cZ a (sr M 0 (upd (upd (upd (M 0) 0 (M 3 0)) 1 (M 3 1)) 2 (M 3 2)))) := hD
  refine lv_aload_n hx hb dX2_copyFrom_24 rfl (lv_at hl 0 rfl) ?_
  refine lv_aload_n hx hb dX2_copyFrom_25 rfl (lv_at hl 1 rfl) ?_
  refine va_get (D := (dC, dI)) (ci := 2) (v := .int (M 3 3)) (C := RX2) (T := TX2) (N := 7) hx hb hts hinX2 hown hK hP 3 rfl rfl 3 (by decide) hw4 (fun _ h9 => h9) rfl dX2_copyFrom_26 ?_
  refine va_put (D := (dC, dI)) (ci := 2) (v := .int (M 3 3)) (ty := .int) (C := RX2) (T := TX2) (N := 7) hx hb hts hinX2 tyX2 tyX2_ok nmX2 hown hK hP hD hS 0 rfl rfl 3 (by decide) hw4 (fun _ h9 => h9) rfl (by decide +kernel) rfl rfl (Nat.le_of_ble_eq_true rfl) dX2_copyFrom_29 (fun H locs hP hD hS => ?_)
  have hP : va_P (dC, dI) vwCl (wX2_copyFrom cI cZ a (sr M 0 (upd (upd (upd (upd (M 0) 0 (M 3 0)) 1 (M 3 1)) 2 (M 3 2)) 3 (M 3 3)))) H := hP
  have hD : va_D A (wX2_copyFrom cI cZ a (sr M 0 (upd (upd (upd (upd (M 0) 0 (M 3 0)) 1 (M 3 1)) 2 (M 3 2)) 3 (M 3 3)))) := hD
  refine lv_aload_n hx hb dX2_copyFrom_32 rfl (lv_at hl 0 rfl) ?_
  refine lv_aload_n hx hb dX2_copyFrom_33 rfl (lv_at hl 1 rfl) ?_
  refine va_get (D := (dC, dI)) (ci := 2) (v := .int (M 3 4)) (C := RX2) (T := TX2) (N := 7) hx hb hts hinX2 hown hK hP 3 rfl rfl 4 (by decide) hw5 (fun _ h9 => h9) rfl dX2_copyFrom_34 ?_
  refine va_put (D := (dC, dI)) (ci := 2) (v := .int (M 3 4)) (ty := .int) (C := RX2) (T := TX2) (N := 7) hx hb hts hinX2 tyX2 tyX2_ok nmX2 hown hK hP hD hS 0 rfl rfl 4 (by decide) hw5 (fun _ h9 => h9) rfl (by decide +kernel) rfl rfl (Nat.le_of_ble_eq_true rfl) dX2_copyFrom_37 (fun H locs hP hD hS => ?_)
  have hP : va_P (dC, dI) vwCl (wX2_copyFrom cI cZ a (sr M 0 (upd (upd (upd (upd (upd (M 0) 0 (M 3 0)) 1 (M 3 1)) 2 (M 3 2)) 3 (M 3 3)) 4 (M 3 4)))) H := hP
  have hD : va_D A (wX2_copyFrom cI cZ a (sr M 0 (upd (upd (upd (upd (upd (M 0) 0 (M 3 0)) 1 (M 3 1)) 2 (M 3 2)) 3 (M 3 3)) 4 (M 3 4)))) := hD
  refine lv_iconst (v := (0 : Int32)) hx hb dX2_copyFrom_40 (by decide) ?_
  refine lv_istore_n (lv' := [(2, .int (0 : Int32)), (0, .ref (a 0)), (1, .ref (a 3))]) hx hb dX2_copyFrom_41 rfl hl (by decide) rfl (fun ls hl => ?_)
  refine hfX2_copyFrom_L42 5000 _ (fun N hf ls hl H locs hP hD hS => ?_) (sr M 0 (upd (upd (upd (upd (upd (M 0) 0 (M 3 0)) 1 (M 3 1)) 2 (M 3 2)) 3 (M 3 3)) 4 (M 3 4))) (0 : Int32) hf _ (lv_sub hl [1, 2, 0] rfl) _ _ hP hD hS
  have e9 := so_e hf
  subst e9
  exact W.vret hx hb hr (fun t ht hW => ⟨⟨(), rfl, trivial, WE.mk hP hD ht⟩, hS.F ht⟩) hS.2.2 dX2_copyFrom_78
set_option maxHeartbeats 4000000 in
set_option maxRecDepth 100000 in
theorem c_X2_go (l : Launch) (dC : Nat → ClassId) (dI : Nat → Nat → Nat) (cI cZ : ClassId) (a : Nat → Nat) (sz : Nat) (M : Mem) (a1 : Int32) (a2 : Int32) (a3 : Int32) (z : Mem) (hf : fX2_go M a1 a2 a3 = some z) : Met l yX2_go wsX2_go ({ frames := 1, cells := 0, slots := 0, locals := 40 } : Room) (va_Pc [.ref (a 0), .int a1, .int a2, .int a3] (WR (dC, dI) cI cZ (wX2 cI cZ a M) sz)) (va_Qv (S := Unit) (fun _ => True) (fun _ t => WE (dC, dI) cI cZ (wX2 cI cZ a (sr (sr (sr M 0 (z 0)) 1 (z 1)) 2 (z 2))) (va_A (wX2 cI cZ a M) sz) t) (va_A (wX2 cI cZ a M) sz)) 0 0 (va_A (wX2 cI cZ a M) sz) := by
  refine Met.ofW (cc := cX2_go) (maxL := 5) (ret := none) (by decide) rfl ?_
  intro p e s m args below meth c s₁ B hml hv
  obtain ⟨rfl, hsz, hP, hK, hD0, hNW⟩ := hv
  have hx := B.exec
  have hb := B.bytes
  have hr := B.returns
  have hts := atoms_spec (ws := wsX2_go) B.pre
  have hown : s.vm.findClass RX2 = some m.cls := findClass_of_methodNamed B.named
  have hlocks := B.notSynchronized
  have hinX2 : ∀ w ∈ u_ws RX2 TX2 7, w ∈ wsX2_go := by decide +kernel
  have hw1 := hts (.fieldLink RX2 28 "GlideShelves$Lift" "tripSums" "[I") (by decide +kernel)
  have hw2 := hts (.fieldLink RX2 32 "GlideShelves$Lift" "tripBrought" "[Z") (by decide +kernel)
  have hw3 := hts (.fieldLink RX2 25 "GlideShelves$Lift" "remembered" "I") (by decide +kernel)
  have hw4 := hts (.methodLink RX2 36 Lib.Math.min.name) (by decide +kernel)
  have hw5 := hts (.static Lib.Math.min.name) (by decide +kernel)
  have hw6 := hts (.initialized "java/lang/Math") (by decide +kernel)
  have hw7 := hts (.code Lib.Math.min.name Lib.Math.min.code 2 (some .int)) (by decide +kernel)
  have hw8 := hts (.fieldLink RX2 19 "GlideShelves$Lift" "allTicks" "I") (by decide +kernel)
  have hw9 := hts (.fieldLink RX2 22 "GlideShelves$Lift" "allFetches" "I") (by decide +kernel)
  have hw10 := hts (.fieldLink RX2 9 "GlideShelves$Lift" "slot" "I") (by decide +kernel)
  subst hsz
  have hD := hD0.self (sz := s.heap.size)
  generalize hAe : va_A (wX2 cI cZ a M) s.heap.size = A at hD ⊢
  have hA : ∀ q : Nat, s.heap.size ≤ q → A q := fun q h => by rw [← hAe]; exact Or.inr h
  have hS : va_S A s.heap s.heap [] := va_S.rf
  have hfX2_go_L4 : ∀ (n : Nat) (kx47 : Mem → Int32 → Int32 → Int32 → Option (Mem)) (hkx47 : ∀ (N : Mem) (l1 : Int32) (l2 : Int32) (l3 : Int32), kx47 N l1 l2 l3 = some z → ∀ (ls : Array Slot), lv_has ls 5 [(0, .ref (a 0)), (1, .int l1), (2, .int l2), (3, .int l3)] → ∀ (H : Heap) (locs : List Loc), va_P (dC, dI) vwCl (wX2 cI cZ a (sr (sr (sr M 0 (N 0)) 1 (N 1)) 2 (N 2))) H → va_D A (wX2 cI cZ a (sr (sr (sr M 0 (N 0)) 1 (N 1)) 2 (N 2))) → va_S A s.heap H locs → W p l e (headSpec wsX2_go ({ frames := 1, cells := 0, slots := 0, locals := 40 } : Room)).room s m ([.ref (a 0), .int a1, .int a2, .int a3] : List Value).toArray below meth c H locs 0 0 (MQ below (va_Qv (S := Unit) (fun _ => True) (fun _ t => WE (dC, dI) cI cZ (wX2 cI cZ a (sr (sr (sr M 0 (z 0)) 1 (z 1)) 2 (z 2))) A t) A) ([.ref (a 0), .int a1, .int a2, .int a3] : List Value).toArray s 0 0 A) (F0 m 47 ls [])), ∀ (N : Mem) (l1 : Int32) (l2 : Int32) (l3 : Int32) (l4 : Int32), fX2_go_L4 M n kx47 N l1 l2 l3 l4 = some z → ∀ (ls : Array Slot), lv_has ls 5 [(0, .ref (a 0)), (1, .int l1), (2, .int l2), (3, .int l3), (4, .int l4)] → ∀ (H : Heap) (locs : List Loc), va_P (dC, dI) vwCl (wX2 cI cZ a (sr (sr (sr M 0 (N 0)) 1 (N 1)) 2 (N 2))) H → va_D A (wX2 cI cZ a (sr (sr (sr M 0 (N 0)) 1 (N 1)) 2 (N 2))) → va_S A s.heap H locs → W p l e (headSpec wsX2_go ({ frames := 1, cells := 0, slots := 0, locals := 40 } : Room)).room s m ([.ref (a 0), .int a1, .int a2, .int a3] : List Value).toArray below meth c H locs 0 0 (MQ below (va_Qv (S := Unit) (fun _ => True) (fun _ t => WE (dC, dI) cI cZ (wX2 cI cZ a (sr (sr (sr M 0 (z 0)) 1 (z 1)) 2 (z 2))) A t) A) ([.ref (a 0), .int a1, .int a2, .int a3] : List Value).toArray s 0 0 A) (F0 m 4 ls []) := by
    intro n
    induction n with
    | zero =>
      intro kx47 hkx47 N l1 l2 l3 l4 hf ls hl H locs hP hD hS
      rw [fX2_go_L4] at hf
      cases hf
    | succ n ih =>
      intro kx47 hkx47 N l1 l2 l3 l4 hf ls hl H locs hP hD hS
      rw [fX2_go_L4] at hf
      refine lv_iload hx hb dX2_go_4 (lv_at hl 4 rfl) ?_
      refine lv_if_le (tgt := 47) hx hb dX2_go_6 (by decide) (fun c9 => ?_) (fun c9 => ?_)
      · have hf := it_t hf c9
        exact hkx47 (sr (sr (sr M 0 (N 0)) 1 (N 1)) 2 (N 2)) l1 l2 l3 hf _ (lv_sub hl [0, 1, 2, 3] rfl) _ _ hP hD hS
      · have hf := it_f hf c9
        refine lv_aload_n hx hb dX2_go_9 rfl (lv_at hl 0 rfl) ?_
        refine va_get (D := (dC, dI)) (ci := 2) (v := .ref (a 1)) (C := RX2) (T := TX2) (N := 7) hx hb hts hinX2 hown hK hP 0 rfl rfl 5 (by decide) hw1 (fun _ h9 => h9) rfl dX2_go_10 ?_
        refine lv_iload hx hb dX2_go_13 (lv_at hl 4 rfl) ?_
        refine lv_aload_n hx hb dX2_go_15 rfl (lv_at hl 0 rfl) ?_
        refine va_get (D := (dC, dI)) (ci := 2) (v := .ref (a 1)) (C := RX2) (T := TX2) (N := 7) hx hb hts hinX2 hown hK hP 0 rfl rfl 5 (by decide) hw1 (fun _ h9 => h9) rfl dX2_go_16 ?_
        refine lv_iload hx hb dX2_go_19 (lv_at hl 4 rfl) ?_
        refine lv_iconst (v := (1 : Int32)) hx hb dX2_go_21 (by decide) ?_
        refine lv_isub hx hb dX2_go_22 ?_
        obtain ⟨hi, hf⟩ := gd_s hf
        refine va_iald (D := (dC, dI)) (f := (N 1)) hx hb hK hP 1 0 rfl rfl (inb_in hi) dX2_go_23 ?_
        obtain ⟨hi, hf⟩ := gd_s hf
        refine va_iast (D := (dC, dI)) (f := (N 1)) hx hb hK hP hD hS 1 0 rfl rfl (inb_in hi) dX2_go_24 (fun H locs hP hD hS => ?_)
        have hP : va_P (dC, dI) vwCl (wX2 cI cZ a (sr (sr (sr M 0 (N 0)) 1 (upd (N 1) l4.toNatClampNeg (N 1 (l4 - (1 : Int32)).toNatClampNeg))) 2 (N 2))) H := hP
        have hD : va_D A (wX2 cI cZ a (sr (sr (sr M 0 (N 0)) 1 (upd (N 1) l4.toNatClampNeg (N 1 (l4 - (1 : Int32)).toNatClampNeg))) 2 (N 2))) := hD
        refine lv_aload_n hx hb dX2_go_25 rfl (lv_at hl 0 rfl) ?_
        refine va_get (D := (dC, dI)) (ci := 2) (v := .ref (a 2)) (C := RX2) (T := TX2) (N := 7) hx hb hts hinX2 hown hK hP 0 rfl rfl 6 (by decide) hw2 (fun _ h9 => h9) rfl dX2_go_26 ?_
        refine lv_iload hx hb dX2_go_29 (lv_at hl 4 rfl) ?_
        refine lv_aload_n hx hb dX2_go_31 rfl (lv_at hl 0 rfl) ?_
        refine va_get (D := (dC, dI)) (ci := 2) (v := .ref (a 2)) (C := RX2) (T := TX2) (N := 7) hx hb hts hinX2 hown hK hP 0 rfl rfl 6 (by decide) hw2 (fun _ h9 => h9) rfl dX2_go_32 ?_
        refine lv_iload hx hb dX2_go_35 (lv_at hl 4 rfl) ?_
        refine lv_iconst (v := (1 : Int32)) hx hb dX2_go_37 (by decide) ?_
        refine lv_isub hx hb dX2_go_38 ?_
        obtain ⟨hi, hf⟩ := gd_s hf
        refine va_zald (D := (dC, dI)) (f := (N 2)) hx hb hK hP 2 1 rfl rfl (inb_in hi) dX2_go_39 ?_
        obtain ⟨hi, hf⟩ := gd_s hf
        obtain ⟨hz, hf⟩ := gd_s hf
        refine va_zast (D := (dC, dI)) (f := (N 2)) hx hb hK hP hD hS 2 1 rfl rfl (inb_in hi) dX2_go_40 (fun H locs hP hD hS => ?_)
        rw [isb_vnar hz] at hP hD
        have hP : va_P (dC, dI) vwCl (wX2 cI cZ a (sr (sr (sr M 0 (N 0)) 1 (upd (N 1) l4.toNatClampNeg (N 1 (l4 - (1 : Int32)).toNatClampNeg))) 2 (upd (N 2) l4.toNatClampNeg (N 2 (l4 - (1 : Int32)).toNatClampNeg)))) H := hP
        have hD : va_D A (wX2 cI cZ a (sr (sr (sr M 0 (N 0)) 1 (upd (N 1) l4.toNatClampNeg (N 1 (l4 - (1 : Int32)).toNatClampNeg))) 2 (upd (N 2) l4.toNatClampNeg (N 2 (l4 - (1 : Int32)).toNatClampNeg)))) := hD
        refine lv_iinc (v := (l4 + (-1 : Int32))) (lv' := [(4, .int (l4 + (-1 : Int32))), (0, .ref (a 0)), (1, .int l1), (2, .int l2), (3, .int l3)]) hx hb dX2_go_41 hl (k := 4) rfl rfl (by decide) rfl (fun ls hl => ?_)
        refine lv_goto (tgt := 4) hx hb dX2_go_44 (by decide) ?_
        exact ih kx47 hkx47 (sr (sr (sr M 0 (N 0)) 1 (upd (N 1) l4.toNatClampNeg (N 1 (l4 - (1 : Int32)).toNatClampNeg))) 2 (upd (N 2) l4.toNatClampNeg (N 2 (l4 - (1 : Int32)).toNatClampNeg))) l1 l2 l3 (l4 + (-1 : Int32)) hf _ (lv_sub hl [1, 2, 3, 4, 0] rfl) _ _ hP hD hS
  have hfX2_go_B100 : ∀ (N : Mem) (l3 : Int32) (s1 : Int32) (s2 : Int32), fX2_go_B100 M  N l3 s1 s2 = some z → ∀ (ls : Array Slot), lv_has ls 5 [(0, .ref (a 0)), (3, .int l3)] → ∀ (H : Heap) (locs : List Loc), va_P (dC, dI) vwCl (wX2 cI cZ a (sr (sr (sr M 0 (N 0)) 1 (N 1)) 2 (N 2))) H → va_D A (wX2 cI cZ a (sr (sr (sr M 0 (N 0)) 1 (N 1)) 2 (N 2))) → va_S A s.heap H locs → W p l e (headSpec wsX2_go ({ frames := 1, cells := 0, slots := 0, locals := 40 } : Room)).room s m ([.ref (a 0), .int a1, .int a2, .int a3] : List Value).toArray below meth c H locs 0 0 (MQ below (va_Qv (S := Unit) (fun _ => True) (fun _ t => WE (dC, dI) cI cZ (wX2 cI cZ a (sr (sr (sr M 0 (z 0)) 1 (z 1)) 2 (z 2))) A t) A) ([.ref (a 0), .int a1, .int a2, .int a3] : List Value).toArray s 0 0 A) (F0 m 100 ls [.int s2, .int s1, .ref (a 0)]) := by
    intro  N l3 s1 s2 hf ls hl H locs hP hD hS
    unfold fX2_go_B100 at hf
    refine lv_iadd hx hb dX2_go_100 ?_
    refine va_put (D := (dC, dI)) (ci := 2) (v := .int (s1 + s2)) (ty := .int) (C := RX2) (T := TX2) (N := 7) hx hb hts hinX2 tyX2 tyX2_ok nmX2 hown hK hP hD hS 0 rfl rfl 3 (by decide) hw9 (fun _ h9 => h9) rfl (by decide +kernel) rfl rfl (Nat.le_of_ble_eq_true rfl) dX2_go_101 (fun H locs hP hD hS => ?_)
    have hP : va_P (dC, dI) vwCl (wX2 cI cZ a (sr (sr (sr M 0 (upd (N 0) 3 (s1 + s2))) 1 (N 1)) 2 (N 2))) H := hP
    have hD : va_D A (wX2 cI cZ a (sr (sr (sr M 0 (upd (N 0) 3 (s1 + s2))) 1 (N 1)) 2 (N 2))) := hD
    refine lv_aload_n hx hb dX2_go_104 rfl (lv_at hl 0 rfl) ?_
    refine lv_iload_n hx hb dX2_go_105 rfl (lv_at hl 1 rfl) ?_
    refine va_put (D := (dC, dI)) (ci := 2) (v := .int l3) (ty := .int) (C := RX2) (T := TX2) (N := 7) hx hb hts hinX2 tyX2 tyX2_ok nmX2 hown hK hP hD hS 0 rfl rfl 0 (by decide) hw10 (fun _ h9 => h9) rfl (by decide +kernel) rfl rfl (Nat.le_of_ble_eq_true rfl) dX2_go_106 (fun H locs hP hD hS => ?_)
    have hP : va_P (dC, dI) vwCl (wX2 cI cZ a (sr (sr (sr M 0 (upd (upd (N 0) 3 (s1 + s2)) 0 l3)) 1 (N 1)) 2 (N 2))) H := hP
    have hD : va_D A (wX2 cI cZ a (sr (sr (sr M 0 (upd (upd (N 0) 3 (s1 + s2)) 0 l3)) 1 (N 1)) 2 (N 2))) := hD
    have e9 := so_e hf
    subst e9
    exact W.vret hx hb hr (fun t ht hW => ⟨⟨(), rfl, trivial, WE.mk hP hD ht⟩, hS.F ht⟩) hS.2.2 dX2_go_109
  have hl := lv_entry ([.ref (a 0), .int a1, .int a2, .int a3]) (n := 5) (Nat.le_of_ble_eq_true rfl)
  rw [lg_entry_eq]
  generalize (lg_sl ([.ref (a 0), .int a1, .int a2, .int a3]) ++ List.replicate (5 - (lg_sl ([.ref (a 0), .int a1, .int a2, .int a3])).length) Slot.unset).toArray = ls at hl ⊢
  have hl : lv_has ls 5 [(0, .ref (a 0)), (1, .int a1), (2, .int a2), (3, .int a3)] := hl
  unfold fX2_go at hf
  suffices hgo : ∀ (H : Heap) (locs : List Loc), va_P (dC, dI) vwCl (wX2 cI cZ a M) H → va_D A (wX2 cI cZ a M) → va_S A s.heap H locs → W p l e (headSpec wsX2_go ({ frames := 1, cells := 0, slots := 0, locals := 40 } : Room)).room s m ([.ref (a 0), .int a1, .int a2, .int a3] : List Value).toArray below meth c H locs 0 0 (MQ below (va_Qv (S := Unit) (fun _ => True) (fun _ t => WE (dC, dI) cI cZ (wX2 cI cZ a (sr (sr (sr M 0 (z 0)) 1 (z 1)) 2 (z 2))) A t) A) ([.ref (a 0), .int a1, .int a2, .int a3] : List Value).toArray s 0 0 A) (F0 m 0 ls []) from hgo _ _ hP hD hS
  intro H locs hP hD hS
  refine lv_bipush (v := (7 : Int32)) hx hb dX2_go_0 (by decide) ?_
  refine lv_istore (lv' := [(4, .int (7 : Int32)), (0, .ref (a 0)), (1, .int a1), (2, .int a2), (3, .int a3)]) hx hb dX2_go_2 hl (by decide) rfl (fun ls hl => ?_)
  refine hfX2_go_L4 5000 _ (fun N l1 l2 l3 hf ls hl H locs hP hD hS => ?_) M a1 a2 a3 (7 : Int32) hf _ (lv_sub hl [1, 2, 3, 4, 0] rfl) _ _ hP hD hS
  refine lv_aload_n hx hb dX2_go_47 rfl (lv_at hl 0 rfl) ?_
  refine va_get (D := (dC, dI)) (ci := 2) (v := .ref (a 1)) (C := RX2) (T := TX2) (N := 7) hx hb hts hinX2 hown hK hP 0 rfl rfl 5 (by decide) hw1 (fun _ h9 => h9) rfl dX2_go_48 ?_
  refine lv_iconst (v := (0 : Int32)) hx hb dX2_go_51 (by decide) ?_
  refine lv_iload_n hx hb dX2_go_52 rfl (lv_at hl 1 rfl) ?_
  obtain ⟨hi, hf⟩ := gd_s hf
  refine va_iast (D := (dC, dI)) (f := (N 1)) hx hb hK hP hD hS 1 0 rfl rfl (inb_in hi) dX2_go_53 (fun H locs hP hD hS => ?_)
  have hP : va_P (dC, dI) vwCl (wX2 cI cZ a (sr (sr (sr M 0 (N 0)) 1 (upd (N 1) (0 : Int32).toNatClampNeg l1)) 2 (N 2))) H := hP
  have hD : va_D A (wX2 cI cZ a (sr (sr (sr M 0 (N 0)) 1 (upd (N 1) (0 : Int32).toNatClampNeg l1)) 2 (N 2))) := hD
  refine lv_aload_n hx hb dX2_go_54 rfl (lv_at hl 0 rfl) ?_
  refine va_get (D := (dC, dI)) (ci := 2) (v := .ref (a 2)) (C := RX2) (T := TX2) (N := 7) hx hb hts hinX2 hown hK hP 0 rfl rfl 6 (by decide) hw2 (fun _ h9 => h9) rfl dX2_go_55 ?_
  refine lv_iconst (v := (0 : Int32)) hx hb dX2_go_58 (by decide) ?_
  refine lv_iload_n hx hb dX2_go_59 rfl (lv_at hl 2 rfl) ?_
  obtain ⟨hi, hf⟩ := gd_s hf
  obtain ⟨hz, hf⟩ := gd_s hf
  refine va_zast (D := (dC, dI)) (f := (N 2)) hx hb hK hP hD hS 2 1 rfl rfl (inb_in hi) dX2_go_60 (fun H locs hP hD hS => ?_)
  rw [isb_vnar hz] at hP hD
  have hP : va_P (dC, dI) vwCl (wX2 cI cZ a (sr (sr (sr M 0 (N 0)) 1 (upd (N 1) (0 : Int32).toNatClampNeg l1)) 2 (upd (N 2) (0 : Int32).toNatClampNeg l2))) H := hP
  have hD : va_D A (wX2 cI cZ a (sr (sr (sr M 0 (N 0)) 1 (upd (N 1) (0 : Int32).toNatClampNeg l1)) 2 (upd (N 2) (0 : Int32).toNatClampNeg l2))) := hD
  refine lv_aload_n hx hb dX2_go_61 rfl (lv_at hl 0 rfl) ?_
  refine lv_aload_n hx hb dX2_go_62 rfl (lv_at hl 0 rfl) ?_
  refine va_get (D := (dC, dI)) (ci := 2) (v := .int (N 0 4)) (C := RX2) (T := TX2) (N := 7) hx hb hts hinX2 hown hK hP 0 rfl rfl 4 (by decide) hw3 (fun _ h9 => h9) rfl dX2_go_63 ?_
  refine lv_iconst (v := (1 : Int32)) hx hb dX2_go_66 (by decide) ?_
  refine lv_iadd hx hb dX2_go_67 ?_
  refine lv_bipush (v := (8 : Int32)) hx hb dX2_go_68 (by decide) ?_
  refine va_mmin hx hb (hml.trans hl.1.symm) hown hw4 hw5 hw6 hw7 (Nat.le_of_ble_eq_true rfl) (Nat.le_of_ble_eq_true rfl) (Nat.le_of_ble_eq_true rfl) (Nat.le_of_ble_eq_true rfl) dX2_go_70 ?_
  refine va_put (D := (dC, dI)) (ci := 2) (v := .int (if (8 : Int32) < ((N 0 4) + (1 : Int32)) then (8 : Int32) else ((N 0 4) + (1 : Int32)))) (ty := .int) (C := RX2) (T := TX2) (N := 7) hx hb hts hinX2 tyX2 tyX2_ok nmX2 hown hK hP hD hS 0 rfl rfl 4 (by decide) hw3 (fun _ h9 => h9) rfl (by decide +kernel) rfl rfl (Nat.le_of_ble_eq_true rfl) dX2_go_73 (fun H locs hP hD hS => ?_)
  have hP : va_P (dC, dI) vwCl (wX2 cI cZ a (sr (sr (sr M 0 (upd (N 0) 4 (if (8 : Int32) < ((N 0 4) + (1 : Int32)) then (8 : Int32) else ((N 0 4) + (1 : Int32))))) 1 (upd (N 1) (0 : Int32).toNatClampNeg l1)) 2 (upd (N 2) (0 : Int32).toNatClampNeg l2))) H := hP
  have hD : va_D A (wX2 cI cZ a (sr (sr (sr M 0 (upd (N 0) 4 (if (8 : Int32) < ((N 0 4) + (1 : Int32)) then (8 : Int32) else ((N 0 4) + (1 : Int32))))) 1 (upd (N 1) (0 : Int32).toNatClampNeg l1)) 2 (upd (N 2) (0 : Int32).toNatClampNeg l2))) := hD
  refine lv_aload_n hx hb dX2_go_76 rfl (lv_at hl 0 rfl) ?_
  refine lv_dup hx hb dX2_go_77 rfl ?_
  refine va_get (D := (dC, dI)) (ci := 2) (v := .int (N 0 2)) (C := RX2) (T := TX2) (N := 7) hx hb hts hinX2 hown hK hP 0 rfl rfl 2 (by decide) hw8 (fun _ h9 => h9) rfl dX2_go_78 ?_
  refine lv_iload_n hx hb dX2_go_81 rfl (lv_at hl 1 rfl) ?_
  refine lv_iadd hx hb dX2_go_82 ?_
  refine va_put (D := (dC, dI)) (ci := 2) (v := .int ((N 0 2) + l1)) (ty := .int) (C := RX2) (T := TX2) (N := 7) hx hb hts hinX2 tyX2 tyX2_ok nmX2 hown hK hP hD hS 0 rfl rfl 2 (by decide) hw8 (fun _ h9 => h9) rfl (by decide +kernel) rfl rfl (Nat.le_of_ble_eq_true rfl) dX2_go_83 (fun H locs hP hD hS => ?_)
  have hP : va_P (dC, dI) vwCl (wX2 cI cZ a (sr (sr (sr M 0 (upd (upd (N 0) 4 (if (8 : Int32) < ((N 0 4) + (1 : Int32)) then (8 : Int32) else ((N 0 4) + (1 : Int32)))) 2 ((N 0 2) + l1))) 1 (upd (N 1) (0 : Int32).toNatClampNeg l1)) 2 (upd (N 2) (0 : Int32).toNatClampNeg l2))) H := hP
  have hD : va_D A (wX2 cI cZ a (sr (sr (sr M 0 (upd (upd (N 0) 4 (if (8 : Int32) < ((N 0 4) + (1 : Int32)) then (8 : Int32) else ((N 0 4) + (1 : Int32)))) 2 ((N 0 2) + l1))) 1 (upd (N 1) (0 : Int32).toNatClampNeg l1)) 2 (upd (N 2) (0 : Int32).toNatClampNeg l2))) := hD
  refine lv_aload_n hx hb dX2_go_86 rfl (lv_at hl 0 rfl) ?_
  refine lv_dup hx hb dX2_go_87 rfl ?_
  refine va_get (D := (dC, dI)) (ci := 2) (v := .int (N 0 3)) (C := RX2) (T := TX2) (N := 7) hx hb hts hinX2 hown hK hP 0 rfl rfl 3 (by decide) hw9 (fun _ h9 => h9) rfl dX2_go_88 ?_
  refine lv_iload_n hx hb dX2_go_91 rfl (lv_at hl 2 rfl) ?_
  refine lv_if_eq (tgt := 99) hx hb dX2_go_92 (by decide) (fun c9 => ?_) (fun c9 => ?_)
  · have hf := it_t hf c9
    refine lv_iconst (v := (0 : Int32)) hx hb dX2_go_99 (by decide) ?_
    exact hfX2_go_B100  (sr (sr (sr M 0 (upd (upd (N 0) 4 (if (8 : Int32) < ((N 0 4) + (1 : Int32)) then (8 : Int32) else ((N 0 4) + (1 : Int32)))) 2 ((N 0 2) + l1))) 1 (upd (N 1) (0 : Int32).toNatClampNeg l1)) 2 (upd (N 2) (0 : Int32).toNatClampNeg l2)) l3 (N 0 3) (0 : Int32) hf _ (lv_sub hl [0, 3] rfl) _ _ hP hD hS
  · have hf := it_f hf c9
    refine lv_iconst (v := (1 : Int32)) hx hb dX2_go_95 (by decide) ?_
    refine lv_goto (tgt := 100) hx hb dX2_go_96 (by decide) ?_
    exact hfX2_go_B100  (sr (sr (sr M 0 (upd (upd (N 0) 4 (if (8 : Int32) < ((N 0 4) + (1 : Int32)) then (8 : Int32) else ((N 0 4) + (1 : Int32)))) 2 ((N 0 2) + l1))) 1 (upd (N 1) (0 : Int32).toNatClampNeg l1)) 2 (upd (N 2) (0 : Int32).toNatClampNeg l2)) l3 (N 0 3) (1 : Int32) hf _ (lv_sub hl [0, 3] rfl) _ _ hP hD hS
