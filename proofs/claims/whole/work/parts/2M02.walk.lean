set_option maxHeartbeats 4000000 in
set_option maxRecDepth 100000 in
theorem c_X9_chosen (l : Launch) (dC : Nat → ClassId) (dI : Nat → Nat → Nat) (cI cZ : ClassId) (a : Nat → Nat) (M : Mem) (a1 : Int32) (z : Int32) (hf : fX9_chosen M a1 = some z) : Met l yX9_chosen wsX9_chosen ({ frames := 3, cells := 0, slots := 0, locals := 68 } : Room) (va_Pc [.ref (a 0), .int a1] (RO (dC, dI) cI cZ (wX9 cI cZ a M))) (k2_QcV (.int z)) 0 0 (fun _ => False) := by
  refine Met.ofW (cc := cX9_chosen) (maxL := 5) (ret := (some .int)) (by decide) rfl ?_
  intro p e s m args below meth c s₁ B hml hv
  obtain ⟨rfl, hP, hK, hNW⟩ := hv
  have hx := B.exec
  have hb := B.bytes
  have hr := B.returns
  have hts := atoms_spec (ws := wsX9_chosen) B.pre
  have hown : s.vm.findClass RX9 = some m.cls := findClass_of_methodNamed B.named
  have hlocks := B.notSynchronized
  have hinX9 : ∀ w ∈ u_ws RX9 TX9 13, w ∈ wsX9_chosen := by decide +kernel
  have hw1 := hts (.fieldLink RX9 7 "GlideShelvesModel" "s" "[I") (by decide +kernel)
  have hfX9_chosen_B66 : ∀ (kb : Int32 → Int32 → Int32 → Int32 → Option (Int32)) (hkb : ∀ (l1 : Int32) (l2 : Int32) (l3 : Int32) (l4 : Int32), kb l1 l2 l3 l4 = some z → ∀ (ls : Array Slot), lv_has ls 5 [(0, .ref (a 0)), (1, .int l1), (2, .int l2), (3, .int l3), (4, .int l4)] → W p l e (headSpec wsX9_chosen ({ frames := 3, cells := 0, slots := 0, locals := 68 } : Room)).room s m ([.ref (a 0), .int a1] : List Value).toArray below meth c s.heap [] 0 0 (MQ below (k2_QcV (.int z)) ([.ref (a 0), .int a1] : List Value).toArray s 0 0 (fun _ => False)) (F0 m 20 ls [])) (kx72 : Int32 → Option (Int32)) (hkx72 : ∀ (l2 : Int32), kx72 l2 = some z → ∀ (ls : Array Slot), lv_has ls 5 [(2, .int l2)] → W p l e (headSpec wsX9_chosen ({ frames := 3, cells := 0, slots := 0, locals := 68 } : Room)).room s m ([.ref (a 0), .int a1] : List Value).toArray below meth c s.heap [] 0 0 (MQ below (k2_QcV (.int z)) ([.ref (a 0), .int a1] : List Value).toArray s 0 0 (fun _ => False)) (F0 m 72 ls [])), ∀ (l1 : Int32) (l2 : Int32) (l3 : Int32) (l4 : Int32), fX9_chosen_B66 M kb kx72 l1 l2 l3 l4 = some z → ∀ (ls : Array Slot), lv_has ls 5 [(0, .ref (a 0)), (1, .int l1), (2, .int l2), (3, .int l3), (4, .int l4)] → W p l e (headSpec wsX9_chosen ({ frames := 3, cells := 0, slots := 0, locals := 68 } : Room)).room s m ([.ref (a 0), .int a1] : List Value).toArray below meth c s.heap [] 0 0 (MQ below (k2_QcV (.int z)) ([.ref (a 0), .int a1] : List Value).toArray s 0 0 (fun _ => False)) (F0 m 66 ls []) := by
    intro kb hkb kx72 hkx72 l1 l2 l3 l4 hf ls hl
    unfold fX9_chosen_B66 at hf
    refine lv_iinc (v := (l4 + (1 : Int32))) (lv' := [(4, .int (l4 + (1 : Int32))), (0, .ref (a 0)), (1, .int l1), (2, .int l2), (3, .int l3)]) hx hb dX9_chosen_66 hl (k := 4) rfl rfl (by decide) rfl (fun ls hl => ?_)
    refine lv_goto (tgt := 20) hx hb dX9_chosen_69 (by decide) ?_
    exact hkb l1 l2 l3 (l4 + (1 : Int32)) hf _ (lv_sub hl [1, 2, 3, 4, 0] rfl)
  have hfX9_chosen_L20 : ∀ (n : Nat) (kx72 : Int32 → Option (Int32)) (hkx72 : ∀ (l2 : Int32), kx72 l2 = some z → ∀ (ls : Array Slot), lv_has ls 5 [(2, .int l2)] → W p l e (headSpec wsX9_chosen ({ frames := 3, cells := 0, slots := 0, locals := 68 } : Room)).room s m ([.ref (a 0), .int a1] : List Value).toArray below meth c s.heap [] 0 0 (MQ below (k2_QcV (.int z)) ([.ref (a 0), .int a1] : List Value).toArray s 0 0 (fun _ => False)) (F0 m 72 ls [])), ∀ (l1 : Int32) (l2 : Int32) (l3 : Int32) (l4 : Int32), fX9_chosen_L20 M n kx72 l1 l2 l3 l4 = some z → ∀ (ls : Array Slot), lv_has ls 5 [(0, .ref (a 0)), (1, .int l1), (2, .int l2), (3, .int l3), (4, .int l4)] → W p l e (headSpec wsX9_chosen ({ frames := 3, cells := 0, slots := 0, locals := 68 } : Room)).room s m ([.ref (a 0), .int a1] : List Value).toArray below meth c s.heap [] 0 0 (MQ below (k2_QcV (.int z)) ([.ref (a 0), .int a1] : List Value).toArray s 0 0 (fun _ => False)) (F0 m 20 ls []) := by
    intro n
    induction n with
    | zero =>
      intro kx72 hkx72 l1 l2 l3 l4 hf ls hl
      rw [fX9_chosen_L20] at hf
      cases hf
    | succ n ih =>
      intro kx72 hkx72 l1 l2 l3 l4 hf ls hl
      rw [fX9_chosen_L20] at hf
      refine lv_iload hx hb dX9_chosen_20 (lv_at hl 4 rfl) ?_
      refine lv_iconst (v := (1 : Int32)) hx hb dX9_chosen_22 (by decide) ?_
      refine lv_aload_n hx hb dX9_chosen_23 rfl (lv_at hl 0 rfl) ?_
      refine va_get (D := (dC, dI)) (ci := 9) (v := .ref (a 1)) (C := RX9) (T := TX9) (N := 13) hx hb hts hinX9 hown hK hP 0 rfl rfl 1 (by decide) hw1 (fun _ h9 => h9) rfl dX9_chosen_24 ?_
      refine lv_iconst (v := (0 : Int32)) hx hb dX9_chosen_27 (by decide) ?_
      obtain ⟨hi, hf⟩ := gd_s hf
      refine va_iald (D := (dC, dI)) (f := (M 1)) hx hb hK hP 1 0 rfl rfl (inb_in hi) dX9_chosen_28 ?_
      refine lv_ishl hx hb dX9_chosen_29 ?_
      refine lv_icmp_ge (tgt := 72) hx hb dX9_chosen_30 (by decide) (fun c9 => ?_) (fun c9 => ?_)
      · have hf := it_t hf c9
        exact hkx72 l2 hf _ (lv_sub hl [2] rfl)
      · have hf := it_f hf c9
        refine lv_iload_n hx hb dX9_chosen_33 rfl (lv_at hl 3 rfl) ?_
        refine lv_iconst (v := (1 : Int32)) hx hb dX9_chosen_34 (by decide) ?_
        refine lv_icmp_le (tgt := 72) hx hb dX9_chosen_35 (by decide) (fun c9 => ?_) (fun c9 => ?_)
        · have hf := it_t hf c9
          exact hkx72 l2 hf _ (lv_sub hl [2] rfl)
        · have hf := it_f hf c9
          refine lv_iload hx hb dX9_chosen_38 (lv_at hl 4 rfl) ?_
          obtain ⟨r40, hc40, hf⟩ := bi_s hf
          refine cRO (W.runS (As := [.int l4]) (rest := []) ⟨hx, hb, hml, hown, hts⟩ (c_X9_bits l l4 r40 hc40) (va_cwS 1 hts gX9_chosen_X9_bits rfl rfl rfl (by decide +kernel) ⟨Nat.le_of_ble_eq_true rfl, Nat.le_of_ble_eq_true rfl⟩) ⟨tr_blind, tr_pre⟩ rfl rfl hl.1 rfl (lv_room (Nat.le_of_ble_eq_true rfl)) dX9_chosen_40 ⟨Nat.le_of_ble_eq_true rfl, Nat.le_of_ble_eq_true rfl⟩) ?_
          refine lv_iload_n hx hb dX9_chosen_43 rfl (lv_at hl 3 rfl) ?_
          refine lv_icmp_ge (tgt := 66) hx hb dX9_chosen_44 (by decide) (fun c9 => ?_) (fun c9 => ?_)
          · have hf := it_t hf c9
            exact hfX9_chosen_B66 _ (ih kx72 hkx72) _ hkx72 l1 l2 l3 l4 hf _ (lv_sub hl [0, 1, 2, 3, 4] rfl)
          · have hf := it_f hf c9
            refine lv_aload_n hx hb dX9_chosen_47 rfl (lv_at hl 0 rfl) ?_
            refine lv_iload_n hx hb dX9_chosen_48 rfl (lv_at hl 1 rfl) ?_
            refine lv_iload hx hb dX9_chosen_49 (lv_at hl 4 rfl) ?_
            obtain ⟨r51, hc51, hf⟩ := bi_s hf
            have hPc := hP
            refine cRO (W.runV (As := [.int l1, .int l4]) (rest := []) ⟨hx, hb, hml, hown, hts⟩ (c_X9_canSet l dC dI cI cZ a M l1 l4 r51 hc51) (cwV 2 hts gX9_chosen_X9_canSet rfl rfl rfl (by decide +kernel) ⟨Nat.le_of_ble_eq_true rfl, Nat.le_of_ble_eq_true rfl⟩) ⟨RO.blind, va_recv hK hP (ci := 9) (q0 := 0) rfl rfl, RO.pre hPc hK hNW⟩ rfl rfl hl.1 rfl (lv_room (Nat.le_of_ble_eq_true rfl)) dX9_chosen_51 ⟨Nat.le_of_ble_eq_true rfl, Nat.le_of_ble_eq_true rfl⟩) ?_
            refine lv_if_eq (tgt := 66) hx hb dX9_chosen_54 (by decide) (fun c9 => ?_) (fun c9 => ?_)
            · have hf := it_t hf c9
              exact hfX9_chosen_B66 _ (ih kx72 hkx72) _ hkx72 l1 l2 l3 l4 hf _ (lv_sub hl [0, 1, 2, 3, 4] rfl)
            · have hf := it_f hf c9
              refine lv_iload hx hb dX9_chosen_57 (lv_at hl 4 rfl) ?_
              refine lv_istore_n (lv' := [(2, .int l4), (0, .ref (a 0)), (1, .int l1), (3, .int l3), (4, .int l4)]) hx hb dX9_chosen_59 rfl hl (by decide) rfl (fun ls hl => ?_)
              refine lv_iload hx hb dX9_chosen_60 (lv_at hl 4 rfl) ?_
              obtain ⟨r62, hc62, hf⟩ := bi_s hf
              refine cRO (W.runS (As := [.int l4]) (rest := []) ⟨hx, hb, hml, hown, hts⟩ (c_X9_bits l l4 r62 hc62) (va_cwS 1 hts gX9_chosen_X9_bits rfl rfl rfl (by decide +kernel) ⟨Nat.le_of_ble_eq_true rfl, Nat.le_of_ble_eq_true rfl⟩) ⟨tr_blind, tr_pre⟩ rfl rfl hl.1 rfl (lv_room (Nat.le_of_ble_eq_true rfl)) dX9_chosen_62 ⟨Nat.le_of_ble_eq_true rfl, Nat.le_of_ble_eq_true rfl⟩) ?_
              refine lv_istore_n (lv' := [(3, .int r62), (2, .int l4), (0, .ref (a 0)), (1, .int l1), (4, .int l4)]) hx hb dX9_chosen_65 rfl hl (by decide) rfl (fun ls hl => ?_)
              exact hfX9_chosen_B66 _ (ih kx72 hkx72) _ hkx72 l1 l4 r62 l4 hf _ (lv_sub hl [2, 3, 1, 0, 4] rfl)
  have hfX9_chosen_B16 : ∀ (l1 : Int32) (l2 : Int32) (s0 : Int32), fX9_chosen_B16 M  l1 l2 s0 = some z → ∀ (ls : Array Slot), lv_has ls 5 [(0, .ref (a 0)), (1, .int l1), (2, .int l2)] → W p l e (headSpec wsX9_chosen ({ frames := 3, cells := 0, slots := 0, locals := 68 } : Room)).room s m ([.ref (a 0), .int a1] : List Value).toArray below meth c s.heap [] 0 0 (MQ below (k2_QcV (.int z)) ([.ref (a 0), .int a1] : List Value).toArray s 0 0 (fun _ => False)) (F0 m 16 ls [.int s0]) := by
    intro  l1 l2 s0 hf ls hl
    unfold fX9_chosen_B16 at hf
    refine lv_istore_n (lv' := [(3, .int s0), (0, .ref (a 0)), (1, .int l1), (2, .int l2)]) hx hb dX9_chosen_16 rfl hl (by decide) rfl (fun ls hl => ?_)
    refine lv_iconst (v := (1 : Int32)) hx hb dX9_chosen_17 (by decide) ?_
    refine lv_istore (lv' := [(4, .int (1 : Int32)), (3, .int s0), (0, .ref (a 0)), (1, .int l1), (2, .int l2)]) hx hb dX9_chosen_18 hl (by decide) rfl (fun ls hl => ?_)
    refine hfX9_chosen_L20 5000 _ (fun l2 hf ls hl => ?_) l1 l2 s0 (1 : Int32) hf _ (lv_sub hl [2, 3, 4, 1, 0] rfl)
    refine lv_iload_n hx hb dX9_chosen_72 rfl (lv_at hl 0 rfl) ?_
    exact W.iret (v := l2) hx hb hr (fun t ht hW => ⟨congrArg (fun x => Outcome.returned (some (Value.int x))) (so_e hf), ht⟩) fl0 dX9_chosen_73
  have hl := lv_entry ([.ref (a 0), .int a1]) (n := 5) (Nat.le_of_ble_eq_true rfl)
  rw [lg_entry_eq]
  generalize (lg_sl ([.ref (a 0), .int a1]) ++ List.replicate (5 - (lg_sl ([.ref (a 0), .int a1])).length) Slot.unset).toArray = ls at hl ⊢
  have hl : lv_has ls 5 [(0, .ref (a 0)), (1, .int a1)] := hl
  unfold fX9_chosen at hf
  refine lv_iconst (v := (0 : Int32)) hx hb dX9_chosen_0 (by decide) ?_
  refine lv_istore_n (lv' := [(2, .int (0 : Int32)), (0, .ref (a 0)), (1, .int a1)]) hx hb dX9_chosen_1 rfl hl (by decide) rfl (fun ls hl => ?_)
  refine lv_aload_n hx hb dX9_chosen_2 rfl (lv_at hl 1 rfl) ?_
  refine lv_iload_n hx hb dX9_chosen_3 rfl (lv_at hl 2 rfl) ?_
  obtain ⟨r4, hc4, hf⟩ := bi_s hf
  have hPc := hP
  refine cRO (W.runV (As := [.int a1]) (rest := []) ⟨hx, hb, hml, hown, hts⟩ (c_X9_canBe l dC dI cI cZ a M a1 r4 hc4) (cwV 1 hts gX9_chosen_X9_canBe rfl rfl rfl (by decide +kernel) ⟨Nat.le_of_ble_eq_true rfl, Nat.le_of_ble_eq_true rfl⟩) ⟨RO.blind, va_recv hK hP (ci := 9) (q0 := 0) rfl rfl, RO.pre hPc hK hNW⟩ rfl rfl hl.1 rfl (lv_room (Nat.le_of_ble_eq_true rfl)) dX9_chosen_4 ⟨Nat.le_of_ble_eq_true rfl, Nat.le_of_ble_eq_true rfl⟩) ?_
  refine lv_if_eq (tgt := 15) hx hb dX9_chosen_7 (by decide) (fun c9 => ?_) (fun c9 => ?_)
  · have hf := it_t hf c9
    refine lv_iconst (v := (0 : Int32)) hx hb dX9_chosen_15 (by decide) ?_
    exact hfX9_chosen_B16  a1 (0 : Int32) (0 : Int32) hf _ (lv_sub hl [1, 2, 0] rfl)
  · have hf := it_f hf c9
    refine lv_bipush (v := (13 : Int32)) hx hb dX9_chosen_10 (by decide) ?_
    refine lv_goto (tgt := 16) hx hb dX9_chosen_12 (by decide) ?_
    exact hfX9_chosen_B16  a1 (0 : Int32) (13 : Int32) hf _ (lv_sub hl [1, 2, 0] rfl)
set_option maxHeartbeats 4000000 in
set_option maxRecDepth 100000 in
theorem c_X9_wantedMany (l : Launch) (dC : Nat → ClassId) (dI : Nat → Nat → Nat) (cI cZ : ClassId) (a : Nat → Nat) (M : Mem) (a1 : Int32) (z : Int32) (hf : fX9_wantedMany M a1 = some z) : Met l yX9_wantedMany wsX9_wantedMany ({ frames := 1, cells := 0, slots := 0, locals := 22 } : Room) (va_Pc [.ref (a 0), .int a1] (RO (dC, dI) cI cZ (wX9 cI cZ a M))) (k2_QcV (.int z)) 0 0 (fun _ => False) := by
  refine Met.ofW (cc := cX9_wantedMany) (maxL := 4) (ret := (some .int)) (by decide) rfl ?_
  intro p e s m args below meth c s₁ B hml hv
  obtain ⟨rfl, hP, hK, hNW⟩ := hv
  have hx := B.exec
  have hb := B.bytes
  have hr := B.returns
  have hts := atoms_spec (ws := wsX9_wantedMany) B.pre
  have hown : s.vm.findClass RX9 = some m.cls := findClass_of_methodNamed B.named
  have hlocks := B.notSynchronized
  have hfX9_wantedMany_L4 : ∀ (n : Nat) (kx25 : Int32 → Option (Int32)) (hkx25 : ∀ (l2 : Int32), kx25 l2 = some z → ∀ (ls : Array Slot), lv_has ls 4 [(2, .int l2)] → W p l e (headSpec wsX9_wantedMany ({ frames := 1, cells := 0, slots := 0, locals := 22 } : Room)).room s m ([.ref (a 0), .int a1] : List Value).toArray below meth c s.heap [] 0 0 (MQ below (k2_QcV (.int z)) ([.ref (a 0), .int a1] : List Value).toArray s 0 0 (fun _ => False)) (F0 m 25 ls [])), ∀ (l1 : Int32) (l2 : Int32) (l3 : Int32), fX9_wantedMany_L4 M n kx25 l1 l2 l3 = some z → ∀ (ls : Array Slot), lv_has ls 4 [(0, .ref (a 0)), (1, .int l1), (2, .int l2), (3, .int l3)] → W p l e (headSpec wsX9_wantedMany ({ frames := 1, cells := 0, slots := 0, locals := 22 } : Room)).room s m ([.ref (a 0), .int a1] : List Value).toArray below meth c s.heap [] 0 0 (MQ below (k2_QcV (.int z)) ([.ref (a 0), .int a1] : List Value).toArray s 0 0 (fun _ => False)) (F0 m 4 ls []) := by
    intro n
    induction n with
    | zero =>
      intro kx25 hkx25 l1 l2 l3 hf ls hl
      rw [fX9_wantedMany_L4] at hf
      cases hf
    | succ n ih =>
      intro kx25 hkx25 l1 l2 l3 hf ls hl
      rw [fX9_wantedMany_L4] at hf
      refine lv_iload_n hx hb dX9_wantedMany_4 rfl (lv_at hl 3 rfl) ?_
      refine lv_bipush (v := (10 : Int32)) hx hb dX9_wantedMany_5 (by decide) ?_
      refine lv_icmp_ge (tgt := 25) hx hb dX9_wantedMany_7 (by decide) (fun c9 => ?_) (fun c9 => ?_)
      · have hf := it_t hf c9
        exact hkx25 l2 hf _ (lv_sub hl [2] rfl)
      · have hf := it_f hf c9
        refine lv_iload_n hx hb dX9_wantedMany_10 rfl (lv_at hl 2 rfl) ?_
        refine lv_aload_n hx hb dX9_wantedMany_11 rfl (lv_at hl 0 rfl) ?_
        refine lv_iload_n hx hb dX9_wantedMany_12 rfl (lv_at hl 1 rfl) ?_
        refine lv_iload_n hx hb dX9_wantedMany_13 rfl (lv_at hl 3 rfl) ?_
        obtain ⟨r14, hc14, hf⟩ := bi_s hf
        have hPc := hP
        refine cRO (W.runV (As := [.int l1, .int l3]) (rest := [.int l2]) ⟨hx, hb, hml, hown, hts⟩ (c_X9_wants l dC dI cI cZ a M l1 l3 r14 hc14) (cwV 2 hts gX9_wantedMany_X9_wants rfl rfl rfl (by decide +kernel) ⟨Nat.le_of_ble_eq_true rfl, Nat.le_of_ble_eq_true rfl⟩) ⟨RO.blind, va_recv hK hP (ci := 9) (q0 := 0) rfl rfl, RO.pre hPc hK hNW⟩ rfl rfl hl.1 rfl (lv_room (Nat.le_of_ble_eq_true rfl)) dX9_wantedMany_14 ⟨Nat.le_of_ble_eq_true rfl, Nat.le_of_ble_eq_true rfl⟩) ?_
        refine lv_iadd hx hb dX9_wantedMany_17 ?_
        refine lv_istore_n (lv' := [(2, .int (l2 + r14)), (0, .ref (a 0)), (1, .int l1), (3, .int l3)]) hx hb dX9_wantedMany_18 rfl hl (by decide) rfl (fun ls hl => ?_)
        refine lv_iinc (v := (l3 + (1 : Int32))) (lv' := [(3, .int (l3 + (1 : Int32))), (2, .int (l2 + r14)), (0, .ref (a 0)), (1, .int l1)]) hx hb dX9_wantedMany_19 hl (k := 3) rfl rfl (by decide) rfl (fun ls hl => ?_)
        refine lv_goto (tgt := 4) hx hb dX9_wantedMany_22 (by decide) ?_
        exact ih kx25 hkx25 l1 (l2 + r14) (l3 + (1 : Int32)) hf _ (lv_sub hl [2, 3, 1, 0] rfl)
  have hl := lv_entry ([.ref (a 0), .int a1]) (n := 4) (Nat.le_of_ble_eq_true rfl)
  rw [lg_entry_eq]
  generalize (lg_sl ([.ref (a 0), .int a1]) ++ List.replicate (4 - (lg_sl ([.ref (a 0), .int a1])).length) Slot.unset).toArray = ls at hl ⊢
  have hl : lv_has ls 4 [(0, .ref (a 0)), (1, .int a1)] := hl
  unfold fX9_wantedMany at hf
  refine lv_iconst (v := (0 : Int32)) hx hb dX9_wantedMany_0 (by decide) ?_
  refine lv_istore_n (lv' := [(2, .int (0 : Int32)), (0, .ref (a 0)), (1, .int a1)]) hx hb dX9_wantedMany_1 rfl hl (by decide) rfl (fun ls hl => ?_)
  refine lv_iconst (v := (0 : Int32)) hx hb dX9_wantedMany_2 (by decide) ?_
  refine lv_istore_n (lv' := [(3, .int (0 : Int32)), (2, .int (0 : Int32)), (0, .ref (a 0)), (1, .int a1)]) hx hb dX9_wantedMany_3 rfl hl (by decide) rfl (fun ls hl => ?_)
  refine hfX9_wantedMany_L4 5000 _ (fun l2 hf ls hl => ?_) a1 (0 : Int32) (0 : Int32) hf _ (lv_sub hl [2, 3, 1, 0] rfl)
  refine lv_iload_n hx hb dX9_wantedMany_25 rfl (lv_at hl 0 rfl) ?_
  exact W.iret (v := l2) hx hb hr (fun t ht hW => ⟨congrArg (fun x => Outcome.returned (some (Value.int x))) (so_e hf), ht⟩) fl0 dX9_wantedMany_26
set_option maxHeartbeats 4000000 in
set_option maxRecDepth 100000 in
theorem c_X9_drops (l : Launch) (dC : Nat → ClassId) (dI : Nat → Nat → Nat) (cI cZ : ClassId) (a : Nat → Nat) (sz : Nat) (M : Mem) (a1 : Int32) (z : Mem) (hf : fX9_drops M a1 = some z) : Met l yX9_drops wsX9_drops ({ frames := 0, cells := 0, slots := 0, locals := 0 } : Room) (va_Pc [.ref (a 0), .int a1] (WR (dC, dI) cI cZ (wX9 cI cZ a M) sz)) (va_Qv (S := Unit) (fun _ => True) (fun _ t => WE (dC, dI) cI cZ (wX9 cI cZ a (sr M 1 (z 1))) (va_A (wX9 cI cZ a M) sz) t) (va_A (wX9 cI cZ a M) sz)) 0 0 (va_A (wX9 cI cZ a M) sz) := by
  refine Met.ofW (cc := cX9_drops) (maxL := 3) (ret := none) (by decide) rfl ?_
  intro p e s m args below meth c s₁ B hml hv
  obtain ⟨rfl, hsz, hP, hK, hD0, hNW⟩ := hv
  have hx := B.exec
  have hb := B.bytes
  have hr := B.returns
  have hts := atoms_spec (ws := wsX9_drops) B.pre
  have hown : s.vm.findClass RX9 = some m.cls := findClass_of_methodNamed B.named
  have hlocks := B.notSynchronized
  have hinX9 : ∀ w ∈ u_ws RX9 TX9 13, w ∈ wsX9_drops := by decide +kernel
  have hw1 := hts (.fieldLink RX9 7 "GlideShelvesModel" "s" "[I") (by decide +kernel)
  subst hsz
  have hD := hD0.self (sz := s.heap.size)
  generalize hAe : va_A (wX9 cI cZ a M) s.heap.size = A at hD ⊢
  have hA : ∀ q : Nat, s.heap.size ≤ q → A q := fun q h => by rw [← hAe]; exact Or.inr h
  have hS : va_S A s.heap s.heap [] := va_S.rf
  have hfX9_drops_L16 : ∀ (n : Nat) (kx59 : Mem → Option (Mem)) (hkx59 : ∀ (N : Mem), kx59 N = some z → ∀ (ls : Array Slot), lv_has ls 3 [] → ∀ (H : Heap) (locs : List Loc), va_P (dC, dI) vwCl (wX9 cI cZ a (sr M 1 (N 1))) H → va_D A (wX9 cI cZ a (sr M 1 (N 1))) → va_S A s.heap H locs → W p l e (headSpec wsX9_drops ({ frames := 0, cells := 0, slots := 0, locals := 0 } : Room)).room s m ([.ref (a 0), .int a1] : List Value).toArray below meth c H locs 0 0 (MQ below (va_Qv (S := Unit) (fun _ => True) (fun _ t => WE (dC, dI) cI cZ (wX9 cI cZ a (sr M 1 (z 1))) A t) A) ([.ref (a 0), .int a1] : List Value).toArray s 0 0 A) (F0 m 59 ls [])), ∀ (N : Mem) (l2 : Int32), fX9_drops_L16 M n kx59 N l2 = some z → ∀ (ls : Array Slot), lv_has ls 3 [(0, .ref (a 0)), (2, .int l2)] → ∀ (H : Heap) (locs : List Loc), va_P (dC, dI) vwCl (wX9 cI cZ a (sr M 1 (N 1))) H → va_D A (wX9 cI cZ a (sr M 1 (N 1))) → va_S A s.heap H locs → W p l e (headSpec wsX9_drops ({ frames := 0, cells := 0, slots := 0, locals := 0 } : Room)).room s m ([.ref (a 0), .int a1] : List Value).toArray below meth c H locs 0 0 (MQ below (va_Qv (S := Unit) (fun _ => True) (fun _ t => WE (dC, dI) cI cZ (wX9 cI cZ a (sr M 1 (z 1))) A t) A) ([.ref (a 0), .int a1] : List Value).toArray s 0 0 A) (F0 m 16 ls []) := by
    intro n
    induction n with
    | zero =>
      intro kx59 hkx59 N l2 hf ls hl H locs hP hD hS
      rw [fX9_drops_L16] at hf
      cases hf
    | succ n ih =>
      intro kx59 hkx59 N l2 hf ls hl H locs hP hD hS
      rw [fX9_drops_L16] at hf
      refine lv_iload_n hx hb dX9_drops_16 rfl (lv_at hl 1 rfl) ?_
      refine lv_bipush (v := (10 : Int32)) hx hb dX9_drops_17 (by decide) ?_
      refine lv_aload_n hx hb dX9_drops_19 rfl (lv_at hl 0 rfl) ?_
      refine va_get (D := (dC, dI)) (ci := 9) (v := .ref (a 1)) (C := RX9) (T := TX9) (N := 13) hx hb hts hinX9 hown hK hP 0 rfl rfl 1 (by decide) hw1 (fun _ h9 => h9) rfl dX9_drops_20 ?_
      refine lv_bipush (v := (8 : Int32)) hx hb dX9_drops_23 (by decide) ?_
      obtain ⟨hi, hf⟩ := gd_s hf
      refine va_iald (D := (dC, dI)) (f := (N 1)) hx hb hK hP 1 0 rfl rfl (inb_in hi) dX9_drops_25 ?_
      refine lv_imul hx hb dX9_drops_26 ?_
      refine lv_icmp_ge (tgt := 59) hx hb dX9_drops_27 (by decide) (fun c9 => ?_) (fun c9 => ?_)
      · have hf := it_t hf c9
        exact hkx59 (sr M 1 (N 1)) hf _ (lv_sub hl [] rfl) _ _ hP hD hS
      · have hf := it_f hf c9
        refine lv_aload_n hx hb dX9_drops_30 rfl (lv_at hl 0 rfl) ?_
        refine va_get (D := (dC, dI)) (ci := 9) (v := .ref (a 1)) (C := RX9) (T := TX9) (N := 13) hx hb hts hinX9 hown hK hP 0 rfl rfl 1 (by decide) hw1 (fun _ h9 => h9) rfl dX9_drops_31 ?_
        refine lv_sipush (v := (223 : Int32)) hx hb dX9_drops_34 (by decide) ?_
        refine lv_iload_n hx hb dX9_drops_37 rfl (lv_at hl 1 rfl) ?_
        refine lv_iadd hx hb dX9_drops_38 ?_
        refine lv_aload_n hx hb dX9_drops_39 rfl (lv_at hl 0 rfl) ?_
        refine va_get (D := (dC, dI)) (ci := 9) (v := .ref (a 1)) (C := RX9) (T := TX9) (N := 13) hx hb hts hinX9 hown hK hP 0 rfl rfl 1 (by decide) hw1 (fun _ h9 => h9) rfl dX9_drops_40 ?_
        refine lv_sipush (v := (223 : Int32)) hx hb dX9_drops_43 (by decide) ?_
        refine lv_iload_n hx hb dX9_drops_46 rfl (lv_at hl 1 rfl) ?_
        refine lv_iadd hx hb dX9_drops_47 ?_
        refine lv_bipush (v := (10 : Int32)) hx hb dX9_drops_48 (by decide) ?_
        refine lv_iadd hx hb dX9_drops_50 ?_
        obtain ⟨hi, hf⟩ := gd_s hf
        refine va_iald (D := (dC, dI)) (f := (N 1)) hx hb hK hP 1 0 rfl rfl (inb_in hi) dX9_drops_51 ?_
        obtain ⟨hi, hf⟩ := gd_s hf
        refine va_iast (D := (dC, dI)) (f := (N 1)) hx hb hK hP hD hS 1 0 rfl rfl (inb_in hi) dX9_drops_52 (fun H locs hP hD hS => ?_)
        have hP : va_P (dC, dI) vwCl (wX9 cI cZ a (sr M 1 (upd (N 1) ((223 : Int32) + l2).toNatClampNeg (N 1 (((223 : Int32) + l2) + (10 : Int32)).toNatClampNeg)))) H := hP
        have hD : va_D A (wX9 cI cZ a (sr M 1 (upd (N 1) ((223 : Int32) + l2).toNatClampNeg (N 1 (((223 : Int32) + l2) + (10 : Int32)).toNatClampNeg)))) := hD
        refine lv_iinc (v := (l2 + (1 : Int32))) (lv' := [(2, .int (l2 + (1 : Int32))), (0, .ref (a 0))]) hx hb dX9_drops_53 hl (k := 1) rfl rfl (by decide) rfl (fun ls hl => ?_)
        refine lv_goto (tgt := 16) hx hb dX9_drops_56 (by decide) ?_
        exact ih kx59 hkx59 (sr M 1 (upd (N 1) ((223 : Int32) + l2).toNatClampNeg (N 1 (((223 : Int32) + l2) + (10 : Int32)).toNatClampNeg))) (l2 + (1 : Int32)) hf _ (lv_sub hl [1, 0] rfl) _ _ hP hD hS
  have hl := lv_entry ([.ref (a 0), .int a1]) (n := 3) (Nat.le_of_ble_eq_true rfl)
  rw [lg_entry_eq]
  generalize (lg_sl ([.ref (a 0), .int a1]) ++ List.replicate (3 - (lg_sl ([.ref (a 0), .int a1])).length) Slot.unset).toArray = ls at hl ⊢
  have hl : lv_has ls 3 [(0, .ref (a 0)), (1, .int a1)] := hl
  unfold fX9_drops at hf
  suffices hgo : ∀ (H : Heap) (locs : List Loc), va_P (dC, dI) vwCl (wX9 cI cZ a M) H → va_D A (wX9 cI cZ a M) → va_S A s.heap H locs → W p l e (headSpec wsX9_drops ({ frames := 0, cells := 0, slots := 0, locals := 0 } : Room)).room s m ([.ref (a 0), .int a1] : List Value).toArray below meth c H locs 0 0 (MQ below (va_Qv (S := Unit) (fun _ => True) (fun _ t => WE (dC, dI) cI cZ (wX9 cI cZ a (sr M 1 (z 1))) A t) A) ([.ref (a 0), .int a1] : List Value).toArray s 0 0 A) (F0 m 0 ls []) from hgo _ _ hP hD hS
  intro H locs hP hD hS
  refine lv_aload_n hx hb dX9_drops_0 rfl (lv_at hl 0 rfl) ?_
  refine va_get (D := (dC, dI)) (ci := 9) (v := .ref (a 1)) (C := RX9) (T := TX9) (N := 13) hx hb hts hinX9 hown hK hP 0 rfl rfl 1 (by decide) hw1 (fun _ h9 => h9) rfl dX9_drops_1 ?_
  refine lv_bipush (v := (8 : Int32)) hx hb dX9_drops_4 (by decide) ?_
  refine lv_dup2_11 hx hb dX9_drops_6 rfl rfl ?_
  obtain ⟨hi, hf⟩ := gd_s hf
  refine va_iald (D := (dC, dI)) (f := (M 1)) hx hb hK hP 1 0 rfl rfl (inb_in hi) dX9_drops_7 ?_
  refine lv_iconst (v := (1 : Int32)) hx hb dX9_drops_8 (by decide) ?_
  refine lv_isub hx hb dX9_drops_9 ?_
  obtain ⟨hi, hf⟩ := gd_s hf
  refine va_iast (D := (dC, dI)) (f := (M 1)) hx hb hK hP hD hS 1 0 rfl rfl (inb_in hi) dX9_drops_10 (fun H locs hP hD hS => ?_)
  have hP : va_P (dC, dI) vwCl (wX9 cI cZ a (sr M 1 (upd (M 1) (8 : Int32).toNatClampNeg ((M 1 (8 : Int32).toNatClampNeg) - (1 : Int32))))) H := hP
  have hD : va_D A (wX9 cI cZ a (sr M 1 (upd (M 1) (8 : Int32).toNatClampNeg ((M 1 (8 : Int32).toNatClampNeg) - (1 : Int32))))) := hD
  refine lv_bipush (v := (10 : Int32)) hx hb dX9_drops_11 (by decide) ?_
  refine lv_iload_n hx hb dX9_drops_13 rfl (lv_at hl 1 rfl) ?_
  refine lv_imul hx hb dX9_drops_14 ?_
  refine lv_istore_n (lv' := [(2, .int ((10 : Int32) * a1)), (0, .ref (a 0)), (1, .int a1)]) hx hb dX9_drops_15 rfl hl (by decide) rfl (fun ls hl => ?_)
  refine hfX9_drops_L16 5000 _ (fun N hf ls hl H locs hP hD hS => ?_) (sr M 1 (upd (M 1) (8 : Int32).toNatClampNeg ((M 1 (8 : Int32).toNatClampNeg) - (1 : Int32)))) ((10 : Int32) * a1) hf _ (lv_sub hl [1, 0] rfl) _ _ hP hD hS
  have e9 := so_e hf
  subst e9
  exact W.vret hx hb hr (fun t ht hW => ⟨⟨(), rfl, trivial, WE.mk hP hD ht⟩, hS.F ht⟩) hS.2.2 dX9_drops_59
set_option maxHeartbeats 4000000 in
set_option maxRecDepth 100000 in
theorem c_X9_gives (l : Launch) (dC : Nat → ClassId) (dI : Nat → Nat → Nat) (cI cZ : ClassId) (a : Nat → Nat) (sz : Nat) (M : Mem) (z : Mem) (hf : fX9_gives M  = some z) : Met l yX9_gives wsX9_gives ({ frames := 1, cells := 0, slots := 0, locals := 23 } : Room) (va_Pc [.ref (a 0)] (WR (dC, dI) cI cZ (wX9 cI cZ a M) sz)) (va_Qv (S := Unit) (fun _ => True) (fun _ t => WE (dC, dI) cI cZ (wX9 cI cZ a (sr (sr M 1 (z 1)) 8 (z 8))) (va_A (wX9 cI cZ a M) sz) t) (va_A (wX9 cI cZ a M) sz)) 0 0 (va_A (wX9 cI cZ a M) sz) := by
  refine Met.ofW (cc := cX9_gives) (maxL := 4) (ret := none) (by decide) rfl ?_
  intro p e s m args below meth c s₁ B hml hv
  obtain ⟨rfl, hsz, hP, hK, hD0, hNW⟩ := hv
  have hx := B.exec
  have hb := B.bytes
  have hr := B.returns
  have hts := atoms_spec (ws := wsX9_gives) B.pre
  have hown : s.vm.findClass RX9 = some m.cls := findClass_of_methodNamed B.named
  have hlocks := B.notSynchronized
  have hinX9 : ∀ w ∈ u_ws RX9 TX9 13, w ∈ wsX9_gives := by decide +kernel
  have hw1 := hts (.fieldLink RX9 7 "GlideShelvesModel" "s" "[I") (by decide +kernel)
  have hw2 := hts (.fieldLink RX9 32 "GlideShelvesModel" "needed" "[I") (by decide +kernel)
  subst hsz
  have hD := hD0.self (sz := s.heap.size)
  generalize hAe : va_A (wX9 cI cZ a M) s.heap.size = A at hD ⊢
  have hA : ∀ q : Nat, s.heap.size ≤ q → A q := fun q h => by rw [← hAe]; exact Or.inr h
  have hS : va_S A s.heap s.heap [] := va_S.rf
  have hfX9_gives_B49 : ∀ (kb : Mem → Int32 → Int32 → Option (Mem)) (hkb : ∀ (N : Mem) (l1 : Int32) (l2 : Int32), kb N l1 l2 = some z → ∀ (ls : Array Slot), lv_has ls 4 [(0, .ref (a 0)), (1, .int l1), (2, .int l2)] → ∀ (H : Heap) (locs : List Loc), va_P (dC, dI) vwCl (wX9 cI cZ a (sr (sr M 1 (N 1)) 8 (N 8))) H → va_D A (wX9 cI cZ a (sr (sr M 1 (N 1)) 8 (N 8))) → va_S A s.heap H locs → W p l e (headSpec wsX9_gives ({ frames := 1, cells := 0, slots := 0, locals := 23 } : Room)).room s m ([.ref (a 0)] : List Value).toArray below meth c H locs 0 0 (MQ below (va_Qv (S := Unit) (fun _ => True) (fun _ t => WE (dC, dI) cI cZ (wX9 cI cZ a (sr (sr M 1 (z 1)) 8 (z 8))) A t) A) ([.ref (a 0)] : List Value).toArray s 0 0 A) (F0 m 9 ls [])) (kx98 : Mem → Option (Mem)) (hkx98 : ∀ (N : Mem), kx98 N = some z → ∀ (ls : Array Slot), lv_has ls 4 [] → ∀ (H : Heap) (locs : List Loc), va_P (dC, dI) vwCl (wX9 cI cZ a (sr (sr M 1 (N 1)) 8 (N 8))) H → va_D A (wX9 cI cZ a (sr (sr M 1 (N 1)) 8 (N 8))) → va_S A s.heap H locs → W p l e (headSpec wsX9_gives ({ frames := 1, cells := 0, slots := 0, locals := 23 } : Room)).room s m ([.ref (a 0)] : List Value).toArray below meth c H locs 0 0 (MQ below (va_Qv (S := Unit) (fun _ => True) (fun _ t => WE (dC, dI) cI cZ (wX9 cI cZ a (sr (sr M 1 (z 1)) 8 (z 8))) A t) A) ([.ref (a 0)] : List Value).toArray s 0 0 A) (F0 m 98 ls [])), ∀ (N : Mem) (l1 : Int32) (l2 : Int32) (s0 : Int32), fX9_gives_B49 M kb kx98 N l1 l2 s0 = some z → ∀ (ls : Array Slot), lv_has ls 4 [(0, .ref (a 0)), (1, .int l1), (2, .int l2)] → ∀ (H : Heap) (locs : List Loc), va_P (dC, dI) vwCl (wX9 cI cZ a (sr (sr M 1 (N 1)) 8 (N 8))) H → va_D A (wX9 cI cZ a (sr (sr M 1 (N 1)) 8 (N 8))) → va_S A s.heap H locs → W p l e (headSpec wsX9_gives ({ frames := 1, cells := 0, slots := 0, locals := 23 } : Room)).room s m ([.ref (a 0)] : List Value).toArray below meth c H locs 0 0 (MQ below (va_Qv (S := Unit) (fun _ => True) (fun _ t => WE (dC, dI) cI cZ (wX9 cI cZ a (sr (sr M 1 (z 1)) 8 (z 8))) A t) A) ([.ref (a 0)] : List Value).toArray s 0 0 A) (F0 m 49 ls [.int s0]) := by
    intro kb hkb kx98 hkx98 N l1 l2 s0 hf ls hl H locs hP hD hS
    unfold fX9_gives_B49 at hf
    refine lv_istore_n (lv' := [(3, .int s0), (0, .ref (a 0)), (1, .int l1), (2, .int l2)]) hx hb dX9_gives_49 rfl hl (by decide) rfl (fun ls hl => ?_)
    refine lv_aload_n hx hb dX9_gives_50 rfl (lv_at hl 1 rfl) ?_
    refine lv_iload_n hx hb dX9_gives_51 rfl (lv_at hl 2 rfl) ?_
    refine lv_iconst (v := (4 : Int32)) hx hb dX9_gives_52 (by decide) ?_
    refine lv_iload_n hx hb dX9_gives_53 rfl (lv_at hl 3 rfl) ?_
    refine lv_iadd hx hb dX9_gives_54 ?_
    refine lv_aload_n hx hb dX9_gives_55 rfl (lv_at hl 1 rfl) ?_
    refine lv_iload_n hx hb dX9_gives_56 rfl (lv_at hl 2 rfl) ?_
    refine lv_iconst (v := (4 : Int32)) hx hb dX9_gives_57 (by decide) ?_
    refine lv_iload_n hx hb dX9_gives_58 rfl (lv_at hl 3 rfl) ?_
    refine lv_iadd hx hb dX9_gives_59 ?_
    obtain ⟨r60, hc60, hf⟩ := bi_s hf
    have hPc := hP
    refine cRO (W.runV (As := [.int l1, .int ((4 : Int32) + l2)]) (rest := [.int ((4 : Int32) + l2), .int l1, .ref (a 0)]) ⟨hx, hb, hml, hown, hts⟩ (c_X9_of l dC dI cI cZ a (sr (sr M 1 (N 1)) 8 (N 8)) l1 ((4 : Int32) + l2) r60 hc60) (cwV 2 hts gX9_gives_X9_of rfl rfl rfl (by decide +kernel) ⟨Nat.le_of_ble_eq_true rfl, Nat.le_of_ble_eq_true rfl⟩) ⟨RO.blind, va_recv hK hP (ci := 9) (q0 := 0) rfl rfl, RO.pre hPc hK hNW⟩ rfl rfl hl.1 rfl (lv_room (Nat.le_of_ble_eq_true rfl)) dX9_gives_60 ⟨Nat.le_of_ble_eq_true rfl, Nat.le_of_ble_eq_true rfl⟩) ?_
    refine lv_iload_n hx hb dX9_gives_63 rfl (lv_at hl 0 rfl) ?_
    refine lv_isub hx hb dX9_gives_64 ?_
    obtain ⟨r65, hc65, hf⟩ := bi_s hf
    have hPc := hP
    have hDc := hD
    have hFc := va_free (wc := (wX9 cI cZ a (sr (sr M 1 (N 1)) 8 (N 8)))) hD hS hA [0, 1, 2, 3, 4, 5, 6, 7, 8] rfl
    refine va_callv (va_runV (As := [.int l1, .int ((4 : Int32) + l2), .int (r60 - s0)]) (rest := []) ⟨hx, hb, hml, hown, hts⟩ (c_X9_lay l dC dI cI cZ a H.size (sr (sr M 1 (N 1)) 8 (N 8)) l1 ((4 : Int32) + l2) (r60 - s0) r65 hc65) (cwV 3 hts gX9_gives_X9_lay rfl rfl rfl (by decide +kernel) ⟨Nat.le_of_ble_eq_true rfl, Nat.le_of_ble_eq_true rfl⟩) ⟨WR.blind, va_recv hK hP (ci := 9) (q0 := 0) rfl rfl, WR.pre hPc hK hDc hNW⟩ rfl rfl hl.1 rfl (lv_room (Nat.le_of_ble_eq_true rfl)) dX9_gives_65 ⟨Nat.le_of_ble_eq_true rfl, Nat.le_of_ble_eq_true rfl⟩) hS (fun q _ h => hFc q h) hFc (fun u t H1 locs ht hvm hw hB hz1 hk1 hS => ?_)
    obtain ⟨hP1, hD1⟩ := hB
    rw [ht] at hP1
    have hP := hP1
    have hD := hD1.weaken (fun k q _ h => hFc q.1 h)
    have hP : va_P (dC, dI) vwCl (wX9 cI cZ a (sr (sr M 1 (r65 1)) 8 (N 8))) H1 := hP
    have hD : va_D A (wX9 cI cZ a (sr (sr M 1 (r65 1)) 8 (N 8))) := hD
    generalize H1 = H at hP hS ⊢
    refine lv_aload_n hx hb dX9_gives_68 rfl (lv_at hl 1 rfl) ?_
    refine va_get (D := (dC, dI)) (ci := 9) (v := .ref (a 8)) (C := RX9) (T := TX9) (N := 13) hx hb hts hinX9 hown hK hP 0 rfl rfl 12 (by decide) hw2 (fun _ h9 => h9) rfl dX9_gives_69 ?_
    refine lv_iload_n hx hb dX9_gives_72 rfl (lv_at hl 3 rfl) ?_
    refine lv_dup2_11 hx hb dX9_gives_73 rfl rfl ?_
    obtain ⟨hi, hf⟩ := gd_s hf
    refine va_iald (D := (dC, dI)) (f := (N 8)) hx hb hK hP 8 0 rfl rfl (inb_in hi) dX9_gives_74 ?_
    refine lv_iload_n hx hb dX9_gives_75 rfl (lv_at hl 0 rfl) ?_
    refine lv_isub hx hb dX9_gives_76 ?_
    obtain ⟨hi, hf⟩ := gd_s hf
    refine va_iast (D := (dC, dI)) (f := (N 8)) hx hb hK hP hD hS 8 0 rfl rfl (inb_in hi) dX9_gives_77 (fun H locs hP hD hS => ?_)
    have hP : va_P (dC, dI) vwCl (wX9 cI cZ a (sr (sr M 1 (r65 1)) 8 (upd (N 8) l2.toNatClampNeg ((N 8 l2.toNatClampNeg) - s0)))) H := hP
    have hD : va_D A (wX9 cI cZ a (sr (sr M 1 (r65 1)) 8 (upd (N 8) l2.toNatClampNeg ((N 8 l2.toNatClampNeg) - s0)))) := hD
    refine lv_aload_n hx hb dX9_gives_78 rfl (lv_at hl 1 rfl) ?_
    refine va_get (D := (dC, dI)) (ci := 9) (v := .ref (a 1)) (C := RX9) (T := TX9) (N := 13) hx hb hts hinX9 hown hK hP 0 rfl rfl 1 (by decide) hw1 (fun _ h9 => h9) rfl dX9_gives_79 ?_
    refine lv_sipush (v := (197 : Int32)) hx hb dX9_gives_82 (by decide) ?_
    refine lv_iload_n hx hb dX9_gives_85 rfl (lv_at hl 3 rfl) ?_
    refine lv_iadd hx hb dX9_gives_86 ?_
    refine lv_dup2_11 hx hb dX9_gives_87 rfl rfl ?_
    obtain ⟨hi, hf⟩ := gd_s hf
    refine va_iald (D := (dC, dI)) (f := (r65 1)) hx hb hK hP 1 0 rfl rfl (inb_in hi) dX9_gives_88 ?_
    refine lv_iload_n hx hb dX9_gives_89 rfl (lv_at hl 0 rfl) ?_
    refine lv_isub hx hb dX9_gives_90 ?_
    obtain ⟨hi, hf⟩ := gd_s hf
    refine va_iast (D := (dC, dI)) (f := (r65 1)) hx hb hK hP hD hS 1 0 rfl rfl (inb_in hi) dX9_gives_91 (fun H locs hP hD hS => ?_)
    have hP : va_P (dC, dI) vwCl (wX9 cI cZ a (sr (sr M 1 (upd (r65 1) ((197 : Int32) + l2).toNatClampNeg (((r65 1) ((197 : Int32) + l2).toNatClampNeg) - s0))) 8 (upd (N 8) l2.toNatClampNeg ((N 8 l2.toNatClampNeg) - s0)))) H := hP
    have hD : va_D A (wX9 cI cZ a (sr (sr M 1 (upd (r65 1) ((197 : Int32) + l2).toNatClampNeg (((r65 1) ((197 : Int32) + l2).toNatClampNeg) - s0))) 8 (upd (N 8) l2.toNatClampNeg ((N 8 l2.toNatClampNeg) - s0)))) := hD
    refine lv_iinc (v := (l2 + (1 : Int32))) (lv' := [(2, .int (l2 + (1 : Int32))), (3, .int s0), (0, .ref (a 0)), (1, .int l1)]) hx hb dX9_gives_92 hl (k := 3) rfl rfl (by decide) rfl (fun ls hl => ?_)
    refine lv_goto (tgt := 9) hx hb dX9_gives_95 (by decide) ?_
    exact hkb (sr (sr M 1 (upd (r65 1) ((197 : Int32) + l2).toNatClampNeg (((r65 1) ((197 : Int32) + l2).toNatClampNeg) - s0))) 8 (upd (N 8) l2.toNatClampNeg ((N 8 l2.toNatClampNeg) - s0))) l1 (l2 + (1 : Int32)) hf _ (lv_sub hl [2, 3, 0] rfl) _ _ hP hD hS
  have hfX9_gives_L9 : ∀ (n : Nat) (kx98 : Mem → Option (Mem)) (hkx98 : ∀ (N : Mem), kx98 N = some z → ∀ (ls : Array Slot), lv_has ls 4 [] → ∀ (H : Heap) (locs : List Loc), va_P (dC, dI) vwCl (wX9 cI cZ a (sr (sr M 1 (N 1)) 8 (N 8))) H → va_D A (wX9 cI cZ a (sr (sr M 1 (N 1)) 8 (N 8))) → va_S A s.heap H locs → W p l e (headSpec wsX9_gives ({ frames := 1, cells := 0, slots := 0, locals := 23 } : Room)).room s m ([.ref (a 0)] : List Value).toArray below meth c H locs 0 0 (MQ below (va_Qv (S := Unit) (fun _ => True) (fun _ t => WE (dC, dI) cI cZ (wX9 cI cZ a (sr (sr M 1 (z 1)) 8 (z 8))) A t) A) ([.ref (a 0)] : List Value).toArray s 0 0 A) (F0 m 98 ls [])), ∀ (N : Mem) (l1 : Int32) (l2 : Int32), fX9_gives_L9 M n kx98 N l1 l2 = some z → ∀ (ls : Array Slot), lv_has ls 4 [(0, .ref (a 0)), (1, .int l1), (2, .int l2)] → ∀ (H : Heap) (locs : List Loc), va_P (dC, dI) vwCl (wX9 cI cZ a (sr (sr M 1 (N 1)) 8 (N 8))) H → va_D A (wX9 cI cZ a (sr (sr M 1 (N 1)) 8 (N 8))) → va_S A s.heap H locs → W p l e (headSpec wsX9_gives ({ frames := 1, cells := 0, slots := 0, locals := 23 } : Room)).room s m ([.ref (a 0)] : List Value).toArray below meth c H locs 0 0 (MQ below (va_Qv (S := Unit) (fun _ => True) (fun _ t => WE (dC, dI) cI cZ (wX9 cI cZ a (sr (sr M 1 (z 1)) 8 (z 8))) A t) A) ([.ref (a 0)] : List Value).toArray s 0 0 A) (F0 m 9 ls []) := by
    intro n
    induction n with
    | zero =>
      intro kx98 hkx98 N l1 l2 hf ls hl H locs hP hD hS
      rw [fX9_gives_L9] at hf
      cases hf
    | succ n ih =>
      intro kx98 hkx98 N l1 l2 hf ls hl H locs hP hD hS
      rw [fX9_gives_L9] at hf
      refine lv_iload_n hx hb dX9_gives_9 rfl (lv_at hl 2 rfl) ?_
      refine lv_bipush (v := (10 : Int32)) hx hb dX9_gives_10 (by decide) ?_
      refine lv_icmp_ge (tgt := 98) hx hb dX9_gives_12 (by decide) (fun c9 => ?_) (fun c9 => ?_)
      · have hf := it_t hf c9
        exact hkx98 (sr (sr M 1 (N 1)) 8 (N 8)) hf _ (lv_sub hl [] rfl) _ _ hP hD hS
      · have hf := it_f hf c9
        refine lv_aload_n hx hb dX9_gives_15 rfl (lv_at hl 0 rfl) ?_
        refine lv_iload_n hx hb dX9_gives_16 rfl (lv_at hl 1 rfl) ?_
        refine lv_iconst (v := (4 : Int32)) hx hb dX9_gives_17 (by decide) ?_
        refine lv_iload_n hx hb dX9_gives_18 rfl (lv_at hl 2 rfl) ?_
        refine lv_iadd hx hb dX9_gives_19 ?_
        obtain ⟨r20, hc20, hf⟩ := bi_s hf
        have hPc := hP
        refine cRO (W.runV (As := [.int l1, .int ((4 : Int32) + l2)]) (rest := []) ⟨hx, hb, hml, hown, hts⟩ (c_X9_of l dC dI cI cZ a (sr (sr M 1 (N 1)) 8 (N 8)) l1 ((4 : Int32) + l2) r20 hc20) (cwV 2 hts gX9_gives_X9_of rfl rfl rfl (by decide +kernel) ⟨Nat.le_of_ble_eq_true rfl, Nat.le_of_ble_eq_true rfl⟩) ⟨RO.blind, va_recv hK hP (ci := 9) (q0 := 0) rfl rfl, RO.pre hPc hK hNW⟩ rfl rfl hl.1 rfl (lv_room (Nat.le_of_ble_eq_true rfl)) dX9_gives_20 ⟨Nat.le_of_ble_eq_true rfl, Nat.le_of_ble_eq_true rfl⟩) ?_
        refine lv_aload_n hx hb dX9_gives_23 rfl (lv_at hl 0 rfl) ?_
        refine va_get (D := (dC, dI)) (ci := 9) (v := .ref (a 8)) (C := RX9) (T := TX9) (N := 13) hx hb hts hinX9 hown hK hP 0 rfl rfl 12 (by decide) hw2 (fun _ h9 => h9) rfl dX9_gives_24 ?_
        refine lv_iload_n hx hb dX9_gives_27 rfl (lv_at hl 2 rfl) ?_
        obtain ⟨hi, hf⟩ := gd_s hf
        refine va_iald (D := (dC, dI)) (f := (N 8)) hx hb hK hP 8 0 rfl rfl (inb_in hi) dX9_gives_28 ?_
        refine lv_icmp_ge (tgt := 43) hx hb dX9_gives_29 (by decide) (fun c9 => ?_) (fun c9 => ?_)
        · have hf := it_t hf c9
          refine lv_aload_n hx hb dX9_gives_43 rfl (lv_at hl 0 rfl) ?_
          refine va_get (D := (dC, dI)) (ci := 9) (v := .ref (a 8)) (C := RX9) (T := TX9) (N := 13) hx hb hts hinX9 hown hK hP 0 rfl rfl 12 (by decide) hw2 (fun _ h9 => h9) rfl dX9_gives_44 ?_
          refine lv_iload_n hx hb dX9_gives_47 rfl (lv_at hl 2 rfl) ?_
          obtain ⟨hi, hf⟩ := gd_s hf
          refine va_iald (D := (dC, dI)) (f := (N 8)) hx hb hK hP 8 0 rfl rfl (inb_in hi) dX9_gives_48 ?_
          exact hfX9_gives_B49 _ (ih kx98 hkx98) _ hkx98 (sr (sr M 1 (N 1)) 8 (N 8)) l1 l2 (N 8 l2.toNatClampNeg) hf _ (lv_sub hl [0, 1, 2] rfl) _ _ hP hD hS
        · have hf := it_f hf c9
          refine lv_aload_n hx hb dX9_gives_32 rfl (lv_at hl 0 rfl) ?_
          refine lv_iload_n hx hb dX9_gives_33 rfl (lv_at hl 1 rfl) ?_
          refine lv_iconst (v := (4 : Int32)) hx hb dX9_gives_34 (by decide) ?_
          refine lv_iload_n hx hb dX9_gives_35 rfl (lv_at hl 2 rfl) ?_
          refine lv_iadd hx hb dX9_gives_36 ?_
          obtain ⟨r37, hc37, hf⟩ := bi_s hf
          have hPc := hP
          refine cRO (W.runV (As := [.int l1, .int ((4 : Int32) + l2)]) (rest := []) ⟨hx, hb, hml, hown, hts⟩ (c_X9_of l dC dI cI cZ a (sr (sr M 1 (N 1)) 8 (N 8)) l1 ((4 : Int32) + l2) r37 hc37) (cwV 2 hts gX9_gives_X9_of rfl rfl rfl (by decide +kernel) ⟨Nat.le_of_ble_eq_true rfl, Nat.le_of_ble_eq_true rfl⟩) ⟨RO.blind, va_recv hK hP (ci := 9) (q0 := 0) rfl rfl, RO.pre hPc hK hNW⟩ rfl rfl hl.1 rfl (lv_room (Nat.le_of_ble_eq_true rfl)) dX9_gives_37 ⟨Nat.le_of_ble_eq_true rfl, Nat.le_of_ble_eq_true rfl⟩) ?_
          refine lv_goto (tgt := 49) hx hb dX9_gives_40 (by decide) ?_
          exact hfX9_gives_B49 _ (ih kx98 hkx98) _ hkx98 (sr (sr M 1 (N 1)) 8 (N 8)) l1 l2 r37 hf _ (lv_sub hl [0, 1, 2] rfl) _ _ hP hD hS
  have hl := lv_entry ([.ref (a 0)]) (n := 4) (Nat.le_of_ble_eq_true rfl)
  rw [lg_entry_eq]
  generalize (lg_sl ([.ref (a 0)]) ++ List.replicate (4 - (lg_sl ([.ref (a 0)])).length) Slot.unset).toArray = ls at hl ⊢
  have hl : lv_has ls 4 [(0, .ref (a 0))] := hl
  unfold fX9_gives at hf
  suffices hgo : ∀ (H : Heap) (locs : List Loc), va_P (dC, dI) vwCl (wX9 cI cZ a M) H → va_D A (wX9 cI cZ a M) → va_S A s.heap H locs → W p l e (headSpec wsX9_gives ({ frames := 1, cells := 0, slots := 0, locals := 23 } : Room)).room s m ([.ref (a 0)] : List Value).toArray below meth c H locs 0 0 (MQ below (va_Qv (S := Unit) (fun _ => True) (fun _ t => WE (dC, dI) cI cZ (wX9 cI cZ a (sr (sr M 1 (z 1)) 8 (z 8))) A t) A) ([.ref (a 0)] : List Value).toArray s 0 0 A) (F0 m 0 ls []) from hgo _ _ hP hD hS
  intro H locs hP hD hS
  refine lv_aload_n hx hb dX9_gives_0 rfl (lv_at hl 0 rfl) ?_
  refine va_get (D := (dC, dI)) (ci := 9) (v := .ref (a 1)) (C := RX9) (T := TX9) (N := 13) hx hb hts hinX9 hown hK hP 0 rfl rfl 1 (by decide) hw1 (fun _ h9 => h9) rfl dX9_gives_1 ?_
  refine lv_iconst (v := (1 : Int32)) hx hb dX9_gives_4 (by decide) ?_
  obtain ⟨hi, hf⟩ := gd_s hf
  refine va_iald (D := (dC, dI)) (f := (M 1)) hx hb hK hP 1 0 rfl rfl (inb_in hi) dX9_gives_5 ?_
  refine lv_istore_n (lv' := [(1, .int (M 1 (1 : Int32).toNatClampNeg)), (0, .ref (a 0))]) hx hb dX9_gives_6 rfl hl (by decide) rfl (fun ls hl => ?_)
  refine lv_iconst (v := (0 : Int32)) hx hb dX9_gives_7 (by decide) ?_
  refine lv_istore_n (lv' := [(2, .int (0 : Int32)), (1, .int (M 1 (1 : Int32).toNatClampNeg)), (0, .ref (a 0))]) hx hb dX9_gives_8 rfl hl (by decide) rfl (fun ls hl => ?_)
  refine hfX9_gives_L9 5000 _ (fun N hf ls hl H locs hP hD hS => ?_) M (M 1 (1 : Int32).toNatClampNeg) (0 : Int32) hf _ (lv_sub hl [2, 1, 0] rfl) _ _ hP hD hS
  have e9 := so_e hf
  subst e9
  exact W.vret hx hb hr (fun t ht hW => ⟨⟨(), rfl, trivial, WE.mk hP hD ht⟩, hS.F ht⟩) hS.2.2 dX9_gives_98
set_option maxHeartbeats 4000000 in
set_option maxRecDepth 100000 in
theorem c_X9_serves (l : Launch) (dC : Nat → ClassId) (dI : Nat → Nat → Nat) (cI cZ : ClassId) (a : Nat → Nat) (sz : Nat) (M : Mem) (a1 : Int32) (z : Int32 × Mem) (hf : fX9_serves M a1 = some z) : Met l yX9_serves wsX9_serves ({ frames := 5, cells := 0, slots := 0, locals := 115 } : Room) (va_Pc [.ref (a 0), .int a1] (WR (dC, dI) cI cZ (wX9 cI cZ a M) sz)) (va_Qi (S := Unit) (fun r _ => r = z.1) (fun _ t => WE (dC, dI) cI cZ (wX9 cI cZ a (sr (sr M 1 (z.2 1)) 8 (z.2 8))) (va_A (wX9 cI cZ a M) sz) t) (va_A (wX9 cI cZ a M) sz)) 0 0 (va_A (wX9 cI cZ a M) sz) := by
  refine Met.ofW (cc := cX9_serves) (maxL := 5) (ret := (some .int)) (by decide) rfl ?_
  intro p e s m args below meth c s₁ B hml hv
  obtain ⟨rfl, hsz, hP, hK, hD0, hNW⟩ := hv
  have hx := B.exec
  have hb := B.bytes
  have hr := B.returns
  have hts := atoms_spec (ws := wsX9_serves) B.pre
  have hown : s.vm.findClass RX9 = some m.cls := findClass_of_methodNamed B.named
  have hlocks := B.notSynchronized
  have hinX9 : ∀ w ∈ u_ws RX9 TX9 13, w ∈ wsX9_serves := by decide +kernel
  have hw1 := hts (.fieldLink RX9 32 "GlideShelvesModel" "needed" "[I") (by decide +kernel)
  have hw2 := hts (.fieldLink RX9 7 "GlideShelvesModel" "s" "[I") (by decide +kernel)
  subst hsz
  have hD := hD0.self (sz := s.heap.size)
  generalize hAe : va_A (wX9 cI cZ a M) s.heap.size = A at hD ⊢
  have hA : ∀ q : Nat, s.heap.size ≤ q → A q := fun q h => by rw [← hAe]; exact Or.inr h
  have hS : va_S A s.heap s.heap [] := va_S.rf
  have hfX9_serves_L11 : ∀ (n : Nat) (kx38 : Mem → Int32 → Int32 → Int32 → Option (Int32 × Mem)) (hkx38 : ∀ (N : Mem) (l1 : Int32) (l2 : Int32) (l3 : Int32), kx38 N l1 l2 l3 = some z → ∀ (ls : Array Slot), lv_has ls 5 [(0, .ref (a 0)), (1, .int l1), (2, .int l2), (3, .int l3)] → ∀ (H : Heap) (locs : List Loc), va_P (dC, dI) vwCl (wX9 cI cZ a (sr (sr M 1 (N 1)) 8 (N 8))) H → va_D A (wX9 cI cZ a (sr (sr M 1 (N 1)) 8 (N 8))) → va_S A s.heap H locs → W p l e (headSpec wsX9_serves ({ frames := 5, cells := 0, slots := 0, locals := 115 } : Room)).room s m ([.ref (a 0), .int a1] : List Value).toArray below meth c H locs 0 0 (MQ below (va_Qi (S := Unit) (fun r _ => r = z.1) (fun _ t => WE (dC, dI) cI cZ (wX9 cI cZ a (sr (sr M 1 (z.2 1)) 8 (z.2 8))) A t) A) ([.ref (a 0), .int a1] : List Value).toArray s 0 0 A) (F0 m 38 ls [])), ∀ (N : Mem) (l1 : Int32) (l2 : Int32) (l3 : Int32) (l4 : Int32), fX9_serves_L11 M n kx38 N l1 l2 l3 l4 = some z → ∀ (ls : Array Slot), lv_has ls 5 [(0, .ref (a 0)), (1, .int l1), (2, .int l2), (3, .int l3), (4, .int l4)] → ∀ (H : Heap) (locs : List Loc), va_P (dC, dI) vwCl (wX9 cI cZ a (sr (sr M 1 (N 1)) 8 (N 8))) H → va_D A (wX9 cI cZ a (sr (sr M 1 (N 1)) 8 (N 8))) → va_S A s.heap H locs → W p l e (headSpec wsX9_serves ({ frames := 5, cells := 0, slots := 0, locals := 115 } : Room)).room s m ([.ref (a 0), .int a1] : List Value).toArray below meth c H locs 0 0 (MQ below (va_Qi (S := Unit) (fun r _ => r = z.1) (fun _ t => WE (dC, dI) cI cZ (wX9 cI cZ a (sr (sr M 1 (z.2 1)) 8 (z.2 8))) A t) A) ([.ref (a 0), .int a1] : List Value).toArray s 0 0 A) (F0 m 11 ls []) := by
    intro n
    induction n with
    | zero =>
      intro kx38 hkx38 N l1 l2 l3 l4 hf ls hl H locs hP hD hS
      rw [fX9_serves_L11] at hf
      cases hf
    | succ n ih =>
      intro kx38 hkx38 N l1 l2 l3 l4 hf ls hl H locs hP hD hS
      rw [fX9_serves_L11] at hf
      refine lv_iload hx hb dX9_serves_11 (lv_at hl 4 rfl) ?_
      refine lv_bipush (v := (10 : Int32)) hx hb dX9_serves_13 (by decide) ?_
      refine lv_icmp_ge (tgt := 38) hx hb dX9_serves_15 (by decide) (fun c9 => ?_) (fun c9 => ?_)
      · have hf := it_t hf c9
        exact hkx38 (sr (sr M 1 (N 1)) 8 (N 8)) l1 l2 l3 hf _ (lv_sub hl [0, 1, 2, 3] rfl) _ _ hP hD hS
      · have hf := it_f hf c9
        refine lv_aload_n hx hb dX9_serves_18 rfl (lv_at hl 0 rfl) ?_
        refine va_get (D := (dC, dI)) (ci := 9) (v := .ref (a 8)) (C := RX9) (T := TX9) (N := 13) hx hb hts hinX9 hown hK hP 0 rfl rfl 12 (by decide) hw1 (fun _ h9 => h9) rfl dX9_serves_19 ?_
        refine lv_iload hx hb dX9_serves_22 (lv_at hl 4 rfl) ?_
        refine lv_aload_n hx hb dX9_serves_24 rfl (lv_at hl 0 rfl) ?_
        refine lv_iload_n hx hb dX9_serves_25 rfl (lv_at hl 1 rfl) ?_
        refine lv_iload hx hb dX9_serves_26 (lv_at hl 4 rfl) ?_
        obtain ⟨r28, hc28, hf⟩ := bi_s hf
        have hPc := hP
        refine cRO (W.runV (As := [.int l1, .int l4]) (rest := [.int l4, .ref (a 8)]) ⟨hx, hb, hml, hown, hts⟩ (c_X9_wants l dC dI cI cZ a (sr (sr M 1 (N 1)) 8 (N 8)) l1 l4 r28 hc28) (cwV 2 hts gX9_serves_X9_wants rfl rfl rfl (by decide +kernel) ⟨Nat.le_of_ble_eq_true rfl, Nat.le_of_ble_eq_true rfl⟩) ⟨RO.blind, va_recv hK hP (ci := 9) (q0 := 0) rfl rfl, RO.pre hPc hK hNW⟩ rfl rfl hl.1 rfl (lv_room (Nat.le_of_ble_eq_true rfl)) dX9_serves_28 ⟨Nat.le_of_ble_eq_true rfl, Nat.le_of_ble_eq_true rfl⟩) ?_
        obtain ⟨hi, hf⟩ := gd_s hf
        refine va_iast (D := (dC, dI)) (f := (N 8)) hx hb hK hP hD hS 8 0 rfl rfl (inb_in hi) dX9_serves_31 (fun H locs hP hD hS => ?_)
        have hP : va_P (dC, dI) vwCl (wX9 cI cZ a (sr (sr M 1 (N 1)) 8 (upd (N 8) l4.toNatClampNeg r28))) H := hP
        have hD : va_D A (wX9 cI cZ a (sr (sr M 1 (N 1)) 8 (upd (N 8) l4.toNatClampNeg r28))) := hD
        refine lv_iinc (v := (l4 + (1 : Int32))) (lv' := [(4, .int (l4 + (1 : Int32))), (0, .ref (a 0)), (1, .int l1), (2, .int l2), (3, .int l3)]) hx hb dX9_serves_32 hl (k := 4) rfl rfl (by decide) rfl (fun ls hl => ?_)
        refine lv_goto (tgt := 11) hx hb dX9_serves_35 (by decide) ?_
        exact ih kx38 hkx38 (sr (sr M 1 (N 1)) 8 (upd (N 8) l4.toNatClampNeg r28)) l1 l2 l3 (l4 + (1 : Int32)) hf _ (lv_sub hl [1, 2, 3, 4, 0] rfl) _ _ hP hD hS
  have hfX9_serves_B86 : ∀ (kb : Mem → Int32 → Int32 → Int32 → Int32 → Option (Int32 × Mem)) (hkb : ∀ (N : Mem) (l1 : Int32) (l2 : Int32) (l3 : Int32) (l4 : Int32), kb N l1 l2 l3 l4 = some z → ∀ (ls : Array Slot), lv_has ls 5 [(0, .ref (a 0)), (1, .int l1), (2, .int l2), (3, .int l3), (4, .int l4)] → ∀ (H : Heap) (locs : List Loc), va_P (dC, dI) vwCl (wX9 cI cZ a (sr (sr M 1 (N 1)) 8 (N 8))) H → va_D A (wX9 cI cZ a (sr (sr M 1 (N 1)) 8 (N 8))) → va_S A s.heap H locs → W p l e (headSpec wsX9_serves ({ frames := 5, cells := 0, slots := 0, locals := 115 } : Room)).room s m ([.ref (a 0), .int a1] : List Value).toArray below meth c H locs 0 0 (MQ below (va_Qi (S := Unit) (fun r _ => r = z.1) (fun _ t => WE (dC, dI) cI cZ (wX9 cI cZ a (sr (sr M 1 (z.2 1)) 8 (z.2 8))) A t) A) ([.ref (a 0), .int a1] : List Value).toArray s 0 0 A) (F0 m 41 ls [])) (kx92 : Mem → Int32 → Int32 → Option (Int32 × Mem)) (hkx92 : ∀ (N : Mem) (l1 : Int32) (l2 : Int32), kx92 N l1 l2 = some z → ∀ (ls : Array Slot), lv_has ls 5 [(0, .ref (a 0)), (1, .int l1), (2, .int l2)] → ∀ (H : Heap) (locs : List Loc), va_P (dC, dI) vwCl (wX9 cI cZ a (sr (sr M 1 (N 1)) 8 (N 8))) H → va_D A (wX9 cI cZ a (sr (sr M 1 (N 1)) 8 (N 8))) → va_S A s.heap H locs → W p l e (headSpec wsX9_serves ({ frames := 5, cells := 0, slots := 0, locals := 115 } : Room)).room s m ([.ref (a 0), .int a1] : List Value).toArray below meth c H locs 0 0 (MQ below (va_Qi (S := Unit) (fun r _ => r = z.1) (fun _ t => WE (dC, dI) cI cZ (wX9 cI cZ a (sr (sr M 1 (z.2 1)) 8 (z.2 8))) A t) A) ([.ref (a 0), .int a1] : List Value).toArray s 0 0 A) (F0 m 92 ls [])), ∀ (N : Mem) (l1 : Int32) (l2 : Int32) (l3 : Int32) (l4 : Int32), fX9_serves_B86 M kb kx92 N l1 l2 l3 l4 = some z → ∀ (ls : Array Slot), lv_has ls 5 [(0, .ref (a 0)), (1, .int l1), (2, .int l2), (3, .int l3), (4, .int l4)] → ∀ (H : Heap) (locs : List Loc), va_P (dC, dI) vwCl (wX9 cI cZ a (sr (sr M 1 (N 1)) 8 (N 8))) H → va_D A (wX9 cI cZ a (sr (sr M 1 (N 1)) 8 (N 8))) → va_S A s.heap H locs → W p l e (headSpec wsX9_serves ({ frames := 5, cells := 0, slots := 0, locals := 115 } : Room)).room s m ([.ref (a 0), .int a1] : List Value).toArray below meth c H locs 0 0 (MQ below (va_Qi (S := Unit) (fun r _ => r = z.1) (fun _ t => WE (dC, dI) cI cZ (wX9 cI cZ a (sr (sr M 1 (z.2 1)) 8 (z.2 8))) A t) A) ([.ref (a 0), .int a1] : List Value).toArray s 0 0 A) (F0 m 86 ls []) := by
    intro kb hkb kx92 hkx92 N l1 l2 l3 l4 hf ls hl H locs hP hD hS
    unfold fX9_serves_B86 at hf
    refine lv_iinc (v := (l4 + (1 : Int32))) (lv' := [(4, .int (l4 + (1 : Int32))), (0, .ref (a 0)), (1, .int l1), (2, .int l2), (3, .int l3)]) hx hb dX9_serves_86 hl (k := 4) rfl rfl (by decide) rfl (fun ls hl => ?_)
    refine lv_goto (tgt := 41) hx hb dX9_serves_89 (by decide) ?_
    exact hkb (sr (sr M 1 (N 1)) 8 (N 8)) l1 l2 l3 (l4 + (1 : Int32)) hf _ (lv_sub hl [1, 2, 3, 4, 0] rfl) _ _ hP hD hS
  have hfX9_serves_L41 : ∀ (n : Nat) (kx92 : Mem → Int32 → Int32 → Option (Int32 × Mem)) (hkx92 : ∀ (N : Mem) (l1 : Int32) (l2 : Int32), kx92 N l1 l2 = some z → ∀ (ls : Array Slot), lv_has ls 5 [(0, .ref (a 0)), (1, .int l1), (2, .int l2)] → ∀ (H : Heap) (locs : List Loc), va_P (dC, dI) vwCl (wX9 cI cZ a (sr (sr M 1 (N 1)) 8 (N 8))) H → va_D A (wX9 cI cZ a (sr (sr M 1 (N 1)) 8 (N 8))) → va_S A s.heap H locs → W p l e (headSpec wsX9_serves ({ frames := 5, cells := 0, slots := 0, locals := 115 } : Room)).room s m ([.ref (a 0), .int a1] : List Value).toArray below meth c H locs 0 0 (MQ below (va_Qi (S := Unit) (fun r _ => r = z.1) (fun _ t => WE (dC, dI) cI cZ (wX9 cI cZ a (sr (sr M 1 (z.2 1)) 8 (z.2 8))) A t) A) ([.ref (a 0), .int a1] : List Value).toArray s 0 0 A) (F0 m 92 ls [])), ∀ (N : Mem) (l1 : Int32) (l2 : Int32) (l3 : Int32) (l4 : Int32), fX9_serves_L41 M n kx92 N l1 l2 l3 l4 = some z → ∀ (ls : Array Slot), lv_has ls 5 [(0, .ref (a 0)), (1, .int l1), (2, .int l2), (3, .int l3), (4, .int l4)] → ∀ (H : Heap) (locs : List Loc), va_P (dC, dI) vwCl (wX9 cI cZ a (sr (sr M 1 (N 1)) 8 (N 8))) H → va_D A (wX9 cI cZ a (sr (sr M 1 (N 1)) 8 (N 8))) → va_S A s.heap H locs → W p l e (headSpec wsX9_serves ({ frames := 5, cells := 0, slots := 0, locals := 115 } : Room)).room s m ([.ref (a 0), .int a1] : List Value).toArray below meth c H locs 0 0 (MQ below (va_Qi (S := Unit) (fun r _ => r = z.1) (fun _ t => WE (dC, dI) cI cZ (wX9 cI cZ a (sr (sr M 1 (z.2 1)) 8 (z.2 8))) A t) A) ([.ref (a 0), .int a1] : List Value).toArray s 0 0 A) (F0 m 41 ls []) := by
    intro n
    induction n with
    | zero =>
      intro kx92 hkx92 N l1 l2 l3 l4 hf ls hl H locs hP hD hS
      rw [fX9_serves_L41] at hf
      cases hf
    | succ n ih =>
      intro kx92 hkx92 N l1 l2 l3 l4 hf ls hl H locs hP hD hS
      rw [fX9_serves_L41] at hf
      refine lv_iload hx hb dX9_serves_41 (lv_at hl 4 rfl) ?_
      refine lv_aload_n hx hb dX9_serves_43 rfl (lv_at hl 0 rfl) ?_
      refine va_get (D := (dC, dI)) (ci := 9) (v := .ref (a 1)) (C := RX9) (T := TX9) (N := 13) hx hb hts hinX9 hown hK hP 0 rfl rfl 1 (by decide) hw2 (fun _ h9 => h9) rfl dX9_serves_44 ?_
      refine lv_iconst (v := (0 : Int32)) hx hb dX9_serves_47 (by decide) ?_
      obtain ⟨hi, hf⟩ := gd_s hf
      refine va_iald (D := (dC, dI)) (f := (N 1)) hx hb hK hP 1 0 rfl rfl (inb_in hi) dX9_serves_48 ?_
      refine lv_icmp_ge (tgt := 92) hx hb dX9_serves_49 (by decide) (fun c9 => ?_) (fun c9 => ?_)
      · have hf := it_t hf c9
        exact hkx92 (sr (sr M 1 (N 1)) 8 (N 8)) l1 l2 hf _ (lv_sub hl [0, 1, 2] rfl) _ _ hP hD hS
      · have hf := it_f hf c9
        refine lv_iload_n hx hb dX9_serves_52 rfl (lv_at hl 3 rfl) ?_
        refine lv_iload hx hb dX9_serves_53 (lv_at hl 4 rfl) ?_
        refine lv_ishr hx hb dX9_serves_55 ?_
        refine lv_iconst (v := (1 : Int32)) hx hb dX9_serves_56 (by decide) ?_
        refine lv_iand hx hb dX9_serves_57 ?_
        refine lv_iconst (v := (1 : Int32)) hx hb dX9_serves_58 (by decide) ?_
        refine lv_icmp_ne (tgt := 86) hx hb dX9_serves_59 (by decide) (fun c9 => ?_) (fun c9 => ?_)
        · have hf := it_t hf c9
          exact hfX9_serves_B86 _ (ih kx92 hkx92) _ hkx92 (sr (sr M 1 (N 1)) 8 (N 8)) l1 l2 l3 l4 hf _ (lv_sub hl [0, 1, 2, 3, 4] rfl) _ _ hP hD hS
        · have hf := it_n hf c9
          refine lv_iload_n hx hb dX9_serves_62 rfl (lv_at hl 2 rfl) ?_
          refine lv_aload_n hx hb dX9_serves_63 rfl (lv_at hl 0 rfl) ?_
          refine lv_iload hx hb dX9_serves_64 (lv_at hl 4 rfl) ?_
          obtain ⟨r66, hc66, hf⟩ := bi_s hf
          have hPc := hP
          have hDc := hD
          have hFc := va_free (wc := (wX9 cI cZ a (sr (sr M 1 (N 1)) 8 (N 8)))) hD hS hA [0, 1, 2, 3, 4, 5, 6, 7, 8] rfl
          refine va_calli (va_runV (As := [.int l4]) (rest := [.int l2]) ⟨hx, hb, hml, hown, hts⟩ (c_X9_fetchesIt l dC dI cI cZ a H.size (sr (sr M 1 (N 1)) 8 (N 8)) l4 r66 hc66) (cwV 1 hts gX9_serves_X9_fetchesIt rfl rfl rfl (by decide +kernel) ⟨Nat.le_of_ble_eq_true rfl, Nat.le_of_ble_eq_true rfl⟩) ⟨WR.blind, va_recv hK hP (ci := 9) (q0 := 0) rfl rfl, WR.pre hPc hK hDc hNW⟩ rfl rfl hl.1 rfl (lv_room (Nat.le_of_ble_eq_true rfl)) dX9_serves_66 ⟨Nat.le_of_ble_eq_true rfl, Nat.le_of_ble_eq_true rfl⟩) hS (fun q _ h => hFc q h) hFc (fun rv u t H1 locs ht hvm hw hB hz1 hk1 hS => ?_)
          obtain ⟨hP1, hD1⟩ := hB
          rw [ht] at hP1
          subst hw
          have hP := hP1
          have hD := hD1.weaken (fun k q _ h => hFc q.1 h)
          have hP : va_P (dC, dI) vwCl (wX9 cI cZ a (sr (sr M 1 (r66.2 1)) 8 (N 8))) H1 := hP
          have hD : va_D A (wX9 cI cZ a (sr (sr M 1 (r66.2 1)) 8 (N 8))) := hD
          generalize H1 = H at hP hS ⊢
          refine lv_iadd hx hb dX9_serves_69 ?_
          refine lv_istore_n (lv' := [(2, .int (l2 + r66.1)), (0, .ref (a 0)), (1, .int l1), (3, .int l3), (4, .int l4)]) hx hb dX9_serves_70 rfl hl (by decide) rfl (fun ls hl => ?_)
          refine lv_aload_n hx hb dX9_serves_71 rfl (lv_at hl 1 rfl) ?_
          obtain ⟨r72, hc72, hf⟩ := bi_s hf
          have hPc := hP
          have hDc := hD
          have hFc := va_free (wc := (wX9 cI cZ a (sr (sr M 1 (r66.2 1)) 8 (N 8)))) hD hS hA [0, 1, 2, 3, 4, 5, 6, 7, 8] rfl
          refine va_callv (va_runV (As := []) (rest := []) ⟨hx, hb, hml, hown, hts⟩ (c_X9_gives l dC dI cI cZ a H.size (sr (sr M 1 (r66.2 1)) 8 (N 8)) r72 hc72) (cwV 0 hts gX9_serves_X9_gives rfl rfl rfl (by decide +kernel) ⟨Nat.le_of_ble_eq_true rfl, Nat.le_of_ble_eq_true rfl⟩) ⟨WR.blind, va_recv hK hP (ci := 9) (q0 := 0) rfl rfl, WR.pre hPc hK hDc hNW⟩ rfl rfl hl.1 rfl (lv_room (Nat.le_of_ble_eq_true rfl)) dX9_serves_72 ⟨Nat.le_of_ble_eq_true rfl, Nat.le_of_ble_eq_true rfl⟩) hS (fun q _ h => hFc q h) hFc (fun u t H1 locs ht hvm hw hB hz1 hk1 hS => ?_)
          obtain ⟨hP1, hD1⟩ := hB
          rw [ht] at hP1
          have hP := hP1
          have hD := hD1.weaken (fun k q _ h => hFc q.1 h)
          have hP : va_P (dC, dI) vwCl (wX9 cI cZ a (sr (sr M 1 (r72 1)) 8 (r72 8))) H1 := hP
          have hD : va_D A (wX9 cI cZ a (sr (sr M 1 (r72 1)) 8 (r72 8))) := hD
          generalize H1 = H at hP hS ⊢
          refine lv_iload_n hx hb dX9_serves_75 rfl (lv_at hl 0 rfl) ?_
          refine lv_aload_n hx hb dX9_serves_76 rfl (lv_at hl 1 rfl) ?_
          refine lv_aload_n hx hb dX9_serves_77 rfl (lv_at hl 1 rfl) ?_
          obtain ⟨r78, hc78, hf⟩ := bi_s hf
          have hPc := hP
          refine cRO (W.runV (As := []) (rest := [.ref (a 0), .int (l2 + r66.1)]) ⟨hx, hb, hml, hown, hts⟩ (c_X9_stowPlace l dC dI cI cZ a (sr (sr M 1 (r72 1)) 8 (r72 8)) r78 hc78) (cwV 0 hts gX9_serves_X9_stowPlace rfl rfl rfl (by decide +kernel) ⟨Nat.le_of_ble_eq_true rfl, Nat.le_of_ble_eq_true rfl⟩) ⟨RO.blind, va_recv hK hP (ci := 9) (q0 := 0) rfl rfl, RO.pre hPc hK hNW⟩ rfl rfl hl.1 rfl (lv_room (Nat.le_of_ble_eq_true rfl)) dX9_serves_78 ⟨Nat.le_of_ble_eq_true rfl, Nat.le_of_ble_eq_true rfl⟩) ?_
          obtain ⟨r81, hc81, hf⟩ := bi_s hf
          have hPc := hP
          have hDc := hD
          have hFc := va_free (wc := (wX9 cI cZ a (sr (sr M 1 (r72 1)) 8 (r72 8)))) hD hS hA [0, 1, 2, 3, 4, 5, 6, 7, 8] rfl
          refine va_calli (va_runV (As := [.int r78]) (rest := [.int (l2 + r66.1)]) ⟨hx, hb, hml, hown, hts⟩ (c_X9_stows l dC dI cI cZ a H.size (sr (sr M 1 (r72 1)) 8 (r72 8)) r78 r81 hc81) (cwV 1 hts gX9_serves_X9_stows rfl rfl rfl (by decide +kernel) ⟨Nat.le_of_ble_eq_true rfl, Nat.le_of_ble_eq_true rfl⟩) ⟨WR.blind, va_recv hK hP (ci := 9) (q0 := 0) rfl rfl, WR.pre hPc hK hDc hNW⟩ rfl rfl hl.1 rfl (lv_room (Nat.le_of_ble_eq_true rfl)) dX9_serves_81 ⟨Nat.le_of_ble_eq_true rfl, Nat.le_of_ble_eq_true rfl⟩) hS (fun q _ h => hFc q h) hFc (fun rv u t H1 locs ht hvm hw hB hz1 hk1 hS => ?_)
          obtain ⟨hP1, hD1⟩ := hB
          rw [ht] at hP1
          subst hw
          have hP := hP1
          have hD := hD1.weaken (fun k q _ h => hFc q.1 h)
          have hP : va_P (dC, dI) vwCl (wX9 cI cZ a (sr (sr M 1 (r81.2 1)) 8 (r72 8))) H1 := hP
          have hD : va_D A (wX9 cI cZ a (sr (sr M 1 (r81.2 1)) 8 (r72 8))) := hD
          generalize H1 = H at hP hS ⊢
          refine lv_iadd hx hb dX9_serves_84 ?_
          refine lv_istore_n (lv' := [(2, .int ((l2 + r66.1) + r81.1)), (0, .ref (a 0)), (1, .int l1), (3, .int l3), (4, .int l4)]) hx hb dX9_serves_85 rfl hl (by decide) rfl (fun ls hl => ?_)
          exact hfX9_serves_B86 _ (ih kx92 hkx92) _ hkx92 (sr (sr M 1 (r81.2 1)) 8 (r72 8)) l1 ((l2 + r66.1) + r81.1) l3 l4 hf _ (lv_sub hl [1, 2, 0, 3, 4] rfl) _ _ hP hD hS
  have hl := lv_entry ([.ref (a 0), .int a1]) (n := 5) (Nat.le_of_ble_eq_true rfl)
  rw [lg_entry_eq]
  generalize (lg_sl ([.ref (a 0), .int a1]) ++ List.replicate (5 - (lg_sl ([.ref (a 0), .int a1])).length) Slot.unset).toArray = ls at hl ⊢
  have hl : lv_has ls 5 [(0, .ref (a 0)), (1, .int a1)] := hl
  unfold fX9_serves at hf
  suffices hgo : ∀ (H : Heap) (locs : List Loc), va_P (dC, dI) vwCl (wX9 cI cZ a M) H → va_D A (wX9 cI cZ a M) → va_S A s.heap H locs → W p l e (headSpec wsX9_serves ({ frames := 5, cells := 0, slots := 0, locals := 115 } : Room)).room s m ([.ref (a 0), .int a1] : List Value).toArray below meth c H locs 0 0 (MQ below (va_Qi (S := Unit) (fun r _ => r = z.1) (fun _ t => WE (dC, dI) cI cZ (wX9 cI cZ a (sr (sr M 1 (z.2 1)) 8 (z.2 8))) A t) A) ([.ref (a 0), .int a1] : List Value).toArray s 0 0 A) (F0 m 0 ls []) from hgo _ _ hP hD hS
  intro H locs hP hD hS
  refine lv_iconst (v := (0 : Int32)) hx hb dX9_serves_0 (by decide) ?_
  refine lv_istore_n (lv' := [(2, .int (0 : Int32)), (0, .ref (a 0)), (1, .int a1)]) hx hb dX9_serves_1 rfl hl (by decide) rfl (fun ls hl => ?_)
  refine lv_aload_n hx hb dX9_serves_2 rfl (lv_at hl 1 rfl) ?_
  refine lv_iload_n hx hb dX9_serves_3 rfl (lv_at hl 2 rfl) ?_
  obtain ⟨r4, hc4, hf⟩ := bi_s hf
  have hPc := hP
  refine cRO (W.runV (As := [.int a1]) (rest := []) ⟨hx, hb, hml, hown, hts⟩ (c_X9_chosen l dC dI cI cZ a M a1 r4 hc4) (cwV 1 hts gX9_serves_X9_chosen rfl rfl rfl (by decide +kernel) ⟨Nat.le_of_ble_eq_true rfl, Nat.le_of_ble_eq_true rfl⟩) ⟨RO.blind, va_recv hK hP (ci := 9) (q0 := 0) rfl rfl, RO.pre hPc hK hNW⟩ rfl rfl hl.1 rfl (lv_room (Nat.le_of_ble_eq_true rfl)) dX9_serves_4 ⟨Nat.le_of_ble_eq_true rfl, Nat.le_of_ble_eq_true rfl⟩) ?_
  refine lv_istore_n (lv' := [(3, .int r4), (2, .int (0 : Int32)), (0, .ref (a 0)), (1, .int a1)]) hx hb dX9_serves_7 rfl hl (by decide) rfl (fun ls hl => ?_)
  refine lv_iconst (v := (0 : Int32)) hx hb dX9_serves_8 (by decide) ?_
  refine lv_istore (lv' := [(4, .int (0 : Int32)), (3, .int r4), (2, .int (0 : Int32)), (0, .ref (a 0)), (1, .int a1)]) hx hb dX9_serves_9 hl (by decide) rfl (fun ls hl => ?_)
  refine hfX9_serves_L11 5000 _ (fun N l1 l2 l3 hf ls hl H locs hP hD hS => ?_) M a1 (0 : Int32) r4 (0 : Int32) hf _ (lv_sub hl [3, 4, 2, 1, 0] rfl) _ _ hP hD hS
  refine lv_iconst (v := (0 : Int32)) hx hb dX9_serves_38 (by decide) ?_
  refine lv_istore (lv' := [(4, .int (0 : Int32)), (0, .ref (a 0)), (1, .int l1), (2, .int l2), (3, .int l3)]) hx hb dX9_serves_39 hl (by decide) rfl (fun ls hl => ?_)
  refine hfX9_serves_L41 5000 _ (fun N l1 l2 hf ls hl H locs hP hD hS => ?_) (sr (sr M 1 (N 1)) 8 (N 8)) l1 l2 l3 (0 : Int32) hf _ (lv_sub hl [1, 2, 3, 4, 0] rfl) _ _ hP hD hS
  refine lv_aload_n hx hb dX9_serves_92 rfl (lv_at hl 0 rfl) ?_
  refine lv_iload_n hx hb dX9_serves_93 rfl (lv_at hl 1 rfl) ?_
  obtain ⟨r94, hc94, hf⟩ := bi_s hf
  have hPc := hP
  have hDc := hD
  have hFc := va_free (wc := (wX9 cI cZ a (sr (sr M 1 (N 1)) 8 (N 8)))) hD hS hA [0, 1, 2, 3, 4, 5, 6, 7, 8] rfl
  refine va_callv (va_runV (As := [.int l1]) (rest := []) ⟨hx, hb, hml, hown, hts⟩ (c_X9_drops l dC dI cI cZ a H.size (sr (sr M 1 (N 1)) 8 (N 8)) l1 r94 hc94) (cwV 1 hts gX9_serves_X9_drops rfl rfl rfl (by decide +kernel) ⟨Nat.le_of_ble_eq_true rfl, Nat.le_of_ble_eq_true rfl⟩) ⟨WR.blind, va_recv hK hP (ci := 9) (q0 := 0) rfl rfl, WR.pre hPc hK hDc hNW⟩ rfl rfl hl.1 rfl (lv_room (Nat.le_of_ble_eq_true rfl)) dX9_serves_94 ⟨Nat.le_of_ble_eq_true rfl, Nat.le_of_ble_eq_true rfl⟩) hS (fun q _ h => hFc q h) hFc (fun u t H1 locs ht hvm hw hB hz1 hk1 hS => ?_)
  obtain ⟨hP1, hD1⟩ := hB
  rw [ht] at hP1
  have hP := hP1
  have hD := hD1.weaken (fun k q _ h => hFc q.1 h)
  have hP : va_P (dC, dI) vwCl (wX9 cI cZ a (sr (sr M 1 (r94 1)) 8 (N 8))) H1 := hP
  have hD : va_D A (wX9 cI cZ a (sr (sr M 1 (r94 1)) 8 (N 8))) := hD
  generalize H1 = H at hP hS ⊢
  refine lv_aload_n hx hb dX9_serves_97 rfl (lv_at hl 0 rfl) ?_
  refine va_get (D := (dC, dI)) (ci := 9) (v := .ref (a 1)) (C := RX9) (T := TX9) (N := 13) hx hb hts hinX9 hown hK hP 0 rfl rfl 1 (by decide) hw2 (fun _ h9 => h9) rfl dX9_serves_98 ?_
  refine lv_bipush (v := (6 : Int32)) hx hb dX9_serves_101 (by decide) ?_
  refine lv_dup2_11 hx hb dX9_serves_103 rfl rfl ?_
  obtain ⟨hi, hf⟩ := gd_s hf
  refine va_iald (D := (dC, dI)) (f := (r94 1)) hx hb hK hP 1 0 rfl rfl (inb_in hi) dX9_serves_104 ?_
  refine lv_iconst (v := (1 : Int32)) hx hb dX9_serves_105 (by decide) ?_
  refine lv_iadd hx hb dX9_serves_106 ?_
  obtain ⟨hi, hf⟩ := gd_s hf
  refine va_iast (D := (dC, dI)) (f := (r94 1)) hx hb hK hP hD hS 1 0 rfl rfl (inb_in hi) dX9_serves_107 (fun H locs hP hD hS => ?_)
  have hP : va_P (dC, dI) vwCl (wX9 cI cZ a (sr (sr M 1 (upd (r94 1) (6 : Int32).toNatClampNeg (((r94 1) (6 : Int32).toNatClampNeg) + (1 : Int32)))) 8 (N 8))) H := hP
  have hD : va_D A (wX9 cI cZ a (sr (sr M 1 (upd (r94 1) (6 : Int32).toNatClampNeg (((r94 1) (6 : Int32).toNatClampNeg) + (1 : Int32)))) 8 (N 8))) := hD
  refine lv_iload_n hx hb dX9_serves_108 rfl (lv_at hl 2 rfl) ?_
  have e9 := so_e hf
  subst e9
  exact W.iret (v := l2) hx hb hr (fun t ht hW => ⟨⟨l2, (), rfl, rfl, WE.mk hP hD ht⟩, hS.F ht⟩) hS.2.2 dX9_serves_109
set_option maxHeartbeats 4000000 in
set_option maxRecDepth 100000 in
theorem c_X9_firstServable (l : Launch) (dC : Nat → ClassId) (dI : Nat → Nat → Nat) (cI cZ : ClassId) (a : Nat → Nat) (M : Mem) (z : Int32) (hf : fX9_firstServable M  = some z) : Met l yX9_firstServable wsX9_firstServable ({ frames := 3, cells := 0, slots := 0, locals := 68 } : Room) (va_Pc [.ref (a 0)] (RO (dC, dI) cI cZ (wX9 cI cZ a M))) (k2_QcV (.int z)) 0 0 (fun _ => False) := by
  refine Met.ofW (cc := cX9_firstServable) (maxL := 3) (ret := (some .int)) (by decide) rfl ?_
  intro p e s m args below meth c s₁ B hml hv
  obtain ⟨rfl, hP, hK, hNW⟩ := hv
  have hx := B.exec
  have hb := B.bytes
  have hr := B.returns
  have hts := atoms_spec (ws := wsX9_firstServable) B.pre
  have hown : s.vm.findClass RX9 = some m.cls := findClass_of_methodNamed B.named
  have hlocks := B.notSynchronized
  have hinX9 : ∀ w ∈ u_ws RX9 TX9 13, w ∈ wsX9_firstServable := by decide +kernel
  have hw1 := hts (.fieldLink RX9 7 "GlideShelvesModel" "s" "[I") (by decide +kernel)
  have hfX9_firstServable_B29 : ∀ (kb : Int32 → Int32 → Option (Int32)) (hkb : ∀ (l1 : Int32) (l2 : Int32), kb l1 l2 = some z → ∀ (ls : Array Slot), lv_has ls 3 [(0, .ref (a 0)), (1, .int l1), (2, .int l2)] → W p l e (headSpec wsX9_firstServable ({ frames := 3, cells := 0, slots := 0, locals := 68 } : Room)).room s m ([.ref (a 0)] : List Value).toArray below meth c s.heap [] 0 0 (MQ below (k2_QcV (.int z)) ([.ref (a 0)] : List Value).toArray s 0 0 (fun _ => False)) (F0 m 12 ls [])) (kx36 : Int32 → Option (Int32)) (hkx36 : ∀ (l1 : Int32), kx36 l1 = some z → ∀ (ls : Array Slot), lv_has ls 3 [(1, .int l1)] → W p l e (headSpec wsX9_firstServable ({ frames := 3, cells := 0, slots := 0, locals := 68 } : Room)).room s m ([.ref (a 0)] : List Value).toArray below meth c s.heap [] 0 0 (MQ below (k2_QcV (.int z)) ([.ref (a 0)] : List Value).toArray s 0 0 (fun _ => False)) (F0 m 36 ls [])), ∀ (l2 : Int32) (s0 : Int32), fX9_firstServable_B29 M kb kx36 l2 s0 = some z → ∀ (ls : Array Slot), lv_has ls 3 [(0, .ref (a 0)), (2, .int l2)] → W p l e (headSpec wsX9_firstServable ({ frames := 3, cells := 0, slots := 0, locals := 68 } : Room)).room s m ([.ref (a 0)] : List Value).toArray below meth c s.heap [] 0 0 (MQ below (k2_QcV (.int z)) ([.ref (a 0)] : List Value).toArray s 0 0 (fun _ => False)) (F0 m 29 ls [.int s0]) := by
    intro kb hkb kx36 hkx36 l2 s0 hf ls hl
    unfold fX9_firstServable_B29 at hf
    refine lv_istore_n (lv' := [(1, .int s0), (0, .ref (a 0)), (2, .int l2)]) hx hb dX9_firstServable_29 rfl hl (by decide) rfl (fun ls hl => ?_)
    refine lv_iinc (v := (l2 + (-1 : Int32))) (lv' := [(2, .int (l2 + (-1 : Int32))), (1, .int s0), (0, .ref (a 0))]) hx hb dX9_firstServable_30 hl (k := 2) rfl rfl (by decide) rfl (fun ls hl => ?_)
    refine lv_goto (tgt := 12) hx hb dX9_firstServable_33 (by decide) ?_
    exact hkb s0 (l2 + (-1 : Int32)) hf _ (lv_sub hl [2, 1, 0] rfl)
  have hfX9_firstServable_L12 : ∀ (n : Nat) (kx36 : Int32 → Option (Int32)) (hkx36 : ∀ (l1 : Int32), kx36 l1 = some z → ∀ (ls : Array Slot), lv_has ls 3 [(1, .int l1)] → W p l e (headSpec wsX9_firstServable ({ frames := 3, cells := 0, slots := 0, locals := 68 } : Room)).room s m ([.ref (a 0)] : List Value).toArray below meth c s.heap [] 0 0 (MQ below (k2_QcV (.int z)) ([.ref (a 0)] : List Value).toArray s 0 0 (fun _ => False)) (F0 m 36 ls [])), ∀ (l1 : Int32) (l2 : Int32), fX9_firstServable_L12 M n kx36 l1 l2 = some z → ∀ (ls : Array Slot), lv_has ls 3 [(0, .ref (a 0)), (1, .int l1), (2, .int l2)] → W p l e (headSpec wsX9_firstServable ({ frames := 3, cells := 0, slots := 0, locals := 68 } : Room)).room s m ([.ref (a 0)] : List Value).toArray below meth c s.heap [] 0 0 (MQ below (k2_QcV (.int z)) ([.ref (a 0)] : List Value).toArray s 0 0 (fun _ => False)) (F0 m 12 ls []) := by
    intro n
    induction n with
    | zero =>
      intro kx36 hkx36 l1 l2 hf ls hl
      rw [fX9_firstServable_L12] at hf
      cases hf
    | succ n ih =>
      intro kx36 hkx36 l1 l2 hf ls hl
      rw [fX9_firstServable_L12] at hf
      refine lv_iload_n hx hb dX9_firstServable_12 rfl (lv_at hl 2 rfl) ?_
      refine lv_if_lt (tgt := 36) hx hb dX9_firstServable_13 (by decide) (fun c9 => ?_) (fun c9 => ?_)
      · have hf := it_t hf c9
        exact hkx36 l1 hf _ (lv_sub hl [1] rfl)
      · have hf := it_f hf c9
        refine lv_aload_n hx hb dX9_firstServable_16 rfl (lv_at hl 0 rfl) ?_
        refine lv_iload_n hx hb dX9_firstServable_17 rfl (lv_at hl 2 rfl) ?_
        obtain ⟨r18, hc18, hf⟩ := bi_s hf
        have hPc := hP
        refine cRO (W.runV (As := [.int l2]) (rest := []) ⟨hx, hb, hml, hown, hts⟩ (c_X9_canBe l dC dI cI cZ a M l2 r18 hc18) (cwV 1 hts gX9_firstServable_X9_canBe rfl rfl rfl (by decide +kernel) ⟨Nat.le_of_ble_eq_true rfl, Nat.le_of_ble_eq_true rfl⟩) ⟨RO.blind, va_recv hK hP (ci := 9) (q0 := 0) rfl rfl, RO.pre hPc hK hNW⟩ rfl rfl hl.1 rfl (lv_room (Nat.le_of_ble_eq_true rfl)) dX9_firstServable_18 ⟨Nat.le_of_ble_eq_true rfl, Nat.le_of_ble_eq_true rfl⟩) ?_
        refine lv_if_eq (tgt := 28) hx hb dX9_firstServable_21 (by decide) (fun c9 => ?_) (fun c9 => ?_)
        · have hf := it_t hf c9
          refine lv_iload_n hx hb dX9_firstServable_28 rfl (lv_at hl 1 rfl) ?_
          exact hfX9_firstServable_B29 _ (ih kx36 hkx36) _ hkx36 l2 l1 hf _ (lv_sub hl [0, 2] rfl)
        · have hf := it_f hf c9
          refine lv_iload_n hx hb dX9_firstServable_24 rfl (lv_at hl 2 rfl) ?_
          refine lv_goto (tgt := 29) hx hb dX9_firstServable_25 (by decide) ?_
          exact hfX9_firstServable_B29 _ (ih kx36 hkx36) _ hkx36 l2 l2 hf _ (lv_sub hl [0, 2] rfl)
  have hl := lv_entry ([.ref (a 0)]) (n := 3) (Nat.le_of_ble_eq_true rfl)
  rw [lg_entry_eq]
  generalize (lg_sl ([.ref (a 0)]) ++ List.replicate (3 - (lg_sl ([.ref (a 0)])).length) Slot.unset).toArray = ls at hl ⊢
  have hl : lv_has ls 3 [(0, .ref (a 0))] := hl
  unfold fX9_firstServable at hf
  refine lv_iconst (v := (-1 : Int32)) hx hb dX9_firstServable_0 (by decide) ?_
  refine lv_istore_n (lv' := [(1, .int (-1 : Int32)), (0, .ref (a 0))]) hx hb dX9_firstServable_1 rfl hl (by decide) rfl (fun ls hl => ?_)
  refine lv_aload_n hx hb dX9_firstServable_2 rfl (lv_at hl 1 rfl) ?_
  refine va_get (D := (dC, dI)) (ci := 9) (v := .ref (a 1)) (C := RX9) (T := TX9) (N := 13) hx hb hts hinX9 hown hK hP 0 rfl rfl 1 (by decide) hw1 (fun _ h9 => h9) rfl dX9_firstServable_3 ?_
  refine lv_bipush (v := (8 : Int32)) hx hb dX9_firstServable_6 (by decide) ?_
  obtain ⟨hi, hf⟩ := gd_s hf
  refine va_iald (D := (dC, dI)) (f := (M 1)) hx hb hK hP 1 0 rfl rfl (inb_in hi) dX9_firstServable_8 ?_
  refine lv_iconst (v := (1 : Int32)) hx hb dX9_firstServable_9 (by decide) ?_
  refine lv_isub hx hb dX9_firstServable_10 ?_
  refine lv_istore_n (lv' := [(2, .int ((M 1 (8 : Int32).toNatClampNeg) - (1 : Int32))), (1, .int (-1 : Int32)), (0, .ref (a 0))]) hx hb dX9_firstServable_11 rfl hl (by decide) rfl (fun ls hl => ?_)
  refine hfX9_firstServable_L12 5000 _ (fun l1 hf ls hl => ?_) (-1 : Int32) ((M 1 (8 : Int32).toNatClampNeg) - (1 : Int32)) hf _ (lv_sub hl [2, 1, 0] rfl)
  refine lv_iload_n hx hb dX9_firstServable_36 rfl (lv_at hl 0 rfl) ?_
  exact W.iret (v := l1) hx hb hr (fun t ht hW => ⟨congrArg (fun x => Outcome.returned (some (Value.int x))) (so_e hf), ht⟩) fl0 dX9_firstServable_37
set_option maxHeartbeats 4000000 in
set_option maxRecDepth 100000 in
theorem c_X9_servesAll (l : Launch) (dC : Nat → ClassId) (dI : Nat → Nat → Nat) (cI cZ : ClassId) (a : Nat → Nat) (sz : Nat) (M : Mem) (z : Int32 × Mem) (hf : fX9_servesAll M  = some z) : Met l yX9_servesAll wsX9_servesAll ({ frames := 6, cells := 0, slots := 0, locals := 139 } : Room) (va_Pc [.ref (a 0)] (WR (dC, dI) cI cZ (wX9 cI cZ a M) sz)) (va_Qi (S := Unit) (fun r _ => r = z.1) (fun _ t => WE (dC, dI) cI cZ (wX9 cI cZ a (sr (sr M 1 (z.2 1)) 8 (z.2 8))) (va_A (wX9 cI cZ a M) sz) t) (va_A (wX9 cI cZ a M) sz)) 0 0 (va_A (wX9 cI cZ a M) sz) := by
  refine Met.ofW (cc := cX9_servesAll) (maxL := 3) (ret := (some .int)) (by decide) rfl ?_
  intro p e s m args below meth c s₁ B hml hv
  obtain ⟨rfl, hsz, hP, hK, hD0, hNW⟩ := hv
  have hx := B.exec
  have hb := B.bytes
  have hr := B.returns
  have hts := atoms_spec (ws := wsX9_servesAll) B.pre
  have hown : s.vm.findClass RX9 = some m.cls := findClass_of_methodNamed B.named
  have hlocks := B.notSynchronized
  subst hsz
  have hD := hD0.self (sz := s.heap.size)
  generalize hAe : va_A (wX9 cI cZ a M) s.heap.size = A at hD ⊢
  have hA : ∀ q : Nat, s.heap.size ≤ q → A q := fun q h => by rw [← hAe]; exact Or.inr h
  have hS : va_S A s.heap s.heap [] := va_S.rf
  have hfX9_servesAll_L7 : ∀ (n : Nat) (kx28 : Mem → Int32 → Option (Int32 × Mem)) (hkx28 : ∀ (N : Mem) (l1 : Int32), kx28 N l1 = some z → ∀ (ls : Array Slot), lv_has ls 3 [(1, .int l1)] → ∀ (H : Heap) (locs : List Loc), va_P (dC, dI) vwCl (wX9 cI cZ a (sr (sr M 1 (N 1)) 8 (N 8))) H → va_D A (wX9 cI cZ a (sr (sr M 1 (N 1)) 8 (N 8))) → va_S A s.heap H locs → W p l e (headSpec wsX9_servesAll ({ frames := 6, cells := 0, slots := 0, locals := 139 } : Room)).room s m ([.ref (a 0)] : List Value).toArray below meth c H locs 0 0 (MQ below (va_Qi (S := Unit) (fun r _ => r = z.1) (fun _ t => WE (dC, dI) cI cZ (wX9 cI cZ a (sr (sr M 1 (z.2 1)) 8 (z.2 8))) A t) A) ([.ref (a 0)] : List Value).toArray s 0 0 A) (F0 m 28 ls [])), ∀ (N : Mem) (l1 : Int32) (l2 : Int32), fX9_servesAll_L7 M n kx28 N l1 l2 = some z → ∀ (ls : Array Slot), lv_has ls 3 [(0, .ref (a 0)), (1, .int l1), (2, .int l2)] → ∀ (H : Heap) (locs : List Loc), va_P (dC, dI) vwCl (wX9 cI cZ a (sr (sr M 1 (N 1)) 8 (N 8))) H → va_D A (wX9 cI cZ a (sr (sr M 1 (N 1)) 8 (N 8))) → va_S A s.heap H locs → W p l e (headSpec wsX9_servesAll ({ frames := 6, cells := 0, slots := 0, locals := 139 } : Room)).room s m ([.ref (a 0)] : List Value).toArray below meth c H locs 0 0 (MQ below (va_Qi (S := Unit) (fun r _ => r = z.1) (fun _ t => WE (dC, dI) cI cZ (wX9 cI cZ a (sr (sr M 1 (z.2 1)) 8 (z.2 8))) A t) A) ([.ref (a 0)] : List Value).toArray s 0 0 A) (F0 m 7 ls []) := by
    intro n
    induction n with
    | zero =>
      intro kx28 hkx28 N l1 l2 hf ls hl H locs hP hD hS
      rw [fX9_servesAll_L7] at hf
      cases hf
    | succ n ih =>
      intro kx28 hkx28 N l1 l2 hf ls hl H locs hP hD hS
      rw [fX9_servesAll_L7] at hf
      refine lv_iload_n hx hb dX9_servesAll_7 rfl (lv_at hl 2 rfl) ?_
      refine lv_iconst (v := (-1 : Int32)) hx hb dX9_servesAll_8 (by decide) ?_
      refine lv_icmp_eq (tgt := 28) hx hb dX9_servesAll_9 (by decide) (fun c9 => ?_) (fun c9 => ?_)
      · have hf := it_t hf c9
        exact hkx28 (sr (sr M 1 (N 1)) 8 (N 8)) l1 hf _ (lv_sub hl [1] rfl) _ _ hP hD hS
      · have hf := it_f hf c9
        refine lv_iload_n hx hb dX9_servesAll_12 rfl (lv_at hl 1 rfl) ?_
        refine lv_aload_n hx hb dX9_servesAll_13 rfl (lv_at hl 0 rfl) ?_
        refine lv_iload_n hx hb dX9_servesAll_14 rfl (lv_at hl 2 rfl) ?_
        obtain ⟨r15, hc15, hf⟩ := bi_s hf
        have hPc := hP
        have hDc := hD
        have hFc := va_free (wc := (wX9 cI cZ a (sr (sr M 1 (N 1)) 8 (N 8)))) hD hS hA [0, 1, 2, 3, 4, 5, 6, 7, 8] rfl
        refine va_calli (va_runV (As := [.int l2]) (rest := [.int l1]) ⟨hx, hb, hml, hown, hts⟩ (c_X9_serves l dC dI cI cZ a H.size (sr (sr M 1 (N 1)) 8 (N 8)) l2 r15 hc15) (cwV 1 hts gX9_servesAll_X9_serves rfl rfl rfl (by decide +kernel) ⟨Nat.le_of_ble_eq_true rfl, Nat.le_of_ble_eq_true rfl⟩) ⟨WR.blind, va_recv hK hP (ci := 9) (q0 := 0) rfl rfl, WR.pre hPc hK hDc hNW⟩ rfl rfl hl.1 rfl (lv_room (Nat.le_of_ble_eq_true rfl)) dX9_servesAll_15 ⟨Nat.le_of_ble_eq_true rfl, Nat.le_of_ble_eq_true rfl⟩) hS (fun q _ h => hFc q h) hFc (fun rv u t H1 locs ht hvm hw hB hz1 hk1 hS => ?_)
        obtain ⟨hP1, hD1⟩ := hB
        rw [ht] at hP1
        subst hw
        have hP := hP1
        have hD := hD1.weaken (fun k q _ h => hFc q.1 h)
        have hP : va_P (dC, dI) vwCl (wX9 cI cZ a (sr (sr M 1 (r15.2 1)) 8 (r15.2 8))) H1 := hP
        have hD : va_D A (wX9 cI cZ a (sr (sr M 1 (r15.2 1)) 8 (r15.2 8))) := hD
        generalize H1 = H at hP hS ⊢
        refine lv_iadd hx hb dX9_servesAll_18 ?_
        refine lv_istore_n (lv' := [(1, .int (l1 + r15.1)), (0, .ref (a 0)), (2, .int l2)]) hx hb dX9_servesAll_19 rfl hl (by decide) rfl (fun ls hl => ?_)
        refine lv_aload_n hx hb dX9_servesAll_20 rfl (lv_at hl 1 rfl) ?_
        obtain ⟨r21, hc21, hf⟩ := bi_s hf
        have hPc := hP
        refine cRO (W.runV (As := []) (rest := []) ⟨hx, hb, hml, hown, hts⟩ (c_X9_firstServable l dC dI cI cZ a (sr (sr M 1 (r15.2 1)) 8 (r15.2 8)) r21 hc21) (cwV 0 hts gX9_servesAll_X9_firstServable rfl rfl rfl (by decide +kernel) ⟨Nat.le_of_ble_eq_true rfl, Nat.le_of_ble_eq_true rfl⟩) ⟨RO.blind, va_recv hK hP (ci := 9) (q0 := 0) rfl rfl, RO.pre hPc hK hNW⟩ rfl rfl hl.1 rfl (lv_room (Nat.le_of_ble_eq_true rfl)) dX9_servesAll_21 ⟨Nat.le_of_ble_eq_true rfl, Nat.le_of_ble_eq_true rfl⟩) ?_
        refine lv_istore_n (lv' := [(2, .int r21), (1, .int (l1 + r15.1)), (0, .ref (a 0))]) hx hb dX9_servesAll_24 rfl hl (by decide) rfl (fun ls hl => ?_)
        refine lv_goto (tgt := 7) hx hb dX9_servesAll_25 (by decide) ?_
        exact ih kx28 hkx28 (sr (sr M 1 (r15.2 1)) 8 (r15.2 8)) (l1 + r15.1) r21 hf _ (lv_sub hl [2, 1, 0] rfl) _ _ hP hD hS
  have hl := lv_entry ([.ref (a 0)]) (n := 3) (Nat.le_of_ble_eq_true rfl)
  rw [lg_entry_eq]
  generalize (lg_sl ([.ref (a 0)]) ++ List.replicate (3 - (lg_sl ([.ref (a 0)])).length) Slot.unset).toArray = ls at hl ⊢
  have hl : lv_has ls 3 [(0, .ref (a 0))] := hl
  unfold fX9_servesAll at hf
  suffices hgo : ∀ (H : Heap) (locs : List Loc), va_P (dC, dI) vwCl (wX9 cI cZ a M) H → va_D A (wX9 cI cZ a M) → va_S A s.heap H locs → W p l e (headSpec wsX9_servesAll ({ frames := 6, cells := 0, slots := 0, locals := 139 } : Room)).room s m ([.ref (a 0)] : List Value).toArray below meth c H locs 0 0 (MQ below (va_Qi (S := Unit) (fun r _ => r = z.1) (fun _ t => WE (dC, dI) cI cZ (wX9 cI cZ a (sr (sr M 1 (z.2 1)) 8 (z.2 8))) A t) A) ([.ref (a 0)] : List Value).toArray s 0 0 A) (F0 m 0 ls []) from hgo _ _ hP hD hS
  intro H locs hP hD hS
  refine lv_iconst (v := (0 : Int32)) hx hb dX9_servesAll_0 (by decide) ?_
  refine lv_istore_n (lv' := [(1, .int (0 : Int32)), (0, .ref (a 0))]) hx hb dX9_servesAll_1 rfl hl (by decide) rfl (fun ls hl => ?_)
  refine lv_aload_n hx hb dX9_servesAll_2 rfl (lv_at hl 1 rfl) ?_
  obtain ⟨r3, hc3, hf⟩ := bi_s hf
  have hPc := hP
  refine cRO (W.runV (As := []) (rest := []) ⟨hx, hb, hml, hown, hts⟩ (c_X9_firstServable l dC dI cI cZ a M r3 hc3) (cwV 0 hts gX9_servesAll_X9_firstServable rfl rfl rfl (by decide +kernel) ⟨Nat.le_of_ble_eq_true rfl, Nat.le_of_ble_eq_true rfl⟩) ⟨RO.blind, va_recv hK hP (ci := 9) (q0 := 0) rfl rfl, RO.pre hPc hK hNW⟩ rfl rfl hl.1 rfl (lv_room (Nat.le_of_ble_eq_true rfl)) dX9_servesAll_3 ⟨Nat.le_of_ble_eq_true rfl, Nat.le_of_ble_eq_true rfl⟩) ?_
  refine lv_istore_n (lv' := [(2, .int r3), (1, .int (0 : Int32)), (0, .ref (a 0))]) hx hb dX9_servesAll_6 rfl hl (by decide) rfl (fun ls hl => ?_)
  refine hfX9_servesAll_L7 5000 _ (fun N l1 hf ls hl H locs hP hD hS => ?_) M (0 : Int32) r3 hf _ (lv_sub hl [2, 1, 0] rfl) _ _ hP hD hS
  refine lv_iload_n hx hb dX9_servesAll_28 rfl (lv_at hl 0 rfl) ?_
  have e9 := so_e hf
  subst e9
  exact W.iret (v := l1) hx hb hr (fun t ht hW => ⟨⟨l1, (), rfl, rfl, WE.mk hP hD ht⟩, hS.F ht⟩) hS.2.2 dX9_servesAll_29
set_option maxHeartbeats 4000000 in
set_option maxRecDepth 100000 in
theorem c_X9_servesAside (l : Launch) (dC : Nat → ClassId) (dI : Nat → Nat → Nat) (cI cZ : ClassId) (a : Nat → Nat) (sz : Nat) (M : Mem) (a1 : Int32) (z : Int32 × Mem) (hf : fX9_servesAside M a1 = some z) : Met l yX9_servesAside wsX9_servesAside ({ frames := 6, cells := 0, slots := 0, locals := 139 } : Room) (va_Pc [.ref (a 0), .int a1] (WR (dC, dI) cI cZ (wX9 cI cZ a M) sz)) (va_Qi (S := Unit) (fun r _ => r = z.1) (fun _ t => WE (dC, dI) cI cZ (wX9 cI cZ a (sr (sr (sr M 1 (z.2 1)) 2 (z.2 2)) 8 (z.2 8))) (va_A (wX9 cI cZ a M) sz) t) (va_A (wX9 cI cZ a M) sz)) 0 0 (va_A (wX9 cI cZ a M) sz) := by
  refine Met.ofW (cc := cX9_servesAside) (maxL := 3) (ret := (some .int)) (by decide) rfl ?_
  intro p e s m args below meth c s₁ B hml hv
  obtain ⟨rfl, hsz, hP, hK, hD0, hNW⟩ := hv
  have hx := B.exec
  have hb := B.bytes
  have hr := B.returns
  have hts := atoms_spec (ws := wsX9_servesAside) B.pre
  have hown : s.vm.findClass RX9 = some m.cls := findClass_of_methodNamed B.named
  have hlocks := B.notSynchronized
  subst hsz
  have hD := hD0.self (sz := s.heap.size)
  generalize hAe : va_A (wX9 cI cZ a M) s.heap.size = A at hD ⊢
  have hA : ∀ q : Nat, s.heap.size ≤ q → A q := fun q h => by rw [← hAe]; exact Or.inr h
  have hS : va_S A s.heap s.heap [] := va_S.rf
  have hl := lv_entry ([.ref (a 0), .int a1]) (n := 3) (Nat.le_of_ble_eq_true rfl)
  rw [lg_entry_eq]
  generalize (lg_sl ([.ref (a 0), .int a1]) ++ List.replicate (3 - (lg_sl ([.ref (a 0), .int a1])).length) Slot.unset).toArray = ls at hl ⊢
  have hl : lv_has ls 3 [(0, .ref (a 0)), (1, .int a1)] := hl
  unfold fX9_servesAside at hf
  suffices hgo : ∀ (H : Heap) (locs : List Loc), va_P (dC, dI) vwCl (wX9 cI cZ a M) H → va_D A (wX9 cI cZ a M) → va_S A s.heap H locs → W p l e (headSpec wsX9_servesAside ({ frames := 6, cells := 0, slots := 0, locals := 139 } : Room)).room s m ([.ref (a 0), .int a1] : List Value).toArray below meth c H locs 0 0 (MQ below (va_Qi (S := Unit) (fun r _ => r = z.1) (fun _ t => WE (dC, dI) cI cZ (wX9 cI cZ a (sr (sr (sr M 1 (z.2 1)) 2 (z.2 2)) 8 (z.2 8))) A t) A) ([.ref (a 0), .int a1] : List Value).toArray s 0 0 A) (F0 m 0 ls []) from hgo _ _ hP hD hS
  intro H locs hP hD hS
  refine lv_aload_n hx hb dX9_servesAside_0 rfl (lv_at hl 0 rfl) ?_
  obtain ⟨r1, hc1, hf⟩ := bi_s hf
  have hPc := hP
  have hDc := hD
  have hFc := va_free (wc := (wX9 cI cZ a M)) hD hS hA [0, 1, 2, 3, 4, 5, 6, 7, 8] rfl
  refine va_callv (va_runV (As := []) (rest := []) ⟨hx, hb, hml, hown, hts⟩ (c_X9_putAside l dC dI cI cZ a H.size M r1 hc1) (cwV 0 hts gX9_servesAside_X9_putAside rfl rfl rfl (by decide +kernel) ⟨Nat.le_of_ble_eq_true rfl, Nat.le_of_ble_eq_true rfl⟩) ⟨WR.blind, va_recv hK hP (ci := 9) (q0 := 0) rfl rfl, WR.pre hPc hK hDc hNW⟩ rfl rfl hl.1 rfl (lv_room (Nat.le_of_ble_eq_true rfl)) dX9_servesAside_1 ⟨Nat.le_of_ble_eq_true rfl, Nat.le_of_ble_eq_true rfl⟩) hS (fun q _ h => hFc q h) hFc (fun u t H1 locs ht hvm hw hB hz1 hk1 hS => ?_)
  obtain ⟨hP1, hD1⟩ := hB
  rw [ht] at hP1
  have hP := hP1
  have hD := hD1.weaken (fun k q _ h => hFc q.1 h)
  have hP : va_P (dC, dI) vwCl (wX9 cI cZ a (sr M 2 (r1 2))) H1 := hP
  have hD : va_D A (wX9 cI cZ a (sr M 2 (r1 2))) := hD
  generalize H1 = H at hP hS ⊢
  refine lv_aload_n hx hb dX9_servesAside_4 rfl (lv_at hl 0 rfl) ?_
  refine lv_iload_n hx hb dX9_servesAside_5 rfl (lv_at hl 1 rfl) ?_
  obtain ⟨r6, hc6, hf⟩ := bi_s hf
  have hPc := hP
  have hDc := hD
  have hFc := va_free (wc := (wX9 cI cZ a (sr M 2 (r1 2)))) hD hS hA [0, 1, 2, 3, 4, 5, 6, 7, 8] rfl
  refine va_calli (va_runV (As := [.int a1]) (rest := []) ⟨hx, hb, hml, hown, hts⟩ (c_X9_serves l dC dI cI cZ a H.size (sr M 2 (r1 2)) a1 r6 hc6) (cwV 1 hts gX9_servesAside_X9_serves rfl rfl rfl (by decide +kernel) ⟨Nat.le_of_ble_eq_true rfl, Nat.le_of_ble_eq_true rfl⟩) ⟨WR.blind, va_recv hK hP (ci := 9) (q0 := 0) rfl rfl, WR.pre hPc hK hDc hNW⟩ rfl rfl hl.1 rfl (lv_room (Nat.le_of_ble_eq_true rfl)) dX9_servesAside_6 ⟨Nat.le_of_ble_eq_true rfl, Nat.le_of_ble_eq_true rfl⟩) hS (fun q _ h => hFc q h) hFc (fun rv u t H1 locs ht hvm hw hB hz1 hk1 hS => ?_)
  obtain ⟨hP1, hD1⟩ := hB
  rw [ht] at hP1
  subst hw
  have hP := hP1
  have hD := hD1.weaken (fun k q _ h => hFc q.1 h)
  have hP : va_P (dC, dI) vwCl (wX9 cI cZ a (sr (sr (sr M 1 (r6.2 1)) 2 (r1 2)) 8 (r6.2 8))) H1 := hP
  have hD : va_D A (wX9 cI cZ a (sr (sr (sr M 1 (r6.2 1)) 2 (r1 2)) 8 (r6.2 8))) := hD
  generalize H1 = H at hP hS ⊢
  refine lv_istore_n (lv' := [(2, .int r6.1), (0, .ref (a 0)), (1, .int a1)]) hx hb dX9_servesAside_9 rfl hl (by decide) rfl (fun ls hl => ?_)
  refine lv_aload_n hx hb dX9_servesAside_10 rfl (lv_at hl 1 rfl) ?_
  obtain ⟨r11, hc11, hf⟩ := bi_s hf
  have hPc := hP
  have hDc := hD
  have hFc := va_free (wc := (wX9 cI cZ a (sr (sr (sr M 1 (r6.2 1)) 2 (r1 2)) 8 (r6.2 8)))) hD hS hA [0, 1, 2, 3, 4, 5, 6, 7, 8] rfl
  refine va_callv (va_runV (As := []) (rest := []) ⟨hx, hb, hml, hown, hts⟩ (c_X9_takeBack l dC dI cI cZ a H.size (sr (sr (sr M 1 (r6.2 1)) 2 (r1 2)) 8 (r6.2 8)) r11 hc11) (cwV 0 hts gX9_servesAside_X9_takeBack rfl rfl rfl (by decide +kernel) ⟨Nat.le_of_ble_eq_true rfl, Nat.le_of_ble_eq_true rfl⟩) ⟨WR.blind, va_recv hK hP (ci := 9) (q0 := 0) rfl rfl, WR.pre hPc hK hDc hNW⟩ rfl rfl hl.1 rfl (lv_room (Nat.le_of_ble_eq_true rfl)) dX9_servesAside_11 ⟨Nat.le_of_ble_eq_true rfl, Nat.le_of_ble_eq_true rfl⟩) hS (fun q _ h => hFc q h) hFc (fun u t H1 locs ht hvm hw hB hz1 hk1 hS => ?_)
  obtain ⟨hP1, hD1⟩ := hB
  rw [ht] at hP1
  have hP := hP1
  have hD := hD1.weaken (fun k q _ h => hFc q.1 h)
  have hP : va_P (dC, dI) vwCl (wX9 cI cZ a (sr (sr (sr M 1 (r11 1)) 2 (r1 2)) 8 (r6.2 8))) H1 := hP
  have hD : va_D A (wX9 cI cZ a (sr (sr (sr M 1 (r11 1)) 2 (r1 2)) 8 (r6.2 8))) := hD
  generalize H1 = H at hP hS ⊢
  refine lv_iload_n hx hb dX9_servesAside_14 rfl (lv_at hl 0 rfl) ?_
  have e9 := so_e hf
  subst e9
  exact W.iret (v := r6.1) hx hb hr (fun t ht hW => ⟨⟨r6.1, (), rfl, rfl, WE.mk hP hD ht⟩, hS.F ht⟩) hS.2.2 dX9_servesAside_15
set_option maxHeartbeats 4000000 in
set_option maxRecDepth 100000 in
theorem c_X9_cheapest (l : Launch) (dC : Nat → ClassId) (dI : Nat → Nat → Nat) (cI cZ : ClassId) (a : Nat → Nat) (sz : Nat) (M : Mem) (z : Int32 × Mem) (hf : fX9_cheapest M  = some z) : Met l yX9_cheapest wsX9_cheapest ({ frames := 7, cells := 0, slots := 0, locals := 161 } : Room) (va_Pc [.ref (a 0)] (WR (dC, dI) cI cZ (wX9 cI cZ a M) sz)) (va_Qi (S := Unit) (fun r _ => r = z.1) (fun _ t => WE (dC, dI) cI cZ (wX9 cI cZ a (sr (sr (sr M 1 (z.2 1)) 2 (z.2 2)) 8 (z.2 8))) (va_A (wX9 cI cZ a M) sz) t) (va_A (wX9 cI cZ a M) sz)) 0 0 (va_A (wX9 cI cZ a M) sz) := by
  refine Met.ofW (cc := cX9_cheapest) (maxL := 6) (ret := (some .int)) (by decide) rfl ?_
  intro p e s m args below meth c s₁ B hml hv
  obtain ⟨rfl, hsz, hP, hK, hD0, hNW⟩ := hv
  have hx := B.exec
  have hb := B.bytes
  have hr := B.returns
  have hts := atoms_spec (ws := wsX9_cheapest) B.pre
  have hown : s.vm.findClass RX9 = some m.cls := findClass_of_methodNamed B.named
  have hlocks := B.notSynchronized
  have hinX9 : ∀ w ∈ u_ws RX9 TX9 13, w ∈ wsX9_cheapest := by decide +kernel
  have hw1 := hts (.fieldLink RX9 7 "GlideShelvesModel" "s" "[I") (by decide +kernel)
  subst hsz
  have hD := hD0.self (sz := s.heap.size)
  generalize hAe : va_A (wX9 cI cZ a M) s.heap.size = A at hD ⊢
  have hA : ∀ q : Nat, s.heap.size ≤ q → A q := fun q h => by rw [← hAe]; exact Or.inr h
  have hS : va_S A s.heap s.heap [] := va_S.rf
  have hfX9_cheapest_B89 : ∀ (kb : Mem → Int32 → Int32 → Int32 → Option (Int32 × Mem)) (hkb : ∀ (N : Mem) (l1 : Int32) (l2 : Int32) (l3 : Int32), kb N l1 l2 l3 = some z → ∀ (ls : Array Slot), lv_has ls 6 [(0, .ref (a 0)), (1, .int l1), (2, .int l2), (3, .int l3)] → ∀ (H : Heap) (locs : List Loc), va_P (dC, dI) vwCl (wX9 cI cZ a (sr (sr (sr M 1 (N 1)) 2 (N 2)) 8 (N 8))) H → va_D A (wX9 cI cZ a (sr (sr (sr M 1 (N 1)) 2 (N 2)) 8 (N 8))) → va_S A s.heap H locs → W p l e (headSpec wsX9_cheapest ({ frames := 7, cells := 0, slots := 0, locals := 161 } : Room)).room s m ([.ref (a 0)] : List Value).toArray below meth c H locs 0 0 (MQ below (va_Qi (S := Unit) (fun r _ => r = z.1) (fun _ t => WE (dC, dI) cI cZ (wX9 cI cZ a (sr (sr (sr M 1 (z.2 1)) 2 (z.2 2)) 8 (z.2 8))) A t) A) ([.ref (a 0)] : List Value).toArray s 0 0 A) (F0 m 6 ls [])) (kx96 : Mem → Int32 → Option (Int32 × Mem)) (hkx96 : ∀ (N : Mem) (l1 : Int32), kx96 N l1 = some z → ∀ (ls : Array Slot), lv_has ls 6 [(1, .int l1)] → ∀ (H : Heap) (locs : List Loc), va_P (dC, dI) vwCl (wX9 cI cZ a (sr (sr (sr M 1 (N 1)) 2 (N 2)) 8 (N 8))) H → va_D A (wX9 cI cZ a (sr (sr (sr M 1 (N 1)) 2 (N 2)) 8 (N 8))) → va_S A s.heap H locs → W p l e (headSpec wsX9_cheapest ({ frames := 7, cells := 0, slots := 0, locals := 161 } : Room)).room s m ([.ref (a 0)] : List Value).toArray below meth c H locs 0 0 (MQ below (va_Qi (S := Unit) (fun r _ => r = z.1) (fun _ t => WE (dC, dI) cI cZ (wX9 cI cZ a (sr (sr (sr M 1 (z.2 1)) 2 (z.2 2)) 8 (z.2 8))) A t) A) ([.ref (a 0)] : List Value).toArray s 0 0 A) (F0 m 96 ls [])), ∀ (N : Mem) (l1 : Int32) (l3 : Int32) (s0 : Int32), fX9_cheapest_B89 M kb kx96 N l1 l3 s0 = some z → ∀ (ls : Array Slot), lv_has ls 6 [(0, .ref (a 0)), (1, .int l1), (3, .int l3)] → ∀ (H : Heap) (locs : List Loc), va_P (dC, dI) vwCl (wX9 cI cZ a (sr (sr (sr M 1 (N 1)) 2 (N 2)) 8 (N 8))) H → va_D A (wX9 cI cZ a (sr (sr (sr M 1 (N 1)) 2 (N 2)) 8 (N 8))) → va_S A s.heap H locs → W p l e (headSpec wsX9_cheapest ({ frames := 7, cells := 0, slots := 0, locals := 161 } : Room)).room s m ([.ref (a 0)] : List Value).toArray below meth c H locs 0 0 (MQ below (va_Qi (S := Unit) (fun r _ => r = z.1) (fun _ t => WE (dC, dI) cI cZ (wX9 cI cZ a (sr (sr (sr M 1 (z.2 1)) 2 (z.2 2)) 8 (z.2 8))) A t) A) ([.ref (a 0)] : List Value).toArray s 0 0 A) (F0 m 89 ls [.int s0]) := by
    intro kb hkb kx96 hkx96 N l1 l3 s0 hf ls hl H locs hP hD hS
    unfold fX9_cheapest_B89 at hf
    refine lv_istore_n (lv' := [(2, .int s0), (0, .ref (a 0)), (1, .int l1), (3, .int l3)]) hx hb dX9_cheapest_89 rfl hl (by decide) rfl (fun ls hl => ?_)
    refine lv_iinc (v := (l3 + (1 : Int32))) (lv' := [(3, .int (l3 + (1 : Int32))), (2, .int s0), (0, .ref (a 0)), (1, .int l1)]) hx hb dX9_cheapest_90 hl (k := 3) rfl rfl (by decide) rfl (fun ls hl => ?_)
    refine lv_goto (tgt := 6) hx hb dX9_cheapest_93 (by decide) ?_
    exact hkb (sr (sr (sr M 1 (N 1)) 2 (N 2)) 8 (N 8)) l1 s0 (l3 + (1 : Int32)) hf _ (lv_sub hl [2, 3, 1, 0] rfl) _ _ hP hD hS
  have hfX9_cheapest_B77 : ∀ (kb : Mem → Int32 → Int32 → Int32 → Option (Int32 × Mem)) (hkb : ∀ (N : Mem) (l1 : Int32) (l2 : Int32) (l3 : Int32), kb N l1 l2 l3 = some z → ∀ (ls : Array Slot), lv_has ls 6 [(0, .ref (a 0)), (1, .int l1), (2, .int l2), (3, .int l3)] → ∀ (H : Heap) (locs : List Loc), va_P (dC, dI) vwCl (wX9 cI cZ a (sr (sr (sr M 1 (N 1)) 2 (N 2)) 8 (N 8))) H → va_D A (wX9 cI cZ a (sr (sr (sr M 1 (N 1)) 2 (N 2)) 8 (N 8))) → va_S A s.heap H locs → W p l e (headSpec wsX9_cheapest ({ frames := 7, cells := 0, slots := 0, locals := 161 } : Room)).room s m ([.ref (a 0)] : List Value).toArray below meth c H locs 0 0 (MQ below (va_Qi (S := Unit) (fun r _ => r = z.1) (fun _ t => WE (dC, dI) cI cZ (wX9 cI cZ a (sr (sr (sr M 1 (z.2 1)) 2 (z.2 2)) 8 (z.2 8))) A t) A) ([.ref (a 0)] : List Value).toArray s 0 0 A) (F0 m 6 ls [])) (kx96 : Mem → Int32 → Option (Int32 × Mem)) (hkx96 : ∀ (N : Mem) (l1 : Int32), kx96 N l1 = some z → ∀ (ls : Array Slot), lv_has ls 6 [(1, .int l1)] → ∀ (H : Heap) (locs : List Loc), va_P (dC, dI) vwCl (wX9 cI cZ a (sr (sr (sr M 1 (N 1)) 2 (N 2)) 8 (N 8))) H → va_D A (wX9 cI cZ a (sr (sr (sr M 1 (N 1)) 2 (N 2)) 8 (N 8))) → va_S A s.heap H locs → W p l e (headSpec wsX9_cheapest ({ frames := 7, cells := 0, slots := 0, locals := 161 } : Room)).room s m ([.ref (a 0)] : List Value).toArray below meth c H locs 0 0 (MQ below (va_Qi (S := Unit) (fun r _ => r = z.1) (fun _ t => WE (dC, dI) cI cZ (wX9 cI cZ a (sr (sr (sr M 1 (z.2 1)) 2 (z.2 2)) 8 (z.2 8))) A t) A) ([.ref (a 0)] : List Value).toArray s 0 0 A) (F0 m 96 ls [])), ∀ (N : Mem) (l2 : Int32) (l3 : Int32) (l4 : Int32) (l5 : Int32) (s0 : Int32), fX9_cheapest_B77 M kb kx96 N l2 l3 l4 l5 s0 = some z → ∀ (ls : Array Slot), lv_has ls 6 [(0, .ref (a 0)), (2, .int l2), (3, .int l3), (4, .int l4), (5, .int l5)] → ∀ (H : Heap) (locs : List Loc), va_P (dC, dI) vwCl (wX9 cI cZ a (sr (sr (sr M 1 (N 1)) 2 (N 2)) 8 (N 8))) H → va_D A (wX9 cI cZ a (sr (sr (sr M 1 (N 1)) 2 (N 2)) 8 (N 8))) → va_S A s.heap H locs → W p l e (headSpec wsX9_cheapest ({ frames := 7, cells := 0, slots := 0, locals := 161 } : Room)).room s m ([.ref (a 0)] : List Value).toArray below meth c H locs 0 0 (MQ below (va_Qi (S := Unit) (fun r _ => r = z.1) (fun _ t => WE (dC, dI) cI cZ (wX9 cI cZ a (sr (sr (sr M 1 (z.2 1)) 2 (z.2 2)) 8 (z.2 8))) A t) A) ([.ref (a 0)] : List Value).toArray s 0 0 A) (F0 m 77 ls [.int s0]) := by
    intro kb hkb kx96 hkx96 N l2 l3 l4 l5 s0 hf ls hl H locs hP hD hS
    unfold fX9_cheapest_B77 at hf
    refine lv_istore_n (lv' := [(1, .int s0), (0, .ref (a 0)), (2, .int l2), (3, .int l3), (4, .int l4), (5, .int l5)]) hx hb dX9_cheapest_77 rfl hl (by decide) rfl (fun ls hl => ?_)
    refine lv_iload hx hb dX9_cheapest_78 (lv_at hl 5 rfl) ?_
    refine lv_if_eq (tgt := 88) hx hb dX9_cheapest_80 (by decide) (fun c9 => ?_) (fun c9 => ?_)
    · have hf := it_t hf c9
      refine lv_iload_n hx hb dX9_cheapest_88 rfl (lv_at hl 2 rfl) ?_
      exact hfX9_cheapest_B89 _ hkb _ hkx96 (sr (sr (sr M 1 (N 1)) 2 (N 2)) 8 (N 8)) s0 l3 l2 hf _ (lv_sub hl [1, 0, 3] rfl) _ _ hP hD hS
    · have hf := it_f hf c9
      refine lv_iload hx hb dX9_cheapest_83 (lv_at hl 4 rfl) ?_
      refine lv_goto (tgt := 89) hx hb dX9_cheapest_85 (by decide) ?_
      exact hfX9_cheapest_B89 _ hkb _ hkx96 (sr (sr (sr M 1 (N 1)) 2 (N 2)) 8 (N 8)) s0 l3 l4 hf _ (lv_sub hl [1, 0, 3] rfl) _ _ hP hD hS
  have hfX9_cheapest_B65 : ∀ (kb : Mem → Int32 → Int32 → Int32 → Option (Int32 × Mem)) (hkb : ∀ (N : Mem) (l1 : Int32) (l2 : Int32) (l3 : Int32), kb N l1 l2 l3 = some z → ∀ (ls : Array Slot), lv_has ls 6 [(0, .ref (a 0)), (1, .int l1), (2, .int l2), (3, .int l3)] → ∀ (H : Heap) (locs : List Loc), va_P (dC, dI) vwCl (wX9 cI cZ a (sr (sr (sr M 1 (N 1)) 2 (N 2)) 8 (N 8))) H → va_D A (wX9 cI cZ a (sr (sr (sr M 1 (N 1)) 2 (N 2)) 8 (N 8))) → va_S A s.heap H locs → W p l e (headSpec wsX9_cheapest ({ frames := 7, cells := 0, slots := 0, locals := 161 } : Room)).room s m ([.ref (a 0)] : List Value).toArray below meth c H locs 0 0 (MQ below (va_Qi (S := Unit) (fun r _ => r = z.1) (fun _ t => WE (dC, dI) cI cZ (wX9 cI cZ a (sr (sr (sr M 1 (z.2 1)) 2 (z.2 2)) 8 (z.2 8))) A t) A) ([.ref (a 0)] : List Value).toArray s 0 0 A) (F0 m 6 ls [])) (kx96 : Mem → Int32 → Option (Int32 × Mem)) (hkx96 : ∀ (N : Mem) (l1 : Int32), kx96 N l1 = some z → ∀ (ls : Array Slot), lv_has ls 6 [(1, .int l1)] → ∀ (H : Heap) (locs : List Loc), va_P (dC, dI) vwCl (wX9 cI cZ a (sr (sr (sr M 1 (N 1)) 2 (N 2)) 8 (N 8))) H → va_D A (wX9 cI cZ a (sr (sr (sr M 1 (N 1)) 2 (N 2)) 8 (N 8))) → va_S A s.heap H locs → W p l e (headSpec wsX9_cheapest ({ frames := 7, cells := 0, slots := 0, locals := 161 } : Room)).room s m ([.ref (a 0)] : List Value).toArray below meth c H locs 0 0 (MQ below (va_Qi (S := Unit) (fun r _ => r = z.1) (fun _ t => WE (dC, dI) cI cZ (wX9 cI cZ a (sr (sr (sr M 1 (z.2 1)) 2 (z.2 2)) 8 (z.2 8))) A t) A) ([.ref (a 0)] : List Value).toArray s 0 0 A) (F0 m 96 ls [])), ∀ (N : Mem) (l1 : Int32) (l2 : Int32) (l3 : Int32) (l4 : Int32) (s0 : Int32), fX9_cheapest_B65 M kb kx96 N l1 l2 l3 l4 s0 = some z → ∀ (ls : Array Slot), lv_has ls 6 [(0, .ref (a 0)), (1, .int l1), (2, .int l2), (3, .int l3), (4, .int l4)] → ∀ (H : Heap) (locs : List Loc), va_P (dC, dI) vwCl (wX9 cI cZ a (sr (sr (sr M 1 (N 1)) 2 (N 2)) 8 (N 8))) H → va_D A (wX9 cI cZ a (sr (sr (sr M 1 (N 1)) 2 (N 2)) 8 (N 8))) → va_S A s.heap H locs → W p l e (headSpec wsX9_cheapest ({ frames := 7, cells := 0, slots := 0, locals := 161 } : Room)).room s m ([.ref (a 0)] : List Value).toArray below meth c H locs 0 0 (MQ below (va_Qi (S := Unit) (fun r _ => r = z.1) (fun _ t => WE (dC, dI) cI cZ (wX9 cI cZ a (sr (sr (sr M 1 (z.2 1)) 2 (z.2 2)) 8 (z.2 8))) A t) A) ([.ref (a 0)] : List Value).toArray s 0 0 A) (F0 m 65 ls [.int s0]) := by
    intro kb hkb kx96 hkx96 N l1 l2 l3 l4 s0 hf ls hl H locs hP hD hS
    unfold fX9_cheapest_B65 at hf
    refine lv_istore (lv' := [(5, .int s0), (0, .ref (a 0)), (1, .int l1), (2, .int l2), (3, .int l3), (4, .int l4)]) hx hb dX9_cheapest_65 hl (by decide) rfl (fun ls hl => ?_)
    refine lv_iload hx hb dX9_cheapest_67 (lv_at hl 0 rfl) ?_
    refine lv_if_eq (tgt := 76) hx hb dX9_cheapest_69 (by decide) (fun c9 => ?_) (fun c9 => ?_)
    · have hf := it_t hf c9
      refine lv_iload_n hx hb dX9_cheapest_76 rfl (lv_at hl 2 rfl) ?_
      exact hfX9_cheapest_B77 _ hkb _ hkx96 (sr (sr (sr M 1 (N 1)) 2 (N 2)) 8 (N 8)) l2 l3 l4 s0 l1 hf _ (lv_sub hl [1, 3, 4, 5, 0] rfl) _ _ hP hD hS
    · have hf := it_f hf c9
      refine lv_iload_n hx hb dX9_cheapest_72 rfl (lv_at hl 4 rfl) ?_
      refine lv_goto (tgt := 77) hx hb dX9_cheapest_73 (by decide) ?_
      exact hfX9_cheapest_B77 _ hkb _ hkx96 (sr (sr (sr M 1 (N 1)) 2 (N 2)) 8 (N 8)) l2 l3 l4 s0 l3 hf _ (lv_sub hl [1, 3, 4, 5, 0] rfl) _ _ hP hD hS
  have hfX9_cheapest_B64 : ∀ (kb : Mem → Int32 → Int32 → Int32 → Option (Int32 × Mem)) (hkb : ∀ (N : Mem) (l1 : Int32) (l2 : Int32) (l3 : Int32), kb N l1 l2 l3 = some z → ∀ (ls : Array Slot), lv_has ls 6 [(0, .ref (a 0)), (1, .int l1), (2, .int l2), (3, .int l3)] → ∀ (H : Heap) (locs : List Loc), va_P (dC, dI) vwCl (wX9 cI cZ a (sr (sr (sr M 1 (N 1)) 2 (N 2)) 8 (N 8))) H → va_D A (wX9 cI cZ a (sr (sr (sr M 1 (N 1)) 2 (N 2)) 8 (N 8))) → va_S A s.heap H locs → W p l e (headSpec wsX9_cheapest ({ frames := 7, cells := 0, slots := 0, locals := 161 } : Room)).room s m ([.ref (a 0)] : List Value).toArray below meth c H locs 0 0 (MQ below (va_Qi (S := Unit) (fun r _ => r = z.1) (fun _ t => WE (dC, dI) cI cZ (wX9 cI cZ a (sr (sr (sr M 1 (z.2 1)) 2 (z.2 2)) 8 (z.2 8))) A t) A) ([.ref (a 0)] : List Value).toArray s 0 0 A) (F0 m 6 ls [])) (kx96 : Mem → Int32 → Option (Int32 × Mem)) (hkx96 : ∀ (N : Mem) (l1 : Int32), kx96 N l1 = some z → ∀ (ls : Array Slot), lv_has ls 6 [(1, .int l1)] → ∀ (H : Heap) (locs : List Loc), va_P (dC, dI) vwCl (wX9 cI cZ a (sr (sr (sr M 1 (N 1)) 2 (N 2)) 8 (N 8))) H → va_D A (wX9 cI cZ a (sr (sr (sr M 1 (N 1)) 2 (N 2)) 8 (N 8))) → va_S A s.heap H locs → W p l e (headSpec wsX9_cheapest ({ frames := 7, cells := 0, slots := 0, locals := 161 } : Room)).room s m ([.ref (a 0)] : List Value).toArray below meth c H locs 0 0 (MQ below (va_Qi (S := Unit) (fun r _ => r = z.1) (fun _ t => WE (dC, dI) cI cZ (wX9 cI cZ a (sr (sr (sr M 1 (z.2 1)) 2 (z.2 2)) 8 (z.2 8))) A t) A) ([.ref (a 0)] : List Value).toArray s 0 0 A) (F0 m 96 ls [])), ∀ (N : Mem) (l1 : Int32) (l2 : Int32) (l3 : Int32) (l4 : Int32), fX9_cheapest_B64 M kb kx96 N l1 l2 l3 l4 = some z → ∀ (ls : Array Slot), lv_has ls 6 [(0, .ref (a 0)), (1, .int l1), (2, .int l2), (3, .int l3), (4, .int l4)] → ∀ (H : Heap) (locs : List Loc), va_P (dC, dI) vwCl (wX9 cI cZ a (sr (sr (sr M 1 (N 1)) 2 (N 2)) 8 (N 8))) H → va_D A (wX9 cI cZ a (sr (sr (sr M 1 (N 1)) 2 (N 2)) 8 (N 8))) → va_S A s.heap H locs → W p l e (headSpec wsX9_cheapest ({ frames := 7, cells := 0, slots := 0, locals := 161 } : Room)).room s m ([.ref (a 0)] : List Value).toArray below meth c H locs 0 0 (MQ below (va_Qi (S := Unit) (fun r _ => r = z.1) (fun _ t => WE (dC, dI) cI cZ (wX9 cI cZ a (sr (sr (sr M 1 (z.2 1)) 2 (z.2 2)) 8 (z.2 8))) A t) A) ([.ref (a 0)] : List Value).toArray s 0 0 A) (F0 m 64 ls []) := by
    intro kb hkb kx96 hkx96 N l1 l2 l3 l4 hf ls hl H locs hP hD hS
    unfold fX9_cheapest_B64 at hf
    refine lv_iconst (v := (0 : Int32)) hx hb dX9_cheapest_64 (by decide) ?_
    exact hfX9_cheapest_B65 _ hkb _ hkx96 (sr (sr (sr M 1 (N 1)) 2 (N 2)) 8 (N 8)) l1 l2 l3 l4 (0 : Int32) hf _ (lv_sub hl [0, 1, 2, 3, 4] rfl) _ _ hP hD hS
  have hfX9_cheapest_B60 : ∀ (kb : Mem → Int32 → Int32 → Int32 → Option (Int32 × Mem)) (hkb : ∀ (N : Mem) (l1 : Int32) (l2 : Int32) (l3 : Int32), kb N l1 l2 l3 = some z → ∀ (ls : Array Slot), lv_has ls 6 [(0, .ref (a 0)), (1, .int l1), (2, .int l2), (3, .int l3)] → ∀ (H : Heap) (locs : List Loc), va_P (dC, dI) vwCl (wX9 cI cZ a (sr (sr (sr M 1 (N 1)) 2 (N 2)) 8 (N 8))) H → va_D A (wX9 cI cZ a (sr (sr (sr M 1 (N 1)) 2 (N 2)) 8 (N 8))) → va_S A s.heap H locs → W p l e (headSpec wsX9_cheapest ({ frames := 7, cells := 0, slots := 0, locals := 161 } : Room)).room s m ([.ref (a 0)] : List Value).toArray below meth c H locs 0 0 (MQ below (va_Qi (S := Unit) (fun r _ => r = z.1) (fun _ t => WE (dC, dI) cI cZ (wX9 cI cZ a (sr (sr (sr M 1 (z.2 1)) 2 (z.2 2)) 8 (z.2 8))) A t) A) ([.ref (a 0)] : List Value).toArray s 0 0 A) (F0 m 6 ls [])) (kx96 : Mem → Int32 → Option (Int32 × Mem)) (hkx96 : ∀ (N : Mem) (l1 : Int32), kx96 N l1 = some z → ∀ (ls : Array Slot), lv_has ls 6 [(1, .int l1)] → ∀ (H : Heap) (locs : List Loc), va_P (dC, dI) vwCl (wX9 cI cZ a (sr (sr (sr M 1 (N 1)) 2 (N 2)) 8 (N 8))) H → va_D A (wX9 cI cZ a (sr (sr (sr M 1 (N 1)) 2 (N 2)) 8 (N 8))) → va_S A s.heap H locs → W p l e (headSpec wsX9_cheapest ({ frames := 7, cells := 0, slots := 0, locals := 161 } : Room)).room s m ([.ref (a 0)] : List Value).toArray below meth c H locs 0 0 (MQ below (va_Qi (S := Unit) (fun r _ => r = z.1) (fun _ t => WE (dC, dI) cI cZ (wX9 cI cZ a (sr (sr (sr M 1 (z.2 1)) 2 (z.2 2)) 8 (z.2 8))) A t) A) ([.ref (a 0)] : List Value).toArray s 0 0 A) (F0 m 96 ls [])), ∀ (N : Mem) (l1 : Int32) (l2 : Int32) (l3 : Int32) (l4 : Int32), fX9_cheapest_B60 M kb kx96 N l1 l2 l3 l4 = some z → ∀ (ls : Array Slot), lv_has ls 6 [(0, .ref (a 0)), (1, .int l1), (2, .int l2), (3, .int l3), (4, .int l4)] → ∀ (H : Heap) (locs : List Loc), va_P (dC, dI) vwCl (wX9 cI cZ a (sr (sr (sr M 1 (N 1)) 2 (N 2)) 8 (N 8))) H → va_D A (wX9 cI cZ a (sr (sr (sr M 1 (N 1)) 2 (N 2)) 8 (N 8))) → va_S A s.heap H locs → W p l e (headSpec wsX9_cheapest ({ frames := 7, cells := 0, slots := 0, locals := 161 } : Room)).room s m ([.ref (a 0)] : List Value).toArray below meth c H locs 0 0 (MQ below (va_Qi (S := Unit) (fun r _ => r = z.1) (fun _ t => WE (dC, dI) cI cZ (wX9 cI cZ a (sr (sr (sr M 1 (z.2 1)) 2 (z.2 2)) 8 (z.2 8))) A t) A) ([.ref (a 0)] : List Value).toArray s 0 0 A) (F0 m 60 ls []) := by
    intro kb hkb kx96 hkx96 N l1 l2 l3 l4 hf ls hl H locs hP hD hS
    unfold fX9_cheapest_B60 at hf
    refine lv_iconst (v := (1 : Int32)) hx hb dX9_cheapest_60 (by decide) ?_
    refine lv_goto (tgt := 65) hx hb dX9_cheapest_61 (by decide) ?_
    exact hfX9_cheapest_B65 _ hkb _ hkx96 (sr (sr (sr M 1 (N 1)) 2 (N 2)) 8 (N 8)) l1 l2 l3 l4 (1 : Int32) hf _ (lv_sub hl [0, 1, 2, 3, 4] rfl) _ _ hP hD hS
  have hfX9_cheapest_B41 : ∀ (kb : Mem → Int32 → Int32 → Int32 → Option (Int32 × Mem)) (hkb : ∀ (N : Mem) (l1 : Int32) (l2 : Int32) (l3 : Int32), kb N l1 l2 l3 = some z → ∀ (ls : Array Slot), lv_has ls 6 [(0, .ref (a 0)), (1, .int l1), (2, .int l2), (3, .int l3)] → ∀ (H : Heap) (locs : List Loc), va_P (dC, dI) vwCl (wX9 cI cZ a (sr (sr (sr M 1 (N 1)) 2 (N 2)) 8 (N 8))) H → va_D A (wX9 cI cZ a (sr (sr (sr M 1 (N 1)) 2 (N 2)) 8 (N 8))) → va_S A s.heap H locs → W p l e (headSpec wsX9_cheapest ({ frames := 7, cells := 0, slots := 0, locals := 161 } : Room)).room s m ([.ref (a 0)] : List Value).toArray below meth c H locs 0 0 (MQ below (va_Qi (S := Unit) (fun r _ => r = z.1) (fun _ t => WE (dC, dI) cI cZ (wX9 cI cZ a (sr (sr (sr M 1 (z.2 1)) 2 (z.2 2)) 8 (z.2 8))) A t) A) ([.ref (a 0)] : List Value).toArray s 0 0 A) (F0 m 6 ls [])) (kx96 : Mem → Int32 → Option (Int32 × Mem)) (hkx96 : ∀ (N : Mem) (l1 : Int32), kx96 N l1 = some z → ∀ (ls : Array Slot), lv_has ls 6 [(1, .int l1)] → ∀ (H : Heap) (locs : List Loc), va_P (dC, dI) vwCl (wX9 cI cZ a (sr (sr (sr M 1 (N 1)) 2 (N 2)) 8 (N 8))) H → va_D A (wX9 cI cZ a (sr (sr (sr M 1 (N 1)) 2 (N 2)) 8 (N 8))) → va_S A s.heap H locs → W p l e (headSpec wsX9_cheapest ({ frames := 7, cells := 0, slots := 0, locals := 161 } : Room)).room s m ([.ref (a 0)] : List Value).toArray below meth c H locs 0 0 (MQ below (va_Qi (S := Unit) (fun r _ => r = z.1) (fun _ t => WE (dC, dI) cI cZ (wX9 cI cZ a (sr (sr (sr M 1 (z.2 1)) 2 (z.2 2)) 8 (z.2 8))) A t) A) ([.ref (a 0)] : List Value).toArray s 0 0 A) (F0 m 96 ls [])), ∀ (N : Mem) (l1 : Int32) (l2 : Int32) (l3 : Int32) (s0 : Int32), fX9_cheapest_B41 M kb kx96 N l1 l2 l3 s0 = some z → ∀ (ls : Array Slot), lv_has ls 6 [(0, .ref (a 0)), (1, .int l1), (2, .int l2), (3, .int l3)] → ∀ (H : Heap) (locs : List Loc), va_P (dC, dI) vwCl (wX9 cI cZ a (sr (sr (sr M 1 (N 1)) 2 (N 2)) 8 (N 8))) H → va_D A (wX9 cI cZ a (sr (sr (sr M 1 (N 1)) 2 (N 2)) 8 (N 8))) → va_S A s.heap H locs → W p l e (headSpec wsX9_cheapest ({ frames := 7, cells := 0, slots := 0, locals := 161 } : Room)).room s m ([.ref (a 0)] : List Value).toArray below meth c H locs 0 0 (MQ below (va_Qi (S := Unit) (fun r _ => r = z.1) (fun _ t => WE (dC, dI) cI cZ (wX9 cI cZ a (sr (sr (sr M 1 (z.2 1)) 2 (z.2 2)) 8 (z.2 8))) A t) A) ([.ref (a 0)] : List Value).toArray s 0 0 A) (F0 m 41 ls [.int s0]) := by
    intro kb hkb kx96 hkx96 N l1 l2 l3 s0 hf ls hl H locs hP hD hS
    unfold fX9_cheapest_B41 at hf
    refine lv_istore (lv' := [(4, .int s0), (0, .ref (a 0)), (1, .int l1), (2, .int l2), (3, .int l3)]) hx hb dX9_cheapest_41 hl (by decide) rfl (fun ls hl => ?_)
    refine lv_iload hx hb dX9_cheapest_43 (lv_at hl 0 rfl) ?_
    refine lv_iconst (v := (-1 : Int32)) hx hb dX9_cheapest_45 (by decide) ?_
    refine lv_icmp_eq (tgt := 64) hx hb dX9_cheapest_46 (by decide) (fun c9 => ?_) (fun c9 => ?_)
    · have hf := it_t hf c9
      exact hfX9_cheapest_B64 _ hkb _ hkx96 (sr (sr (sr M 1 (N 1)) 2 (N 2)) 8 (N 8)) l1 l2 l3 s0 hf _ (lv_sub hl [1, 2, 3, 4, 0] rfl) _ _ hP hD hS
    · have hf := it_f hf c9
      refine lv_iload_n hx hb dX9_cheapest_49 rfl (lv_at hl 2 rfl) ?_
      refine lv_iconst (v := (-1 : Int32)) hx hb dX9_cheapest_50 (by decide) ?_
      refine lv_icmp_eq (tgt := 60) hx hb dX9_cheapest_51 (by decide) (fun c9 => ?_) (fun c9 => ?_)
      · have hf := it_t hf c9
        exact hfX9_cheapest_B60 _ hkb _ hkx96 (sr (sr (sr M 1 (N 1)) 2 (N 2)) 8 (N 8)) l1 l2 l3 s0 hf _ (lv_sub hl [1, 2, 3, 4, 0] rfl) _ _ hP hD hS
      · have hf := it_f hf c9
        refine lv_iload hx hb dX9_cheapest_54 (lv_at hl 0 rfl) ?_
        refine lv_iload_n hx hb dX9_cheapest_56 rfl (lv_at hl 3 rfl) ?_
        refine lv_icmp_ge (tgt := 64) hx hb dX9_cheapest_57 (by decide) (fun c9 => ?_) (fun c9 => ?_)
        · have hf := it_t hf c9
          exact hfX9_cheapest_B64 _ hkb _ hkx96 (sr (sr (sr M 1 (N 1)) 2 (N 2)) 8 (N 8)) l1 l2 l3 s0 hf _ (lv_sub hl [1, 2, 3, 4, 0] rfl) _ _ hP hD hS
        · have hf := it_f hf c9
          exact hfX9_cheapest_B60 _ hkb _ hkx96 (sr (sr (sr M 1 (N 1)) 2 (N 2)) 8 (N 8)) l1 l2 l3 s0 hf _ (lv_sub hl [1, 2, 3, 4, 0] rfl) _ _ hP hD hS
  have hfX9_cheapest_L6 : ∀ (n : Nat) (kx96 : Mem → Int32 → Option (Int32 × Mem)) (hkx96 : ∀ (N : Mem) (l1 : Int32), kx96 N l1 = some z → ∀ (ls : Array Slot), lv_has ls 6 [(1, .int l1)] → ∀ (H : Heap) (locs : List Loc), va_P (dC, dI) vwCl (wX9 cI cZ a (sr (sr (sr M 1 (N 1)) 2 (N 2)) 8 (N 8))) H → va_D A (wX9 cI cZ a (sr (sr (sr M 1 (N 1)) 2 (N 2)) 8 (N 8))) → va_S A s.heap H locs → W p l e (headSpec wsX9_cheapest ({ frames := 7, cells := 0, slots := 0, locals := 161 } : Room)).room s m ([.ref (a 0)] : List Value).toArray below meth c H locs 0 0 (MQ below (va_Qi (S := Unit) (fun r _ => r = z.1) (fun _ t => WE (dC, dI) cI cZ (wX9 cI cZ a (sr (sr (sr M 1 (z.2 1)) 2 (z.2 2)) 8 (z.2 8))) A t) A) ([.ref (a 0)] : List Value).toArray s 0 0 A) (F0 m 96 ls [])), ∀ (N : Mem) (l1 : Int32) (l2 : Int32) (l3 : Int32), fX9_cheapest_L6 M n kx96 N l1 l2 l3 = some z → ∀ (ls : Array Slot), lv_has ls 6 [(0, .ref (a 0)), (1, .int l1), (2, .int l2), (3, .int l3)] → ∀ (H : Heap) (locs : List Loc), va_P (dC, dI) vwCl (wX9 cI cZ a (sr (sr (sr M 1 (N 1)) 2 (N 2)) 8 (N 8))) H → va_D A (wX9 cI cZ a (sr (sr (sr M 1 (N 1)) 2 (N 2)) 8 (N 8))) → va_S A s.heap H locs → W p l e (headSpec wsX9_cheapest ({ frames := 7, cells := 0, slots := 0, locals := 161 } : Room)).room s m ([.ref (a 0)] : List Value).toArray below meth c H locs 0 0 (MQ below (va_Qi (S := Unit) (fun r _ => r = z.1) (fun _ t => WE (dC, dI) cI cZ (wX9 cI cZ a (sr (sr (sr M 1 (z.2 1)) 2 (z.2 2)) 8 (z.2 8))) A t) A) ([.ref (a 0)] : List Value).toArray s 0 0 A) (F0 m 6 ls []) := by
    intro n
    induction n with
    | zero =>
      intro kx96 hkx96 N l1 l2 l3 hf ls hl H locs hP hD hS
      rw [fX9_cheapest_L6] at hf
      cases hf
    | succ n ih =>
      intro kx96 hkx96 N l1 l2 l3 hf ls hl H locs hP hD hS
      rw [fX9_cheapest_L6] at hf
      refine lv_iload_n hx hb dX9_cheapest_6 rfl (lv_at hl 3 rfl) ?_
      refine lv_aload_n hx hb dX9_cheapest_7 rfl (lv_at hl 0 rfl) ?_
      refine va_get (D := (dC, dI)) (ci := 9) (v := .ref (a 1)) (C := RX9) (T := TX9) (N := 13) hx hb hts hinX9 hown hK hP 0 rfl rfl 1 (by decide) hw1 (fun _ h9 => h9) rfl dX9_cheapest_8 ?_
      refine lv_bipush (v := (8 : Int32)) hx hb dX9_cheapest_11 (by decide) ?_
      obtain ⟨hi, hf⟩ := gd_s hf
      refine va_iald (D := (dC, dI)) (f := (N 1)) hx hb hK hP 1 0 rfl rfl (inb_in hi) dX9_cheapest_13 ?_
      refine lv_icmp_ge (tgt := 96) hx hb dX9_cheapest_14 (by decide) (fun c9 => ?_) (fun c9 => ?_)
      · have hf := it_t hf c9
        exact hkx96 (sr (sr (sr M 1 (N 1)) 2 (N 2)) 8 (N 8)) l1 hf _ (lv_sub hl [1] rfl) _ _ hP hD hS
      · have hf := it_f hf c9
        refine lv_aload_n hx hb dX9_cheapest_17 rfl (lv_at hl 0 rfl) ?_
        obtain ⟨r18, hc18, hf⟩ := bi_s hf
        have hPc := hP
        refine cRO (W.runV (As := []) (rest := []) ⟨hx, hb, hml, hown, hts⟩ (c_X9_hasWindow l dC dI cI cZ a (sr (sr (sr M 1 (N 1)) 2 (N 2)) 8 (N 8)) r18 hc18) (cwV 0 hts gX9_cheapest_X9_hasWindow rfl rfl rfl (by decide +kernel) ⟨Nat.le_of_ble_eq_true rfl, Nat.le_of_ble_eq_true rfl⟩) ⟨RO.blind, va_recv hK hP (ci := 9) (q0 := 0) rfl rfl, RO.pre hPc hK hNW⟩ rfl rfl hl.1 rfl (lv_room (Nat.le_of_ble_eq_true rfl)) dX9_cheapest_18 ⟨Nat.le_of_ble_eq_true rfl, Nat.le_of_ble_eq_true rfl⟩) ?_
        refine lv_if_ne (tgt := 96) hx hb dX9_cheapest_21 (by decide) (fun c9 => ?_) (fun c9 => ?_)
        · have hf := it_t hf c9
          exact hkx96 (sr (sr (sr M 1 (N 1)) 2 (N 2)) 8 (N 8)) l1 hf _ (lv_sub hl [1] rfl) _ _ hP hD hS
        · have hf := it_n hf c9
          refine lv_aload_n hx hb dX9_cheapest_24 rfl (lv_at hl 0 rfl) ?_
          refine lv_iload_n hx hb dX9_cheapest_25 rfl (lv_at hl 3 rfl) ?_
          obtain ⟨r26, hc26, hf⟩ := bi_s hf
          have hPc := hP
          refine cRO (W.runV (As := [.int l3]) (rest := []) ⟨hx, hb, hml, hown, hts⟩ (c_X9_canBe l dC dI cI cZ a (sr (sr (sr M 1 (N 1)) 2 (N 2)) 8 (N 8)) l3 r26 hc26) (cwV 1 hts gX9_cheapest_X9_canBe rfl rfl rfl (by decide +kernel) ⟨Nat.le_of_ble_eq_true rfl, Nat.le_of_ble_eq_true rfl⟩) ⟨RO.blind, va_recv hK hP (ci := 9) (q0 := 0) rfl rfl, RO.pre hPc hK hNW⟩ rfl rfl hl.1 rfl (lv_room (Nat.le_of_ble_eq_true rfl)) dX9_cheapest_26 ⟨Nat.le_of_ble_eq_true rfl, Nat.le_of_ble_eq_true rfl⟩) ?_
          refine lv_if_eq (tgt := 40) hx hb dX9_cheapest_29 (by decide) (fun c9 => ?_) (fun c9 => ?_)
          · have hf := it_t hf c9
            refine lv_iconst (v := (-1 : Int32)) hx hb dX9_cheapest_40 (by decide) ?_
            exact hfX9_cheapest_B41 _ (ih kx96 hkx96) _ hkx96 (sr (sr (sr M 1 (N 1)) 2 (N 2)) 8 (N 8)) l1 l2 l3 (-1 : Int32) hf _ (lv_sub hl [0, 1, 2, 3] rfl) _ _ hP hD hS
          · have hf := it_f hf c9
            refine lv_aload_n hx hb dX9_cheapest_32 rfl (lv_at hl 0 rfl) ?_
            refine lv_iload_n hx hb dX9_cheapest_33 rfl (lv_at hl 3 rfl) ?_
            obtain ⟨r34, hc34, hf⟩ := bi_s hf
            have hPc := hP
            have hDc := hD
            have hFc := va_free (wc := (wX9 cI cZ a (sr (sr (sr M 1 (N 1)) 2 (N 2)) 8 (N 8)))) hD hS hA [0, 1, 2, 3, 4, 5, 6, 7, 8] rfl
            refine va_calli (va_runV (As := [.int l3]) (rest := []) ⟨hx, hb, hml, hown, hts⟩ (c_X9_servesAside l dC dI cI cZ a H.size (sr (sr (sr M 1 (N 1)) 2 (N 2)) 8 (N 8)) l3 r34 hc34) (cwV 1 hts gX9_cheapest_X9_servesAside rfl rfl rfl (by decide +kernel) ⟨Nat.le_of_ble_eq_true rfl, Nat.le_of_ble_eq_true rfl⟩) ⟨WR.blind, va_recv hK hP (ci := 9) (q0 := 0) rfl rfl, WR.pre hPc hK hDc hNW⟩ rfl rfl hl.1 rfl (lv_room (Nat.le_of_ble_eq_true rfl)) dX9_cheapest_34 ⟨Nat.le_of_ble_eq_true rfl, Nat.le_of_ble_eq_true rfl⟩) hS (fun q _ h => hFc q h) hFc (fun rv u t H1 locs ht hvm hw hB hz1 hk1 hS => ?_)
            obtain ⟨hP1, hD1⟩ := hB
            rw [ht] at hP1
            subst hw
            have hP := hP1
            have hD := hD1.weaken (fun k q _ h => hFc q.1 h)
            have hP : va_P (dC, dI) vwCl (wX9 cI cZ a (sr (sr (sr M 1 (r34.2 1)) 2 (r34.2 2)) 8 (r34.2 8))) H1 := hP
            have hD : va_D A (wX9 cI cZ a (sr (sr (sr M 1 (r34.2 1)) 2 (r34.2 2)) 8 (r34.2 8))) := hD
            generalize H1 = H at hP hS ⊢
            refine lv_goto (tgt := 41) hx hb dX9_cheapest_37 (by decide) ?_
            exact hfX9_cheapest_B41 _ (ih kx96 hkx96) _ hkx96 (sr (sr (sr M 1 (r34.2 1)) 2 (r34.2 2)) 8 (r34.2 8)) l1 l2 l3 r34.1 hf _ (lv_sub hl [0, 1, 2, 3] rfl) _ _ hP hD hS
  have hl := lv_entry ([.ref (a 0)]) (n := 6) (Nat.le_of_ble_eq_true rfl)
  rw [lg_entry_eq]
  generalize (lg_sl ([.ref (a 0)]) ++ List.replicate (6 - (lg_sl ([.ref (a 0)])).length) Slot.unset).toArray = ls at hl ⊢
  have hl : lv_has ls 6 [(0, .ref (a 0))] := hl
  unfold fX9_cheapest at hf
  suffices hgo : ∀ (H : Heap) (locs : List Loc), va_P (dC, dI) vwCl (wX9 cI cZ a M) H → va_D A (wX9 cI cZ a M) → va_S A s.heap H locs → W p l e (headSpec wsX9_cheapest ({ frames := 7, cells := 0, slots := 0, locals := 161 } : Room)).room s m ([.ref (a 0)] : List Value).toArray below meth c H locs 0 0 (MQ below (va_Qi (S := Unit) (fun r _ => r = z.1) (fun _ t => WE (dC, dI) cI cZ (wX9 cI cZ a (sr (sr (sr M 1 (z.2 1)) 2 (z.2 2)) 8 (z.2 8))) A t) A) ([.ref (a 0)] : List Value).toArray s 0 0 A) (F0 m 0 ls []) from hgo _ _ hP hD hS
  intro H locs hP hD hS
  refine lv_iconst (v := (-1 : Int32)) hx hb dX9_cheapest_0 (by decide) ?_
  refine lv_istore_n (lv' := [(1, .int (-1 : Int32)), (0, .ref (a 0))]) hx hb dX9_cheapest_1 rfl hl (by decide) rfl (fun ls hl => ?_)
  refine lv_iconst (v := (0 : Int32)) hx hb dX9_cheapest_2 (by decide) ?_
  refine lv_istore_n (lv' := [(2, .int (0 : Int32)), (1, .int (-1 : Int32)), (0, .ref (a 0))]) hx hb dX9_cheapest_3 rfl hl (by decide) rfl (fun ls hl => ?_)
  refine lv_iconst (v := (0 : Int32)) hx hb dX9_cheapest_4 (by decide) ?_
  refine lv_istore_n (lv' := [(3, .int (0 : Int32)), (2, .int (0 : Int32)), (1, .int (-1 : Int32)), (0, .ref (a 0))]) hx hb dX9_cheapest_5 rfl hl (by decide) rfl (fun ls hl => ?_)
  refine hfX9_cheapest_L6 5000 _ (fun N l1 hf ls hl H locs hP hD hS => ?_) M (-1 : Int32) (0 : Int32) (0 : Int32) hf _ (lv_sub hl [3, 2, 1, 0] rfl) _ _ hP hD hS
  refine lv_iload_n hx hb dX9_cheapest_96 rfl (lv_at hl 0 rfl) ?_
  have e9 := so_e hf
  subst e9
  exact W.iret (v := l1) hx hb hr (fun t ht hW => ⟨⟨l1, (), rfl, rfl, WE.mk hP hD ht⟩, hS.F ht⟩) hS.2.2 dX9_cheapest_97
set_option maxHeartbeats 4000000 in
set_option maxRecDepth 100000 in
theorem c_X9_addShelf (l : Launch) (dC : Nat → ClassId) (dI : Nat → Nat → Nat) (cI cZ : ClassId) (a : Nat → Nat) (sz : Nat) (M : Mem) (a1 : Int32) (z : Int32 × Mem) (hf : fX9_addShelf M a1 = some z) : Met l yX9_addShelf wsX9_addShelf ({ frames := 4, cells := 0, slots := 0, locals := 94 } : Room) (va_Pc [.ref (a 0), .int a1] (WR (dC, dI) cI cZ (wX9 cI cZ a M) sz)) (va_Qi (S := Unit) (fun r _ => r = z.1) (fun _ t => WE (dC, dI) cI cZ (wX9 cI cZ a (sr (sr (sr M 0 (z.2 0)) 1 (z.2 1)) 3 (z.2 3))) (va_A (wX9 cI cZ a M) sz) t) (va_A (wX9 cI cZ a M) sz)) 0 0 (va_A (wX9 cI cZ a M) sz) := by
  refine Met.ofW (cc := cX9_addShelf) (maxL := 5) (ret := (some .int)) (by decide) rfl ?_
  intro p e s m args below meth c s₁ B hml hv
  obtain ⟨rfl, hsz, hP, hK, hD0, hNW⟩ := hv
  have hx := B.exec
  have hb := B.bytes
  have hr := B.returns
  have hts := atoms_spec (ws := wsX9_addShelf) B.pre
  have hown : s.vm.findClass RX9 = some m.cls := findClass_of_methodNamed B.named
  have hlocks := B.notSynchronized
  have hinX9 : ∀ w ∈ u_ws RX9 TX9 13, w ∈ wsX9_addShelf := by decide +kernel
  have hw1 := hts (.fieldLink RX9 35 "GlideShelvesModel" "thrown" "I") (by decide +kernel)
  have hw2 := hts (.fieldLink RX9 7 "GlideShelvesModel" "s" "[I") (by decide +kernel)
  subst hsz
  have hD := hD0.self (sz := s.heap.size)
  generalize hAe : va_A (wX9 cI cZ a M) s.heap.size = A at hD ⊢
  have hA : ∀ q : Nat, s.heap.size ≤ q → A q := fun q h => by rw [← hAe]; exact Or.inr h
  have hS : va_S A s.heap s.heap [] := va_S.rf
  have hfX9_addShelf_B47 : ∀ (N : Mem), fX9_addShelf_B47 M  N = some z → ∀ (ls : Array Slot), lv_has ls 5 [(0, .ref (a 0))] → ∀ (H : Heap) (locs : List Loc), va_P (dC, dI) vwCl (wX9 cI cZ a (sr (sr (sr M 0 (N 0)) 1 (N 1)) 3 (N 3))) H → va_D A (wX9 cI cZ a (sr (sr (sr M 0 (N 0)) 1 (N 1)) 3 (N 3))) → va_S A s.heap H locs → W p l e (headSpec wsX9_addShelf ({ frames := 4, cells := 0, slots := 0, locals := 94 } : Room)).room s m ([.ref (a 0), .int a1] : List Value).toArray below meth c H locs 0 0 (MQ below (va_Qi (S := Unit) (fun r _ => r = z.1) (fun _ t => WE (dC, dI) cI cZ (wX9 cI cZ a (sr (sr (sr M 0 (z.2 0)) 1 (z.2 1)) 3 (z.2 3))) A t) A) ([.ref (a 0), .int a1] : List Value).toArray s 0 0 A) (F0 m 47 ls []) := by
    intro  N hf ls hl H locs hP hD hS
    unfold fX9_addShelf_B47 at hf
    refine lv_aload_n hx hb dX9_addShelf_47 rfl (lv_at hl 0 rfl) ?_
    refine lv_iconst (v := (2 : Int32)) hx hb dX9_addShelf_48 (by decide) ?_
    obtain ⟨r49, hc49, hf⟩ := bi_s hf
    have hPc := hP
    have hDc := hD
    have hFc := va_free (wc := (wX9 cI cZ a (sr (sr (sr M 0 (N 0)) 1 (N 1)) 3 (N 3)))) hD hS hA [0, 1, 2, 3, 4, 5, 6, 7, 8] rfl
    refine va_calli (va_runV (As := [.int (2 : Int32)]) (rest := []) ⟨hx, hb, hml, hown, hts⟩ (c_X9_fails l dC dI cI cZ a H.size (sr (sr (sr M 0 (N 0)) 1 (N 1)) 3 (N 3)) (2 : Int32) r49 hc49) (cwV 1 hts gX9_addShelf_X9_fails rfl rfl rfl (by decide +kernel) ⟨Nat.le_of_ble_eq_true rfl, Nat.le_of_ble_eq_true rfl⟩) ⟨WR.blind, va_recv hK hP (ci := 9) (q0 := 0) rfl rfl, WR.pre hPc hK hDc hNW⟩ rfl rfl hl.1 rfl (lv_room (Nat.le_of_ble_eq_true rfl)) dX9_addShelf_49 ⟨Nat.le_of_ble_eq_true rfl, Nat.le_of_ble_eq_true rfl⟩) hS (fun q _ h => hFc q h) hFc (fun rv u t H1 locs ht hvm hw hB hz1 hk1 hS => ?_)
    obtain ⟨hP1, hD1⟩ := hB
    rw [ht] at hP1
    subst hw
    have hP := hP1
    have hD := hD1.weaken (fun k q _ h => hFc q.1 h)
    have hP : va_P (dC, dI) vwCl (wX9 cI cZ a (sr (sr (sr M 0 (r49.2 0)) 1 (N 1)) 3 (N 3))) H1 := hP
    have hD : va_D A (wX9 cI cZ a (sr (sr (sr M 0 (r49.2 0)) 1 (N 1)) 3 (N 3))) := hD
    generalize H1 = H at hP hS ⊢
    have e9 := so_e hf
    subst e9
    exact W.iret (v := r49.1) hx hb hr (fun t ht hW => ⟨⟨r49.1, (), rfl, rfl, WE.mk hP hD ht⟩, hS.F ht⟩) hS.2.2 dX9_addShelf_52
  have hfX9_addShelf_L83 : ∀ (n : Nat) (kx104 : Mem → Int32 → Int32 → Int32 → Option (Int32 × Mem)) (hkx104 : ∀ (N : Mem) (l1 : Int32) (l2 : Int32) (l3 : Int32), kx104 N l1 l2 l3 = some z → ∀ (ls : Array Slot), lv_has ls 5 [(0, .ref (a 0)), (1, .int l1), (2, .int l2), (3, .int l3)] → ∀ (H : Heap) (locs : List Loc), va_P (dC, dI) vwCl (wX9 cI cZ a (sr (sr (sr M 0 (N 0)) 1 (N 1)) 3 (N 3))) H → va_D A (wX9 cI cZ a (sr (sr (sr M 0 (N 0)) 1 (N 1)) 3 (N 3))) → va_S A s.heap H locs → W p l e (headSpec wsX9_addShelf ({ frames := 4, cells := 0, slots := 0, locals := 94 } : Room)).room s m ([.ref (a 0), .int a1] : List Value).toArray below meth c H locs 0 0 (MQ below (va_Qi (S := Unit) (fun r _ => r = z.1) (fun _ t => WE (dC, dI) cI cZ (wX9 cI cZ a (sr (sr (sr M 0 (z.2 0)) 1 (z.2 1)) 3 (z.2 3))) A t) A) ([.ref (a 0), .int a1] : List Value).toArray s 0 0 A) (F0 m 104 ls [])), ∀ (N : Mem) (l1 : Int32) (l2 : Int32) (l3 : Int32) (l4 : Int32), fX9_addShelf_L83 M n kx104 N l1 l2 l3 l4 = some z → ∀ (ls : Array Slot), lv_has ls 5 [(0, .ref (a 0)), (1, .int l1), (2, .int l2), (3, .int l3), (4, .int l4)] → ∀ (H : Heap) (locs : List Loc), va_P (dC, dI) vwCl (wX9 cI cZ a (sr (sr (sr M 0 (N 0)) 1 (N 1)) 3 (N 3))) H → va_D A (wX9 cI cZ a (sr (sr (sr M 0 (N 0)) 1 (N 1)) 3 (N 3))) → va_S A s.heap H locs → W p l e (headSpec wsX9_addShelf ({ frames := 4, cells := 0, slots := 0, locals := 94 } : Room)).room s m ([.ref (a 0), .int a1] : List Value).toArray below meth c H locs 0 0 (MQ below (va_Qi (S := Unit) (fun r _ => r = z.1) (fun _ t => WE (dC, dI) cI cZ (wX9 cI cZ a (sr (sr (sr M 0 (z.2 0)) 1 (z.2 1)) 3 (z.2 3))) A t) A) ([.ref (a 0), .int a1] : List Value).toArray s 0 0 A) (F0 m 83 ls []) := by
    intro n
    induction n with
    | zero =>
      intro kx104 hkx104 N l1 l2 l3 l4 hf ls hl H locs hP hD hS
      rw [fX9_addShelf_L83] at hf
      cases hf
    | succ n ih =>
      intro kx104 hkx104 N l1 l2 l3 l4 hf ls hl H locs hP hD hS
      rw [fX9_addShelf_L83] at hf
      refine lv_iload hx hb dX9_addShelf_83 (lv_at hl 4 rfl) ?_
      refine lv_bipush (v := (14 : Int32)) hx hb dX9_addShelf_85 (by decide) ?_
      refine lv_icmp_ge (tgt := 104) hx hb dX9_addShelf_87 (by decide) (fun c9 => ?_) (fun c9 => ?_)
      · have hf := it_t hf c9
        exact hkx104 (sr (sr (sr M 0 (N 0)) 1 (N 1)) 3 (N 3)) l1 l2 l3 hf _ (lv_sub hl [0, 1, 2, 3] rfl) _ _ hP hD hS
      · have hf := it_f hf c9
        refine lv_aload_n hx hb dX9_addShelf_90 rfl (lv_at hl 0 rfl) ?_
        refine lv_iload_n hx hb dX9_addShelf_91 rfl (lv_at hl 3 rfl) ?_
        refine lv_iload hx hb dX9_addShelf_92 (lv_at hl 4 rfl) ?_
        refine lv_iconst (v := (0 : Int32)) hx hb dX9_addShelf_94 (by decide) ?_
        obtain ⟨r95, hc95, hf⟩ := bi_s hf
        have hPc := hP
        have hDc := hD
        have hFc := va_free (wc := (wX9 cI cZ a (sr (sr (sr M 0 (N 0)) 1 (N 1)) 3 (N 3)))) hD hS hA [0, 1, 2, 3, 4, 5, 6, 7, 8] rfl
        refine va_callv (va_runV (As := [.int l3, .int l4, .int (0 : Int32)]) (rest := []) ⟨hx, hb, hml, hown, hts⟩ (c_X9_lay l dC dI cI cZ a H.size (sr (sr (sr M 0 (N 0)) 1 (N 1)) 3 (N 3)) l3 l4 (0 : Int32) r95 hc95) (cwV 3 hts gX9_addShelf_X9_lay rfl rfl rfl (by decide +kernel) ⟨Nat.le_of_ble_eq_true rfl, Nat.le_of_ble_eq_true rfl⟩) ⟨WR.blind, va_recv hK hP (ci := 9) (q0 := 0) rfl rfl, WR.pre hPc hK hDc hNW⟩ rfl rfl hl.1 rfl (lv_room (Nat.le_of_ble_eq_true rfl)) dX9_addShelf_95 ⟨Nat.le_of_ble_eq_true rfl, Nat.le_of_ble_eq_true rfl⟩) hS (fun q _ h => hFc q h) hFc (fun u t H1 locs ht hvm hw hB hz1 hk1 hS => ?_)
        obtain ⟨hP1, hD1⟩ := hB
        rw [ht] at hP1
        have hP := hP1
        have hD := hD1.weaken (fun k q _ h => hFc q.1 h)
        have hP : va_P (dC, dI) vwCl (wX9 cI cZ a (sr (sr (sr M 0 (N 0)) 1 (r95 1)) 3 (N 3))) H1 := hP
        have hD : va_D A (wX9 cI cZ a (sr (sr (sr M 0 (N 0)) 1 (r95 1)) 3 (N 3))) := hD
        generalize H1 = H at hP hS ⊢
        refine lv_iinc (v := (l4 + (1 : Int32))) (lv' := [(4, .int (l4 + (1 : Int32))), (0, .ref (a 0)), (1, .int l1), (2, .int l2), (3, .int l3)]) hx hb dX9_addShelf_98 hl (k := 4) rfl rfl (by decide) rfl (fun ls hl => ?_)
        refine lv_goto (tgt := 83) hx hb dX9_addShelf_101 (by decide) ?_
        exact ih kx104 hkx104 (sr (sr (sr M 0 (N 0)) 1 (r95 1)) 3 (N 3)) l1 l2 l3 (l4 + (1 : Int32)) hf _ (lv_sub hl [1, 2, 3, 4, 0] rfl) _ _ hP hD hS
  have hl := lv_entry ([.ref (a 0), .int a1]) (n := 5) (Nat.le_of_ble_eq_true rfl)
  rw [lg_entry_eq]
  generalize (lg_sl ([.ref (a 0), .int a1]) ++ List.replicate (5 - (lg_sl ([.ref (a 0), .int a1])).length) Slot.unset).toArray = ls at hl ⊢
  have hl : lv_has ls 5 [(0, .ref (a 0)), (1, .int a1)] := hl
  unfold fX9_addShelf at hf
  suffices hgo : ∀ (H : Heap) (locs : List Loc), va_P (dC, dI) vwCl (wX9 cI cZ a M) H → va_D A (wX9 cI cZ a M) → va_S A s.heap H locs → W p l e (headSpec wsX9_addShelf ({ frames := 4, cells := 0, slots := 0, locals := 94 } : Room)).room s m ([.ref (a 0), .int a1] : List Value).toArray below meth c H locs 0 0 (MQ below (va_Qi (S := Unit) (fun r _ => r = z.1) (fun _ t => WE (dC, dI) cI cZ (wX9 cI cZ a (sr (sr (sr M 0 (z.2 0)) 1 (z.2 1)) 3 (z.2 3))) A t) A) ([.ref (a 0), .int a1] : List Value).toArray s 0 0 A) (F0 m 0 ls []) from hgo _ _ hP hD hS
  intro H locs hP hD hS
  refine lv_aload_n hx hb dX9_addShelf_0 rfl (lv_at hl 0 rfl) ?_
  refine lv_iconst (v := (0 : Int32)) hx hb dX9_addShelf_1 (by decide) ?_
  refine va_put (D := (dC, dI)) (ci := 9) (v := .int (0 : Int32)) (ty := .int) (C := RX9) (T := TX9) (N := 13) hx hb hts hinX9 tyX9 tyX9_ok nmX9 hown hK hP hD hS 0 rfl rfl 0 (by decide) hw1 (fun _ h9 => h9) rfl (by decide +kernel) rfl rfl (Nat.le_of_ble_eq_true rfl) dX9_addShelf_2 (fun H locs hP hD hS => ?_)
  have hP : va_P (dC, dI) vwCl (wX9 cI cZ a (sr M 0 (upd (M 0) 0 (0 : Int32)))) H := hP
  have hD : va_D A (wX9 cI cZ a (sr M 0 (upd (M 0) 0 (0 : Int32)))) := hD
  refine lv_iload_n hx hb dX9_addShelf_5 rfl (lv_at hl 1 rfl) ?_
  refine lv_iconst (v := (1 : Int32)) hx hb dX9_addShelf_6 (by decide) ?_
  refine lv_iconst (v := (4 : Int32)) hx hb dX9_addShelf_7 (by decide) ?_
  obtain ⟨r8, hc8, hf⟩ := bi_s hf
  refine cRO (W.runS (As := [.int a1, .int (1 : Int32), .int (4 : Int32)]) (rest := []) ⟨hx, hb, hml, hown, hts⟩ (c_X9_in l a1 (1 : Int32) (4 : Int32) r8 hc8) (va_cwS 3 hts gX9_addShelf_X9_in rfl rfl rfl (by decide +kernel) ⟨Nat.le_of_ble_eq_true rfl, Nat.le_of_ble_eq_true rfl⟩) ⟨tr_blind, tr_pre⟩ rfl rfl hl.1 rfl (lv_room (Nat.le_of_ble_eq_true rfl)) dX9_addShelf_8 ⟨Nat.le_of_ble_eq_true rfl, Nat.le_of_ble_eq_true rfl⟩) ?_
  refine lv_if_ne (tgt := 20) hx hb dX9_addShelf_11 (by decide) (fun c9 => ?_) (fun c9 => ?_)
  · have hf := it_t hf c9
    refine lv_aload_n hx hb dX9_addShelf_20 rfl (lv_at hl 0 rfl) ?_
    refine va_get (D := (dC, dI)) (ci := 9) (v := .ref (a 1)) (C := RX9) (T := TX9) (N := 13) hx hb hts hinX9 hown hK hP 0 rfl rfl 1 (by decide) hw2 (fun _ h9 => h9) rfl dX9_addShelf_21 ?_
    refine lv_iconst (v := (0 : Int32)) hx hb dX9_addShelf_24 (by decide) ?_
    obtain ⟨hi, hf⟩ := gd_s hf
    refine va_iald (D := (dC, dI)) (f := (M 1)) hx hb hK hP 1 0 rfl rfl (inb_in hi) dX9_addShelf_25 ?_
    refine lv_bipush (v := (12 : Int32)) hx hb dX9_addShelf_26 (by decide) ?_
    refine lv_icmp_eq (tgt := 47) hx hb dX9_addShelf_28 (by decide) (fun c9 => ?_) (fun c9 => ?_)
    · have hf := it_t hf c9
      exact hfX9_addShelf_B47  (sr M 0 (upd (M 0) 0 (0 : Int32))) hf _ (lv_sub hl [0] rfl) _ _ hP hD hS
    · have hf := it_f hf c9
      refine lv_aload_n hx hb dX9_addShelf_31 rfl (lv_at hl 0 rfl) ?_
      obtain ⟨r32, hc32, hf⟩ := bi_s hf
      have hPc := hP
      refine cRO (W.runV (As := []) (rest := []) ⟨hx, hb, hml, hown, hts⟩ (c_X9_hasWindow l dC dI cI cZ a (sr M 0 (upd (M 0) 0 (0 : Int32))) r32 hc32) (cwV 0 hts gX9_addShelf_X9_hasWindow rfl rfl rfl (by decide +kernel) ⟨Nat.le_of_ble_eq_true rfl, Nat.le_of_ble_eq_true rfl⟩) ⟨RO.blind, va_recv hK hP (ci := 9) (q0 := 0) rfl rfl, RO.pre hPc hK hNW⟩ rfl rfl hl.1 rfl (lv_room (Nat.le_of_ble_eq_true rfl)) dX9_addShelf_32 ⟨Nat.le_of_ble_eq_true rfl, Nat.le_of_ble_eq_true rfl⟩) ?_
      refine lv_if_ne (tgt := 47) hx hb dX9_addShelf_35 (by decide) (fun c9 => ?_) (fun c9 => ?_)
      · have hf := it_t hf c9
        exact hfX9_addShelf_B47  (sr M 0 (upd (M 0) 0 (0 : Int32))) hf _ (lv_sub hl [0] rfl) _ _ hP hD hS
      · have hf := it_n hf c9
        refine lv_aload_n hx hb dX9_addShelf_38 rfl (lv_at hl 0 rfl) ?_
        refine lv_iload_n hx hb dX9_addShelf_39 rfl (lv_at hl 1 rfl) ?_
        obtain ⟨r40, hc40, hf⟩ := bi_s hf
        have hPc := hP
        refine cRO (W.runV (As := [.int a1]) (rest := []) ⟨hx, hb, hml, hown, hts⟩ (c_X9_place l dC dI cI cZ a (sr M 0 (upd (M 0) 0 (0 : Int32))) a1 r40 hc40) (cwV 1 hts gX9_addShelf_X9_place rfl rfl rfl (by decide +kernel) ⟨Nat.le_of_ble_eq_true rfl, Nat.le_of_ble_eq_true rfl⟩) ⟨RO.blind, va_recv hK hP (ci := 9) (q0 := 0) rfl rfl, RO.pre hPc hK hNW⟩ rfl rfl hl.1 rfl (lv_room (Nat.le_of_ble_eq_true rfl)) dX9_addShelf_40 ⟨Nat.le_of_ble_eq_true rfl, Nat.le_of_ble_eq_true rfl⟩) ?_
        refine lv_iconst (v := (-1 : Int32)) hx hb dX9_addShelf_43 (by decide) ?_
        refine lv_icmp_ne (tgt := 53) hx hb dX9_addShelf_44 (by decide) (fun c9 => ?_) (fun c9 => ?_)
        · have hf := it_t hf c9
          refine lv_aload_n hx hb dX9_addShelf_53 rfl (lv_at hl 0 rfl) ?_
          obtain ⟨r54, hc54, hf⟩ := bi_s hf
          have hPc := hP
          have hDc := hD
          have hFc := va_free (wc := (wX9 cI cZ a (sr M 0 (upd (M 0) 0 (0 : Int32))))) hD hS hA [0, 1, 2, 3, 4, 5, 6, 7, 8] rfl
          refine va_callv (va_runV (As := []) (rest := []) ⟨hx, hb, hml, hown, hts⟩ (c_X9_records l dC dI cI cZ a H.size (sr M 0 (upd (M 0) 0 (0 : Int32))) r54 hc54) (cwV 0 hts gX9_addShelf_X9_records rfl rfl rfl (by decide +kernel) ⟨Nat.le_of_ble_eq_true rfl, Nat.le_of_ble_eq_true rfl⟩) ⟨WR.blind, va_recv hK hP (ci := 9) (q0 := 0) rfl rfl, WR.pre hPc hK hDc hNW⟩ rfl rfl hl.1 rfl (lv_room (Nat.le_of_ble_eq_true rfl)) dX9_addShelf_54 ⟨Nat.le_of_ble_eq_true rfl, Nat.le_of_ble_eq_true rfl⟩) hS (fun q _ h => hFc q h) hFc (fun u t H1 locs ht hvm hw hB hz1 hk1 hS => ?_)
          obtain ⟨hP1, hD1⟩ := hB
          rw [ht] at hP1
          have hP := hP1
          have hD := hD1.weaken (fun k q _ h => hFc q.1 h)
          have hP : va_P (dC, dI) vwCl (wX9 cI cZ a (sr (sr M 0 (r54 0)) 3 (r54 3))) H1 := hP
          have hD : va_D A (wX9 cI cZ a (sr (sr M 0 (r54 0)) 3 (r54 3))) := hD
          generalize H1 = H at hP hS ⊢
          refine lv_aload_n hx hb dX9_addShelf_57 rfl (lv_at hl 0 rfl) ?_
          refine lv_iload_n hx hb dX9_addShelf_58 rfl (lv_at hl 1 rfl) ?_
          obtain ⟨r59, hc59, hf⟩ := bi_s hf
          have hPc := hP
          refine cRO (W.runV (As := [.int a1]) (rest := []) ⟨hx, hb, hml, hown, hts⟩ (c_X9_place l dC dI cI cZ a (sr (sr M 0 (r54 0)) 3 (r54 3)) a1 r59 hc59) (cwV 1 hts gX9_addShelf_X9_place rfl rfl rfl (by decide +kernel) ⟨Nat.le_of_ble_eq_true rfl, Nat.le_of_ble_eq_true rfl⟩) ⟨RO.blind, va_recv hK hP (ci := 9) (q0 := 0) rfl rfl, RO.pre hPc hK hNW⟩ rfl rfl hl.1 rfl (lv_room (Nat.le_of_ble_eq_true rfl)) dX9_addShelf_59 ⟨Nat.le_of_ble_eq_true rfl, Nat.le_of_ble_eq_true rfl⟩) ?_
          refine lv_istore_n (lv' := [(2, .int r59), (0, .ref (a 0)), (1, .int a1)]) hx hb dX9_addShelf_62 rfl hl (by decide) rfl (fun ls hl => ?_)
          refine lv_aload_n hx hb dX9_addShelf_63 rfl (lv_at hl 1 rfl) ?_
          refine va_get (D := (dC, dI)) (ci := 9) (v := .ref (a 1)) (C := RX9) (T := TX9) (N := 13) hx hb hts hinX9 hown hK hP 0 rfl rfl 1 (by decide) hw2 (fun _ h9 => h9) rfl dX9_addShelf_64 ?_
          refine lv_iconst (v := (0 : Int32)) hx hb dX9_addShelf_67 (by decide) ?_
          obtain ⟨hi, hf⟩ := gd_s hf
          refine va_iald (D := (dC, dI)) (f := (M 1)) hx hb hK hP 1 0 rfl rfl (inb_in hi) dX9_addShelf_68 ?_
          refine lv_istore_n (lv' := [(3, .int (M 1 (0 : Int32).toNatClampNeg)), (2, .int r59), (0, .ref (a 0)), (1, .int a1)]) hx hb dX9_addShelf_69 rfl hl (by decide) rfl (fun ls hl => ?_)
          refine lv_aload_n hx hb dX9_addShelf_70 rfl (lv_at hl 2 rfl) ?_
          refine va_get (D := (dC, dI)) (ci := 9) (v := .ref (a 1)) (C := RX9) (T := TX9) (N := 13) hx hb hts hinX9 hown hK hP 0 rfl rfl 1 (by decide) hw2 (fun _ h9 => h9) rfl dX9_addShelf_71 ?_
          refine lv_iconst (v := (0 : Int32)) hx hb dX9_addShelf_74 (by decide) ?_
          refine lv_dup2_11 hx hb dX9_addShelf_75 rfl rfl ?_
          obtain ⟨hi, hf⟩ := gd_s hf
          refine va_iald (D := (dC, dI)) (f := (M 1)) hx hb hK hP 1 0 rfl rfl (inb_in hi) dX9_addShelf_76 ?_
          refine lv_iconst (v := (1 : Int32)) hx hb dX9_addShelf_77 (by decide) ?_
          refine lv_iadd hx hb dX9_addShelf_78 ?_
          obtain ⟨hi, hf⟩ := gd_s hf
          refine va_iast (D := (dC, dI)) (f := (M 1)) hx hb hK hP hD hS 1 0 rfl rfl (inb_in hi) dX9_addShelf_79 (fun H locs hP hD hS => ?_)
          have hP : va_P (dC, dI) vwCl (wX9 cI cZ a (sr (sr (sr M 0 (r54 0)) 1 (upd (M 1) (0 : Int32).toNatClampNeg ((M 1 (0 : Int32).toNatClampNeg) + (1 : Int32)))) 3 (r54 3))) H := hP
          have hD : va_D A (wX9 cI cZ a (sr (sr (sr M 0 (r54 0)) 1 (upd (M 1) (0 : Int32).toNatClampNeg ((M 1 (0 : Int32).toNatClampNeg) + (1 : Int32)))) 3 (r54 3))) := hD
          refine lv_iconst (v := (0 : Int32)) hx hb dX9_addShelf_80 (by decide) ?_
          refine lv_istore (lv' := [(4, .int (0 : Int32)), (3, .int (M 1 (0 : Int32).toNatClampNeg)), (2, .int r59), (0, .ref (a 0)), (1, .int a1)]) hx hb dX9_addShelf_81 hl (by decide) rfl (fun ls hl => ?_)
          refine hfX9_addShelf_L83 5000 _ (fun N l1 l2 l3 hf ls hl H locs hP hD hS => ?_) (sr (sr (sr M 0 (r54 0)) 1 (upd (M 1) (0 : Int32).toNatClampNeg ((M 1 (0 : Int32).toNatClampNeg) + (1 : Int32)))) 3 (r54 3)) a1 r59 (M 1 (0 : Int32).toNatClampNeg) (0 : Int32) hf _ (lv_sub hl [3, 4, 2, 1, 0] rfl) _ _ hP hD hS
          refine lv_aload_n hx hb dX9_addShelf_104 rfl (lv_at hl 0 rfl) ?_
          refine lv_iload_n hx hb dX9_addShelf_105 rfl (lv_at hl 3 rfl) ?_
          refine lv_iconst (v := (0 : Int32)) hx hb dX9_addShelf_106 (by decide) ?_
          refine lv_iload_n hx hb dX9_addShelf_107 rfl (lv_at hl 1 rfl) ?_
          obtain ⟨r108, hc108, hf⟩ := bi_s hf
          have hPc := hP
          have hDc := hD
          have hFc := va_free (wc := (wX9 cI cZ a (sr (sr (sr M 0 (N 0)) 1 (N 1)) 3 (N 3)))) hD hS hA [0, 1, 2, 3, 4, 5, 6, 7, 8] rfl
          refine va_callv (va_runV (As := [.int l3, .int (0 : Int32), .int l1]) (rest := []) ⟨hx, hb, hml, hown, hts⟩ (c_X9_lay l dC dI cI cZ a H.size (sr (sr (sr M 0 (N 0)) 1 (N 1)) 3 (N 3)) l3 (0 : Int32) l1 r108 hc108) (cwV 3 hts gX9_addShelf_X9_lay rfl rfl rfl (by decide +kernel) ⟨Nat.le_of_ble_eq_true rfl, Nat.le_of_ble_eq_true rfl⟩) ⟨WR.blind, va_recv hK hP (ci := 9) (q0 := 0) rfl rfl, WR.pre hPc hK hDc hNW⟩ rfl rfl hl.1 rfl (lv_room (Nat.le_of_ble_eq_true rfl)) dX9_addShelf_108 ⟨Nat.le_of_ble_eq_true rfl, Nat.le_of_ble_eq_true rfl⟩) hS (fun q _ h => hFc q h) hFc (fun u t H1 locs ht hvm hw hB hz1 hk1 hS => ?_)
          obtain ⟨hP1, hD1⟩ := hB
          rw [ht] at hP1
          have hP := hP1
          have hD := hD1.weaken (fun k q _ h => hFc q.1 h)
          have hP : va_P (dC, dI) vwCl (wX9 cI cZ a (sr (sr (sr M 0 (N 0)) 1 (r108 1)) 3 (N 3))) H1 := hP
          have hD : va_D A (wX9 cI cZ a (sr (sr (sr M 0 (N 0)) 1 (r108 1)) 3 (N 3))) := hD
          generalize H1 = H at hP hS ⊢
          refine lv_aload_n hx hb dX9_addShelf_111 rfl (lv_at hl 0 rfl) ?_
          refine lv_iload_n hx hb dX9_addShelf_112 rfl (lv_at hl 3 rfl) ?_
          refine lv_iload_n hx hb dX9_addShelf_113 rfl (lv_at hl 2 rfl) ?_
          obtain ⟨r114, hc114, hf⟩ := bi_s hf
          have hPc := hP
          have hDc := hD
          have hFc := va_free (wc := (wX9 cI cZ a (sr (sr (sr M 0 (N 0)) 1 (r108 1)) 3 (N 3)))) hD hS hA [0, 1, 2, 3, 4, 5, 6, 7, 8] rfl
          refine va_callv (va_runV (As := [.int l3, .int l2]) (rest := []) ⟨hx, hb, hml, hown, hts⟩ (c_X9_puts l dC dI cI cZ a H.size (sr (sr (sr M 0 (N 0)) 1 (r108 1)) 3 (N 3)) l3 l2 r114 hc114) (cwV 2 hts gX9_addShelf_X9_puts rfl rfl rfl (by decide +kernel) ⟨Nat.le_of_ble_eq_true rfl, Nat.le_of_ble_eq_true rfl⟩) ⟨WR.blind, va_recv hK hP (ci := 9) (q0 := 0) rfl rfl, WR.pre hPc hK hDc hNW⟩ rfl rfl hl.1 rfl (lv_room (Nat.le_of_ble_eq_true rfl)) dX9_addShelf_114 ⟨Nat.le_of_ble_eq_true rfl, Nat.le_of_ble_eq_true rfl⟩) hS (fun q _ h => hFc q h) hFc (fun u t H1 locs ht hvm hw hB hz1 hk1 hS => ?_)
          obtain ⟨hP1, hD1⟩ := hB
          rw [ht] at hP1
          have hP := hP1
          have hD := hD1.weaken (fun k q _ h => hFc q.1 h)
          have hP : va_P (dC, dI) vwCl (wX9 cI cZ a (sr (sr (sr M 0 (N 0)) 1 (r114 1)) 3 (N 3))) H1 := hP
          have hD : va_D A (wX9 cI cZ a (sr (sr (sr M 0 (N 0)) 1 (r114 1)) 3 (N 3))) := hD
          generalize H1 = H at hP hS ⊢
          refine lv_iload_n hx hb dX9_addShelf_117 rfl (lv_at hl 3 rfl) ?_
          have e9 := so_e hf
          subst e9
          exact W.iret (v := l3) hx hb hr (fun t ht hW => ⟨⟨l3, (), rfl, rfl, WE.mk hP hD ht⟩, hS.F ht⟩) hS.2.2 dX9_addShelf_118
        · have hf := it_n hf c9
          exact hfX9_addShelf_B47  (sr M 0 (upd (M 0) 0 (0 : Int32))) hf _ (lv_sub hl [0] rfl) _ _ hP hD hS
  · have hf := it_n hf c9
    refine lv_aload_n hx hb dX9_addShelf_14 rfl (lv_at hl 0 rfl) ?_
    refine lv_iconst (v := (1 : Int32)) hx hb dX9_addShelf_15 (by decide) ?_
    obtain ⟨r16, hc16, hf⟩ := bi_s hf
    have hPc := hP
    have hDc := hD
    have hFc := va_free (wc := (wX9 cI cZ a (sr M 0 (upd (M 0) 0 (0 : Int32))))) hD hS hA [0, 1, 2, 3, 4, 5, 6, 7, 8] rfl
    refine va_calli (va_runV (As := [.int (1 : Int32)]) (rest := []) ⟨hx, hb, hml, hown, hts⟩ (c_X9_fails l dC dI cI cZ a H.size (sr M 0 (upd (M 0) 0 (0 : Int32))) (1 : Int32) r16 hc16) (cwV 1 hts gX9_addShelf_X9_fails rfl rfl rfl (by decide +kernel) ⟨Nat.le_of_ble_eq_true rfl, Nat.le_of_ble_eq_true rfl⟩) ⟨WR.blind, va_recv hK hP (ci := 9) (q0 := 0) rfl rfl, WR.pre hPc hK hDc hNW⟩ rfl rfl hl.1 rfl (lv_room (Nat.le_of_ble_eq_true rfl)) dX9_addShelf_16 ⟨Nat.le_of_ble_eq_true rfl, Nat.le_of_ble_eq_true rfl⟩) hS (fun q _ h => hFc q h) hFc (fun rv u t H1 locs ht hvm hw hB hz1 hk1 hS => ?_)
    obtain ⟨hP1, hD1⟩ := hB
    rw [ht] at hP1
    subst hw
    have hP := hP1
    have hD := hD1.weaken (fun k q _ h => hFc q.1 h)
    have hP : va_P (dC, dI) vwCl (wX9 cI cZ a (sr M 0 (r16.2 0))) H1 := hP
    have hD : va_D A (wX9 cI cZ a (sr M 0 (r16.2 0))) := hD
    generalize H1 = H at hP hS ⊢
    have e9 := so_e hf
    subst e9
    exact W.iret (v := r16.1) hx hb hr (fun t ht hW => ⟨⟨r16.1, (), rfl, rfl, WE.mk hP hD ht⟩, hS.F ht⟩) hS.2.2 dX9_addShelf_19
