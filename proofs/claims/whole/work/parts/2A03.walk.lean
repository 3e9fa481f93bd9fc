set_option maxHeartbeats 4000000 in
set_option maxRecDepth 100000 in
theorem c_X6_weighShelf (l : Launch) (dC : Nat → ClassId) (dI : Nat → Nat → Nat) (cI cZ : ClassId) (a : Nat → Nat) (M : Mem) (a1 : Int32) (z : Int32) (hf : fX6_weighShelf M a1 = some z) : Met l yX6_weighShelf wsX6_weighShelf ({ frames := 1, cells := 0, slots := 0, locals := 22 } : Room) (va_Pc [.ref (a 0), .int a1] (RO (dC, dI) cI cZ (wX6 cI cZ a M))) (k2_QcV (.int z)) 0 0 (fun _ => False) := by
  refine Met.ofW (cc := cX6_weighShelf) (maxL := 4) (ret := (some .int)) (by decide) rfl ?_
  intro p e s m args below meth c s₁ B hml hv
  obtain ⟨rfl, hP, hK, hNW⟩ := hv
  have hx := B.exec
  have hb := B.bytes
  have hr := B.returns
  have hts := atoms_spec (ws := wsX6_weighShelf) B.pre
  have hown : s.vm.findClass RX6 = some m.cls := findClass_of_methodNamed B.named
  have hlocks := B.notSynchronized
  have hinX6 : ∀ w ∈ u_ws RX6 TX6 5, w ∈ wsX6_weighShelf := by decide +kernel
  have hw1 := hts (.fieldLink RX6 12 "GlideShelves$State" "tower" "LGlideShelves$Tower;") (by decide +kernel)
  have hw2 := hts (.initialized RX7) (by decide +kernel)
  have hw3 := hts (.instanceMethod yX7_countIn) (by decide +kernel)
  have hw4 := hts (.selects RX7 yX7_countIn yX7_countIn) (by decide +kernel)
  have hw5 := hts (.fieldLink RX6 28 "GlideShelves$State" "goods" "LGlideShelves$Goods;") (by decide +kernel)
  have hinX0 : ∀ w ∈ u_ws RX0 TX0 4, w ∈ wsX6_weighShelf := by decide +kernel
  have hfX6_weighShelf_L4 : ∀ (n : Nat) (kx38 : Int32 → Option (Int32)) (hkx38 : ∀ (l2 : Int32), kx38 l2 = some z → ∀ (ls : Array Slot), lv_has ls 4 [(2, .int l2)] → W p l e (headSpec wsX6_weighShelf ({ frames := 1, cells := 0, slots := 0, locals := 22 } : Room)).room s m ([.ref (a 0), .int a1] : List Value).toArray below meth c s.heap [] 0 0 (MQ below (k2_QcV (.int z)) ([.ref (a 0), .int a1] : List Value).toArray s 0 0 (fun _ => False)) (F0 m 38 ls [])), ∀ (l1 : Int32) (l2 : Int32) (l3 : Int32), fX6_weighShelf_L4 M n kx38 l1 l2 l3 = some z → ∀ (ls : Array Slot), lv_has ls 4 [(0, .ref (a 0)), (1, .int l1), (2, .int l2), (3, .int l3)] → W p l e (headSpec wsX6_weighShelf ({ frames := 1, cells := 0, slots := 0, locals := 22 } : Room)).room s m ([.ref (a 0), .int a1] : List Value).toArray below meth c s.heap [] 0 0 (MQ below (k2_QcV (.int z)) ([.ref (a 0), .int a1] : List Value).toArray s 0 0 (fun _ => False)) (F0 m 4 ls []) := by
    intro n
    induction n with
    | zero =>
      intro kx38 hkx38 l1 l2 l3 hf ls hl
      rw [fX6_weighShelf_L4] at hf
      cases hf
    | succ n ih =>
      intro kx38 hkx38 l1 l2 l3 hf ls hl
      rw [fX6_weighShelf_L4] at hf
      refine lv_iload_n hx hb dX6_weighShelf_4 rfl (lv_at hl 3 rfl) ?_
      refine lv_bipush (v := (10 : Int32)) hx hb dX6_weighShelf_5 (by decide) ?_
      refine lv_icmp_ge (tgt := 38) hx hb dX6_weighShelf_7 (by decide) (fun c9 => ?_) (fun c9 => ?_)
      · have hf := it_t hf c9
        exact hkx38 l2 hf _ (lv_sub hl [2] rfl)
      · have hf := it_f hf c9
        refine lv_iload_n hx hb dX6_weighShelf_10 rfl (lv_at hl 2 rfl) ?_
        refine lv_aload_n hx hb dX6_weighShelf_11 rfl (lv_at hl 0 rfl) ?_
        refine va_get (D := (dC, dI)) (ci := 6) (v := .ref (a 1)) (C := RX6) (T := TX6) (N := 5) hx hb hts hinX6 hown hK hP 0 rfl rfl 0 (by decide) hw1 (fun _ h9 => h9) rfl dX6_weighShelf_12 ?_
        refine lv_iload_n hx hb dX6_weighShelf_15 rfl (lv_at hl 1 rfl) ?_
        refine lv_iload_n hx hb dX6_weighShelf_16 rfl (lv_at hl 3 rfl) ?_
        obtain ⟨r17, hc17, hf⟩ := bi_s hf
        have hPc := hP.sub (ws' := (wX7 cI cZ (ofs 1 a) (ofs 1 M))) [1, 2, 3, 4, 5] rfl
        refine cRO (va_Run.run (va_runVN (As := [.int l1, .int l3]) (rest := [.int l2]) ⟨hx, hb, hml, hown, hts⟩ (c_X7_countIn l dC dI cI cZ (ofs 1 a) (ofs 1 M) l1 l3 r17 hc17) ⟨va_cnB 2 hts gX6_weighShelf_X7_countIn_n56 rfl rfl rfl (nw109 hNW) hw2 (by decide +kernel) ⟨Nat.le_of_ble_eq_true rfl, Nat.le_of_ble_eq_true rfl⟩, hw3, hw4⟩ ⟨RO.blind, va_recv hK hP (ci := 7) (q0 := 1) rfl rfl, RO.pre hPc hK hNW⟩ rfl rfl hl.1 rfl (lv_room (Nat.le_of_ble_eq_true rfl)) dX6_weighShelf_17 ⟨Nat.le_of_ble_eq_true rfl, Nat.le_of_ble_eq_true rfl⟩)) ?_
        refine lv_aload_n hx hb dX6_weighShelf_20 rfl (lv_at hl 0 rfl) ?_
        refine va_get (D := (dC, dI)) (ci := 6) (v := .ref (a 9)) (C := RX6) (T := TX6) (N := 5) hx hb hts hinX6 hown hK hP 0 rfl rfl 2 (by decide) hw5 (fun _ h9 => h9) rfl dX6_weighShelf_21 ?_
        refine va_getN (D := (dC, dI)) (ci := 0) (v := .ref (a 10)) (C := RX0) (T := TX0) (N := 4) hx hb hts hinX0 hown hK hP 9 rfl rfl 0 (by decide) (nw35 hNW) (fun _ h9 => h9) rfl dX6_weighShelf_24 ?_
        refine lv_iload_n hx hb dX6_weighShelf_27 rfl (lv_at hl 3 rfl) ?_
        obtain ⟨hi, hf⟩ := gd_s hf
        refine va_iald (D := (dC, dI)) (f := (M 10)) hx hb hK hP 10 0 rfl rfl (inb_in hi) dX6_weighShelf_28 ?_
        refine lv_imul hx hb dX6_weighShelf_29 ?_
        refine lv_iadd hx hb dX6_weighShelf_30 ?_
        refine lv_istore_n (lv' := [(2, .int (l2 + (r17 * (M 10 l3.toNatClampNeg)))), (0, .ref (a 0)), (1, .int l1), (3, .int l3)]) hx hb dX6_weighShelf_31 rfl hl (by decide) rfl (fun ls hl => ?_)
        refine lv_iinc (v := (l3 + (1 : Int32))) (lv' := [(3, .int (l3 + (1 : Int32))), (2, .int (l2 + (r17 * (M 10 l3.toNatClampNeg)))), (0, .ref (a 0)), (1, .int l1)]) hx hb dX6_weighShelf_32 hl (k := 3) rfl rfl (by decide) rfl (fun ls hl => ?_)
        refine lv_goto (tgt := 4) hx hb dX6_weighShelf_35 (by decide) ?_
        exact ih kx38 hkx38 l1 (l2 + (r17 * (M 10 l3.toNatClampNeg))) (l3 + (1 : Int32)) hf _ (lv_sub hl [2, 3, 1, 0] rfl)
  have hl := lv_entry ([.ref (a 0), .int a1]) (n := 4) (Nat.le_of_ble_eq_true rfl)
  rw [lg_entry_eq]
  generalize (lg_sl ([.ref (a 0), .int a1]) ++ List.replicate (4 - (lg_sl ([.ref (a 0), .int a1])).length) Slot.unset).toArray = ls at hl ⊢
  have hl : lv_has ls 4 [(0, .ref (a 0)), (1, .int a1)] := hl
  unfold fX6_weighShelf at hf
  refine lv_iconst (v := (0 : Int32)) hx hb dX6_weighShelf_0 (by decide) ?_
  refine lv_istore_n (lv' := [(2, .int (0 : Int32)), (0, .ref (a 0)), (1, .int a1)]) hx hb dX6_weighShelf_1 rfl hl (by decide) rfl (fun ls hl => ?_)
  refine lv_iconst (v := (0 : Int32)) hx hb dX6_weighShelf_2 (by decide) ?_
  refine lv_istore_n (lv' := [(3, .int (0 : Int32)), (2, .int (0 : Int32)), (0, .ref (a 0)), (1, .int a1)]) hx hb dX6_weighShelf_3 rfl hl (by decide) rfl (fun ls hl => ?_)
  refine hfX6_weighShelf_L4 5000 _ (fun l2 hf ls hl => ?_) a1 (0 : Int32) (0 : Int32) hf _ (lv_sub hl [2, 3, 1, 0] rfl)
  refine lv_iload_n hx hb dX6_weighShelf_38 rfl (lv_at hl 0 rfl) ?_
  exact W.iret (v := l2) hx hb hr (fun t ht hW => ⟨congrArg (fun x => Outcome.returned (some (Value.int x))) (so_e hf), ht⟩) fl0 dX6_weighShelf_39
set_option maxHeartbeats 4000000 in
set_option maxRecDepth 100000 in
theorem c_X6_weighSide (l : Launch) (dC : Nat → ClassId) (dI : Nat → Nat → Nat) (cI cZ : ClassId) (a : Nat → Nat) (M : Mem) (a1 : Int32) (z : Int32) (hf : fX6_weighSide M a1 = some z) : Met l yX6_weighSide wsX6_weighSide ({ frames := 2, cells := 0, slots := 0, locals := 45 } : Room) (va_Pc [.ref (a 0), .int a1] (RO (dC, dI) cI cZ (wX6 cI cZ a M))) (k2_QcV (.int z)) 0 0 (fun _ => False) := by
  refine Met.ofW (cc := cX6_weighSide) (maxL := 4) (ret := (some .int)) (by decide) rfl ?_
  intro p e s m args below meth c s₁ B hml hv
  obtain ⟨rfl, hP, hK, hNW⟩ := hv
  have hx := B.exec
  have hb := B.bytes
  have hr := B.returns
  have hts := atoms_spec (ws := wsX6_weighSide) B.pre
  have hown : s.vm.findClass RX6 = some m.cls := findClass_of_methodNamed B.named
  have hlocks := B.notSynchronized
  have hinX6 : ∀ w ∈ u_ws RX6 TX6 5, w ∈ wsX6_weighSide := by decide +kernel
  have hw1 := hts (.fieldLink RX6 12 "GlideShelves$State" "tower" "LGlideShelves$Tower;") (by decide +kernel)
  have hinX7 : ∀ w ∈ u_ws RX7 TX7 6, w ∈ wsX6_weighSide := by decide +kernel
  have hfX6_weighSide_B50 : ∀ (kb : Int32 → Int32 → Int32 → Option (Int32)) (hkb : ∀ (l1 : Int32) (l2 : Int32) (l3 : Int32), kb l1 l2 l3 = some z → ∀ (ls : Array Slot), lv_has ls 4 [(0, .ref (a 0)), (1, .int l1), (2, .int l2), (3, .int l3)] → W p l e (headSpec wsX6_weighSide ({ frames := 2, cells := 0, slots := 0, locals := 45 } : Room)).room s m ([.ref (a 0), .int a1] : List Value).toArray below meth c s.heap [] 0 0 (MQ below (k2_QcV (.int z)) ([.ref (a 0), .int a1] : List Value).toArray s 0 0 (fun _ => False)) (F0 m 4 ls [])) (kx56 : Int32 → Option (Int32)) (hkx56 : ∀ (l2 : Int32), kx56 l2 = some z → ∀ (ls : Array Slot), lv_has ls 4 [(2, .int l2)] → W p l e (headSpec wsX6_weighSide ({ frames := 2, cells := 0, slots := 0, locals := 45 } : Room)).room s m ([.ref (a 0), .int a1] : List Value).toArray below meth c s.heap [] 0 0 (MQ below (k2_QcV (.int z)) ([.ref (a 0), .int a1] : List Value).toArray s 0 0 (fun _ => False)) (F0 m 56 ls [])), ∀ (l1 : Int32) (l2 : Int32) (l3 : Int32), fX6_weighSide_B50 M kb kx56 l1 l2 l3 = some z → ∀ (ls : Array Slot), lv_has ls 4 [(0, .ref (a 0)), (1, .int l1), (2, .int l2), (3, .int l3)] → W p l e (headSpec wsX6_weighSide ({ frames := 2, cells := 0, slots := 0, locals := 45 } : Room)).room s m ([.ref (a 0), .int a1] : List Value).toArray below meth c s.heap [] 0 0 (MQ below (k2_QcV (.int z)) ([.ref (a 0), .int a1] : List Value).toArray s 0 0 (fun _ => False)) (F0 m 50 ls []) := by
    intro kb hkb kx56 hkx56 l1 l2 l3 hf ls hl
    unfold fX6_weighSide_B50 at hf
    refine lv_iinc (v := (l3 + (1 : Int32))) (lv' := [(3, .int (l3 + (1 : Int32))), (0, .ref (a 0)), (1, .int l1), (2, .int l2)]) hx hb dX6_weighSide_50 hl (k := 3) rfl rfl (by decide) rfl (fun ls hl => ?_)
    refine lv_goto (tgt := 4) hx hb dX6_weighSide_53 (by decide) ?_
    exact hkb l1 l2 (l3 + (1 : Int32)) hf _ (lv_sub hl [1, 2, 3, 0] rfl)
  have hfX6_weighSide_L4 : ∀ (n : Nat) (kx56 : Int32 → Option (Int32)) (hkx56 : ∀ (l2 : Int32), kx56 l2 = some z → ∀ (ls : Array Slot), lv_has ls 4 [(2, .int l2)] → W p l e (headSpec wsX6_weighSide ({ frames := 2, cells := 0, slots := 0, locals := 45 } : Room)).room s m ([.ref (a 0), .int a1] : List Value).toArray below meth c s.heap [] 0 0 (MQ below (k2_QcV (.int z)) ([.ref (a 0), .int a1] : List Value).toArray s 0 0 (fun _ => False)) (F0 m 56 ls [])), ∀ (l1 : Int32) (l2 : Int32) (l3 : Int32), fX6_weighSide_L4 M n kx56 l1 l2 l3 = some z → ∀ (ls : Array Slot), lv_has ls 4 [(0, .ref (a 0)), (1, .int l1), (2, .int l2), (3, .int l3)] → W p l e (headSpec wsX6_weighSide ({ frames := 2, cells := 0, slots := 0, locals := 45 } : Room)).room s m ([.ref (a 0), .int a1] : List Value).toArray below meth c s.heap [] 0 0 (MQ below (k2_QcV (.int z)) ([.ref (a 0), .int a1] : List Value).toArray s 0 0 (fun _ => False)) (F0 m 4 ls []) := by
    intro n
    induction n with
    | zero =>
      intro kx56 hkx56 l1 l2 l3 hf ls hl
      rw [fX6_weighSide_L4] at hf
      cases hf
    | succ n ih =>
      intro kx56 hkx56 l1 l2 l3 hf ls hl
      rw [fX6_weighSide_L4] at hf
      refine lv_iload_n hx hb dX6_weighSide_4 rfl (lv_at hl 3 rfl) ?_
      refine lv_aload_n hx hb dX6_weighSide_5 rfl (lv_at hl 0 rfl) ?_
      refine va_get (D := (dC, dI)) (ci := 6) (v := .ref (a 1)) (C := RX6) (T := TX6) (N := 5) hx hb hts hinX6 hown hK hP 0 rfl rfl 0 (by decide) hw1 (fun _ h9 => h9) rfl dX6_weighSide_6 ?_
      refine va_getN (D := (dC, dI)) (ci := 7) (v := .int (M 1 0)) (C := RX7) (T := TX7) (N := 6) hx hb hts hinX7 hown hK hP 1 rfl rfl 0 (by decide) (nw36 hNW) (fun _ h9 => h9) rfl dX6_weighSide_9 ?_
      refine lv_icmp_ge (tgt := 56) hx hb dX6_weighSide_12 (by decide) (fun c9 => ?_) (fun c9 => ?_)
      · have hf := it_t hf c9
        exact hkx56 l2 hf _ (lv_sub hl [2] rfl)
      · have hf := it_f hf c9
        refine lv_iload_n hx hb dX6_weighSide_15 rfl (lv_at hl 3 rfl) ?_
        refine lv_aload_n hx hb dX6_weighSide_16 rfl (lv_at hl 0 rfl) ?_
        refine va_get (D := (dC, dI)) (ci := 6) (v := .ref (a 1)) (C := RX6) (T := TX6) (N := 5) hx hb hts hinX6 hown hK hP 0 rfl rfl 0 (by decide) hw1 (fun _ h9 => h9) rfl dX6_weighSide_17 ?_
        refine va_getN (D := (dC, dI)) (ci := 7) (v := .int (M 1 1)) (C := RX7) (T := TX7) (N := 6) hx hb hts hinX7 hown hK hP 1 rfl rfl 1 (by decide) (nw37 hNW) (fun _ h9 => h9) rfl dX6_weighSide_20 ?_
        refine lv_icmp_eq (tgt := 50) hx hb dX6_weighSide_23 (by decide) (fun c9 => ?_) (fun c9 => ?_)
        · have hf := it_t hf c9
          exact hfX6_weighSide_B50 _ (ih kx56 hkx56) _ hkx56 l1 l2 l3 hf _ (lv_sub hl [0, 1, 2, 3] rfl)
        · have hf := it_f hf c9
          refine lv_aload_n hx hb dX6_weighSide_26 rfl (lv_at hl 0 rfl) ?_
          refine va_get (D := (dC, dI)) (ci := 6) (v := .ref (a 1)) (C := RX6) (T := TX6) (N := 5) hx hb hts hinX6 hown hK hP 0 rfl rfl 0 (by decide) hw1 (fun _ h9 => h9) rfl dX6_weighSide_27 ?_
          refine va_getN (D := (dC, dI)) (ci := 7) (v := .ref (a 3)) (C := RX7) (T := TX7) (N := 6) hx hb hts hinX7 hown hK hP 1 rfl rfl 3 (by decide) (nw38 hNW) (fun _ h9 => h9) rfl dX6_weighSide_30 ?_
          refine lv_iload_n hx hb dX6_weighSide_33 rfl (lv_at hl 3 rfl) ?_
          obtain ⟨hi, hf⟩ := gd_s hf
          refine va_iald (D := (dC, dI)) (f := (M 3)) hx hb hK hP 3 0 rfl rfl (inb_in hi) dX6_weighSide_34 ?_
          refine lv_bipush (v := (20 : Int32)) hx hb dX6_weighSide_35 (by decide) ?_
          refine lv_idiv hx hb dX6_weighSide_37 (by decide) ?_
          refine lv_iload_n hx hb dX6_weighSide_38 rfl (lv_at hl 1 rfl) ?_
          refine lv_icmp_ne (tgt := 50) hx hb dX6_weighSide_39 (by decide) (fun c9 => ?_) (fun c9 => ?_)
          · have hf := it_t hf c9
            exact hfX6_weighSide_B50 _ (ih kx56 hkx56) _ hkx56 l1 l2 l3 hf _ (lv_sub hl [0, 1, 2, 3] rfl)
          · have hf := it_n hf c9
            refine lv_iload_n hx hb dX6_weighSide_42 rfl (lv_at hl 2 rfl) ?_
            refine lv_aload_n hx hb dX6_weighSide_43 rfl (lv_at hl 0 rfl) ?_
            refine lv_iload_n hx hb dX6_weighSide_44 rfl (lv_at hl 3 rfl) ?_
            obtain ⟨r45, hc45, hf⟩ := bi_s hf
            have hPc := hP
            refine cRO (W.runV (As := [.int l3]) (rest := [.int l2]) ⟨hx, hb, hml, hown, hts⟩ (c_X6_weighShelf l dC dI cI cZ a M l3 r45 hc45) (cwV 1 hts gX6_weighSide_X6_weighShelf rfl rfl rfl (by decide +kernel) ⟨Nat.le_of_ble_eq_true rfl, Nat.le_of_ble_eq_true rfl⟩) ⟨RO.blind, va_recv hK hP (ci := 6) (q0 := 0) rfl rfl, RO.pre hPc hK hNW⟩ rfl rfl hl.1 rfl (lv_room (Nat.le_of_ble_eq_true rfl)) dX6_weighSide_45 ⟨Nat.le_of_ble_eq_true rfl, Nat.le_of_ble_eq_true rfl⟩) ?_
            refine lv_iadd hx hb dX6_weighSide_48 ?_
            refine lv_istore_n (lv' := [(2, .int (l2 + r45)), (0, .ref (a 0)), (1, .int l1), (3, .int l3)]) hx hb dX6_weighSide_49 rfl hl (by decide) rfl (fun ls hl => ?_)
            exact hfX6_weighSide_B50 _ (ih kx56 hkx56) _ hkx56 l1 (l2 + r45) l3 hf _ (lv_sub hl [1, 2, 0, 3] rfl)
  have hl := lv_entry ([.ref (a 0), .int a1]) (n := 4) (Nat.le_of_ble_eq_true rfl)
  rw [lg_entry_eq]
  generalize (lg_sl ([.ref (a 0), .int a1]) ++ List.replicate (4 - (lg_sl ([.ref (a 0), .int a1])).length) Slot.unset).toArray = ls at hl ⊢
  have hl : lv_has ls 4 [(0, .ref (a 0)), (1, .int a1)] := hl
  unfold fX6_weighSide at hf
  refine lv_iconst (v := (0 : Int32)) hx hb dX6_weighSide_0 (by decide) ?_
  refine lv_istore_n (lv' := [(2, .int (0 : Int32)), (0, .ref (a 0)), (1, .int a1)]) hx hb dX6_weighSide_1 rfl hl (by decide) rfl (fun ls hl => ?_)
  refine lv_iconst (v := (0 : Int32)) hx hb dX6_weighSide_2 (by decide) ?_
  refine lv_istore_n (lv' := [(3, .int (0 : Int32)), (2, .int (0 : Int32)), (0, .ref (a 0)), (1, .int a1)]) hx hb dX6_weighSide_3 rfl hl (by decide) rfl (fun ls hl => ?_)
  refine hfX6_weighSide_L4 5000 _ (fun l2 hf ls hl => ?_) a1 (0 : Int32) (0 : Int32) hf _ (lv_sub hl [2, 3, 1, 0] rfl)
  refine lv_iload_n hx hb dX6_weighSide_56 rfl (lv_at hl 0 rfl) ?_
  exact W.iret (v := l2) hx hb hr (fun t ht hW => ⟨congrArg (fun x => Outcome.returned (some (Value.int x))) (so_e hf), ht⟩) fl0 dX6_weighSide_57
set_option maxHeartbeats 4000000 in
set_option maxRecDepth 100000 in
theorem c_X6_wouldBeTooHeavy (l : Launch) (dC : Nat → ClassId) (dI : Nat → Nat → Nat) (cI cZ : ClassId) (a : Nat → Nat) (M : Mem) (a1 : Int32) (a2 : Int32) (z : Int32) (hf : fX6_wouldBeTooHeavy M a1 a2 = some z) : Met l yX6_wouldBeTooHeavy wsX6_wouldBeTooHeavy ({ frames := 2, cells := 0, slots := 0, locals := 45 } : Room) (va_Pc [.ref (a 0), .int a1, .int a2] (RO (dC, dI) cI cZ (wX6 cI cZ a M))) (k2_QcV (.int z)) 0 0 (fun _ => False) := by
  refine Met.ofW (cc := cX6_wouldBeTooHeavy) (maxL := 5) (ret := (some .boolean)) (by decide) rfl ?_
  intro p e s m args below meth c s₁ B hml hv
  obtain ⟨rfl, hP, hK, hNW⟩ := hv
  have hx := B.exec
  have hb := B.bytes
  have hr := B.returns
  have hts := atoms_spec (ws := wsX6_wouldBeTooHeavy) B.pre
  have hown : s.vm.findClass RX6 = some m.cls := findClass_of_methodNamed B.named
  have hlocks := B.notSynchronized
  have hinX6 : ∀ w ∈ u_ws RX6 TX6 5, w ∈ wsX6_wouldBeTooHeavy := by decide +kernel
  have hw1 := hts (.fieldLink RX6 28 "GlideShelves$State" "goods" "LGlideShelves$Goods;") (by decide +kernel)
  have hinX0 : ∀ w ∈ u_ws RX0 TX0 4, w ∈ wsX6_wouldBeTooHeavy := by decide +kernel
  have hw3 := hts (.fieldLink RX6 12 "GlideShelves$State" "tower" "LGlideShelves$Tower;") (by decide +kernel)
  have hinX7 : ∀ w ∈ u_ws RX7 TX7 6, w ∈ wsX6_wouldBeTooHeavy := by decide +kernel
  have hw5 := hts (.initialized RX7) (by decide +kernel)
  have hw6 := hts (.instanceMethod yX7_countIn) (by decide +kernel)
  have hw7 := hts (.selects RX7 yX7_countIn yX7_countIn) (by decide +kernel)
  have hfX6_wouldBeTooHeavy_L15 : ∀ (n : Nat) (kx52 : Unit → Option (Int32)) (hkx52 : ∀ (_ : Unit), kx52 () = some z → ∀ (ls : Array Slot), lv_has ls 5 [] → W p l e (headSpec wsX6_wouldBeTooHeavy ({ frames := 2, cells := 0, slots := 0, locals := 45 } : Room)).room s m ([.ref (a 0), .int a1, .int a2] : List Value).toArray below meth c s.heap [] 0 0 (MQ below (k2_QcV (.int z)) ([.ref (a 0), .int a1, .int a2] : List Value).toArray s 0 0 (fun _ => False)) (F0 m 52 ls [])) (kx60 : Unit → Option (Int32)) (hkx60 : ∀ (_ : Unit), kx60 () = some z → ∀ (ls : Array Slot), lv_has ls 5 [] → W p l e (headSpec wsX6_wouldBeTooHeavy ({ frames := 2, cells := 0, slots := 0, locals := 45 } : Room)).room s m ([.ref (a 0), .int a1, .int a2] : List Value).toArray below meth c s.heap [] 0 0 (MQ below (k2_QcV (.int z)) ([.ref (a 0), .int a1, .int a2] : List Value).toArray s 0 0 (fun _ => False)) (F0 m 60 ls [])), ∀ (l1 : Int32) (l3 : Int32) (l4 : Int32), fX6_wouldBeTooHeavy_L15 M n kx52 kx60 l1 l3 l4 = some z → ∀ (ls : Array Slot), lv_has ls 5 [(0, .ref (a 0)), (1, .int l1), (3, .int l3), (4, .int l4)] → W p l e (headSpec wsX6_wouldBeTooHeavy ({ frames := 2, cells := 0, slots := 0, locals := 45 } : Room)).room s m ([.ref (a 0), .int a1, .int a2] : List Value).toArray below meth c s.heap [] 0 0 (MQ below (k2_QcV (.int z)) ([.ref (a 0), .int a1, .int a2] : List Value).toArray s 0 0 (fun _ => False)) (F0 m 15 ls []) := by
    intro n
    induction n with
    | zero =>
      intro kx52 hkx52 kx60 hkx60 l1 l3 l4 hf ls hl
      rw [fX6_wouldBeTooHeavy_L15] at hf
      cases hf
    | succ n ih =>
      intro kx52 hkx52 kx60 hkx60 l1 l3 l4 hf ls hl
      rw [fX6_wouldBeTooHeavy_L15] at hf
      refine lv_iload hx hb dX6_wouldBeTooHeavy_15 (lv_at hl 3 rfl) ?_
      refine lv_aload_n hx hb dX6_wouldBeTooHeavy_17 rfl (lv_at hl 0 rfl) ?_
      refine va_get (D := (dC, dI)) (ci := 6) (v := .ref (a 1)) (C := RX6) (T := TX6) (N := 5) hx hb hts hinX6 hown hK hP 0 rfl rfl 0 (by decide) hw3 (fun _ h9 => h9) rfl dX6_wouldBeTooHeavy_18 ?_
      refine va_getN (D := (dC, dI)) (ci := 7) (v := .int (M 1 0)) (C := RX7) (T := TX7) (N := 6) hx hb hts hinX7 hown hK hP 1 rfl rfl 0 (by decide) (nw36 hNW) (fun _ h9 => h9) rfl dX6_wouldBeTooHeavy_21 ?_
      refine lv_icmp_ge (tgt := 60) hx hb dX6_wouldBeTooHeavy_24 (by decide) (fun c9 => ?_) (fun c9 => ?_)
      · have hf := it_t hf c9
        exact hkx60 () hf _ (lv_sub hl [] rfl)
      · have hf := it_f hf c9
        refine lv_aload_n hx hb dX6_wouldBeTooHeavy_27 rfl (lv_at hl 0 rfl) ?_
        refine lv_iload hx hb dX6_wouldBeTooHeavy_28 (lv_at hl 3 rfl) ?_
        obtain ⟨r30, hc30, hf⟩ := bi_s hf
        have hPc := hP
        refine cRO (W.runV (As := [.int l4]) (rest := []) ⟨hx, hb, hml, hown, hts⟩ (c_X6_weighShelf l dC dI cI cZ a M l4 r30 hc30) (cwV 1 hts gX6_wouldBeTooHeavy_X6_weighShelf rfl rfl rfl (by decide +kernel) ⟨Nat.le_of_ble_eq_true rfl, Nat.le_of_ble_eq_true rfl⟩) ⟨RO.blind, va_recv hK hP (ci := 6) (q0 := 0) rfl rfl, RO.pre hPc hK hNW⟩ rfl rfl hl.1 rfl (lv_room (Nat.le_of_ble_eq_true rfl)) dX6_wouldBeTooHeavy_30 ⟨Nat.le_of_ble_eq_true rfl, Nat.le_of_ble_eq_true rfl⟩) ?_
        refine lv_iload_n hx hb dX6_wouldBeTooHeavy_33 rfl (lv_at hl 2 rfl) ?_
        refine lv_aload_n hx hb dX6_wouldBeTooHeavy_34 rfl (lv_at hl 0 rfl) ?_
        refine va_get (D := (dC, dI)) (ci := 6) (v := .ref (a 1)) (C := RX6) (T := TX6) (N := 5) hx hb hts hinX6 hown hK hP 0 rfl rfl 0 (by decide) hw3 (fun _ h9 => h9) rfl dX6_wouldBeTooHeavy_35 ?_
        refine lv_iload hx hb dX6_wouldBeTooHeavy_38 (lv_at hl 3 rfl) ?_
        refine lv_iload_n hx hb dX6_wouldBeTooHeavy_40 rfl (lv_at hl 1 rfl) ?_
        obtain ⟨r41, hc41, hf⟩ := bi_s hf
        have hPc := hP.sub (ws' := (wX7 cI cZ (ofs 1 a) (ofs 1 M))) [1, 2, 3, 4, 5] rfl
        refine cRO (va_Run.run (va_runVN (As := [.int l4, .int l1]) (rest := [.int l3, .int r30]) ⟨hx, hb, hml, hown, hts⟩ (c_X7_countIn l dC dI cI cZ (ofs 1 a) (ofs 1 M) l4 l1 r41 hc41) ⟨va_cnB 2 hts gX6_wouldBeTooHeavy_X7_countIn_n56 rfl rfl rfl (nw109 hNW) hw5 (by decide +kernel) ⟨Nat.le_of_ble_eq_true rfl, Nat.le_of_ble_eq_true rfl⟩, hw6, hw7⟩ ⟨RO.blind, va_recv hK hP (ci := 7) (q0 := 1) rfl rfl, RO.pre hPc hK hNW⟩ rfl rfl hl.1 rfl (lv_room (Nat.le_of_ble_eq_true rfl)) dX6_wouldBeTooHeavy_41 ⟨Nat.le_of_ble_eq_true rfl, Nat.le_of_ble_eq_true rfl⟩)) ?_
        refine lv_imul hx hb dX6_wouldBeTooHeavy_44 ?_
        refine lv_iadd hx hb dX6_wouldBeTooHeavy_45 ?_
        refine lv_sipush (v := (150 : Int32)) hx hb dX6_wouldBeTooHeavy_46 (by decide) ?_
        refine lv_icmp_le (tgt := 54) hx hb dX6_wouldBeTooHeavy_49 (by decide) (fun c9 => ?_) (fun c9 => ?_)
        · have hf := it_t hf c9
          refine lv_iinc (v := (l4 + (1 : Int32))) (lv' := [(4, .int (l4 + (1 : Int32))), (0, .ref (a 0)), (1, .int l1), (3, .int l3)]) hx hb dX6_wouldBeTooHeavy_54 hl (k := 3) rfl rfl (by decide) rfl (fun ls hl => ?_)
          refine lv_goto (tgt := 15) hx hb dX6_wouldBeTooHeavy_57 (by decide) ?_
          exact ih kx52 hkx52 kx60 hkx60 l1 l3 (l4 + (1 : Int32)) hf _ (lv_sub hl [1, 2, 3, 0] rfl)
        · have hf := it_f hf c9
          exact hkx52 () hf _ (lv_sub hl [] rfl)
  have hl := lv_entry ([.ref (a 0), .int a1, .int a2]) (n := 5) (Nat.le_of_ble_eq_true rfl)
  rw [lg_entry_eq]
  generalize (lg_sl ([.ref (a 0), .int a1, .int a2]) ++ List.replicate (5 - (lg_sl ([.ref (a 0), .int a1, .int a2])).length) Slot.unset).toArray = ls at hl ⊢
  have hl : lv_has ls 5 [(0, .ref (a 0)), (1, .int a1), (2, .int a2)] := hl
  unfold fX6_wouldBeTooHeavy at hf
  refine lv_iload_n hx hb dX6_wouldBeTooHeavy_0 rfl (lv_at hl 2 rfl) ?_
  refine lv_aload_n hx hb dX6_wouldBeTooHeavy_1 rfl (lv_at hl 0 rfl) ?_
  refine va_get (D := (dC, dI)) (ci := 6) (v := .ref (a 9)) (C := RX6) (T := TX6) (N := 5) hx hb hts hinX6 hown hK hP 0 rfl rfl 2 (by decide) hw1 (fun _ h9 => h9) rfl dX6_wouldBeTooHeavy_2 ?_
  refine va_getN (D := (dC, dI)) (ci := 0) (v := .ref (a 10)) (C := RX0) (T := TX0) (N := 4) hx hb hts hinX0 hown hK hP 9 rfl rfl 0 (by decide) (nw35 hNW) (fun _ h9 => h9) rfl dX6_wouldBeTooHeavy_5 ?_
  refine lv_iload_n hx hb dX6_wouldBeTooHeavy_8 rfl (lv_at hl 1 rfl) ?_
  obtain ⟨hi, hf⟩ := gd_s hf
  refine va_iald (D := (dC, dI)) (f := (M 10)) hx hb hK hP 10 0 rfl rfl (inb_in hi) dX6_wouldBeTooHeavy_9 ?_
  refine lv_isub hx hb dX6_wouldBeTooHeavy_10 ?_
  refine lv_istore_n (lv' := [(3, .int (a2 - (M 10 a1.toNatClampNeg))), (0, .ref (a 0)), (1, .int a1), (2, .int a2)]) hx hb dX6_wouldBeTooHeavy_11 rfl hl (by decide) rfl (fun ls hl => ?_)
  refine lv_iconst (v := (0 : Int32)) hx hb dX6_wouldBeTooHeavy_12 (by decide) ?_
  refine lv_istore (lv' := [(4, .int (0 : Int32)), (3, .int (a2 - (M 10 a1.toNatClampNeg))), (0, .ref (a 0)), (1, .int a1), (2, .int a2)]) hx hb dX6_wouldBeTooHeavy_13 hl (by decide) rfl (fun ls hl => ?_)
  refine hfX6_wouldBeTooHeavy_L15 5000 _ (fun _ hf ls hl => ?_) _ (fun _ hf ls hl => ?_) a1 (a2 - (M 10 a1.toNatClampNeg)) (0 : Int32) hf _ (lv_sub hl [2, 3, 1, 0] rfl)
  · refine lv_iconst (v := (1 : Int32)) hx hb dX6_wouldBeTooHeavy_52 (by decide) ?_
    obtain ⟨hz, hf⟩ := gd_s hf
    exact W.zret (v := (1 : Int32)) hx hb hr (isb_nar hz) (fun t ht hW => ⟨congrArg (fun x => Outcome.returned (some (Value.int x))) (so_e hf), ht⟩) fl0 dX6_wouldBeTooHeavy_53
  · refine lv_iconst (v := (0 : Int32)) hx hb dX6_wouldBeTooHeavy_60 (by decide) ?_
    obtain ⟨hz, hf⟩ := gd_s hf
    exact W.zret (v := (0 : Int32)) hx hb hr (isb_nar hz) (fun t ht hW => ⟨congrArg (fun x => Outcome.returned (some (Value.int x))) (so_e hf), ht⟩) fl0 dX6_wouldBeTooHeavy_61
set_option maxHeartbeats 4000000 in
set_option maxRecDepth 100000 in
theorem c_X6_findHeaviest (l : Launch) (dC : Nat → ClassId) (dI : Nat → Nat → Nat) (cI cZ : ClassId) (a : Nat → Nat) (M : Mem) (z : Int32) (hf : fX6_findHeaviest M  = some z) : Met l yX6_findHeaviest wsX6_findHeaviest ({ frames := 2, cells := 0, slots := 0, locals := 45 } : Room) (va_Pc [.ref (a 0)] (RO (dC, dI) cI cZ (wX6 cI cZ a M))) (k2_QcV (.int z)) 0 0 (fun _ => False) := by
  refine Met.ofW (cc := cX6_findHeaviest) (maxL := 5) (ret := (some .int)) (by decide) rfl ?_
  intro p e s m args below meth c s₁ B hml hv
  obtain ⟨rfl, hP, hK, hNW⟩ := hv
  have hx := B.exec
  have hb := B.bytes
  have hr := B.returns
  have hts := atoms_spec (ws := wsX6_findHeaviest) B.pre
  have hown : s.vm.findClass RX6 = some m.cls := findClass_of_methodNamed B.named
  have hlocks := B.notSynchronized
  have hinX6 : ∀ w ∈ u_ws RX6 TX6 5, w ∈ wsX6_findHeaviest := by decide +kernel
  have hw1 := hts (.fieldLink RX6 12 "GlideShelves$State" "tower" "LGlideShelves$Tower;") (by decide +kernel)
  have hinX7 : ∀ w ∈ u_ws RX7 TX7 6, w ∈ wsX6_findHeaviest := by decide +kernel
  have hfX6_findHeaviest_B40 : ∀ (kb : Int32 → Int32 → Int32 → Option (Int32)) (hkb : ∀ (l1 : Int32) (l2 : Int32) (l3 : Int32), kb l1 l2 l3 = some z → ∀ (ls : Array Slot), lv_has ls 5 [(0, .ref (a 0)), (1, .int l1), (2, .int l2), (3, .int l3)] → W p l e (headSpec wsX6_findHeaviest ({ frames := 2, cells := 0, slots := 0, locals := 45 } : Room)).room s m ([.ref (a 0)] : List Value).toArray below meth c s.heap [] 0 0 (MQ below (k2_QcV (.int z)) ([.ref (a 0)] : List Value).toArray s 0 0 (fun _ => False)) (F0 m 6 ls [])) (kx46 : Int32 → Option (Int32)) (hkx46 : ∀ (l1 : Int32), kx46 l1 = some z → ∀ (ls : Array Slot), lv_has ls 5 [(1, .int l1)] → W p l e (headSpec wsX6_findHeaviest ({ frames := 2, cells := 0, slots := 0, locals := 45 } : Room)).room s m ([.ref (a 0)] : List Value).toArray below meth c s.heap [] 0 0 (MQ below (k2_QcV (.int z)) ([.ref (a 0)] : List Value).toArray s 0 0 (fun _ => False)) (F0 m 46 ls [])), ∀ (l1 : Int32) (l2 : Int32) (l3 : Int32), fX6_findHeaviest_B40 M kb kx46 l1 l2 l3 = some z → ∀ (ls : Array Slot), lv_has ls 5 [(0, .ref (a 0)), (1, .int l1), (2, .int l2), (3, .int l3)] → W p l e (headSpec wsX6_findHeaviest ({ frames := 2, cells := 0, slots := 0, locals := 45 } : Room)).room s m ([.ref (a 0)] : List Value).toArray below meth c s.heap [] 0 0 (MQ below (k2_QcV (.int z)) ([.ref (a 0)] : List Value).toArray s 0 0 (fun _ => False)) (F0 m 40 ls []) := by
    intro kb hkb kx46 hkx46 l1 l2 l3 hf ls hl
    unfold fX6_findHeaviest_B40 at hf
    refine lv_iinc (v := (l3 + (1 : Int32))) (lv' := [(3, .int (l3 + (1 : Int32))), (0, .ref (a 0)), (1, .int l1), (2, .int l2)]) hx hb dX6_findHeaviest_40 hl (k := 3) rfl rfl (by decide) rfl (fun ls hl => ?_)
    refine lv_goto (tgt := 6) hx hb dX6_findHeaviest_43 (by decide) ?_
    exact hkb l1 l2 (l3 + (1 : Int32)) hf _ (lv_sub hl [1, 2, 3, 0] rfl)
  have hfX6_findHeaviest_B35 : ∀ (kb : Int32 → Int32 → Int32 → Option (Int32)) (hkb : ∀ (l1 : Int32) (l2 : Int32) (l3 : Int32), kb l1 l2 l3 = some z → ∀ (ls : Array Slot), lv_has ls 5 [(0, .ref (a 0)), (1, .int l1), (2, .int l2), (3, .int l3)] → W p l e (headSpec wsX6_findHeaviest ({ frames := 2, cells := 0, slots := 0, locals := 45 } : Room)).room s m ([.ref (a 0)] : List Value).toArray below meth c s.heap [] 0 0 (MQ below (k2_QcV (.int z)) ([.ref (a 0)] : List Value).toArray s 0 0 (fun _ => False)) (F0 m 6 ls [])) (kx46 : Int32 → Option (Int32)) (hkx46 : ∀ (l1 : Int32), kx46 l1 = some z → ∀ (ls : Array Slot), lv_has ls 5 [(1, .int l1)] → W p l e (headSpec wsX6_findHeaviest ({ frames := 2, cells := 0, slots := 0, locals := 45 } : Room)).room s m ([.ref (a 0)] : List Value).toArray below meth c s.heap [] 0 0 (MQ below (k2_QcV (.int z)) ([.ref (a 0)] : List Value).toArray s 0 0 (fun _ => False)) (F0 m 46 ls [])), ∀ (l3 : Int32) (l4 : Int32), fX6_findHeaviest_B35 M kb kx46 l3 l4 = some z → ∀ (ls : Array Slot), lv_has ls 5 [(0, .ref (a 0)), (3, .int l3), (4, .int l4)] → W p l e (headSpec wsX6_findHeaviest ({ frames := 2, cells := 0, slots := 0, locals := 45 } : Room)).room s m ([.ref (a 0)] : List Value).toArray below meth c s.heap [] 0 0 (MQ below (k2_QcV (.int z)) ([.ref (a 0)] : List Value).toArray s 0 0 (fun _ => False)) (F0 m 35 ls []) := by
    intro kb hkb kx46 hkx46 l3 l4 hf ls hl
    unfold fX6_findHeaviest_B35 at hf
    refine lv_iload_n hx hb dX6_findHeaviest_35 rfl (lv_at hl 1 rfl) ?_
    refine lv_istore_n (lv' := [(1, .int l3), (0, .ref (a 0)), (3, .int l3), (4, .int l4)]) hx hb dX6_findHeaviest_36 rfl hl (by decide) rfl (fun ls hl => ?_)
    refine lv_iload hx hb dX6_findHeaviest_37 (lv_at hl 3 rfl) ?_
    refine lv_istore_n (lv' := [(2, .int l4), (1, .int l3), (0, .ref (a 0)), (3, .int l3), (4, .int l4)]) hx hb dX6_findHeaviest_39 rfl hl (by decide) rfl (fun ls hl => ?_)
    exact hfX6_findHeaviest_B40 _ hkb _ hkx46 l3 l4 l3 hf _ (lv_sub hl [2, 1, 0, 3] rfl)
  have hfX6_findHeaviest_L6 : ∀ (n : Nat) (kx46 : Int32 → Option (Int32)) (hkx46 : ∀ (l1 : Int32), kx46 l1 = some z → ∀ (ls : Array Slot), lv_has ls 5 [(1, .int l1)] → W p l e (headSpec wsX6_findHeaviest ({ frames := 2, cells := 0, slots := 0, locals := 45 } : Room)).room s m ([.ref (a 0)] : List Value).toArray below meth c s.heap [] 0 0 (MQ below (k2_QcV (.int z)) ([.ref (a 0)] : List Value).toArray s 0 0 (fun _ => False)) (F0 m 46 ls [])), ∀ (l1 : Int32) (l2 : Int32) (l3 : Int32), fX6_findHeaviest_L6 M n kx46 l1 l2 l3 = some z → ∀ (ls : Array Slot), lv_has ls 5 [(0, .ref (a 0)), (1, .int l1), (2, .int l2), (3, .int l3)] → W p l e (headSpec wsX6_findHeaviest ({ frames := 2, cells := 0, slots := 0, locals := 45 } : Room)).room s m ([.ref (a 0)] : List Value).toArray below meth c s.heap [] 0 0 (MQ below (k2_QcV (.int z)) ([.ref (a 0)] : List Value).toArray s 0 0 (fun _ => False)) (F0 m 6 ls []) := by
    intro n
    induction n with
    | zero =>
      intro kx46 hkx46 l1 l2 l3 hf ls hl
      rw [fX6_findHeaviest_L6] at hf
      cases hf
    | succ n ih =>
      intro kx46 hkx46 l1 l2 l3 hf ls hl
      rw [fX6_findHeaviest_L6] at hf
      refine lv_iload_n hx hb dX6_findHeaviest_6 rfl (lv_at hl 3 rfl) ?_
      refine lv_aload_n hx hb dX6_findHeaviest_7 rfl (lv_at hl 0 rfl) ?_
      refine va_get (D := (dC, dI)) (ci := 6) (v := .ref (a 1)) (C := RX6) (T := TX6) (N := 5) hx hb hts hinX6 hown hK hP 0 rfl rfl 0 (by decide) hw1 (fun _ h9 => h9) rfl dX6_findHeaviest_8 ?_
      refine va_getN (D := (dC, dI)) (ci := 7) (v := .int (M 1 0)) (C := RX7) (T := TX7) (N := 6) hx hb hts hinX7 hown hK hP 1 rfl rfl 0 (by decide) (nw36 hNW) (fun _ h9 => h9) rfl dX6_findHeaviest_11 ?_
      refine lv_icmp_ge (tgt := 46) hx hb dX6_findHeaviest_14 (by decide) (fun c9 => ?_) (fun c9 => ?_)
      · have hf := it_t hf c9
        exact hkx46 l1 hf _ (lv_sub hl [1] rfl)
      · have hf := it_f hf c9
        refine lv_aload_n hx hb dX6_findHeaviest_17 rfl (lv_at hl 0 rfl) ?_
        refine lv_iload_n hx hb dX6_findHeaviest_18 rfl (lv_at hl 3 rfl) ?_
        obtain ⟨r19, hc19, hf⟩ := bi_s hf
        have hPc := hP
        refine cRO (W.runV (As := [.int l3]) (rest := []) ⟨hx, hb, hml, hown, hts⟩ (c_X6_weighShelf l dC dI cI cZ a M l3 r19 hc19) (cwV 1 hts gX6_findHeaviest_X6_weighShelf rfl rfl rfl (by decide +kernel) ⟨Nat.le_of_ble_eq_true rfl, Nat.le_of_ble_eq_true rfl⟩) ⟨RO.blind, va_recv hK hP (ci := 6) (q0 := 0) rfl rfl, RO.pre hPc hK hNW⟩ rfl rfl hl.1 rfl (lv_room (Nat.le_of_ble_eq_true rfl)) dX6_findHeaviest_19 ⟨Nat.le_of_ble_eq_true rfl, Nat.le_of_ble_eq_true rfl⟩) ?_
        refine lv_istore (lv' := [(4, .int r19), (0, .ref (a 0)), (1, .int l1), (2, .int l2), (3, .int l3)]) hx hb dX6_findHeaviest_22 hl (by decide) rfl (fun ls hl => ?_)
        refine lv_iload_n hx hb dX6_findHeaviest_24 rfl (lv_at hl 2 rfl) ?_
        refine lv_iconst (v := (-1 : Int32)) hx hb dX6_findHeaviest_25 (by decide) ?_
        refine lv_icmp_eq (tgt := 35) hx hb dX6_findHeaviest_26 (by decide) (fun c9 => ?_) (fun c9 => ?_)
        · have hf := it_t hf c9
          exact hfX6_findHeaviest_B35 _ (ih kx46 hkx46) _ hkx46 l3 r19 hf _ (lv_sub hl [1, 4, 0] rfl)
        · have hf := it_f hf c9
          refine lv_iload hx hb dX6_findHeaviest_29 (lv_at hl 0 rfl) ?_
          refine lv_iload_n hx hb dX6_findHeaviest_31 rfl (lv_at hl 3 rfl) ?_
          refine lv_icmp_le (tgt := 40) hx hb dX6_findHeaviest_32 (by decide) (fun c9 => ?_) (fun c9 => ?_)
          · have hf := it_t hf c9
            exact hfX6_findHeaviest_B40 _ (ih kx46 hkx46) _ hkx46 l1 l2 l3 hf _ (lv_sub hl [1, 2, 3, 4] rfl)
          · have hf := it_f hf c9
            exact hfX6_findHeaviest_B35 _ (ih kx46 hkx46) _ hkx46 l3 r19 hf _ (lv_sub hl [1, 4, 0] rfl)
  have hl := lv_entry ([.ref (a 0)]) (n := 5) (Nat.le_of_ble_eq_true rfl)
  rw [lg_entry_eq]
  generalize (lg_sl ([.ref (a 0)]) ++ List.replicate (5 - (lg_sl ([.ref (a 0)])).length) Slot.unset).toArray = ls at hl ⊢
  have hl : lv_has ls 5 [(0, .ref (a 0))] := hl
  unfold fX6_findHeaviest at hf
  refine lv_iconst (v := (-1 : Int32)) hx hb dX6_findHeaviest_0 (by decide) ?_
  refine lv_istore_n (lv' := [(1, .int (-1 : Int32)), (0, .ref (a 0))]) hx hb dX6_findHeaviest_1 rfl hl (by decide) rfl (fun ls hl => ?_)
  refine lv_iconst (v := (0 : Int32)) hx hb dX6_findHeaviest_2 (by decide) ?_
  refine lv_istore_n (lv' := [(2, .int (0 : Int32)), (1, .int (-1 : Int32)), (0, .ref (a 0))]) hx hb dX6_findHeaviest_3 rfl hl (by decide) rfl (fun ls hl => ?_)
  refine lv_iconst (v := (0 : Int32)) hx hb dX6_findHeaviest_4 (by decide) ?_
  refine lv_istore_n (lv' := [(3, .int (0 : Int32)), (2, .int (0 : Int32)), (1, .int (-1 : Int32)), (0, .ref (a 0))]) hx hb dX6_findHeaviest_5 rfl hl (by decide) rfl (fun ls hl => ?_)
  refine hfX6_findHeaviest_L6 5000 _ (fun l1 hf ls hl => ?_) (-1 : Int32) (0 : Int32) (0 : Int32) hf _ (lv_sub hl [3, 2, 1, 0] rfl)
  refine lv_iload_n hx hb dX6_findHeaviest_46 rfl (lv_at hl 0 rfl) ?_
  exact W.iret (v := l1) hx hb hr (fun t ht hW => ⟨congrArg (fun x => Outcome.returned (some (Value.int x))) (so_e hf), ht⟩) fl0 dX6_findHeaviest_47
set_option maxHeartbeats 4000000 in
set_option maxRecDepth 100000 in
theorem c_X6_missing (l : Launch) (dC : Nat → ClassId) (dI : Nat → Nat → Nat) (cI cZ : ClassId) (a : Nat → Nat) (M : Mem) (a1 : Int32) (z : Int32) (hf : fX6_missing M a1 = some z) : Met l yX6_missing wsX6_missing ({ frames := 2, cells := 0, slots := 0, locals := 45 } : Room) (va_Pc [.ref (a 0), .int a1] (RO (dC, dI) cI cZ (wX6 cI cZ a M))) (k2_QcV (.int z)) 0 0 (fun _ => False) := by
  refine Met.ofW (cc := cX6_missing) (maxL := 2) (ret := (some .int)) (by decide) rfl ?_
  intro p e s m args below meth c s₁ B hml hv
  obtain ⟨rfl, hP, hK, hNW⟩ := hv
  have hx := B.exec
  have hb := B.bytes
  have hr := B.returns
  have hts := atoms_spec (ws := wsX6_missing) B.pre
  have hown : s.vm.findClass RX6 = some m.cls := findClass_of_methodNamed B.named
  have hlocks := B.notSynchronized
  have hinX6 : ∀ w ∈ u_ws RX6 TX6 5, w ∈ wsX6_missing := by decide +kernel
  have hw1 := hts (.fieldLink RX6 28 "GlideShelves$State" "goods" "LGlideShelves$Goods;") (by decide +kernel)
  have hinX0 : ∀ w ∈ u_ws RX0 TX0 4, w ∈ wsX6_missing := by decide +kernel
  have hw3 := hts (.fieldLink RX6 12 "GlideShelves$State" "tower" "LGlideShelves$Tower;") (by decide +kernel)
  have hw4 := hts (.initialized RX7) (by decide +kernel)
  have hw5 := hts (.instanceMethod yX7_stockOf) (by decide +kernel)
  have hw6 := hts (.selects RX7 yX7_stockOf yX7_stockOf) (by decide +kernel)
  have hw7 := hts (.methodLink RX6 83 Lib.Math.max.name) (by decide +kernel)
  have hw8 := hts (.static Lib.Math.max.name) (by decide +kernel)
  have hw9 := hts (.initialized "java/lang/Math") (by decide +kernel)
  have hw10 := hts (.code Lib.Math.max.name Lib.Math.max.code 2 (some .int)) (by decide +kernel)
  have hl := lv_entry ([.ref (a 0), .int a1]) (n := 2) (Nat.le_of_ble_eq_true rfl)
  rw [lg_entry_eq]
  generalize (lg_sl ([.ref (a 0), .int a1]) ++ List.replicate (2 - (lg_sl ([.ref (a 0), .int a1])).length) Slot.unset).toArray = ls at hl ⊢
  have hl : lv_has ls 2 [(0, .ref (a 0)), (1, .int a1)] := hl
  unfold fX6_missing at hf
  refine lv_iconst (v := (0 : Int32)) hx hb dX6_missing_0 (by decide) ?_
  refine lv_aload_n hx hb dX6_missing_1 rfl (lv_at hl 0 rfl) ?_
  refine va_get (D := (dC, dI)) (ci := 6) (v := .ref (a 9)) (C := RX6) (T := TX6) (N := 5) hx hb hts hinX6 hown hK hP 0 rfl rfl 2 (by decide) hw1 (fun _ h9 => h9) rfl dX6_missing_2 ?_
  refine va_getN (D := (dC, dI)) (ci := 0) (v := .ref (a 11)) (C := RX0) (T := TX0) (N := 4) hx hb hts hinX0 hown hK hP 9 rfl rfl 1 (by decide) (nw39 hNW) (fun _ h9 => h9) rfl dX6_missing_5 ?_
  refine lv_iload_n hx hb dX6_missing_8 rfl (lv_at hl 1 rfl) ?_
  obtain ⟨hi, hf⟩ := gd_s hf
  refine va_iald (D := (dC, dI)) (f := (M 11)) hx hb hK hP 11 0 rfl rfl (inb_in hi) dX6_missing_9 ?_
  refine lv_aload_n hx hb dX6_missing_10 rfl (lv_at hl 0 rfl) ?_
  refine va_get (D := (dC, dI)) (ci := 6) (v := .ref (a 1)) (C := RX6) (T := TX6) (N := 5) hx hb hts hinX6 hown hK hP 0 rfl rfl 0 (by decide) hw3 (fun _ h9 => h9) rfl dX6_missing_11 ?_
  refine lv_iload_n hx hb dX6_missing_14 rfl (lv_at hl 1 rfl) ?_
  obtain ⟨r15, hc15, hf⟩ := bi_s hf
  have hPc := hP.sub (ws' := (wX7 cI cZ (ofs 1 a) (ofs 1 M))) [1, 2, 3, 4, 5] rfl
  refine cRO (va_Run.run (va_runVN (As := [.int a1]) (rest := [.int (M 11 a1.toNatClampNeg), .int (0 : Int32)]) ⟨hx, hb, hml, hown, hts⟩ (c_X7_stockOf l dC dI cI cZ (ofs 1 a) (ofs 1 M) a1 r15 hc15) ⟨va_cnB 1 hts gX6_missing_X7_stockOf_n80 rfl rfl rfl (nw110 hNW) hw4 (by decide +kernel) ⟨Nat.le_of_ble_eq_true rfl, Nat.le_of_ble_eq_true rfl⟩, hw5, hw6⟩ ⟨RO.blind, va_recv hK hP (ci := 7) (q0 := 1) rfl rfl, RO.pre hPc hK hNW⟩ rfl rfl hl.1 rfl (lv_room (Nat.le_of_ble_eq_true rfl)) dX6_missing_15 ⟨Nat.le_of_ble_eq_true rfl, Nat.le_of_ble_eq_true rfl⟩)) ?_
  refine lv_isub hx hb dX6_missing_18 ?_
  refine va_mmax hx hb (hml.trans hl.1.symm) hown hw7 hw8 hw9 hw10 (Nat.le_of_ble_eq_true rfl) (Nat.le_of_ble_eq_true rfl) (Nat.le_of_ble_eq_true rfl) (Nat.le_of_ble_eq_true rfl) dX6_missing_19 ?_
  exact W.iret (v := (if (0 : Int32) < ((M 11 a1.toNatClampNeg) - r15) then ((M 11 a1.toNatClampNeg) - r15) else (0 : Int32))) hx hb hr (fun t ht hW => ⟨congrArg (fun x => Outcome.returned (some (Value.int x))) (so_e hf), ht⟩) fl0 dX6_missing_22
set_option maxHeartbeats 4000000 in
set_option maxRecDepth 100000 in
theorem c_X6_ticksToBring (l : Launch) (dC : Nat → ClassId) (dI : Nat → Nat → Nat) (cI cZ : ClassId) (a : Nat → Nat) (M : Mem) (a1 : Int32) (z : Int32) (hf : fX6_ticksToBring M a1 = some z) : Met l yX6_ticksToBring wsX6_ticksToBring ({ frames := 1, cells := 0, slots := 0, locals := 40 } : Room) (va_Pc [.ref (a 0), .int a1] (RO (dC, dI) cI cZ (wX6 cI cZ a M))) (k2_QcV (.int z)) 0 0 (fun _ => False) := by
  refine Met.ofW (cc := cX6_ticksToBring) (maxL := 3) (ret := (some .int)) (by decide) rfl ?_
  intro p e s m args below meth c s₁ B hml hv
  obtain ⟨rfl, hP, hK, hNW⟩ := hv
  have hx := B.exec
  have hb := B.bytes
  have hr := B.returns
  have hts := atoms_spec (ws := wsX6_ticksToBring) B.pre
  have hown : s.vm.findClass RX6 = some m.cls := findClass_of_methodNamed B.named
  have hlocks := B.notSynchronized
  have hinX6 : ∀ w ∈ u_ws RX6 TX6 5, w ∈ wsX6_ticksToBring := by decide +kernel
  have hw1 := hts (.fieldLink RX6 12 "GlideShelves$State" "tower" "LGlideShelves$Tower;") (by decide +kernel)
  have hinX7 : ∀ w ∈ u_ws RX7 TX7 6, w ∈ wsX6_ticksToBring := by decide +kernel
  have hw3 := hts (.fieldLink RX6 21 "GlideShelves$State" "lift" "LGlideShelves$Lift;") (by decide +kernel)
  have hinX2 : ∀ w ∈ u_ws RX2 TX2 7, w ∈ wsX6_ticksToBring := by decide +kernel
  have hw5 := hts (.methodLink RX6 91 Lib.Math.abs.name) (by decide +kernel)
  have hw6 := hts (.static Lib.Math.abs.name) (by decide +kernel)
  have hw7 := hts (.initialized "java/lang/Math") (by decide +kernel)
  have hw8 := hts (.code Lib.Math.abs.name Lib.Math.abs.code 1 (some .int)) (by decide +kernel)
  have hw9 := hts (.initialized RX7) (by decide +kernel)
  have hw10 := hts (.static yX7_wayOf) (by decide +kernel)
  have hl := lv_entry ([.ref (a 0), .int a1]) (n := 3) (Nat.le_of_ble_eq_true rfl)
  rw [lg_entry_eq]
  generalize (lg_sl ([.ref (a 0), .int a1]) ++ List.replicate (3 - (lg_sl ([.ref (a 0), .int a1])).length) Slot.unset).toArray = ls at hl ⊢
  have hl : lv_has ls 3 [(0, .ref (a 0)), (1, .int a1)] := hl
  unfold fX6_ticksToBring at hf
  refine lv_aload_n hx hb dX6_ticksToBring_0 rfl (lv_at hl 0 rfl) ?_
  refine va_get (D := (dC, dI)) (ci := 6) (v := .ref (a 1)) (C := RX6) (T := TX6) (N := 5) hx hb hts hinX6 hown hK hP 0 rfl rfl 0 (by decide) hw1 (fun _ h9 => h9) rfl dX6_ticksToBring_1 ?_
  refine va_getN (D := (dC, dI)) (ci := 7) (v := .ref (a 3)) (C := RX7) (T := TX7) (N := 6) hx hb hts hinX7 hown hK hP 1 rfl rfl 3 (by decide) (nw38 hNW) (fun _ h9 => h9) rfl dX6_ticksToBring_4 ?_
  refine lv_iload_n hx hb dX6_ticksToBring_7 rfl (lv_at hl 1 rfl) ?_
  obtain ⟨hi, hf⟩ := gd_s hf
  refine va_iald (D := (dC, dI)) (f := (M 3)) hx hb hK hP 3 0 rfl rfl (inb_in hi) dX6_ticksToBring_8 ?_
  refine lv_istore_n (lv' := [(2, .int (M 3 a1.toNatClampNeg)), (0, .ref (a 0)), (1, .int a1)]) hx hb dX6_ticksToBring_9 rfl hl (by decide) rfl (fun ls hl => ?_)
  refine lv_aload_n hx hb dX6_ticksToBring_10 rfl (lv_at hl 1 rfl) ?_
  refine va_get (D := (dC, dI)) (ci := 6) (v := .ref (a 6)) (C := RX6) (T := TX6) (N := 5) hx hb hts hinX6 hown hK hP 0 rfl rfl 1 (by decide) hw3 (fun _ h9 => h9) rfl dX6_ticksToBring_11 ?_
  refine va_getN (D := (dC, dI)) (ci := 2) (v := .int (M 6 0)) (C := RX2) (T := TX2) (N := 7) hx hb hts hinX2 hown hK hP 6 rfl rfl 0 (by decide) (nw40 hNW) (fun _ h9 => h9) rfl dX6_ticksToBring_14 ?_
  refine lv_iload_n hx hb dX6_ticksToBring_17 rfl (lv_at hl 0 rfl) ?_
  refine lv_bipush (v := (20 : Int32)) hx hb dX6_ticksToBring_18 (by decide) ?_
  refine lv_irem hx hb dX6_ticksToBring_20 (by decide) ?_
  refine lv_isub hx hb dX6_ticksToBring_21 ?_
  refine va_mabs hx hb (hml.trans hl.1.symm) hown hw5 hw6 hw7 hw8 (Nat.le_of_ble_eq_true rfl) (Nat.le_of_ble_eq_true rfl) (Nat.le_of_ble_eq_true rfl) (Nat.le_of_ble_eq_true rfl) dX6_ticksToBring_22 ?_
  refine lv_iload_n hx hb dX6_ticksToBring_25 rfl (lv_at hl 0 rfl) ?_
  obtain ⟨r26, hc26, hf⟩ := bi_s hf
  refine cRO (va_Run.run (va_runSN (As := [.int (M 3 a1.toNatClampNeg)]) (rest := [.int (if 0 ≤ ((M 6 0) - ((M 3 a1.toNatClampNeg) - (M 3 a1.toNatClampNeg) / (20 : Int32) * (20 : Int32))) then ((M 6 0) - ((M 3 a1.toNatClampNeg) - (M 3 a1.toNatClampNeg) / (20 : Int32) * (20 : Int32))) else 0 - ((M 6 0) - ((M 3 a1.toNatClampNeg) - (M 3 a1.toNatClampNeg) / (20 : Int32) * (20 : Int32))))]) ⟨hx, hb, hml, hown, hts⟩ (c_X7_wayOf l (M 3 a1.toNatClampNeg) r26 hc26) ⟨va_cnB 1 hts gX6_ticksToBring_X7_wayOf_n94 rfl rfl rfl (nw111 hNW) hw9 (by decide +kernel) ⟨Nat.le_of_ble_eq_true rfl, Nat.le_of_ble_eq_true rfl⟩, hw10, trivial⟩ ⟨tr_blind, tr_pre⟩ rfl rfl hl.1 rfl (lv_room (Nat.le_of_ble_eq_true rfl)) dX6_ticksToBring_26 ⟨Nat.le_of_ble_eq_true rfl, Nat.le_of_ble_eq_true rfl⟩)) ?_
  refine lv_iadd hx hb dX6_ticksToBring_29 ?_
  exact W.iret (v := ((if 0 ≤ ((M 6 0) - ((M 3 a1.toNatClampNeg) - (M 3 a1.toNatClampNeg) / (20 : Int32) * (20 : Int32))) then ((M 6 0) - ((M 3 a1.toNatClampNeg) - (M 3 a1.toNatClampNeg) / (20 : Int32) * (20 : Int32))) else 0 - ((M 6 0) - ((M 3 a1.toNatClampNeg) - (M 3 a1.toNatClampNeg) / (20 : Int32) * (20 : Int32)))) + r26)) hx hb hr (fun t ht hW => ⟨congrArg (fun x => Outcome.returned (some (Value.int x))) (so_e hf), ht⟩) fl0 dX6_ticksToBring_30
set_option maxHeartbeats 4000000 in
set_option maxRecDepth 100000 in
theorem c_X6_bring (l : Launch) (dC : Nat → ClassId) (dI : Nat → Nat → Nat) (cI cZ : ClassId) (a : Nat → Nat) (sz : Nat) (M : Mem) (a1 : Int32) (z : Int32 × Mem) (hf : fX6_bring M a1 = some z) : Met l yX6_bring wsX6_bring ({ frames := 2, cells := 0, slots := 0, locals := 64 } : Room) (va_Pc [.ref (a 0), .int a1] (WR (dC, dI) cI cZ (wX6 cI cZ a M) sz)) (va_Qi (S := Unit) (fun r _ => r = z.1) (fun _ t => WE (dC, dI) cI cZ (wX6 cI cZ a (sr (sr (sr (sr (sr M 1 (z.2 1)) 4 (z.2 4)) 6 (z.2 6)) 7 (z.2 7)) 8 (z.2 8))) (va_A (wX6 cI cZ a M) sz) t) (va_A (wX6 cI cZ a M) sz)) 0 0 (va_A (wX6 cI cZ a M) sz) := by
  refine Met.ofW (cc := cX6_bring) (maxL := 3) (ret := (some .int)) (by decide) rfl ?_
  intro p e s m args below meth c s₁ B hml hv
  obtain ⟨rfl, hsz, hP, hK, hD0, hNW⟩ := hv
  have hx := B.exec
  have hb := B.bytes
  have hr := B.returns
  have hts := atoms_spec (ws := wsX6_bring) B.pre
  have hown : s.vm.findClass RX6 = some m.cls := findClass_of_methodNamed B.named
  have hlocks := B.notSynchronized
  have hinX6 : ∀ w ∈ u_ws RX6 TX6 5, w ∈ wsX6_bring := by decide +kernel
  have hw1 := hts (.fieldLink RX6 21 "GlideShelves$State" "lift" "LGlideShelves$Lift;") (by decide +kernel)
  have hw2 := hts (.initialized RX2) (by decide +kernel)
  have hw3 := hts (.instanceMethod yX2_go) (by decide +kernel)
  have hw4 := hts (.selects RX2 yX2_go yX2_go) (by decide +kernel)
  have hw5 := hts (.fieldLink RX6 12 "GlideShelves$State" "tower" "LGlideShelves$Tower;") (by decide +kernel)
  have hinX7 : ∀ w ∈ u_ws RX7 TX7 6, w ∈ wsX6_bring := by decide +kernel
  subst hsz
  have hD := hD0.self (sz := s.heap.size)
  generalize hAe : va_A (wX6 cI cZ a M) s.heap.size = A at hD ⊢
  have hA : ∀ q : Nat, s.heap.size ≤ q → A q := fun q h => by rw [← hAe]; exact Or.inr h
  have hS : va_S A s.heap s.heap [] := va_S.rf
  have hl := lv_entry ([.ref (a 0), .int a1]) (n := 3) (Nat.le_of_ble_eq_true rfl)
  rw [lg_entry_eq]
  generalize (lg_sl ([.ref (a 0), .int a1]) ++ List.replicate (3 - (lg_sl ([.ref (a 0), .int a1])).length) Slot.unset).toArray = ls at hl ⊢
  have hl : lv_has ls 3 [(0, .ref (a 0)), (1, .int a1)] := hl
  unfold fX6_bring at hf
  suffices hgo : ∀ (H : Heap) (locs : List Loc), va_P (dC, dI) vwCl (wX6 cI cZ a M) H → va_D A (wX6 cI cZ a M) → va_S A s.heap H locs → W p l e (headSpec wsX6_bring ({ frames := 2, cells := 0, slots := 0, locals := 64 } : Room)).room s m ([.ref (a 0), .int a1] : List Value).toArray below meth c H locs 0 0 (MQ below (va_Qi (S := Unit) (fun r _ => r = z.1) (fun _ t => WE (dC, dI) cI cZ (wX6 cI cZ a (sr (sr (sr (sr (sr M 1 (z.2 1)) 4 (z.2 4)) 6 (z.2 6)) 7 (z.2 7)) 8 (z.2 8))) A t) A) ([.ref (a 0), .int a1] : List Value).toArray s 0 0 A) (F0 m 0 ls []) from hgo _ _ hP hD hS
  intro H locs hP hD hS
  refine lv_aload_n hx hb dX6_bring_0 rfl (lv_at hl 0 rfl) ?_
  refine lv_iload_n hx hb dX6_bring_1 rfl (lv_at hl 1 rfl) ?_
  obtain ⟨r2, hc2, hf⟩ := bi_s hf
  have hPc := hP
  refine cRO (W.runV (As := [.int a1]) (rest := []) ⟨hx, hb, hml, hown, hts⟩ (c_X6_ticksToBring l dC dI cI cZ a M a1 r2 hc2) (cwV 1 hts gX6_bring_X6_ticksToBring rfl rfl rfl (by decide +kernel) ⟨Nat.le_of_ble_eq_true rfl, Nat.le_of_ble_eq_true rfl⟩) ⟨RO.blind, va_recv hK hP (ci := 6) (q0 := 0) rfl rfl, RO.pre hPc hK hNW⟩ rfl rfl hl.1 rfl (lv_room (Nat.le_of_ble_eq_true rfl)) dX6_bring_2 ⟨Nat.le_of_ble_eq_true rfl, Nat.le_of_ble_eq_true rfl⟩) ?_
  refine lv_istore_n (lv' := [(2, .int r2), (0, .ref (a 0)), (1, .int a1)]) hx hb dX6_bring_5 rfl hl (by decide) rfl (fun ls hl => ?_)
  refine lv_aload_n hx hb dX6_bring_6 rfl (lv_at hl 1 rfl) ?_
  refine va_get (D := (dC, dI)) (ci := 6) (v := .ref (a 6)) (C := RX6) (T := TX6) (N := 5) hx hb hts hinX6 hown hK hP 0 rfl rfl 1 (by decide) hw1 (fun _ h9 => h9) rfl dX6_bring_7 ?_
  refine lv_iload_n hx hb dX6_bring_10 rfl (lv_at hl 0 rfl) ?_
  refine lv_iconst (v := (1 : Int32)) hx hb dX6_bring_11 (by decide) ?_
  refine lv_iconst (v := (0 : Int32)) hx hb dX6_bring_12 (by decide) ?_
  obtain ⟨r13, hc13, hf⟩ := bi_s hf
  have hPc := hP.sub (ws' := (wX2 cI cZ (ofs 6 a) (ofs 6 M))) [6, 7, 8] rfl
  have hDc := hD.sub (ws' := (wX2 cI cZ (ofs 6 a) (ofs 6 M))) [6, 7, 8] (by decide) rfl
  have hFc := va_free (wc := (wX2 cI cZ (ofs 6 a) (ofs 6 M))) hD hS hA [6, 7, 8] rfl
  refine va_callv (va_runVN (As := [.int r2, .int (1 : Int32), .int (0 : Int32)]) (rest := []) ⟨hx, hb, hml, hown, hts⟩ (c_X2_go l dC dI cI cZ (ofs 6 a) H.size (ofs 6 M) r2 (1 : Int32) (0 : Int32) r13 hc13) ⟨va_cnB 3 hts gX6_bring_X2_go_n100 rfl rfl rfl (nw96 hNW) hw2 (by decide +kernel) ⟨Nat.le_of_ble_eq_true rfl, Nat.le_of_ble_eq_true rfl⟩, hw3, hw4⟩ ⟨WR.blind, va_recv hK hP (ci := 2) (q0 := 6) rfl rfl, WR.pre hPc hK hDc hNW⟩ rfl rfl hl.1 rfl (lv_room (Nat.le_of_ble_eq_true rfl)) dX6_bring_13 ⟨Nat.le_of_ble_eq_true rfl, Nat.le_of_ble_eq_true rfl⟩) hS (fun q _ h => hFc q h) hFc (fun u t H1 locs ht hvm hw hB hz1 hk1 hS => ?_)
  obtain ⟨hP1, hD1⟩ := hB
  rw [ht] at hP1
  obtain ⟨hP, hD⟩ := va_join (wr := [(a 0, .inr (6, [.ref (a 1), .ref (a 6), .ref (a 9), .ref (a 14), .int (M 0 4)])), (a 1, .inr (7, [.int (M 1 0), .int (M 1 1), .ref (a 2), .ref (a 3), .ref (a 4), .ref (a 5)])), (a 2, .inl (cI, 12, .inl (M 2))), (a 3, .inl (cI, 12, .inl (M 3))), (a 4, .inl (cI, 12, .inl (M 4))), (a 5, .inl (cI, 120, .inl (M 5))), (a 9, .inr (0, [.ref (a 10), .ref (a 11), .ref (a 12), .ref (a 13)])), (a 10, .inl (cI, 10, .inl (M 10))), (a 11, .inl (cI, 10, .inl (M 11))), (a 12, .inl (cI, 10, .inl (M 12))), (a 13, .inl (cI, 10, .inl (M 13))), (a 14, .inr (3, [.int (M 14 0), .ref (a 15)])), (a 15, .inl (cI, 80, .inl (M 15)))]) (w1 := (wX2 cI cZ (ofs 6 a) (sr (sr (sr (ofs 6 M) 0 (r13 0)) 1 (r13 1)) 2 (r13 2)))) hP hD [6, 7, 8] [0, 1, 2, 3, 4, 5, 9, 10, 11, 12, 13, 14, 15] rfl rfl (by decide) (by decide) hk1 hFc hP1 hD1
  have hP := hP.sub (ws' := (wX6 cI cZ a (sr (sr (sr M 6 (r13 0)) 7 (r13 1)) 8 (r13 2)))) [0, 1, 2, 3, 4, 5, 13, 14, 15, 6, 7, 8, 9, 10, 11, 12] rfl
  have hD := hD.sub (ws' := (wX6 cI cZ a (sr (sr (sr M 6 (r13 0)) 7 (r13 1)) 8 (r13 2)))) [0, 1, 2, 3, 4, 5, 13, 14, 15, 6, 7, 8, 9, 10, 11, 12] (by decide) rfl
  generalize H1 = H at hP hS ⊢
  refine lv_aload_n hx hb dX6_bring_16 rfl (lv_at hl 1 rfl) ?_
  refine va_get (D := (dC, dI)) (ci := 6) (v := .ref (a 1)) (C := RX6) (T := TX6) (N := 5) hx hb hts hinX6 hown hK hP 0 rfl rfl 0 (by decide) hw5 (fun _ h9 => h9) rfl dX6_bring_17 ?_
  refine lv_iload_n hx hb dX6_bring_20 rfl (lv_at hl 2 rfl) ?_
  refine va_putN (D := (dC, dI)) (ci := 7) (v := .int a1) (ty := .int) (C := RX7) (T := TX7) (N := 6) hx hb hts hinX7 tyX7 tyX7_ok nmX7 hown hK hP hD hS 1 rfl rfl 1 (by decide) (nw37 hNW) (fun _ h9 => h9) rfl (by decide +kernel) rfl rfl (Nat.le_of_ble_eq_true rfl) dX6_bring_21 (fun H locs hP hD hS => ?_)
  have hP : va_P (dC, dI) vwCl (wX6 cI cZ a (sr (sr (sr (sr M 1 (upd (M 1) 1 a1)) 6 (r13 0)) 7 (r13 1)) 8 (r13 2))) H := hP
  have hD : va_D A (wX6 cI cZ a (sr (sr (sr (sr M 1 (upd (M 1) 1 a1)) 6 (r13 0)) 7 (r13 1)) 8 (r13 2))) := hD
  refine lv_aload_n hx hb dX6_bring_24 rfl (lv_at hl 1 rfl) ?_
  refine va_get (D := (dC, dI)) (ci := 6) (v := .ref (a 1)) (C := RX6) (T := TX6) (N := 5) hx hb hts hinX6 hown hK hP 0 rfl rfl 0 (by decide) hw5 (fun _ h9 => h9) rfl dX6_bring_25 ?_
  refine va_getN (D := (dC, dI)) (ci := 7) (v := .ref (a 4)) (C := RX7) (T := TX7) (N := 6) hx hb hts hinX7 hown hK hP 1 rfl rfl 4 (by decide) (nw28 hNW) (fun _ h9 => h9) rfl dX6_bring_28 ?_
  refine lv_iload_n hx hb dX6_bring_31 rfl (lv_at hl 2 rfl) ?_
  refine lv_dup2_11 hx hb dX6_bring_32 rfl rfl ?_
  obtain ⟨hi, hf⟩ := gd_s hf
  refine va_iald (D := (dC, dI)) (f := (M 4)) hx hb hK hP 4 0 rfl rfl (inb_in hi) dX6_bring_33 ?_
  refine lv_iconst (v := (1 : Int32)) hx hb dX6_bring_34 (by decide) ?_
  refine lv_iadd hx hb dX6_bring_35 ?_
  obtain ⟨hi, hf⟩ := gd_s hf
  refine va_iast (D := (dC, dI)) (f := (M 4)) hx hb hK hP hD hS 4 0 rfl rfl (inb_in hi) dX6_bring_36 (fun H locs hP hD hS => ?_)
  have hP : va_P (dC, dI) vwCl (wX6 cI cZ a (sr (sr (sr (sr (sr M 1 (upd (M 1) 1 a1)) 4 (upd (M 4) a1.toNatClampNeg ((M 4 a1.toNatClampNeg) + (1 : Int32)))) 6 (r13 0)) 7 (r13 1)) 8 (r13 2))) H := hP
  have hD : va_D A (wX6 cI cZ a (sr (sr (sr (sr (sr M 1 (upd (M 1) 1 a1)) 4 (upd (M 4) a1.toNatClampNeg ((M 4 a1.toNatClampNeg) + (1 : Int32)))) 6 (r13 0)) 7 (r13 1)) 8 (r13 2))) := hD
  refine lv_iload_n hx hb dX6_bring_37 rfl (lv_at hl 0 rfl) ?_
  have e9 := so_e hf
  subst e9
  exact W.iret (v := r2) hx hb hr (fun t ht hW => ⟨⟨r2, (), rfl, rfl, WE.mk hP hD ht⟩, hS.F ht⟩) hS.2.2 dX6_bring_38
set_option maxHeartbeats 4000000 in
set_option maxRecDepth 100000 in
theorem c_X6_putAt (l : Launch) (dC : Nat → ClassId) (dI : Nat → Nat → Nat) (cI cZ : ClassId) (a : Nat → Nat) (sz : Nat) (M : Mem) (a1 : Int32) (z : Int32 × Mem) (hf : fX6_putAt M a1 = some z) : Met l yX6_putAt wsX6_putAt ({ frames := 2, cells := 0, slots := 0, locals := 64 } : Room) (va_Pc [.ref (a 0), .int a1] (WR (dC, dI) cI cZ (wX6 cI cZ a M) sz)) (va_Qi (S := Unit) (fun r _ => r = z.1) (fun _ t => WE (dC, dI) cI cZ (wX6 cI cZ a (sr (sr (sr (sr (sr M 1 (z.2 1)) 3 (z.2 3)) 6 (z.2 6)) 7 (z.2 7)) 8 (z.2 8))) (va_A (wX6 cI cZ a M) sz) t) (va_A (wX6 cI cZ a M) sz)) 0 0 (va_A (wX6 cI cZ a M) sz) := by
  refine Met.ofW (cc := cX6_putAt) (maxL := 4) (ret := (some .int)) (by decide) rfl ?_
  intro p e s m args below meth c s₁ B hml hv
  obtain ⟨rfl, hsz, hP, hK, hD0, hNW⟩ := hv
  have hx := B.exec
  have hb := B.bytes
  have hr := B.returns
  have hts := atoms_spec (ws := wsX6_putAt) B.pre
  have hown : s.vm.findClass RX6 = some m.cls := findClass_of_methodNamed B.named
  have hlocks := B.notSynchronized
  have hinX6 : ∀ w ∈ u_ws RX6 TX6 5, w ∈ wsX6_putAt := by decide +kernel
  have hw1 := hts (.fieldLink RX6 12 "GlideShelves$State" "tower" "LGlideShelves$Tower;") (by decide +kernel)
  have hinX7 : ∀ w ∈ u_ws RX7 TX7 6, w ∈ wsX6_putAt := by decide +kernel
  have hw3 := hts (.initialized RX7) (by decide +kernel)
  have hw4 := hts (.static yX7_wayOf) (by decide +kernel)
  have hw5 := hts (.fieldLink RX6 21 "GlideShelves$State" "lift" "LGlideShelves$Lift;") (by decide +kernel)
  have hw6 := hts (.initialized RX2) (by decide +kernel)
  have hw7 := hts (.instanceMethod yX2_go) (by decide +kernel)
  have hw8 := hts (.selects RX2 yX2_go yX2_go) (by decide +kernel)
  subst hsz
  have hD := hD0.self (sz := s.heap.size)
  generalize hAe : va_A (wX6 cI cZ a M) s.heap.size = A at hD ⊢
  have hA : ∀ q : Nat, s.heap.size ≤ q → A q := fun q h => by rw [← hAe]; exact Or.inr h
  have hS : va_S A s.heap s.heap [] := va_S.rf
  have hfX6_putAt_B23 : ∀ (N : Mem), fX6_putAt_B23 M  N = some z → ∀ (ls : Array Slot), lv_has ls 4 [] → ∀ (H : Heap) (locs : List Loc), va_P (dC, dI) vwCl (wX6 cI cZ a (sr (sr (sr (sr (sr M 1 (N 1)) 3 (N 3)) 6 (N 6)) 7 (N 7)) 8 (N 8))) H → va_D A (wX6 cI cZ a (sr (sr (sr (sr (sr M 1 (N 1)) 3 (N 3)) 6 (N 6)) 7 (N 7)) 8 (N 8))) → va_S A s.heap H locs → W p l e (headSpec wsX6_putAt ({ frames := 2, cells := 0, slots := 0, locals := 64 } : Room)).room s m ([.ref (a 0), .int a1] : List Value).toArray below meth c H locs 0 0 (MQ below (va_Qi (S := Unit) (fun r _ => r = z.1) (fun _ t => WE (dC, dI) cI cZ (wX6 cI cZ a (sr (sr (sr (sr (sr M 1 (z.2 1)) 3 (z.2 3)) 6 (z.2 6)) 7 (z.2 7)) 8 (z.2 8))) A t) A) ([.ref (a 0), .int a1] : List Value).toArray s 0 0 A) (F0 m 23 ls []) := by
    intro  N hf ls hl H locs hP hD hS
    unfold fX6_putAt_B23 at hf
    refine lv_iconst (v := (0 : Int32)) hx hb dX6_putAt_23 (by decide) ?_
    have e9 := so_e hf
    subst e9
    exact W.iret (v := (0 : Int32)) hx hb hr (fun t ht hW => ⟨⟨(0 : Int32), (), rfl, rfl, WE.mk hP hD ht⟩, hS.F ht⟩) hS.2.2 dX6_putAt_24
  have hl := lv_entry ([.ref (a 0), .int a1]) (n := 4) (Nat.le_of_ble_eq_true rfl)
  rw [lg_entry_eq]
  generalize (lg_sl ([.ref (a 0), .int a1]) ++ List.replicate (4 - (lg_sl ([.ref (a 0), .int a1])).length) Slot.unset).toArray = ls at hl ⊢
  have hl : lv_has ls 4 [(0, .ref (a 0)), (1, .int a1)] := hl
  unfold fX6_putAt at hf
  suffices hgo : ∀ (H : Heap) (locs : List Loc), va_P (dC, dI) vwCl (wX6 cI cZ a M) H → va_D A (wX6 cI cZ a M) → va_S A s.heap H locs → W p l e (headSpec wsX6_putAt ({ frames := 2, cells := 0, slots := 0, locals := 64 } : Room)).room s m ([.ref (a 0), .int a1] : List Value).toArray below meth c H locs 0 0 (MQ below (va_Qi (S := Unit) (fun r _ => r = z.1) (fun _ t => WE (dC, dI) cI cZ (wX6 cI cZ a (sr (sr (sr (sr (sr M 1 (z.2 1)) 3 (z.2 3)) 6 (z.2 6)) 7 (z.2 7)) 8 (z.2 8))) A t) A) ([.ref (a 0), .int a1] : List Value).toArray s 0 0 A) (F0 m 0 ls []) from hgo _ _ hP hD hS
  intro H locs hP hD hS
  refine lv_aload_n hx hb dX6_putAt_0 rfl (lv_at hl 0 rfl) ?_
  refine va_get (D := (dC, dI)) (ci := 6) (v := .ref (a 1)) (C := RX6) (T := TX6) (N := 5) hx hb hts hinX6 hown hK hP 0 rfl rfl 0 (by decide) hw1 (fun _ h9 => h9) rfl dX6_putAt_1 ?_
  refine va_getN (D := (dC, dI)) (ci := 7) (v := .int (M 1 1)) (C := RX7) (T := TX7) (N := 6) hx hb hts hinX7 hown hK hP 1 rfl rfl 1 (by decide) (nw37 hNW) (fun _ h9 => h9) rfl dX6_putAt_4 ?_
  refine lv_istore_n (lv' := [(2, .int (M 1 1)), (0, .ref (a 0)), (1, .int a1)]) hx hb dX6_putAt_7 rfl hl (by decide) rfl (fun ls hl => ?_)
  refine lv_iload_n hx hb dX6_putAt_8 rfl (lv_at hl 0 rfl) ?_
  refine lv_if_lt (tgt := 23) hx hb dX6_putAt_9 (by decide) (fun c9 => ?_) (fun c9 => ?_)
  · have hf := it_t hf c9
    exact hfX6_putAt_B23  M hf _ (lv_sub hl [] rfl) _ _ hP hD hS
  · have hf := it_f hf c9
    refine lv_iload_n hx hb dX6_putAt_12 rfl (lv_at hl 0 rfl) ?_
    refine lv_aload_n hx hb dX6_putAt_13 rfl (lv_at hl 1 rfl) ?_
    refine va_get (D := (dC, dI)) (ci := 6) (v := .ref (a 1)) (C := RX6) (T := TX6) (N := 5) hx hb hts hinX6 hown hK hP 0 rfl rfl 0 (by decide) hw1 (fun _ h9 => h9) rfl dX6_putAt_14 ?_
    refine va_getN (D := (dC, dI)) (ci := 7) (v := .int (M 1 0)) (C := RX7) (T := TX7) (N := 6) hx hb hts hinX7 hown hK hP 1 rfl rfl 0 (by decide) (nw36 hNW) (fun _ h9 => h9) rfl dX6_putAt_17 ?_
    refine lv_icmp_lt (tgt := 25) hx hb dX6_putAt_20 (by decide) (fun c9 => ?_) (fun c9 => ?_)
    · have hf := it_t hf c9
      refine lv_iload_n hx hb dX6_putAt_25 rfl (lv_at hl 2 rfl) ?_
      obtain ⟨r26, hc26, hf⟩ := bi_s hf
      refine cRO (va_Run.run (va_runSN (As := [.int a1]) (rest := []) ⟨hx, hb, hml, hown, hts⟩ (c_X7_wayOf l a1 r26 hc26) ⟨va_cnB 1 hts gX6_putAt_X7_wayOf_n94 rfl rfl rfl (nw111 hNW) hw3 (by decide +kernel) ⟨Nat.le_of_ble_eq_true rfl, Nat.le_of_ble_eq_true rfl⟩, hw4, trivial⟩ ⟨tr_blind, tr_pre⟩ rfl rfl hl.1 rfl (lv_room (Nat.le_of_ble_eq_true rfl)) dX6_putAt_26 ⟨Nat.le_of_ble_eq_true rfl, Nat.le_of_ble_eq_true rfl⟩)) ?_
      refine lv_istore_n (lv' := [(3, .int r26), (2, .int (M 1 1)), (0, .ref (a 0)), (1, .int a1)]) hx hb dX6_putAt_29 rfl hl (by decide) rfl (fun ls hl => ?_)
      refine lv_aload_n hx hb dX6_putAt_30 rfl (lv_at hl 2 rfl) ?_
      refine va_get (D := (dC, dI)) (ci := 6) (v := .ref (a 6)) (C := RX6) (T := TX6) (N := 5) hx hb hts hinX6 hown hK hP 0 rfl rfl 1 (by decide) hw5 (fun _ h9 => h9) rfl dX6_putAt_31 ?_
      refine lv_iload_n hx hb dX6_putAt_34 rfl (lv_at hl 0 rfl) ?_
      refine lv_iconst (v := (0 : Int32)) hx hb dX6_putAt_35 (by decide) ?_
      refine lv_iload_n hx hb dX6_putAt_36 rfl (lv_at hl 3 rfl) ?_
      refine lv_bipush (v := (20 : Int32)) hx hb dX6_putAt_37 (by decide) ?_
      refine lv_irem hx hb dX6_putAt_39 (by decide) ?_
      obtain ⟨r40, hc40, hf⟩ := bi_s hf
      have hPc := hP.sub (ws' := (wX2 cI cZ (ofs 6 a) (ofs 6 M))) [6, 7, 8] rfl
      have hDc := hD.sub (ws' := (wX2 cI cZ (ofs 6 a) (ofs 6 M))) [6, 7, 8] (by decide) rfl
      have hFc := va_free (wc := (wX2 cI cZ (ofs 6 a) (ofs 6 M))) hD hS hA [6, 7, 8] rfl
      refine va_callv (va_runVN (As := [.int r26, .int (0 : Int32), .int (a1 - a1 / (20 : Int32) * (20 : Int32))]) (rest := []) ⟨hx, hb, hml, hown, hts⟩ (c_X2_go l dC dI cI cZ (ofs 6 a) H.size (ofs 6 M) r26 (0 : Int32) (a1 - a1 / (20 : Int32) * (20 : Int32)) r40 hc40) ⟨va_cnB 3 hts gX6_putAt_X2_go_n100 rfl rfl rfl (nw96 hNW) hw6 (by decide +kernel) ⟨Nat.le_of_ble_eq_true rfl, Nat.le_of_ble_eq_true rfl⟩, hw7, hw8⟩ ⟨WR.blind, va_recv hK hP (ci := 2) (q0 := 6) rfl rfl, WR.pre hPc hK hDc hNW⟩ rfl rfl hl.1 rfl (lv_room (Nat.le_of_ble_eq_true rfl)) dX6_putAt_40 ⟨Nat.le_of_ble_eq_true rfl, Nat.le_of_ble_eq_true rfl⟩) hS (fun q _ h => hFc q h) hFc (fun u t H1 locs ht hvm hw hB hz1 hk1 hS => ?_)
      obtain ⟨hP1, hD1⟩ := hB
      rw [ht] at hP1
      obtain ⟨hP, hD⟩ := va_join (wr := [(a 0, .inr (6, [.ref (a 1), .ref (a 6), .ref (a 9), .ref (a 14), .int (M 0 4)])), (a 1, .inr (7, [.int (M 1 0), .int (M 1 1), .ref (a 2), .ref (a 3), .ref (a 4), .ref (a 5)])), (a 2, .inl (cI, 12, .inl (M 2))), (a 3, .inl (cI, 12, .inl (M 3))), (a 4, .inl (cI, 12, .inl (M 4))), (a 5, .inl (cI, 120, .inl (M 5))), (a 9, .inr (0, [.ref (a 10), .ref (a 11), .ref (a 12), .ref (a 13)])), (a 10, .inl (cI, 10, .inl (M 10))), (a 11, .inl (cI, 10, .inl (M 11))), (a 12, .inl (cI, 10, .inl (M 12))), (a 13, .inl (cI, 10, .inl (M 13))), (a 14, .inr (3, [.int (M 14 0), .ref (a 15)])), (a 15, .inl (cI, 80, .inl (M 15)))]) (w1 := (wX2 cI cZ (ofs 6 a) (sr (sr (sr (ofs 6 M) 0 (r40 0)) 1 (r40 1)) 2 (r40 2)))) hP hD [6, 7, 8] [0, 1, 2, 3, 4, 5, 9, 10, 11, 12, 13, 14, 15] rfl rfl (by decide) (by decide) hk1 hFc hP1 hD1
      have hP := hP.sub (ws' := (wX6 cI cZ a (sr (sr (sr M 6 (r40 0)) 7 (r40 1)) 8 (r40 2)))) [0, 1, 2, 3, 4, 5, 13, 14, 15, 6, 7, 8, 9, 10, 11, 12] rfl
      have hD := hD.sub (ws' := (wX6 cI cZ a (sr (sr (sr M 6 (r40 0)) 7 (r40 1)) 8 (r40 2)))) [0, 1, 2, 3, 4, 5, 13, 14, 15, 6, 7, 8, 9, 10, 11, 12] (by decide) rfl
      generalize H1 = H at hP hS ⊢
      refine lv_aload_n hx hb dX6_putAt_43 rfl (lv_at hl 2 rfl) ?_
      refine va_get (D := (dC, dI)) (ci := 6) (v := .ref (a 1)) (C := RX6) (T := TX6) (N := 5) hx hb hts hinX6 hown hK hP 0 rfl rfl 0 (by decide) hw1 (fun _ h9 => h9) rfl dX6_putAt_44 ?_
      refine va_getN (D := (dC, dI)) (ci := 7) (v := .ref (a 3)) (C := RX7) (T := TX7) (N := 6) hx hb hts hinX7 hown hK hP 1 rfl rfl 3 (by decide) (nw38 hNW) (fun _ h9 => h9) rfl dX6_putAt_47 ?_
      refine lv_iload_n hx hb dX6_putAt_50 rfl (lv_at hl 1 rfl) ?_
      refine lv_iload_n hx hb dX6_putAt_51 rfl (lv_at hl 3 rfl) ?_
      obtain ⟨hi, hf⟩ := gd_s hf
      refine va_iast (D := (dC, dI)) (f := (M 3)) hx hb hK hP hD hS 3 0 rfl rfl (inb_in hi) dX6_putAt_52 (fun H locs hP hD hS => ?_)
      have hP : va_P (dC, dI) vwCl (wX6 cI cZ a (sr (sr (sr (sr M 3 (upd (M 3) (M 1 1).toNatClampNeg a1)) 6 (r40 0)) 7 (r40 1)) 8 (r40 2))) H := hP
      have hD : va_D A (wX6 cI cZ a (sr (sr (sr (sr M 3 (upd (M 3) (M 1 1).toNatClampNeg a1)) 6 (r40 0)) 7 (r40 1)) 8 (r40 2))) := hD
      refine lv_aload_n hx hb dX6_putAt_53 rfl (lv_at hl 2 rfl) ?_
      refine va_get (D := (dC, dI)) (ci := 6) (v := .ref (a 1)) (C := RX6) (T := TX6) (N := 5) hx hb hts hinX6 hown hK hP 0 rfl rfl 0 (by decide) hw1 (fun _ h9 => h9) rfl dX6_putAt_54 ?_
      refine lv_iconst (v := (-1 : Int32)) hx hb dX6_putAt_57 (by decide) ?_
      refine va_putN (D := (dC, dI)) (ci := 7) (v := .int (-1 : Int32)) (ty := .int) (C := RX7) (T := TX7) (N := 6) hx hb hts hinX7 tyX7 tyX7_ok nmX7 hown hK hP hD hS 1 rfl rfl 1 (by decide) (nw37 hNW) (fun _ h9 => h9) rfl (by decide +kernel) rfl rfl (Nat.le_of_ble_eq_true rfl) dX6_putAt_58 (fun H locs hP hD hS => ?_)
      have hP : va_P (dC, dI) vwCl (wX6 cI cZ a (sr (sr (sr (sr (sr M 1 (upd (M 1) 1 (-1 : Int32))) 3 (upd (M 3) (M 1 1).toNatClampNeg a1)) 6 (r40 0)) 7 (r40 1)) 8 (r40 2))) H := hP
      have hD : va_D A (wX6 cI cZ a (sr (sr (sr (sr (sr M 1 (upd (M 1) 1 (-1 : Int32))) 3 (upd (M 3) (M 1 1).toNatClampNeg a1)) 6 (r40 0)) 7 (r40 1)) 8 (r40 2))) := hD
      refine lv_iload_n hx hb dX6_putAt_61 rfl (lv_at hl 0 rfl) ?_
      have e9 := so_e hf
      subst e9
      exact W.iret (v := r26) hx hb hr (fun t ht hW => ⟨⟨r26, (), rfl, rfl, WE.mk hP hD ht⟩, hS.F ht⟩) hS.2.2 dX6_putAt_62
    · have hf := it_f hf c9
      exact hfX6_putAt_B23  M hf _ (lv_sub hl [] rfl) _ _ hP hD hS
set_option maxHeartbeats 4000000 in
set_option maxRecDepth 100000 in
theorem c_X6_putBack (l : Launch) (dC : Nat → ClassId) (dI : Nat → Nat → Nat) (cI cZ : ClassId) (a : Nat → Nat) (sz : Nat) (M : Mem) (z : Int32 × Mem) (hf : fX6_putBack M  = some z) : Met l yX6_putBack wsX6_putBack ({ frames := 3, cells := 0, slots := 0, locals := 87 } : Room) (va_Pc [.ref (a 0)] (WR (dC, dI) cI cZ (wX6 cI cZ a M) sz)) (va_Qi (S := Unit) (fun r _ => r = z.1) (fun _ t => WE (dC, dI) cI cZ (wX6 cI cZ a (sr (sr (sr (sr (sr M 1 (z.2 1)) 3 (z.2 3)) 6 (z.2 6)) 7 (z.2 7)) 8 (z.2 8))) (va_A (wX6 cI cZ a M) sz) t) (va_A (wX6 cI cZ a M) sz)) 0 0 (va_A (wX6 cI cZ a M) sz) := by
  refine Met.ofW (cc := cX6_putBack) (maxL := 3) (ret := (some .int)) (by decide) rfl ?_
  intro p e s m args below meth c s₁ B hml hv
  obtain ⟨rfl, hsz, hP, hK, hD0, hNW⟩ := hv
  have hx := B.exec
  have hb := B.bytes
  have hr := B.returns
  have hts := atoms_spec (ws := wsX6_putBack) B.pre
  have hown : s.vm.findClass RX6 = some m.cls := findClass_of_methodNamed B.named
  have hlocks := B.notSynchronized
  have hinX6 : ∀ w ∈ u_ws RX6 TX6 5, w ∈ wsX6_putBack := by decide +kernel
  have hw1 := hts (.fieldLink RX6 12 "GlideShelves$State" "tower" "LGlideShelves$Tower;") (by decide +kernel)
  have hinX7 : ∀ w ∈ u_ws RX7 TX7 6, w ∈ wsX6_putBack := by decide +kernel
  have hw3 := hts (.fieldLink RX6 21 "GlideShelves$State" "lift" "LGlideShelves$Lift;") (by decide +kernel)
  have hinX2 : ∀ w ∈ u_ws RX2 TX2 7, w ∈ wsX6_putBack := by decide +kernel
  have hw5 := hts (.initialized RX7) (by decide +kernel)
  have hw6 := hts (.instanceMethod yX7_firstFree) (by decide +kernel)
  have hw7 := hts (.selects RX7 yX7_firstFree yX7_firstFree) (by decide +kernel)
  subst hsz
  have hD := hD0.self (sz := s.heap.size)
  generalize hAe : va_A (wX6 cI cZ a M) s.heap.size = A at hD ⊢
  have hA : ∀ q : Nat, s.heap.size ≤ q → A q := fun q h => by rw [← hAe]; exact Or.inr h
  have hS : va_S A s.heap s.heap [] := va_S.rf
  have hfX6_putBack_B23 : ∀ (N : Mem), fX6_putBack_B23 M  N = some z → ∀ (ls : Array Slot), lv_has ls 3 [] → ∀ (H : Heap) (locs : List Loc), va_P (dC, dI) vwCl (wX6 cI cZ a (sr (sr (sr (sr (sr M 1 (N 1)) 3 (N 3)) 6 (N 6)) 7 (N 7)) 8 (N 8))) H → va_D A (wX6 cI cZ a (sr (sr (sr (sr (sr M 1 (N 1)) 3 (N 3)) 6 (N 6)) 7 (N 7)) 8 (N 8))) → va_S A s.heap H locs → W p l e (headSpec wsX6_putBack ({ frames := 3, cells := 0, slots := 0, locals := 87 } : Room)).room s m ([.ref (a 0)] : List Value).toArray below meth c H locs 0 0 (MQ below (va_Qi (S := Unit) (fun r _ => r = z.1) (fun _ t => WE (dC, dI) cI cZ (wX6 cI cZ a (sr (sr (sr (sr (sr M 1 (z.2 1)) 3 (z.2 3)) 6 (z.2 6)) 7 (z.2 7)) 8 (z.2 8))) A t) A) ([.ref (a 0)] : List Value).toArray s 0 0 A) (F0 m 23 ls []) := by
    intro  N hf ls hl H locs hP hD hS
    unfold fX6_putBack_B23 at hf
    refine lv_iconst (v := (0 : Int32)) hx hb dX6_putBack_23 (by decide) ?_
    have e9 := so_e hf
    subst e9
    exact W.iret (v := (0 : Int32)) hx hb hr (fun t ht hW => ⟨⟨(0 : Int32), (), rfl, rfl, WE.mk hP hD ht⟩, hS.F ht⟩) hS.2.2 dX6_putBack_24
  have hfX6_putBack_B75 : ∀ (N : Mem) (s1 : Int32), fX6_putBack_B75 M  N s1 = some z → ∀ (ls : Array Slot), lv_has ls 3 [] → ∀ (H : Heap) (locs : List Loc), va_P (dC, dI) vwCl (wX6 cI cZ a (sr (sr (sr (sr (sr M 1 (N 1)) 3 (N 3)) 6 (N 6)) 7 (N 7)) 8 (N 8))) H → va_D A (wX6 cI cZ a (sr (sr (sr (sr (sr M 1 (N 1)) 3 (N 3)) 6 (N 6)) 7 (N 7)) 8 (N 8))) → va_S A s.heap H locs → W p l e (headSpec wsX6_putBack ({ frames := 3, cells := 0, slots := 0, locals := 87 } : Room)).room s m ([.ref (a 0)] : List Value).toArray below meth c H locs 0 0 (MQ below (va_Qi (S := Unit) (fun r _ => r = z.1) (fun _ t => WE (dC, dI) cI cZ (wX6 cI cZ a (sr (sr (sr (sr (sr M 1 (z.2 1)) 3 (z.2 3)) 6 (z.2 6)) 7 (z.2 7)) 8 (z.2 8))) A t) A) ([.ref (a 0)] : List Value).toArray s 0 0 A) (F0 m 75 ls [.int s1, .ref (a 0)]) := by
    intro  N s1 hf ls hl H locs hP hD hS
    unfold fX6_putBack_B75 at hf
    obtain ⟨r75, hc75, hf⟩ := bi_s hf
    have hPc := hP
    have hDc := hD
    have hFc := va_free (wc := (wX6 cI cZ a (sr (sr (sr (sr (sr M 1 (N 1)) 3 (N 3)) 6 (N 6)) 7 (N 7)) 8 (N 8)))) hD hS hA [0, 1, 2, 3, 4, 5, 6, 7, 8, 9, 10, 11, 12, 13, 14, 15] rfl
    refine va_calli (va_runV (As := [.int s1]) (rest := []) ⟨hx, hb, hml, hown, hts⟩ (c_X6_putAt l dC dI cI cZ a H.size (sr (sr (sr (sr (sr M 1 (N 1)) 3 (N 3)) 6 (N 6)) 7 (N 7)) 8 (N 8)) s1 r75 hc75) (cwV 1 hts gX6_putBack_X6_putAt rfl rfl rfl (by decide +kernel) ⟨Nat.le_of_ble_eq_true rfl, Nat.le_of_ble_eq_true rfl⟩) ⟨WR.blind, va_recv hK hP (ci := 6) (q0 := 0) rfl rfl, WR.pre hPc hK hDc hNW⟩ rfl rfl hl.1 rfl (lv_room (Nat.le_of_ble_eq_true rfl)) dX6_putBack_75 ⟨Nat.le_of_ble_eq_true rfl, Nat.le_of_ble_eq_true rfl⟩) hS (fun q _ h => hFc q h) hFc (fun rv u t H1 locs ht hvm hw hB hz1 hk1 hS => ?_)
    obtain ⟨hP1, hD1⟩ := hB
    rw [ht] at hP1
    subst hw
    have hP := hP1
    have hD := hD1.weaken (fun k q _ h => hFc q.1 h)
    have hP : va_P (dC, dI) vwCl (wX6 cI cZ a (sr (sr (sr (sr (sr M 1 (r75.2 1)) 3 (r75.2 3)) 6 (r75.2 6)) 7 (r75.2 7)) 8 (r75.2 8))) H1 := hP
    have hD : va_D A (wX6 cI cZ a (sr (sr (sr (sr (sr M 1 (r75.2 1)) 3 (r75.2 3)) 6 (r75.2 6)) 7 (r75.2 7)) 8 (r75.2 8))) := hD
    generalize H1 = H at hP hS ⊢
    have e9 := so_e hf
    subst e9
    exact W.iret (v := r75.1) hx hb hr (fun t ht hW => ⟨⟨r75.1, (), rfl, rfl, WE.mk hP hD ht⟩, hS.F ht⟩) hS.2.2 dX6_putBack_78
  have hfX6_putBack_B55 : ∀ (N : Mem) (l1 : Int32) (s0 : Int32), fX6_putBack_B55 M  N l1 s0 = some z → ∀ (ls : Array Slot), lv_has ls 3 [(0, .ref (a 0)), (1, .int l1)] → ∀ (H : Heap) (locs : List Loc), va_P (dC, dI) vwCl (wX6 cI cZ a (sr (sr (sr (sr (sr M 1 (N 1)) 3 (N 3)) 6 (N 6)) 7 (N 7)) 8 (N 8))) H → va_D A (wX6 cI cZ a (sr (sr (sr (sr (sr M 1 (N 1)) 3 (N 3)) 6 (N 6)) 7 (N 7)) 8 (N 8))) → va_S A s.heap H locs → W p l e (headSpec wsX6_putBack ({ frames := 3, cells := 0, slots := 0, locals := 87 } : Room)).room s m ([.ref (a 0)] : List Value).toArray below meth c H locs 0 0 (MQ below (va_Qi (S := Unit) (fun r _ => r = z.1) (fun _ t => WE (dC, dI) cI cZ (wX6 cI cZ a (sr (sr (sr (sr (sr M 1 (z.2 1)) 3 (z.2 3)) 6 (z.2 6)) 7 (z.2 7)) 8 (z.2 8))) A t) A) ([.ref (a 0)] : List Value).toArray s 0 0 A) (F0 m 55 ls [.int s0]) := by
    intro  N l1 s0 hf ls hl H locs hP hD hS
    unfold fX6_putBack_B55 at hf
    refine lv_istore_n (lv' := [(2, .int s0), (0, .ref (a 0)), (1, .int l1)]) hx hb dX6_putBack_55 rfl hl (by decide) rfl (fun ls hl => ?_)
    refine lv_aload_n hx hb dX6_putBack_56 rfl (lv_at hl 1 rfl) ?_
    refine lv_iload_n hx hb dX6_putBack_57 rfl (lv_at hl 0 rfl) ?_
    refine lv_iconst (v := (-1 : Int32)) hx hb dX6_putBack_58 (by decide) ?_
    refine lv_icmp_ne (tgt := 74) hx hb dX6_putBack_59 (by decide) (fun c9 => ?_) (fun c9 => ?_)
    · have hf := it_t hf c9
      refine lv_iload_n hx hb dX6_putBack_74 rfl (lv_at hl 0 rfl) ?_
      exact hfX6_putBack_B75  (sr (sr (sr (sr (sr M 1 (N 1)) 3 (N 3)) 6 (N 6)) 7 (N 7)) 8 (N 8)) s0 hf _ (lv_sub hl [] rfl) _ _ hP hD hS
    · have hf := it_n hf c9
      refine lv_aload_n hx hb dX6_putBack_62 rfl (lv_at hl 1 rfl) ?_
      refine va_get (D := (dC, dI)) (ci := 6) (v := .ref (a 1)) (C := RX6) (T := TX6) (N := 5) hx hb hts hinX6 hown hK hP 0 rfl rfl 0 (by decide) hw1 (fun _ h9 => h9) rfl dX6_putBack_63 ?_
      refine va_getN (D := (dC, dI)) (ci := 7) (v := .ref (a 3)) (C := RX7) (T := TX7) (N := 6) hx hb hts hinX7 hown hK hP 1 rfl rfl 3 (by decide) (nw38 hNW) (fun _ h9 => h9) rfl dX6_putBack_66 ?_
      refine lv_iload_n hx hb dX6_putBack_69 rfl (lv_at hl 2 rfl) ?_
      obtain ⟨hi, hf⟩ := gd_s hf
      refine va_iald (D := (dC, dI)) (f := (N 3)) hx hb hK hP 3 0 rfl rfl (inb_in hi) dX6_putBack_70 ?_
      refine lv_goto (tgt := 75) hx hb dX6_putBack_71 (by decide) ?_
      exact hfX6_putBack_B75  (sr (sr (sr (sr (sr M 1 (N 1)) 3 (N 3)) 6 (N 6)) 7 (N 7)) 8 (N 8)) (N 3 l1.toNatClampNeg) hf _ (lv_sub hl [] rfl) _ _ hP hD hS
  have hl := lv_entry ([.ref (a 0)]) (n := 3) (Nat.le_of_ble_eq_true rfl)
  rw [lg_entry_eq]
  generalize (lg_sl ([.ref (a 0)]) ++ List.replicate (3 - (lg_sl ([.ref (a 0)])).length) Slot.unset).toArray = ls at hl ⊢
  have hl : lv_has ls 3 [(0, .ref (a 0))] := hl
  unfold fX6_putBack at hf
  suffices hgo : ∀ (H : Heap) (locs : List Loc), va_P (dC, dI) vwCl (wX6 cI cZ a M) H → va_D A (wX6 cI cZ a M) → va_S A s.heap H locs → W p l e (headSpec wsX6_putBack ({ frames := 3, cells := 0, slots := 0, locals := 87 } : Room)).room s m ([.ref (a 0)] : List Value).toArray below meth c H locs 0 0 (MQ below (va_Qi (S := Unit) (fun r _ => r = z.1) (fun _ t => WE (dC, dI) cI cZ (wX6 cI cZ a (sr (sr (sr (sr (sr M 1 (z.2 1)) 3 (z.2 3)) 6 (z.2 6)) 7 (z.2 7)) 8 (z.2 8))) A t) A) ([.ref (a 0)] : List Value).toArray s 0 0 A) (F0 m 0 ls []) from hgo _ _ hP hD hS
  intro H locs hP hD hS
  refine lv_aload_n hx hb dX6_putBack_0 rfl (lv_at hl 0 rfl) ?_
  refine va_get (D := (dC, dI)) (ci := 6) (v := .ref (a 1)) (C := RX6) (T := TX6) (N := 5) hx hb hts hinX6 hown hK hP 0 rfl rfl 0 (by decide) hw1 (fun _ h9 => h9) rfl dX6_putBack_1 ?_
  refine va_getN (D := (dC, dI)) (ci := 7) (v := .int (M 1 1)) (C := RX7) (T := TX7) (N := 6) hx hb hts hinX7 hown hK hP 1 rfl rfl 1 (by decide) (nw37 hNW) (fun _ h9 => h9) rfl dX6_putBack_4 ?_
  refine lv_istore_n (lv' := [(1, .int (M 1 1)), (0, .ref (a 0))]) hx hb dX6_putBack_7 rfl hl (by decide) rfl (fun ls hl => ?_)
  refine lv_iload_n hx hb dX6_putBack_8 rfl (lv_at hl 0 rfl) ?_
  refine lv_if_lt (tgt := 23) hx hb dX6_putBack_9 (by decide) (fun c9 => ?_) (fun c9 => ?_)
  · have hf := it_t hf c9
    exact hfX6_putBack_B23  M hf _ (lv_sub hl [] rfl) _ _ hP hD hS
  · have hf := it_f hf c9
    refine lv_iload_n hx hb dX6_putBack_12 rfl (lv_at hl 0 rfl) ?_
    refine lv_aload_n hx hb dX6_putBack_13 rfl (lv_at hl 1 rfl) ?_
    refine va_get (D := (dC, dI)) (ci := 6) (v := .ref (a 1)) (C := RX6) (T := TX6) (N := 5) hx hb hts hinX6 hown hK hP 0 rfl rfl 0 (by decide) hw1 (fun _ h9 => h9) rfl dX6_putBack_14 ?_
    refine va_getN (D := (dC, dI)) (ci := 7) (v := .int (M 1 0)) (C := RX7) (T := TX7) (N := 6) hx hb hts hinX7 hown hK hP 1 rfl rfl 0 (by decide) (nw36 hNW) (fun _ h9 => h9) rfl dX6_putBack_17 ?_
    refine lv_icmp_lt (tgt := 25) hx hb dX6_putBack_20 (by decide) (fun c9 => ?_) (fun c9 => ?_)
    · have hf := it_t hf c9
      refine lv_aload_n hx hb dX6_putBack_25 rfl (lv_at hl 1 rfl) ?_
      refine va_get (D := (dC, dI)) (ci := 6) (v := .ref (a 6)) (C := RX6) (T := TX6) (N := 5) hx hb hts hinX6 hown hK hP 0 rfl rfl 1 (by decide) hw3 (fun _ h9 => h9) rfl dX6_putBack_26 ?_
      refine va_getN (D := (dC, dI)) (ci := 2) (v := .int (M 6 1)) (C := RX2) (T := TX2) (N := 7) hx hb hts hinX2 hown hK hP 6 rfl rfl 1 (by decide) (nw29 hNW) (fun _ h9 => h9) rfl dX6_putBack_29 ?_
      refine lv_if_eq (tgt := 39) hx hb dX6_putBack_32 (by decide) (fun c9 => ?_) (fun c9 => ?_)
      · have hf := it_t hf c9
        refine lv_aload_n hx hb dX6_putBack_39 rfl (lv_at hl 1 rfl) ?_
        refine va_get (D := (dC, dI)) (ci := 6) (v := .ref (a 1)) (C := RX6) (T := TX6) (N := 5) hx hb hts hinX6 hown hK hP 0 rfl rfl 0 (by decide) hw1 (fun _ h9 => h9) rfl dX6_putBack_40 ?_
        refine lv_aload_n hx hb dX6_putBack_43 rfl (lv_at hl 1 rfl) ?_
        refine va_get (D := (dC, dI)) (ci := 6) (v := .ref (a 1)) (C := RX6) (T := TX6) (N := 5) hx hb hts hinX6 hown hK hP 0 rfl rfl 0 (by decide) hw1 (fun _ h9 => h9) rfl dX6_putBack_44 ?_
        refine va_getN (D := (dC, dI)) (ci := 7) (v := .ref (a 2)) (C := RX7) (T := TX7) (N := 6) hx hb hts hinX7 hown hK hP 1 rfl rfl 2 (by decide) (nw30 hNW) (fun _ h9 => h9) rfl dX6_putBack_47 ?_
        refine lv_iload_n hx hb dX6_putBack_50 rfl (lv_at hl 0 rfl) ?_
        obtain ⟨hi, hf⟩ := gd_s hf
        refine va_iald (D := (dC, dI)) (f := (M 2)) hx hb hK hP 2 0 rfl rfl (inb_in hi) dX6_putBack_51 ?_
        obtain ⟨r52, hc52, hf⟩ := bi_s hf
        have hPc := hP.sub (ws' := (wX7 cI cZ (ofs 1 a) (ofs 1 M))) [1, 2, 3, 4, 5] rfl
        refine cRO (va_Run.run (va_runVN (As := [.int (M 2 (M 1 1).toNatClampNeg)]) (rest := []) ⟨hx, hb, hml, hown, hts⟩ (c_X7_firstFree l dC dI cI cZ (ofs 1 a) (ofs 1 M) (M 2 (M 1 1).toNatClampNeg) r52 hc52) ⟨va_cnB 1 hts gX6_putBack_X7_firstFree_n114 rfl rfl rfl (nw98 hNW) hw5 (by decide +kernel) ⟨Nat.le_of_ble_eq_true rfl, Nat.le_of_ble_eq_true rfl⟩, hw6, hw7⟩ ⟨RO.blind, va_recv hK hP (ci := 7) (q0 := 1) rfl rfl, RO.pre hPc hK hNW⟩ rfl rfl hl.1 rfl (lv_room (Nat.le_of_ble_eq_true rfl)) dX6_putBack_52 ⟨Nat.le_of_ble_eq_true rfl, Nat.le_of_ble_eq_true rfl⟩)) ?_
        exact hfX6_putBack_B55  M (M 1 1) r52 hf _ (lv_sub hl [1, 0] rfl) _ _ hP hD hS
      · have hf := it_f hf c9
        refine lv_iconst (v := (-1 : Int32)) hx hb dX6_putBack_35 (by decide) ?_
        refine lv_goto (tgt := 55) hx hb dX6_putBack_36 (by decide) ?_
        exact hfX6_putBack_B55  M (M 1 1) (-1 : Int32) hf _ (lv_sub hl [1, 0] rfl) _ _ hP hD hS
    · have hf := it_f hf c9
      exact hfX6_putBack_B23  M hf _ (lv_sub hl [] rfl) _ _ hP hD hS
set_option maxHeartbeats 4000000 in
set_option maxRecDepth 100000 in
theorem c_X6_isEnough (l : Launch) (dC : Nat → ClassId) (dI : Nat → Nat → Nat) (cI cZ : ClassId) (a : Nat → Nat) (M : Mem) (a1 : Int32) (a2 : Int32) (z : Int32) (hf : fX6_isEnough M a1 a2 = some z) : Met l yX6_isEnough wsX6_isEnough ({ frames := 1, cells := 0, slots := 0, locals := 22 } : Room) (va_Pc [.ref (a 0), .int a1, .int a2] (RO (dC, dI) cI cZ (wX6 cI cZ a M))) (k2_QcV (.int z)) 0 0 (fun _ => False) := by
  refine Met.ofW (cc := cX6_isEnough) (maxL := 6) (ret := (some .boolean)) (by decide) rfl ?_
  intro p e s m args below meth c s₁ B hml hv
  obtain ⟨rfl, hP, hK, hNW⟩ := hv
  have hx := B.exec
  have hb := B.bytes
  have hr := B.returns
  have hts := atoms_spec (ws := wsX6_isEnough) B.pre
  have hown : s.vm.findClass RX6 = some m.cls := findClass_of_methodNamed B.named
  have hlocks := B.notSynchronized
  have hinX6 : ∀ w ∈ u_ws RX6 TX6 5, w ∈ wsX6_isEnough := by decide +kernel
  have hw1 := hts (.fieldLink RX6 35 "GlideShelves$State" "book" "LGlideShelves$OrderBook;") (by decide +kernel)
  have hw2 := hts (.initialized RX3) (by decide +kernel)
  have hw3 := hts (.instanceMethod yX3_wantedOf) (by decide +kernel)
  have hw4 := hts (.selects RX3 yX3_wantedOf yX3_wantedOf) (by decide +kernel)
  have hw5 := hts (.fieldLink RX6 12 "GlideShelves$State" "tower" "LGlideShelves$Tower;") (by decide +kernel)
  have hinX7 : ∀ w ∈ u_ws RX7 TX7 6, w ∈ wsX6_isEnough := by decide +kernel
  have hw7 := hts (.initialized RX7) (by decide +kernel)
  have hw8 := hts (.instanceMethod yX7_countIn) (by decide +kernel)
  have hw9 := hts (.selects RX7 yX7_countIn yX7_countIn) (by decide +kernel)
  have hfX6_isEnough_B63 : ∀ (kb : Int32 → Int32 → Int32 → Int32 → Int32 → Option (Int32)) (hkb : ∀ (l1 : Int32) (l2 : Int32) (l3 : Int32) (l4 : Int32) (l5 : Int32), kb l1 l2 l3 l4 l5 = some z → ∀ (ls : Array Slot), lv_has ls 6 [(0, .ref (a 0)), (1, .int l1), (2, .int l2), (3, .int l3), (4, .int l4), (5, .int l5)] → W p l e (headSpec wsX6_isEnough ({ frames := 1, cells := 0, slots := 0, locals := 22 } : Room)).room s m ([.ref (a 0), .int a1, .int a2] : List Value).toArray below meth c s.heap [] 0 0 (MQ below (k2_QcV (.int z)) ([.ref (a 0), .int a1, .int a2] : List Value).toArray s 0 0 (fun _ => False)) (F0 m 22 ls [])) (kx69 : Int32 → Int32 → Int32 → Int32 → Option (Int32)) (hkx69 : ∀ (l1 : Int32) (l2 : Int32) (l3 : Int32) (l4 : Int32), kx69 l1 l2 l3 l4 = some z → ∀ (ls : Array Slot), lv_has ls 6 [(0, .ref (a 0)), (1, .int l1), (2, .int l2), (3, .int l3), (4, .int l4)] → W p l e (headSpec wsX6_isEnough ({ frames := 1, cells := 0, slots := 0, locals := 22 } : Room)).room s m ([.ref (a 0), .int a1, .int a2] : List Value).toArray below meth c s.heap [] 0 0 (MQ below (k2_QcV (.int z)) ([.ref (a 0), .int a1, .int a2] : List Value).toArray s 0 0 (fun _ => False)) (F0 m 69 ls [])), ∀ (l1 : Int32) (l2 : Int32) (l3 : Int32) (l4 : Int32) (l5 : Int32), fX6_isEnough_B63 M kb kx69 l1 l2 l3 l4 l5 = some z → ∀ (ls : Array Slot), lv_has ls 6 [(0, .ref (a 0)), (1, .int l1), (2, .int l2), (3, .int l3), (4, .int l4), (5, .int l5)] → W p l e (headSpec wsX6_isEnough ({ frames := 1, cells := 0, slots := 0, locals := 22 } : Room)).room s m ([.ref (a 0), .int a1, .int a2] : List Value).toArray below meth c s.heap [] 0 0 (MQ below (k2_QcV (.int z)) ([.ref (a 0), .int a1, .int a2] : List Value).toArray s 0 0 (fun _ => False)) (F0 m 63 ls []) := by
    intro kb hkb kx69 hkx69 l1 l2 l3 l4 l5 hf ls hl
    unfold fX6_isEnough_B63 at hf
    refine lv_iinc (v := (l5 + (1 : Int32))) (lv' := [(5, .int (l5 + (1 : Int32))), (0, .ref (a 0)), (1, .int l1), (2, .int l2), (3, .int l3), (4, .int l4)]) hx hb dX6_isEnough_63 hl (k := 5) rfl rfl (by decide) rfl (fun ls hl => ?_)
    refine lv_goto (tgt := 22) hx hb dX6_isEnough_66 (by decide) ?_
    exact hkb l1 l2 l3 l4 (l5 + (1 : Int32)) hf _ (lv_sub hl [1, 2, 3, 4, 5, 0] rfl)
  have hfX6_isEnough_L22 : ∀ (n : Nat) (kx69 : Int32 → Int32 → Int32 → Int32 → Option (Int32)) (hkx69 : ∀ (l1 : Int32) (l2 : Int32) (l3 : Int32) (l4 : Int32), kx69 l1 l2 l3 l4 = some z → ∀ (ls : Array Slot), lv_has ls 6 [(0, .ref (a 0)), (1, .int l1), (2, .int l2), (3, .int l3), (4, .int l4)] → W p l e (headSpec wsX6_isEnough ({ frames := 1, cells := 0, slots := 0, locals := 22 } : Room)).room s m ([.ref (a 0), .int a1, .int a2] : List Value).toArray below meth c s.heap [] 0 0 (MQ below (k2_QcV (.int z)) ([.ref (a 0), .int a1, .int a2] : List Value).toArray s 0 0 (fun _ => False)) (F0 m 69 ls [])), ∀ (l1 : Int32) (l2 : Int32) (l3 : Int32) (l4 : Int32) (l5 : Int32), fX6_isEnough_L22 M n kx69 l1 l2 l3 l4 l5 = some z → ∀ (ls : Array Slot), lv_has ls 6 [(0, .ref (a 0)), (1, .int l1), (2, .int l2), (3, .int l3), (4, .int l4), (5, .int l5)] → W p l e (headSpec wsX6_isEnough ({ frames := 1, cells := 0, slots := 0, locals := 22 } : Room)).room s m ([.ref (a 0), .int a1, .int a2] : List Value).toArray below meth c s.heap [] 0 0 (MQ below (k2_QcV (.int z)) ([.ref (a 0), .int a1, .int a2] : List Value).toArray s 0 0 (fun _ => False)) (F0 m 22 ls []) := by
    intro n
    induction n with
    | zero =>
      intro kx69 hkx69 l1 l2 l3 l4 l5 hf ls hl
      rw [fX6_isEnough_L22] at hf
      cases hf
    | succ n ih =>
      intro kx69 hkx69 l1 l2 l3 l4 l5 hf ls hl
      rw [fX6_isEnough_L22] at hf
      refine lv_iload hx hb dX6_isEnough_22 (lv_at hl 5 rfl) ?_
      refine lv_aload_n hx hb dX6_isEnough_24 rfl (lv_at hl 0 rfl) ?_
      refine va_get (D := (dC, dI)) (ci := 6) (v := .ref (a 1)) (C := RX6) (T := TX6) (N := 5) hx hb hts hinX6 hown hK hP 0 rfl rfl 0 (by decide) hw5 (fun _ h9 => h9) rfl dX6_isEnough_25 ?_
      refine va_getN (D := (dC, dI)) (ci := 7) (v := .int (M 1 0)) (C := RX7) (T := TX7) (N := 6) hx hb hts hinX7 hown hK hP 1 rfl rfl 0 (by decide) (nw36 hNW) (fun _ h9 => h9) rfl dX6_isEnough_28 ?_
      refine lv_icmp_ge (tgt := 69) hx hb dX6_isEnough_31 (by decide) (fun c9 => ?_) (fun c9 => ?_)
      · have hf := it_t hf c9
        exact hkx69 l1 l2 l3 l4 hf _ (lv_sub hl [0, 1, 2, 3, 4] rfl)
      · have hf := it_f hf c9
        refine lv_iload hx hb dX6_isEnough_34 (lv_at hl 4 rfl) ?_
        refine lv_if_le (tgt := 69) hx hb dX6_isEnough_36 (by decide) (fun c9 => ?_) (fun c9 => ?_)
        · have hf := it_t hf c9
          exact hkx69 l1 l2 l3 l4 hf _ (lv_sub hl [0, 1, 2, 3, 4] rfl)
        · have hf := it_f hf c9
          refine lv_iload_n hx hb dX6_isEnough_39 rfl (lv_at hl 2 rfl) ?_
          refine lv_iload hx hb dX6_isEnough_40 (lv_at hl 5 rfl) ?_
          refine lv_ishr hx hb dX6_isEnough_42 ?_
          refine lv_iconst (v := (1 : Int32)) hx hb dX6_isEnough_43 (by decide) ?_
          refine lv_iand hx hb dX6_isEnough_44 ?_
          refine lv_if_eq (tgt := 63) hx hb dX6_isEnough_45 (by decide) (fun c9 => ?_) (fun c9 => ?_)
          · have hf := it_t hf c9
            exact hfX6_isEnough_B63 _ (ih kx69 hkx69) _ hkx69 l1 l2 l3 l4 l5 hf _ (lv_sub hl [0, 1, 2, 3, 4, 5] rfl)
          · have hf := it_f hf c9
            refine lv_iload hx hb dX6_isEnough_48 (lv_at hl 4 rfl) ?_
            refine lv_aload_n hx hb dX6_isEnough_50 rfl (lv_at hl 0 rfl) ?_
            refine va_get (D := (dC, dI)) (ci := 6) (v := .ref (a 1)) (C := RX6) (T := TX6) (N := 5) hx hb hts hinX6 hown hK hP 0 rfl rfl 0 (by decide) hw5 (fun _ h9 => h9) rfl dX6_isEnough_51 ?_
            refine lv_iload hx hb dX6_isEnough_54 (lv_at hl 5 rfl) ?_
            refine lv_iload_n hx hb dX6_isEnough_56 rfl (lv_at hl 3 rfl) ?_
            obtain ⟨r57, hc57, hf⟩ := bi_s hf
            have hPc := hP.sub (ws' := (wX7 cI cZ (ofs 1 a) (ofs 1 M))) [1, 2, 3, 4, 5] rfl
            refine cRO (va_Run.run (va_runVN (As := [.int l5, .int l3]) (rest := [.int l4]) ⟨hx, hb, hml, hown, hts⟩ (c_X7_countIn l dC dI cI cZ (ofs 1 a) (ofs 1 M) l5 l3 r57 hc57) ⟨va_cnB 2 hts gX6_isEnough_X7_countIn_n56 rfl rfl rfl (nw109 hNW) hw7 (by decide +kernel) ⟨Nat.le_of_ble_eq_true rfl, Nat.le_of_ble_eq_true rfl⟩, hw8, hw9⟩ ⟨RO.blind, va_recv hK hP (ci := 7) (q0 := 1) rfl rfl, RO.pre hPc hK hNW⟩ rfl rfl hl.1 rfl (lv_room (Nat.le_of_ble_eq_true rfl)) dX6_isEnough_57 ⟨Nat.le_of_ble_eq_true rfl, Nat.le_of_ble_eq_true rfl⟩)) ?_
            refine lv_isub hx hb dX6_isEnough_60 ?_
            refine lv_istore (lv' := [(4, .int (l4 - r57)), (0, .ref (a 0)), (1, .int l1), (2, .int l2), (3, .int l3), (5, .int l5)]) hx hb dX6_isEnough_61 hl (by decide) rfl (fun ls hl => ?_)
            exact hfX6_isEnough_B63 _ (ih kx69 hkx69) _ hkx69 l1 l2 l3 (l4 - r57) l5 hf _ (lv_sub hl [1, 2, 3, 4, 0, 5] rfl)
  have hfX6_isEnough_L2 : ∀ (n : Nat) (kx74 : Unit → Option (Int32)) (hkx74 : ∀ (_ : Unit), kx74 () = some z → ∀ (ls : Array Slot), lv_has ls 6 [] → W p l e (headSpec wsX6_isEnough ({ frames := 1, cells := 0, slots := 0, locals := 22 } : Room)).room s m ([.ref (a 0), .int a1, .int a2] : List Value).toArray below meth c s.heap [] 0 0 (MQ below (k2_QcV (.int z)) ([.ref (a 0), .int a1, .int a2] : List Value).toArray s 0 0 (fun _ => False)) (F0 m 74 ls [])) (kx82 : Unit → Option (Int32)) (hkx82 : ∀ (_ : Unit), kx82 () = some z → ∀ (ls : Array Slot), lv_has ls 6 [] → W p l e (headSpec wsX6_isEnough ({ frames := 1, cells := 0, slots := 0, locals := 22 } : Room)).room s m ([.ref (a 0), .int a1, .int a2] : List Value).toArray below meth c s.heap [] 0 0 (MQ below (k2_QcV (.int z)) ([.ref (a 0), .int a1, .int a2] : List Value).toArray s 0 0 (fun _ => False)) (F0 m 82 ls [])), ∀ (l1 : Int32) (l2 : Int32) (l3 : Int32), fX6_isEnough_L2 M n kx74 kx82 l1 l2 l3 = some z → ∀ (ls : Array Slot), lv_has ls 6 [(0, .ref (a 0)), (1, .int l1), (2, .int l2), (3, .int l3)] → W p l e (headSpec wsX6_isEnough ({ frames := 1, cells := 0, slots := 0, locals := 22 } : Room)).room s m ([.ref (a 0), .int a1, .int a2] : List Value).toArray below meth c s.heap [] 0 0 (MQ below (k2_QcV (.int z)) ([.ref (a 0), .int a1, .int a2] : List Value).toArray s 0 0 (fun _ => False)) (F0 m 2 ls []) := by
    intro n
    induction n with
    | zero =>
      intro kx74 hkx74 kx82 hkx82 l1 l2 l3 hf ls hl
      rw [fX6_isEnough_L2] at hf
      cases hf
    | succ n ih =>
      intro kx74 hkx74 kx82 hkx82 l1 l2 l3 hf ls hl
      rw [fX6_isEnough_L2] at hf
      refine lv_iload_n hx hb dX6_isEnough_2 rfl (lv_at hl 3 rfl) ?_
      refine lv_bipush (v := (10 : Int32)) hx hb dX6_isEnough_3 (by decide) ?_
      refine lv_icmp_ge (tgt := 82) hx hb dX6_isEnough_5 (by decide) (fun c9 => ?_) (fun c9 => ?_)
      · have hf := it_t hf c9
        exact hkx82 () hf _ (lv_sub hl [] rfl)
      · have hf := it_f hf c9
        refine lv_aload_n hx hb dX6_isEnough_8 rfl (lv_at hl 0 rfl) ?_
        refine va_get (D := (dC, dI)) (ci := 6) (v := .ref (a 14)) (C := RX6) (T := TX6) (N := 5) hx hb hts hinX6 hown hK hP 0 rfl rfl 3 (by decide) hw1 (fun _ h9 => h9) rfl dX6_isEnough_9 ?_
        refine lv_iload_n hx hb dX6_isEnough_12 rfl (lv_at hl 1 rfl) ?_
        refine lv_iload_n hx hb dX6_isEnough_13 rfl (lv_at hl 3 rfl) ?_
        obtain ⟨r14, hc14, hf⟩ := bi_s hf
        have hPc := hP.sub (ws' := (wX3 cI cZ (ofs 14 a) (ofs 14 M))) [14, 15] rfl
        refine cRO (va_Run.run (va_runVN (As := [.int l1, .int l3]) (rest := []) ⟨hx, hb, hml, hown, hts⟩ (c_X3_wantedOf l dC dI cI cZ (ofs 14 a) (ofs 14 M) l1 l3 r14 hc14) ⟨va_cnB 2 hts gX6_isEnough_X3_wantedOf_n124 rfl rfl rfl (nw99 hNW) hw2 (by decide +kernel) ⟨Nat.le_of_ble_eq_true rfl, Nat.le_of_ble_eq_true rfl⟩, hw3, hw4⟩ ⟨RO.blind, va_recv hK hP (ci := 3) (q0 := 14) rfl rfl, RO.pre hPc hK hNW⟩ rfl rfl hl.1 rfl (lv_room (Nat.le_of_ble_eq_true rfl)) dX6_isEnough_14 ⟨Nat.le_of_ble_eq_true rfl, Nat.le_of_ble_eq_true rfl⟩)) ?_
        refine lv_istore (lv' := [(4, .int r14), (0, .ref (a 0)), (1, .int l1), (2, .int l2), (3, .int l3)]) hx hb dX6_isEnough_17 hl (by decide) rfl (fun ls hl => ?_)
        refine lv_iconst (v := (0 : Int32)) hx hb dX6_isEnough_19 (by decide) ?_
        refine lv_istore (lv' := [(5, .int (0 : Int32)), (4, .int r14), (0, .ref (a 0)), (1, .int l1), (2, .int l2), (3, .int l3)]) hx hb dX6_isEnough_20 hl (by decide) rfl (fun ls hl => ?_)
        refine hfX6_isEnough_L22 5000 _ (fun l1 l2 l3 l4 hf ls hl => ?_) l1 l2 l3 r14 (0 : Int32) hf _ (lv_sub hl [2, 3, 4, 5, 1, 0] rfl)
        refine lv_iload hx hb dX6_isEnough_69 (lv_at hl 4 rfl) ?_
        refine lv_if_le (tgt := 76) hx hb dX6_isEnough_71 (by decide) (fun c9 => ?_) (fun c9 => ?_)
        · have hf := it_t hf c9
          refine lv_iinc (v := (l3 + (1 : Int32))) (lv' := [(3, .int (l3 + (1 : Int32))), (0, .ref (a 0)), (1, .int l1), (2, .int l2), (4, .int l4)]) hx hb dX6_isEnough_76 hl (k := 3) rfl rfl (by decide) rfl (fun ls hl => ?_)
          refine lv_goto (tgt := 2) hx hb dX6_isEnough_79 (by decide) ?_
          exact ih kx74 hkx74 kx82 hkx82 l1 l2 (l3 + (1 : Int32)) hf _ (lv_sub hl [1, 2, 3, 0] rfl)
        · have hf := it_f hf c9
          exact hkx74 () hf _ (lv_sub hl [] rfl)
  have hl := lv_entry ([.ref (a 0), .int a1, .int a2]) (n := 6) (Nat.le_of_ble_eq_true rfl)
  rw [lg_entry_eq]
  generalize (lg_sl ([.ref (a 0), .int a1, .int a2]) ++ List.replicate (6 - (lg_sl ([.ref (a 0), .int a1, .int a2])).length) Slot.unset).toArray = ls at hl ⊢
  have hl : lv_has ls 6 [(0, .ref (a 0)), (1, .int a1), (2, .int a2)] := hl
  unfold fX6_isEnough at hf
  refine lv_iconst (v := (0 : Int32)) hx hb dX6_isEnough_0 (by decide) ?_
  refine lv_istore_n (lv' := [(3, .int (0 : Int32)), (0, .ref (a 0)), (1, .int a1), (2, .int a2)]) hx hb dX6_isEnough_1 rfl hl (by decide) rfl (fun ls hl => ?_)
  refine hfX6_isEnough_L2 5000 _ (fun _ hf ls hl => ?_) _ (fun _ hf ls hl => ?_) a1 a2 (0 : Int32) hf _ (lv_sub hl [1, 2, 3, 0] rfl)
  · refine lv_iconst (v := (0 : Int32)) hx hb dX6_isEnough_74 (by decide) ?_
    obtain ⟨hz, hf⟩ := gd_s hf
    exact W.zret (v := (0 : Int32)) hx hb hr (isb_nar hz) (fun t ht hW => ⟨congrArg (fun x => Outcome.returned (some (Value.int x))) (so_e hf), ht⟩) fl0 dX6_isEnough_75
  · refine lv_iconst (v := (1 : Int32)) hx hb dX6_isEnough_82 (by decide) ?_
    obtain ⟨hz, hf⟩ := gd_s hf
    exact W.zret (v := (1 : Int32)) hx hb hr (isb_nar hz) (fun t ht hW => ⟨congrArg (fun x => Outcome.returned (some (Value.int x))) (so_e hf), ht⟩) fl0 dX6_isEnough_83
set_option maxHeartbeats 4000000 in
set_option maxRecDepth 100000 in
theorem c_X6_isServable (l : Launch) (dC : Nat → ClassId) (dI : Nat → Nat → Nat) (cI cZ : ClassId) (a : Nat → Nat) (M : Mem) (a1 : Int32) (z : Int32) (hf : fX6_isServable M a1 = some z) : Met l yX6_isServable wsX6_isServable ({ frames := 2, cells := 0, slots := 0, locals := 47 } : Room) (va_Pc [.ref (a 0), .int a1] (RO (dC, dI) cI cZ (wX6 cI cZ a M))) (k2_QcV (.int z)) 0 0 (fun _ => False) := by
  refine Met.ofW (cc := cX6_isServable) (maxL := 2) (ret := (some .boolean)) (by decide) rfl ?_
  intro p e s m args below meth c s₁ B hml hv
  obtain ⟨rfl, hP, hK, hNW⟩ := hv
  have hx := B.exec
  have hb := B.bytes
  have hr := B.returns
  have hts := atoms_spec (ws := wsX6_isServable) B.pre
  have hown : s.vm.findClass RX6 = some m.cls := findClass_of_methodNamed B.named
  have hlocks := B.notSynchronized
  have hinX6 : ∀ w ∈ u_ws RX6 TX6 5, w ∈ wsX6_isServable := by decide +kernel
  have hw1 := hts (.fieldLink RX6 12 "GlideShelves$State" "tower" "LGlideShelves$Tower;") (by decide +kernel)
  have hinX7 : ∀ w ∈ u_ws RX7 TX7 6, w ∈ wsX6_isServable := by decide +kernel
  have hl := lv_entry ([.ref (a 0), .int a1]) (n := 2) (Nat.le_of_ble_eq_true rfl)
  rw [lg_entry_eq]
  generalize (lg_sl ([.ref (a 0), .int a1]) ++ List.replicate (2 - (lg_sl ([.ref (a 0), .int a1])).length) Slot.unset).toArray = ls at hl ⊢
  have hl : lv_has ls 2 [(0, .ref (a 0)), (1, .int a1)] := hl
  unfold fX6_isServable at hf
  refine lv_aload_n hx hb dX6_isServable_0 rfl (lv_at hl 0 rfl) ?_
  refine lv_iload_n hx hb dX6_isServable_1 rfl (lv_at hl 1 rfl) ?_
  refine lv_iconst (v := (1 : Int32)) hx hb dX6_isServable_2 (by decide) ?_
  refine lv_aload_n hx hb dX6_isServable_3 rfl (lv_at hl 0 rfl) ?_
  refine va_get (D := (dC, dI)) (ci := 6) (v := .ref (a 1)) (C := RX6) (T := TX6) (N := 5) hx hb hts hinX6 hown hK hP 0 rfl rfl 0 (by decide) hw1 (fun _ h9 => h9) rfl dX6_isServable_4 ?_
  refine va_getN (D := (dC, dI)) (ci := 7) (v := .int (M 1 0)) (C := RX7) (T := TX7) (N := 6) hx hb hts hinX7 hown hK hP 1 rfl rfl 0 (by decide) (nw36 hNW) (fun _ h9 => h9) rfl dX6_isServable_7 ?_
  refine lv_ishl hx hb dX6_isServable_10 ?_
  refine lv_iconst (v := (1 : Int32)) hx hb dX6_isServable_11 (by decide) ?_
  refine lv_isub hx hb dX6_isServable_12 ?_
  obtain ⟨r13, hc13, hf⟩ := bi_s hf
  have hPc := hP
  refine cRO (W.runV (As := [.int a1, .int (((1 : Int32) <<< ((M 1 0) &&& 31)) - (1 : Int32))]) (rest := []) ⟨hx, hb, hml, hown, hts⟩ (c_X6_isEnough l dC dI cI cZ a M a1 (((1 : Int32) <<< ((M 1 0) &&& 31)) - (1 : Int32)) r13 hc13) (cwV 2 hts gX6_isServable_X6_isEnough rfl rfl rfl (by decide +kernel) ⟨Nat.le_of_ble_eq_true rfl, Nat.le_of_ble_eq_true rfl⟩) ⟨RO.blind, va_recv hK hP (ci := 6) (q0 := 0) rfl rfl, RO.pre hPc hK hNW⟩ rfl rfl hl.1 rfl (lv_room (Nat.le_of_ble_eq_true rfl)) dX6_isServable_13 ⟨Nat.le_of_ble_eq_true rfl, Nat.le_of_ble_eq_true rfl⟩) ?_
  obtain ⟨hz, hf⟩ := gd_s hf
  exact W.zret (v := r13) hx hb hr (isb_nar hz) (fun t ht hW => ⟨congrArg (fun x => Outcome.returned (some (Value.int x))) (so_e hf), ht⟩) fl0 dX6_isServable_16
set_option maxHeartbeats 4000000 in
set_option maxRecDepth 100000 in
theorem c_X6_usefulShelves (l : Launch) (dC : Nat → ClassId) (dI : Nat → Nat → Nat) (cI cZ : ClassId) (a : Nat → Nat) (M : Mem) (a1 : Int32) (z : Int32) (hf : fX6_usefulShelves M a1 = some z) : Met l yX6_usefulShelves wsX6_usefulShelves ({ frames := 1, cells := 0, slots := 0, locals := 22 } : Room) (va_Pc [.ref (a 0), .int a1] (RO (dC, dI) cI cZ (wX6 cI cZ a M))) (k2_QcV (.int z)) 0 0 (fun _ => False) := by
  refine Met.ofW (cc := cX6_usefulShelves) (maxL := 5) (ret := (some .int)) (by decide) rfl ?_
  intro p e s m args below meth c s₁ B hml hv
  obtain ⟨rfl, hP, hK, hNW⟩ := hv
  have hx := B.exec
  have hb := B.bytes
  have hr := B.returns
  have hts := atoms_spec (ws := wsX6_usefulShelves) B.pre
  have hown : s.vm.findClass RX6 = some m.cls := findClass_of_methodNamed B.named
  have hlocks := B.notSynchronized
  have hinX6 : ∀ w ∈ u_ws RX6 TX6 5, w ∈ wsX6_usefulShelves := by decide +kernel
  have hw1 := hts (.fieldLink RX6 12 "GlideShelves$State" "tower" "LGlideShelves$Tower;") (by decide +kernel)
  have hinX7 : ∀ w ∈ u_ws RX7 TX7 6, w ∈ wsX6_usefulShelves := by decide +kernel
  have hw3 := hts (.fieldLink RX6 35 "GlideShelves$State" "book" "LGlideShelves$OrderBook;") (by decide +kernel)
  have hw4 := hts (.initialized RX3) (by decide +kernel)
  have hw5 := hts (.instanceMethod yX3_wantedOf) (by decide +kernel)
  have hw6 := hts (.selects RX3 yX3_wantedOf yX3_wantedOf) (by decide +kernel)
  have hw7 := hts (.initialized RX7) (by decide +kernel)
  have hw8 := hts (.instanceMethod yX7_countIn) (by decide +kernel)
  have hw9 := hts (.selects RX7 yX7_countIn yX7_countIn) (by decide +kernel)
  have hfX6_usefulShelves_B57 : ∀ (kb : Int32 → Int32 → Int32 → Int32 → Option (Int32)) (hkb : ∀ (l1 : Int32) (l2 : Int32) (l3 : Int32) (l4 : Int32), kb l1 l2 l3 l4 = some z → ∀ (ls : Array Slot), lv_has ls 5 [(0, .ref (a 0)), (1, .int l1), (2, .int l2), (3, .int l3), (4, .int l4)] → W p l e (headSpec wsX6_usefulShelves ({ frames := 1, cells := 0, slots := 0, locals := 22 } : Room)).room s m ([.ref (a 0), .int a1] : List Value).toArray below meth c s.heap [] 0 0 (MQ below (k2_QcV (.int z)) ([.ref (a 0), .int a1] : List Value).toArray s 0 0 (fun _ => False)) (F0 m 18 ls [])) (kx63 : Int32 → Int32 → Int32 → Option (Int32)) (hkx63 : ∀ (l1 : Int32) (l2 : Int32) (l3 : Int32), kx63 l1 l2 l3 = some z → ∀ (ls : Array Slot), lv_has ls 5 [(0, .ref (a 0)), (1, .int l1), (2, .int l2), (3, .int l3)] → W p l e (headSpec wsX6_usefulShelves ({ frames := 1, cells := 0, slots := 0, locals := 22 } : Room)).room s m ([.ref (a 0), .int a1] : List Value).toArray below meth c s.heap [] 0 0 (MQ below (k2_QcV (.int z)) ([.ref (a 0), .int a1] : List Value).toArray s 0 0 (fun _ => False)) (F0 m 63 ls [])), ∀ (l1 : Int32) (l2 : Int32) (l3 : Int32) (l4 : Int32), fX6_usefulShelves_B57 M kb kx63 l1 l2 l3 l4 = some z → ∀ (ls : Array Slot), lv_has ls 5 [(0, .ref (a 0)), (1, .int l1), (2, .int l2), (3, .int l3), (4, .int l4)] → W p l e (headSpec wsX6_usefulShelves ({ frames := 1, cells := 0, slots := 0, locals := 22 } : Room)).room s m ([.ref (a 0), .int a1] : List Value).toArray below meth c s.heap [] 0 0 (MQ below (k2_QcV (.int z)) ([.ref (a 0), .int a1] : List Value).toArray s 0 0 (fun _ => False)) (F0 m 57 ls []) := by
    intro kb hkb kx63 hkx63 l1 l2 l3 l4 hf ls hl
    unfold fX6_usefulShelves_B57 at hf
    refine lv_iinc (v := (l4 + (1 : Int32))) (lv' := [(4, .int (l4 + (1 : Int32))), (0, .ref (a 0)), (1, .int l1), (2, .int l2), (3, .int l3)]) hx hb dX6_usefulShelves_57 hl (k := 4) rfl rfl (by decide) rfl (fun ls hl => ?_)
    refine lv_goto (tgt := 18) hx hb dX6_usefulShelves_60 (by decide) ?_
    exact hkb l1 l2 l3 (l4 + (1 : Int32)) hf _ (lv_sub hl [1, 2, 3, 4, 0] rfl)
  have hfX6_usefulShelves_L18 : ∀ (n : Nat) (kx63 : Int32 → Int32 → Int32 → Option (Int32)) (hkx63 : ∀ (l1 : Int32) (l2 : Int32) (l3 : Int32), kx63 l1 l2 l3 = some z → ∀ (ls : Array Slot), lv_has ls 5 [(0, .ref (a 0)), (1, .int l1), (2, .int l2), (3, .int l3)] → W p l e (headSpec wsX6_usefulShelves ({ frames := 1, cells := 0, slots := 0, locals := 22 } : Room)).room s m ([.ref (a 0), .int a1] : List Value).toArray below meth c s.heap [] 0 0 (MQ below (k2_QcV (.int z)) ([.ref (a 0), .int a1] : List Value).toArray s 0 0 (fun _ => False)) (F0 m 63 ls [])), ∀ (l1 : Int32) (l2 : Int32) (l3 : Int32) (l4 : Int32), fX6_usefulShelves_L18 M n kx63 l1 l2 l3 l4 = some z → ∀ (ls : Array Slot), lv_has ls 5 [(0, .ref (a 0)), (1, .int l1), (2, .int l2), (3, .int l3), (4, .int l4)] → W p l e (headSpec wsX6_usefulShelves ({ frames := 1, cells := 0, slots := 0, locals := 22 } : Room)).room s m ([.ref (a 0), .int a1] : List Value).toArray below meth c s.heap [] 0 0 (MQ below (k2_QcV (.int z)) ([.ref (a 0), .int a1] : List Value).toArray s 0 0 (fun _ => False)) (F0 m 18 ls []) := by
    intro n
    induction n with
    | zero =>
      intro kx63 hkx63 l1 l2 l3 l4 hf ls hl
      rw [fX6_usefulShelves_L18] at hf
      cases hf
    | succ n ih =>
      intro kx63 hkx63 l1 l2 l3 l4 hf ls hl
      rw [fX6_usefulShelves_L18] at hf
      refine lv_iload hx hb dX6_usefulShelves_18 (lv_at hl 4 rfl) ?_
      refine lv_bipush (v := (10 : Int32)) hx hb dX6_usefulShelves_20 (by decide) ?_
      refine lv_icmp_ge (tgt := 63) hx hb dX6_usefulShelves_22 (by decide) (fun c9 => ?_) (fun c9 => ?_)
      · have hf := it_t hf c9
        exact hkx63 l1 l2 l3 hf _ (lv_sub hl [0, 1, 2, 3] rfl)
      · have hf := it_f hf c9
        refine lv_aload_n hx hb dX6_usefulShelves_25 rfl (lv_at hl 0 rfl) ?_
        refine va_get (D := (dC, dI)) (ci := 6) (v := .ref (a 14)) (C := RX6) (T := TX6) (N := 5) hx hb hts hinX6 hown hK hP 0 rfl rfl 3 (by decide) hw3 (fun _ h9 => h9) rfl dX6_usefulShelves_26 ?_
        refine lv_iload_n hx hb dX6_usefulShelves_29 rfl (lv_at hl 1 rfl) ?_
        refine lv_iload hx hb dX6_usefulShelves_30 (lv_at hl 4 rfl) ?_
        obtain ⟨r32, hc32, hf⟩ := bi_s hf
        have hPc := hP.sub (ws' := (wX3 cI cZ (ofs 14 a) (ofs 14 M))) [14, 15] rfl
        refine cRO (va_Run.run (va_runVN (As := [.int l1, .int l4]) (rest := []) ⟨hx, hb, hml, hown, hts⟩ (c_X3_wantedOf l dC dI cI cZ (ofs 14 a) (ofs 14 M) l1 l4 r32 hc32) ⟨va_cnB 2 hts gX6_usefulShelves_X3_wantedOf_n124 rfl rfl rfl (nw99 hNW) hw4 (by decide +kernel) ⟨Nat.le_of_ble_eq_true rfl, Nat.le_of_ble_eq_true rfl⟩, hw5, hw6⟩ ⟨RO.blind, va_recv hK hP (ci := 3) (q0 := 14) rfl rfl, RO.pre hPc hK hNW⟩ rfl rfl hl.1 rfl (lv_room (Nat.le_of_ble_eq_true rfl)) dX6_usefulShelves_32 ⟨Nat.le_of_ble_eq_true rfl, Nat.le_of_ble_eq_true rfl⟩)) ?_
        refine lv_if_le (tgt := 57) hx hb dX6_usefulShelves_35 (by decide) (fun c9 => ?_) (fun c9 => ?_)
        · have hf := it_t hf c9
          exact hfX6_usefulShelves_B57 _ (ih kx63 hkx63) _ hkx63 l1 l2 l3 l4 hf _ (lv_sub hl [0, 1, 2, 3, 4] rfl)
        · have hf := it_f hf c9
          refine lv_aload_n hx hb dX6_usefulShelves_38 rfl (lv_at hl 0 rfl) ?_
          refine va_get (D := (dC, dI)) (ci := 6) (v := .ref (a 1)) (C := RX6) (T := TX6) (N := 5) hx hb hts hinX6 hown hK hP 0 rfl rfl 0 (by decide) hw1 (fun _ h9 => h9) rfl dX6_usefulShelves_39 ?_
          refine lv_iload_n hx hb dX6_usefulShelves_42 rfl (lv_at hl 3 rfl) ?_
          refine lv_iload hx hb dX6_usefulShelves_43 (lv_at hl 4 rfl) ?_
          obtain ⟨r45, hc45, hf⟩ := bi_s hf
          have hPc := hP.sub (ws' := (wX7 cI cZ (ofs 1 a) (ofs 1 M))) [1, 2, 3, 4, 5] rfl
          refine cRO (va_Run.run (va_runVN (As := [.int l3, .int l4]) (rest := []) ⟨hx, hb, hml, hown, hts⟩ (c_X7_countIn l dC dI cI cZ (ofs 1 a) (ofs 1 M) l3 l4 r45 hc45) ⟨va_cnB 2 hts gX6_usefulShelves_X7_countIn_n56 rfl rfl rfl (nw109 hNW) hw7 (by decide +kernel) ⟨Nat.le_of_ble_eq_true rfl, Nat.le_of_ble_eq_true rfl⟩, hw8, hw9⟩ ⟨RO.blind, va_recv hK hP (ci := 7) (q0 := 1) rfl rfl, RO.pre hPc hK hNW⟩ rfl rfl hl.1 rfl (lv_room (Nat.le_of_ble_eq_true rfl)) dX6_usefulShelves_45 ⟨Nat.le_of_ble_eq_true rfl, Nat.le_of_ble_eq_true rfl⟩)) ?_
          refine lv_if_le (tgt := 57) hx hb dX6_usefulShelves_48 (by decide) (fun c9 => ?_) (fun c9 => ?_)
          · have hf := it_t hf c9
            exact hfX6_usefulShelves_B57 _ (ih kx63 hkx63) _ hkx63 l1 l2 l3 l4 hf _ (lv_sub hl [0, 1, 2, 3, 4] rfl)
          · have hf := it_f hf c9
            refine lv_iload_n hx hb dX6_usefulShelves_51 rfl (lv_at hl 2 rfl) ?_
            refine lv_iconst (v := (1 : Int32)) hx hb dX6_usefulShelves_52 (by decide) ?_
            refine lv_iload_n hx hb dX6_usefulShelves_53 rfl (lv_at hl 3 rfl) ?_
            refine lv_ishl hx hb dX6_usefulShelves_54 ?_
            refine lv_ior hx hb dX6_usefulShelves_55 ?_
            refine lv_istore_n (lv' := [(2, .int (l2 ||| ((1 : Int32) <<< (l3 &&& 31)))), (0, .ref (a 0)), (1, .int l1), (3, .int l3), (4, .int l4)]) hx hb dX6_usefulShelves_56 rfl hl (by decide) rfl (fun ls hl => ?_)
            exact hfX6_usefulShelves_B57 _ (ih kx63 hkx63) _ hkx63 l1 (l2 ||| ((1 : Int32) <<< (l3 &&& 31))) l3 l4 hf _ (lv_sub hl [1, 2, 0, 3, 4] rfl)
  have hfX6_usefulShelves_L4 : ∀ (n : Nat) (kx69 : Int32 → Option (Int32)) (hkx69 : ∀ (l2 : Int32), kx69 l2 = some z → ∀ (ls : Array Slot), lv_has ls 5 [(2, .int l2)] → W p l e (headSpec wsX6_usefulShelves ({ frames := 1, cells := 0, slots := 0, locals := 22 } : Room)).room s m ([.ref (a 0), .int a1] : List Value).toArray below meth c s.heap [] 0 0 (MQ below (k2_QcV (.int z)) ([.ref (a 0), .int a1] : List Value).toArray s 0 0 (fun _ => False)) (F0 m 69 ls [])), ∀ (l1 : Int32) (l2 : Int32) (l3 : Int32), fX6_usefulShelves_L4 M n kx69 l1 l2 l3 = some z → ∀ (ls : Array Slot), lv_has ls 5 [(0, .ref (a 0)), (1, .int l1), (2, .int l2), (3, .int l3)] → W p l e (headSpec wsX6_usefulShelves ({ frames := 1, cells := 0, slots := 0, locals := 22 } : Room)).room s m ([.ref (a 0), .int a1] : List Value).toArray below meth c s.heap [] 0 0 (MQ below (k2_QcV (.int z)) ([.ref (a 0), .int a1] : List Value).toArray s 0 0 (fun _ => False)) (F0 m 4 ls []) := by
    intro n
    induction n with
    | zero =>
      intro kx69 hkx69 l1 l2 l3 hf ls hl
      rw [fX6_usefulShelves_L4] at hf
      cases hf
    | succ n ih =>
      intro kx69 hkx69 l1 l2 l3 hf ls hl
      rw [fX6_usefulShelves_L4] at hf
      refine lv_iload_n hx hb dX6_usefulShelves_4 rfl (lv_at hl 3 rfl) ?_
      refine lv_aload_n hx hb dX6_usefulShelves_5 rfl (lv_at hl 0 rfl) ?_
      refine va_get (D := (dC, dI)) (ci := 6) (v := .ref (a 1)) (C := RX6) (T := TX6) (N := 5) hx hb hts hinX6 hown hK hP 0 rfl rfl 0 (by decide) hw1 (fun _ h9 => h9) rfl dX6_usefulShelves_6 ?_
      refine va_getN (D := (dC, dI)) (ci := 7) (v := .int (M 1 0)) (C := RX7) (T := TX7) (N := 6) hx hb hts hinX7 hown hK hP 1 rfl rfl 0 (by decide) (nw36 hNW) (fun _ h9 => h9) rfl dX6_usefulShelves_9 ?_
      refine lv_icmp_ge (tgt := 69) hx hb dX6_usefulShelves_12 (by decide) (fun c9 => ?_) (fun c9 => ?_)
      · have hf := it_t hf c9
        exact hkx69 l2 hf _ (lv_sub hl [2] rfl)
      · have hf := it_f hf c9
        refine lv_iconst (v := (0 : Int32)) hx hb dX6_usefulShelves_15 (by decide) ?_
        refine lv_istore (lv' := [(4, .int (0 : Int32)), (0, .ref (a 0)), (1, .int l1), (2, .int l2), (3, .int l3)]) hx hb dX6_usefulShelves_16 hl (by decide) rfl (fun ls hl => ?_)
        refine hfX6_usefulShelves_L18 5000 _ (fun l1 l2 l3 hf ls hl => ?_) l1 l2 l3 (0 : Int32) hf _ (lv_sub hl [1, 2, 3, 4, 0] rfl)
        refine lv_iinc (v := (l3 + (1 : Int32))) (lv' := [(3, .int (l3 + (1 : Int32))), (0, .ref (a 0)), (1, .int l1), (2, .int l2)]) hx hb dX6_usefulShelves_63 hl (k := 3) rfl rfl (by decide) rfl (fun ls hl => ?_)
        refine lv_goto (tgt := 4) hx hb dX6_usefulShelves_66 (by decide) ?_
        exact ih kx69 hkx69 l1 l2 (l3 + (1 : Int32)) hf _ (lv_sub hl [1, 2, 3, 0] rfl)
  have hl := lv_entry ([.ref (a 0), .int a1]) (n := 5) (Nat.le_of_ble_eq_true rfl)
  rw [lg_entry_eq]
  generalize (lg_sl ([.ref (a 0), .int a1]) ++ List.replicate (5 - (lg_sl ([.ref (a 0), .int a1])).length) Slot.unset).toArray = ls at hl ⊢
  have hl : lv_has ls 5 [(0, .ref (a 0)), (1, .int a1)] := hl
  unfold fX6_usefulShelves at hf
  refine lv_iconst (v := (0 : Int32)) hx hb dX6_usefulShelves_0 (by decide) ?_
  refine lv_istore_n (lv' := [(2, .int (0 : Int32)), (0, .ref (a 0)), (1, .int a1)]) hx hb dX6_usefulShelves_1 rfl hl (by decide) rfl (fun ls hl => ?_)
  refine lv_iconst (v := (0 : Int32)) hx hb dX6_usefulShelves_2 (by decide) ?_
  refine lv_istore_n (lv' := [(3, .int (0 : Int32)), (2, .int (0 : Int32)), (0, .ref (a 0)), (1, .int a1)]) hx hb dX6_usefulShelves_3 rfl hl (by decide) rfl (fun ls hl => ?_)
  refine hfX6_usefulShelves_L4 5000 _ (fun l2 hf ls hl => ?_) a1 (0 : Int32) (0 : Int32) hf _ (lv_sub hl [2, 3, 1, 0] rfl)
  refine lv_iload_n hx hb dX6_usefulShelves_69 rfl (lv_at hl 0 rfl) ?_
  exact W.iret (v := l2) hx hb hr (fun t ht hW => ⟨congrArg (fun x => Outcome.returned (some (Value.int x))) (so_e hf), ht⟩) fl0 dX6_usefulShelves_70
set_option maxHeartbeats 4000000 in
set_option maxRecDepth 100000 in
theorem c_X6_choice (l : Launch) (dC : Nat → ClassId) (dI : Nat → Nat → Nat) (cI cZ : ClassId) (a : Nat → Nat) (M : Mem) (a1 : Int32) (z : Int32) (hf : fX6_choice M a1 = some z) : Met l yX6_choice wsX6_choice ({ frames := 2, cells := 0, slots := 0, locals := 47 } : Room) (va_Pc [.ref (a 0), .int a1] (RO (dC, dI) cI cZ (wX6 cI cZ a M))) (k2_QcV (.int z)) 0 0 (fun _ => False) := by
  refine Met.ofW (cc := cX6_choice) (maxL := 6) (ret := (some .int)) (by decide) rfl ?_
  intro p e s m args below meth c s₁ B hml hv
  obtain ⟨rfl, hP, hK, hNW⟩ := hv
  have hx := B.exec
  have hb := B.bytes
  have hr := B.returns
  have hts := atoms_spec (ws := wsX6_choice) B.pre
  have hown : s.vm.findClass RX6 = some m.cls := findClass_of_methodNamed B.named
  have hlocks := B.notSynchronized
  have hfX6_choice_B62 : ∀ (kb : Int32 → Int32 → Int32 → Int32 → Int32 → Option (Int32)) (hkb : ∀ (l1 : Int32) (l2 : Int32) (l3 : Int32) (l4 : Int32) (l5 : Int32), kb l1 l2 l3 l4 l5 = some z → ∀ (ls : Array Slot), lv_has ls 6 [(0, .ref (a 0)), (1, .int l1), (2, .int l2), (3, .int l3), (4, .int l4), (5, .int l5)] → W p l e (headSpec wsX6_choice ({ frames := 2, cells := 0, slots := 0, locals := 47 } : Room)).room s m ([.ref (a 0), .int a1] : List Value).toArray below meth c s.heap [] 0 0 (MQ below (k2_QcV (.int z)) ([.ref (a 0), .int a1] : List Value).toArray s 0 0 (fun _ => False)) (F0 m 17 ls [])) (kx68 : Int32 → Option (Int32)) (hkx68 : ∀ (l3 : Int32), kx68 l3 = some z → ∀ (ls : Array Slot), lv_has ls 6 [(3, .int l3)] → W p l e (headSpec wsX6_choice ({ frames := 2, cells := 0, slots := 0, locals := 47 } : Room)).room s m ([.ref (a 0), .int a1] : List Value).toArray below meth c s.heap [] 0 0 (MQ below (k2_QcV (.int z)) ([.ref (a 0), .int a1] : List Value).toArray s 0 0 (fun _ => False)) (F0 m 68 ls [])), ∀ (l1 : Int32) (l2 : Int32) (l3 : Int32) (l4 : Int32) (l5 : Int32), fX6_choice_B62 M kb kx68 l1 l2 l3 l4 l5 = some z → ∀ (ls : Array Slot), lv_has ls 6 [(0, .ref (a 0)), (1, .int l1), (2, .int l2), (3, .int l3), (4, .int l4), (5, .int l5)] → W p l e (headSpec wsX6_choice ({ frames := 2, cells := 0, slots := 0, locals := 47 } : Room)).room s m ([.ref (a 0), .int a1] : List Value).toArray below meth c s.heap [] 0 0 (MQ below (k2_QcV (.int z)) ([.ref (a 0), .int a1] : List Value).toArray s 0 0 (fun _ => False)) (F0 m 62 ls []) := by
    intro kb hkb kx68 hkx68 l1 l2 l3 l4 l5 hf ls hl
    unfold fX6_choice_B62 at hf
    refine lv_iinc (v := (l5 + (1 : Int32))) (lv' := [(5, .int (l5 + (1 : Int32))), (0, .ref (a 0)), (1, .int l1), (2, .int l2), (3, .int l3), (4, .int l4)]) hx hb dX6_choice_62 hl (k := 5) rfl rfl (by decide) rfl (fun ls hl => ?_)
    refine lv_goto (tgt := 17) hx hb dX6_choice_65 (by decide) ?_
    exact hkb l1 l2 l3 l4 (l5 + (1 : Int32)) hf _ (lv_sub hl [1, 2, 3, 4, 5, 0] rfl)
  have hfX6_choice_L17 : ∀ (n : Nat) (kx68 : Int32 → Option (Int32)) (hkx68 : ∀ (l3 : Int32), kx68 l3 = some z → ∀ (ls : Array Slot), lv_has ls 6 [(3, .int l3)] → W p l e (headSpec wsX6_choice ({ frames := 2, cells := 0, slots := 0, locals := 47 } : Room)).room s m ([.ref (a 0), .int a1] : List Value).toArray below meth c s.heap [] 0 0 (MQ below (k2_QcV (.int z)) ([.ref (a 0), .int a1] : List Value).toArray s 0 0 (fun _ => False)) (F0 m 68 ls [])), ∀ (l1 : Int32) (l2 : Int32) (l3 : Int32) (l4 : Int32) (l5 : Int32), fX6_choice_L17 M n kx68 l1 l2 l3 l4 l5 = some z → ∀ (ls : Array Slot), lv_has ls 6 [(0, .ref (a 0)), (1, .int l1), (2, .int l2), (3, .int l3), (4, .int l4), (5, .int l5)] → W p l e (headSpec wsX6_choice ({ frames := 2, cells := 0, slots := 0, locals := 47 } : Room)).room s m ([.ref (a 0), .int a1] : List Value).toArray below meth c s.heap [] 0 0 (MQ below (k2_QcV (.int z)) ([.ref (a 0), .int a1] : List Value).toArray s 0 0 (fun _ => False)) (F0 m 17 ls []) := by
    intro n
    induction n with
    | zero =>
      intro kx68 hkx68 l1 l2 l3 l4 l5 hf ls hl
      rw [fX6_choice_L17] at hf
      cases hf
    | succ n ih =>
      intro kx68 hkx68 l1 l2 l3 l4 l5 hf ls hl
      rw [fX6_choice_L17] at hf
      refine lv_iload hx hb dX6_choice_17 (lv_at hl 5 rfl) ?_
      refine lv_iload_n hx hb dX6_choice_19 rfl (lv_at hl 2 rfl) ?_
      refine lv_icmp_ge (tgt := 68) hx hb dX6_choice_20 (by decide) (fun c9 => ?_) (fun c9 => ?_)
      · have hf := it_t hf c9
        exact hkx68 l3 hf _ (lv_sub hl [3] rfl)
      · have hf := it_f hf c9
        refine lv_iload hx hb dX6_choice_23 (lv_at hl 5 rfl) ?_
        refine lv_iload_n hx hb dX6_choice_25 rfl (lv_at hl 2 rfl) ?_
        refine lv_iconst (v := (-1 : Int32)) hx hb dX6_choice_26 (by decide) ?_
        refine lv_ixor hx hb dX6_choice_27 ?_
        refine lv_iand hx hb dX6_choice_28 ?_
        refine lv_if_ne (tgt := 62) hx hb dX6_choice_29 (by decide) (fun c9 => ?_) (fun c9 => ?_)
        · have hf := it_t hf c9
          exact hfX6_choice_B62 _ (ih kx68 hkx68) _ hkx68 l1 l2 l3 l4 l5 hf _ (lv_sub hl [0, 1, 2, 3, 4, 5] rfl)
        · have hf := it_n hf c9
          refine lv_iload hx hb dX6_choice_32 (lv_at hl 5 rfl) ?_
          obtain ⟨r34, hc34, hf⟩ := bi_s hf
          refine cRO (W.runS (As := [.int l5]) (rest := []) ⟨hx, hb, hml, hown, hts⟩ (c_J6_bitCount_0f7a4 l l5 r34 hc34) (va_cwS 1 hts gX6_choice_J6_bitCount_0f7a4 rfl rfl rfl (by decide +kernel) ⟨Nat.le_of_ble_eq_true rfl, Nat.le_of_ble_eq_true rfl⟩) ⟨tr_blind, tr_pre⟩ rfl rfl hl.1 rfl (lv_room (Nat.le_of_ble_eq_true rfl)) dX6_choice_34 ⟨Nat.le_of_ble_eq_true rfl, Nat.le_of_ble_eq_true rfl⟩) ?_
          refine lv_iload hx hb dX6_choice_37 (lv_at hl 4 rfl) ?_
          refine lv_icmp_ge (tgt := 62) hx hb dX6_choice_39 (by decide) (fun c9 => ?_) (fun c9 => ?_)
          · have hf := it_t hf c9
            exact hfX6_choice_B62 _ (ih kx68 hkx68) _ hkx68 l1 l2 l3 l4 l5 hf _ (lv_sub hl [0, 1, 2, 3, 4, 5] rfl)
          · have hf := it_f hf c9
            refine lv_aload_n hx hb dX6_choice_42 rfl (lv_at hl 0 rfl) ?_
            refine lv_iload_n hx hb dX6_choice_43 rfl (lv_at hl 1 rfl) ?_
            refine lv_iload hx hb dX6_choice_44 (lv_at hl 5 rfl) ?_
            obtain ⟨r46, hc46, hf⟩ := bi_s hf
            have hPc := hP
            refine cRO (W.runV (As := [.int l1, .int l5]) (rest := []) ⟨hx, hb, hml, hown, hts⟩ (c_X6_isEnough l dC dI cI cZ a M l1 l5 r46 hc46) (cwV 2 hts gX6_choice_X6_isEnough rfl rfl rfl (by decide +kernel) ⟨Nat.le_of_ble_eq_true rfl, Nat.le_of_ble_eq_true rfl⟩) ⟨RO.blind, va_recv hK hP (ci := 6) (q0 := 0) rfl rfl, RO.pre hPc hK hNW⟩ rfl rfl hl.1 rfl (lv_room (Nat.le_of_ble_eq_true rfl)) dX6_choice_46 ⟨Nat.le_of_ble_eq_true rfl, Nat.le_of_ble_eq_true rfl⟩) ?_
            refine lv_if_eq (tgt := 62) hx hb dX6_choice_49 (by decide) (fun c9 => ?_) (fun c9 => ?_)
            · have hf := it_t hf c9
              exact hfX6_choice_B62 _ (ih kx68 hkx68) _ hkx68 l1 l2 l3 l4 l5 hf _ (lv_sub hl [0, 1, 2, 3, 4, 5] rfl)
            · have hf := it_f hf c9
              refine lv_iload hx hb dX6_choice_52 (lv_at hl 5 rfl) ?_
              refine lv_istore_n (lv' := [(3, .int l5), (0, .ref (a 0)), (1, .int l1), (2, .int l2), (4, .int l4), (5, .int l5)]) hx hb dX6_choice_54 rfl hl (by decide) rfl (fun ls hl => ?_)
              refine lv_iload hx hb dX6_choice_55 (lv_at hl 5 rfl) ?_
              obtain ⟨r57, hc57, hf⟩ := bi_s hf
              refine cRO (W.runS (As := [.int l5]) (rest := []) ⟨hx, hb, hml, hown, hts⟩ (c_J6_bitCount_0f7a4 l l5 r57 hc57) (va_cwS 1 hts gX6_choice_J6_bitCount_0f7a4 rfl rfl rfl (by decide +kernel) ⟨Nat.le_of_ble_eq_true rfl, Nat.le_of_ble_eq_true rfl⟩) ⟨tr_blind, tr_pre⟩ rfl rfl hl.1 rfl (lv_room (Nat.le_of_ble_eq_true rfl)) dX6_choice_57 ⟨Nat.le_of_ble_eq_true rfl, Nat.le_of_ble_eq_true rfl⟩) ?_
              refine lv_istore (lv' := [(4, .int r57), (3, .int l5), (0, .ref (a 0)), (1, .int l1), (2, .int l2), (5, .int l5)]) hx hb dX6_choice_60 hl (by decide) rfl (fun ls hl => ?_)
              exact hfX6_choice_B62 _ (ih kx68 hkx68) _ hkx68 l1 l2 l5 r57 l5 hf _ (lv_sub hl [2, 3, 4, 1, 0, 5] rfl)
  have hl := lv_entry ([.ref (a 0), .int a1]) (n := 6) (Nat.le_of_ble_eq_true rfl)
  rw [lg_entry_eq]
  generalize (lg_sl ([.ref (a 0), .int a1]) ++ List.replicate (6 - (lg_sl ([.ref (a 0), .int a1])).length) Slot.unset).toArray = ls at hl ⊢
  have hl : lv_has ls 6 [(0, .ref (a 0)), (1, .int a1)] := hl
  unfold fX6_choice at hf
  refine lv_aload_n hx hb dX6_choice_0 rfl (lv_at hl 0 rfl) ?_
  refine lv_iload_n hx hb dX6_choice_1 rfl (lv_at hl 1 rfl) ?_
  obtain ⟨r2, hc2, hf⟩ := bi_s hf
  have hPc := hP
  refine cRO (W.runV (As := [.int a1]) (rest := []) ⟨hx, hb, hml, hown, hts⟩ (c_X6_usefulShelves l dC dI cI cZ a M a1 r2 hc2) (cwV 1 hts gX6_choice_X6_usefulShelves rfl rfl rfl (by decide +kernel) ⟨Nat.le_of_ble_eq_true rfl, Nat.le_of_ble_eq_true rfl⟩) ⟨RO.blind, va_recv hK hP (ci := 6) (q0 := 0) rfl rfl, RO.pre hPc hK hNW⟩ rfl rfl hl.1 rfl (lv_room (Nat.le_of_ble_eq_true rfl)) dX6_choice_2 ⟨Nat.le_of_ble_eq_true rfl, Nat.le_of_ble_eq_true rfl⟩) ?_
  refine lv_istore_n (lv' := [(2, .int r2), (0, .ref (a 0)), (1, .int a1)]) hx hb dX6_choice_5 rfl hl (by decide) rfl (fun ls hl => ?_)
  refine lv_iload_n hx hb dX6_choice_6 rfl (lv_at hl 0 rfl) ?_
  refine lv_istore_n (lv' := [(3, .int r2), (2, .int r2), (0, .ref (a 0)), (1, .int a1)]) hx hb dX6_choice_7 rfl hl (by decide) rfl (fun ls hl => ?_)
  refine lv_iload_n hx hb dX6_choice_8 rfl (lv_at hl 1 rfl) ?_
  obtain ⟨r9, hc9, hf⟩ := bi_s hf
  refine cRO (W.runS (As := [.int r2]) (rest := []) ⟨hx, hb, hml, hown, hts⟩ (c_J6_bitCount_0f7a4 l r2 r9 hc9) (va_cwS 1 hts gX6_choice_J6_bitCount_0f7a4 rfl rfl rfl (by decide +kernel) ⟨Nat.le_of_ble_eq_true rfl, Nat.le_of_ble_eq_true rfl⟩) ⟨tr_blind, tr_pre⟩ rfl rfl hl.1 rfl (lv_room (Nat.le_of_ble_eq_true rfl)) dX6_choice_9 ⟨Nat.le_of_ble_eq_true rfl, Nat.le_of_ble_eq_true rfl⟩) ?_
  refine lv_istore (lv' := [(4, .int r9), (3, .int r2), (2, .int r2), (0, .ref (a 0)), (1, .int a1)]) hx hb dX6_choice_12 hl (by decide) rfl (fun ls hl => ?_)
  refine lv_iconst (v := (0 : Int32)) hx hb dX6_choice_14 (by decide) ?_
  refine lv_istore (lv' := [(5, .int (0 : Int32)), (4, .int r9), (3, .int r2), (2, .int r2), (0, .ref (a 0)), (1, .int a1)]) hx hb dX6_choice_15 hl (by decide) rfl (fun ls hl => ?_)
  refine hfX6_choice_L17 5000 _ (fun l3 hf ls hl => ?_) a1 r2 r2 r9 (0 : Int32) hf _ (lv_sub hl [4, 5, 3, 2, 1, 0] rfl)
  refine lv_iload_n hx hb dX6_choice_68 rfl (lv_at hl 0 rfl) ?_
  exact W.iret (v := l3) hx hb hr (fun t ht hW => ⟨congrArg (fun x => Outcome.returned (some (Value.int x))) (so_e hf), ht⟩) fl0 dX6_choice_69
set_option maxHeartbeats 4000000 in
set_option maxRecDepth 100000 in
theorem c_X6_sumTicks (l : Launch) (dC : Nat → ClassId) (dI : Nat → Nat → Nat) (cI cZ : ClassId) (a : Nat → Nat) (M : Mem) (a1 : Int32) (z : Int32) (hf : fX6_sumTicks M a1 = some z) : Met l yX6_sumTicks wsX6_sumTicks ({ frames := 1, cells := 0, slots := 0, locals := 40 } : Room) (va_Pc [.ref (a 0), .int a1] (RO (dC, dI) cI cZ (wX6 cI cZ a M))) (k2_QcV (.int z)) 0 0 (fun _ => False) := by
  refine Met.ofW (cc := cX6_sumTicks) (maxL := 6) (ret := (some .int)) (by decide) rfl ?_
  intro p e s m args below meth c s₁ B hml hv
  obtain ⟨rfl, hP, hK, hNW⟩ := hv
  have hx := B.exec
  have hb := B.bytes
  have hr := B.returns
  have hts := atoms_spec (ws := wsX6_sumTicks) B.pre
  have hown : s.vm.findClass RX6 = some m.cls := findClass_of_methodNamed B.named
  have hlocks := B.notSynchronized
  have hinX6 : ∀ w ∈ u_ws RX6 TX6 5, w ∈ wsX6_sumTicks := by decide +kernel
  have hw1 := hts (.fieldLink RX6 21 "GlideShelves$State" "lift" "LGlideShelves$Lift;") (by decide +kernel)
  have hinX2 : ∀ w ∈ u_ws RX2 TX2 7, w ∈ wsX6_sumTicks := by decide +kernel
  have hw3 := hts (.fieldLink RX6 12 "GlideShelves$State" "tower" "LGlideShelves$Tower;") (by decide +kernel)
  have hinX7 : ∀ w ∈ u_ws RX7 TX7 6, w ∈ wsX6_sumTicks := by decide +kernel
  have hw5 := hts (.methodLink RX6 91 Lib.Math.abs.name) (by decide +kernel)
  have hw6 := hts (.static Lib.Math.abs.name) (by decide +kernel)
  have hw7 := hts (.initialized "java/lang/Math") (by decide +kernel)
  have hw8 := hts (.code Lib.Math.abs.name Lib.Math.abs.code 1 (some .int)) (by decide +kernel)
  have hw9 := hts (.initialized RX7) (by decide +kernel)
  have hw10 := hts (.static yX7_wayOf) (by decide +kernel)
  have hfX6_sumTicks_B73 : ∀ (kb : Int32 → Int32 → Int32 → Int32 → Option (Int32)) (hkb : ∀ (l1 : Int32) (l2 : Int32) (l3 : Int32) (l4 : Int32), kb l1 l2 l3 l4 = some z → ∀ (ls : Array Slot), lv_has ls 6 [(0, .ref (a 0)), (1, .int l1), (2, .int l2), (3, .int l3), (4, .int l4)] → W p l e (headSpec wsX6_sumTicks ({ frames := 1, cells := 0, slots := 0, locals := 40 } : Room)).room s m ([.ref (a 0), .int a1] : List Value).toArray below meth c s.heap [] 0 0 (MQ below (k2_QcV (.int z)) ([.ref (a 0), .int a1] : List Value).toArray s 0 0 (fun _ => False)) (F0 m 13 ls [])) (kx79 : Int32 → Option (Int32)) (hkx79 : ∀ (l2 : Int32), kx79 l2 = some z → ∀ (ls : Array Slot), lv_has ls 6 [(2, .int l2)] → W p l e (headSpec wsX6_sumTicks ({ frames := 1, cells := 0, slots := 0, locals := 40 } : Room)).room s m ([.ref (a 0), .int a1] : List Value).toArray below meth c s.heap [] 0 0 (MQ below (k2_QcV (.int z)) ([.ref (a 0), .int a1] : List Value).toArray s 0 0 (fun _ => False)) (F0 m 79 ls [])), ∀ (l1 : Int32) (l2 : Int32) (l3 : Int32) (l4 : Int32), fX6_sumTicks_B73 M kb kx79 l1 l2 l3 l4 = some z → ∀ (ls : Array Slot), lv_has ls 6 [(0, .ref (a 0)), (1, .int l1), (2, .int l2), (3, .int l3), (4, .int l4)] → W p l e (headSpec wsX6_sumTicks ({ frames := 1, cells := 0, slots := 0, locals := 40 } : Room)).room s m ([.ref (a 0), .int a1] : List Value).toArray below meth c s.heap [] 0 0 (MQ below (k2_QcV (.int z)) ([.ref (a 0), .int a1] : List Value).toArray s 0 0 (fun _ => False)) (F0 m 73 ls []) := by
    intro kb hkb kx79 hkx79 l1 l2 l3 l4 hf ls hl
    unfold fX6_sumTicks_B73 at hf
    refine lv_iinc (v := (l4 + (1 : Int32))) (lv' := [(4, .int (l4 + (1 : Int32))), (0, .ref (a 0)), (1, .int l1), (2, .int l2), (3, .int l3)]) hx hb dX6_sumTicks_73 hl (k := 4) rfl rfl (by decide) rfl (fun ls hl => ?_)
    refine lv_goto (tgt := 13) hx hb dX6_sumTicks_76 (by decide) ?_
    exact hkb l1 l2 l3 (l4 + (1 : Int32)) hf _ (lv_sub hl [1, 2, 3, 4, 0] rfl)
  have hfX6_sumTicks_L13 : ∀ (n : Nat) (kx79 : Int32 → Option (Int32)) (hkx79 : ∀ (l2 : Int32), kx79 l2 = some z → ∀ (ls : Array Slot), lv_has ls 6 [(2, .int l2)] → W p l e (headSpec wsX6_sumTicks ({ frames := 1, cells := 0, slots := 0, locals := 40 } : Room)).room s m ([.ref (a 0), .int a1] : List Value).toArray below meth c s.heap [] 0 0 (MQ below (k2_QcV (.int z)) ([.ref (a 0), .int a1] : List Value).toArray s 0 0 (fun _ => False)) (F0 m 79 ls [])), ∀ (l1 : Int32) (l2 : Int32) (l3 : Int32) (l4 : Int32), fX6_sumTicks_L13 M n kx79 l1 l2 l3 l4 = some z → ∀ (ls : Array Slot), lv_has ls 6 [(0, .ref (a 0)), (1, .int l1), (2, .int l2), (3, .int l3), (4, .int l4)] → W p l e (headSpec wsX6_sumTicks ({ frames := 1, cells := 0, slots := 0, locals := 40 } : Room)).room s m ([.ref (a 0), .int a1] : List Value).toArray below meth c s.heap [] 0 0 (MQ below (k2_QcV (.int z)) ([.ref (a 0), .int a1] : List Value).toArray s 0 0 (fun _ => False)) (F0 m 13 ls []) := by
    intro n
    induction n with
    | zero =>
      intro kx79 hkx79 l1 l2 l3 l4 hf ls hl
      rw [fX6_sumTicks_L13] at hf
      cases hf
    | succ n ih =>
      intro kx79 hkx79 l1 l2 l3 l4 hf ls hl
      rw [fX6_sumTicks_L13] at hf
      refine lv_iload hx hb dX6_sumTicks_13 (lv_at hl 4 rfl) ?_
      refine lv_aload_n hx hb dX6_sumTicks_15 rfl (lv_at hl 0 rfl) ?_
      refine va_get (D := (dC, dI)) (ci := 6) (v := .ref (a 1)) (C := RX6) (T := TX6) (N := 5) hx hb hts hinX6 hown hK hP 0 rfl rfl 0 (by decide) hw3 (fun _ h9 => h9) rfl dX6_sumTicks_16 ?_
      refine va_getN (D := (dC, dI)) (ci := 7) (v := .int (M 1 0)) (C := RX7) (T := TX7) (N := 6) hx hb hts hinX7 hown hK hP 1 rfl rfl 0 (by decide) (nw36 hNW) (fun _ h9 => h9) rfl dX6_sumTicks_19 ?_
      refine lv_icmp_ge (tgt := 79) hx hb dX6_sumTicks_22 (by decide) (fun c9 => ?_) (fun c9 => ?_)
      · have hf := it_t hf c9
        exact hkx79 l2 hf _ (lv_sub hl [2] rfl)
      · have hf := it_f hf c9
        refine lv_iload_n hx hb dX6_sumTicks_25 rfl (lv_at hl 1 rfl) ?_
        refine lv_iload hx hb dX6_sumTicks_26 (lv_at hl 4 rfl) ?_
        refine lv_ishr hx hb dX6_sumTicks_28 ?_
        refine lv_iconst (v := (1 : Int32)) hx hb dX6_sumTicks_29 (by decide) ?_
        refine lv_iand hx hb dX6_sumTicks_30 ?_
        refine lv_if_eq (tgt := 73) hx hb dX6_sumTicks_31 (by decide) (fun c9 => ?_) (fun c9 => ?_)
        · have hf := it_t hf c9
          exact hfX6_sumTicks_B73 _ (ih kx79 hkx79) _ hkx79 l1 l2 l3 l4 hf _ (lv_sub hl [0, 1, 2, 3, 4] rfl)
        · have hf := it_f hf c9
          refine lv_aload_n hx hb dX6_sumTicks_34 rfl (lv_at hl 0 rfl) ?_
          refine va_get (D := (dC, dI)) (ci := 6) (v := .ref (a 1)) (C := RX6) (T := TX6) (N := 5) hx hb hts hinX6 hown hK hP 0 rfl rfl 0 (by decide) hw3 (fun _ h9 => h9) rfl dX6_sumTicks_35 ?_
          refine va_getN (D := (dC, dI)) (ci := 7) (v := .ref (a 3)) (C := RX7) (T := TX7) (N := 6) hx hb hts hinX7 hown hK hP 1 rfl rfl 3 (by decide) (nw38 hNW) (fun _ h9 => h9) rfl dX6_sumTicks_38 ?_
          refine lv_iload hx hb dX6_sumTicks_41 (lv_at hl 4 rfl) ?_
          obtain ⟨hi, hf⟩ := gd_s hf
          refine va_iald (D := (dC, dI)) (f := (M 3)) hx hb hK hP 3 0 rfl rfl (inb_in hi) dX6_sumTicks_43 ?_
          refine lv_istore (lv' := [(5, .int (M 3 l4.toNatClampNeg)), (0, .ref (a 0)), (1, .int l1), (2, .int l2), (3, .int l3), (4, .int l4)]) hx hb dX6_sumTicks_44 hl (by decide) rfl (fun ls hl => ?_)
          refine lv_iload_n hx hb dX6_sumTicks_46 rfl (lv_at hl 3 rfl) ?_
          refine lv_iload_n hx hb dX6_sumTicks_47 rfl (lv_at hl 4 rfl) ?_
          refine lv_iload hx hb dX6_sumTicks_48 (lv_at hl 0 rfl) ?_
          refine lv_bipush (v := (20 : Int32)) hx hb dX6_sumTicks_50 (by decide) ?_
          refine lv_irem hx hb dX6_sumTicks_52 (by decide) ?_
          refine lv_isub hx hb dX6_sumTicks_53 ?_
          refine va_mabs hx hb (hml.trans hl.1.symm) hown hw5 hw6 hw7 hw8 (Nat.le_of_ble_eq_true rfl) (Nat.le_of_ble_eq_true rfl) (Nat.le_of_ble_eq_true rfl) (Nat.le_of_ble_eq_true rfl) dX6_sumTicks_54 ?_
          refine lv_iconst (v := (2 : Int32)) hx hb dX6_sumTicks_57 (by decide) ?_
          refine lv_iload hx hb dX6_sumTicks_58 (lv_at hl 0 rfl) ?_
          obtain ⟨r60, hc60, hf⟩ := bi_s hf
          refine cRO (va_Run.run (va_runSN (As := [.int (M 3 l4.toNatClampNeg)]) (rest := [.int (2 : Int32), .int (if 0 ≤ (l3 - ((M 3 l4.toNatClampNeg) - (M 3 l4.toNatClampNeg) / (20 : Int32) * (20 : Int32))) then (l3 - ((M 3 l4.toNatClampNeg) - (M 3 l4.toNatClampNeg) / (20 : Int32) * (20 : Int32))) else 0 - (l3 - ((M 3 l4.toNatClampNeg) - (M 3 l4.toNatClampNeg) / (20 : Int32) * (20 : Int32)))), .int l2]) ⟨hx, hb, hml, hown, hts⟩ (c_X7_wayOf l (M 3 l4.toNatClampNeg) r60 hc60) ⟨va_cnB 1 hts gX6_sumTicks_X7_wayOf_n94 rfl rfl rfl (nw111 hNW) hw9 (by decide +kernel) ⟨Nat.le_of_ble_eq_true rfl, Nat.le_of_ble_eq_true rfl⟩, hw10, trivial⟩ ⟨tr_blind, tr_pre⟩ rfl rfl hl.1 rfl (lv_room (Nat.le_of_ble_eq_true rfl)) dX6_sumTicks_60 ⟨Nat.le_of_ble_eq_true rfl, Nat.le_of_ble_eq_true rfl⟩)) ?_
          refine lv_imul hx hb dX6_sumTicks_63 ?_
          refine lv_iadd hx hb dX6_sumTicks_64 ?_
          refine lv_iadd hx hb dX6_sumTicks_65 ?_
          refine lv_istore_n (lv' := [(2, .int (l2 + ((if 0 ≤ (l3 - ((M 3 l4.toNatClampNeg) - (M 3 l4.toNatClampNeg) / (20 : Int32) * (20 : Int32))) then (l3 - ((M 3 l4.toNatClampNeg) - (M 3 l4.toNatClampNeg) / (20 : Int32) * (20 : Int32))) else 0 - (l3 - ((M 3 l4.toNatClampNeg) - (M 3 l4.toNatClampNeg) / (20 : Int32) * (20 : Int32)))) + ((2 : Int32) * r60)))), (5, .int (M 3 l4.toNatClampNeg)), (0, .ref (a 0)), (1, .int l1), (3, .int l3), (4, .int l4)]) hx hb dX6_sumTicks_66 rfl hl (by decide) rfl (fun ls hl => ?_)
          refine lv_iload hx hb dX6_sumTicks_67 (lv_at hl 1 rfl) ?_
          refine lv_bipush (v := (20 : Int32)) hx hb dX6_sumTicks_69 (by decide) ?_
          refine lv_irem hx hb dX6_sumTicks_71 (by decide) ?_
          refine lv_istore_n (lv' := [(3, .int ((M 3 l4.toNatClampNeg) - (M 3 l4.toNatClampNeg) / (20 : Int32) * (20 : Int32))), (2, .int (l2 + ((if 0 ≤ (l3 - ((M 3 l4.toNatClampNeg) - (M 3 l4.toNatClampNeg) / (20 : Int32) * (20 : Int32))) then (l3 - ((M 3 l4.toNatClampNeg) - (M 3 l4.toNatClampNeg) / (20 : Int32) * (20 : Int32))) else 0 - (l3 - ((M 3 l4.toNatClampNeg) - (M 3 l4.toNatClampNeg) / (20 : Int32) * (20 : Int32)))) + ((2 : Int32) * r60)))), (5, .int (M 3 l4.toNatClampNeg)), (0, .ref (a 0)), (1, .int l1), (4, .int l4)]) hx hb dX6_sumTicks_72 rfl hl (by decide) rfl (fun ls hl => ?_)
          exact hfX6_sumTicks_B73 _ (ih kx79 hkx79) _ hkx79 l1 (l2 + ((if 0 ≤ (l3 - ((M 3 l4.toNatClampNeg) - (M 3 l4.toNatClampNeg) / (20 : Int32) * (20 : Int32))) then (l3 - ((M 3 l4.toNatClampNeg) - (M 3 l4.toNatClampNeg) / (20 : Int32) * (20 : Int32))) else 0 - (l3 - ((M 3 l4.toNatClampNeg) - (M 3 l4.toNatClampNeg) / (20 : Int32) * (20 : Int32)))) + ((2 : Int32) * r60))) ((M 3 l4.toNatClampNeg) - (M 3 l4.toNatClampNeg) / (20 : Int32) * (20 : Int32)) l4 hf _ (lv_sub hl [3, 4, 1, 0, 5] rfl)
  have hl := lv_entry ([.ref (a 0), .int a1]) (n := 6) (Nat.le_of_ble_eq_true rfl)
  rw [lg_entry_eq]
  generalize (lg_sl ([.ref (a 0), .int a1]) ++ List.replicate (6 - (lg_sl ([.ref (a 0), .int a1])).length) Slot.unset).toArray = ls at hl ⊢
  have hl : lv_has ls 6 [(0, .ref (a 0)), (1, .int a1)] := hl
  unfold fX6_sumTicks at hf
  refine lv_iconst (v := (0 : Int32)) hx hb dX6_sumTicks_0 (by decide) ?_
  refine lv_istore_n (lv' := [(2, .int (0 : Int32)), (0, .ref (a 0)), (1, .int a1)]) hx hb dX6_sumTicks_1 rfl hl (by decide) rfl (fun ls hl => ?_)
  refine lv_aload_n hx hb dX6_sumTicks_2 rfl (lv_at hl 1 rfl) ?_
  refine va_get (D := (dC, dI)) (ci := 6) (v := .ref (a 6)) (C := RX6) (T := TX6) (N := 5) hx hb hts hinX6 hown hK hP 0 rfl rfl 1 (by decide) hw1 (fun _ h9 => h9) rfl dX6_sumTicks_3 ?_
  refine va_getN (D := (dC, dI)) (ci := 2) (v := .int (M 6 0)) (C := RX2) (T := TX2) (N := 7) hx hb hts hinX2 hown hK hP 6 rfl rfl 0 (by decide) (nw40 hNW) (fun _ h9 => h9) rfl dX6_sumTicks_6 ?_
  refine lv_istore_n (lv' := [(3, .int (M 6 0)), (2, .int (0 : Int32)), (0, .ref (a 0)), (1, .int a1)]) hx hb dX6_sumTicks_9 rfl hl (by decide) rfl (fun ls hl => ?_)
  refine lv_iconst (v := (0 : Int32)) hx hb dX6_sumTicks_10 (by decide) ?_
  refine lv_istore (lv' := [(4, .int (0 : Int32)), (3, .int (M 6 0)), (2, .int (0 : Int32)), (0, .ref (a 0)), (1, .int a1)]) hx hb dX6_sumTicks_11 hl (by decide) rfl (fun ls hl => ?_)
  refine hfX6_sumTicks_L13 5000 _ (fun l2 hf ls hl => ?_) a1 (0 : Int32) (M 6 0) (0 : Int32) hf _ (lv_sub hl [3, 4, 2, 1, 0] rfl)
  refine lv_iload_n hx hb dX6_sumTicks_79 rfl (lv_at hl 0 rfl) ?_
  exact W.iret (v := l2) hx hb hr (fun t ht hW => ⟨congrArg (fun x => Outcome.returned (some (Value.int x))) (so_e hf), ht⟩) fl0 dX6_sumTicks_80
