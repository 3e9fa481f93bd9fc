set_option maxHeartbeats 4000000 in
set_option maxRecDepth 100000 in
theorem c_X8_hashShelves (l : Launch) (dC : Nat → ClassId) (dI : Nat → Nat → Nat) (cI cZ cS : ClassId) (f g : Nat → Option Nat) (a : Nat → Nat) (M : Mem) (a1 : Int64) (z : Int64) (hf : fX8_hashShelves M a1 = some z) : Met l yX8_hashShelves wsX8_hashShelves ({ frames := 3, cells := 0, slots := 0, locals := 66 } : Room) (va_Pc [.ref (a 0), .long a1] (RO8 (dC, dI) cI cZ cS (wX8 cI cZ cS f g a M))) (k2_QcV (.long z)) 0 0 (fun _ => False) := by
  refine Met.ofW (cc := cX8_hashShelves) (maxL := 7) (ret := (some .long)) (by decide) rfl ?_
  intro p e s m args below meth c s₁ B hml hv
  obtain ⟨rfl, hP, hK, hNW⟩ := hv
  have hK2 : va_K (dC, dI) vwCl [(cI, .int), (cZ, .boolean)] s := hK.sub (tys' := [(cI, .int), (cZ, .boolean)]) [0, 1] rfl
  have hx := B.exec
  have hb := B.bytes
  have hr := B.returns
  have hts := atoms_spec (ws := wsX8_hashShelves) B.pre
  have hown : s.vm.findClass RX8 = some m.cls := findClass_of_methodNamed B.named
  have hlocks := B.notSynchronized
  have hinX8 : ∀ w ∈ u_ws RX8 TX8 6, w ∈ wsX8_hashShelves := by decide +kernel
  have hw1 := hts (.fieldLink RX8 12 "GlideShelves" "now" "LGlideShelves$State;") (by decide +kernel)
  have hinX6 : ∀ w ∈ u_ws RX6 TX6 5, w ∈ wsX8_hashShelves := by decide +kernel
  have hinX7 : ∀ w ∈ u_ws RX7 TX7 6, w ∈ wsX8_hashShelves := by decide +kernel
  have hfX8_hashShelves_L78 : ∀ (n : Nat) (kx105 : Int64 → Int32 → Option (Int64)) (hkx105 : ∀ (l3 : Int64) (l5 : Int32), kx105 l3 l5 = some z → ∀ (ls : Array Slot), lv_has ls 7 [(0, .ref (a 0)), (3, .long l3), (5, .int l5)] → W p l e (headSpec wsX8_hashShelves ({ frames := 3, cells := 0, slots := 0, locals := 66 } : Room)).room s m ([.ref (a 0), .long a1] : List Value).toArray below meth c s.heap [] 0 0 (MQ below (k2_QcV (.long z)) ([.ref (a 0), .long a1] : List Value).toArray s 0 0 (fun _ => False)) (F0 m 105 ls [])), ∀ (l3 : Int64) (l5 : Int32) (l6 : Int32), fX8_hashShelves_L78 M n kx105 l3 l5 l6 = some z → ∀ (ls : Array Slot), lv_has ls 7 [(0, .ref (a 0)), (3, .long l3), (5, .int l5), (6, .int l6)] → W p l e (headSpec wsX8_hashShelves ({ frames := 3, cells := 0, slots := 0, locals := 66 } : Room)).room s m ([.ref (a 0), .long a1] : List Value).toArray below meth c s.heap [] 0 0 (MQ below (k2_QcV (.long z)) ([.ref (a 0), .long a1] : List Value).toArray s 0 0 (fun _ => False)) (F0 m 78 ls []) := by
    intro n
    induction n with
    | zero =>
      intro kx105 hkx105 l3 l5 l6 hf ls hl
      rw [fX8_hashShelves_L78] at hf
      cases hf
    | succ n ih =>
      intro kx105 hkx105 l3 l5 l6 hf ls hl
      rw [fX8_hashShelves_L78] at hf
      refine lv_iload hx hb dX8_hashShelves_78 (lv_at hl 3 rfl) ?_
      refine lv_bipush (v := (10 : Int32)) hx hb dX8_hashShelves_80 (by decide) ?_
      refine lv_icmp_ge (tgt := 105) hx hb dX8_hashShelves_82 (by decide) (fun c9 => ?_) (fun c9 => ?_)
      · have hf := it_t hf c9
        exact hkx105 l3 l5 hf _ (lv_sub hl [0, 1, 2] rfl)
      · have hf := it_f hf c9
        refine lv_lload_n hx hb dX8_hashShelves_85 rfl (lv_at hl 1 rfl) ?_
        refine lv_aload_n hx hb dX8_hashShelves_86 rfl (lv_at hl 0 rfl) ?_
        refine lv_iload hx hb dX8_hashShelves_87 (lv_at hl 2 rfl) ?_
        refine lv_iload hx hb dX8_hashShelves_89 (lv_at hl 3 rfl) ?_
        obtain ⟨r91, hc91, hf⟩ := bi_s hf
        rcases r91 with E9 | r91
        · exact absurd hf (fun h => nomatch h)
        have hf := sel_r hf
        refine cRO (W.runV (As := [.int l5, .int l6]) (rest := [.long l3]) ⟨hx, hb, hml, hown, hts⟩ (n_X8_thingsIn l dC dI cI cZ cS f g a M l5 l6 r91 hc91) (cwV 2 hts gX8_hashShelves_X8_thingsIn rfl rfl rfl (by decide +kernel) ⟨Nat.le_of_ble_eq_true rfl, Nat.le_of_ble_eq_true rfl⟩) ⟨RO8.blind, va_recv hK hP (ci := 8) (q0 := 0) rfl rfl, RO8.pre hP hK hNW⟩ rfl rfl hl.1 rfl (lv_room (Nat.le_of_ble_eq_true rfl)) dX8_hashShelves_91 ⟨Nat.le_of_ble_eq_true rfl, Nat.le_of_ble_eq_true rfl⟩) ?_
        refine lv_i2l (v := r91.toInt64) hx hb dX8_hashShelves_94 rfl ?_
        obtain ⟨r95, hc95, hf⟩ := bi_s hf
        refine cRO (W.runS (As := [.long l3, .long (r91.toInt64)]) (rest := []) ⟨hx, hb, hml, hown, hts⟩ (c_X8_hashOn l l3 (r91.toInt64) r95 hc95) (va_cwS 2 hts gX8_hashShelves_X8_hashOn rfl rfl rfl (by decide +kernel) ⟨Nat.le_of_ble_eq_true rfl, Nat.le_of_ble_eq_true rfl⟩) ⟨tr_blind, tr_pre⟩ rfl rfl hl.1 rfl (lv_room (Nat.le_of_ble_eq_true rfl)) dX8_hashShelves_95 ⟨Nat.le_of_ble_eq_true rfl, Nat.le_of_ble_eq_true rfl⟩) ?_
        refine lv_lstore_n (lv' := [(3, .long r95), (0, .ref (a 0)), (5, .int l5), (6, .int l6)]) hx hb dX8_hashShelves_98 rfl hl (by decide) rfl (fun ls hl => ?_)
        refine lv_iinc (v := (l6 + (1 : Int32))) (lv' := [(6, .int (l6 + (1 : Int32))), (3, .long r95), (0, .ref (a 0)), (5, .int l5)]) hx hb dX8_hashShelves_99 hl (k := 3) rfl rfl (by decide) rfl (fun ls hl => ?_)
        refine lv_goto (tgt := 78) hx hb dX8_hashShelves_102 (by decide) ?_
        exact ih kx105 hkx105 r95 l5 (l6 + (1 : Int32)) hf _ (lv_sub hl [2, 1, 3, 0] rfl)
  have hfX8_hashShelves_L13 : ∀ (n : Nat) (kx135 : Int64 → Option (Int64)) (hkx135 : ∀ (l3 : Int64), kx135 l3 = some z → ∀ (ls : Array Slot), lv_has ls 7 [(3, .long l3)] → W p l e (headSpec wsX8_hashShelves ({ frames := 3, cells := 0, slots := 0, locals := 66 } : Room)).room s m ([.ref (a 0), .long a1] : List Value).toArray below meth c s.heap [] 0 0 (MQ below (k2_QcV (.long z)) ([.ref (a 0), .long a1] : List Value).toArray s 0 0 (fun _ => False)) (F0 m 135 ls [])), ∀ (l3 : Int64) (l5 : Int32), fX8_hashShelves_L13 M n kx135 l3 l5 = some z → ∀ (ls : Array Slot), lv_has ls 7 [(0, .ref (a 0)), (3, .long l3), (5, .int l5)] → W p l e (headSpec wsX8_hashShelves ({ frames := 3, cells := 0, slots := 0, locals := 66 } : Room)).room s m ([.ref (a 0), .long a1] : List Value).toArray below meth c s.heap [] 0 0 (MQ below (k2_QcV (.long z)) ([.ref (a 0), .long a1] : List Value).toArray s 0 0 (fun _ => False)) (F0 m 13 ls []) := by
    intro n
    induction n with
    | zero =>
      intro kx135 hkx135 l3 l5 hf ls hl
      rw [fX8_hashShelves_L13] at hf
      cases hf
    | succ n ih =>
      intro kx135 hkx135 l3 l5 hf ls hl
      rw [fX8_hashShelves_L13] at hf
      refine lv_iload hx hb dX8_hashShelves_13 (lv_at hl 2 rfl) ?_
      refine lv_aload_n hx hb dX8_hashShelves_15 rfl (lv_at hl 0 rfl) ?_
      refine va_get (D := (dC, dI)) (ci := 8) (v := .ref (a 1)) (C := RX8) (T := TX8) (N := 6) hx hb hts hinX8 hown hK hP 0 rfl rfl 0 (by decide) hw1 (fun _ h9 => h9) rfl dX8_hashShelves_16 ?_
      refine va_getN (D := (dC, dI)) (ci := 6) (v := .ref (a 2)) (C := RX6) (T := TX6) (N := 5) hx hb hts hinX6 hown hK hP 1 rfl rfl 0 (by decide) (nw24 hNW) (fun _ h9 => h9) rfl dX8_hashShelves_19 ?_
      refine va_getN (D := (dC, dI)) (ci := 7) (v := .int (M 2 0)) (C := RX7) (T := TX7) (N := 6) hx hb hts hinX7 hown hK hP 2 rfl rfl 0 (by decide) (nw25 hNW) (fun _ h9 => h9) rfl dX8_hashShelves_22 ?_
      refine lv_icmp_ge (tgt := 135) hx hb dX8_hashShelves_25 (by decide) (fun c9 => ?_) (fun c9 => ?_)
      · have hf := it_t hf c9
        exact hkx135 l3 hf _ (lv_sub hl [1] rfl)
      · have hf := it_f hf c9
        refine lv_lload_n hx hb dX8_hashShelves_28 rfl (lv_at hl 1 rfl) ?_
        refine lv_aload_n hx hb dX8_hashShelves_29 rfl (lv_at hl 0 rfl) ?_
        refine lv_iload hx hb dX8_hashShelves_30 (lv_at hl 2 rfl) ?_
        obtain ⟨r32, hc32, hf⟩ := bi_s hf
        rcases r32 with E9 | r32
        · exact absurd hf (fun h => nomatch h)
        have hf := sel_r hf
        refine cRO (W.runV (As := [.int l5]) (rest := [.long l3]) ⟨hx, hb, hml, hown, hts⟩ (n_X8_heightOf l dC dI cI cZ cS f g a M l5 r32 hc32) (cwV 1 hts gX8_hashShelves_X8_heightOf rfl rfl rfl (by decide +kernel) ⟨Nat.le_of_ble_eq_true rfl, Nat.le_of_ble_eq_true rfl⟩) ⟨RO8.blind, va_recv hK hP (ci := 8) (q0 := 0) rfl rfl, RO8.pre hP hK hNW⟩ rfl rfl hl.1 rfl (lv_room (Nat.le_of_ble_eq_true rfl)) dX8_hashShelves_32 ⟨Nat.le_of_ble_eq_true rfl, Nat.le_of_ble_eq_true rfl⟩) ?_
        refine lv_i2l (v := r32.toInt64) hx hb dX8_hashShelves_35 rfl ?_
        obtain ⟨r36, hc36, hf⟩ := bi_s hf
        refine cRO (W.runS (As := [.long l3, .long (r32.toInt64)]) (rest := []) ⟨hx, hb, hml, hown, hts⟩ (c_X8_hashOn l l3 (r32.toInt64) r36 hc36) (va_cwS 2 hts gX8_hashShelves_X8_hashOn rfl rfl rfl (by decide +kernel) ⟨Nat.le_of_ble_eq_true rfl, Nat.le_of_ble_eq_true rfl⟩) ⟨tr_blind, tr_pre⟩ rfl rfl hl.1 rfl (lv_room (Nat.le_of_ble_eq_true rfl)) dX8_hashShelves_36 ⟨Nat.le_of_ble_eq_true rfl, Nat.le_of_ble_eq_true rfl⟩) ?_
        refine lv_lstore_n (lv' := [(3, .long r36), (0, .ref (a 0)), (5, .int l5)]) hx hb dX8_hashShelves_39 rfl hl (by decide) rfl (fun ls hl => ?_)
        refine lv_lload_n hx hb dX8_hashShelves_40 rfl (lv_at hl 0 rfl) ?_
        refine lv_aload_n hx hb dX8_hashShelves_41 rfl (lv_at hl 1 rfl) ?_
        refine lv_iload hx hb dX8_hashShelves_42 (lv_at hl 2 rfl) ?_
        obtain ⟨r44, hc44, hf⟩ := bi_s hf
        rcases r44 with E9 | r44
        · exact absurd hf (fun h => nomatch h)
        have hf := sel_r hf
        refine cRO (W.runV (As := [.int l5]) (rest := [.long r36]) ⟨hx, hb, hml, hown, hts⟩ (n_X8_sideOf l dC dI cI cZ cS f g a M l5 r44 hc44) (cwV 1 hts gX8_hashShelves_X8_sideOf rfl rfl rfl (by decide +kernel) ⟨Nat.le_of_ble_eq_true rfl, Nat.le_of_ble_eq_true rfl⟩) ⟨RO8.blind, va_recv hK hP (ci := 8) (q0 := 0) rfl rfl, RO8.pre hP hK hNW⟩ rfl rfl hl.1 rfl (lv_room (Nat.le_of_ble_eq_true rfl)) dX8_hashShelves_44 ⟨Nat.le_of_ble_eq_true rfl, Nat.le_of_ble_eq_true rfl⟩) ?_
        refine lv_i2l (v := r44.toInt64) hx hb dX8_hashShelves_47 rfl ?_
        obtain ⟨r48, hc48, hf⟩ := bi_s hf
        refine cRO (W.runS (As := [.long r36, .long (r44.toInt64)]) (rest := []) ⟨hx, hb, hml, hown, hts⟩ (c_X8_hashOn l r36 (r44.toInt64) r48 hc48) (va_cwS 2 hts gX8_hashShelves_X8_hashOn rfl rfl rfl (by decide +kernel) ⟨Nat.le_of_ble_eq_true rfl, Nat.le_of_ble_eq_true rfl⟩) ⟨tr_blind, tr_pre⟩ rfl rfl hl.1 rfl (lv_room (Nat.le_of_ble_eq_true rfl)) dX8_hashShelves_48 ⟨Nat.le_of_ble_eq_true rfl, Nat.le_of_ble_eq_true rfl⟩) ?_
        refine lv_lstore_n (lv' := [(3, .long r48), (0, .ref (a 0)), (5, .int l5)]) hx hb dX8_hashShelves_51 rfl hl (by decide) rfl (fun ls hl => ?_)
        refine lv_lload_n hx hb dX8_hashShelves_52 rfl (lv_at hl 0 rfl) ?_
        refine lv_aload_n hx hb dX8_hashShelves_53 rfl (lv_at hl 1 rfl) ?_
        refine lv_iload hx hb dX8_hashShelves_54 (lv_at hl 2 rfl) ?_
        obtain ⟨r56, hc56, hf⟩ := bi_s hf
        rcases r56 with E9 | r56
        · exact absurd hf (fun h => nomatch h)
        have hf := sel_r hf
        refine cRO (W.runV (As := [.int l5]) (rest := [.long r48]) ⟨hx, hb, hml, hown, hts⟩ (n_X8_slotOf l dC dI cI cZ cS f g a M l5 r56 hc56) (cwV 1 hts gX8_hashShelves_X8_slotOf rfl rfl rfl (by decide +kernel) ⟨Nat.le_of_ble_eq_true rfl, Nat.le_of_ble_eq_true rfl⟩) ⟨RO8.blind, va_recv hK hP (ci := 8) (q0 := 0) rfl rfl, RO8.pre hP hK hNW⟩ rfl rfl hl.1 rfl (lv_room (Nat.le_of_ble_eq_true rfl)) dX8_hashShelves_56 ⟨Nat.le_of_ble_eq_true rfl, Nat.le_of_ble_eq_true rfl⟩) ?_
        refine lv_i2l (v := r56.toInt64) hx hb dX8_hashShelves_59 rfl ?_
        obtain ⟨r60, hc60, hf⟩ := bi_s hf
        refine cRO (W.runS (As := [.long r48, .long (r56.toInt64)]) (rest := []) ⟨hx, hb, hml, hown, hts⟩ (c_X8_hashOn l r48 (r56.toInt64) r60 hc60) (va_cwS 2 hts gX8_hashShelves_X8_hashOn rfl rfl rfl (by decide +kernel) ⟨Nat.le_of_ble_eq_true rfl, Nat.le_of_ble_eq_true rfl⟩) ⟨tr_blind, tr_pre⟩ rfl rfl hl.1 rfl (lv_room (Nat.le_of_ble_eq_true rfl)) dX8_hashShelves_60 ⟨Nat.le_of_ble_eq_true rfl, Nat.le_of_ble_eq_true rfl⟩) ?_
        refine lv_lstore_n (lv' := [(3, .long r60), (0, .ref (a 0)), (5, .int l5)]) hx hb dX8_hashShelves_63 rfl hl (by decide) rfl (fun ls hl => ?_)
        refine lv_lload_n hx hb dX8_hashShelves_64 rfl (lv_at hl 0 rfl) ?_
        refine lv_aload_n hx hb dX8_hashShelves_65 rfl (lv_at hl 1 rfl) ?_
        refine lv_iload hx hb dX8_hashShelves_66 (lv_at hl 2 rfl) ?_
        obtain ⟨r68, hc68, hf⟩ := bi_s hf
        rcases r68 with E9 | r68
        · exact absurd hf (fun h => nomatch h)
        have hf := sel_r hf
        refine cRO (W.runV (As := [.int l5]) (rest := [.long r60]) ⟨hx, hb, hml, hown, hts⟩ (n_X8_isAtWindow l dC dI cI cZ cS f g a M l5 r68 hc68) (cwV 1 hts gX8_hashShelves_X8_isAtWindow rfl rfl rfl (by decide +kernel) ⟨Nat.le_of_ble_eq_true rfl, Nat.le_of_ble_eq_true rfl⟩) ⟨RO8.blind, va_recv hK hP (ci := 8) (q0 := 0) rfl rfl, RO8.pre hP hK hNW⟩ rfl rfl hl.1 rfl (lv_room (Nat.le_of_ble_eq_true rfl)) dX8_hashShelves_68 ⟨Nat.le_of_ble_eq_true rfl, Nat.le_of_ble_eq_true rfl⟩) ?_
        obtain ⟨r71, hc71, hf⟩ := bi_s hf
        refine cRO (W.runS (As := [.long r60, .int r68]) (rest := []) ⟨hx, hb, hml, hown, hts⟩ (c_X8_hashOn_ l r60 r68 r71 hc71) (va_cwS 2 hts gX8_hashShelves_X8_hashOn_ rfl rfl rfl (by decide +kernel) ⟨Nat.le_of_ble_eq_true rfl, Nat.le_of_ble_eq_true rfl⟩) ⟨tr_blind, tr_pre⟩ rfl rfl hl.1 rfl (lv_room (Nat.le_of_ble_eq_true rfl)) dX8_hashShelves_71 ⟨Nat.le_of_ble_eq_true rfl, Nat.le_of_ble_eq_true rfl⟩) ?_
        refine lv_lstore_n (lv' := [(3, .long r71), (0, .ref (a 0)), (5, .int l5)]) hx hb dX8_hashShelves_74 rfl hl (by decide) rfl (fun ls hl => ?_)
        refine lv_iconst (v := (0 : Int32)) hx hb dX8_hashShelves_75 (by decide) ?_
        refine lv_istore (lv' := [(6, .int (0 : Int32)), (3, .long r71), (0, .ref (a 0)), (5, .int l5)]) hx hb dX8_hashShelves_76 hl (by decide) rfl (fun ls hl => ?_)
        refine hfX8_hashShelves_L78 5000 _ (fun l3 l5 hf ls hl => ?_) r71 l5 (0 : Int32) hf _ (lv_sub hl [2, 1, 3, 0] rfl)
        refine lv_lload_n hx hb dX8_hashShelves_105 rfl (lv_at hl 1 rfl) ?_
        refine lv_aload_n hx hb dX8_hashShelves_106 rfl (lv_at hl 0 rfl) ?_
        refine lv_iload hx hb dX8_hashShelves_107 (lv_at hl 2 rfl) ?_
        obtain ⟨r109, hc109, hf⟩ := bi_s hf
        rcases r109 with E9 | r109
        · exact absurd hf (fun h => nomatch h)
        have hf := sel_r hf
        refine cRO (W.runV (As := [.int l5]) (rest := [.long l3]) ⟨hx, hb, hml, hown, hts⟩ (n_X8_weightOf l dC dI cI cZ cS f g a M l5 r109 hc109) (cwV 1 hts gX8_hashShelves_X8_weightOf rfl rfl rfl (by decide +kernel) ⟨Nat.le_of_ble_eq_true rfl, Nat.le_of_ble_eq_true rfl⟩) ⟨RO8.blind, va_recv hK hP (ci := 8) (q0 := 0) rfl rfl, RO8.pre hP hK hNW⟩ rfl rfl hl.1 rfl (lv_room (Nat.le_of_ble_eq_true rfl)) dX8_hashShelves_109 ⟨Nat.le_of_ble_eq_true rfl, Nat.le_of_ble_eq_true rfl⟩) ?_
        refine lv_i2l (v := r109.toInt64) hx hb dX8_hashShelves_112 rfl ?_
        obtain ⟨r113, hc113, hf⟩ := bi_s hf
        refine cRO (W.runS (As := [.long l3, .long (r109.toInt64)]) (rest := []) ⟨hx, hb, hml, hown, hts⟩ (c_X8_hashOn l l3 (r109.toInt64) r113 hc113) (va_cwS 2 hts gX8_hashShelves_X8_hashOn rfl rfl rfl (by decide +kernel) ⟨Nat.le_of_ble_eq_true rfl, Nat.le_of_ble_eq_true rfl⟩) ⟨tr_blind, tr_pre⟩ rfl rfl hl.1 rfl (lv_room (Nat.le_of_ble_eq_true rfl)) dX8_hashShelves_113 ⟨Nat.le_of_ble_eq_true rfl, Nat.le_of_ble_eq_true rfl⟩) ?_
        refine lv_lstore_n (lv' := [(3, .long r113), (0, .ref (a 0)), (5, .int l5)]) hx hb dX8_hashShelves_116 rfl hl (by decide) rfl (fun ls hl => ?_)
        refine lv_lload_n hx hb dX8_hashShelves_117 rfl (lv_at hl 0 rfl) ?_
        refine lv_aload_n hx hb dX8_hashShelves_118 rfl (lv_at hl 1 rfl) ?_
        refine lv_iload hx hb dX8_hashShelves_119 (lv_at hl 2 rfl) ?_
        obtain ⟨r121, hc121, hf⟩ := bi_s hf
        rcases r121 with E9 | r121
        · exact absurd hf (fun h => nomatch h)
        have hf := sel_r hf
        refine cRO (W.runV (As := [.int l5]) (rest := [.long r113]) ⟨hx, hb, hml, hown, hts⟩ (n_X8_fetchesOf l dC dI cI cZ cS f g a M l5 r121 hc121) (cwV 1 hts gX8_hashShelves_X8_fetchesOf rfl rfl rfl (by decide +kernel) ⟨Nat.le_of_ble_eq_true rfl, Nat.le_of_ble_eq_true rfl⟩) ⟨RO8.blind, va_recv hK hP (ci := 8) (q0 := 0) rfl rfl, RO8.pre hP hK hNW⟩ rfl rfl hl.1 rfl (lv_room (Nat.le_of_ble_eq_true rfl)) dX8_hashShelves_121 ⟨Nat.le_of_ble_eq_true rfl, Nat.le_of_ble_eq_true rfl⟩) ?_
        refine lv_i2l (v := r121.toInt64) hx hb dX8_hashShelves_124 rfl ?_
        obtain ⟨r125, hc125, hf⟩ := bi_s hf
        refine cRO (W.runS (As := [.long r113, .long (r121.toInt64)]) (rest := []) ⟨hx, hb, hml, hown, hts⟩ (c_X8_hashOn l r113 (r121.toInt64) r125 hc125) (va_cwS 2 hts gX8_hashShelves_X8_hashOn rfl rfl rfl (by decide +kernel) ⟨Nat.le_of_ble_eq_true rfl, Nat.le_of_ble_eq_true rfl⟩) ⟨tr_blind, tr_pre⟩ rfl rfl hl.1 rfl (lv_room (Nat.le_of_ble_eq_true rfl)) dX8_hashShelves_125 ⟨Nat.le_of_ble_eq_true rfl, Nat.le_of_ble_eq_true rfl⟩) ?_
        refine lv_lstore_n (lv' := [(3, .long r125), (0, .ref (a 0)), (5, .int l5)]) hx hb dX8_hashShelves_128 rfl hl (by decide) rfl (fun ls hl => ?_)
        refine lv_iinc (v := (l5 + (1 : Int32))) (lv' := [(5, .int (l5 + (1 : Int32))), (3, .long r125), (0, .ref (a 0))]) hx hb dX8_hashShelves_129 hl (k := 2) rfl rfl (by decide) rfl (fun ls hl => ?_)
        refine lv_goto (tgt := 13) hx hb dX8_hashShelves_132 (by decide) ?_
        exact ih kx135 hkx135 r125 (l5 + (1 : Int32)) hf _ (lv_sub hl [2, 1, 0] rfl)
  have hl := lv_entry ([.ref (a 0), .long a1]) (n := 7) (Nat.le_of_ble_eq_true rfl)
  rw [lg_entry_eq]
  generalize (lg_sl ([.ref (a 0), .long a1]) ++ List.replicate (7 - (lg_sl ([.ref (a 0), .long a1])).length) Slot.unset).toArray = ls at hl ⊢
  have hl : lv_has ls 7 [(0, .ref (a 0)), (1, .long a1)] := hl
  unfold fX8_hashShelves at hf
  refine lv_lload_n hx hb dX8_hashShelves_0 rfl (lv_at hl 1 rfl) ?_
  refine lv_aload_n hx hb dX8_hashShelves_1 rfl (lv_at hl 0 rfl) ?_
  obtain ⟨r2, hc2, hf⟩ := bi_s hf
  have hPc := hP
  refine cRO (W.runV (As := []) (rest := [.long a1]) ⟨hx, hb, hml, hown, hts⟩ (c_X8_shelves l dC dI cI cZ cS f g a M r2 hc2) (cwV 0 hts gX8_hashShelves_X8_shelves rfl rfl rfl (by decide +kernel) ⟨Nat.le_of_ble_eq_true rfl, Nat.le_of_ble_eq_true rfl⟩) ⟨RO8.blind, va_recv hK hP (ci := 8) (q0 := 0) rfl rfl, RO8.pre hPc hK hNW⟩ rfl rfl hl.1 rfl (lv_room (Nat.le_of_ble_eq_true rfl)) dX8_hashShelves_2 ⟨Nat.le_of_ble_eq_true rfl, Nat.le_of_ble_eq_true rfl⟩) ?_
  refine lv_i2l (v := r2.toInt64) hx hb dX8_hashShelves_5 rfl ?_
  obtain ⟨r6, hc6, hf⟩ := bi_s hf
  refine cRO (W.runS (As := [.long a1, .long (r2.toInt64)]) (rest := []) ⟨hx, hb, hml, hown, hts⟩ (c_X8_hashOn l a1 (r2.toInt64) r6 hc6) (va_cwS 2 hts gX8_hashShelves_X8_hashOn rfl rfl rfl (by decide +kernel) ⟨Nat.le_of_ble_eq_true rfl, Nat.le_of_ble_eq_true rfl⟩) ⟨tr_blind, tr_pre⟩ rfl rfl hl.1 rfl (lv_room (Nat.le_of_ble_eq_true rfl)) dX8_hashShelves_6 ⟨Nat.le_of_ble_eq_true rfl, Nat.le_of_ble_eq_true rfl⟩) ?_
  refine lv_lstore_n (lv' := [(3, .long r6), (0, .ref (a 0)), (1, .long a1)]) hx hb dX8_hashShelves_9 rfl hl (by decide) rfl (fun ls hl => ?_)
  refine lv_iconst (v := (0 : Int32)) hx hb dX8_hashShelves_10 (by decide) ?_
  refine lv_istore (lv' := [(5, .int (0 : Int32)), (3, .long r6), (0, .ref (a 0)), (1, .long a1)]) hx hb dX8_hashShelves_11 hl (by decide) rfl (fun ls hl => ?_)
  refine hfX8_hashShelves_L13 5000 _ (fun l3 hf ls hl => ?_) r6 (0 : Int32) hf _ (lv_sub hl [2, 1, 0] rfl)
  refine lv_lload_n hx hb dX8_hashShelves_135 rfl (lv_at hl 0 rfl) ?_
  exact W.lret (v := l3) hx hb hr (fun t ht hW => ⟨congrArg (fun x => Outcome.returned (some (Value.long x))) (so_e hf), ht⟩) fl0 dX8_hashShelves_136
set_option maxHeartbeats 4000000 in
set_option maxRecDepth 100000 in
theorem c_X8_hashSlots (l : Launch) (dC : Nat → ClassId) (dI : Nat → Nat → Nat) (cI cZ cS : ClassId) (f g : Nat → Option Nat) (a : Nat → Nat) (M : Mem) (a1 : Int64) (z : Int64) (hf : fX8_hashSlots M a1 = some z) : Met l yX8_hashSlots wsX8_hashSlots ({ frames := 4, cells := 0, slots := 0, locals := 90 } : Room) (va_Pc [.ref (a 0), .long a1] (RO8 (dC, dI) cI cZ cS (wX8 cI cZ cS f g a M))) (k2_QcV (.long z)) 0 0 (fun _ => False) := by
  refine Met.ofW (cc := cX8_hashSlots) (maxL := 6) (ret := (some .long)) (by decide) rfl ?_
  intro p e s m args below meth c s₁ B hml hv
  obtain ⟨rfl, hP, hK, hNW⟩ := hv
  have hK2 : va_K (dC, dI) vwCl [(cI, .int), (cZ, .boolean)] s := hK.sub (tys' := [(cI, .int), (cZ, .boolean)]) [0, 1] rfl
  have hx := B.exec
  have hb := B.bytes
  have hr := B.returns
  have hts := atoms_spec (ws := wsX8_hashSlots) B.pre
  have hown : s.vm.findClass RX8 = some m.cls := findClass_of_methodNamed B.named
  have hlocks := B.notSynchronized
  have hinX8 : ∀ w ∈ u_ws RX8 TX8 6, w ∈ wsX8_hashSlots := by decide +kernel
  have hw1 := hts (.fieldLink RX8 12 "GlideShelves" "now" "LGlideShelves$State;") (by decide +kernel)
  have hinX6 : ∀ w ∈ u_ws RX6 TX6 5, w ∈ wsX8_hashSlots := by decide +kernel
  have hw3 := hts (.initialized RX7) (by decide +kernel)
  have hw4 := hts (.instanceMethod yX7_holderOf) (by decide +kernel)
  have hw5 := hts (.selects RX7 yX7_holderOf yX7_holderOf) (by decide +kernel)
  have hw6 := hts (.instanceMethod yX7_firstFree) (by decide +kernel)
  have hw7 := hts (.selects RX7 yX7_firstFree yX7_firstFree) (by decide +kernel)
  have hfX8_hashSlots_L5 : ∀ (n : Nat) (kx38 : Int64 → Option (Int64)) (hkx38 : ∀ (l3 : Int64), kx38 l3 = some z → ∀ (ls : Array Slot), lv_has ls 6 [(0, .ref (a 0)), (3, .long l3)] → W p l e (headSpec wsX8_hashSlots ({ frames := 4, cells := 0, slots := 0, locals := 90 } : Room)).room s m ([.ref (a 0), .long a1] : List Value).toArray below meth c s.heap [] 0 0 (MQ below (k2_QcV (.long z)) ([.ref (a 0), .long a1] : List Value).toArray s 0 0 (fun _ => False)) (F0 m 38 ls [])), ∀ (l3 : Int64) (l5 : Int32), fX8_hashSlots_L5 M n kx38 l3 l5 = some z → ∀ (ls : Array Slot), lv_has ls 6 [(0, .ref (a 0)), (3, .long l3), (5, .int l5)] → W p l e (headSpec wsX8_hashSlots ({ frames := 4, cells := 0, slots := 0, locals := 90 } : Room)).room s m ([.ref (a 0), .long a1] : List Value).toArray below meth c s.heap [] 0 0 (MQ below (k2_QcV (.long z)) ([.ref (a 0), .long a1] : List Value).toArray s 0 0 (fun _ => False)) (F0 m 5 ls []) := by
    intro n
    induction n with
    | zero =>
      intro kx38 hkx38 l3 l5 hf ls hl
      rw [fX8_hashSlots_L5] at hf
      cases hf
    | succ n ih =>
      intro kx38 hkx38 l3 l5 hf ls hl
      rw [fX8_hashSlots_L5] at hf
      refine lv_iload hx hb dX8_hashSlots_5 (lv_at hl 2 rfl) ?_
      refine lv_bipush (v := (40 : Int32)) hx hb dX8_hashSlots_7 (by decide) ?_
      refine lv_icmp_ge (tgt := 38) hx hb dX8_hashSlots_9 (by decide) (fun c9 => ?_) (fun c9 => ?_)
      · have hf := it_t hf c9
        exact hkx38 l3 hf _ (lv_sub hl [0, 1] rfl)
      · have hf := it_f hf c9
        refine lv_lload_n hx hb dX8_hashSlots_12 rfl (lv_at hl 1 rfl) ?_
        refine lv_aload_n hx hb dX8_hashSlots_13 rfl (lv_at hl 0 rfl) ?_
        refine va_get (D := (dC, dI)) (ci := 8) (v := .ref (a 1)) (C := RX8) (T := TX8) (N := 6) hx hb hts hinX8 hown hK hP 0 rfl rfl 0 (by decide) hw1 (fun _ h9 => h9) rfl dX8_hashSlots_14 ?_
        refine va_getN (D := (dC, dI)) (ci := 6) (v := .ref (a 2)) (C := RX6) (T := TX6) (N := 5) hx hb hts hinX6 hown hK hP 1 rfl rfl 0 (by decide) (nw24 hNW) (fun _ h9 => h9) rfl dX8_hashSlots_17 ?_
        refine lv_iload hx hb dX8_hashSlots_20 (lv_at hl 2 rfl) ?_
        obtain ⟨r22, hc22, hf⟩ := bi_s hf
        have hPc := hP.sub (ws' := (wX7 cI cZ (ofs 2 a) (ofs 2 M))) [2, 3, 4, 5, 6] rfl
        refine cRO (va_Run.run (va_runVN (As := [.int l5]) (rest := [.long l3]) ⟨hx, hb, hml, hown, hts⟩ (c_X7_holderOf l dC dI cI cZ (ofs 2 a) (ofs 2 M) l5 r22 hc22) ⟨va_cnB 1 hts gX8_hashSlots_X7_holderOf_n281 rfl rfl rfl (nw64 hNW) hw3 (by decide +kernel) ⟨Nat.le_of_ble_eq_true rfl, Nat.le_of_ble_eq_true rfl⟩, hw4, hw5⟩ ⟨RO.blind, va_recv hK hP (ci := 7) (q0 := 2) rfl rfl, RO.pre hPc hK2 hNW⟩ rfl rfl hl.1 rfl (lv_room (Nat.le_of_ble_eq_true rfl)) dX8_hashSlots_22 ⟨Nat.le_of_ble_eq_true rfl, Nat.le_of_ble_eq_true rfl⟩)) ?_
        refine lv_iconst (v := (1 : Int32)) hx hb dX8_hashSlots_25 (by decide) ?_
        refine lv_iadd hx hb dX8_hashSlots_26 ?_
        refine lv_i2l (v := (r22 + (1 : Int32)).toInt64) hx hb dX8_hashSlots_27 rfl ?_
        obtain ⟨r28, hc28, hf⟩ := bi_s hf
        refine cRO (W.runS (As := [.long l3, .long ((r22 + (1 : Int32)).toInt64)]) (rest := []) ⟨hx, hb, hml, hown, hts⟩ (c_X8_hashOn l l3 ((r22 + (1 : Int32)).toInt64) r28 hc28) (va_cwS 2 hts gX8_hashSlots_X8_hashOn rfl rfl rfl (by decide +kernel) ⟨Nat.le_of_ble_eq_true rfl, Nat.le_of_ble_eq_true rfl⟩) ⟨tr_blind, tr_pre⟩ rfl rfl hl.1 rfl (lv_room (Nat.le_of_ble_eq_true rfl)) dX8_hashSlots_28 ⟨Nat.le_of_ble_eq_true rfl, Nat.le_of_ble_eq_true rfl⟩) ?_
        refine lv_lstore_n (lv' := [(3, .long r28), (0, .ref (a 0)), (5, .int l5)]) hx hb dX8_hashSlots_31 rfl hl (by decide) rfl (fun ls hl => ?_)
        refine lv_iinc (v := (l5 + (1 : Int32))) (lv' := [(5, .int (l5 + (1 : Int32))), (3, .long r28), (0, .ref (a 0))]) hx hb dX8_hashSlots_32 hl (k := 2) rfl rfl (by decide) rfl (fun ls hl => ?_)
        refine lv_goto (tgt := 5) hx hb dX8_hashSlots_35 (by decide) ?_
        exact ih kx38 hkx38 r28 (l5 + (1 : Int32)) hf _ (lv_sub hl [2, 1, 0] rfl)
  have hfX8_hashSlots_L61 : ∀ (n : Nat) (kx93 : Int64 → Option (Int64)) (hkx93 : ∀ (l3 : Int64), kx93 l3 = some z → ∀ (ls : Array Slot), lv_has ls 6 [(0, .ref (a 0)), (3, .long l3)] → W p l e (headSpec wsX8_hashSlots ({ frames := 4, cells := 0, slots := 0, locals := 90 } : Room)).room s m ([.ref (a 0), .long a1] : List Value).toArray below meth c s.heap [] 0 0 (MQ below (k2_QcV (.long z)) ([.ref (a 0), .long a1] : List Value).toArray s 0 0 (fun _ => False)) (F0 m 93 ls [])), ∀ (l3 : Int64) (l5 : Int32), fX8_hashSlots_L61 M n kx93 l3 l5 = some z → ∀ (ls : Array Slot), lv_has ls 6 [(0, .ref (a 0)), (3, .long l3), (5, .int l5)] → W p l e (headSpec wsX8_hashSlots ({ frames := 4, cells := 0, slots := 0, locals := 90 } : Room)).room s m ([.ref (a 0), .long a1] : List Value).toArray below meth c s.heap [] 0 0 (MQ below (k2_QcV (.long z)) ([.ref (a 0), .long a1] : List Value).toArray s 0 0 (fun _ => False)) (F0 m 61 ls []) := by
    intro n
    induction n with
    | zero =>
      intro kx93 hkx93 l3 l5 hf ls hl
      rw [fX8_hashSlots_L61] at hf
      cases hf
    | succ n ih =>
      intro kx93 hkx93 l3 l5 hf ls hl
      rw [fX8_hashSlots_L61] at hf
      refine lv_iload hx hb dX8_hashSlots_61 (lv_at hl 2 rfl) ?_
      refine lv_iconst (v := (4 : Int32)) hx hb dX8_hashSlots_63 (by decide) ?_
      refine lv_icmp_gt (tgt := 93) hx hb dX8_hashSlots_64 (by decide) (fun c9 => ?_) (fun c9 => ?_)
      · have hf := it_t hf c9
        exact hkx93 l3 hf _ (lv_sub hl [0, 1] rfl)
      · have hf := it_f hf c9
        refine lv_lload_n hx hb dX8_hashSlots_67 rfl (lv_at hl 1 rfl) ?_
        refine lv_aload_n hx hb dX8_hashSlots_68 rfl (lv_at hl 0 rfl) ?_
        refine va_get (D := (dC, dI)) (ci := 8) (v := .ref (a 1)) (C := RX8) (T := TX8) (N := 6) hx hb hts hinX8 hown hK hP 0 rfl rfl 0 (by decide) hw1 (fun _ h9 => h9) rfl dX8_hashSlots_69 ?_
        refine va_getN (D := (dC, dI)) (ci := 6) (v := .ref (a 2)) (C := RX6) (T := TX6) (N := 5) hx hb hts hinX6 hown hK hP 1 rfl rfl 0 (by decide) (nw24 hNW) (fun _ h9 => h9) rfl dX8_hashSlots_72 ?_
        refine lv_iload hx hb dX8_hashSlots_75 (lv_at hl 2 rfl) ?_
        obtain ⟨r77, hc77, hf⟩ := bi_s hf
        have hPc := hP.sub (ws' := (wX7 cI cZ (ofs 2 a) (ofs 2 M))) [2, 3, 4, 5, 6] rfl
        refine cRO (va_Run.run (va_runVN (As := [.int l5]) (rest := [.long l3]) ⟨hx, hb, hml, hown, hts⟩ (c_X7_firstFree l dC dI cI cZ (ofs 2 a) (ofs 2 M) l5 r77 hc77) ⟨va_cnB 1 hts gX8_hashSlots_X7_firstFree_n64 rfl rfl rfl (nw84 hNW) hw3 (by decide +kernel) ⟨Nat.le_of_ble_eq_true rfl, Nat.le_of_ble_eq_true rfl⟩, hw6, hw7⟩ ⟨RO.blind, va_recv hK hP (ci := 7) (q0 := 2) rfl rfl, RO.pre hPc hK2 hNW⟩ rfl rfl hl.1 rfl (lv_room (Nat.le_of_ble_eq_true rfl)) dX8_hashSlots_77 ⟨Nat.le_of_ble_eq_true rfl, Nat.le_of_ble_eq_true rfl⟩)) ?_
        refine lv_iconst (v := (1 : Int32)) hx hb dX8_hashSlots_80 (by decide) ?_
        refine lv_iadd hx hb dX8_hashSlots_81 ?_
        refine lv_i2l (v := (r77 + (1 : Int32)).toInt64) hx hb dX8_hashSlots_82 rfl ?_
        obtain ⟨r83, hc83, hf⟩ := bi_s hf
        refine cRO (W.runS (As := [.long l3, .long ((r77 + (1 : Int32)).toInt64)]) (rest := []) ⟨hx, hb, hml, hown, hts⟩ (c_X8_hashOn l l3 ((r77 + (1 : Int32)).toInt64) r83 hc83) (va_cwS 2 hts gX8_hashSlots_X8_hashOn rfl rfl rfl (by decide +kernel) ⟨Nat.le_of_ble_eq_true rfl, Nat.le_of_ble_eq_true rfl⟩) ⟨tr_blind, tr_pre⟩ rfl rfl hl.1 rfl (lv_room (Nat.le_of_ble_eq_true rfl)) dX8_hashSlots_83 ⟨Nat.le_of_ble_eq_true rfl, Nat.le_of_ble_eq_true rfl⟩) ?_
        refine lv_lstore_n (lv' := [(3, .long r83), (0, .ref (a 0)), (5, .int l5)]) hx hb dX8_hashSlots_86 rfl hl (by decide) rfl (fun ls hl => ?_)
        refine lv_iinc (v := (l5 + (1 : Int32))) (lv' := [(5, .int (l5 + (1 : Int32))), (3, .long r83), (0, .ref (a 0))]) hx hb dX8_hashSlots_87 hl (k := 2) rfl rfl (by decide) rfl (fun ls hl => ?_)
        refine lv_goto (tgt := 61) hx hb dX8_hashSlots_90 (by decide) ?_
        exact ih kx93 hkx93 r83 (l5 + (1 : Int32)) hf _ (lv_sub hl [2, 1, 0] rfl)
  have hl := lv_entry ([.ref (a 0), .long a1]) (n := 6) (Nat.le_of_ble_eq_true rfl)
  rw [lg_entry_eq]
  generalize (lg_sl ([.ref (a 0), .long a1]) ++ List.replicate (6 - (lg_sl ([.ref (a 0), .long a1])).length) Slot.unset).toArray = ls at hl ⊢
  have hl : lv_has ls 6 [(0, .ref (a 0)), (1, .long a1)] := hl
  unfold fX8_hashSlots at hf
  refine lv_lload_n hx hb dX8_hashSlots_0 rfl (lv_at hl 1 rfl) ?_
  refine lv_lstore_n (lv' := [(3, .long a1), (0, .ref (a 0)), (1, .long a1)]) hx hb dX8_hashSlots_1 rfl hl (by decide) rfl (fun ls hl => ?_)
  refine lv_iconst (v := (0 : Int32)) hx hb dX8_hashSlots_2 (by decide) ?_
  refine lv_istore (lv' := [(5, .int (0 : Int32)), (3, .long a1), (0, .ref (a 0)), (1, .long a1)]) hx hb dX8_hashSlots_3 hl (by decide) rfl (fun ls hl => ?_)
  refine hfX8_hashSlots_L5 5000 _ (fun l3 hf ls hl => ?_) a1 (0 : Int32) hf _ (lv_sub hl [2, 1, 0] rfl)
  refine lv_lload_n hx hb dX8_hashSlots_38 rfl (lv_at hl 1 rfl) ?_
  refine lv_aload_n hx hb dX8_hashSlots_39 rfl (lv_at hl 0 rfl) ?_
  obtain ⟨r40, hc40, hf⟩ := bi_s hf
  have hPc := hP
  refine cRO (W.runV (As := []) (rest := [.long l3]) ⟨hx, hb, hml, hown, hts⟩ (c_X8_freeBySlots l dC dI cI cZ cS f g a M r40 hc40) (cwV 0 hts gX8_hashSlots_X8_freeBySlots rfl rfl rfl (by decide +kernel) ⟨Nat.le_of_ble_eq_true rfl, Nat.le_of_ble_eq_true rfl⟩) ⟨RO8.blind, va_recv hK hP (ci := 8) (q0 := 0) rfl rfl, RO8.pre hPc hK hNW⟩ rfl rfl hl.1 rfl (lv_room (Nat.le_of_ble_eq_true rfl)) dX8_hashSlots_40 ⟨Nat.le_of_ble_eq_true rfl, Nat.le_of_ble_eq_true rfl⟩) ?_
  refine lv_i2l (v := r40.toInt64) hx hb dX8_hashSlots_43 rfl ?_
  obtain ⟨r44, hc44, hf⟩ := bi_s hf
  refine cRO (W.runS (As := [.long l3, .long (r40.toInt64)]) (rest := []) ⟨hx, hb, hml, hown, hts⟩ (c_X8_hashOn l l3 (r40.toInt64) r44 hc44) (va_cwS 2 hts gX8_hashSlots_X8_hashOn rfl rfl rfl (by decide +kernel) ⟨Nat.le_of_ble_eq_true rfl, Nat.le_of_ble_eq_true rfl⟩) ⟨tr_blind, tr_pre⟩ rfl rfl hl.1 rfl (lv_room (Nat.le_of_ble_eq_true rfl)) dX8_hashSlots_44 ⟨Nat.le_of_ble_eq_true rfl, Nat.le_of_ble_eq_true rfl⟩) ?_
  refine lv_lstore_n (lv' := [(3, .long r44), (0, .ref (a 0))]) hx hb dX8_hashSlots_47 rfl hl (by decide) rfl (fun ls hl => ?_)
  refine lv_lload_n hx hb dX8_hashSlots_48 rfl (lv_at hl 0 rfl) ?_
  refine lv_aload_n hx hb dX8_hashSlots_49 rfl (lv_at hl 1 rfl) ?_
  obtain ⟨r50, hc50, hf⟩ := bi_s hf
  have hPc := hP
  refine cRO (W.runV (As := []) (rest := [.long r44]) ⟨hx, hb, hml, hown, hts⟩ (c_X8_freeByHeights l dC dI cI cZ cS f g a M r50 hc50) (cwV 0 hts gX8_hashSlots_X8_freeByHeights rfl rfl rfl (by decide +kernel) ⟨Nat.le_of_ble_eq_true rfl, Nat.le_of_ble_eq_true rfl⟩) ⟨RO8.blind, va_recv hK hP (ci := 8) (q0 := 0) rfl rfl, RO8.pre hPc hK hNW⟩ rfl rfl hl.1 rfl (lv_room (Nat.le_of_ble_eq_true rfl)) dX8_hashSlots_50 ⟨Nat.le_of_ble_eq_true rfl, Nat.le_of_ble_eq_true rfl⟩) ?_
  refine lv_i2l (v := r50.toInt64) hx hb dX8_hashSlots_53 rfl ?_
  obtain ⟨r54, hc54, hf⟩ := bi_s hf
  refine cRO (W.runS (As := [.long r44, .long (r50.toInt64)]) (rest := []) ⟨hx, hb, hml, hown, hts⟩ (c_X8_hashOn l r44 (r50.toInt64) r54 hc54) (va_cwS 2 hts gX8_hashSlots_X8_hashOn rfl rfl rfl (by decide +kernel) ⟨Nat.le_of_ble_eq_true rfl, Nat.le_of_ble_eq_true rfl⟩) ⟨tr_blind, tr_pre⟩ rfl rfl hl.1 rfl (lv_room (Nat.le_of_ble_eq_true rfl)) dX8_hashSlots_54 ⟨Nat.le_of_ble_eq_true rfl, Nat.le_of_ble_eq_true rfl⟩) ?_
  refine lv_lstore_n (lv' := [(3, .long r54), (0, .ref (a 0))]) hx hb dX8_hashSlots_57 rfl hl (by decide) rfl (fun ls hl => ?_)
  refine lv_iconst (v := (1 : Int32)) hx hb dX8_hashSlots_58 (by decide) ?_
  refine lv_istore (lv' := [(5, .int (1 : Int32)), (3, .long r54), (0, .ref (a 0))]) hx hb dX8_hashSlots_59 hl (by decide) rfl (fun ls hl => ?_)
  refine hfX8_hashSlots_L61 5000 _ (fun l3 hf ls hl => ?_) r54 (1 : Int32) hf _ (lv_sub hl [2, 1, 0] rfl)
  refine lv_lload_n hx hb dX8_hashSlots_93 rfl (lv_at hl 1 rfl) ?_
  refine lv_aload_n hx hb dX8_hashSlots_94 rfl (lv_at hl 0 rfl) ?_
  refine lv_iconst (v := (0 : Int32)) hx hb dX8_hashSlots_95 (by decide) ?_
  obtain ⟨r96, hc96, hf⟩ := bi_s hf
  rcases r96 with E9 | r96
  · exact absurd hf (fun h => nomatch h)
  have hf := sel_r hf
  refine cRO (W.runV (As := [.int (0 : Int32)]) (rest := [.long l3]) ⟨hx, hb, hml, hown, hts⟩ (n_X8_longestGap l dC dI cI cZ cS f g a M (0 : Int32) r96 hc96) (cwV 1 hts gX8_hashSlots_X8_longestGap rfl rfl rfl (by decide +kernel) ⟨Nat.le_of_ble_eq_true rfl, Nat.le_of_ble_eq_true rfl⟩) ⟨RO8.blind, va_recv hK hP (ci := 8) (q0 := 0) rfl rfl, RO8.pre hP hK hNW⟩ rfl rfl hl.1 rfl (lv_room (Nat.le_of_ble_eq_true rfl)) dX8_hashSlots_96 ⟨Nat.le_of_ble_eq_true rfl, Nat.le_of_ble_eq_true rfl⟩) ?_
  refine lv_i2l (v := r96.toInt64) hx hb dX8_hashSlots_99 rfl ?_
  obtain ⟨r100, hc100, hf⟩ := bi_s hf
  refine cRO (W.runS (As := [.long l3, .long (r96.toInt64)]) (rest := []) ⟨hx, hb, hml, hown, hts⟩ (c_X8_hashOn l l3 (r96.toInt64) r100 hc100) (va_cwS 2 hts gX8_hashSlots_X8_hashOn rfl rfl rfl (by decide +kernel) ⟨Nat.le_of_ble_eq_true rfl, Nat.le_of_ble_eq_true rfl⟩) ⟨tr_blind, tr_pre⟩ rfl rfl hl.1 rfl (lv_room (Nat.le_of_ble_eq_true rfl)) dX8_hashSlots_100 ⟨Nat.le_of_ble_eq_true rfl, Nat.le_of_ble_eq_true rfl⟩) ?_
  refine lv_lstore_n (lv' := [(3, .long r100), (0, .ref (a 0))]) hx hb dX8_hashSlots_103 rfl hl (by decide) rfl (fun ls hl => ?_)
  refine lv_lload_n hx hb dX8_hashSlots_104 rfl (lv_at hl 0 rfl) ?_
  refine lv_aload_n hx hb dX8_hashSlots_105 rfl (lv_at hl 1 rfl) ?_
  refine lv_iconst (v := (1 : Int32)) hx hb dX8_hashSlots_106 (by decide) ?_
  obtain ⟨r107, hc107, hf⟩ := bi_s hf
  rcases r107 with E9 | r107
  · exact absurd hf (fun h => nomatch h)
  have hf := sel_r hf
  refine cRO (W.runV (As := [.int (1 : Int32)]) (rest := [.long r100]) ⟨hx, hb, hml, hown, hts⟩ (n_X8_longestGap l dC dI cI cZ cS f g a M (1 : Int32) r107 hc107) (cwV 1 hts gX8_hashSlots_X8_longestGap rfl rfl rfl (by decide +kernel) ⟨Nat.le_of_ble_eq_true rfl, Nat.le_of_ble_eq_true rfl⟩) ⟨RO8.blind, va_recv hK hP (ci := 8) (q0 := 0) rfl rfl, RO8.pre hP hK hNW⟩ rfl rfl hl.1 rfl (lv_room (Nat.le_of_ble_eq_true rfl)) dX8_hashSlots_107 ⟨Nat.le_of_ble_eq_true rfl, Nat.le_of_ble_eq_true rfl⟩) ?_
  refine lv_i2l (v := r107.toInt64) hx hb dX8_hashSlots_110 rfl ?_
  obtain ⟨r111, hc111, hf⟩ := bi_s hf
  refine cRO (W.runS (As := [.long r100, .long (r107.toInt64)]) (rest := []) ⟨hx, hb, hml, hown, hts⟩ (c_X8_hashOn l r100 (r107.toInt64) r111 hc111) (va_cwS 2 hts gX8_hashSlots_X8_hashOn rfl rfl rfl (by decide +kernel) ⟨Nat.le_of_ble_eq_true rfl, Nat.le_of_ble_eq_true rfl⟩) ⟨tr_blind, tr_pre⟩ rfl rfl hl.1 rfl (lv_room (Nat.le_of_ble_eq_true rfl)) dX8_hashSlots_111 ⟨Nat.le_of_ble_eq_true rfl, Nat.le_of_ble_eq_true rfl⟩) ?_
  refine lv_lstore_n (lv' := [(3, .long r111), (0, .ref (a 0))]) hx hb dX8_hashSlots_114 rfl hl (by decide) rfl (fun ls hl => ?_)
  refine lv_lload_n hx hb dX8_hashSlots_115 rfl (lv_at hl 0 rfl) ?_
  refine lv_aload_n hx hb dX8_hashSlots_116 rfl (lv_at hl 1 rfl) ?_
  obtain ⟨r117, hc117, hf⟩ := bi_s hf
  have hPc := hP
  refine cRO (W.runV (As := []) (rest := [.long r111]) ⟨hx, hb, hml, hown, hts⟩ (c_X8_lift l dC dI cI cZ cS f g a M r117 hc117) (cwV 0 hts gX8_hashSlots_X8_lift rfl rfl rfl (by decide +kernel) ⟨Nat.le_of_ble_eq_true rfl, Nat.le_of_ble_eq_true rfl⟩) ⟨RO8.blind, va_recv hK hP (ci := 8) (q0 := 0) rfl rfl, RO8.pre hPc hK hNW⟩ rfl rfl hl.1 rfl (lv_room (Nat.le_of_ble_eq_true rfl)) dX8_hashSlots_117 ⟨Nat.le_of_ble_eq_true rfl, Nat.le_of_ble_eq_true rfl⟩) ?_
  refine lv_i2l (v := r117.toInt64) hx hb dX8_hashSlots_120 rfl ?_
  obtain ⟨r121, hc121, hf⟩ := bi_s hf
  refine cRO (W.runS (As := [.long r111, .long (r117.toInt64)]) (rest := []) ⟨hx, hb, hml, hown, hts⟩ (c_X8_hashOn l r111 (r117.toInt64) r121 hc121) (va_cwS 2 hts gX8_hashSlots_X8_hashOn rfl rfl rfl (by decide +kernel) ⟨Nat.le_of_ble_eq_true rfl, Nat.le_of_ble_eq_true rfl⟩) ⟨tr_blind, tr_pre⟩ rfl rfl hl.1 rfl (lv_room (Nat.le_of_ble_eq_true rfl)) dX8_hashSlots_121 ⟨Nat.le_of_ble_eq_true rfl, Nat.le_of_ble_eq_true rfl⟩) ?_
  refine lv_lstore_n (lv' := [(3, .long r121), (0, .ref (a 0))]) hx hb dX8_hashSlots_124 rfl hl (by decide) rfl (fun ls hl => ?_)
  refine lv_lload_n hx hb dX8_hashSlots_125 rfl (lv_at hl 0 rfl) ?_
  refine lv_aload_n hx hb dX8_hashSlots_126 rfl (lv_at hl 1 rfl) ?_
  obtain ⟨r127, hc127, hf⟩ := bi_s hf
  have hPc := hP
  refine cRO (W.runV (As := []) (rest := [.long r121]) ⟨hx, hb, hml, hown, hts⟩ (c_X8_isKeptPlace l dC dI cI cZ cS f g a M r127 hc127) (cwV 0 hts gX8_hashSlots_X8_isKeptPlace rfl rfl rfl (by decide +kernel) ⟨Nat.le_of_ble_eq_true rfl, Nat.le_of_ble_eq_true rfl⟩) ⟨RO8.blind, va_recv hK hP (ci := 8) (q0 := 0) rfl rfl, RO8.pre hPc hK hNW⟩ rfl rfl hl.1 rfl (lv_room (Nat.le_of_ble_eq_true rfl)) dX8_hashSlots_127 ⟨Nat.le_of_ble_eq_true rfl, Nat.le_of_ble_eq_true rfl⟩) ?_
  obtain ⟨r130, hc130, hf⟩ := bi_s hf
  refine cRO (W.runS (As := [.long r121, .int r127]) (rest := []) ⟨hx, hb, hml, hown, hts⟩ (c_X8_hashOn_ l r121 r127 r130 hc130) (va_cwS 2 hts gX8_hashSlots_X8_hashOn_ rfl rfl rfl (by decide +kernel) ⟨Nat.le_of_ble_eq_true rfl, Nat.le_of_ble_eq_true rfl⟩) ⟨tr_blind, tr_pre⟩ rfl rfl hl.1 rfl (lv_room (Nat.le_of_ble_eq_true rfl)) dX8_hashSlots_130 ⟨Nat.le_of_ble_eq_true rfl, Nat.le_of_ble_eq_true rfl⟩) ?_
  exact W.lret (v := r130) hx hb hr (fun t ht hW => ⟨congrArg (fun x => Outcome.returned (some (Value.long x))) (so_e hf), ht⟩) fl0 dX8_hashSlots_133
set_option maxHeartbeats 4000000 in
set_option maxRecDepth 100000 in
theorem c_X8_hashKinds (l : Launch) (dC : Nat → ClassId) (dI : Nat → Nat → Nat) (cI cZ cS : ClassId) (f g : Nat → Option Nat) (a : Nat → Nat) (M : Mem) (a1 : Int64) (z : Int64) (hf : fX8_hashKinds M a1 = some z) : Met l yX8_hashKinds wsX8_hashKinds ({ frames := 4, cells := 0, slots := 0, locals := 89 } : Room) (va_Pc [.ref (a 0), .long a1] (RO8 (dC, dI) cI cZ cS (wX8 cI cZ cS f g a M))) (k2_QcV (.long z)) 0 0 (fun _ => False) := by
  refine Met.ofW (cc := cX8_hashKinds) (maxL := 6) (ret := (some .long)) (by decide) rfl ?_
  intro p e s m args below meth c s₁ B hml hv
  obtain ⟨rfl, hP, hK, hNW⟩ := hv
  have hK2 : va_K (dC, dI) vwCl [(cI, .int), (cZ, .boolean)] s := hK.sub (tys' := [(cI, .int), (cZ, .boolean)]) [0, 1] rfl
  have hx := B.exec
  have hb := B.bytes
  have hr := B.returns
  have hts := atoms_spec (ws := wsX8_hashKinds) B.pre
  have hown : s.vm.findClass RX8 = some m.cls := findClass_of_methodNamed B.named
  have hlocks := B.notSynchronized
  have hfX8_hashKinds_L5 : ∀ (n : Nat) (kx90 : Int64 → Option (Int64)) (hkx90 : ∀ (l3 : Int64), kx90 l3 = some z → ∀ (ls : Array Slot), lv_has ls 6 [(0, .ref (a 0)), (3, .long l3)] → W p l e (headSpec wsX8_hashKinds ({ frames := 4, cells := 0, slots := 0, locals := 89 } : Room)).room s m ([.ref (a 0), .long a1] : List Value).toArray below meth c s.heap [] 0 0 (MQ below (k2_QcV (.long z)) ([.ref (a 0), .long a1] : List Value).toArray s 0 0 (fun _ => False)) (F0 m 90 ls [])), ∀ (l3 : Int64) (l5 : Int32), fX8_hashKinds_L5 M n kx90 l3 l5 = some z → ∀ (ls : Array Slot), lv_has ls 6 [(0, .ref (a 0)), (3, .long l3), (5, .int l5)] → W p l e (headSpec wsX8_hashKinds ({ frames := 4, cells := 0, slots := 0, locals := 89 } : Room)).room s m ([.ref (a 0), .long a1] : List Value).toArray below meth c s.heap [] 0 0 (MQ below (k2_QcV (.long z)) ([.ref (a 0), .long a1] : List Value).toArray s 0 0 (fun _ => False)) (F0 m 5 ls []) := by
    intro n
    induction n with
    | zero =>
      intro kx90 hkx90 l3 l5 hf ls hl
      rw [fX8_hashKinds_L5] at hf
      cases hf
    | succ n ih =>
      intro kx90 hkx90 l3 l5 hf ls hl
      rw [fX8_hashKinds_L5] at hf
      refine lv_iload hx hb dX8_hashKinds_5 (lv_at hl 2 rfl) ?_
      refine lv_bipush (v := (10 : Int32)) hx hb dX8_hashKinds_7 (by decide) ?_
      refine lv_icmp_ge (tgt := 90) hx hb dX8_hashKinds_9 (by decide) (fun c9 => ?_) (fun c9 => ?_)
      · have hf := it_t hf c9
        exact hkx90 l3 hf _ (lv_sub hl [0, 1] rfl)
      · have hf := it_f hf c9
        refine lv_lload_n hx hb dX8_hashKinds_12 rfl (lv_at hl 1 rfl) ?_
        refine lv_aload_n hx hb dX8_hashKinds_13 rfl (lv_at hl 0 rfl) ?_
        refine lv_iload hx hb dX8_hashKinds_14 (lv_at hl 2 rfl) ?_
        obtain ⟨r16, hc16, hf⟩ := bi_s hf
        rcases r16 with E9 | r16
        · exact absurd hf (fun h => nomatch h)
        have hf := sel_r hf
        refine cRO (W.runV (As := [.int l5]) (rest := [.long l3]) ⟨hx, hb, hml, hown, hts⟩ (n_X8_weightOfKind l dC dI cI cZ cS f g a M l5 r16 hc16) (cwV 1 hts gX8_hashKinds_X8_weightOfKind rfl rfl rfl (by decide +kernel) ⟨Nat.le_of_ble_eq_true rfl, Nat.le_of_ble_eq_true rfl⟩) ⟨RO8.blind, va_recv hK hP (ci := 8) (q0 := 0) rfl rfl, RO8.pre hP hK hNW⟩ rfl rfl hl.1 rfl (lv_room (Nat.le_of_ble_eq_true rfl)) dX8_hashKinds_16 ⟨Nat.le_of_ble_eq_true rfl, Nat.le_of_ble_eq_true rfl⟩) ?_
        refine lv_i2l (v := r16.toInt64) hx hb dX8_hashKinds_19 rfl ?_
        obtain ⟨r20, hc20, hf⟩ := bi_s hf
        refine cRO (W.runS (As := [.long l3, .long (r16.toInt64)]) (rest := []) ⟨hx, hb, hml, hown, hts⟩ (c_X8_hashOn l l3 (r16.toInt64) r20 hc20) (va_cwS 2 hts gX8_hashKinds_X8_hashOn rfl rfl rfl (by decide +kernel) ⟨Nat.le_of_ble_eq_true rfl, Nat.le_of_ble_eq_true rfl⟩) ⟨tr_blind, tr_pre⟩ rfl rfl hl.1 rfl (lv_room (Nat.le_of_ble_eq_true rfl)) dX8_hashKinds_20 ⟨Nat.le_of_ble_eq_true rfl, Nat.le_of_ble_eq_true rfl⟩) ?_
        refine lv_lstore_n (lv' := [(3, .long r20), (0, .ref (a 0)), (5, .int l5)]) hx hb dX8_hashKinds_23 rfl hl (by decide) rfl (fun ls hl => ?_)
        refine lv_lload_n hx hb dX8_hashKinds_24 rfl (lv_at hl 0 rfl) ?_
        refine lv_aload_n hx hb dX8_hashKinds_25 rfl (lv_at hl 1 rfl) ?_
        refine lv_iload hx hb dX8_hashKinds_26 (lv_at hl 2 rfl) ?_
        obtain ⟨r28, hc28, hf⟩ := bi_s hf
        rcases r28 with E9 | r28
        · exact absurd hf (fun h => nomatch h)
        have hf := sel_r hf
        refine cRO (W.runV (As := [.int l5]) (rest := [.long r20]) ⟨hx, hb, hml, hown, hts⟩ (n_X8_stockByShelves l dC dI cI cZ cS f g a M l5 r28 hc28) (cwV 1 hts gX8_hashKinds_X8_stockByShelves rfl rfl rfl (by decide +kernel) ⟨Nat.le_of_ble_eq_true rfl, Nat.le_of_ble_eq_true rfl⟩) ⟨RO8.blind, va_recv hK hP (ci := 8) (q0 := 0) rfl rfl, RO8.pre hP hK hNW⟩ rfl rfl hl.1 rfl (lv_room (Nat.le_of_ble_eq_true rfl)) dX8_hashKinds_28 ⟨Nat.le_of_ble_eq_true rfl, Nat.le_of_ble_eq_true rfl⟩) ?_
        refine lv_i2l (v := r28.toInt64) hx hb dX8_hashKinds_31 rfl ?_
        obtain ⟨r32, hc32, hf⟩ := bi_s hf
        refine cRO (W.runS (As := [.long r20, .long (r28.toInt64)]) (rest := []) ⟨hx, hb, hml, hown, hts⟩ (c_X8_hashOn l r20 (r28.toInt64) r32 hc32) (va_cwS 2 hts gX8_hashKinds_X8_hashOn rfl rfl rfl (by decide +kernel) ⟨Nat.le_of_ble_eq_true rfl, Nat.le_of_ble_eq_true rfl⟩) ⟨tr_blind, tr_pre⟩ rfl rfl hl.1 rfl (lv_room (Nat.le_of_ble_eq_true rfl)) dX8_hashKinds_32 ⟨Nat.le_of_ble_eq_true rfl, Nat.le_of_ble_eq_true rfl⟩) ?_
        refine lv_lstore_n (lv' := [(3, .long r32), (0, .ref (a 0)), (5, .int l5)]) hx hb dX8_hashKinds_35 rfl hl (by decide) rfl (fun ls hl => ?_)
        refine lv_lload_n hx hb dX8_hashKinds_36 rfl (lv_at hl 0 rfl) ?_
        refine lv_aload_n hx hb dX8_hashKinds_37 rfl (lv_at hl 1 rfl) ?_
        refine lv_iload hx hb dX8_hashKinds_38 (lv_at hl 2 rfl) ?_
        obtain ⟨r40, hc40, hf⟩ := bi_s hf
        rcases r40 with E9 | r40
        · exact absurd hf (fun h => nomatch h)
        have hf := sel_r hf
        refine cRO (W.runV (As := [.int l5]) (rest := [.long r32]) ⟨hx, hb, hml, hown, hts⟩ (n_X8_stockByAccount l dC dI cI cZ cS f g a M l5 r40 hc40) (cwV 1 hts gX8_hashKinds_X8_stockByAccount rfl rfl rfl (by decide +kernel) ⟨Nat.le_of_ble_eq_true rfl, Nat.le_of_ble_eq_true rfl⟩) ⟨RO8.blind, va_recv hK hP (ci := 8) (q0 := 0) rfl rfl, RO8.pre hP hK hNW⟩ rfl rfl hl.1 rfl (lv_room (Nat.le_of_ble_eq_true rfl)) dX8_hashKinds_40 ⟨Nat.le_of_ble_eq_true rfl, Nat.le_of_ble_eq_true rfl⟩) ?_
        refine lv_i2l (v := r40.toInt64) hx hb dX8_hashKinds_43 rfl ?_
        obtain ⟨r44, hc44, hf⟩ := bi_s hf
        refine cRO (W.runS (As := [.long r32, .long (r40.toInt64)]) (rest := []) ⟨hx, hb, hml, hown, hts⟩ (c_X8_hashOn l r32 (r40.toInt64) r44 hc44) (va_cwS 2 hts gX8_hashKinds_X8_hashOn rfl rfl rfl (by decide +kernel) ⟨Nat.le_of_ble_eq_true rfl, Nat.le_of_ble_eq_true rfl⟩) ⟨tr_blind, tr_pre⟩ rfl rfl hl.1 rfl (lv_room (Nat.le_of_ble_eq_true rfl)) dX8_hashKinds_44 ⟨Nat.le_of_ble_eq_true rfl, Nat.le_of_ble_eq_true rfl⟩) ?_
        refine lv_lstore_n (lv' := [(3, .long r44), (0, .ref (a 0)), (5, .int l5)]) hx hb dX8_hashKinds_47 rfl hl (by decide) rfl (fun ls hl => ?_)
        refine lv_lload_n hx hb dX8_hashKinds_48 rfl (lv_at hl 0 rfl) ?_
        refine lv_aload_n hx hb dX8_hashKinds_49 rfl (lv_at hl 1 rfl) ?_
        refine lv_iload hx hb dX8_hashKinds_50 (lv_at hl 2 rfl) ?_
        obtain ⟨r52, hc52, hf⟩ := bi_s hf
        rcases r52 with E9 | r52
        · exact absurd hf (fun h => nomatch h)
        have hf := sel_r hf
        refine cRO (W.runV (As := [.int l5]) (rest := [.long r44]) ⟨hx, hb, hml, hown, hts⟩ (n_X8_shelvesWith l dC dI cI cZ cS f g a M l5 r52 hc52) (cwV 1 hts gX8_hashKinds_X8_shelvesWith rfl rfl rfl (by decide +kernel) ⟨Nat.le_of_ble_eq_true rfl, Nat.le_of_ble_eq_true rfl⟩) ⟨RO8.blind, va_recv hK hP (ci := 8) (q0 := 0) rfl rfl, RO8.pre hP hK hNW⟩ rfl rfl hl.1 rfl (lv_room (Nat.le_of_ble_eq_true rfl)) dX8_hashKinds_52 ⟨Nat.le_of_ble_eq_true rfl, Nat.le_of_ble_eq_true rfl⟩) ?_
        refine lv_i2l (v := r52.toInt64) hx hb dX8_hashKinds_55 rfl ?_
        obtain ⟨r56, hc56, hf⟩ := bi_s hf
        refine cRO (W.runS (As := [.long r44, .long (r52.toInt64)]) (rest := []) ⟨hx, hb, hml, hown, hts⟩ (c_X8_hashOn l r44 (r52.toInt64) r56 hc56) (va_cwS 2 hts gX8_hashKinds_X8_hashOn rfl rfl rfl (by decide +kernel) ⟨Nat.le_of_ble_eq_true rfl, Nat.le_of_ble_eq_true rfl⟩) ⟨tr_blind, tr_pre⟩ rfl rfl hl.1 rfl (lv_room (Nat.le_of_ble_eq_true rfl)) dX8_hashKinds_56 ⟨Nat.le_of_ble_eq_true rfl, Nat.le_of_ble_eq_true rfl⟩) ?_
        refine lv_lstore_n (lv' := [(3, .long r56), (0, .ref (a 0)), (5, .int l5)]) hx hb dX8_hashKinds_59 rfl hl (by decide) rfl (fun ls hl => ?_)
        refine lv_lload_n hx hb dX8_hashKinds_60 rfl (lv_at hl 0 rfl) ?_
        refine lv_aload_n hx hb dX8_hashKinds_61 rfl (lv_at hl 1 rfl) ?_
        refine lv_iload hx hb dX8_hashKinds_62 (lv_at hl 2 rfl) ?_
        obtain ⟨r64, hc64, hf⟩ := bi_s hf
        rcases r64 with E9 | r64
        · exact absurd hf (fun h => nomatch h)
        have hf := sel_r hf
        refine cRO (W.runV (As := [.int l5]) (rest := [.long r56]) ⟨hx, hb, hml, hown, hts⟩ (n_X8_leastOf l dC dI cI cZ cS f g a M l5 r64 hc64) (cwV 1 hts gX8_hashKinds_X8_leastOf rfl rfl rfl (by decide +kernel) ⟨Nat.le_of_ble_eq_true rfl, Nat.le_of_ble_eq_true rfl⟩) ⟨RO8.blind, va_recv hK hP (ci := 8) (q0 := 0) rfl rfl, RO8.pre hP hK hNW⟩ rfl rfl hl.1 rfl (lv_room (Nat.le_of_ble_eq_true rfl)) dX8_hashKinds_64 ⟨Nat.le_of_ble_eq_true rfl, Nat.le_of_ble_eq_true rfl⟩) ?_
        refine lv_i2l (v := r64.toInt64) hx hb dX8_hashKinds_67 rfl ?_
        obtain ⟨r68, hc68, hf⟩ := bi_s hf
        refine cRO (W.runS (As := [.long r56, .long (r64.toInt64)]) (rest := []) ⟨hx, hb, hml, hown, hts⟩ (c_X8_hashOn l r56 (r64.toInt64) r68 hc68) (va_cwS 2 hts gX8_hashKinds_X8_hashOn rfl rfl rfl (by decide +kernel) ⟨Nat.le_of_ble_eq_true rfl, Nat.le_of_ble_eq_true rfl⟩) ⟨tr_blind, tr_pre⟩ rfl rfl hl.1 rfl (lv_room (Nat.le_of_ble_eq_true rfl)) dX8_hashKinds_68 ⟨Nat.le_of_ble_eq_true rfl, Nat.le_of_ble_eq_true rfl⟩) ?_
        refine lv_lstore_n (lv' := [(3, .long r68), (0, .ref (a 0)), (5, .int l5)]) hx hb dX8_hashKinds_71 rfl hl (by decide) rfl (fun ls hl => ?_)
        refine lv_lload_n hx hb dX8_hashKinds_72 rfl (lv_at hl 0 rfl) ?_
        refine lv_aload_n hx hb dX8_hashKinds_73 rfl (lv_at hl 1 rfl) ?_
        refine lv_iload hx hb dX8_hashKinds_74 (lv_at hl 2 rfl) ?_
        obtain ⟨r76, hc76, hf⟩ := bi_s hf
        rcases r76 with E9 | r76
        · exact absurd hf (fun h => nomatch h)
        have hf := sel_r hf
        refine cRO (W.runV (As := [.int l5]) (rest := [.long r68]) ⟨hx, hb, hml, hown, hts⟩ (n_X8_missingOf l dC dI cI cZ cS f g a M l5 r76 hc76) (cwV 1 hts gX8_hashKinds_X8_missingOf rfl rfl rfl (by decide +kernel) ⟨Nat.le_of_ble_eq_true rfl, Nat.le_of_ble_eq_true rfl⟩) ⟨RO8.blind, va_recv hK hP (ci := 8) (q0 := 0) rfl rfl, RO8.pre hP hK hNW⟩ rfl rfl hl.1 rfl (lv_room (Nat.le_of_ble_eq_true rfl)) dX8_hashKinds_76 ⟨Nat.le_of_ble_eq_true rfl, Nat.le_of_ble_eq_true rfl⟩) ?_
        refine lv_i2l (v := r76.toInt64) hx hb dX8_hashKinds_79 rfl ?_
        obtain ⟨r80, hc80, hf⟩ := bi_s hf
        refine cRO (W.runS (As := [.long r68, .long (r76.toInt64)]) (rest := []) ⟨hx, hb, hml, hown, hts⟩ (c_X8_hashOn l r68 (r76.toInt64) r80 hc80) (va_cwS 2 hts gX8_hashKinds_X8_hashOn rfl rfl rfl (by decide +kernel) ⟨Nat.le_of_ble_eq_true rfl, Nat.le_of_ble_eq_true rfl⟩) ⟨tr_blind, tr_pre⟩ rfl rfl hl.1 rfl (lv_room (Nat.le_of_ble_eq_true rfl)) dX8_hashKinds_80 ⟨Nat.le_of_ble_eq_true rfl, Nat.le_of_ble_eq_true rfl⟩) ?_
        refine lv_lstore_n (lv' := [(3, .long r80), (0, .ref (a 0)), (5, .int l5)]) hx hb dX8_hashKinds_83 rfl hl (by decide) rfl (fun ls hl => ?_)
        refine lv_iinc (v := (l5 + (1 : Int32))) (lv' := [(5, .int (l5 + (1 : Int32))), (3, .long r80), (0, .ref (a 0))]) hx hb dX8_hashKinds_84 hl (k := 2) rfl rfl (by decide) rfl (fun ls hl => ?_)
        refine lv_goto (tgt := 5) hx hb dX8_hashKinds_87 (by decide) ?_
        exact ih kx90 hkx90 r80 (l5 + (1 : Int32)) hf _ (lv_sub hl [2, 1, 0] rfl)
  have hl := lv_entry ([.ref (a 0), .long a1]) (n := 6) (Nat.le_of_ble_eq_true rfl)
  rw [lg_entry_eq]
  generalize (lg_sl ([.ref (a 0), .long a1]) ++ List.replicate (6 - (lg_sl ([.ref (a 0), .long a1])).length) Slot.unset).toArray = ls at hl ⊢
  have hl : lv_has ls 6 [(0, .ref (a 0)), (1, .long a1)] := hl
  unfold fX8_hashKinds at hf
  refine lv_lload_n hx hb dX8_hashKinds_0 rfl (lv_at hl 1 rfl) ?_
  refine lv_lstore_n (lv' := [(3, .long a1), (0, .ref (a 0)), (1, .long a1)]) hx hb dX8_hashKinds_1 rfl hl (by decide) rfl (fun ls hl => ?_)
  refine lv_iconst (v := (0 : Int32)) hx hb dX8_hashKinds_2 (by decide) ?_
  refine lv_istore (lv' := [(5, .int (0 : Int32)), (3, .long a1), (0, .ref (a 0)), (1, .long a1)]) hx hb dX8_hashKinds_3 hl (by decide) rfl (fun ls hl => ?_)
  refine hfX8_hashKinds_L5 5000 _ (fun l3 hf ls hl => ?_) a1 (0 : Int32) hf _ (lv_sub hl [2, 1, 0] rfl)
  refine lv_lload_n hx hb dX8_hashKinds_90 rfl (lv_at hl 1 rfl) ?_
  refine lv_aload_n hx hb dX8_hashKinds_91 rfl (lv_at hl 0 rfl) ?_
  obtain ⟨r92, hc92, hf⟩ := bi_s hf
  have hPc := hP
  refine cRO (W.runV (As := []) (rest := [.long l3]) ⟨hx, hb, hml, hown, hts⟩ (c_X8_shortKinds l dC dI cI cZ cS f g a M r92 hc92) (cwV 0 hts gX8_hashKinds_X8_shortKinds rfl rfl rfl (by decide +kernel) ⟨Nat.le_of_ble_eq_true rfl, Nat.le_of_ble_eq_true rfl⟩) ⟨RO8.blind, va_recv hK hP (ci := 8) (q0 := 0) rfl rfl, RO8.pre hPc hK hNW⟩ rfl rfl hl.1 rfl (lv_room (Nat.le_of_ble_eq_true rfl)) dX8_hashKinds_92 ⟨Nat.le_of_ble_eq_true rfl, Nat.le_of_ble_eq_true rfl⟩) ?_
  refine lv_i2l (v := r92.toInt64) hx hb dX8_hashKinds_95 rfl ?_
  obtain ⟨r96, hc96, hf⟩ := bi_s hf
  refine cRO (W.runS (As := [.long l3, .long (r92.toInt64)]) (rest := []) ⟨hx, hb, hml, hown, hts⟩ (c_X8_hashOn l l3 (r92.toInt64) r96 hc96) (va_cwS 2 hts gX8_hashKinds_X8_hashOn rfl rfl rfl (by decide +kernel) ⟨Nat.le_of_ble_eq_true rfl, Nat.le_of_ble_eq_true rfl⟩) ⟨tr_blind, tr_pre⟩ rfl rfl hl.1 rfl (lv_room (Nat.le_of_ble_eq_true rfl)) dX8_hashKinds_96 ⟨Nat.le_of_ble_eq_true rfl, Nat.le_of_ble_eq_true rfl⟩) ?_
  refine lv_lstore_n (lv' := [(3, .long r96), (0, .ref (a 0))]) hx hb dX8_hashKinds_99 rfl hl (by decide) rfl (fun ls hl => ?_)
  refine lv_lload_n hx hb dX8_hashKinds_100 rfl (lv_at hl 0 rfl) ?_
  refine lv_aload_n hx hb dX8_hashKinds_101 rfl (lv_at hl 1 rfl) ?_
  refine lv_iconst (v := (0 : Int32)) hx hb dX8_hashKinds_102 (by decide) ?_
  obtain ⟨r103, hc103, hf⟩ := bi_s hf
  rcases r103 with E9 | r103
  · exact absurd hf (fun h => nomatch h)
  have hf := sel_r hf
  refine cRO (W.runV (As := [.int (0 : Int32)]) (rest := [.long r96]) ⟨hx, hb, hml, hown, hts⟩ (n_X8_sideWeight l dC dI cI cZ cS f g a M (0 : Int32) r103 hc103) (cwV 1 hts gX8_hashKinds_X8_sideWeight rfl rfl rfl (by decide +kernel) ⟨Nat.le_of_ble_eq_true rfl, Nat.le_of_ble_eq_true rfl⟩) ⟨RO8.blind, va_recv hK hP (ci := 8) (q0 := 0) rfl rfl, RO8.pre hP hK hNW⟩ rfl rfl hl.1 rfl (lv_room (Nat.le_of_ble_eq_true rfl)) dX8_hashKinds_103 ⟨Nat.le_of_ble_eq_true rfl, Nat.le_of_ble_eq_true rfl⟩) ?_
  refine lv_i2l (v := r103.toInt64) hx hb dX8_hashKinds_106 rfl ?_
  obtain ⟨r107, hc107, hf⟩ := bi_s hf
  refine cRO (W.runS (As := [.long r96, .long (r103.toInt64)]) (rest := []) ⟨hx, hb, hml, hown, hts⟩ (c_X8_hashOn l r96 (r103.toInt64) r107 hc107) (va_cwS 2 hts gX8_hashKinds_X8_hashOn rfl rfl rfl (by decide +kernel) ⟨Nat.le_of_ble_eq_true rfl, Nat.le_of_ble_eq_true rfl⟩) ⟨tr_blind, tr_pre⟩ rfl rfl hl.1 rfl (lv_room (Nat.le_of_ble_eq_true rfl)) dX8_hashKinds_107 ⟨Nat.le_of_ble_eq_true rfl, Nat.le_of_ble_eq_true rfl⟩) ?_
  refine lv_lstore_n (lv' := [(3, .long r107), (0, .ref (a 0))]) hx hb dX8_hashKinds_110 rfl hl (by decide) rfl (fun ls hl => ?_)
  refine lv_lload_n hx hb dX8_hashKinds_111 rfl (lv_at hl 0 rfl) ?_
  refine lv_aload_n hx hb dX8_hashKinds_112 rfl (lv_at hl 1 rfl) ?_
  refine lv_iconst (v := (1 : Int32)) hx hb dX8_hashKinds_113 (by decide) ?_
  obtain ⟨r114, hc114, hf⟩ := bi_s hf
  rcases r114 with E9 | r114
  · exact absurd hf (fun h => nomatch h)
  have hf := sel_r hf
  refine cRO (W.runV (As := [.int (1 : Int32)]) (rest := [.long r107]) ⟨hx, hb, hml, hown, hts⟩ (n_X8_sideWeight l dC dI cI cZ cS f g a M (1 : Int32) r114 hc114) (cwV 1 hts gX8_hashKinds_X8_sideWeight rfl rfl rfl (by decide +kernel) ⟨Nat.le_of_ble_eq_true rfl, Nat.le_of_ble_eq_true rfl⟩) ⟨RO8.blind, va_recv hK hP (ci := 8) (q0 := 0) rfl rfl, RO8.pre hP hK hNW⟩ rfl rfl hl.1 rfl (lv_room (Nat.le_of_ble_eq_true rfl)) dX8_hashKinds_114 ⟨Nat.le_of_ble_eq_true rfl, Nat.le_of_ble_eq_true rfl⟩) ?_
  refine lv_i2l (v := r114.toInt64) hx hb dX8_hashKinds_117 rfl ?_
  obtain ⟨r118, hc118, hf⟩ := bi_s hf
  refine cRO (W.runS (As := [.long r107, .long (r114.toInt64)]) (rest := []) ⟨hx, hb, hml, hown, hts⟩ (c_X8_hashOn l r107 (r114.toInt64) r118 hc118) (va_cwS 2 hts gX8_hashKinds_X8_hashOn rfl rfl rfl (by decide +kernel) ⟨Nat.le_of_ble_eq_true rfl, Nat.le_of_ble_eq_true rfl⟩) ⟨tr_blind, tr_pre⟩ rfl rfl hl.1 rfl (lv_room (Nat.le_of_ble_eq_true rfl)) dX8_hashKinds_118 ⟨Nat.le_of_ble_eq_true rfl, Nat.le_of_ble_eq_true rfl⟩) ?_
  exact W.lret (v := r118) hx hb hr (fun t ht hW => ⟨congrArg (fun x => Outcome.returned (some (Value.long x))) (so_e hf), ht⟩) fl0 dX8_hashKinds_121
set_option maxHeartbeats 4000000 in
set_option maxRecDepth 100000 in
theorem c_X8_hashTrips (l : Launch) (dC : Nat → ClassId) (dI : Nat → Nat → Nat) (cI cZ cS : ClassId) (f g : Nat → Option Nat) (a : Nat → Nat) (M : Mem) (a1 : Int64) (z : Int64) (hf : fX8_hashTrips M a1 = some z) : Met l yX8_hashTrips wsX8_hashTrips ({ frames := 2, cells := 0, slots := 0, locals := 45 } : Room) (va_Pc [.ref (a 0), .long a1] (RO8 (dC, dI) cI cZ cS (wX8 cI cZ cS f g a M))) (k2_QcV (.long z)) 0 0 (fun _ => False) := by
  refine Met.ofW (cc := cX8_hashTrips) (maxL := 6) (ret := (some .long)) (by decide) rfl ?_
  intro p e s m args below meth c s₁ B hml hv
  obtain ⟨rfl, hP, hK, hNW⟩ := hv
  have hK2 : va_K (dC, dI) vwCl [(cI, .int), (cZ, .boolean)] s := hK.sub (tys' := [(cI, .int), (cZ, .boolean)]) [0, 1] rfl
  have hx := B.exec
  have hb := B.bytes
  have hr := B.returns
  have hts := atoms_spec (ws := wsX8_hashTrips) B.pre
  have hown : s.vm.findClass RX8 = some m.cls := findClass_of_methodNamed B.named
  have hlocks := B.notSynchronized
  have hinX8 : ∀ w ∈ u_ws RX8 TX8 6, w ∈ wsX8_hashTrips := by decide +kernel
  have hw1 := hts (.fieldLink RX8 12 "GlideShelves" "now" "LGlideShelves$State;") (by decide +kernel)
  have hinX6 : ∀ w ∈ u_ws RX6 TX6 5, w ∈ wsX8_hashTrips := by decide +kernel
  have hinX2 : ∀ w ∈ u_ws RX2 TX2 7, w ∈ wsX8_hashTrips := by decide +kernel
  have hfX8_hashTrips_L13 : ∀ (n : Nat) (kx57 : Int64 → Option (Int64)) (hkx57 : ∀ (l3 : Int64), kx57 l3 = some z → ∀ (ls : Array Slot), lv_has ls 6 [(3, .long l3)] → W p l e (headSpec wsX8_hashTrips ({ frames := 2, cells := 0, slots := 0, locals := 45 } : Room)).room s m ([.ref (a 0), .long a1] : List Value).toArray below meth c s.heap [] 0 0 (MQ below (k2_QcV (.long z)) ([.ref (a 0), .long a1] : List Value).toArray s 0 0 (fun _ => False)) (F0 m 57 ls [])), ∀ (l3 : Int64) (l5 : Int32), fX8_hashTrips_L13 M n kx57 l3 l5 = some z → ∀ (ls : Array Slot), lv_has ls 6 [(0, .ref (a 0)), (3, .long l3), (5, .int l5)] → W p l e (headSpec wsX8_hashTrips ({ frames := 2, cells := 0, slots := 0, locals := 45 } : Room)).room s m ([.ref (a 0), .long a1] : List Value).toArray below meth c s.heap [] 0 0 (MQ below (k2_QcV (.long z)) ([.ref (a 0), .long a1] : List Value).toArray s 0 0 (fun _ => False)) (F0 m 13 ls []) := by
    intro n
    induction n with
    | zero =>
      intro kx57 hkx57 l3 l5 hf ls hl
      rw [fX8_hashTrips_L13] at hf
      cases hf
    | succ n ih =>
      intro kx57 hkx57 l3 l5 hf ls hl
      rw [fX8_hashTrips_L13] at hf
      refine lv_iload hx hb dX8_hashTrips_13 (lv_at hl 2 rfl) ?_
      refine lv_aload_n hx hb dX8_hashTrips_15 rfl (lv_at hl 0 rfl) ?_
      refine va_get (D := (dC, dI)) (ci := 8) (v := .ref (a 1)) (C := RX8) (T := TX8) (N := 6) hx hb hts hinX8 hown hK hP 0 rfl rfl 0 (by decide) hw1 (fun _ h9 => h9) rfl dX8_hashTrips_16 ?_
      refine va_getN (D := (dC, dI)) (ci := 6) (v := .ref (a 7)) (C := RX6) (T := TX6) (N := 5) hx hb hts hinX6 hown hK hP 1 rfl rfl 1 (by decide) (nw10 hNW) (fun _ h9 => h9) rfl dX8_hashTrips_19 ?_
      refine va_getN (D := (dC, dI)) (ci := 2) (v := .int (M 7 4)) (C := RX2) (T := TX2) (N := 7) hx hb hts hinX2 hown hK hP 7 rfl rfl 4 (by decide) (nw18 hNW) (fun _ h9 => h9) rfl dX8_hashTrips_22 ?_
      refine lv_icmp_ge (tgt := 57) hx hb dX8_hashTrips_25 (by decide) (fun c9 => ?_) (fun c9 => ?_)
      · have hf := it_t hf c9
        exact hkx57 l3 hf _ (lv_sub hl [1] rfl)
      · have hf := it_f hf c9
        refine lv_lload_n hx hb dX8_hashTrips_28 rfl (lv_at hl 1 rfl) ?_
        refine lv_aload_n hx hb dX8_hashTrips_29 rfl (lv_at hl 0 rfl) ?_
        refine lv_iload hx hb dX8_hashTrips_30 (lv_at hl 2 rfl) ?_
        obtain ⟨r32, hc32, hf⟩ := bi_s hf
        rcases r32 with E9 | r32
        · exact absurd hf (fun h => nomatch h)
        have hf := sel_r hf
        refine cRO (W.runV (As := [.int l5]) (rest := [.long l3]) ⟨hx, hb, hml, hown, hts⟩ (n_X8_tripTicks l dC dI cI cZ cS f g a M l5 r32 hc32) (cwV 1 hts gX8_hashTrips_X8_tripTicks rfl rfl rfl (by decide +kernel) ⟨Nat.le_of_ble_eq_true rfl, Nat.le_of_ble_eq_true rfl⟩) ⟨RO8.blind, va_recv hK hP (ci := 8) (q0 := 0) rfl rfl, RO8.pre hP hK hNW⟩ rfl rfl hl.1 rfl (lv_room (Nat.le_of_ble_eq_true rfl)) dX8_hashTrips_32 ⟨Nat.le_of_ble_eq_true rfl, Nat.le_of_ble_eq_true rfl⟩) ?_
        refine lv_i2l (v := r32.toInt64) hx hb dX8_hashTrips_35 rfl ?_
        obtain ⟨r36, hc36, hf⟩ := bi_s hf
        refine cRO (W.runS (As := [.long l3, .long (r32.toInt64)]) (rest := []) ⟨hx, hb, hml, hown, hts⟩ (c_X8_hashOn l l3 (r32.toInt64) r36 hc36) (va_cwS 2 hts gX8_hashTrips_X8_hashOn rfl rfl rfl (by decide +kernel) ⟨Nat.le_of_ble_eq_true rfl, Nat.le_of_ble_eq_true rfl⟩) ⟨tr_blind, tr_pre⟩ rfl rfl hl.1 rfl (lv_room (Nat.le_of_ble_eq_true rfl)) dX8_hashTrips_36 ⟨Nat.le_of_ble_eq_true rfl, Nat.le_of_ble_eq_true rfl⟩) ?_
        refine lv_lstore_n (lv' := [(3, .long r36), (0, .ref (a 0)), (5, .int l5)]) hx hb dX8_hashTrips_39 rfl hl (by decide) rfl (fun ls hl => ?_)
        refine lv_lload_n hx hb dX8_hashTrips_40 rfl (lv_at hl 0 rfl) ?_
        refine lv_aload_n hx hb dX8_hashTrips_41 rfl (lv_at hl 1 rfl) ?_
        refine lv_iload hx hb dX8_hashTrips_42 (lv_at hl 2 rfl) ?_
        obtain ⟨r44, hc44, hf⟩ := bi_s hf
        rcases r44 with E9 | r44
        · exact absurd hf (fun h => nomatch h)
        have hf := sel_r hf
        refine cRO (W.runV (As := [.int l5]) (rest := [.long r36]) ⟨hx, hb, hml, hown, hts⟩ (n_X8_wasFetch l dC dI cI cZ cS f g a M l5 r44 hc44) (cwV 1 hts gX8_hashTrips_X8_wasFetch rfl rfl rfl (by decide +kernel) ⟨Nat.le_of_ble_eq_true rfl, Nat.le_of_ble_eq_true rfl⟩) ⟨RO8.blind, va_recv hK hP (ci := 8) (q0 := 0) rfl rfl, RO8.pre hP hK hNW⟩ rfl rfl hl.1 rfl (lv_room (Nat.le_of_ble_eq_true rfl)) dX8_hashTrips_44 ⟨Nat.le_of_ble_eq_true rfl, Nat.le_of_ble_eq_true rfl⟩) ?_
        obtain ⟨r47, hc47, hf⟩ := bi_s hf
        refine cRO (W.runS (As := [.long r36, .int r44]) (rest := []) ⟨hx, hb, hml, hown, hts⟩ (c_X8_hashOn_ l r36 r44 r47 hc47) (va_cwS 2 hts gX8_hashTrips_X8_hashOn_ rfl rfl rfl (by decide +kernel) ⟨Nat.le_of_ble_eq_true rfl, Nat.le_of_ble_eq_true rfl⟩) ⟨tr_blind, tr_pre⟩ rfl rfl hl.1 rfl (lv_room (Nat.le_of_ble_eq_true rfl)) dX8_hashTrips_47 ⟨Nat.le_of_ble_eq_true rfl, Nat.le_of_ble_eq_true rfl⟩) ?_
        refine lv_lstore_n (lv' := [(3, .long r47), (0, .ref (a 0)), (5, .int l5)]) hx hb dX8_hashTrips_50 rfl hl (by decide) rfl (fun ls hl => ?_)
        refine lv_iinc (v := (l5 + (1 : Int32))) (lv' := [(5, .int (l5 + (1 : Int32))), (3, .long r47), (0, .ref (a 0))]) hx hb dX8_hashTrips_51 hl (k := 2) rfl rfl (by decide) rfl (fun ls hl => ?_)
        refine lv_goto (tgt := 13) hx hb dX8_hashTrips_54 (by decide) ?_
        exact ih kx57 hkx57 r47 (l5 + (1 : Int32)) hf _ (lv_sub hl [2, 1, 0] rfl)
  have hl := lv_entry ([.ref (a 0), .long a1]) (n := 6) (Nat.le_of_ble_eq_true rfl)
  rw [lg_entry_eq]
  generalize (lg_sl ([.ref (a 0), .long a1]) ++ List.replicate (6 - (lg_sl ([.ref (a 0), .long a1])).length) Slot.unset).toArray = ls at hl ⊢
  have hl : lv_has ls 6 [(0, .ref (a 0)), (1, .long a1)] := hl
  unfold fX8_hashTrips at hf
  refine lv_lload_n hx hb dX8_hashTrips_0 rfl (lv_at hl 1 rfl) ?_
  refine lv_aload_n hx hb dX8_hashTrips_1 rfl (lv_at hl 0 rfl) ?_
  obtain ⟨r2, hc2, hf⟩ := bi_s hf
  have hPc := hP
  refine cRO (W.runV (As := []) (rest := [.long a1]) ⟨hx, hb, hml, hown, hts⟩ (c_X8_trips l dC dI cI cZ cS f g a M r2 hc2) (cwV 0 hts gX8_hashTrips_X8_trips rfl rfl rfl (by decide +kernel) ⟨Nat.le_of_ble_eq_true rfl, Nat.le_of_ble_eq_true rfl⟩) ⟨RO8.blind, va_recv hK hP (ci := 8) (q0 := 0) rfl rfl, RO8.pre hPc hK hNW⟩ rfl rfl hl.1 rfl (lv_room (Nat.le_of_ble_eq_true rfl)) dX8_hashTrips_2 ⟨Nat.le_of_ble_eq_true rfl, Nat.le_of_ble_eq_true rfl⟩) ?_
  refine lv_i2l (v := r2.toInt64) hx hb dX8_hashTrips_5 rfl ?_
  obtain ⟨r6, hc6, hf⟩ := bi_s hf
  refine cRO (W.runS (As := [.long a1, .long (r2.toInt64)]) (rest := []) ⟨hx, hb, hml, hown, hts⟩ (c_X8_hashOn l a1 (r2.toInt64) r6 hc6) (va_cwS 2 hts gX8_hashTrips_X8_hashOn rfl rfl rfl (by decide +kernel) ⟨Nat.le_of_ble_eq_true rfl, Nat.le_of_ble_eq_true rfl⟩) ⟨tr_blind, tr_pre⟩ rfl rfl hl.1 rfl (lv_room (Nat.le_of_ble_eq_true rfl)) dX8_hashTrips_6 ⟨Nat.le_of_ble_eq_true rfl, Nat.le_of_ble_eq_true rfl⟩) ?_
  refine lv_lstore_n (lv' := [(3, .long r6), (0, .ref (a 0)), (1, .long a1)]) hx hb dX8_hashTrips_9 rfl hl (by decide) rfl (fun ls hl => ?_)
  refine lv_iconst (v := (0 : Int32)) hx hb dX8_hashTrips_10 (by decide) ?_
  refine lv_istore (lv' := [(5, .int (0 : Int32)), (3, .long r6), (0, .ref (a 0)), (1, .long a1)]) hx hb dX8_hashTrips_11 hl (by decide) rfl (fun ls hl => ?_)
  refine hfX8_hashTrips_L13 5000 _ (fun l3 hf ls hl => ?_) r6 (0 : Int32) hf _ (lv_sub hl [2, 1, 0] rfl)
  refine lv_lload_n hx hb dX8_hashTrips_57 rfl (lv_at hl 0 rfl) ?_
  exact W.lret (v := l3) hx hb hr (fun t ht hW => ⟨congrArg (fun x => Outcome.returned (some (Value.long x))) (so_e hf), ht⟩) fl0 dX8_hashTrips_58
set_option maxHeartbeats 4000000 in
set_option maxRecDepth 100000 in
theorem c_X8_hashOrders (l : Launch) (dC : Nat → ClassId) (dI : Nat → Nat → Nat) (cI cZ cS : ClassId) (f g : Nat → Option Nat) (a : Nat → Nat) (sz : Nat) (M : Mem) (a1 : Int64) (z : Int64 × Mem) (hf : fX8_hashOrders M a1 = some z) : Met l yX8_hashOrders wsX8_hashOrders ({ frames := 20, cells := 0, slots := 0, locals := 492 } : Room) (va_Pc [.ref (a 0), .long a1] (WR8 (dC, dI) cI cZ cS (wX8 cI cZ cS f g a M) sz)) (va_Ql (S := Unit) (fun r _ => r = z.1) (fun _ t => WE (dC, dI) cI cZ (wX8 cI cZ cS f g a (sr M 41 (z.2 41))) (va_A (wX8 cI cZ cS f g a M) sz) t) (va_A (wX8 cI cZ cS f g a M) sz)) 0 0 (va_A (wX8 cI cZ cS f g a M) sz) := by
  refine Met.ofW (cc := cX8_hashOrders) (maxL := 8) (ret := (some .long)) (by decide) rfl ?_
  intro p e s m args below meth c s₁ B hml hv
  obtain ⟨rfl, hsz, hP, hK, hD0, hNW⟩ := hv
  have hK2 : va_K (dC, dI) vwCl [(cI, .int), (cZ, .boolean)] s := hK.sub (tys' := [(cI, .int), (cZ, .boolean)]) [0, 1] rfl
  have hx := B.exec
  have hb := B.bytes
  have hr := B.returns
  have hts := atoms_spec (ws := wsX8_hashOrders) B.pre
  have hown : s.vm.findClass RX8 = some m.cls := findClass_of_methodNamed B.named
  have hlocks := B.notSynchronized
  have hinX8 : ∀ w ∈ u_ws RX8 TX8 6, w ∈ wsX8_hashOrders := by decide +kernel
  have hw1 := hts (.fieldLink RX8 12 "GlideShelves" "now" "LGlideShelves$State;") (by decide +kernel)
  have hinX6 : ∀ w ∈ u_ws RX6 TX6 5, w ∈ wsX8_hashOrders := by decide +kernel
  have hinX3 : ∀ w ∈ u_ws RX3 TX3 2, w ∈ wsX8_hashOrders := by decide +kernel
  have hw4 := hts (.initialized RX6) (by decide +kernel)
  have hw5 := hts (.instanceMethod yX6_isServable) (by decide +kernel)
  have hw6 := hts (.selects RX6 yX6_isServable yX6_isServable) (by decide +kernel)
  have hw7 := hts (.instanceMethod yX6_choice) (by decide +kernel)
  have hw8 := hts (.selects RX6 yX6_choice yX6_choice) (by decide +kernel)
  subst hsz
  have hD := hD0.self (sz := s.heap.size)
  generalize hAe : va_A (wX8 cI cZ cS f g a M) s.heap.size = A at hD ⊢
  have hA : ∀ q : Nat, s.heap.size ≤ q → A q := fun q h => by rw [← hAe]; exact Or.inr h
  have hS : va_S A s.heap s.heap [] := va_S.rf
  have hfX8_hashOrders_L31 : ∀ (n : Nat) (kx58 : Mem → Int64 → Int32 → Option (Int64 × Mem)) (hkx58 : ∀ (N : Mem) (l3 : Int64) (l5 : Int32), kx58 N l3 l5 = some z → ∀ (ls : Array Slot), lv_has ls 8 [(0, .ref (a 0)), (3, .long l3), (5, .int l5)] → ∀ (H : Heap) (locs : List Loc), va_P (dC, dI) vwCl (wX8 cI cZ cS f g a (sr M 41 (N 41))) H → va_D A (wX8 cI cZ cS f g a (sr M 41 (N 41))) → va_S A s.heap H locs → W p l e (headSpec wsX8_hashOrders ({ frames := 20, cells := 0, slots := 0, locals := 492 } : Room)).room s m ([.ref (a 0), .long a1] : List Value).toArray below meth c H locs 0 0 (MQ below (va_Ql (S := Unit) (fun r _ => r = z.1) (fun _ t => WE (dC, dI) cI cZ (wX8 cI cZ cS f g a (sr M 41 (z.2 41))) A t) A) ([.ref (a 0), .long a1] : List Value).toArray s 0 0 A) (F0 m 58 ls [])), ∀ (N : Mem) (l3 : Int64) (l5 : Int32) (l6 : Int32), fX8_hashOrders_L31 M n kx58 N l3 l5 l6 = some z → ∀ (ls : Array Slot), lv_has ls 8 [(0, .ref (a 0)), (3, .long l3), (5, .int l5), (6, .int l6)] → ∀ (H : Heap) (locs : List Loc), va_P (dC, dI) vwCl (wX8 cI cZ cS f g a (sr M 41 (N 41))) H → va_D A (wX8 cI cZ cS f g a (sr M 41 (N 41))) → va_S A s.heap H locs → W p l e (headSpec wsX8_hashOrders ({ frames := 20, cells := 0, slots := 0, locals := 492 } : Room)).room s m ([.ref (a 0), .long a1] : List Value).toArray below meth c H locs 0 0 (MQ below (va_Ql (S := Unit) (fun r _ => r = z.1) (fun _ t => WE (dC, dI) cI cZ (wX8 cI cZ cS f g a (sr M 41 (z.2 41))) A t) A) ([.ref (a 0), .long a1] : List Value).toArray s 0 0 A) (F0 m 31 ls []) := by
    intro n
    induction n with
    | zero =>
      intro kx58 hkx58 N l3 l5 l6 hf ls hl H locs hP hD hS
      rw [fX8_hashOrders_L31] at hf
      cases hf
    | succ n ih =>
      intro kx58 hkx58 N l3 l5 l6 hf ls hl H locs hP hD hS
      rw [fX8_hashOrders_L31] at hf
      refine lv_iload hx hb dX8_hashOrders_31 (lv_at hl 3 rfl) ?_
      refine lv_bipush (v := (10 : Int32)) hx hb dX8_hashOrders_33 (by decide) ?_
      refine lv_icmp_ge (tgt := 58) hx hb dX8_hashOrders_35 (by decide) (fun c9 => ?_) (fun c9 => ?_)
      · have hf := it_t hf c9
        exact hkx58 (sr M 41 (N 41)) l3 l5 hf _ (lv_sub hl [0, 1, 2] rfl) _ _ hP hD hS
      · have hf := it_f hf c9
        refine lv_lload_n hx hb dX8_hashOrders_38 rfl (lv_at hl 1 rfl) ?_
        refine lv_aload_n hx hb dX8_hashOrders_39 rfl (lv_at hl 0 rfl) ?_
        refine lv_iload hx hb dX8_hashOrders_40 (lv_at hl 2 rfl) ?_
        refine lv_iload hx hb dX8_hashOrders_42 (lv_at hl 3 rfl) ?_
        obtain ⟨r44, hc44, hf⟩ := bi_s hf
        rcases r44 with E9 | r44
        · exact absurd hf (fun h => nomatch h)
        have hf := sel_r hf
        refine cRO (W.runV (As := [.int l5, .int l6]) (rest := [.long l3]) ⟨hx, hb, hml, hown, hts⟩ (n_X8_wanted l dC dI cI cZ cS f g a (sr M 41 (N 41)) l5 l6 r44 hc44) (cwV 2 hts gX8_hashOrders_X8_wanted rfl rfl rfl (by decide +kernel) ⟨Nat.le_of_ble_eq_true rfl, Nat.le_of_ble_eq_true rfl⟩) ⟨RO8.blind, va_recv hK hP (ci := 8) (q0 := 0) rfl rfl, RO8.pre hP hK hNW⟩ rfl rfl hl.1 rfl (lv_room (Nat.le_of_ble_eq_true rfl)) dX8_hashOrders_44 ⟨Nat.le_of_ble_eq_true rfl, Nat.le_of_ble_eq_true rfl⟩) ?_
        refine lv_i2l (v := r44.toInt64) hx hb dX8_hashOrders_47 rfl ?_
        obtain ⟨r48, hc48, hf⟩ := bi_s hf
        refine cRO (W.runS (As := [.long l3, .long (r44.toInt64)]) (rest := []) ⟨hx, hb, hml, hown, hts⟩ (c_X8_hashOn l l3 (r44.toInt64) r48 hc48) (va_cwS 2 hts gX8_hashOrders_X8_hashOn rfl rfl rfl (by decide +kernel) ⟨Nat.le_of_ble_eq_true rfl, Nat.le_of_ble_eq_true rfl⟩) ⟨tr_blind, tr_pre⟩ rfl rfl hl.1 rfl (lv_room (Nat.le_of_ble_eq_true rfl)) dX8_hashOrders_48 ⟨Nat.le_of_ble_eq_true rfl, Nat.le_of_ble_eq_true rfl⟩) ?_
        refine lv_lstore_n (lv' := [(3, .long r48), (0, .ref (a 0)), (5, .int l5), (6, .int l6)]) hx hb dX8_hashOrders_51 rfl hl (by decide) rfl (fun ls hl => ?_)
        refine lv_iinc (v := (l6 + (1 : Int32))) (lv' := [(6, .int (l6 + (1 : Int32))), (3, .long r48), (0, .ref (a 0)), (5, .int l5)]) hx hb dX8_hashOrders_52 hl (k := 3) rfl rfl (by decide) rfl (fun ls hl => ?_)
        refine lv_goto (tgt := 31) hx hb dX8_hashOrders_55 (by decide) ?_
        exact ih kx58 hkx58 (sr M 41 (N 41)) r48 l5 (l6 + (1 : Int32)) hf _ (lv_sub hl [2, 1, 3, 0] rfl) _ _ hP hD hS
  have hfX8_hashOrders_B123 : ∀ (kb : Mem → Int64 → Int32 → Option (Int64 × Mem)) (hkb : ∀ (N : Mem) (l3 : Int64) (l5 : Int32), kb N l3 l5 = some z → ∀ (ls : Array Slot), lv_has ls 8 [(0, .ref (a 0)), (3, .long l3), (5, .int l5)] → ∀ (H : Heap) (locs : List Loc), va_P (dC, dI) vwCl (wX8 cI cZ cS f g a (sr M 41 (N 41))) H → va_D A (wX8 cI cZ cS f g a (sr M 41 (N 41))) → va_S A s.heap H locs → W p l e (headSpec wsX8_hashOrders ({ frames := 20, cells := 0, slots := 0, locals := 492 } : Room)).room s m ([.ref (a 0), .long a1] : List Value).toArray below meth c H locs 0 0 (MQ below (va_Ql (S := Unit) (fun r _ => r = z.1) (fun _ t => WE (dC, dI) cI cZ (wX8 cI cZ cS f g a (sr M 41 (z.2 41))) A t) A) ([.ref (a 0), .long a1] : List Value).toArray s 0 0 A) (F0 m 13 ls [])) (kx129 : Mem → Int64 → Option (Int64 × Mem)) (hkx129 : ∀ (N : Mem) (l3 : Int64), kx129 N l3 = some z → ∀ (ls : Array Slot), lv_has ls 8 [(3, .long l3)] → ∀ (H : Heap) (locs : List Loc), va_P (dC, dI) vwCl (wX8 cI cZ cS f g a (sr M 41 (N 41))) H → va_D A (wX8 cI cZ cS f g a (sr M 41 (N 41))) → va_S A s.heap H locs → W p l e (headSpec wsX8_hashOrders ({ frames := 20, cells := 0, slots := 0, locals := 492 } : Room)).room s m ([.ref (a 0), .long a1] : List Value).toArray below meth c H locs 0 0 (MQ below (va_Ql (S := Unit) (fun r _ => r = z.1) (fun _ t => WE (dC, dI) cI cZ (wX8 cI cZ cS f g a (sr M 41 (z.2 41))) A t) A) ([.ref (a 0), .long a1] : List Value).toArray s 0 0 A) (F0 m 129 ls [])), ∀ (N : Mem) (l3 : Int64) (l5 : Int32), fX8_hashOrders_B123 M kb kx129 N l3 l5 = some z → ∀ (ls : Array Slot), lv_has ls 8 [(0, .ref (a 0)), (3, .long l3), (5, .int l5)] → ∀ (H : Heap) (locs : List Loc), va_P (dC, dI) vwCl (wX8 cI cZ cS f g a (sr M 41 (N 41))) H → va_D A (wX8 cI cZ cS f g a (sr M 41 (N 41))) → va_S A s.heap H locs → W p l e (headSpec wsX8_hashOrders ({ frames := 20, cells := 0, slots := 0, locals := 492 } : Room)).room s m ([.ref (a 0), .long a1] : List Value).toArray below meth c H locs 0 0 (MQ below (va_Ql (S := Unit) (fun r _ => r = z.1) (fun _ t => WE (dC, dI) cI cZ (wX8 cI cZ cS f g a (sr M 41 (z.2 41))) A t) A) ([.ref (a 0), .long a1] : List Value).toArray s 0 0 A) (F0 m 123 ls []) := by
    intro kb hkb kx129 hkx129 N l3 l5 hf ls hl H locs hP hD hS
    unfold fX8_hashOrders_B123 at hf
    refine lv_iinc (v := (l5 + (1 : Int32))) (lv' := [(5, .int (l5 + (1 : Int32))), (0, .ref (a 0)), (3, .long l3)]) hx hb dX8_hashOrders_123 hl (k := 2) rfl rfl (by decide) rfl (fun ls hl => ?_)
    refine lv_goto (tgt := 13) hx hb dX8_hashOrders_126 (by decide) ?_
    exact hkb (sr M 41 (N 41)) l3 (l5 + (1 : Int32)) hf _ (lv_sub hl [1, 2, 0] rfl) _ _ hP hD hS
  have hfX8_hashOrders_L13 : ∀ (n : Nat) (kx129 : Mem → Int64 → Option (Int64 × Mem)) (hkx129 : ∀ (N : Mem) (l3 : Int64), kx129 N l3 = some z → ∀ (ls : Array Slot), lv_has ls 8 [(3, .long l3)] → ∀ (H : Heap) (locs : List Loc), va_P (dC, dI) vwCl (wX8 cI cZ cS f g a (sr M 41 (N 41))) H → va_D A (wX8 cI cZ cS f g a (sr M 41 (N 41))) → va_S A s.heap H locs → W p l e (headSpec wsX8_hashOrders ({ frames := 20, cells := 0, slots := 0, locals := 492 } : Room)).room s m ([.ref (a 0), .long a1] : List Value).toArray below meth c H locs 0 0 (MQ below (va_Ql (S := Unit) (fun r _ => r = z.1) (fun _ t => WE (dC, dI) cI cZ (wX8 cI cZ cS f g a (sr M 41 (z.2 41))) A t) A) ([.ref (a 0), .long a1] : List Value).toArray s 0 0 A) (F0 m 129 ls [])), ∀ (N : Mem) (l3 : Int64) (l5 : Int32), fX8_hashOrders_L13 M n kx129 N l3 l5 = some z → ∀ (ls : Array Slot), lv_has ls 8 [(0, .ref (a 0)), (3, .long l3), (5, .int l5)] → ∀ (H : Heap) (locs : List Loc), va_P (dC, dI) vwCl (wX8 cI cZ cS f g a (sr M 41 (N 41))) H → va_D A (wX8 cI cZ cS f g a (sr M 41 (N 41))) → va_S A s.heap H locs → W p l e (headSpec wsX8_hashOrders ({ frames := 20, cells := 0, slots := 0, locals := 492 } : Room)).room s m ([.ref (a 0), .long a1] : List Value).toArray below meth c H locs 0 0 (MQ below (va_Ql (S := Unit) (fun r _ => r = z.1) (fun _ t => WE (dC, dI) cI cZ (wX8 cI cZ cS f g a (sr M 41 (z.2 41))) A t) A) ([.ref (a 0), .long a1] : List Value).toArray s 0 0 A) (F0 m 13 ls []) := by
    intro n
    induction n with
    | zero =>
      intro kx129 hkx129 N l3 l5 hf ls hl H locs hP hD hS
      rw [fX8_hashOrders_L13] at hf
      cases hf
    | succ n ih =>
      intro kx129 hkx129 N l3 l5 hf ls hl H locs hP hD hS
      rw [fX8_hashOrders_L13] at hf
      refine lv_iload hx hb dX8_hashOrders_13 (lv_at hl 2 rfl) ?_
      refine lv_aload_n hx hb dX8_hashOrders_15 rfl (lv_at hl 0 rfl) ?_
      refine va_get (D := (dC, dI)) (ci := 8) (v := .ref (a 1)) (C := RX8) (T := TX8) (N := 6) hx hb hts hinX8 hown hK hP 0 rfl rfl 0 (by decide) hw1 (fun _ h9 => h9) rfl dX8_hashOrders_16 ?_
      refine va_getN (D := (dC, dI)) (ci := 6) (v := .ref (a 15)) (C := RX6) (T := TX6) (N := 5) hx hb hts hinX6 hown hK hP 1 rfl rfl 3 (by decide) (nw4 hNW) (fun _ h9 => h9) rfl dX8_hashOrders_19 ?_
      refine va_getN (D := (dC, dI)) (ci := 3) (v := .int (M 15 0)) (C := RX3) (T := TX3) (N := 2) hx hb hts hinX3 hown hK hP 15 rfl rfl 0 (by decide) (nw5 hNW) (fun _ h9 => h9) rfl dX8_hashOrders_22 ?_
      refine lv_icmp_ge (tgt := 129) hx hb dX8_hashOrders_25 (by decide) (fun c9 => ?_) (fun c9 => ?_)
      · have hf := it_t hf c9
        exact hkx129 (sr M 41 (N 41)) l3 hf _ (lv_sub hl [1] rfl) _ _ hP hD hS
      · have hf := it_f hf c9
        refine lv_iconst (v := (0 : Int32)) hx hb dX8_hashOrders_28 (by decide) ?_
        refine lv_istore (lv' := [(6, .int (0 : Int32)), (0, .ref (a 0)), (3, .long l3), (5, .int l5)]) hx hb dX8_hashOrders_29 hl (by decide) rfl (fun ls hl => ?_)
        refine hfX8_hashOrders_L31 5000 _ (fun N l3 l5 hf ls hl H locs hP hD hS => ?_) (sr M 41 (N 41)) l3 l5 (0 : Int32) hf _ (lv_sub hl [1, 2, 3, 0] rfl) _ _ hP hD hS
        refine lv_aload_n hx hb dX8_hashOrders_58 rfl (lv_at hl 0 rfl) ?_
        refine va_get (D := (dC, dI)) (ci := 8) (v := .ref (a 1)) (C := RX8) (T := TX8) (N := 6) hx hb hts hinX8 hown hK hP 0 rfl rfl 0 (by decide) hw1 (fun _ h9 => h9) rfl dX8_hashOrders_59 ?_
        refine lv_iload hx hb dX8_hashOrders_62 (lv_at hl 2 rfl) ?_
        obtain ⟨r64, hc64, hf⟩ := bi_s hf
        have hPc := hP.sub (ws' := (wX6 cI cZ (ofs 1 a) (ofs 1 (sr M 41 (N 41))))) [1, 2, 3, 4, 5, 6, 7, 8, 9, 10, 11, 12, 13, 14, 15, 16] rfl
        refine cRO (va_Run.run (va_runVN (As := [.int l5]) (rest := []) ⟨hx, hb, hml, hown, hts⟩ (c_X6_isServable l dC dI cI cZ (ofs 1 a) (ofs 1 (sr M 41 (N 41))) l5 r64 hc64) ⟨va_cnB 1 hts gX8_hashOrders_X6_isServable_n329 rfl rfl rfl (nw73 hNW) hw4 (by decide +kernel) ⟨Nat.le_of_ble_eq_true rfl, Nat.le_of_ble_eq_true rfl⟩, hw5, hw6⟩ ⟨RO.blind, va_recv hK hP (ci := 6) (q0 := 1) rfl rfl, RO.pre hPc hK2 hNW⟩ rfl rfl hl.1 rfl (lv_room (Nat.le_of_ble_eq_true rfl)) dX8_hashOrders_64 ⟨Nat.le_of_ble_eq_true rfl, Nat.le_of_ble_eq_true rfl⟩)) ?_
        refine lv_istore (lv' := [(6, .int r64), (0, .ref (a 0)), (3, .long l3), (5, .int l5)]) hx hb dX8_hashOrders_67 hl (by decide) rfl (fun ls hl => ?_)
        refine lv_lload_n hx hb dX8_hashOrders_69 rfl (lv_at hl 2 rfl) ?_
        refine lv_iload hx hb dX8_hashOrders_70 (lv_at hl 0 rfl) ?_
        obtain ⟨r72, hc72, hf⟩ := bi_s hf
        refine cRO (W.runS (As := [.long l3, .int r64]) (rest := []) ⟨hx, hb, hml, hown, hts⟩ (c_X8_hashOn_ l l3 r64 r72 hc72) (va_cwS 2 hts gX8_hashOrders_X8_hashOn_ rfl rfl rfl (by decide +kernel) ⟨Nat.le_of_ble_eq_true rfl, Nat.le_of_ble_eq_true rfl⟩) ⟨tr_blind, tr_pre⟩ rfl rfl hl.1 rfl (lv_room (Nat.le_of_ble_eq_true rfl)) dX8_hashOrders_72 ⟨Nat.le_of_ble_eq_true rfl, Nat.le_of_ble_eq_true rfl⟩) ?_
        refine lv_lstore_n (lv' := [(3, .long r72), (6, .int r64), (0, .ref (a 0)), (5, .int l5)]) hx hb dX8_hashOrders_75 rfl hl (by decide) rfl (fun ls hl => ?_)
        refine lv_iload hx hb dX8_hashOrders_76 (lv_at hl 1 rfl) ?_
        refine lv_if_eq (tgt := 123) hx hb dX8_hashOrders_78 (by decide) (fun c9 => ?_) (fun c9 => ?_)
        · have hf := it_t hf c9
          exact hfX8_hashOrders_B123 _ (ih kx129 hkx129) _ hkx129 (sr M 41 (N 41)) r72 l5 hf _ (lv_sub hl [2, 0, 3] rfl) _ _ hP hD hS
        · have hf := it_f hf c9
          refine lv_aload_n hx hb dX8_hashOrders_81 rfl (lv_at hl 2 rfl) ?_
          refine va_get (D := (dC, dI)) (ci := 8) (v := .ref (a 1)) (C := RX8) (T := TX8) (N := 6) hx hb hts hinX8 hown hK hP 0 rfl rfl 0 (by decide) hw1 (fun _ h9 => h9) rfl dX8_hashOrders_82 ?_
          refine lv_iload hx hb dX8_hashOrders_85 (lv_at hl 3 rfl) ?_
          obtain ⟨r87, hc87, hf⟩ := bi_s hf
          have hPc := hP.sub (ws' := (wX6 cI cZ (ofs 1 a) (ofs 1 (sr M 41 (N 41))))) [1, 2, 3, 4, 5, 6, 7, 8, 9, 10, 11, 12, 13, 14, 15, 16] rfl
          refine cRO (va_Run.run (va_runVN (As := [.int l5]) (rest := []) ⟨hx, hb, hml, hown, hts⟩ (c_X6_choice l dC dI cI cZ (ofs 1 a) (ofs 1 (sr M 41 (N 41))) l5 r87 hc87) ⟨va_cnB 1 hts gX8_hashOrders_X6_choice_n332 rfl rfl rfl (nw74 hNW) hw4 (by decide +kernel) ⟨Nat.le_of_ble_eq_true rfl, Nat.le_of_ble_eq_true rfl⟩, hw7, hw8⟩ ⟨RO.blind, va_recv hK hP (ci := 6) (q0 := 1) rfl rfl, RO.pre hPc hK2 hNW⟩ rfl rfl hl.1 rfl (lv_room (Nat.le_of_ble_eq_true rfl)) dX8_hashOrders_87 ⟨Nat.le_of_ble_eq_true rfl, Nat.le_of_ble_eq_true rfl⟩)) ?_
          refine lv_istore (lv' := [(7, .int r87), (3, .long r72), (6, .int r64), (0, .ref (a 0)), (5, .int l5)]) hx hb dX8_hashOrders_90 hl (by decide) rfl (fun ls hl => ?_)
          refine lv_lload_n hx hb dX8_hashOrders_92 rfl (lv_at hl 1 rfl) ?_
          refine lv_iload hx hb dX8_hashOrders_93 (lv_at hl 0 rfl) ?_
          obtain ⟨r95, hc95, hf⟩ := bi_s hf
          refine cRO (W.runS (As := [.int r87]) (rest := [.long r72]) ⟨hx, hb, hml, hown, hts⟩ (c_J6_bitCount_0f7a4 l r87 r95 hc95) (va_cwS 1 hts gX8_hashOrders_J6_bitCount_0f7a4 rfl rfl rfl (by decide +kernel) ⟨Nat.le_of_ble_eq_true rfl, Nat.le_of_ble_eq_true rfl⟩) ⟨tr_blind, tr_pre⟩ rfl rfl hl.1 rfl (lv_room (Nat.le_of_ble_eq_true rfl)) dX8_hashOrders_95 ⟨Nat.le_of_ble_eq_true rfl, Nat.le_of_ble_eq_true rfl⟩) ?_
          refine lv_i2l (v := r95.toInt64) hx hb dX8_hashOrders_98 rfl ?_
          obtain ⟨r99, hc99, hf⟩ := bi_s hf
          refine cRO (W.runS (As := [.long r72, .long (r95.toInt64)]) (rest := []) ⟨hx, hb, hml, hown, hts⟩ (c_X8_hashOn l r72 (r95.toInt64) r99 hc99) (va_cwS 2 hts gX8_hashOrders_X8_hashOn rfl rfl rfl (by decide +kernel) ⟨Nat.le_of_ble_eq_true rfl, Nat.le_of_ble_eq_true rfl⟩) ⟨tr_blind, tr_pre⟩ rfl rfl hl.1 rfl (lv_room (Nat.le_of_ble_eq_true rfl)) dX8_hashOrders_99 ⟨Nat.le_of_ble_eq_true rfl, Nat.le_of_ble_eq_true rfl⟩) ?_
          refine lv_lstore_n (lv' := [(3, .long r99), (7, .int r87), (6, .int r64), (0, .ref (a 0)), (5, .int l5)]) hx hb dX8_hashOrders_102 rfl hl (by decide) rfl (fun ls hl => ?_)
          refine lv_lload_n hx hb dX8_hashOrders_103 rfl (lv_at hl 0 rfl) ?_
          refine lv_aload_n hx hb dX8_hashOrders_104 rfl (lv_at hl 3 rfl) ?_
          refine lv_iload hx hb dX8_hashOrders_105 (lv_at hl 4 rfl) ?_
          obtain ⟨r107, hc107, hf⟩ := bi_s hf
          have hPc := hP
          have hDc := hD
          have hFc := va_free (wc := (wX8 cI cZ cS f g a (sr M 41 (N 41)))) hD hS hA [0, 1, 2, 3, 4, 5, 6, 7, 8, 9, 10, 11, 12, 13, 14, 15, 16, 17, 18, 19, 20, 21, 22, 23, 24, 25, 26, 27, 28, 29, 30, 31, 32, 33, 34, 35, 36, 37, 38, 39, 40, 41] rfl
          refine va_calli (va_runV (As := [.int l5]) (rest := [.long r99]) ⟨hx, hb, hml, hown, hts⟩ (c_X8_fewestFound l dC dI cI cZ cS f g a H.size (sr M 41 (N 41)) l5 r107 hc107) (cwV 1 hts gX8_hashOrders_X8_fewestFound rfl rfl rfl (by decide +kernel) ⟨Nat.le_of_ble_eq_true rfl, Nat.le_of_ble_eq_true rfl⟩) ⟨WR8.blind, va_recv hK hP (ci := 8) (q0 := 0) rfl rfl, WR8.pre hPc hK hDc hNW⟩ rfl rfl hl.1 rfl (lv_room (Nat.le_of_ble_eq_true rfl)) dX8_hashOrders_107 ⟨Nat.le_of_ble_eq_true rfl, Nat.le_of_ble_eq_true rfl⟩) hS (fun q _ h => hFc q h) hFc (fun rv u t H1 locs ht hvm hw hB hz1 hk1 hS => ?_)
          obtain ⟨hP1, hD1⟩ := hB
          rw [ht] at hP1
          subst hw
          have hP := hP1
          have hD := hD1.weaken (fun k q _ h => hFc q.1 h)
          have hP : va_P (dC, dI) vwCl (wX8 cI cZ cS f g a (sr M 41 (r107.2 41))) H1 := hP
          have hD : va_D A (wX8 cI cZ cS f g a (sr M 41 (r107.2 41))) := hD
          generalize H1 = H at hP hS ⊢
          refine lv_i2l (v := r107.1.toInt64) hx hb dX8_hashOrders_110 rfl ?_
          obtain ⟨r111, hc111, hf⟩ := bi_s hf
          refine cRO (W.runS (As := [.long r99, .long (r107.1.toInt64)]) (rest := []) ⟨hx, hb, hml, hown, hts⟩ (c_X8_hashOn l r99 (r107.1.toInt64) r111 hc111) (va_cwS 2 hts gX8_hashOrders_X8_hashOn rfl rfl rfl (by decide +kernel) ⟨Nat.le_of_ble_eq_true rfl, Nat.le_of_ble_eq_true rfl⟩) ⟨tr_blind, tr_pre⟩ rfl rfl hl.1 rfl (lv_room (Nat.le_of_ble_eq_true rfl)) dX8_hashOrders_111 ⟨Nat.le_of_ble_eq_true rfl, Nat.le_of_ble_eq_true rfl⟩) ?_
          refine lv_lstore_n (lv' := [(3, .long r111), (7, .int r87), (6, .int r64), (0, .ref (a 0)), (5, .int l5)]) hx hb dX8_hashOrders_114 rfl hl (by decide) rfl (fun ls hl => ?_)
          refine lv_lload_n hx hb dX8_hashOrders_115 rfl (lv_at hl 0 rfl) ?_
          refine lv_iload hx hb dX8_hashOrders_116 (lv_at hl 1 rfl) ?_
          refine lv_i2l (v := r87.toInt64) hx hb dX8_hashOrders_118 rfl ?_
          obtain ⟨r119, hc119, hf⟩ := bi_s hf
          refine cRO (W.runS (As := [.long r111, .long (r87.toInt64)]) (rest := []) ⟨hx, hb, hml, hown, hts⟩ (c_X8_hashOn l r111 (r87.toInt64) r119 hc119) (va_cwS 2 hts gX8_hashOrders_X8_hashOn rfl rfl rfl (by decide +kernel) ⟨Nat.le_of_ble_eq_true rfl, Nat.le_of_ble_eq_true rfl⟩) ⟨tr_blind, tr_pre⟩ rfl rfl hl.1 rfl (lv_room (Nat.le_of_ble_eq_true rfl)) dX8_hashOrders_119 ⟨Nat.le_of_ble_eq_true rfl, Nat.le_of_ble_eq_true rfl⟩) ?_
          refine lv_lstore_n (lv' := [(3, .long r119), (7, .int r87), (6, .int r64), (0, .ref (a 0)), (5, .int l5)]) hx hb dX8_hashOrders_122 rfl hl (by decide) rfl (fun ls hl => ?_)
          exact hfX8_hashOrders_B123 _ (ih kx129 hkx129) _ hkx129 (sr M 41 (r107.2 41)) r119 l5 hf _ (lv_sub hl [3, 0, 4] rfl) _ _ hP hD hS
  have hl := lv_entry ([.ref (a 0), .long a1]) (n := 8) (Nat.le_of_ble_eq_true rfl)
  rw [lg_entry_eq]
  generalize (lg_sl ([.ref (a 0), .long a1]) ++ List.replicate (8 - (lg_sl ([.ref (a 0), .long a1])).length) Slot.unset).toArray = ls at hl ⊢
  have hl : lv_has ls 8 [(0, .ref (a 0)), (1, .long a1)] := hl
  unfold fX8_hashOrders at hf
  suffices hgo : ∀ (H : Heap) (locs : List Loc), va_P (dC, dI) vwCl (wX8 cI cZ cS f g a M) H → va_D A (wX8 cI cZ cS f g a M) → va_S A s.heap H locs → W p l e (headSpec wsX8_hashOrders ({ frames := 20, cells := 0, slots := 0, locals := 492 } : Room)).room s m ([.ref (a 0), .long a1] : List Value).toArray below meth c H locs 0 0 (MQ below (va_Ql (S := Unit) (fun r _ => r = z.1) (fun _ t => WE (dC, dI) cI cZ (wX8 cI cZ cS f g a (sr M 41 (z.2 41))) A t) A) ([.ref (a 0), .long a1] : List Value).toArray s 0 0 A) (F0 m 0 ls []) from hgo _ _ hP hD hS
  intro H locs hP hD hS
  refine lv_lload_n hx hb dX8_hashOrders_0 rfl (lv_at hl 1 rfl) ?_
  refine lv_aload_n hx hb dX8_hashOrders_1 rfl (lv_at hl 0 rfl) ?_
  obtain ⟨r2, hc2, hf⟩ := bi_s hf
  have hPc := hP
  refine cRO (W.runV (As := []) (rest := [.long a1]) ⟨hx, hb, hml, hown, hts⟩ (c_X8_orders l dC dI cI cZ cS f g a M r2 hc2) (cwV 0 hts gX8_hashOrders_X8_orders rfl rfl rfl (by decide +kernel) ⟨Nat.le_of_ble_eq_true rfl, Nat.le_of_ble_eq_true rfl⟩) ⟨RO8.blind, va_recv hK hP (ci := 8) (q0 := 0) rfl rfl, RO8.pre hPc hK hNW⟩ rfl rfl hl.1 rfl (lv_room (Nat.le_of_ble_eq_true rfl)) dX8_hashOrders_2 ⟨Nat.le_of_ble_eq_true rfl, Nat.le_of_ble_eq_true rfl⟩) ?_
  refine lv_i2l (v := r2.toInt64) hx hb dX8_hashOrders_5 rfl ?_
  obtain ⟨r6, hc6, hf⟩ := bi_s hf
  refine cRO (W.runS (As := [.long a1, .long (r2.toInt64)]) (rest := []) ⟨hx, hb, hml, hown, hts⟩ (c_X8_hashOn l a1 (r2.toInt64) r6 hc6) (va_cwS 2 hts gX8_hashOrders_X8_hashOn rfl rfl rfl (by decide +kernel) ⟨Nat.le_of_ble_eq_true rfl, Nat.le_of_ble_eq_true rfl⟩) ⟨tr_blind, tr_pre⟩ rfl rfl hl.1 rfl (lv_room (Nat.le_of_ble_eq_true rfl)) dX8_hashOrders_6 ⟨Nat.le_of_ble_eq_true rfl, Nat.le_of_ble_eq_true rfl⟩) ?_
  refine lv_lstore_n (lv' := [(3, .long r6), (0, .ref (a 0)), (1, .long a1)]) hx hb dX8_hashOrders_9 rfl hl (by decide) rfl (fun ls hl => ?_)
  refine lv_iconst (v := (0 : Int32)) hx hb dX8_hashOrders_10 (by decide) ?_
  refine lv_istore (lv' := [(5, .int (0 : Int32)), (3, .long r6), (0, .ref (a 0)), (1, .long a1)]) hx hb dX8_hashOrders_11 hl (by decide) rfl (fun ls hl => ?_)
  refine hfX8_hashOrders_L13 5000 _ (fun N l3 hf ls hl H locs hP hD hS => ?_) M r6 (0 : Int32) hf _ (lv_sub hl [2, 1, 0] rfl) _ _ hP hD hS
  refine lv_lload_n hx hb dX8_hashOrders_129 rfl (lv_at hl 0 rfl) ?_
  have e9 := so_e hf
  subst e9
  exact W.lret (v := l3) hx hb hr (fun t ht hW => ⟨⟨l3, (), rfl, rfl, WE.mk hP hD ht⟩, hS.F ht⟩) hS.2.2 dX8_hashOrders_130
set_option maxHeartbeats 4000000 in
set_option maxRecDepth 100000 in
theorem c_X8_bitsOf (l : Launch) (a0 : UInt64) (z : Int64) (hf : fX8_bitsOf a0 = some z) : Met l yX8_bitsOf wsX8_bitsOf ({ frames := 0, cells := 0, slots := 0, locals := 0 } : Room) (va_Pc [.double a0] (fun _ => True)) (k2_QcV (.long z)) 0 0 (fun _ => False) := by
  refine Met.ofW (cc := cX8_bitsOf) (maxL := 7) (ret := (some .long)) (by decide) rfl ?_
  intro p e s m args below meth c s₁ B hml hv
  obtain ⟨rfl, -⟩ := hv
  have hx := B.exec
  have hb := B.bytes
  have hr := B.returns
  have hts := atoms_spec (ws := wsX8_bitsOf) B.pre
  have hown : s.vm.findClass RX8 = some m.cls := findClass_of_methodNamed B.named
  have hlocks := B.notSynchronized
  have hw0 := hts (.constantLong RX8 570 (1023)) (by decide +kernel)
  have hw1 := hts (.constantDouble RX8 572 (4611686018427387904)) (by decide +kernel)
  have hw2 := hts (.constantDouble RX8 574 (4841369599423283200)) (by decide +kernel)
  have hfX8_bitsOf_L18 : ∀ (n : Nat) (kx52 : UInt64 → Int64 → Option (Int64)) (hkx52 : ∀ (l2 : UInt64) (l4 : Int64), kx52 l2 l4 = some z → ∀ (ls : Array Slot), lv_has ls 7 [(2, .double l2), (4, .long l4)] → W p l e (headSpec wsX8_bitsOf ({ frames := 0, cells := 0, slots := 0, locals := 0 } : Room)).room s m ([.double a0] : List Value).toArray below meth c s.heap [] 0 0 (MQ below (k2_QcV (.long z)) ([.double a0] : List Value).toArray s 0 0 (fun _ => False)) (F0 m 52 ls [])), ∀ (l2 : UInt64) (l4 : Int64) (l6 : Int32), fX8_bitsOf_L18 n kx52 l2 l4 l6 = some z → ∀ (ls : Array Slot), lv_has ls 7 [(2, .double l2), (4, .long l4), (6, .int l6)] → W p l e (headSpec wsX8_bitsOf ({ frames := 0, cells := 0, slots := 0, locals := 0 } : Room)).room s m ([.double a0] : List Value).toArray below meth c s.heap [] 0 0 (MQ below (k2_QcV (.long z)) ([.double a0] : List Value).toArray s 0 0 (fun _ => False)) (F0 m 18 ls []) := by
    intro n
    induction n with
    | zero =>
      intro kx52 hkx52 l2 l4 l6 hf ls hl
      rw [fX8_bitsOf_L18] at hf
      cases hf
    | succ n ih =>
      intro kx52 hkx52 l2 l4 l6 hf ls hl
      rw [fX8_bitsOf_L18] at hf
      refine lv_iload hx hb dX8_bitsOf_18 (lv_at hl 2 rfl) ?_
      refine lv_sipush (v := (1023 : Int32)) hx hb dX8_bitsOf_20 (by decide) ?_
      refine lv_icmp_ge (tgt := 52) hx hb dX8_bitsOf_23 (by decide) (fun c9 => ?_) (fun c9 => ?_)
      · have hf := it_t hf c9
        exact hkx52 l2 l4 hf _ (lv_sub hl [0, 1] rfl)
      · have hf := it_f hf c9
        refine lv_dload_n hx hb dX8_bitsOf_26 rfl (lv_at hl 0 rfl) ?_
        refine lv_ldc2d (v := (4611686018427387904 : UInt64)) hx hb hown hw1 dX8_bitsOf_27 ?_
        refine lv_dcmp hx hb dX8_bitsOf_30 ?_
        refine lv_if_lt (tgt := 52) hx hb dX8_bitsOf_31 (by decide) (fun c9 => ?_) (fun c9 => ?_)
        · have hf := it_t hf c9
          exact hkx52 l2 l4 hf _ (lv_sub hl [0, 1] rfl)
        · have hf := it_f hf c9
          refine lv_dload_n hx hb dX8_bitsOf_34 rfl (lv_at hl 0 rfl) ?_
          refine lv_ldc2d (v := (4611686018427387904 : UInt64)) hx hb hown hw1 dX8_bitsOf_35 ?_
          obtain ⟨hi, hf⟩ := gd_s hf
          refine lv_ddiv hx hb dX8_bitsOf_38 (nnb_s hi) ?_
          refine lv_dstore_n (lv' := [(2, .double (FP.ddiv l2 (4611686018427387904 : UInt64))), (4, .long l4), (6, .int l6)]) hx hb dX8_bitsOf_39 rfl hl (by decide) rfl (fun ls hl => ?_)
          refine lv_lload hx hb dX8_bitsOf_40 (lv_at hl 1 rfl) ?_
          refine lv_lconst (v := (1 : Int64)) hx hb dX8_bitsOf_42 (by decide) ?_
          refine lv_ladd hx hb dX8_bitsOf_43 ?_
          refine lv_lstore (lv' := [(4, .long (l4 + (1 : Int64))), (2, .double (FP.ddiv l2 (4611686018427387904 : UInt64))), (6, .int l6)]) hx hb dX8_bitsOf_44 hl (by decide) rfl (fun ls hl => ?_)
          refine lv_iinc (v := (l6 + (1 : Int32))) (lv' := [(6, .int (l6 + (1 : Int32))), (4, .long (l4 + (1 : Int64))), (2, .double (FP.ddiv l2 (4611686018427387904 : UInt64)))]) hx hb dX8_bitsOf_46 hl (k := 2) rfl rfl (by decide) rfl (fun ls hl => ?_)
          refine lv_goto (tgt := 18) hx hb dX8_bitsOf_49 (by decide) ?_
          exact ih kx52 hkx52 (FP.ddiv l2 (4611686018427387904 : UInt64)) (l4 + (1 : Int64)) (l6 + (1 : Int32)) hf _ (lv_sub hl [2, 1, 0] rfl)
  have hfX8_bitsOf_L55 : ∀ (n : Nat) (kx87 : UInt64 → Int64 → Option (Int64)) (hkx87 : ∀ (l2 : UInt64) (l4 : Int64), kx87 l2 l4 = some z → ∀ (ls : Array Slot), lv_has ls 7 [(2, .double l2), (4, .long l4)] → W p l e (headSpec wsX8_bitsOf ({ frames := 0, cells := 0, slots := 0, locals := 0 } : Room)).room s m ([.double a0] : List Value).toArray below meth c s.heap [] 0 0 (MQ below (k2_QcV (.long z)) ([.double a0] : List Value).toArray s 0 0 (fun _ => False)) (F0 m 87 ls [])), ∀ (l2 : UInt64) (l4 : Int64) (l6 : Int32), fX8_bitsOf_L55 n kx87 l2 l4 l6 = some z → ∀ (ls : Array Slot), lv_has ls 7 [(2, .double l2), (4, .long l4), (6, .int l6)] → W p l e (headSpec wsX8_bitsOf ({ frames := 0, cells := 0, slots := 0, locals := 0 } : Room)).room s m ([.double a0] : List Value).toArray below meth c s.heap [] 0 0 (MQ below (k2_QcV (.long z)) ([.double a0] : List Value).toArray s 0 0 (fun _ => False)) (F0 m 55 ls []) := by
    intro n
    induction n with
    | zero =>
      intro kx87 hkx87 l2 l4 l6 hf ls hl
      rw [fX8_bitsOf_L55] at hf
      cases hf
    | succ n ih =>
      intro kx87 hkx87 l2 l4 l6 hf ls hl
      rw [fX8_bitsOf_L55] at hf
      refine lv_iload hx hb dX8_bitsOf_55 (lv_at hl 2 rfl) ?_
      refine lv_sipush (v := (1022 : Int32)) hx hb dX8_bitsOf_57 (by decide) ?_
      refine lv_icmp_ge (tgt := 87) hx hb dX8_bitsOf_60 (by decide) (fun c9 => ?_) (fun c9 => ?_)
      · have hf := it_t hf c9
        exact hkx87 l2 l4 hf _ (lv_sub hl [0, 1] rfl)
      · have hf := it_f hf c9
        refine lv_dload_n hx hb dX8_bitsOf_63 rfl (lv_at hl 0 rfl) ?_
        refine lv_dconst1 hx hb dX8_bitsOf_64 ?_
        refine lv_dcmp hx hb dX8_bitsOf_65 ?_
        refine lv_if_ge (tgt := 87) hx hb dX8_bitsOf_66 (by decide) (fun c9 => ?_) (fun c9 => ?_)
        · have hf := it_t hf c9
          exact hkx87 l2 l4 hf _ (lv_sub hl [0, 1] rfl)
        · have hf := it_f hf c9
          refine lv_dload_n hx hb dX8_bitsOf_69 rfl (lv_at hl 0 rfl) ?_
          refine lv_ldc2d (v := (4611686018427387904 : UInt64)) hx hb hown hw1 dX8_bitsOf_70 ?_
          obtain ⟨hi, hf⟩ := gd_s hf
          refine lv_dmul hx hb dX8_bitsOf_73 (nnb_s hi) ?_
          refine lv_dstore_n (lv' := [(2, .double (FP.dmul l2 (4611686018427387904 : UInt64))), (4, .long l4), (6, .int l6)]) hx hb dX8_bitsOf_74 rfl hl (by decide) rfl (fun ls hl => ?_)
          refine lv_lload hx hb dX8_bitsOf_75 (lv_at hl 1 rfl) ?_
          refine lv_lconst (v := (1 : Int64)) hx hb dX8_bitsOf_77 (by decide) ?_
          refine lv_lsub hx hb dX8_bitsOf_78 ?_
          refine lv_lstore (lv' := [(4, .long (l4 - (1 : Int64))), (2, .double (FP.dmul l2 (4611686018427387904 : UInt64))), (6, .int l6)]) hx hb dX8_bitsOf_79 hl (by decide) rfl (fun ls hl => ?_)
          refine lv_iinc (v := (l6 + (1 : Int32))) (lv' := [(6, .int (l6 + (1 : Int32))), (4, .long (l4 - (1 : Int64))), (2, .double (FP.dmul l2 (4611686018427387904 : UInt64)))]) hx hb dX8_bitsOf_81 hl (k := 2) rfl rfl (by decide) rfl (fun ls hl => ?_)
          refine lv_goto (tgt := 55) hx hb dX8_bitsOf_84 (by decide) ?_
          exact ih kx87 hkx87 (FP.dmul l2 (4611686018427387904 : UInt64)) (l4 - (1 : Int64)) (l6 + (1 : Int32)) hf _ (lv_sub hl [2, 1, 0] rfl)
  have hl := lv_entry ([.double a0]) (n := 7) (Nat.le_of_ble_eq_true rfl)
  rw [lg_entry_eq]
  generalize (lg_sl ([.double a0]) ++ List.replicate (7 - (lg_sl ([.double a0])).length) Slot.unset).toArray = ls at hl ⊢
  have hl : lv_has ls 7 [(0, .double a0)] := hl
  unfold fX8_bitsOf at hf
  refine lv_dload_n hx hb dX8_bitsOf_0 rfl (lv_at hl 0 rfl) ?_
  refine lv_dconst0 hx hb dX8_bitsOf_1 ?_
  refine lv_dcmp hx hb dX8_bitsOf_2 ?_
  refine lv_if_gt (tgt := 8) hx hb dX8_bitsOf_3 (by decide) (fun c9 => ?_) (fun c9 => ?_)
  · have hf := it_t hf c9
    refine lv_dload_n hx hb dX8_bitsOf_8 rfl (lv_at hl 0 rfl) ?_
    refine lv_dstore_n (lv' := [(2, .double a0), (0, .double a0)]) hx hb dX8_bitsOf_9 rfl hl (by decide) rfl (fun ls hl => ?_)
    refine lv_ldc2 (v := (1023 : Int64)) hx hb hown hw0 dX8_bitsOf_10 ?_
    refine lv_lstore (lv' := [(4, .long (1023 : Int64)), (2, .double a0), (0, .double a0)]) hx hb dX8_bitsOf_13 hl (by decide) rfl (fun ls hl => ?_)
    refine lv_iconst (v := (0 : Int32)) hx hb dX8_bitsOf_15 (by decide) ?_
    refine lv_istore (lv' := [(6, .int (0 : Int32)), (4, .long (1023 : Int64)), (2, .double a0), (0, .double a0)]) hx hb dX8_bitsOf_16 hl (by decide) rfl (fun ls hl => ?_)
    refine hfX8_bitsOf_L18 5000 _ (fun l2 l4 hf ls hl => ?_) a0 (1023 : Int64) (0 : Int32) hf _ (lv_sub hl [2, 1, 0] rfl)
    refine lv_iconst (v := (0 : Int32)) hx hb dX8_bitsOf_52 (by decide) ?_
    refine lv_istore (lv' := [(6, .int (0 : Int32)), (2, .double l2), (4, .long l4)]) hx hb dX8_bitsOf_53 hl (by decide) rfl (fun ls hl => ?_)
    refine hfX8_bitsOf_L55 5000 _ (fun l2 l4 hf ls hl => ?_) l2 l4 (0 : Int32) hf _ (lv_sub hl [1, 2, 0] rfl)
    refine lv_lload hx hb dX8_bitsOf_87 (lv_at hl 1 rfl) ?_
    refine lv_bipush (v := (52 : Int32)) hx hb dX8_bitsOf_89 (by decide) ?_
    refine lv_lshl (v := (l4 <<< ((52 : Int32).toInt64 &&& 63))) hx hb dX8_bitsOf_91 rfl ?_
    refine lv_dload_n hx hb dX8_bitsOf_92 rfl (lv_at hl 0 rfl) ?_
    refine lv_dconst1 hx hb dX8_bitsOf_93 ?_
    obtain ⟨hi, hf⟩ := gd_s hf
    refine lv_dsub hx hb dX8_bitsOf_94 (nnb_s hi) ?_
    refine lv_ldc2d (v := (4841369599423283200 : UInt64)) hx hb hown hw2 dX8_bitsOf_95 ?_
    obtain ⟨hi, hf⟩ := gd_s hf
    refine lv_dmul hx hb dX8_bitsOf_98 (nnb_s hi) ?_
    refine lv_d2l hx hb dX8_bitsOf_99 ?_
    refine lv_ladd hx hb dX8_bitsOf_100 ?_
    exact W.lret (v := ((l4 <<< ((52 : Int32).toInt64 &&& 63)) + (FP.d2l (FP.dmul (FP.dsub l2 FP.dconst1) (4841369599423283200 : UInt64))))) hx hb hr (fun t ht hW => ⟨congrArg (fun x => Outcome.returned (some (Value.long x))) (so_e hf), ht⟩) fl0 dX8_bitsOf_101
  · have hf := it_f hf c9
    refine lv_lconst (v := (0 : Int64)) hx hb dX8_bitsOf_6 (by decide) ?_
    exact W.lret (v := (0 : Int64)) hx hb hr (fun t ht hW => ⟨congrArg (fun x => Outcome.returned (some (Value.long x))) (so_e hf), ht⟩) fl0 dX8_bitsOf_7
set_option maxHeartbeats 4000000 in
set_option maxRecDepth 100000 in
theorem c_X8_hashAccounts (l : Launch) (dC : Nat → ClassId) (dI : Nat → Nat → Nat) (cI cZ cS : ClassId) (f g : Nat → Option Nat) (a : Nat → Nat) (M : Mem) (a1 : Int64) (z : Int64) (hf : fX8_hashAccounts M a1 = some z) : Met l yX8_hashAccounts wsX8_hashAccounts ({ frames := 3, cells := 0, slots := 0, locals := 69 } : Room) (va_Pc [.ref (a 0), .long a1] (RO8 (dC, dI) cI cZ cS (wX8 cI cZ cS f g a M))) (k2_QcV (.long z)) 0 0 (fun _ => False) := by
  refine Met.ofW (cc := cX8_hashAccounts) (maxL := 5) (ret := (some .long)) (by decide) rfl ?_
  intro p e s m args below meth c s₁ B hml hv
  obtain ⟨rfl, hP, hK, hNW⟩ := hv
  have hK2 : va_K (dC, dI) vwCl [(cI, .int), (cZ, .boolean)] s := hK.sub (tys' := [(cI, .int), (cZ, .boolean)]) [0, 1] rfl
  have hx := B.exec
  have hb := B.bytes
  have hr := B.returns
  have hts := atoms_spec (ws := wsX8_hashAccounts) B.pre
  have hown : s.vm.findClass RX8 = some m.cls := findClass_of_methodNamed B.named
  have hlocks := B.notSynchronized
  have hinX8 : ∀ w ∈ u_ws RX8 TX8 6, w ∈ wsX8_hashAccounts := by decide +kernel
  have hw1 := hts (.fieldLink RX8 12 "GlideShelves" "now" "LGlideShelves$State;") (by decide +kernel)
  have hw2 := hts (.initialized RX6) (by decide +kernel)
  have hw3 := hts (.instanceMethod yX6_findHeaviest) (by decide +kernel)
  have hw4 := hts (.selects RX6 yX6_findHeaviest yX6_findHeaviest) (by decide +kernel)
  have hinX6 : ∀ w ∈ u_ws RX6 TX6 5, w ∈ wsX8_hashAccounts := by decide +kernel
  have hw6 := hts (.initialized RX7) (by decide +kernel)
  have hw7 := hts (.instanceMethod yX7_mostUsed) (by decide +kernel)
  have hw8 := hts (.selects RX7 yX7_mostUsed yX7_mostUsed) (by decide +kernel)
  have hl := lv_entry ([.ref (a 0), .long a1]) (n := 5) (Nat.le_of_ble_eq_true rfl)
  rw [lg_entry_eq]
  generalize (lg_sl ([.ref (a 0), .long a1]) ++ List.replicate (5 - (lg_sl ([.ref (a 0), .long a1])).length) Slot.unset).toArray = ls at hl ⊢
  have hl : lv_has ls 5 [(0, .ref (a 0)), (1, .long a1)] := hl
  unfold fX8_hashAccounts at hf
  refine lv_lload_n hx hb dX8_hashAccounts_0 rfl (lv_at hl 1 rfl) ?_
  refine lv_aload_n hx hb dX8_hashAccounts_1 rfl (lv_at hl 0 rfl) ?_
  obtain ⟨r2, hc2, hf⟩ := bi_s hf
  have hPc := hP
  refine cRO (W.runV (As := []) (rest := [.long a1]) ⟨hx, hb, hml, hown, hts⟩ (c_X8_ticks l dC dI cI cZ cS f g a M r2 hc2) (cwV 0 hts gX8_hashAccounts_X8_ticks rfl rfl rfl (by decide +kernel) ⟨Nat.le_of_ble_eq_true rfl, Nat.le_of_ble_eq_true rfl⟩) ⟨RO8.blind, va_recv hK hP (ci := 8) (q0 := 0) rfl rfl, RO8.pre hPc hK hNW⟩ rfl rfl hl.1 rfl (lv_room (Nat.le_of_ble_eq_true rfl)) dX8_hashAccounts_2 ⟨Nat.le_of_ble_eq_true rfl, Nat.le_of_ble_eq_true rfl⟩) ?_
  refine lv_i2l (v := r2.toInt64) hx hb dX8_hashAccounts_5 rfl ?_
  obtain ⟨r6, hc6, hf⟩ := bi_s hf
  refine cRO (W.runS (As := [.long a1, .long (r2.toInt64)]) (rest := []) ⟨hx, hb, hml, hown, hts⟩ (c_X8_hashOn l a1 (r2.toInt64) r6 hc6) (va_cwS 2 hts gX8_hashAccounts_X8_hashOn rfl rfl rfl (by decide +kernel) ⟨Nat.le_of_ble_eq_true rfl, Nat.le_of_ble_eq_true rfl⟩) ⟨tr_blind, tr_pre⟩ rfl rfl hl.1 rfl (lv_room (Nat.le_of_ble_eq_true rfl)) dX8_hashAccounts_6 ⟨Nat.le_of_ble_eq_true rfl, Nat.le_of_ble_eq_true rfl⟩) ?_
  refine lv_lstore_n (lv' := [(3, .long r6), (0, .ref (a 0)), (1, .long a1)]) hx hb dX8_hashAccounts_9 rfl hl (by decide) rfl (fun ls hl => ?_)
  refine lv_lload_n hx hb dX8_hashAccounts_10 rfl (lv_at hl 0 rfl) ?_
  refine lv_aload_n hx hb dX8_hashAccounts_11 rfl (lv_at hl 1 rfl) ?_
  obtain ⟨r12, hc12, hf⟩ := bi_s hf
  have hPc := hP
  refine cRO (W.runV (As := []) (rest := [.long r6]) ⟨hx, hb, hml, hown, hts⟩ (c_X8_fetches l dC dI cI cZ cS f g a M r12 hc12) (cwV 0 hts gX8_hashAccounts_X8_fetches rfl rfl rfl (by decide +kernel) ⟨Nat.le_of_ble_eq_true rfl, Nat.le_of_ble_eq_true rfl⟩) ⟨RO8.blind, va_recv hK hP (ci := 8) (q0 := 0) rfl rfl, RO8.pre hPc hK hNW⟩ rfl rfl hl.1 rfl (lv_room (Nat.le_of_ble_eq_true rfl)) dX8_hashAccounts_12 ⟨Nat.le_of_ble_eq_true rfl, Nat.le_of_ble_eq_true rfl⟩) ?_
  refine lv_i2l (v := r12.toInt64) hx hb dX8_hashAccounts_15 rfl ?_
  obtain ⟨r16, hc16, hf⟩ := bi_s hf
  refine cRO (W.runS (As := [.long r6, .long (r12.toInt64)]) (rest := []) ⟨hx, hb, hml, hown, hts⟩ (c_X8_hashOn l r6 (r12.toInt64) r16 hc16) (va_cwS 2 hts gX8_hashAccounts_X8_hashOn rfl rfl rfl (by decide +kernel) ⟨Nat.le_of_ble_eq_true rfl, Nat.le_of_ble_eq_true rfl⟩) ⟨tr_blind, tr_pre⟩ rfl rfl hl.1 rfl (lv_room (Nat.le_of_ble_eq_true rfl)) dX8_hashAccounts_16 ⟨Nat.le_of_ble_eq_true rfl, Nat.le_of_ble_eq_true rfl⟩) ?_
  refine lv_lstore_n (lv' := [(3, .long r16), (0, .ref (a 0)), (1, .long a1)]) hx hb dX8_hashAccounts_19 rfl hl (by decide) rfl (fun ls hl => ?_)
  refine lv_lload_n hx hb dX8_hashAccounts_20 rfl (lv_at hl 0 rfl) ?_
  refine lv_aload_n hx hb dX8_hashAccounts_21 rfl (lv_at hl 1 rfl) ?_
  obtain ⟨r22, hc22, hf⟩ := bi_s hf
  have hPc := hP
  refine cRO (W.runV (As := []) (rest := [.long r16]) ⟨hx, hb, hml, hown, hts⟩ (c_X8_served l dC dI cI cZ cS f g a M r22 hc22) (cwV 0 hts gX8_hashAccounts_X8_served rfl rfl rfl (by decide +kernel) ⟨Nat.le_of_ble_eq_true rfl, Nat.le_of_ble_eq_true rfl⟩) ⟨RO8.blind, va_recv hK hP (ci := 8) (q0 := 0) rfl rfl, RO8.pre hPc hK hNW⟩ rfl rfl hl.1 rfl (lv_room (Nat.le_of_ble_eq_true rfl)) dX8_hashAccounts_22 ⟨Nat.le_of_ble_eq_true rfl, Nat.le_of_ble_eq_true rfl⟩) ?_
  refine lv_i2l (v := r22.toInt64) hx hb dX8_hashAccounts_25 rfl ?_
  obtain ⟨r26, hc26, hf⟩ := bi_s hf
  refine cRO (W.runS (As := [.long r16, .long (r22.toInt64)]) (rest := []) ⟨hx, hb, hml, hown, hts⟩ (c_X8_hashOn l r16 (r22.toInt64) r26 hc26) (va_cwS 2 hts gX8_hashAccounts_X8_hashOn rfl rfl rfl (by decide +kernel) ⟨Nat.le_of_ble_eq_true rfl, Nat.le_of_ble_eq_true rfl⟩) ⟨tr_blind, tr_pre⟩ rfl rfl hl.1 rfl (lv_room (Nat.le_of_ble_eq_true rfl)) dX8_hashAccounts_26 ⟨Nat.le_of_ble_eq_true rfl, Nat.le_of_ble_eq_true rfl⟩) ?_
  refine lv_lstore_n (lv' := [(3, .long r26), (0, .ref (a 0)), (1, .long a1)]) hx hb dX8_hashAccounts_29 rfl hl (by decide) rfl (fun ls hl => ?_)
  refine lv_lload_n hx hb dX8_hashAccounts_30 rfl (lv_at hl 0 rfl) ?_
  refine lv_aload_n hx hb dX8_hashAccounts_31 rfl (lv_at hl 1 rfl) ?_
  refine va_get (D := (dC, dI)) (ci := 8) (v := .ref (a 1)) (C := RX8) (T := TX8) (N := 6) hx hb hts hinX8 hown hK hP 0 rfl rfl 0 (by decide) hw1 (fun _ h9 => h9) rfl dX8_hashAccounts_32 ?_
  obtain ⟨r35, hc35, hf⟩ := bi_s hf
  have hPc := hP.sub (ws' := (wX6 cI cZ (ofs 1 a) (ofs 1 M))) [1, 2, 3, 4, 5, 6, 7, 8, 9, 10, 11, 12, 13, 14, 15, 16] rfl
  refine cRO (va_Run.run (va_runVN (As := []) (rest := [.long r26]) ⟨hx, hb, hml, hown, hts⟩ (c_X6_findHeaviest l dC dI cI cZ (ofs 1 a) (ofs 1 M) r35 hc35) ⟨va_cnB 0 hts gX8_hashAccounts_X6_findHeaviest_n368 rfl rfl rfl (nw77 hNW) hw2 (by decide +kernel) ⟨Nat.le_of_ble_eq_true rfl, Nat.le_of_ble_eq_true rfl⟩, hw3, hw4⟩ ⟨RO.blind, va_recv hK hP (ci := 6) (q0 := 1) rfl rfl, RO.pre hPc hK2 hNW⟩ rfl rfl hl.1 rfl (lv_room (Nat.le_of_ble_eq_true rfl)) dX8_hashAccounts_35 ⟨Nat.le_of_ble_eq_true rfl, Nat.le_of_ble_eq_true rfl⟩)) ?_
  refine lv_iconst (v := (1 : Int32)) hx hb dX8_hashAccounts_38 (by decide) ?_
  refine lv_iadd hx hb dX8_hashAccounts_39 ?_
  refine lv_i2l (v := (r35 + (1 : Int32)).toInt64) hx hb dX8_hashAccounts_40 rfl ?_
  obtain ⟨r41, hc41, hf⟩ := bi_s hf
  refine cRO (W.runS (As := [.long r26, .long ((r35 + (1 : Int32)).toInt64)]) (rest := []) ⟨hx, hb, hml, hown, hts⟩ (c_X8_hashOn l r26 ((r35 + (1 : Int32)).toInt64) r41 hc41) (va_cwS 2 hts gX8_hashAccounts_X8_hashOn rfl rfl rfl (by decide +kernel) ⟨Nat.le_of_ble_eq_true rfl, Nat.le_of_ble_eq_true rfl⟩) ⟨tr_blind, tr_pre⟩ rfl rfl hl.1 rfl (lv_room (Nat.le_of_ble_eq_true rfl)) dX8_hashAccounts_41 ⟨Nat.le_of_ble_eq_true rfl, Nat.le_of_ble_eq_true rfl⟩) ?_
  refine lv_lstore_n (lv' := [(3, .long r41), (0, .ref (a 0)), (1, .long a1)]) hx hb dX8_hashAccounts_44 rfl hl (by decide) rfl (fun ls hl => ?_)
  refine lv_lload_n hx hb dX8_hashAccounts_45 rfl (lv_at hl 0 rfl) ?_
  refine lv_aload_n hx hb dX8_hashAccounts_46 rfl (lv_at hl 1 rfl) ?_
  refine va_get (D := (dC, dI)) (ci := 8) (v := .ref (a 1)) (C := RX8) (T := TX8) (N := 6) hx hb hts hinX8 hown hK hP 0 rfl rfl 0 (by decide) hw1 (fun _ h9 => h9) rfl dX8_hashAccounts_47 ?_
  refine va_getN (D := (dC, dI)) (ci := 6) (v := .ref (a 2)) (C := RX6) (T := TX6) (N := 5) hx hb hts hinX6 hown hK hP 1 rfl rfl 0 (by decide) (nw24 hNW) (fun _ h9 => h9) rfl dX8_hashAccounts_50 ?_
  refine lv_iconst (v := (0 : Int32)) hx hb dX8_hashAccounts_53 (by decide) ?_
  obtain ⟨r54, hc54, hf⟩ := bi_s hf
  have hPc := hP.sub (ws' := (wX7 cI cZ (ofs 2 a) (ofs 2 M))) [2, 3, 4, 5, 6] rfl
  refine cRO (va_Run.run (va_runVN (As := [.int (0 : Int32)]) (rest := [.long r41]) ⟨hx, hb, hml, hown, hts⟩ (c_X7_mostUsed l dC dI cI cZ (ofs 2 a) (ofs 2 M) (0 : Int32) r54 hc54) ⟨va_cnB 1 hts gX8_hashAccounts_X7_mostUsed_n371 rfl rfl rfl (nw78 hNW) hw6 (by decide +kernel) ⟨Nat.le_of_ble_eq_true rfl, Nat.le_of_ble_eq_true rfl⟩, hw7, hw8⟩ ⟨RO.blind, va_recv hK hP (ci := 7) (q0 := 2) rfl rfl, RO.pre hPc hK2 hNW⟩ rfl rfl hl.1 rfl (lv_room (Nat.le_of_ble_eq_true rfl)) dX8_hashAccounts_54 ⟨Nat.le_of_ble_eq_true rfl, Nat.le_of_ble_eq_true rfl⟩)) ?_
  refine lv_iconst (v := (1 : Int32)) hx hb dX8_hashAccounts_57 (by decide) ?_
  refine lv_iadd hx hb dX8_hashAccounts_58 ?_
  refine lv_i2l (v := (r54 + (1 : Int32)).toInt64) hx hb dX8_hashAccounts_59 rfl ?_
  obtain ⟨r60, hc60, hf⟩ := bi_s hf
  refine cRO (W.runS (As := [.long r41, .long ((r54 + (1 : Int32)).toInt64)]) (rest := []) ⟨hx, hb, hml, hown, hts⟩ (c_X8_hashOn l r41 ((r54 + (1 : Int32)).toInt64) r60 hc60) (va_cwS 2 hts gX8_hashAccounts_X8_hashOn rfl rfl rfl (by decide +kernel) ⟨Nat.le_of_ble_eq_true rfl, Nat.le_of_ble_eq_true rfl⟩) ⟨tr_blind, tr_pre⟩ rfl rfl hl.1 rfl (lv_room (Nat.le_of_ble_eq_true rfl)) dX8_hashAccounts_60 ⟨Nat.le_of_ble_eq_true rfl, Nat.le_of_ble_eq_true rfl⟩) ?_
  refine lv_lstore_n (lv' := [(3, .long r60), (0, .ref (a 0)), (1, .long a1)]) hx hb dX8_hashAccounts_63 rfl hl (by decide) rfl (fun ls hl => ?_)
  refine lv_lload_n hx hb dX8_hashAccounts_64 rfl (lv_at hl 0 rfl) ?_
  refine lv_aload_n hx hb dX8_hashAccounts_65 rfl (lv_at hl 1 rfl) ?_
  obtain ⟨r66, hc66, hf⟩ := bi_s hf
  have hPc := hP
  refine cRO (W.runV (As := []) (rest := [.long r60]) ⟨hx, hb, hml, hown, hts⟩ (c_X8_usedWays l dC dI cI cZ cS f g a M r66 hc66) (cwV 0 hts gX8_hashAccounts_X8_usedWays rfl rfl rfl (by decide +kernel) ⟨Nat.le_of_ble_eq_true rfl, Nat.le_of_ble_eq_true rfl⟩) ⟨RO8.blind, va_recv hK hP (ci := 8) (q0 := 0) rfl rfl, RO8.pre hPc hK hNW⟩ rfl rfl hl.1 rfl (lv_room (Nat.le_of_ble_eq_true rfl)) dX8_hashAccounts_66 ⟨Nat.le_of_ble_eq_true rfl, Nat.le_of_ble_eq_true rfl⟩) ?_
  refine lv_i2l (v := r66.toInt64) hx hb dX8_hashAccounts_69 rfl ?_
  obtain ⟨r70, hc70, hf⟩ := bi_s hf
  refine cRO (W.runS (As := [.long r60, .long (r66.toInt64)]) (rest := []) ⟨hx, hb, hml, hown, hts⟩ (c_X8_hashOn l r60 (r66.toInt64) r70 hc70) (va_cwS 2 hts gX8_hashAccounts_X8_hashOn rfl rfl rfl (by decide +kernel) ⟨Nat.le_of_ble_eq_true rfl, Nat.le_of_ble_eq_true rfl⟩) ⟨tr_blind, tr_pre⟩ rfl rfl hl.1 rfl (lv_room (Nat.le_of_ble_eq_true rfl)) dX8_hashAccounts_70 ⟨Nat.le_of_ble_eq_true rfl, Nat.le_of_ble_eq_true rfl⟩) ?_
  refine lv_lstore_n (lv' := [(3, .long r70), (0, .ref (a 0)), (1, .long a1)]) hx hb dX8_hashAccounts_73 rfl hl (by decide) rfl (fun ls hl => ?_)
  refine lv_lload_n hx hb dX8_hashAccounts_74 rfl (lv_at hl 0 rfl) ?_
  refine lv_aload_n hx hb dX8_hashAccounts_75 rfl (lv_at hl 1 rfl) ?_
  obtain ⟨r76, hc76, hf⟩ := bi_s hf
  have hPc := hP
  refine cRO (W.runV (As := []) (rest := [.long r70]) ⟨hx, hb, hml, hown, hts⟩ (c_X8_savedStates l dC dI cI cZ cS f g a M r76 hc76) (cwV 0 hts gX8_hashAccounts_X8_savedStates rfl rfl rfl (by decide +kernel) ⟨Nat.le_of_ble_eq_true rfl, Nat.le_of_ble_eq_true rfl⟩) ⟨RO8.blind, va_recv hK hP (ci := 8) (q0 := 0) rfl rfl, RO8.pre hPc hK hNW⟩ rfl rfl hl.1 rfl (lv_room (Nat.le_of_ble_eq_true rfl)) dX8_hashAccounts_76 ⟨Nat.le_of_ble_eq_true rfl, Nat.le_of_ble_eq_true rfl⟩) ?_
  refine lv_i2l (v := r76.toInt64) hx hb dX8_hashAccounts_79 rfl ?_
  obtain ⟨r80, hc80, hf⟩ := bi_s hf
  refine cRO (W.runS (As := [.long r70, .long (r76.toInt64)]) (rest := []) ⟨hx, hb, hml, hown, hts⟩ (c_X8_hashOn l r70 (r76.toInt64) r80 hc80) (va_cwS 2 hts gX8_hashAccounts_X8_hashOn rfl rfl rfl (by decide +kernel) ⟨Nat.le_of_ble_eq_true rfl, Nat.le_of_ble_eq_true rfl⟩) ⟨tr_blind, tr_pre⟩ rfl rfl hl.1 rfl (lv_room (Nat.le_of_ble_eq_true rfl)) dX8_hashAccounts_80 ⟨Nat.le_of_ble_eq_true rfl, Nat.le_of_ble_eq_true rfl⟩) ?_
  refine lv_lstore_n (lv' := [(3, .long r80), (0, .ref (a 0)), (1, .long a1)]) hx hb dX8_hashAccounts_83 rfl hl (by decide) rfl (fun ls hl => ?_)
  refine lv_lload_n hx hb dX8_hashAccounts_84 rfl (lv_at hl 0 rfl) ?_
  refine lv_aload_n hx hb dX8_hashAccounts_85 rfl (lv_at hl 1 rfl) ?_
  obtain ⟨r86, hc86, hf⟩ := bi_s hf
  have hPc := hP
  refine cRO (W.runV (As := []) (rest := [.long r80]) ⟨hx, hb, hml, hown, hts⟩ (c_X8_meanTicks l dC dI cI cZ cS f g a M r86 hc86) (cwV 0 hts gX8_hashAccounts_X8_meanTicks rfl rfl rfl (by decide +kernel) ⟨Nat.le_of_ble_eq_true rfl, Nat.le_of_ble_eq_true rfl⟩) ⟨RO8.blind, va_recv hK hP (ci := 8) (q0 := 0) rfl rfl, RO8.pre hPc hK hNW⟩ rfl rfl hl.1 rfl (lv_room (Nat.le_of_ble_eq_true rfl)) dX8_hashAccounts_86 ⟨Nat.le_of_ble_eq_true rfl, Nat.le_of_ble_eq_true rfl⟩) ?_
  obtain ⟨r89, hc89, hf⟩ := bi_s hf
  refine cRO (W.runS (As := [.double r86]) (rest := [.long r80]) ⟨hx, hb, hml, hown, hts⟩ (c_X8_bitsOf l r86 r89 hc89) (va_cwS 1 hts gX8_hashAccounts_X8_bitsOf rfl rfl rfl (by decide +kernel) ⟨Nat.le_of_ble_eq_true rfl, Nat.le_of_ble_eq_true rfl⟩) ⟨tr_blind, tr_pre⟩ rfl rfl hl.1 rfl (lv_room (Nat.le_of_ble_eq_true rfl)) dX8_hashAccounts_89 ⟨Nat.le_of_ble_eq_true rfl, Nat.le_of_ble_eq_true rfl⟩) ?_
  obtain ⟨r92, hc92, hf⟩ := bi_s hf
  refine cRO (W.runS (As := [.long r80, .long r89]) (rest := []) ⟨hx, hb, hml, hown, hts⟩ (c_X8_hashOn l r80 r89 r92 hc92) (va_cwS 2 hts gX8_hashAccounts_X8_hashOn rfl rfl rfl (by decide +kernel) ⟨Nat.le_of_ble_eq_true rfl, Nat.le_of_ble_eq_true rfl⟩) ⟨tr_blind, tr_pre⟩ rfl rfl hl.1 rfl (lv_room (Nat.le_of_ble_eq_true rfl)) dX8_hashAccounts_92 ⟨Nat.le_of_ble_eq_true rfl, Nat.le_of_ble_eq_true rfl⟩) ?_
  refine lv_lstore_n (lv' := [(3, .long r92), (0, .ref (a 0)), (1, .long a1)]) hx hb dX8_hashAccounts_95 rfl hl (by decide) rfl (fun ls hl => ?_)
  refine lv_lload_n hx hb dX8_hashAccounts_96 rfl (lv_at hl 0 rfl) ?_
  refine lv_aload_n hx hb dX8_hashAccounts_97 rfl (lv_at hl 1 rfl) ?_
  obtain ⟨r98, hc98, hf⟩ := bi_s hf
  have hPc := hP
  refine cRO (W.runV (As := []) (rest := [.long r92]) ⟨hx, hb, hml, hown, hts⟩ (c_X8_meanWay l dC dI cI cZ cS f g a M r98 hc98) (cwV 0 hts gX8_hashAccounts_X8_meanWay rfl rfl rfl (by decide +kernel) ⟨Nat.le_of_ble_eq_true rfl, Nat.le_of_ble_eq_true rfl⟩) ⟨RO8.blind, va_recv hK hP (ci := 8) (q0 := 0) rfl rfl, RO8.pre hPc hK hNW⟩ rfl rfl hl.1 rfl (lv_room (Nat.le_of_ble_eq_true rfl)) dX8_hashAccounts_98 ⟨Nat.le_of_ble_eq_true rfl, Nat.le_of_ble_eq_true rfl⟩) ?_
  obtain ⟨r101, hc101, hf⟩ := bi_s hf
  refine cRO (W.runS (As := [.double r98]) (rest := [.long r92]) ⟨hx, hb, hml, hown, hts⟩ (c_X8_bitsOf l r98 r101 hc101) (va_cwS 1 hts gX8_hashAccounts_X8_bitsOf rfl rfl rfl (by decide +kernel) ⟨Nat.le_of_ble_eq_true rfl, Nat.le_of_ble_eq_true rfl⟩) ⟨tr_blind, tr_pre⟩ rfl rfl hl.1 rfl (lv_room (Nat.le_of_ble_eq_true rfl)) dX8_hashAccounts_101 ⟨Nat.le_of_ble_eq_true rfl, Nat.le_of_ble_eq_true rfl⟩) ?_
  obtain ⟨r104, hc104, hf⟩ := bi_s hf
  refine cRO (W.runS (As := [.long r92, .long r101]) (rest := []) ⟨hx, hb, hml, hown, hts⟩ (c_X8_hashOn l r92 r101 r104 hc104) (va_cwS 2 hts gX8_hashAccounts_X8_hashOn rfl rfl rfl (by decide +kernel) ⟨Nat.le_of_ble_eq_true rfl, Nat.le_of_ble_eq_true rfl⟩) ⟨tr_blind, tr_pre⟩ rfl rfl hl.1 rfl (lv_room (Nat.le_of_ble_eq_true rfl)) dX8_hashAccounts_104 ⟨Nat.le_of_ble_eq_true rfl, Nat.le_of_ble_eq_true rfl⟩) ?_
  exact W.lret (v := r104) hx hb hr (fun t ht hW => ⟨congrArg (fun x => Outcome.returned (some (Value.long x))) (so_e hf), ht⟩) fl0 dX8_hashAccounts_107
