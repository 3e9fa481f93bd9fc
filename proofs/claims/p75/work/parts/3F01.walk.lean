set_option maxHeartbeats 4000000 in
set_option maxRecDepth 100000 in
theorem c_X8_shortKinds (l : Launch) (dC : Nat → ClassId) (dI : Nat → Nat → Nat) (cI cZ cS : ClassId) (f g : Nat → Option Nat) (a : Nat → Nat) (M : Mem) (z : Int32) (hf : fX8_shortKinds M  = some z) : Met l yX8_shortKinds wsX8_shortKinds ({ frames := 3, cells := 0, slots := 0, locals := 66 } : Room) (va_Pc [.ref (a 0)] (RO8 (dC, dI) cI cZ cS (wX8 cI cZ cS f g a M))) (k2_QcV (.int z)) 0 0 (fun _ => False) := by
  refine Met.ofW (cc := cX8_shortKinds) (maxL := 3) (ret := (some .int)) (by decide) rfl ?_
  intro p e s m args below meth c s₁ B hml hv
  obtain ⟨rfl, hP, hK, hNW⟩ := hv
  have hK2 : va_K (dC, dI) vwCl [(cI, .int), (cZ, .boolean)] s := hK.sub (tys' := [(cI, .int), (cZ, .boolean)]) [0, 1] rfl
  have hx := B.exec
  have hb := B.bytes
  have hr := B.returns
  have hts := atoms_spec (ws := wsX8_shortKinds) B.pre
  have hown : s.vm.findClass RX8 = some m.cls := findClass_of_methodNamed B.named
  have hlocks := B.notSynchronized
  have hinX8 : ∀ w ∈ u_ws RX8 TX8 6, w ∈ wsX8_shortKinds := by decide +kernel
  have hw1 := hts (.fieldLink RX8 12 "GlideShelves" "now" "LGlideShelves$State;") (by decide +kernel)
  have hw2 := hts (.initialized RX6) (by decide +kernel)
  have hw3 := hts (.instanceMethod yX6_missing) (by decide +kernel)
  have hw4 := hts (.selects RX6 yX6_missing yX6_missing) (by decide +kernel)
  have hfX8_shortKinds_B27 : ∀ (kb : Int32 → Int32 → Option (Int32)) (hkb : ∀ (l1 : Int32) (l2 : Int32), kb l1 l2 = some z → ∀ (ls : Array Slot), lv_has ls 3 [(0, .ref (a 0)), (1, .int l1), (2, .int l2)] → W p l e (headSpec wsX8_shortKinds ({ frames := 3, cells := 0, slots := 0, locals := 66 } : Room)).room s m ([.ref (a 0)] : List Value).toArray below meth c s.heap [] 0 0 (MQ below (k2_QcV (.int z)) ([.ref (a 0)] : List Value).toArray s 0 0 (fun _ => False)) (F0 m 4 ls [])) (kx33 : Int32 → Option (Int32)) (hkx33 : ∀ (l1 : Int32), kx33 l1 = some z → ∀ (ls : Array Slot), lv_has ls 3 [(1, .int l1)] → W p l e (headSpec wsX8_shortKinds ({ frames := 3, cells := 0, slots := 0, locals := 66 } : Room)).room s m ([.ref (a 0)] : List Value).toArray below meth c s.heap [] 0 0 (MQ below (k2_QcV (.int z)) ([.ref (a 0)] : List Value).toArray s 0 0 (fun _ => False)) (F0 m 33 ls [])), ∀ (l1 : Int32) (l2 : Int32), fX8_shortKinds_B27 M kb kx33 l1 l2 = some z → ∀ (ls : Array Slot), lv_has ls 3 [(0, .ref (a 0)), (1, .int l1), (2, .int l2)] → W p l e (headSpec wsX8_shortKinds ({ frames := 3, cells := 0, slots := 0, locals := 66 } : Room)).room s m ([.ref (a 0)] : List Value).toArray below meth c s.heap [] 0 0 (MQ below (k2_QcV (.int z)) ([.ref (a 0)] : List Value).toArray s 0 0 (fun _ => False)) (F0 m 27 ls []) := by
    intro kb hkb kx33 hkx33 l1 l2 hf ls hl
    unfold fX8_shortKinds_B27 at hf
    refine lv_iinc (v := (l2 + (1 : Int32))) (lv' := [(2, .int (l2 + (1 : Int32))), (0, .ref (a 0)), (1, .int l1)]) hx hb dX8_shortKinds_27 hl (k := 2) rfl rfl (by decide) rfl (fun ls hl => ?_)
    refine lv_goto (tgt := 4) hx hb dX8_shortKinds_30 (by decide) ?_
    exact hkb l1 (l2 + (1 : Int32)) hf _ (lv_sub hl [1, 2, 0] rfl)
  have hfX8_shortKinds_L4 : ∀ (n : Nat) (kx33 : Int32 → Option (Int32)) (hkx33 : ∀ (l1 : Int32), kx33 l1 = some z → ∀ (ls : Array Slot), lv_has ls 3 [(1, .int l1)] → W p l e (headSpec wsX8_shortKinds ({ frames := 3, cells := 0, slots := 0, locals := 66 } : Room)).room s m ([.ref (a 0)] : List Value).toArray below meth c s.heap [] 0 0 (MQ below (k2_QcV (.int z)) ([.ref (a 0)] : List Value).toArray s 0 0 (fun _ => False)) (F0 m 33 ls [])), ∀ (l1 : Int32) (l2 : Int32), fX8_shortKinds_L4 M n kx33 l1 l2 = some z → ∀ (ls : Array Slot), lv_has ls 3 [(0, .ref (a 0)), (1, .int l1), (2, .int l2)] → W p l e (headSpec wsX8_shortKinds ({ frames := 3, cells := 0, slots := 0, locals := 66 } : Room)).room s m ([.ref (a 0)] : List Value).toArray below meth c s.heap [] 0 0 (MQ below (k2_QcV (.int z)) ([.ref (a 0)] : List Value).toArray s 0 0 (fun _ => False)) (F0 m 4 ls []) := by
    intro n
    induction n with
    | zero =>
      intro kx33 hkx33 l1 l2 hf ls hl
      rw [fX8_shortKinds_L4] at hf
      cases hf
    | succ n ih =>
      intro kx33 hkx33 l1 l2 hf ls hl
      rw [fX8_shortKinds_L4] at hf
      refine lv_iload_n hx hb dX8_shortKinds_4 rfl (lv_at hl 2 rfl) ?_
      refine lv_bipush (v := (10 : Int32)) hx hb dX8_shortKinds_5 (by decide) ?_
      refine lv_icmp_ge (tgt := 33) hx hb dX8_shortKinds_7 (by decide) (fun c9 => ?_) (fun c9 => ?_)
      · have hf := it_t hf c9
        exact hkx33 l1 hf _ (lv_sub hl [1] rfl)
      · have hf := it_f hf c9
        refine lv_aload_n hx hb dX8_shortKinds_10 rfl (lv_at hl 0 rfl) ?_
        refine va_get (D := (dC, dI)) (ci := 8) (v := .ref (a 1)) (C := RX8) (T := TX8) (N := 6) hx hb hts hinX8 hown hK hP 0 rfl rfl 0 (by decide) hw1 (fun _ h9 => h9) rfl dX8_shortKinds_11 ?_
        refine lv_iload_n hx hb dX8_shortKinds_14 rfl (lv_at hl 2 rfl) ?_
        obtain ⟨r15, hc15, hf⟩ := bi_s hf
        have hPc := hP.sub (ws' := (wX6 cI cZ (ofs 1 a) (ofs 1 M))) [1, 2, 3, 4, 5, 6, 7, 8, 9, 10, 11, 12, 13, 14, 15, 16] rfl
        refine cRO (va_Run.run (va_runVN (As := [.int l2]) (rest := []) ⟨hx, hb, hml, hown, hts⟩ (c_X6_missing l dC dI cI cZ (ofs 1 a) (ofs 1 M) l2 r15 hc15) ⟨va_cnB 1 hts gX8_shortKinds_X6_missing_n323 rfl rfl rfl (nw58 hNW) hw2 (by decide +kernel) ⟨Nat.le_of_ble_eq_true rfl, Nat.le_of_ble_eq_true rfl⟩, hw3, hw4⟩ ⟨RO.blind, va_recv hK hP (ci := 6) (q0 := 1) rfl rfl, RO.pre hPc hK2 hNW⟩ rfl rfl hl.1 rfl (lv_room (Nat.le_of_ble_eq_true rfl)) dX8_shortKinds_15 ⟨Nat.le_of_ble_eq_true rfl, Nat.le_of_ble_eq_true rfl⟩)) ?_
        refine lv_if_le (tgt := 27) hx hb dX8_shortKinds_18 (by decide) (fun c9 => ?_) (fun c9 => ?_)
        · have hf := it_t hf c9
          exact hfX8_shortKinds_B27 _ (ih kx33 hkx33) _ hkx33 l1 l2 hf _ (lv_sub hl [0, 1, 2] rfl)
        · have hf := it_f hf c9
          refine lv_iload_n hx hb dX8_shortKinds_21 rfl (lv_at hl 1 rfl) ?_
          refine lv_iconst (v := (1 : Int32)) hx hb dX8_shortKinds_22 (by decide) ?_
          refine lv_iload_n hx hb dX8_shortKinds_23 rfl (lv_at hl 2 rfl) ?_
          refine lv_ishl hx hb dX8_shortKinds_24 ?_
          refine lv_ior hx hb dX8_shortKinds_25 ?_
          refine lv_istore_n (lv' := [(1, .int (l1 ||| ((1 : Int32) <<< (l2 &&& 31)))), (0, .ref (a 0)), (2, .int l2)]) hx hb dX8_shortKinds_26 rfl hl (by decide) rfl (fun ls hl => ?_)
          exact hfX8_shortKinds_B27 _ (ih kx33 hkx33) _ hkx33 (l1 ||| ((1 : Int32) <<< (l2 &&& 31))) l2 hf _ (lv_sub hl [1, 0, 2] rfl)
  have hl := lv_entry ([.ref (a 0)]) (n := 3) (Nat.le_of_ble_eq_true rfl)
  rw [lg_entry_eq]
  generalize (lg_sl ([.ref (a 0)]) ++ List.replicate (3 - (lg_sl ([.ref (a 0)])).length) Slot.unset).toArray = ls at hl ⊢
  have hl : lv_has ls 3 [(0, .ref (a 0))] := hl
  unfold fX8_shortKinds at hf
  refine lv_iconst (v := (0 : Int32)) hx hb dX8_shortKinds_0 (by decide) ?_
  refine lv_istore_n (lv' := [(1, .int (0 : Int32)), (0, .ref (a 0))]) hx hb dX8_shortKinds_1 rfl hl (by decide) rfl (fun ls hl => ?_)
  refine lv_iconst (v := (0 : Int32)) hx hb dX8_shortKinds_2 (by decide) ?_
  refine lv_istore_n (lv' := [(2, .int (0 : Int32)), (1, .int (0 : Int32)), (0, .ref (a 0))]) hx hb dX8_shortKinds_3 rfl hl (by decide) rfl (fun ls hl => ?_)
  refine hfX8_shortKinds_L4 5000 _ (fun l1 hf ls hl => ?_) (0 : Int32) (0 : Int32) hf _ (lv_sub hl [2, 1, 0] rfl)
  refine lv_iload_n hx hb dX8_shortKinds_33 rfl (lv_at hl 0 rfl) ?_
  exact W.iret (v := l1) hx hb hr (fun t ht hW => ⟨congrArg (fun x => Outcome.returned (some (Value.int x))) (so_e hf), ht⟩) fl0 dX8_shortKinds_34
set_option maxHeartbeats 4000000 in
set_option maxRecDepth 100000 in
theorem c_X8_orders (l : Launch) (dC : Nat → ClassId) (dI : Nat → Nat → Nat) (cI cZ cS : ClassId) (f g : Nat → Option Nat) (a : Nat → Nat) (M : Mem) (z : Int32) (hf : fX8_orders M  = some z) : Met l yX8_orders wsX8_orders ({ frames := 0, cells := 0, slots := 0, locals := 0 } : Room) (va_Pc [.ref (a 0)] (RO8 (dC, dI) cI cZ cS (wX8 cI cZ cS f g a M))) (k2_QcV (.int z)) 0 0 (fun _ => False) := by
  refine Met.ofW (cc := cX8_orders) (maxL := 1) (ret := (some .int)) (by decide) rfl ?_
  intro p e s m args below meth c s₁ B hml hv
  obtain ⟨rfl, hP, hK, hNW⟩ := hv
  have hK2 : va_K (dC, dI) vwCl [(cI, .int), (cZ, .boolean)] s := hK.sub (tys' := [(cI, .int), (cZ, .boolean)]) [0, 1] rfl
  have hx := B.exec
  have hb := B.bytes
  have hr := B.returns
  have hts := atoms_spec (ws := wsX8_orders) B.pre
  have hown : s.vm.findClass RX8 = some m.cls := findClass_of_methodNamed B.named
  have hlocks := B.notSynchronized
  have hinX8 : ∀ w ∈ u_ws RX8 TX8 6, w ∈ wsX8_orders := by decide +kernel
  have hw1 := hts (.fieldLink RX8 12 "GlideShelves" "now" "LGlideShelves$State;") (by decide +kernel)
  have hinX6 : ∀ w ∈ u_ws RX6 TX6 5, w ∈ wsX8_orders := by decide +kernel
  have hinX3 : ∀ w ∈ u_ws RX3 TX3 2, w ∈ wsX8_orders := by decide +kernel
  have hl := lv_entry ([.ref (a 0)]) (n := 1) (Nat.le_of_ble_eq_true rfl)
  rw [lg_entry_eq]
  generalize (lg_sl ([.ref (a 0)]) ++ List.replicate (1 - (lg_sl ([.ref (a 0)])).length) Slot.unset).toArray = ls at hl ⊢
  have hl : lv_has ls 1 [(0, .ref (a 0))] := hl
  unfold fX8_orders at hf
  refine lv_aload_n hx hb dX8_orders_0 rfl (lv_at hl 0 rfl) ?_
  refine va_get (D := (dC, dI)) (ci := 8) (v := .ref (a 1)) (C := RX8) (T := TX8) (N := 6) hx hb hts hinX8 hown hK hP 0 rfl rfl 0 (by decide) hw1 (fun _ h9 => h9) rfl dX8_orders_1 ?_
  refine va_getN (D := (dC, dI)) (ci := 6) (v := .ref (a 15)) (C := RX6) (T := TX6) (N := 5) hx hb hts hinX6 hown hK hP 1 rfl rfl 3 (by decide) (nw4 hNW) (fun _ h9 => h9) rfl dX8_orders_4 ?_
  refine va_getN (D := (dC, dI)) (ci := 3) (v := .int (M 15 0)) (C := RX3) (T := TX3) (N := 2) hx hb hts hinX3 hown hK hP 15 rfl rfl 0 (by decide) (nw5 hNW) (fun _ h9 => h9) rfl dX8_orders_7 ?_
  exact W.iret (v := (M 15 0)) hx hb hr (fun t ht hW => ⟨congrArg (fun x => Outcome.returned (some (Value.int x))) (so_e hf), ht⟩) fl0 dX8_orders_10
set_option maxHeartbeats 4000000 in
set_option maxRecDepth 100000 in
theorem n_X8_requireOrder (l : Launch) (dC : Nat → ClassId) (dI : Nat → Nat → Nat) (cI cZ cS : ClassId) (f g : Nat → Option Nat) (a : Nat → Nat) (M : Mem) (a1 : Int32) (hf : fX8_requireOrder M a1 = some (Sum.inr ())) : Met l yX8_requireOrder wsX8_requireOrder ({ frames := 0, cells := 0, slots := 0, locals := 0 } : Room) (va_Pc [.ref (a 0), .int a1] (RO8 (dC, dI) cI cZ cS (wX8 cI cZ cS f g a M))) (va_Sv (fun _ => True)) 0 0 (fun _ => False) := by
  refine Met.ofW (cc := cX8_requireOrder) (maxL := 2) (ret := none) (by decide) rfl ?_
  intro p e s m args below meth c s₁ B hml hv
  obtain ⟨rfl, hP, hK, hNW⟩ := hv
  have hx := B.exec
  have hb := B.bytes
  have hr := B.returns
  have hts := atoms_spec (ws := wsX8_requireOrder) B.pre
  have hown : s.vm.findClass RX8 = some m.cls := findClass_of_methodNamed B.named
  have hlocks := B.notSynchronized
  have hK2 : va_K (dC, dI) vwCl [(cI, .int), (cZ, .boolean)] s := hK.sub (tys' := [(cI, .int), (cZ, .boolean)]) [0, 1] rfl
  have hinX8 : ∀ w ∈ u_ws RX8 TX8 6, w ∈ wsX8_requireOrder := by decide +kernel
  have hw1 := hts (.fieldLink RX8 12 "GlideShelves" "now" "LGlideShelves$State;") (by decide +kernel)
  have hinX6 : ∀ w ∈ u_ws RX6 TX6 5, w ∈ wsX8_requireOrder := by decide +kernel
  have hinX3 : ∀ w ∈ u_ws RX3 TX3 2, w ∈ wsX8_requireOrder := by decide +kernel
  have hfX8_requireOrder_B18 : ∀ (_ : Unit), fX8_requireOrder_B18 M  () = some (Sum.inr ()) → ∀ (ls : Array Slot), lv_has ls 2 [] → W p l e (headSpec wsX8_requireOrder ({ frames := 0, cells := 0, slots := 0, locals := 0 } : Room)).room s m ([.ref (a 0), .int a1] : List Value).toArray below meth c s.heap [] 0 0 (MQ below (va_Sv (fun _ => True)) ([.ref (a 0), .int a1] : List Value).toArray s 0 0 (fun _ => False)) (F0 m 18 ls []) := by
    intro  _ hf ls hl
    unfold fX8_requireOrder_B18 at hf
    have e9 := so_e hf
    cases e9
  have hl := lv_entry ([.ref (a 0), .int a1]) (n := 2) (Nat.le_of_ble_eq_true rfl)
  rw [lg_entry_eq]
  generalize (lg_sl ([.ref (a 0), .int a1]) ++ List.replicate (2 - (lg_sl ([.ref (a 0), .int a1])).length) Slot.unset).toArray = ls at hl ⊢
  have hl : lv_has ls 2 [(0, .ref (a 0)), (1, .int a1)] := hl
  unfold fX8_requireOrder at hf
  refine lv_iload_n hx hb dX8_requireOrder_0 rfl (lv_at hl 1 rfl) ?_
  refine lv_if_lt (tgt := 18) hx hb dX8_requireOrder_1 (by decide) (fun c9 => ?_) (fun c9 => ?_)
  · have hf := it_t hf c9
    exact hfX8_requireOrder_B18  () hf _ (lv_sub hl [] rfl)
  · have hf := it_f hf c9
    refine lv_iload_n hx hb dX8_requireOrder_4 rfl (lv_at hl 1 rfl) ?_
    refine lv_aload_n hx hb dX8_requireOrder_5 rfl (lv_at hl 0 rfl) ?_
    refine va_get (D := (dC, dI)) (ci := 8) (v := .ref (a 1)) (C := RX8) (T := TX8) (N := 6) hx hb hts hinX8 hown hK hP 0 rfl rfl 0 (by decide) hw1 (fun _ h9 => h9) rfl dX8_requireOrder_6 ?_
    refine va_getN (D := (dC, dI)) (ci := 6) (v := .ref (a 15)) (C := RX6) (T := TX6) (N := 5) hx hb hts hinX6 hown hK hP 1 rfl rfl 3 (by decide) (nw4 hNW) (fun _ h9 => h9) rfl dX8_requireOrder_9 ?_
    refine va_getN (D := (dC, dI)) (ci := 3) (v := .int (M 15 0)) (C := RX3) (T := TX3) (N := 2) hx hb hts hinX3 hown hK hP 15 rfl rfl 0 (by decide) (nw5 hNW) (fun _ h9 => h9) rfl dX8_requireOrder_12 ?_
    refine lv_icmp_lt (tgt := 29) hx hb dX8_requireOrder_15 (by decide) (fun c9 => ?_) (fun c9 => ?_)
    · have hf := it_t hf c9
      have e9 := so_e hf
      cases e9
      exact W.vret hx hb hr (fun t ht hW => ⟨rfl, trivial, ht⟩) fl0 dX8_requireOrder_29
    · have hf := it_f hf c9
      exact hfX8_requireOrder_B18  () hf _ (lv_sub hl [] rfl)
set_option maxHeartbeats 4000000 in
set_option maxRecDepth 100000 in
theorem n_X8_wanted (l : Launch) (dC : Nat → ClassId) (dI : Nat → Nat → Nat) (cI cZ cS : ClassId) (f g : Nat → Option Nat) (a : Nat → Nat) (M : Mem) (a1 : Int32) (a2 : Int32) (z1 : Int32) (hf : fX8_wanted M a1 a2 = some (Sum.inr z1)) : Met l yX8_wanted wsX8_wanted ({ frames := 1, cells := 0, slots := 0, locals := 22 } : Room) (va_Pc [.ref (a 0), .int a1, .int a2] (RO8 (dC, dI) cI cZ cS (wX8 cI cZ cS f g a M))) (k2_QcV (.int z1)) 0 0 (fun _ => False) := by
  refine Met.ofW (cc := cX8_wanted) (maxL := 3) (ret := (some .int)) (by decide) rfl ?_
  intro p e s m args below meth c s₁ B hml hv
  obtain ⟨rfl, hP, hK, hNW⟩ := hv
  have hx := B.exec
  have hb := B.bytes
  have hr := B.returns
  have hts := atoms_spec (ws := wsX8_wanted) B.pre
  have hown : s.vm.findClass RX8 = some m.cls := findClass_of_methodNamed B.named
  have hlocks := B.notSynchronized
  have hK2 : va_K (dC, dI) vwCl [(cI, .int), (cZ, .boolean)] s := hK.sub (tys' := [(cI, .int), (cZ, .boolean)]) [0, 1] rfl
  have hinX8 : ∀ w ∈ u_ws RX8 TX8 6, w ∈ wsX8_wanted := by decide +kernel
  have hw1 := hts (.fieldLink RX8 12 "GlideShelves" "now" "LGlideShelves$State;") (by decide +kernel)
  have hinX6 : ∀ w ∈ u_ws RX6 TX6 5, w ∈ wsX8_wanted := by decide +kernel
  have hw3 := hts (.initialized RX3) (by decide +kernel)
  have hw4 := hts (.instanceMethod yX3_wantedOf) (by decide +kernel)
  have hw5 := hts (.selects RX3 yX3_wantedOf yX3_wantedOf) (by decide +kernel)
  have hl := lv_entry ([.ref (a 0), .int a1, .int a2]) (n := 3) (Nat.le_of_ble_eq_true rfl)
  rw [lg_entry_eq]
  generalize (lg_sl ([.ref (a 0), .int a1, .int a2]) ++ List.replicate (3 - (lg_sl ([.ref (a 0), .int a1, .int a2])).length) Slot.unset).toArray = ls at hl ⊢
  have hl : lv_has ls 3 [(0, .ref (a 0)), (1, .int a1), (2, .int a2)] := hl
  unfold fX8_wanted at hf
  refine lv_aload_n hx hb dX8_wanted_0 rfl (lv_at hl 0 rfl) ?_
  refine lv_iload_n hx hb dX8_wanted_1 rfl (lv_at hl 1 rfl) ?_
  obtain ⟨r2, hc2, hf⟩ := bi_s hf
  rcases r2 with E9 | r2
  · have e9 := so_e hf
    cases e9
  have hf := sel_r hf
  refine cROv (W.runV (As := [.int a1]) (rest := []) ⟨hx, hb, hml, hown, hts⟩ (n_X8_requireOrder l dC dI cI cZ cS f g a M a1  hc2) (cwV 1 hts gX8_wanted_X8_requireOrder rfl rfl rfl (by decide +kernel) ⟨Nat.le_of_ble_eq_true rfl, Nat.le_of_ble_eq_true rfl⟩) ⟨RO8.blind, va_recv hK hP (ci := 8) (q0 := 0) rfl rfl, RO8.pre hP hK hNW⟩ rfl rfl hl.1 rfl (lv_room (Nat.le_of_ble_eq_true rfl)) dX8_wanted_2 ⟨Nat.le_of_ble_eq_true rfl, Nat.le_of_ble_eq_true rfl⟩) ?_
  refine lv_aload_n hx hb dX8_wanted_5 rfl (lv_at hl 0 rfl) ?_
  refine lv_iload_n hx hb dX8_wanted_6 rfl (lv_at hl 2 rfl) ?_
  obtain ⟨r7, hc7, hf⟩ := bi_s hf
  rcases r7 with E9 | r7
  · have e9 := so_e hf
    cases e9
  have hf := sel_r hf
  refine cROv (W.runV (As := [.int a2]) (rest := []) ⟨hx, hb, hml, hown, hts⟩ (n_X8_requireKind l dC dI cI cZ cS f g a M a2  hc7) (cwV 1 hts gX8_wanted_X8_requireKind rfl rfl rfl (by decide +kernel) ⟨Nat.le_of_ble_eq_true rfl, Nat.le_of_ble_eq_true rfl⟩) ⟨RO8.blind, va_recv hK hP (ci := 8) (q0 := 0) rfl rfl, RO8.pre hP hK hNW⟩ rfl rfl hl.1 rfl (lv_room (Nat.le_of_ble_eq_true rfl)) dX8_wanted_7 ⟨Nat.le_of_ble_eq_true rfl, Nat.le_of_ble_eq_true rfl⟩) ?_
  refine lv_aload_n hx hb dX8_wanted_10 rfl (lv_at hl 0 rfl) ?_
  refine va_get (D := (dC, dI)) (ci := 8) (v := .ref (a 1)) (C := RX8) (T := TX8) (N := 6) hx hb hts hinX8 hown hK hP 0 rfl rfl 0 (by decide) hw1 (fun _ h9 => h9) rfl dX8_wanted_11 ?_
  refine va_getN (D := (dC, dI)) (ci := 6) (v := .ref (a 15)) (C := RX6) (T := TX6) (N := 5) hx hb hts hinX6 hown hK hP 1 rfl rfl 3 (by decide) (nw4 hNW) (fun _ h9 => h9) rfl dX8_wanted_14 ?_
  refine lv_iload_n hx hb dX8_wanted_17 rfl (lv_at hl 1 rfl) ?_
  refine lv_iload_n hx hb dX8_wanted_18 rfl (lv_at hl 2 rfl) ?_
  obtain ⟨r19, hc19, hf⟩ := bi_s hf
  have hPc := hP.sub (ws' := (wX3 cI cZ (ofs 15 a) (ofs 15 M))) [15, 16] rfl
  refine cRO (va_Run.run (va_runVN (As := [.int a1, .int a2]) (rest := []) ⟨hx, hb, hml, hown, hts⟩ (c_X3_wantedOf l dC dI cI cZ (ofs 15 a) (ofs 15 M) a1 a2 r19 hc19) ⟨va_cnB 2 hts gX8_wanted_X3_wantedOf_n326 rfl rfl rfl (nw59 hNW) hw3 (by decide +kernel) ⟨Nat.le_of_ble_eq_true rfl, Nat.le_of_ble_eq_true rfl⟩, hw4, hw5⟩ ⟨RO.blind, va_recv hK hP (ci := 3) (q0 := 15) rfl rfl, RO.pre hPc hK2 hNW⟩ rfl rfl hl.1 rfl (lv_room (Nat.le_of_ble_eq_true rfl)) dX8_wanted_19 ⟨Nat.le_of_ble_eq_true rfl, Nat.le_of_ble_eq_true rfl⟩)) ?_
  have e9 := so_e hf
  cases e9
  exact W.iret hx hb hr (fun t ht hW => ⟨rfl, ht⟩) fl0 dX8_wanted_22
set_option maxHeartbeats 4000000 in
set_option maxRecDepth 100000 in
theorem n_X8_thingsOf (l : Launch) (dC : Nat → ClassId) (dI : Nat → Nat → Nat) (cI cZ cS : ClassId) (f g : Nat → Option Nat) (a : Nat → Nat) (M : Mem) (a1 : Int32) (z1 : Int32) (hf : fX8_thingsOf M a1 = some (Sum.inr z1)) : Met l yX8_thingsOf wsX8_thingsOf ({ frames := 2, cells := 0, slots := 0, locals := 45 } : Room) (va_Pc [.ref (a 0), .int a1] (RO8 (dC, dI) cI cZ cS (wX8 cI cZ cS f g a M))) (k2_QcV (.int z1)) 0 0 (fun _ => False) := by
  refine Met.ofW (cc := cX8_thingsOf) (maxL := 2) (ret := (some .int)) (by decide) rfl ?_
  intro p e s m args below meth c s₁ B hml hv
  obtain ⟨rfl, hP, hK, hNW⟩ := hv
  have hx := B.exec
  have hb := B.bytes
  have hr := B.returns
  have hts := atoms_spec (ws := wsX8_thingsOf) B.pre
  have hown : s.vm.findClass RX8 = some m.cls := findClass_of_methodNamed B.named
  have hlocks := B.notSynchronized
  have hK2 : va_K (dC, dI) vwCl [(cI, .int), (cZ, .boolean)] s := hK.sub (tys' := [(cI, .int), (cZ, .boolean)]) [0, 1] rfl
  have hinX8 : ∀ w ∈ u_ws RX8 TX8 6, w ∈ wsX8_thingsOf := by decide +kernel
  have hw1 := hts (.fieldLink RX8 12 "GlideShelves" "now" "LGlideShelves$State;") (by decide +kernel)
  have hinX6 : ∀ w ∈ u_ws RX6 TX6 5, w ∈ wsX8_thingsOf := by decide +kernel
  have hw3 := hts (.initialized RX3) (by decide +kernel)
  have hw4 := hts (.instanceMethod yX3_sumOf) (by decide +kernel)
  have hw5 := hts (.selects RX3 yX3_sumOf yX3_sumOf) (by decide +kernel)
  have hl := lv_entry ([.ref (a 0), .int a1]) (n := 2) (Nat.le_of_ble_eq_true rfl)
  rw [lg_entry_eq]
  generalize (lg_sl ([.ref (a 0), .int a1]) ++ List.replicate (2 - (lg_sl ([.ref (a 0), .int a1])).length) Slot.unset).toArray = ls at hl ⊢
  have hl : lv_has ls 2 [(0, .ref (a 0)), (1, .int a1)] := hl
  unfold fX8_thingsOf at hf
  refine lv_aload_n hx hb dX8_thingsOf_0 rfl (lv_at hl 0 rfl) ?_
  refine lv_iload_n hx hb dX8_thingsOf_1 rfl (lv_at hl 1 rfl) ?_
  obtain ⟨r2, hc2, hf⟩ := bi_s hf
  rcases r2 with E9 | r2
  · have e9 := so_e hf
    cases e9
  have hf := sel_r hf
  refine cROv (W.runV (As := [.int a1]) (rest := []) ⟨hx, hb, hml, hown, hts⟩ (n_X8_requireOrder l dC dI cI cZ cS f g a M a1  hc2) (cwV 1 hts gX8_thingsOf_X8_requireOrder rfl rfl rfl (by decide +kernel) ⟨Nat.le_of_ble_eq_true rfl, Nat.le_of_ble_eq_true rfl⟩) ⟨RO8.blind, va_recv hK hP (ci := 8) (q0 := 0) rfl rfl, RO8.pre hP hK hNW⟩ rfl rfl hl.1 rfl (lv_room (Nat.le_of_ble_eq_true rfl)) dX8_thingsOf_2 ⟨Nat.le_of_ble_eq_true rfl, Nat.le_of_ble_eq_true rfl⟩) ?_
  refine lv_aload_n hx hb dX8_thingsOf_5 rfl (lv_at hl 0 rfl) ?_
  refine va_get (D := (dC, dI)) (ci := 8) (v := .ref (a 1)) (C := RX8) (T := TX8) (N := 6) hx hb hts hinX8 hown hK hP 0 rfl rfl 0 (by decide) hw1 (fun _ h9 => h9) rfl dX8_thingsOf_6 ?_
  refine va_getN (D := (dC, dI)) (ci := 6) (v := .ref (a 15)) (C := RX6) (T := TX6) (N := 5) hx hb hts hinX6 hown hK hP 1 rfl rfl 3 (by decide) (nw4 hNW) (fun _ h9 => h9) rfl dX8_thingsOf_9 ?_
  refine lv_iload_n hx hb dX8_thingsOf_12 rfl (lv_at hl 1 rfl) ?_
  obtain ⟨r13, hc13, hf⟩ := bi_s hf
  have hPc := hP.sub (ws' := (wX3 cI cZ (ofs 15 a) (ofs 15 M))) [15, 16] rfl
  refine cRO (va_Run.run (va_runVN (As := [.int a1]) (rest := []) ⟨hx, hb, hml, hown, hts⟩ (c_X3_sumOf l dC dI cI cZ (ofs 15 a) (ofs 15 M) a1 r13 hc13) ⟨va_cnB 1 hts gX8_thingsOf_X3_sumOf_n206 rfl rfl rfl (nw47 hNW) hw3 (by decide +kernel) ⟨Nat.le_of_ble_eq_true rfl, Nat.le_of_ble_eq_true rfl⟩, hw4, hw5⟩ ⟨RO.blind, va_recv hK hP (ci := 3) (q0 := 15) rfl rfl, RO.pre hPc hK2 hNW⟩ rfl rfl hl.1 rfl (lv_room (Nat.le_of_ble_eq_true rfl)) dX8_thingsOf_13 ⟨Nat.le_of_ble_eq_true rfl, Nat.le_of_ble_eq_true rfl⟩)) ?_
  have e9 := so_e hf
  cases e9
  exact W.iret hx hb hr (fun t ht hW => ⟨rfl, ht⟩) fl0 dX8_thingsOf_16
set_option maxHeartbeats 4000000 in
set_option maxRecDepth 100000 in
theorem n_X8_canServe (l : Launch) (dC : Nat → ClassId) (dI : Nat → Nat → Nat) (cI cZ cS : ClassId) (f g : Nat → Option Nat) (a : Nat → Nat) (M : Mem) (a1 : Int32) (z1 : Int32) (hf : fX8_canServe M a1 = some (Sum.inr z1)) : Met l yX8_canServe wsX8_canServe ({ frames := 3, cells := 0, slots := 0, locals := 68 } : Room) (va_Pc [.ref (a 0), .int a1] (RO8 (dC, dI) cI cZ cS (wX8 cI cZ cS f g a M))) (k2_QcV (.int z1)) 0 0 (fun _ => False) := by
  refine Met.ofW (cc := cX8_canServe) (maxL := 2) (ret := (some .boolean)) (by decide) rfl ?_
  intro p e s m args below meth c s₁ B hml hv
  obtain ⟨rfl, hP, hK, hNW⟩ := hv
  have hx := B.exec
  have hb := B.bytes
  have hr := B.returns
  have hts := atoms_spec (ws := wsX8_canServe) B.pre
  have hown : s.vm.findClass RX8 = some m.cls := findClass_of_methodNamed B.named
  have hlocks := B.notSynchronized
  have hK2 : va_K (dC, dI) vwCl [(cI, .int), (cZ, .boolean)] s := hK.sub (tys' := [(cI, .int), (cZ, .boolean)]) [0, 1] rfl
  have hinX8 : ∀ w ∈ u_ws RX8 TX8 6, w ∈ wsX8_canServe := by decide +kernel
  have hw1 := hts (.fieldLink RX8 12 "GlideShelves" "now" "LGlideShelves$State;") (by decide +kernel)
  have hw2 := hts (.initialized RX6) (by decide +kernel)
  have hw3 := hts (.instanceMethod yX6_isServable) (by decide +kernel)
  have hw4 := hts (.selects RX6 yX6_isServable yX6_isServable) (by decide +kernel)
  have hl := lv_entry ([.ref (a 0), .int a1]) (n := 2) (Nat.le_of_ble_eq_true rfl)
  rw [lg_entry_eq]
  generalize (lg_sl ([.ref (a 0), .int a1]) ++ List.replicate (2 - (lg_sl ([.ref (a 0), .int a1])).length) Slot.unset).toArray = ls at hl ⊢
  have hl : lv_has ls 2 [(0, .ref (a 0)), (1, .int a1)] := hl
  unfold fX8_canServe at hf
  refine lv_aload_n hx hb dX8_canServe_0 rfl (lv_at hl 0 rfl) ?_
  refine lv_iload_n hx hb dX8_canServe_1 rfl (lv_at hl 1 rfl) ?_
  obtain ⟨r2, hc2, hf⟩ := bi_s hf
  rcases r2 with E9 | r2
  · have e9 := so_e hf
    cases e9
  have hf := sel_r hf
  refine cROv (W.runV (As := [.int a1]) (rest := []) ⟨hx, hb, hml, hown, hts⟩ (n_X8_requireOrder l dC dI cI cZ cS f g a M a1  hc2) (cwV 1 hts gX8_canServe_X8_requireOrder rfl rfl rfl (by decide +kernel) ⟨Nat.le_of_ble_eq_true rfl, Nat.le_of_ble_eq_true rfl⟩) ⟨RO8.blind, va_recv hK hP (ci := 8) (q0 := 0) rfl rfl, RO8.pre hP hK hNW⟩ rfl rfl hl.1 rfl (lv_room (Nat.le_of_ble_eq_true rfl)) dX8_canServe_2 ⟨Nat.le_of_ble_eq_true rfl, Nat.le_of_ble_eq_true rfl⟩) ?_
  refine lv_aload_n hx hb dX8_canServe_5 rfl (lv_at hl 0 rfl) ?_
  refine va_get (D := (dC, dI)) (ci := 8) (v := .ref (a 1)) (C := RX8) (T := TX8) (N := 6) hx hb hts hinX8 hown hK hP 0 rfl rfl 0 (by decide) hw1 (fun _ h9 => h9) rfl dX8_canServe_6 ?_
  refine lv_iload_n hx hb dX8_canServe_9 rfl (lv_at hl 1 rfl) ?_
  obtain ⟨r10, hc10, hf⟩ := bi_s hf
  have hPc := hP.sub (ws' := (wX6 cI cZ (ofs 1 a) (ofs 1 M))) [1, 2, 3, 4, 5, 6, 7, 8, 9, 10, 11, 12, 13, 14, 15, 16] rfl
  refine cRO (va_Run.run (va_runVN (As := [.int a1]) (rest := []) ⟨hx, hb, hml, hown, hts⟩ (c_X6_isServable l dC dI cI cZ (ofs 1 a) (ofs 1 M) a1 r10 hc10) ⟨va_cnB 1 hts gX8_canServe_X6_isServable_n329 rfl rfl rfl (nw60 hNW) hw2 (by decide +kernel) ⟨Nat.le_of_ble_eq_true rfl, Nat.le_of_ble_eq_true rfl⟩, hw3, hw4⟩ ⟨RO.blind, va_recv hK hP (ci := 6) (q0 := 1) rfl rfl, RO.pre hPc hK2 hNW⟩ rfl rfl hl.1 rfl (lv_room (Nat.le_of_ble_eq_true rfl)) dX8_canServe_10 ⟨Nat.le_of_ble_eq_true rfl, Nat.le_of_ble_eq_true rfl⟩)) ?_
  obtain ⟨hz, hf⟩ := gd_s hf
  have e9 := so_e hf
  cases e9
  exact W.zret hx hb hr (isb_nar hz) (fun t ht hW => ⟨rfl, ht⟩) fl0 dX8_canServe_13
set_option maxHeartbeats 4000000 in
set_option maxRecDepth 100000 in
theorem n_X8_requireServable (l : Launch) (dC : Nat → ClassId) (dI : Nat → Nat → Nat) (cI cZ cS : ClassId) (f g : Nat → Option Nat) (a : Nat → Nat) (M : Mem) (a1 : Int32) (hf : fX8_requireServable M a1 = some (Sum.inr ())) : Met l yX8_requireServable wsX8_requireServable ({ frames := 3, cells := 0, slots := 0, locals := 68 } : Room) (va_Pc [.ref (a 0), .int a1] (RO8 (dC, dI) cI cZ cS (wX8 cI cZ cS f g a M))) (va_Sv (fun _ => True)) 0 0 (fun _ => False) := by
  refine Met.ofW (cc := cX8_requireServable) (maxL := 2) (ret := none) (by decide) rfl ?_
  intro p e s m args below meth c s₁ B hml hv
  obtain ⟨rfl, hP, hK, hNW⟩ := hv
  have hx := B.exec
  have hb := B.bytes
  have hr := B.returns
  have hts := atoms_spec (ws := wsX8_requireServable) B.pre
  have hown : s.vm.findClass RX8 = some m.cls := findClass_of_methodNamed B.named
  have hlocks := B.notSynchronized
  have hK2 : va_K (dC, dI) vwCl [(cI, .int), (cZ, .boolean)] s := hK.sub (tys' := [(cI, .int), (cZ, .boolean)]) [0, 1] rfl
  have hinX8 : ∀ w ∈ u_ws RX8 TX8 6, w ∈ wsX8_requireServable := by decide +kernel
  have hw1 := hts (.fieldLink RX8 12 "GlideShelves" "now" "LGlideShelves$State;") (by decide +kernel)
  have hw2 := hts (.initialized RX6) (by decide +kernel)
  have hw3 := hts (.instanceMethod yX6_isServable) (by decide +kernel)
  have hw4 := hts (.selects RX6 yX6_isServable yX6_isServable) (by decide +kernel)
  have hl := lv_entry ([.ref (a 0), .int a1]) (n := 2) (Nat.le_of_ble_eq_true rfl)
  rw [lg_entry_eq]
  generalize (lg_sl ([.ref (a 0), .int a1]) ++ List.replicate (2 - (lg_sl ([.ref (a 0), .int a1])).length) Slot.unset).toArray = ls at hl ⊢
  have hl : lv_has ls 2 [(0, .ref (a 0)), (1, .int a1)] := hl
  unfold fX8_requireServable at hf
  refine lv_aload_n hx hb dX8_requireServable_0 rfl (lv_at hl 0 rfl) ?_
  refine va_get (D := (dC, dI)) (ci := 8) (v := .ref (a 1)) (C := RX8) (T := TX8) (N := 6) hx hb hts hinX8 hown hK hP 0 rfl rfl 0 (by decide) hw1 (fun _ h9 => h9) rfl dX8_requireServable_1 ?_
  refine lv_iload_n hx hb dX8_requireServable_4 rfl (lv_at hl 1 rfl) ?_
  obtain ⟨r5, hc5, hf⟩ := bi_s hf
  have hPc := hP.sub (ws' := (wX6 cI cZ (ofs 1 a) (ofs 1 M))) [1, 2, 3, 4, 5, 6, 7, 8, 9, 10, 11, 12, 13, 14, 15, 16] rfl
  refine cRO (va_Run.run (va_runVN (As := [.int a1]) (rest := []) ⟨hx, hb, hml, hown, hts⟩ (c_X6_isServable l dC dI cI cZ (ofs 1 a) (ofs 1 M) a1 r5 hc5) ⟨va_cnB 1 hts gX8_requireServable_X6_isServable_n329 rfl rfl rfl (nw60 hNW) hw2 (by decide +kernel) ⟨Nat.le_of_ble_eq_true rfl, Nat.le_of_ble_eq_true rfl⟩, hw3, hw4⟩ ⟨RO.blind, va_recv hK hP (ci := 6) (q0 := 1) rfl rfl, RO.pre hPc hK2 hNW⟩ rfl rfl hl.1 rfl (lv_room (Nat.le_of_ble_eq_true rfl)) dX8_requireServable_5 ⟨Nat.le_of_ble_eq_true rfl, Nat.le_of_ble_eq_true rfl⟩)) ?_
  refine lv_if_ne (tgt := 22) hx hb dX8_requireServable_8 (by decide) (fun c9 => ?_) (fun c9 => ?_)
  · have hf := it_t hf c9
    have e9 := so_e hf
    cases e9
    exact W.vret hx hb hr (fun t ht hW => ⟨rfl, trivial, ht⟩) fl0 dX8_requireServable_22
  · have hf := it_n hf c9
    have e9 := so_e hf
    cases e9
set_option maxHeartbeats 4000000 in
set_option maxRecDepth 100000 in
theorem n_X8_fewestByTrying (l : Launch) (dC : Nat → ClassId) (dI : Nat → Nat → Nat) (cI cZ cS : ClassId) (f g : Nat → Option Nat) (a : Nat → Nat) (M : Mem) (a1 : Int32) (z1 : Int32) (hf : fX8_fewestByTrying M a1 = some (Sum.inr z1)) : Met l yX8_fewestByTrying wsX8_fewestByTrying ({ frames := 4, cells := 0, slots := 0, locals := 89 } : Room) (va_Pc [.ref (a 0), .int a1] (RO8 (dC, dI) cI cZ cS (wX8 cI cZ cS f g a M))) (k2_QcV (.int z1)) 0 0 (fun _ => False) := by
  refine Met.ofW (cc := cX8_fewestByTrying) (maxL := 2) (ret := (some .int)) (by decide) rfl ?_
  intro p e s m args below meth c s₁ B hml hv
  obtain ⟨rfl, hP, hK, hNW⟩ := hv
  have hx := B.exec
  have hb := B.bytes
  have hr := B.returns
  have hts := atoms_spec (ws := wsX8_fewestByTrying) B.pre
  have hown : s.vm.findClass RX8 = some m.cls := findClass_of_methodNamed B.named
  have hlocks := B.notSynchronized
  have hK2 : va_K (dC, dI) vwCl [(cI, .int), (cZ, .boolean)] s := hK.sub (tys' := [(cI, .int), (cZ, .boolean)]) [0, 1] rfl
  have hinX8 : ∀ w ∈ u_ws RX8 TX8 6, w ∈ wsX8_fewestByTrying := by decide +kernel
  have hw1 := hts (.fieldLink RX8 12 "GlideShelves" "now" "LGlideShelves$State;") (by decide +kernel)
  have hw2 := hts (.initialized RX6) (by decide +kernel)
  have hw3 := hts (.instanceMethod yX6_choice) (by decide +kernel)
  have hw4 := hts (.selects RX6 yX6_choice yX6_choice) (by decide +kernel)
  have hl := lv_entry ([.ref (a 0), .int a1]) (n := 2) (Nat.le_of_ble_eq_true rfl)
  rw [lg_entry_eq]
  generalize (lg_sl ([.ref (a 0), .int a1]) ++ List.replicate (2 - (lg_sl ([.ref (a 0), .int a1])).length) Slot.unset).toArray = ls at hl ⊢
  have hl : lv_has ls 2 [(0, .ref (a 0)), (1, .int a1)] := hl
  unfold fX8_fewestByTrying at hf
  refine lv_aload_n hx hb dX8_fewestByTrying_0 rfl (lv_at hl 0 rfl) ?_
  refine lv_iload_n hx hb dX8_fewestByTrying_1 rfl (lv_at hl 1 rfl) ?_
  obtain ⟨r2, hc2, hf⟩ := bi_s hf
  rcases r2 with E9 | r2
  · have e9 := so_e hf
    cases e9
  have hf := sel_r hf
  refine cROv (W.runV (As := [.int a1]) (rest := []) ⟨hx, hb, hml, hown, hts⟩ (n_X8_requireOrder l dC dI cI cZ cS f g a M a1  hc2) (cwV 1 hts gX8_fewestByTrying_X8_requireOrder rfl rfl rfl (by decide +kernel) ⟨Nat.le_of_ble_eq_true rfl, Nat.le_of_ble_eq_true rfl⟩) ⟨RO8.blind, va_recv hK hP (ci := 8) (q0 := 0) rfl rfl, RO8.pre hP hK hNW⟩ rfl rfl hl.1 rfl (lv_room (Nat.le_of_ble_eq_true rfl)) dX8_fewestByTrying_2 ⟨Nat.le_of_ble_eq_true rfl, Nat.le_of_ble_eq_true rfl⟩) ?_
  refine lv_aload_n hx hb dX8_fewestByTrying_5 rfl (lv_at hl 0 rfl) ?_
  refine lv_iload_n hx hb dX8_fewestByTrying_6 rfl (lv_at hl 1 rfl) ?_
  obtain ⟨r7, hc7, hf⟩ := bi_s hf
  rcases r7 with E9 | r7
  · have e9 := so_e hf
    cases e9
  have hf := sel_r hf
  refine cROv (W.runV (As := [.int a1]) (rest := []) ⟨hx, hb, hml, hown, hts⟩ (n_X8_requireServable l dC dI cI cZ cS f g a M a1  hc7) (cwV 1 hts gX8_fewestByTrying_X8_requireServable rfl rfl rfl (by decide +kernel) ⟨Nat.le_of_ble_eq_true rfl, Nat.le_of_ble_eq_true rfl⟩) ⟨RO8.blind, va_recv hK hP (ci := 8) (q0 := 0) rfl rfl, RO8.pre hP hK hNW⟩ rfl rfl hl.1 rfl (lv_room (Nat.le_of_ble_eq_true rfl)) dX8_fewestByTrying_7 ⟨Nat.le_of_ble_eq_true rfl, Nat.le_of_ble_eq_true rfl⟩) ?_
  refine lv_aload_n hx hb dX8_fewestByTrying_10 rfl (lv_at hl 0 rfl) ?_
  refine va_get (D := (dC, dI)) (ci := 8) (v := .ref (a 1)) (C := RX8) (T := TX8) (N := 6) hx hb hts hinX8 hown hK hP 0 rfl rfl 0 (by decide) hw1 (fun _ h9 => h9) rfl dX8_fewestByTrying_11 ?_
  refine lv_iload_n hx hb dX8_fewestByTrying_14 rfl (lv_at hl 1 rfl) ?_
  obtain ⟨r15, hc15, hf⟩ := bi_s hf
  have hPc := hP.sub (ws' := (wX6 cI cZ (ofs 1 a) (ofs 1 M))) [1, 2, 3, 4, 5, 6, 7, 8, 9, 10, 11, 12, 13, 14, 15, 16] rfl
  refine cRO (va_Run.run (va_runVN (As := [.int a1]) (rest := []) ⟨hx, hb, hml, hown, hts⟩ (c_X6_choice l dC dI cI cZ (ofs 1 a) (ofs 1 M) a1 r15 hc15) ⟨va_cnB 1 hts gX8_fewestByTrying_X6_choice_n332 rfl rfl rfl (nw61 hNW) hw2 (by decide +kernel) ⟨Nat.le_of_ble_eq_true rfl, Nat.le_of_ble_eq_true rfl⟩, hw3, hw4⟩ ⟨RO.blind, va_recv hK hP (ci := 6) (q0 := 1) rfl rfl, RO.pre hPc hK2 hNW⟩ rfl rfl hl.1 rfl (lv_room (Nat.le_of_ble_eq_true rfl)) dX8_fewestByTrying_15 ⟨Nat.le_of_ble_eq_true rfl, Nat.le_of_ble_eq_true rfl⟩)) ?_
  obtain ⟨r18, hc18, hf⟩ := bi_s hf
  refine cRO (W.runS (As := [.int r15]) (rest := []) ⟨hx, hb, hml, hown, hts⟩ (c_J6_bitCount_0f7a4 l r15 r18 hc18) (va_cwS 1 hts gX8_fewestByTrying_J6_bitCount_0f7a4 rfl rfl rfl (by decide +kernel) ⟨Nat.le_of_ble_eq_true rfl, Nat.le_of_ble_eq_true rfl⟩) ⟨tr_blind, tr_pre⟩ rfl rfl hl.1 rfl (lv_room (Nat.le_of_ble_eq_true rfl)) dX8_fewestByTrying_18 ⟨Nat.le_of_ble_eq_true rfl, Nat.le_of_ble_eq_true rfl⟩) ?_
  have e9 := so_e hf
  cases e9
  exact W.iret hx hb hr (fun t ht hW => ⟨rfl, ht⟩) fl0 dX8_fewestByTrying_21
set_option maxHeartbeats 4000000 in
set_option maxRecDepth 100000 in
theorem c_X8_isLacking (l : Launch) (dC : Nat → ClassId) (dI : Nat → Nat → Nat) (cI cZ : ClassId) (a : Nat → Nat) (M : Mem) (z : Int32) (hf : fX8_isLacking M  = some z) : Met l yX8_isLacking wsX8_isLacking ({ frames := 0, cells := 0, slots := 0, locals := 0 } : Room) (va_Pc [.ref (a 0)] (RO (dC, dI) cI cZ (wX8_isLacking cI cZ a M))) (k2_QcV (.int z)) 0 0 (fun _ => False) := by
  refine Met.ofW (cc := cX8_isLacking) (maxL := 2) (ret := (some .boolean)) (by decide) rfl ?_
  intro p e s m args below meth c s₁ B hml hv
  obtain ⟨rfl, hP, hK, hNW⟩ := hv
  have hx := B.exec
  have hb := B.bytes
  have hr := B.returns
  have hts := atoms_spec (ws := wsX8_isLacking) B.pre
  have hown : s.vm.findClass RX8 = some m.cls := findClass_of_methodNamed B.named
  have hlocks := B.notSynchronized
  have hfX8_isLacking_L2 : ∀ (n : Nat) (kx20 : Unit → Option (Int32)) (hkx20 : ∀ (_ : Unit), kx20 () = some z → ∀ (ls : Array Slot), lv_has ls 2 [] → W p l e (headSpec wsX8_isLacking ({ frames := 0, cells := 0, slots := 0, locals := 0 } : Room)).room s m ([.ref (a 0)] : List Value).toArray below meth c s.heap [] 0 0 (MQ below (k2_QcV (.int z)) ([.ref (a 0)] : List Value).toArray s 0 0 (fun _ => False)) (F0 m 20 ls [])) (kx28 : Unit → Option (Int32)) (hkx28 : ∀ (_ : Unit), kx28 () = some z → ∀ (ls : Array Slot), lv_has ls 2 [] → W p l e (headSpec wsX8_isLacking ({ frames := 0, cells := 0, slots := 0, locals := 0 } : Room)).room s m ([.ref (a 0)] : List Value).toArray below meth c s.heap [] 0 0 (MQ below (k2_QcV (.int z)) ([.ref (a 0)] : List Value).toArray s 0 0 (fun _ => False)) (F0 m 28 ls [])), ∀ (l1 : Int32), fX8_isLacking_L2 M n kx20 kx28 l1 = some z → ∀ (ls : Array Slot), lv_has ls 2 [(0, .ref (a 0)), (1, .int l1)] → W p l e (headSpec wsX8_isLacking ({ frames := 0, cells := 0, slots := 0, locals := 0 } : Room)).room s m ([.ref (a 0)] : List Value).toArray below meth c s.heap [] 0 0 (MQ below (k2_QcV (.int z)) ([.ref (a 0)] : List Value).toArray s 0 0 (fun _ => False)) (F0 m 2 ls []) := by
    intro n
    induction n with
    | zero =>
      intro kx20 hkx20 kx28 hkx28 l1 hf ls hl
      rw [fX8_isLacking_L2] at hf
      cases hf
    | succ n ih =>
      intro kx20 hkx20 kx28 hkx28 l1 hf ls hl
      rw [fX8_isLacking_L2] at hf
      refine lv_iload_n hx hb dX8_isLacking_2 rfl (lv_at hl 1 rfl) ?_
      refine lv_bipush (v := (10 : Int32)) hx hb dX8_isLacking_3 (by decide) ?_
      refine lv_icmp_ge (tgt := 28) hx hb dX8_isLacking_5 (by decide) (fun c9 => ?_) (fun c9 => ?_)
      · have hf := it_t hf c9
        exact hkx28 () hf _ (lv_sub hl [] rfl)
      · have hf := it_f hf c9
        refine lv_iload_n hx hb dX8_isLacking_8 rfl (lv_at hl 1 rfl) ?_
        refine lv_aload_n hx hb dX8_isLacking_9 rfl (lv_at hl 0 rfl) ?_
        refine va_alen (v := (10 : Int32)) hx hb hK hP 0 0 rfl rfl rfl dX8_isLacking_10 ?_
        refine lv_icmp_ge (tgt := 28) hx hb dX8_isLacking_11 (by decide) (fun c9 => ?_) (fun c9 => ?_)
        · have hf := it_t hf c9
          exact hkx28 () hf _ (lv_sub hl [] rfl)
        · have hf := it_f hf c9
          refine lv_aload_n hx hb dX8_isLacking_14 rfl (lv_at hl 0 rfl) ?_
          refine lv_iload_n hx hb dX8_isLacking_15 rfl (lv_at hl 1 rfl) ?_
          obtain ⟨hi, hf⟩ := gd_s hf
          refine va_iald (D := (dC, dI)) (f := (M 0)) hx hb hK hP 0 0 rfl rfl (inb_in hi) dX8_isLacking_16 ?_
          refine lv_if_le (tgt := 22) hx hb dX8_isLacking_17 (by decide) (fun c9 => ?_) (fun c9 => ?_)
          · have hf := it_t hf c9
            refine lv_iinc (v := (l1 + (1 : Int32))) (lv' := [(1, .int (l1 + (1 : Int32))), (0, .ref (a 0))]) hx hb dX8_isLacking_22 hl (k := 1) rfl rfl (by decide) rfl (fun ls hl => ?_)
            refine lv_goto (tgt := 2) hx hb dX8_isLacking_25 (by decide) ?_
            exact ih kx20 hkx20 kx28 hkx28 (l1 + (1 : Int32)) hf _ (lv_sub hl [1, 0] rfl)
          · have hf := it_f hf c9
            exact hkx20 () hf _ (lv_sub hl [] rfl)
  have hl := lv_entry ([.ref (a 0)]) (n := 2) (Nat.le_of_ble_eq_true rfl)
  rw [lg_entry_eq]
  generalize (lg_sl ([.ref (a 0)]) ++ List.replicate (2 - (lg_sl ([.ref (a 0)])).length) Slot.unset).toArray = ls at hl ⊢
  have hl : lv_has ls 2 [(0, .ref (a 0))] := hl
  unfold fX8_isLacking at hf
  refine lv_iconst (v := (0 : Int32)) hx hb dX8_isLacking_0 (by decide) ?_
  refine lv_istore_n (lv' := [(1, .int (0 : Int32)), (0, .ref (a 0))]) hx hb dX8_isLacking_1 rfl hl (by decide) rfl (fun ls hl => ?_)
  refine hfX8_isLacking_L2 5000 _ (fun _ hf ls hl => ?_) _ (fun _ hf ls hl => ?_) (0 : Int32) hf _ (lv_sub hl [1, 0] rfl)
  · refine lv_iconst (v := (1 : Int32)) hx hb dX8_isLacking_20 (by decide) ?_
    obtain ⟨hz, hf⟩ := gd_s hf
    exact W.zret (v := (1 : Int32)) hx hb hr (isb_nar hz) (fun t ht hW => ⟨congrArg (fun x => Outcome.returned (some (Value.int x))) (so_e hf), ht⟩) fl0 dX8_isLacking_21
  · refine lv_iconst (v := (0 : Int32)) hx hb dX8_isLacking_28 (by decide) ?_
    obtain ⟨hz, hf⟩ := gd_s hf
    exact W.zret (v := (0 : Int32)) hx hb hr (isb_nar hz) (fun t ht hW => ⟨congrArg (fun x => Outcome.returned (some (Value.int x))) (so_e hf), ht⟩) fl0 dX8_isLacking_29
theorem c_X8_fewestFrom_0 (l : Launch) (dC : Nat → ClassId) (dI : Nat → Nat → Nat) (cI cZ : ClassId) (a : Nat → Nat) (sz : Nat) (M : Mem) (a2 : Int32) (a3 : Int32) (a4 : Int32) (z : Int32 × Mem) (hf : fX8_fewestFrom 0 M a2 a3 a4 = some z) : Met l yX8_fewestFrom wsX8_fewestFrom ({ frames := 4, cells := 0, slots := 0, locals := 95 } : Room) (va_Pc [.ref (a 0), .ref (a 5), .int a2, .int a3, .int a4] (WR (dC, dI) cI cZ (wX8_fewestFrom cI cZ a M) sz)) (va_Qi (S := Unit) (fun r _ => r = z.1) (fun _ t => WE (dC, dI) cI cZ (wX8_fewestFrom cI cZ a (sr M 5 (z.2 5))) (va_A (wX8_fewestFrom cI cZ a M) sz) t) (va_A (wX8_fewestFrom cI cZ a M) sz)) 0 0 (va_A (wX8_fewestFrom cI cZ a M) sz) := by
  cases hf
set_option maxHeartbeats 4000000 in
set_option maxRecDepth 100000 in
theorem c_X8_fewestFrom_1 (l : Launch) (dC : Nat → ClassId) (dI : Nat → Nat → Nat) (cI cZ : ClassId) (a : Nat → Nat) (sz : Nat) (M : Mem) (a2 : Int32) (a3 : Int32) (a4 : Int32) (z : Int32 × Mem) (hf : fX8_fewestFrom (0 + 1) M a2 a3 a4 = some z) : Met l yX8_fewestFrom wsX8_fewestFrom ({ frames := 5, cells := 0, slots := 0, locals := 120 } : Room) (va_Pc [.ref (a 0), .ref (a 5), .int a2, .int a3, .int a4] (WR (dC, dI) cI cZ (wX8_fewestFrom cI cZ a M) sz)) (va_Qi (S := Unit) (fun r _ => r = z.1) (fun _ t => WE (dC, dI) cI cZ (wX8_fewestFrom cI cZ a (sr M 5 (z.2 5))) (va_A (wX8_fewestFrom cI cZ a M) sz) t) (va_A (wX8_fewestFrom cI cZ a M) sz)) 0 0 (va_A (wX8_fewestFrom cI cZ a M) sz) := by
  refine Met.ofW (cc := cX8_fewestFrom) (maxL := 6) (ret := (some .int)) (by decide) rfl ?_
  intro p e s m args below meth c s₁ B hml hv
  obtain ⟨rfl, hsz, hP, hK, hD0, hNW⟩ := hv
  have hx := B.exec
  have hb := B.bytes
  have hr := B.returns
  have hts := atoms_spec (ws := wsX8_fewestFrom) B.pre
  have hown : s.vm.findClass RX8 = some m.cls := findClass_of_methodNamed B.named
  have hlocks := B.notSynchronized
  have hinX7 : ∀ w ∈ u_ws RX7 TX7 6, w ∈ wsX8_fewestFrom := by decide +kernel
  have hw1 := hts (.initialized RX7) (by decide +kernel)
  have hw2 := hts (.instanceMethod yX7_helps) (by decide +kernel)
  have hw3 := hts (.selects RX7 yX7_helps yX7_helps) (by decide +kernel)
  have hw4 := hts (.instanceMethod yX7_lend) (by decide +kernel)
  have hw5 := hts (.selects RX7 yX7_lend yX7_lend) (by decide +kernel)
  subst hsz
  have hD := hD0.self (sz := s.heap.size)
  generalize hAe : va_A (wX8_fewestFrom cI cZ a M) s.heap.size = A at hD ⊢
  have hA : ∀ q : Nat, s.heap.size ≤ q → A q := fun q h => by rw [← hAe]; exact Or.inr h
  have hS : va_S A s.heap s.heap [] := va_S.rf
  have hfX8_fewestFrom_B31 : ∀ (N : Mem) (l4 : Int32), fX8_fewestFrom_B31 M  N l4 = some z → ∀ (ls : Array Slot), lv_has ls 6 [(4, .int l4)] → ∀ (H : Heap) (locs : List Loc), va_P (dC, dI) vwCl (wX8_fewestFrom cI cZ a (sr M 5 (N 5))) H → va_D A (wX8_fewestFrom cI cZ a (sr M 5 (N 5))) → va_S A s.heap H locs → W p l e (headSpec wsX8_fewestFrom ({ frames := 5, cells := 0, slots := 0, locals := 120 } : Room)).room s m ([.ref (a 0), .ref (a 5), .int a2, .int a3, .int a4] : List Value).toArray below meth c H locs 0 0 (MQ below (va_Qi (S := Unit) (fun r _ => r = z.1) (fun _ t => WE (dC, dI) cI cZ (wX8_fewestFrom cI cZ a (sr M 5 (z.2 5))) A t) A) ([.ref (a 0), .ref (a 5), .int a2, .int a3, .int a4] : List Value).toArray s 0 0 A) (F0 m 31 ls []) := by
    intro  N l4 hf ls hl H locs hP hD hS
    unfold fX8_fewestFrom_B31 at hf
    refine lv_iload hx hb dX8_fewestFrom_31 (lv_at hl 0 rfl) ?_
    have e9 := so_e hf
    subst e9
    exact W.iret (v := l4) hx hb hr (fun t ht hW => ⟨⟨l4, (), rfl, rfl, WE.mk hP hD ht⟩, hS.F ht⟩) hS.2.2 dX8_fewestFrom_33
  have hfX8_fewestFrom_B76 : ∀ (N : Mem) (l2 : Int32) (l3 : Int32) (l5 : Int32), fX8_fewestFrom_B76 (fX8_fewestFrom 0) M  N l2 l3 l5 = some z → ∀ (ls : Array Slot), lv_has ls 6 [(0, .ref (a 0)), (1, .ref (a 5)), (2, .int l2), (3, .int l3), (5, .int l5)] → ∀ (H : Heap) (locs : List Loc), va_P (dC, dI) vwCl (wX8_fewestFrom cI cZ a (sr M 5 (N 5))) H → va_D A (wX8_fewestFrom cI cZ a (sr M 5 (N 5))) → va_S A s.heap H locs → W p l e (headSpec wsX8_fewestFrom ({ frames := 5, cells := 0, slots := 0, locals := 120 } : Room)).room s m ([.ref (a 0), .ref (a 5), .int a2, .int a3, .int a4] : List Value).toArray below meth c H locs 0 0 (MQ below (va_Qi (S := Unit) (fun r _ => r = z.1) (fun _ t => WE (dC, dI) cI cZ (wX8_fewestFrom cI cZ a (sr M 5 (z.2 5))) A t) A) ([.ref (a 0), .ref (a 5), .int a2, .int a3, .int a4] : List Value).toArray s 0 0 A) (F0 m 76 ls []) := by
    intro  N l2 l3 l5 hf ls hl H locs hP hD hS
    unfold fX8_fewestFrom_B76 at hf
    refine lv_aload_n hx hb dX8_fewestFrom_76 rfl (lv_at hl 0 rfl) ?_
    refine lv_aload_n hx hb dX8_fewestFrom_77 rfl (lv_at hl 1 rfl) ?_
    refine lv_iload_n hx hb dX8_fewestFrom_78 rfl (lv_at hl 2 rfl) ?_
    refine lv_iconst (v := (1 : Int32)) hx hb dX8_fewestFrom_79 (by decide) ?_
    refine lv_iadd hx hb dX8_fewestFrom_80 ?_
    refine lv_iload_n hx hb dX8_fewestFrom_81 rfl (lv_at hl 3 rfl) ?_
    refine lv_iload hx hb dX8_fewestFrom_82 (lv_at hl 4 rfl) ?_
    obtain ⟨r84, hc84, hf⟩ := bi_s hf
    have hPc := hP
    have hDc := hD
    have hFc := va_free (wc := (wX8_fewestFrom cI cZ a (sr M 5 (N 5)))) hD hS hA [0, 1, 2, 3, 4, 5] rfl
    refine va_calli (va_runS (As := [.ref (a 0), .ref (a 5), .int (l2 + (1 : Int32)), .int l3, .int l5]) (rest := []) ⟨hx, hb, hml, hown, hts⟩ (c_X8_fewestFrom_0 l dC dI cI cZ a H.size (sr M 5 (N 5)) (l2 + (1 : Int32)) l3 l5 r84 hc84) (va_cwS 5 hts gX8_fewestFrom_X8_fewestFrom rfl rfl rfl (by decide +kernel) ⟨Nat.le_of_ble_eq_true rfl, Nat.le_of_ble_eq_true rfl⟩) ⟨WR.blind, WR.pre hPc hK hDc hNW⟩ rfl rfl hl.1 rfl (lv_room (Nat.le_of_ble_eq_true rfl)) dX8_fewestFrom_84 ⟨Nat.le_of_ble_eq_true rfl, Nat.le_of_ble_eq_true rfl⟩) hS (fun q _ h => hFc q h) hFc (fun rv u t H1 locs ht hvm hw hB hz1 hk1 hS => ?_)
    obtain ⟨hP1, hD1⟩ := hB
    rw [ht] at hP1
    subst hw
    have hP := hP1
    have hD := hD1.weaken (fun k q _ h => hFc q.1 h)
    have hP : va_P (dC, dI) vwCl (wX8_fewestFrom cI cZ a (sr M 5 (r84.2 5))) H1 := hP
    have hD : va_D A (wX8_fewestFrom cI cZ a (sr M 5 (r84.2 5))) := hD
    generalize H1 = H at hP hS ⊢
    have e9 := so_e hf
    subst e9
    exact W.iret (v := r84.1) hx hb hr (fun t ht hW => ⟨⟨r84.1, (), rfl, rfl, WE.mk hP hD ht⟩, hS.F ht⟩) hS.2.2 dX8_fewestFrom_87
  have hl := lv_entry ([.ref (a 0), .ref (a 5), .int a2, .int a3, .int a4]) (n := 6) (Nat.le_of_ble_eq_true rfl)
  rw [lg_entry_eq]
  generalize (lg_sl ([.ref (a 0), .ref (a 5), .int a2, .int a3, .int a4]) ++ List.replicate (6 - (lg_sl ([.ref (a 0), .ref (a 5), .int a2, .int a3, .int a4])).length) Slot.unset).toArray = ls at hl ⊢
  have hl : lv_has ls 6 [(0, .ref (a 0)), (1, .ref (a 5)), (2, .int a2), (3, .int a3), (4, .int a4)] := hl
  rw [fX8_fewestFrom] at hf
  suffices hgo : ∀ (H : Heap) (locs : List Loc), va_P (dC, dI) vwCl (wX8_fewestFrom cI cZ a M) H → va_D A (wX8_fewestFrom cI cZ a M) → va_S A s.heap H locs → W p l e (headSpec wsX8_fewestFrom ({ frames := 5, cells := 0, slots := 0, locals := 120 } : Room)).room s m ([.ref (a 0), .ref (a 5), .int a2, .int a3, .int a4] : List Value).toArray below meth c H locs 0 0 (MQ below (va_Qi (S := Unit) (fun r _ => r = z.1) (fun _ t => WE (dC, dI) cI cZ (wX8_fewestFrom cI cZ a (sr M 5 (z.2 5))) A t) A) ([.ref (a 0), .ref (a 5), .int a2, .int a3, .int a4] : List Value).toArray s 0 0 A) (F0 m 0 ls []) from hgo _ _ hP hD hS
  intro H locs hP hD hS
  refine lv_aload_n hx hb dX8_fewestFrom_0 rfl (lv_at hl 1 rfl) ?_
  obtain ⟨r1, hc1, hf⟩ := bi_s hf
  have hPc := hP.sub (ws' := (wX8_isLacking cI cZ (ofs 5 a) (ofs 5 M))) [5] rfl
  refine cRO (W.runS (As := [.ref (a 5)]) (rest := []) ⟨hx, hb, hml, hown, hts⟩ (c_X8_isLacking l dC dI cI cZ (ofs 5 a) (ofs 5 M) r1 hc1) (va_cwS 1 hts gX8_fewestFrom_X8_isLacking rfl rfl rfl (by decide +kernel) ⟨Nat.le_of_ble_eq_true rfl, Nat.le_of_ble_eq_true rfl⟩) ⟨RO.blind, RO.pre hPc hK hNW⟩ rfl rfl hl.1 rfl (lv_room (Nat.le_of_ble_eq_true rfl)) dX8_fewestFrom_1 ⟨Nat.le_of_ble_eq_true rfl, Nat.le_of_ble_eq_true rfl⟩) ?_
  refine lv_if_ne (tgt := 9) hx hb dX8_fewestFrom_4 (by decide) (fun c9 => ?_) (fun c9 => ?_)
  · have hf := it_t hf c9
    refine lv_iload_n hx hb dX8_fewestFrom_9 rfl (lv_at hl 2 rfl) ?_
    refine lv_aload_n hx hb dX8_fewestFrom_10 rfl (lv_at hl 0 rfl) ?_
    refine va_getN (D := (dC, dI)) (ci := 7) (v := .int (M 0 0)) (C := RX7) (T := TX7) (N := 6) hx hb hts hinX7 hown hK hP 0 rfl rfl 0 (by decide) (nw24 hNW) (fun _ h9 => h9) rfl dX8_fewestFrom_11 ?_
    refine lv_icmp_ge (tgt := 31) hx hb dX8_fewestFrom_14 (by decide) (fun c9 => ?_) (fun c9 => ?_)
    · have hf := it_t hf c9
      exact hfX8_fewestFrom_B31  M a4 hf _ (lv_sub hl [4] rfl) _ _ hP hD hS
    · have hf := it_f hf c9
      refine lv_iload_n hx hb dX8_fewestFrom_17 rfl (lv_at hl 2 rfl) ?_
      refine lv_bipush (v := (12 : Int32)) hx hb dX8_fewestFrom_18 (by decide) ?_
      refine lv_icmp_ge (tgt := 31) hx hb dX8_fewestFrom_20 (by decide) (fun c9 => ?_) (fun c9 => ?_)
      · have hf := it_t hf c9
        exact hfX8_fewestFrom_B31  M a4 hf _ (lv_sub hl [4] rfl) _ _ hP hD hS
      · have hf := it_f hf c9
        refine lv_iload_n hx hb dX8_fewestFrom_23 rfl (lv_at hl 3 rfl) ?_
        refine lv_iconst (v := (1 : Int32)) hx hb dX8_fewestFrom_24 (by decide) ?_
        refine lv_iadd hx hb dX8_fewestFrom_25 ?_
        refine lv_iload hx hb dX8_fewestFrom_26 (lv_at hl 4 rfl) ?_
        refine lv_icmp_lt (tgt := 34) hx hb dX8_fewestFrom_28 (by decide) (fun c9 => ?_) (fun c9 => ?_)
        · have hf := it_t hf c9
          refine lv_iload hx hb dX8_fewestFrom_34 (lv_at hl 4 rfl) ?_
          refine lv_istore (lv' := [(5, .int a4), (0, .ref (a 0)), (1, .ref (a 5)), (2, .int a2), (3, .int a3), (4, .int a4)]) hx hb dX8_fewestFrom_36 hl (by decide) rfl (fun ls hl => ?_)
          refine lv_aload_n hx hb dX8_fewestFrom_38 rfl (lv_at hl 1 rfl) ?_
          refine lv_iload_n hx hb dX8_fewestFrom_39 rfl (lv_at hl 3 rfl) ?_
          refine lv_aload_n hx hb dX8_fewestFrom_40 rfl (lv_at hl 2 rfl) ?_
          obtain ⟨r41, hc41, hf⟩ := bi_s hf
          have hPc := hP.sub (ws' := (wX7_helps cI cZ a M)) [0, 1, 2, 3, 4, 5] rfl
          refine cRO (va_Run.run (va_runVN (As := [.int a2, .ref (a 5)]) (rest := []) ⟨hx, hb, hml, hown, hts⟩ (c_X7_helps l dC dI cI cZ a M a2 r41 hc41) ⟨va_cnB 2 hts gX8_fewestFrom_X7_helps_n454 rfl rfl rfl (nw64 hNW) hw1 (by decide +kernel) ⟨Nat.le_of_ble_eq_true rfl, Nat.le_of_ble_eq_true rfl⟩, hw2, hw3⟩ ⟨RO.blind, va_recv hK hP (ci := 7) (q0 := 0) rfl rfl, RO.pre hPc hK hNW⟩ rfl rfl hl.1 rfl (lv_room (Nat.le_of_ble_eq_true rfl)) dX8_fewestFrom_41 ⟨Nat.le_of_ble_eq_true rfl, Nat.le_of_ble_eq_true rfl⟩)) ?_
          refine lv_if_eq (tgt := 76) hx hb dX8_fewestFrom_44 (by decide) (fun c9 => ?_) (fun c9 => ?_)
          · have hf := it_t hf c9
            exact hfX8_fewestFrom_B76  M a2 a3 a4 hf _ (lv_sub hl [1, 2, 3, 4, 0] rfl) _ _ hP hD hS
          · have hf := it_f hf c9
            refine lv_aload_n hx hb dX8_fewestFrom_47 rfl (lv_at hl 1 rfl) ?_
            refine lv_iload_n hx hb dX8_fewestFrom_48 rfl (lv_at hl 3 rfl) ?_
            refine lv_aload_n hx hb dX8_fewestFrom_49 rfl (lv_at hl 2 rfl) ?_
            refine lv_iconst (v := (-1 : Int32)) hx hb dX8_fewestFrom_50 (by decide) ?_
            obtain ⟨r51, hc51, hf⟩ := bi_s hf
            have hPc := hP.sub (ws' := (wX7_lend cI cZ a M)) [0, 1, 2, 3, 4, 5] rfl
            have hDc := hD.sub (ws' := (wX7_lend cI cZ a M)) [0, 1, 2, 3, 4, 5] (by decide) rfl
            have hFc := va_free (wc := (wX7_lend cI cZ a M)) hD hS hA [0, 1, 2, 3, 4, 5] rfl
            refine va_callv (va_runVN (As := [.int a2, .ref (a 5), .int (-1 : Int32)]) (rest := []) ⟨hx, hb, hml, hown, hts⟩ (c_X7_lend l dC dI cI cZ a H.size M a2 (-1 : Int32) r51 hc51) ⟨va_cnB 3 hts gX8_fewestFrom_X7_lend_n458 rfl rfl rfl (nw65 hNW) hw1 (by decide +kernel) ⟨Nat.le_of_ble_eq_true rfl, Nat.le_of_ble_eq_true rfl⟩, hw4, hw5⟩ ⟨WR.blind, va_recv hK hP (ci := 7) (q0 := 0) rfl rfl, WR.pre hPc hK hDc hNW⟩ rfl rfl hl.1 rfl (lv_room (Nat.le_of_ble_eq_true rfl)) dX8_fewestFrom_51 ⟨Nat.le_of_ble_eq_true rfl, Nat.le_of_ble_eq_true rfl⟩) hS (fun q _ h => hFc q h) hFc (fun u t H1 locs ht hvm hw hB hz1 hk1 hS => ?_)
            obtain ⟨hP1, hD1⟩ := hB
            rw [ht] at hP1
            obtain ⟨hP, hD⟩ := va_join (wr := []) (w1 := (wX7_lend cI cZ a (sr M 5 (r51 5)))) hP hD [0, 1, 2, 3, 4, 5] [] rfl rfl (by decide) (by decide) hk1 hFc hP1 hD1
            have hP := hP.sub (ws' := (wX8_fewestFrom cI cZ a (sr M 5 (r51 5)))) [0, 1, 2, 3, 4, 5] rfl
            have hD := hD.sub (ws' := (wX8_fewestFrom cI cZ a (sr M 5 (r51 5)))) [0, 1, 2, 3, 4, 5] (by decide) rfl
            generalize H1 = H at hP hS ⊢
            refine lv_aload_n hx hb dX8_fewestFrom_54 rfl (lv_at hl 1 rfl) ?_
            refine lv_aload_n hx hb dX8_fewestFrom_55 rfl (lv_at hl 2 rfl) ?_
            refine lv_iload_n hx hb dX8_fewestFrom_56 rfl (lv_at hl 3 rfl) ?_
            refine lv_iconst (v := (1 : Int32)) hx hb dX8_fewestFrom_57 (by decide) ?_
            refine lv_iadd hx hb dX8_fewestFrom_58 ?_
            refine lv_iload_n hx hb dX8_fewestFrom_59 rfl (lv_at hl 4 rfl) ?_
            refine lv_iconst (v := (1 : Int32)) hx hb dX8_fewestFrom_60 (by decide) ?_
            refine lv_iadd hx hb dX8_fewestFrom_61 ?_
            refine lv_iload hx hb dX8_fewestFrom_62 (lv_at hl 0 rfl) ?_
            obtain ⟨r64, hc64, hf⟩ := bi_s hf
            have hPc := hP
            have hDc := hD
            have hFc := va_free (wc := (wX8_fewestFrom cI cZ a (sr M 5 (r51 5)))) hD hS hA [0, 1, 2, 3, 4, 5] rfl
            refine va_calli (va_runS (As := [.ref (a 0), .ref (a 5), .int (a2 + (1 : Int32)), .int (a3 + (1 : Int32)), .int a4]) (rest := []) ⟨hx, hb, hml, hown, hts⟩ (c_X8_fewestFrom_0 l dC dI cI cZ a H.size (sr M 5 (r51 5)) (a2 + (1 : Int32)) (a3 + (1 : Int32)) a4 r64 hc64) (va_cwS 5 hts gX8_fewestFrom_X8_fewestFrom rfl rfl rfl (by decide +kernel) ⟨Nat.le_of_ble_eq_true rfl, Nat.le_of_ble_eq_true rfl⟩) ⟨WR.blind, WR.pre hPc hK hDc hNW⟩ rfl rfl hl.1 rfl (lv_room (Nat.le_of_ble_eq_true rfl)) dX8_fewestFrom_64 ⟨Nat.le_of_ble_eq_true rfl, Nat.le_of_ble_eq_true rfl⟩) hS (fun q _ h => hFc q h) hFc (fun rv u t H1 locs ht hvm hw hB hz1 hk1 hS => ?_)
            obtain ⟨hP1, hD1⟩ := hB
            rw [ht] at hP1
            subst hw
            have hP := hP1
            have hD := hD1.weaken (fun k q _ h => hFc q.1 h)
            have hP : va_P (dC, dI) vwCl (wX8_fewestFrom cI cZ a (sr M 5 (r64.2 5))) H1 := hP
            have hD : va_D A (wX8_fewestFrom cI cZ a (sr M 5 (r64.2 5))) := hD
            generalize H1 = H at hP hS ⊢
            refine lv_istore (lv' := [(5, .int r64.1), (0, .ref (a 0)), (1, .ref (a 5)), (2, .int a2), (3, .int a3), (4, .int a4)]) hx hb dX8_fewestFrom_67 hl (by decide) rfl (fun ls hl => ?_)
            refine lv_aload_n hx hb dX8_fewestFrom_69 rfl (lv_at hl 1 rfl) ?_
            refine lv_iload_n hx hb dX8_fewestFrom_70 rfl (lv_at hl 3 rfl) ?_
            refine lv_aload_n hx hb dX8_fewestFrom_71 rfl (lv_at hl 2 rfl) ?_
            refine lv_iconst (v := (1 : Int32)) hx hb dX8_fewestFrom_72 (by decide) ?_
            obtain ⟨r73, hc73, hf⟩ := bi_s hf
            have hPc := hP.sub (ws' := (wX7_lend cI cZ a (sr M 5 (r64.2 5)))) [0, 1, 2, 3, 4, 5] rfl
            have hDc := hD.sub (ws' := (wX7_lend cI cZ a (sr M 5 (r64.2 5)))) [0, 1, 2, 3, 4, 5] (by decide) rfl
            have hFc := va_free (wc := (wX7_lend cI cZ a (sr M 5 (r64.2 5)))) hD hS hA [0, 1, 2, 3, 4, 5] rfl
            refine va_callv (va_runVN (As := [.int a2, .ref (a 5), .int (1 : Int32)]) (rest := []) ⟨hx, hb, hml, hown, hts⟩ (c_X7_lend l dC dI cI cZ a H.size (sr M 5 (r64.2 5)) a2 (1 : Int32) r73 hc73) ⟨va_cnB 3 hts gX8_fewestFrom_X7_lend_n458 rfl rfl rfl (nw65 hNW) hw1 (by decide +kernel) ⟨Nat.le_of_ble_eq_true rfl, Nat.le_of_ble_eq_true rfl⟩, hw4, hw5⟩ ⟨WR.blind, va_recv hK hP (ci := 7) (q0 := 0) rfl rfl, WR.pre hPc hK hDc hNW⟩ rfl rfl hl.1 rfl (lv_room (Nat.le_of_ble_eq_true rfl)) dX8_fewestFrom_73 ⟨Nat.le_of_ble_eq_true rfl, Nat.le_of_ble_eq_true rfl⟩) hS (fun q _ h => hFc q h) hFc (fun u t H1 locs ht hvm hw hB hz1 hk1 hS => ?_)
            obtain ⟨hP1, hD1⟩ := hB
            rw [ht] at hP1
            obtain ⟨hP, hD⟩ := va_join (wr := []) (w1 := (wX7_lend cI cZ a (sr (sr M 5 (r64.2 5)) 5 (r73 5)))) hP hD [0, 1, 2, 3, 4, 5] [] rfl rfl (by decide) (by decide) hk1 hFc hP1 hD1
            have hP := hP.sub (ws' := (wX8_fewestFrom cI cZ a (sr M 5 (r73 5)))) [0, 1, 2, 3, 4, 5] rfl
            have hD := hD.sub (ws' := (wX8_fewestFrom cI cZ a (sr M 5 (r73 5)))) [0, 1, 2, 3, 4, 5] (by decide) rfl
            generalize H1 = H at hP hS ⊢
            exact hfX8_fewestFrom_B76  (sr M 5 (r73 5)) a2 a3 r64.1 hf _ (lv_sub hl [1, 2, 3, 4, 0] rfl) _ _ hP hD hS
        · have hf := it_f hf c9
          exact hfX8_fewestFrom_B31  M a4 hf _ (lv_sub hl [4] rfl) _ _ hP hD hS
  · have hf := it_n hf c9
    refine lv_iload_n hx hb dX8_fewestFrom_7 rfl (lv_at hl 3 rfl) ?_
    have e9 := so_e hf
    subst e9
    exact W.iret (v := a3) hx hb hr (fun t ht hW => ⟨⟨a3, (), rfl, rfl, WE.mk hP hD ht⟩, hS.F ht⟩) hS.2.2 dX8_fewestFrom_8
set_option maxHeartbeats 4000000 in
set_option maxRecDepth 100000 in
theorem c_X8_fewestFrom_2 (l : Launch) (dC : Nat → ClassId) (dI : Nat → Nat → Nat) (cI cZ : ClassId) (a : Nat → Nat) (sz : Nat) (M : Mem) (a2 : Int32) (a3 : Int32) (a4 : Int32) (z : Int32 × Mem) (hf : fX8_fewestFrom (1 + 1) M a2 a3 a4 = some z) : Met l yX8_fewestFrom wsX8_fewestFrom ({ frames := 6, cells := 0, slots := 0, locals := 145 } : Room) (va_Pc [.ref (a 0), .ref (a 5), .int a2, .int a3, .int a4] (WR (dC, dI) cI cZ (wX8_fewestFrom cI cZ a M) sz)) (va_Qi (S := Unit) (fun r _ => r = z.1) (fun _ t => WE (dC, dI) cI cZ (wX8_fewestFrom cI cZ a (sr M 5 (z.2 5))) (va_A (wX8_fewestFrom cI cZ a M) sz) t) (va_A (wX8_fewestFrom cI cZ a M) sz)) 0 0 (va_A (wX8_fewestFrom cI cZ a M) sz) := by
  refine Met.ofW (cc := cX8_fewestFrom) (maxL := 6) (ret := (some .int)) (by decide) rfl ?_
  intro p e s m args below meth c s₁ B hml hv
  obtain ⟨rfl, hsz, hP, hK, hD0, hNW⟩ := hv
  have hx := B.exec
  have hb := B.bytes
  have hr := B.returns
  have hts := atoms_spec (ws := wsX8_fewestFrom) B.pre
  have hown : s.vm.findClass RX8 = some m.cls := findClass_of_methodNamed B.named
  have hlocks := B.notSynchronized
  have hinX7 : ∀ w ∈ u_ws RX7 TX7 6, w ∈ wsX8_fewestFrom := by decide +kernel
  have hw1 := hts (.initialized RX7) (by decide +kernel)
  have hw2 := hts (.instanceMethod yX7_helps) (by decide +kernel)
  have hw3 := hts (.selects RX7 yX7_helps yX7_helps) (by decide +kernel)
  have hw4 := hts (.instanceMethod yX7_lend) (by decide +kernel)
  have hw5 := hts (.selects RX7 yX7_lend yX7_lend) (by decide +kernel)
  subst hsz
  have hD := hD0.self (sz := s.heap.size)
  generalize hAe : va_A (wX8_fewestFrom cI cZ a M) s.heap.size = A at hD ⊢
  have hA : ∀ q : Nat, s.heap.size ≤ q → A q := fun q h => by rw [← hAe]; exact Or.inr h
  have hS : va_S A s.heap s.heap [] := va_S.rf
  have hfX8_fewestFrom_B31 : ∀ (N : Mem) (l4 : Int32), fX8_fewestFrom_B31 M  N l4 = some z → ∀ (ls : Array Slot), lv_has ls 6 [(4, .int l4)] → ∀ (H : Heap) (locs : List Loc), va_P (dC, dI) vwCl (wX8_fewestFrom cI cZ a (sr M 5 (N 5))) H → va_D A (wX8_fewestFrom cI cZ a (sr M 5 (N 5))) → va_S A s.heap H locs → W p l e (headSpec wsX8_fewestFrom ({ frames := 6, cells := 0, slots := 0, locals := 145 } : Room)).room s m ([.ref (a 0), .ref (a 5), .int a2, .int a3, .int a4] : List Value).toArray below meth c H locs 0 0 (MQ below (va_Qi (S := Unit) (fun r _ => r = z.1) (fun _ t => WE (dC, dI) cI cZ (wX8_fewestFrom cI cZ a (sr M 5 (z.2 5))) A t) A) ([.ref (a 0), .ref (a 5), .int a2, .int a3, .int a4] : List Value).toArray s 0 0 A) (F0 m 31 ls []) := by
    intro  N l4 hf ls hl H locs hP hD hS
    unfold fX8_fewestFrom_B31 at hf
    refine lv_iload hx hb dX8_fewestFrom_31 (lv_at hl 0 rfl) ?_
    have e9 := so_e hf
    subst e9
    exact W.iret (v := l4) hx hb hr (fun t ht hW => ⟨⟨l4, (), rfl, rfl, WE.mk hP hD ht⟩, hS.F ht⟩) hS.2.2 dX8_fewestFrom_33
  have hfX8_fewestFrom_B76 : ∀ (N : Mem) (l2 : Int32) (l3 : Int32) (l5 : Int32), fX8_fewestFrom_B76 (fX8_fewestFrom 1) M  N l2 l3 l5 = some z → ∀ (ls : Array Slot), lv_has ls 6 [(0, .ref (a 0)), (1, .ref (a 5)), (2, .int l2), (3, .int l3), (5, .int l5)] → ∀ (H : Heap) (locs : List Loc), va_P (dC, dI) vwCl (wX8_fewestFrom cI cZ a (sr M 5 (N 5))) H → va_D A (wX8_fewestFrom cI cZ a (sr M 5 (N 5))) → va_S A s.heap H locs → W p l e (headSpec wsX8_fewestFrom ({ frames := 6, cells := 0, slots := 0, locals := 145 } : Room)).room s m ([.ref (a 0), .ref (a 5), .int a2, .int a3, .int a4] : List Value).toArray below meth c H locs 0 0 (MQ below (va_Qi (S := Unit) (fun r _ => r = z.1) (fun _ t => WE (dC, dI) cI cZ (wX8_fewestFrom cI cZ a (sr M 5 (z.2 5))) A t) A) ([.ref (a 0), .ref (a 5), .int a2, .int a3, .int a4] : List Value).toArray s 0 0 A) (F0 m 76 ls []) := by
    intro  N l2 l3 l5 hf ls hl H locs hP hD hS
    unfold fX8_fewestFrom_B76 at hf
    refine lv_aload_n hx hb dX8_fewestFrom_76 rfl (lv_at hl 0 rfl) ?_
    refine lv_aload_n hx hb dX8_fewestFrom_77 rfl (lv_at hl 1 rfl) ?_
    refine lv_iload_n hx hb dX8_fewestFrom_78 rfl (lv_at hl 2 rfl) ?_
    refine lv_iconst (v := (1 : Int32)) hx hb dX8_fewestFrom_79 (by decide) ?_
    refine lv_iadd hx hb dX8_fewestFrom_80 ?_
    refine lv_iload_n hx hb dX8_fewestFrom_81 rfl (lv_at hl 3 rfl) ?_
    refine lv_iload hx hb dX8_fewestFrom_82 (lv_at hl 4 rfl) ?_
    obtain ⟨r84, hc84, hf⟩ := bi_s hf
    have hPc := hP
    have hDc := hD
    have hFc := va_free (wc := (wX8_fewestFrom cI cZ a (sr M 5 (N 5)))) hD hS hA [0, 1, 2, 3, 4, 5] rfl
    refine va_calli (va_runS (As := [.ref (a 0), .ref (a 5), .int (l2 + (1 : Int32)), .int l3, .int l5]) (rest := []) ⟨hx, hb, hml, hown, hts⟩ (c_X8_fewestFrom_1 l dC dI cI cZ a H.size (sr M 5 (N 5)) (l2 + (1 : Int32)) l3 l5 r84 hc84) (va_cwS 5 hts gX8_fewestFrom_X8_fewestFrom rfl rfl rfl (by decide +kernel) ⟨Nat.le_of_ble_eq_true rfl, Nat.le_of_ble_eq_true rfl⟩) ⟨WR.blind, WR.pre hPc hK hDc hNW⟩ rfl rfl hl.1 rfl (lv_room (Nat.le_of_ble_eq_true rfl)) dX8_fewestFrom_84 ⟨Nat.le_of_ble_eq_true rfl, Nat.le_of_ble_eq_true rfl⟩) hS (fun q _ h => hFc q h) hFc (fun rv u t H1 locs ht hvm hw hB hz1 hk1 hS => ?_)
    obtain ⟨hP1, hD1⟩ := hB
    rw [ht] at hP1
    subst hw
    have hP := hP1
    have hD := hD1.weaken (fun k q _ h => hFc q.1 h)
    have hP : va_P (dC, dI) vwCl (wX8_fewestFrom cI cZ a (sr M 5 (r84.2 5))) H1 := hP
    have hD : va_D A (wX8_fewestFrom cI cZ a (sr M 5 (r84.2 5))) := hD
    generalize H1 = H at hP hS ⊢
    have e9 := so_e hf
    subst e9
    exact W.iret (v := r84.1) hx hb hr (fun t ht hW => ⟨⟨r84.1, (), rfl, rfl, WE.mk hP hD ht⟩, hS.F ht⟩) hS.2.2 dX8_fewestFrom_87
  have hl := lv_entry ([.ref (a 0), .ref (a 5), .int a2, .int a3, .int a4]) (n := 6) (Nat.le_of_ble_eq_true rfl)
  rw [lg_entry_eq]
  generalize (lg_sl ([.ref (a 0), .ref (a 5), .int a2, .int a3, .int a4]) ++ List.replicate (6 - (lg_sl ([.ref (a 0), .ref (a 5), .int a2, .int a3, .int a4])).length) Slot.unset).toArray = ls at hl ⊢
  have hl : lv_has ls 6 [(0, .ref (a 0)), (1, .ref (a 5)), (2, .int a2), (3, .int a3), (4, .int a4)] := hl
  rw [fX8_fewestFrom] at hf
  suffices hgo : ∀ (H : Heap) (locs : List Loc), va_P (dC, dI) vwCl (wX8_fewestFrom cI cZ a M) H → va_D A (wX8_fewestFrom cI cZ a M) → va_S A s.heap H locs → W p l e (headSpec wsX8_fewestFrom ({ frames := 6, cells := 0, slots := 0, locals := 145 } : Room)).room s m ([.ref (a 0), .ref (a 5), .int a2, .int a3, .int a4] : List Value).toArray below meth c H locs 0 0 (MQ below (va_Qi (S := Unit) (fun r _ => r = z.1) (fun _ t => WE (dC, dI) cI cZ (wX8_fewestFrom cI cZ a (sr M 5 (z.2 5))) A t) A) ([.ref (a 0), .ref (a 5), .int a2, .int a3, .int a4] : List Value).toArray s 0 0 A) (F0 m 0 ls []) from hgo _ _ hP hD hS
  intro H locs hP hD hS
  refine lv_aload_n hx hb dX8_fewestFrom_0 rfl (lv_at hl 1 rfl) ?_
  obtain ⟨r1, hc1, hf⟩ := bi_s hf
  have hPc := hP.sub (ws' := (wX8_isLacking cI cZ (ofs 5 a) (ofs 5 M))) [5] rfl
  refine cRO (W.runS (As := [.ref (a 5)]) (rest := []) ⟨hx, hb, hml, hown, hts⟩ (c_X8_isLacking l dC dI cI cZ (ofs 5 a) (ofs 5 M) r1 hc1) (va_cwS 1 hts gX8_fewestFrom_X8_isLacking rfl rfl rfl (by decide +kernel) ⟨Nat.le_of_ble_eq_true rfl, Nat.le_of_ble_eq_true rfl⟩) ⟨RO.blind, RO.pre hPc hK hNW⟩ rfl rfl hl.1 rfl (lv_room (Nat.le_of_ble_eq_true rfl)) dX8_fewestFrom_1 ⟨Nat.le_of_ble_eq_true rfl, Nat.le_of_ble_eq_true rfl⟩) ?_
  refine lv_if_ne (tgt := 9) hx hb dX8_fewestFrom_4 (by decide) (fun c9 => ?_) (fun c9 => ?_)
  · have hf := it_t hf c9
    refine lv_iload_n hx hb dX8_fewestFrom_9 rfl (lv_at hl 2 rfl) ?_
    refine lv_aload_n hx hb dX8_fewestFrom_10 rfl (lv_at hl 0 rfl) ?_
    refine va_getN (D := (dC, dI)) (ci := 7) (v := .int (M 0 0)) (C := RX7) (T := TX7) (N := 6) hx hb hts hinX7 hown hK hP 0 rfl rfl 0 (by decide) (nw24 hNW) (fun _ h9 => h9) rfl dX8_fewestFrom_11 ?_
    refine lv_icmp_ge (tgt := 31) hx hb dX8_fewestFrom_14 (by decide) (fun c9 => ?_) (fun c9 => ?_)
    · have hf := it_t hf c9
      exact hfX8_fewestFrom_B31  M a4 hf _ (lv_sub hl [4] rfl) _ _ hP hD hS
    · have hf := it_f hf c9
      refine lv_iload_n hx hb dX8_fewestFrom_17 rfl (lv_at hl 2 rfl) ?_
      refine lv_bipush (v := (12 : Int32)) hx hb dX8_fewestFrom_18 (by decide) ?_
      refine lv_icmp_ge (tgt := 31) hx hb dX8_fewestFrom_20 (by decide) (fun c9 => ?_) (fun c9 => ?_)
      · have hf := it_t hf c9
        exact hfX8_fewestFrom_B31  M a4 hf _ (lv_sub hl [4] rfl) _ _ hP hD hS
      · have hf := it_f hf c9
        refine lv_iload_n hx hb dX8_fewestFrom_23 rfl (lv_at hl 3 rfl) ?_
        refine lv_iconst (v := (1 : Int32)) hx hb dX8_fewestFrom_24 (by decide) ?_
        refine lv_iadd hx hb dX8_fewestFrom_25 ?_
        refine lv_iload hx hb dX8_fewestFrom_26 (lv_at hl 4 rfl) ?_
        refine lv_icmp_lt (tgt := 34) hx hb dX8_fewestFrom_28 (by decide) (fun c9 => ?_) (fun c9 => ?_)
        · have hf := it_t hf c9
          refine lv_iload hx hb dX8_fewestFrom_34 (lv_at hl 4 rfl) ?_
          refine lv_istore (lv' := [(5, .int a4), (0, .ref (a 0)), (1, .ref (a 5)), (2, .int a2), (3, .int a3), (4, .int a4)]) hx hb dX8_fewestFrom_36 hl (by decide) rfl (fun ls hl => ?_)
          refine lv_aload_n hx hb dX8_fewestFrom_38 rfl (lv_at hl 1 rfl) ?_
          refine lv_iload_n hx hb dX8_fewestFrom_39 rfl (lv_at hl 3 rfl) ?_
          refine lv_aload_n hx hb dX8_fewestFrom_40 rfl (lv_at hl 2 rfl) ?_
          obtain ⟨r41, hc41, hf⟩ := bi_s hf
          have hPc := hP.sub (ws' := (wX7_helps cI cZ a M)) [0, 1, 2, 3, 4, 5] rfl
          refine cRO (va_Run.run (va_runVN (As := [.int a2, .ref (a 5)]) (rest := []) ⟨hx, hb, hml, hown, hts⟩ (c_X7_helps l dC dI cI cZ a M a2 r41 hc41) ⟨va_cnB 2 hts gX8_fewestFrom_X7_helps_n454 rfl rfl rfl (nw64 hNW) hw1 (by decide +kernel) ⟨Nat.le_of_ble_eq_true rfl, Nat.le_of_ble_eq_true rfl⟩, hw2, hw3⟩ ⟨RO.blind, va_recv hK hP (ci := 7) (q0 := 0) rfl rfl, RO.pre hPc hK hNW⟩ rfl rfl hl.1 rfl (lv_room (Nat.le_of_ble_eq_true rfl)) dX8_fewestFrom_41 ⟨Nat.le_of_ble_eq_true rfl, Nat.le_of_ble_eq_true rfl⟩)) ?_
          refine lv_if_eq (tgt := 76) hx hb dX8_fewestFrom_44 (by decide) (fun c9 => ?_) (fun c9 => ?_)
          · have hf := it_t hf c9
            exact hfX8_fewestFrom_B76  M a2 a3 a4 hf _ (lv_sub hl [1, 2, 3, 4, 0] rfl) _ _ hP hD hS
          · have hf := it_f hf c9
            refine lv_aload_n hx hb dX8_fewestFrom_47 rfl (lv_at hl 1 rfl) ?_
            refine lv_iload_n hx hb dX8_fewestFrom_48 rfl (lv_at hl 3 rfl) ?_
            refine lv_aload_n hx hb dX8_fewestFrom_49 rfl (lv_at hl 2 rfl) ?_
            refine lv_iconst (v := (-1 : Int32)) hx hb dX8_fewestFrom_50 (by decide) ?_
            obtain ⟨r51, hc51, hf⟩ := bi_s hf
            have hPc := hP.sub (ws' := (wX7_lend cI cZ a M)) [0, 1, 2, 3, 4, 5] rfl
            have hDc := hD.sub (ws' := (wX7_lend cI cZ a M)) [0, 1, 2, 3, 4, 5] (by decide) rfl
            have hFc := va_free (wc := (wX7_lend cI cZ a M)) hD hS hA [0, 1, 2, 3, 4, 5] rfl
            refine va_callv (va_runVN (As := [.int a2, .ref (a 5), .int (-1 : Int32)]) (rest := []) ⟨hx, hb, hml, hown, hts⟩ (c_X7_lend l dC dI cI cZ a H.size M a2 (-1 : Int32) r51 hc51) ⟨va_cnB 3 hts gX8_fewestFrom_X7_lend_n458 rfl rfl rfl (nw65 hNW) hw1 (by decide +kernel) ⟨Nat.le_of_ble_eq_true rfl, Nat.le_of_ble_eq_true rfl⟩, hw4, hw5⟩ ⟨WR.blind, va_recv hK hP (ci := 7) (q0 := 0) rfl rfl, WR.pre hPc hK hDc hNW⟩ rfl rfl hl.1 rfl (lv_room (Nat.le_of_ble_eq_true rfl)) dX8_fewestFrom_51 ⟨Nat.le_of_ble_eq_true rfl, Nat.le_of_ble_eq_true rfl⟩) hS (fun q _ h => hFc q h) hFc (fun u t H1 locs ht hvm hw hB hz1 hk1 hS => ?_)
            obtain ⟨hP1, hD1⟩ := hB
            rw [ht] at hP1
            obtain ⟨hP, hD⟩ := va_join (wr := []) (w1 := (wX7_lend cI cZ a (sr M 5 (r51 5)))) hP hD [0, 1, 2, 3, 4, 5] [] rfl rfl (by decide) (by decide) hk1 hFc hP1 hD1
            have hP := hP.sub (ws' := (wX8_fewestFrom cI cZ a (sr M 5 (r51 5)))) [0, 1, 2, 3, 4, 5] rfl
            have hD := hD.sub (ws' := (wX8_fewestFrom cI cZ a (sr M 5 (r51 5)))) [0, 1, 2, 3, 4, 5] (by decide) rfl
            generalize H1 = H at hP hS ⊢
            refine lv_aload_n hx hb dX8_fewestFrom_54 rfl (lv_at hl 1 rfl) ?_
            refine lv_aload_n hx hb dX8_fewestFrom_55 rfl (lv_at hl 2 rfl) ?_
            refine lv_iload_n hx hb dX8_fewestFrom_56 rfl (lv_at hl 3 rfl) ?_
            refine lv_iconst (v := (1 : Int32)) hx hb dX8_fewestFrom_57 (by decide) ?_
            refine lv_iadd hx hb dX8_fewestFrom_58 ?_
            refine lv_iload_n hx hb dX8_fewestFrom_59 rfl (lv_at hl 4 rfl) ?_
            refine lv_iconst (v := (1 : Int32)) hx hb dX8_fewestFrom_60 (by decide) ?_
            refine lv_iadd hx hb dX8_fewestFrom_61 ?_
            refine lv_iload hx hb dX8_fewestFrom_62 (lv_at hl 0 rfl) ?_
            obtain ⟨r64, hc64, hf⟩ := bi_s hf
            have hPc := hP
            have hDc := hD
            have hFc := va_free (wc := (wX8_fewestFrom cI cZ a (sr M 5 (r51 5)))) hD hS hA [0, 1, 2, 3, 4, 5] rfl
            refine va_calli (va_runS (As := [.ref (a 0), .ref (a 5), .int (a2 + (1 : Int32)), .int (a3 + (1 : Int32)), .int a4]) (rest := []) ⟨hx, hb, hml, hown, hts⟩ (c_X8_fewestFrom_1 l dC dI cI cZ a H.size (sr M 5 (r51 5)) (a2 + (1 : Int32)) (a3 + (1 : Int32)) a4 r64 hc64) (va_cwS 5 hts gX8_fewestFrom_X8_fewestFrom rfl rfl rfl (by decide +kernel) ⟨Nat.le_of_ble_eq_true rfl, Nat.le_of_ble_eq_true rfl⟩) ⟨WR.blind, WR.pre hPc hK hDc hNW⟩ rfl rfl hl.1 rfl (lv_room (Nat.le_of_ble_eq_true rfl)) dX8_fewestFrom_64 ⟨Nat.le_of_ble_eq_true rfl, Nat.le_of_ble_eq_true rfl⟩) hS (fun q _ h => hFc q h) hFc (fun rv u t H1 locs ht hvm hw hB hz1 hk1 hS => ?_)
            obtain ⟨hP1, hD1⟩ := hB
            rw [ht] at hP1
            subst hw
            have hP := hP1
            have hD := hD1.weaken (fun k q _ h => hFc q.1 h)
            have hP : va_P (dC, dI) vwCl (wX8_fewestFrom cI cZ a (sr M 5 (r64.2 5))) H1 := hP
            have hD : va_D A (wX8_fewestFrom cI cZ a (sr M 5 (r64.2 5))) := hD
            generalize H1 = H at hP hS ⊢
            refine lv_istore (lv' := [(5, .int r64.1), (0, .ref (a 0)), (1, .ref (a 5)), (2, .int a2), (3, .int a3), (4, .int a4)]) hx hb dX8_fewestFrom_67 hl (by decide) rfl (fun ls hl => ?_)
            refine lv_aload_n hx hb dX8_fewestFrom_69 rfl (lv_at hl 1 rfl) ?_
            refine lv_iload_n hx hb dX8_fewestFrom_70 rfl (lv_at hl 3 rfl) ?_
            refine lv_aload_n hx hb dX8_fewestFrom_71 rfl (lv_at hl 2 rfl) ?_
            refine lv_iconst (v := (1 : Int32)) hx hb dX8_fewestFrom_72 (by decide) ?_
            obtain ⟨r73, hc73, hf⟩ := bi_s hf
            have hPc := hP.sub (ws' := (wX7_lend cI cZ a (sr M 5 (r64.2 5)))) [0, 1, 2, 3, 4, 5] rfl
            have hDc := hD.sub (ws' := (wX7_lend cI cZ a (sr M 5 (r64.2 5)))) [0, 1, 2, 3, 4, 5] (by decide) rfl
            have hFc := va_free (wc := (wX7_lend cI cZ a (sr M 5 (r64.2 5)))) hD hS hA [0, 1, 2, 3, 4, 5] rfl
            refine va_callv (va_runVN (As := [.int a2, .ref (a 5), .int (1 : Int32)]) (rest := []) ⟨hx, hb, hml, hown, hts⟩ (c_X7_lend l dC dI cI cZ a H.size (sr M 5 (r64.2 5)) a2 (1 : Int32) r73 hc73) ⟨va_cnB 3 hts gX8_fewestFrom_X7_lend_n458 rfl rfl rfl (nw65 hNW) hw1 (by decide +kernel) ⟨Nat.le_of_ble_eq_true rfl, Nat.le_of_ble_eq_true rfl⟩, hw4, hw5⟩ ⟨WR.blind, va_recv hK hP (ci := 7) (q0 := 0) rfl rfl, WR.pre hPc hK hDc hNW⟩ rfl rfl hl.1 rfl (lv_room (Nat.le_of_ble_eq_true rfl)) dX8_fewestFrom_73 ⟨Nat.le_of_ble_eq_true rfl, Nat.le_of_ble_eq_true rfl⟩) hS (fun q _ h => hFc q h) hFc (fun u t H1 locs ht hvm hw hB hz1 hk1 hS => ?_)
            obtain ⟨hP1, hD1⟩ := hB
            rw [ht] at hP1
            obtain ⟨hP, hD⟩ := va_join (wr := []) (w1 := (wX7_lend cI cZ a (sr (sr M 5 (r64.2 5)) 5 (r73 5)))) hP hD [0, 1, 2, 3, 4, 5] [] rfl rfl (by decide) (by decide) hk1 hFc hP1 hD1
            have hP := hP.sub (ws' := (wX8_fewestFrom cI cZ a (sr M 5 (r73 5)))) [0, 1, 2, 3, 4, 5] rfl
            have hD := hD.sub (ws' := (wX8_fewestFrom cI cZ a (sr M 5 (r73 5)))) [0, 1, 2, 3, 4, 5] (by decide) rfl
            generalize H1 = H at hP hS ⊢
            exact hfX8_fewestFrom_B76  (sr M 5 (r73 5)) a2 a3 r64.1 hf _ (lv_sub hl [1, 2, 3, 4, 0] rfl) _ _ hP hD hS
        · have hf := it_f hf c9
          exact hfX8_fewestFrom_B31  M a4 hf _ (lv_sub hl [4] rfl) _ _ hP hD hS
  · have hf := it_n hf c9
    refine lv_iload_n hx hb dX8_fewestFrom_7 rfl (lv_at hl 3 rfl) ?_
    have e9 := so_e hf
    subst e9
    exact W.iret (v := a3) hx hb hr (fun t ht hW => ⟨⟨a3, (), rfl, rfl, WE.mk hP hD ht⟩, hS.F ht⟩) hS.2.2 dX8_fewestFrom_8
set_option maxHeartbeats 4000000 in
set_option maxRecDepth 100000 in
theorem c_X8_fewestFrom_3 (l : Launch) (dC : Nat → ClassId) (dI : Nat → Nat → Nat) (cI cZ : ClassId) (a : Nat → Nat) (sz : Nat) (M : Mem) (a2 : Int32) (a3 : Int32) (a4 : Int32) (z : Int32 × Mem) (hf : fX8_fewestFrom (2 + 1) M a2 a3 a4 = some z) : Met l yX8_fewestFrom wsX8_fewestFrom ({ frames := 7, cells := 0, slots := 0, locals := 170 } : Room) (va_Pc [.ref (a 0), .ref (a 5), .int a2, .int a3, .int a4] (WR (dC, dI) cI cZ (wX8_fewestFrom cI cZ a M) sz)) (va_Qi (S := Unit) (fun r _ => r = z.1) (fun _ t => WE (dC, dI) cI cZ (wX8_fewestFrom cI cZ a (sr M 5 (z.2 5))) (va_A (wX8_fewestFrom cI cZ a M) sz) t) (va_A (wX8_fewestFrom cI cZ a M) sz)) 0 0 (va_A (wX8_fewestFrom cI cZ a M) sz) := by
  refine Met.ofW (cc := cX8_fewestFrom) (maxL := 6) (ret := (some .int)) (by decide) rfl ?_
  intro p e s m args below meth c s₁ B hml hv
  obtain ⟨rfl, hsz, hP, hK, hD0, hNW⟩ := hv
  have hx := B.exec
  have hb := B.bytes
  have hr := B.returns
  have hts := atoms_spec (ws := wsX8_fewestFrom) B.pre
  have hown : s.vm.findClass RX8 = some m.cls := findClass_of_methodNamed B.named
  have hlocks := B.notSynchronized
  have hinX7 : ∀ w ∈ u_ws RX7 TX7 6, w ∈ wsX8_fewestFrom := by decide +kernel
  have hw1 := hts (.initialized RX7) (by decide +kernel)
  have hw2 := hts (.instanceMethod yX7_helps) (by decide +kernel)
  have hw3 := hts (.selects RX7 yX7_helps yX7_helps) (by decide +kernel)
  have hw4 := hts (.instanceMethod yX7_lend) (by decide +kernel)
  have hw5 := hts (.selects RX7 yX7_lend yX7_lend) (by decide +kernel)
  subst hsz
  have hD := hD0.self (sz := s.heap.size)
  generalize hAe : va_A (wX8_fewestFrom cI cZ a M) s.heap.size = A at hD ⊢
  have hA : ∀ q : Nat, s.heap.size ≤ q → A q := fun q h => by rw [← hAe]; exact Or.inr h
  have hS : va_S A s.heap s.heap [] := va_S.rf
  have hfX8_fewestFrom_B31 : ∀ (N : Mem) (l4 : Int32), fX8_fewestFrom_B31 M  N l4 = some z → ∀ (ls : Array Slot), lv_has ls 6 [(4, .int l4)] → ∀ (H : Heap) (locs : List Loc), va_P (dC, dI) vwCl (wX8_fewestFrom cI cZ a (sr M 5 (N 5))) H → va_D A (wX8_fewestFrom cI cZ a (sr M 5 (N 5))) → va_S A s.heap H locs → W p l e (headSpec wsX8_fewestFrom ({ frames := 7, cells := 0, slots := 0, locals := 170 } : Room)).room s m ([.ref (a 0), .ref (a 5), .int a2, .int a3, .int a4] : List Value).toArray below meth c H locs 0 0 (MQ below (va_Qi (S := Unit) (fun r _ => r = z.1) (fun _ t => WE (dC, dI) cI cZ (wX8_fewestFrom cI cZ a (sr M 5 (z.2 5))) A t) A) ([.ref (a 0), .ref (a 5), .int a2, .int a3, .int a4] : List Value).toArray s 0 0 A) (F0 m 31 ls []) := by
    intro  N l4 hf ls hl H locs hP hD hS
    unfold fX8_fewestFrom_B31 at hf
    refine lv_iload hx hb dX8_fewestFrom_31 (lv_at hl 0 rfl) ?_
    have e9 := so_e hf
    subst e9
    exact W.iret (v := l4) hx hb hr (fun t ht hW => ⟨⟨l4, (), rfl, rfl, WE.mk hP hD ht⟩, hS.F ht⟩) hS.2.2 dX8_fewestFrom_33
  have hfX8_fewestFrom_B76 : ∀ (N : Mem) (l2 : Int32) (l3 : Int32) (l5 : Int32), fX8_fewestFrom_B76 (fX8_fewestFrom 2) M  N l2 l3 l5 = some z → ∀ (ls : Array Slot), lv_has ls 6 [(0, .ref (a 0)), (1, .ref (a 5)), (2, .int l2), (3, .int l3), (5, .int l5)] → ∀ (H : Heap) (locs : List Loc), va_P (dC, dI) vwCl (wX8_fewestFrom cI cZ a (sr M 5 (N 5))) H → va_D A (wX8_fewestFrom cI cZ a (sr M 5 (N 5))) → va_S A s.heap H locs → W p l e (headSpec wsX8_fewestFrom ({ frames := 7, cells := 0, slots := 0, locals := 170 } : Room)).room s m ([.ref (a 0), .ref (a 5), .int a2, .int a3, .int a4] : List Value).toArray below meth c H locs 0 0 (MQ below (va_Qi (S := Unit) (fun r _ => r = z.1) (fun _ t => WE (dC, dI) cI cZ (wX8_fewestFrom cI cZ a (sr M 5 (z.2 5))) A t) A) ([.ref (a 0), .ref (a 5), .int a2, .int a3, .int a4] : List Value).toArray s 0 0 A) (F0 m 76 ls []) := by
    intro  N l2 l3 l5 hf ls hl H locs hP hD hS
    unfold fX8_fewestFrom_B76 at hf
    refine lv_aload_n hx hb dX8_fewestFrom_76 rfl (lv_at hl 0 rfl) ?_
    refine lv_aload_n hx hb dX8_fewestFrom_77 rfl (lv_at hl 1 rfl) ?_
    refine lv_iload_n hx hb dX8_fewestFrom_78 rfl (lv_at hl 2 rfl) ?_
    refine lv_iconst (v := (1 : Int32)) hx hb dX8_fewestFrom_79 (by decide) ?_
    refine lv_iadd hx hb dX8_fewestFrom_80 ?_
    refine lv_iload_n hx hb dX8_fewestFrom_81 rfl (lv_at hl 3 rfl) ?_
    refine lv_iload hx hb dX8_fewestFrom_82 (lv_at hl 4 rfl) ?_
    obtain ⟨r84, hc84, hf⟩ := bi_s hf
    have hPc := hP
    have hDc := hD
    have hFc := va_free (wc := (wX8_fewestFrom cI cZ a (sr M 5 (N 5)))) hD hS hA [0, 1, 2, 3, 4, 5] rfl
    refine va_calli (va_runS (As := [.ref (a 0), .ref (a 5), .int (l2 + (1 : Int32)), .int l3, .int l5]) (rest := []) ⟨hx, hb, hml, hown, hts⟩ (c_X8_fewestFrom_2 l dC dI cI cZ a H.size (sr M 5 (N 5)) (l2 + (1 : Int32)) l3 l5 r84 hc84) (va_cwS 5 hts gX8_fewestFrom_X8_fewestFrom rfl rfl rfl (by decide +kernel) ⟨Nat.le_of_ble_eq_true rfl, Nat.le_of_ble_eq_true rfl⟩) ⟨WR.blind, WR.pre hPc hK hDc hNW⟩ rfl rfl hl.1 rfl (lv_room (Nat.le_of_ble_eq_true rfl)) dX8_fewestFrom_84 ⟨Nat.le_of_ble_eq_true rfl, Nat.le_of_ble_eq_true rfl⟩) hS (fun q _ h => hFc q h) hFc (fun rv u t H1 locs ht hvm hw hB hz1 hk1 hS => ?_)
    obtain ⟨hP1, hD1⟩ := hB
    rw [ht] at hP1
    subst hw
    have hP := hP1
    have hD := hD1.weaken (fun k q _ h => hFc q.1 h)
    have hP : va_P (dC, dI) vwCl (wX8_fewestFrom cI cZ a (sr M 5 (r84.2 5))) H1 := hP
    have hD : va_D A (wX8_fewestFrom cI cZ a (sr M 5 (r84.2 5))) := hD
    generalize H1 = H at hP hS ⊢
    have e9 := so_e hf
    subst e9
    exact W.iret (v := r84.1) hx hb hr (fun t ht hW => ⟨⟨r84.1, (), rfl, rfl, WE.mk hP hD ht⟩, hS.F ht⟩) hS.2.2 dX8_fewestFrom_87
  have hl := lv_entry ([.ref (a 0), .ref (a 5), .int a2, .int a3, .int a4]) (n := 6) (Nat.le_of_ble_eq_true rfl)
  rw [lg_entry_eq]
  generalize (lg_sl ([.ref (a 0), .ref (a 5), .int a2, .int a3, .int a4]) ++ List.replicate (6 - (lg_sl ([.ref (a 0), .ref (a 5), .int a2, .int a3, .int a4])).length) Slot.unset).toArray = ls at hl ⊢
  have hl : lv_has ls 6 [(0, .ref (a 0)), (1, .ref (a 5)), (2, .int a2), (3, .int a3), (4, .int a4)] := hl
  rw [fX8_fewestFrom] at hf
  suffices hgo : ∀ (H : Heap) (locs : List Loc), va_P (dC, dI) vwCl (wX8_fewestFrom cI cZ a M) H → va_D A (wX8_fewestFrom cI cZ a M) → va_S A s.heap H locs → W p l e (headSpec wsX8_fewestFrom ({ frames := 7, cells := 0, slots := 0, locals := 170 } : Room)).room s m ([.ref (a 0), .ref (a 5), .int a2, .int a3, .int a4] : List Value).toArray below meth c H locs 0 0 (MQ below (va_Qi (S := Unit) (fun r _ => r = z.1) (fun _ t => WE (dC, dI) cI cZ (wX8_fewestFrom cI cZ a (sr M 5 (z.2 5))) A t) A) ([.ref (a 0), .ref (a 5), .int a2, .int a3, .int a4] : List Value).toArray s 0 0 A) (F0 m 0 ls []) from hgo _ _ hP hD hS
  intro H locs hP hD hS
  refine lv_aload_n hx hb dX8_fewestFrom_0 rfl (lv_at hl 1 rfl) ?_
  obtain ⟨r1, hc1, hf⟩ := bi_s hf
  have hPc := hP.sub (ws' := (wX8_isLacking cI cZ (ofs 5 a) (ofs 5 M))) [5] rfl
  refine cRO (W.runS (As := [.ref (a 5)]) (rest := []) ⟨hx, hb, hml, hown, hts⟩ (c_X8_isLacking l dC dI cI cZ (ofs 5 a) (ofs 5 M) r1 hc1) (va_cwS 1 hts gX8_fewestFrom_X8_isLacking rfl rfl rfl (by decide +kernel) ⟨Nat.le_of_ble_eq_true rfl, Nat.le_of_ble_eq_true rfl⟩) ⟨RO.blind, RO.pre hPc hK hNW⟩ rfl rfl hl.1 rfl (lv_room (Nat.le_of_ble_eq_true rfl)) dX8_fewestFrom_1 ⟨Nat.le_of_ble_eq_true rfl, Nat.le_of_ble_eq_true rfl⟩) ?_
  refine lv_if_ne (tgt := 9) hx hb dX8_fewestFrom_4 (by decide) (fun c9 => ?_) (fun c9 => ?_)
  · have hf := it_t hf c9
    refine lv_iload_n hx hb dX8_fewestFrom_9 rfl (lv_at hl 2 rfl) ?_
    refine lv_aload_n hx hb dX8_fewestFrom_10 rfl (lv_at hl 0 rfl) ?_
    refine va_getN (D := (dC, dI)) (ci := 7) (v := .int (M 0 0)) (C := RX7) (T := TX7) (N := 6) hx hb hts hinX7 hown hK hP 0 rfl rfl 0 (by decide) (nw24 hNW) (fun _ h9 => h9) rfl dX8_fewestFrom_11 ?_
    refine lv_icmp_ge (tgt := 31) hx hb dX8_fewestFrom_14 (by decide) (fun c9 => ?_) (fun c9 => ?_)
    · have hf := it_t hf c9
      exact hfX8_fewestFrom_B31  M a4 hf _ (lv_sub hl [4] rfl) _ _ hP hD hS
    · have hf := it_f hf c9
      refine lv_iload_n hx hb dX8_fewestFrom_17 rfl (lv_at hl 2 rfl) ?_
      refine lv_bipush (v := (12 : Int32)) hx hb dX8_fewestFrom_18 (by decide) ?_
      refine lv_icmp_ge (tgt := 31) hx hb dX8_fewestFrom_20 (by decide) (fun c9 => ?_) (fun c9 => ?_)
      · have hf := it_t hf c9
        exact hfX8_fewestFrom_B31  M a4 hf _ (lv_sub hl [4] rfl) _ _ hP hD hS
      · have hf := it_f hf c9
        refine lv_iload_n hx hb dX8_fewestFrom_23 rfl (lv_at hl 3 rfl) ?_
        refine lv_iconst (v := (1 : Int32)) hx hb dX8_fewestFrom_24 (by decide) ?_
        refine lv_iadd hx hb dX8_fewestFrom_25 ?_
        refine lv_iload hx hb dX8_fewestFrom_26 (lv_at hl 4 rfl) ?_
        refine lv_icmp_lt (tgt := 34) hx hb dX8_fewestFrom_28 (by decide) (fun c9 => ?_) (fun c9 => ?_)
        · have hf := it_t hf c9
          refine lv_iload hx hb dX8_fewestFrom_34 (lv_at hl 4 rfl) ?_
          refine lv_istore (lv' := [(5, .int a4), (0, .ref (a 0)), (1, .ref (a 5)), (2, .int a2), (3, .int a3), (4, .int a4)]) hx hb dX8_fewestFrom_36 hl (by decide) rfl (fun ls hl => ?_)
          refine lv_aload_n hx hb dX8_fewestFrom_38 rfl (lv_at hl 1 rfl) ?_
          refine lv_iload_n hx hb dX8_fewestFrom_39 rfl (lv_at hl 3 rfl) ?_
          refine lv_aload_n hx hb dX8_fewestFrom_40 rfl (lv_at hl 2 rfl) ?_
          obtain ⟨r41, hc41, hf⟩ := bi_s hf
          have hPc := hP.sub (ws' := (wX7_helps cI cZ a M)) [0, 1, 2, 3, 4, 5] rfl
          refine cRO (va_Run.run (va_runVN (As := [.int a2, .ref (a 5)]) (rest := []) ⟨hx, hb, hml, hown, hts⟩ (c_X7_helps l dC dI cI cZ a M a2 r41 hc41) ⟨va_cnB 2 hts gX8_fewestFrom_X7_helps_n454 rfl rfl rfl (nw64 hNW) hw1 (by decide +kernel) ⟨Nat.le_of_ble_eq_true rfl, Nat.le_of_ble_eq_true rfl⟩, hw2, hw3⟩ ⟨RO.blind, va_recv hK hP (ci := 7) (q0 := 0) rfl rfl, RO.pre hPc hK hNW⟩ rfl rfl hl.1 rfl (lv_room (Nat.le_of_ble_eq_true rfl)) dX8_fewestFrom_41 ⟨Nat.le_of_ble_eq_true rfl, Nat.le_of_ble_eq_true rfl⟩)) ?_
          refine lv_if_eq (tgt := 76) hx hb dX8_fewestFrom_44 (by decide) (fun c9 => ?_) (fun c9 => ?_)
          · have hf := it_t hf c9
            exact hfX8_fewestFrom_B76  M a2 a3 a4 hf _ (lv_sub hl [1, 2, 3, 4, 0] rfl) _ _ hP hD hS
          · have hf := it_f hf c9
            refine lv_aload_n hx hb dX8_fewestFrom_47 rfl (lv_at hl 1 rfl) ?_
            refine lv_iload_n hx hb dX8_fewestFrom_48 rfl (lv_at hl 3 rfl) ?_
            refine lv_aload_n hx hb dX8_fewestFrom_49 rfl (lv_at hl 2 rfl) ?_
            refine lv_iconst (v := (-1 : Int32)) hx hb dX8_fewestFrom_50 (by decide) ?_
            obtain ⟨r51, hc51, hf⟩ := bi_s hf
            have hPc := hP.sub (ws' := (wX7_lend cI cZ a M)) [0, 1, 2, 3, 4, 5] rfl
            have hDc := hD.sub (ws' := (wX7_lend cI cZ a M)) [0, 1, 2, 3, 4, 5] (by decide) rfl
            have hFc := va_free (wc := (wX7_lend cI cZ a M)) hD hS hA [0, 1, 2, 3, 4, 5] rfl
            refine va_callv (va_runVN (As := [.int a2, .ref (a 5), .int (-1 : Int32)]) (rest := []) ⟨hx, hb, hml, hown, hts⟩ (c_X7_lend l dC dI cI cZ a H.size M a2 (-1 : Int32) r51 hc51) ⟨va_cnB 3 hts gX8_fewestFrom_X7_lend_n458 rfl rfl rfl (nw65 hNW) hw1 (by decide +kernel) ⟨Nat.le_of_ble_eq_true rfl, Nat.le_of_ble_eq_true rfl⟩, hw4, hw5⟩ ⟨WR.blind, va_recv hK hP (ci := 7) (q0 := 0) rfl rfl, WR.pre hPc hK hDc hNW⟩ rfl rfl hl.1 rfl (lv_room (Nat.le_of_ble_eq_true rfl)) dX8_fewestFrom_51 ⟨Nat.le_of_ble_eq_true rfl, Nat.le_of_ble_eq_true rfl⟩) hS (fun q _ h => hFc q h) hFc (fun u t H1 locs ht hvm hw hB hz1 hk1 hS => ?_)
            obtain ⟨hP1, hD1⟩ := hB
            rw [ht] at hP1
            obtain ⟨hP, hD⟩ := va_join (wr := []) (w1 := (wX7_lend cI cZ a (sr M 5 (r51 5)))) hP hD [0, 1, 2, 3, 4, 5] [] rfl rfl (by decide) (by decide) hk1 hFc hP1 hD1
            have hP := hP.sub (ws' := (wX8_fewestFrom cI cZ a (sr M 5 (r51 5)))) [0, 1, 2, 3, 4, 5] rfl
            have hD := hD.sub (ws' := (wX8_fewestFrom cI cZ a (sr M 5 (r51 5)))) [0, 1, 2, 3, 4, 5] (by decide) rfl
            generalize H1 = H at hP hS ⊢
            refine lv_aload_n hx hb dX8_fewestFrom_54 rfl (lv_at hl 1 rfl) ?_
            refine lv_aload_n hx hb dX8_fewestFrom_55 rfl (lv_at hl 2 rfl) ?_
            refine lv_iload_n hx hb dX8_fewestFrom_56 rfl (lv_at hl 3 rfl) ?_
            refine lv_iconst (v := (1 : Int32)) hx hb dX8_fewestFrom_57 (by decide) ?_
            refine lv_iadd hx hb dX8_fewestFrom_58 ?_
            refine lv_iload_n hx hb dX8_fewestFrom_59 rfl (lv_at hl 4 rfl) ?_
            refine lv_iconst (v := (1 : Int32)) hx hb dX8_fewestFrom_60 (by decide) ?_
            refine lv_iadd hx hb dX8_fewestFrom_61 ?_
            refine lv_iload hx hb dX8_fewestFrom_62 (lv_at hl 0 rfl) ?_
            obtain ⟨r64, hc64, hf⟩ := bi_s hf
            have hPc := hP
            have hDc := hD
            have hFc := va_free (wc := (wX8_fewestFrom cI cZ a (sr M 5 (r51 5)))) hD hS hA [0, 1, 2, 3, 4, 5] rfl
            refine va_calli (va_runS (As := [.ref (a 0), .ref (a 5), .int (a2 + (1 : Int32)), .int (a3 + (1 : Int32)), .int a4]) (rest := []) ⟨hx, hb, hml, hown, hts⟩ (c_X8_fewestFrom_2 l dC dI cI cZ a H.size (sr M 5 (r51 5)) (a2 + (1 : Int32)) (a3 + (1 : Int32)) a4 r64 hc64) (va_cwS 5 hts gX8_fewestFrom_X8_fewestFrom rfl rfl rfl (by decide +kernel) ⟨Nat.le_of_ble_eq_true rfl, Nat.le_of_ble_eq_true rfl⟩) ⟨WR.blind, WR.pre hPc hK hDc hNW⟩ rfl rfl hl.1 rfl (lv_room (Nat.le_of_ble_eq_true rfl)) dX8_fewestFrom_64 ⟨Nat.le_of_ble_eq_true rfl, Nat.le_of_ble_eq_true rfl⟩) hS (fun q _ h => hFc q h) hFc (fun rv u t H1 locs ht hvm hw hB hz1 hk1 hS => ?_)
            obtain ⟨hP1, hD1⟩ := hB
            rw [ht] at hP1
            subst hw
            have hP := hP1
            have hD := hD1.weaken (fun k q _ h => hFc q.1 h)
            have hP : va_P (dC, dI) vwCl (wX8_fewestFrom cI cZ a (sr M 5 (r64.2 5))) H1 := hP
            have hD : va_D A (wX8_fewestFrom cI cZ a (sr M 5 (r64.2 5))) := hD
            generalize H1 = H at hP hS ⊢
            refine lv_istore (lv' := [(5, .int r64.1), (0, .ref (a 0)), (1, .ref (a 5)), (2, .int a2), (3, .int a3), (4, .int a4)]) hx hb dX8_fewestFrom_67 hl (by decide) rfl (fun ls hl => ?_)
            refine lv_aload_n hx hb dX8_fewestFrom_69 rfl (lv_at hl 1 rfl) ?_
            refine lv_iload_n hx hb dX8_fewestFrom_70 rfl (lv_at hl 3 rfl) ?_
            refine lv_aload_n hx hb dX8_fewestFrom_71 rfl (lv_at hl 2 rfl) ?_
            refine lv_iconst (v := (1 : Int32)) hx hb dX8_fewestFrom_72 (by decide) ?_
            obtain ⟨r73, hc73, hf⟩ := bi_s hf
            have hPc := hP.sub (ws' := (wX7_lend cI cZ a (sr M 5 (r64.2 5)))) [0, 1, 2, 3, 4, 5] rfl
            have hDc := hD.sub (ws' := (wX7_lend cI cZ a (sr M 5 (r64.2 5)))) [0, 1, 2, 3, 4, 5] (by decide) rfl
            have hFc := va_free (wc := (wX7_lend cI cZ a (sr M 5 (r64.2 5)))) hD hS hA [0, 1, 2, 3, 4, 5] rfl
            refine va_callv (va_runVN (As := [.int a2, .ref (a 5), .int (1 : Int32)]) (rest := []) ⟨hx, hb, hml, hown, hts⟩ (c_X7_lend l dC dI cI cZ a H.size (sr M 5 (r64.2 5)) a2 (1 : Int32) r73 hc73) ⟨va_cnB 3 hts gX8_fewestFrom_X7_lend_n458 rfl rfl rfl (nw65 hNW) hw1 (by decide +kernel) ⟨Nat.le_of_ble_eq_true rfl, Nat.le_of_ble_eq_true rfl⟩, hw4, hw5⟩ ⟨WR.blind, va_recv hK hP (ci := 7) (q0 := 0) rfl rfl, WR.pre hPc hK hDc hNW⟩ rfl rfl hl.1 rfl (lv_room (Nat.le_of_ble_eq_true rfl)) dX8_fewestFrom_73 ⟨Nat.le_of_ble_eq_true rfl, Nat.le_of_ble_eq_true rfl⟩) hS (fun q _ h => hFc q h) hFc (fun u t H1 locs ht hvm hw hB hz1 hk1 hS => ?_)
            obtain ⟨hP1, hD1⟩ := hB
            rw [ht] at hP1
            obtain ⟨hP, hD⟩ := va_join (wr := []) (w1 := (wX7_lend cI cZ a (sr (sr M 5 (r64.2 5)) 5 (r73 5)))) hP hD [0, 1, 2, 3, 4, 5] [] rfl rfl (by decide) (by decide) hk1 hFc hP1 hD1
            have hP := hP.sub (ws' := (wX8_fewestFrom cI cZ a (sr M 5 (r73 5)))) [0, 1, 2, 3, 4, 5] rfl
            have hD := hD.sub (ws' := (wX8_fewestFrom cI cZ a (sr M 5 (r73 5)))) [0, 1, 2, 3, 4, 5] (by decide) rfl
            generalize H1 = H at hP hS ⊢
            exact hfX8_fewestFrom_B76  (sr M 5 (r73 5)) a2 a3 r64.1 hf _ (lv_sub hl [1, 2, 3, 4, 0] rfl) _ _ hP hD hS
        · have hf := it_f hf c9
          exact hfX8_fewestFrom_B31  M a4 hf _ (lv_sub hl [4] rfl) _ _ hP hD hS
  · have hf := it_n hf c9
    refine lv_iload_n hx hb dX8_fewestFrom_7 rfl (lv_at hl 3 rfl) ?_
    have e9 := so_e hf
    subst e9
    exact W.iret (v := a3) hx hb hr (fun t ht hW => ⟨⟨a3, (), rfl, rfl, WE.mk hP hD ht⟩, hS.F ht⟩) hS.2.2 dX8_fewestFrom_8
set_option maxHeartbeats 4000000 in
set_option maxRecDepth 100000 in
theorem c_X8_fewestFrom_4 (l : Launch) (dC : Nat → ClassId) (dI : Nat → Nat → Nat) (cI cZ : ClassId) (a : Nat → Nat) (sz : Nat) (M : Mem) (a2 : Int32) (a3 : Int32) (a4 : Int32) (z : Int32 × Mem) (hf : fX8_fewestFrom (3 + 1) M a2 a3 a4 = some z) : Met l yX8_fewestFrom wsX8_fewestFrom ({ frames := 8, cells := 0, slots := 0, locals := 195 } : Room) (va_Pc [.ref (a 0), .ref (a 5), .int a2, .int a3, .int a4] (WR (dC, dI) cI cZ (wX8_fewestFrom cI cZ a M) sz)) (va_Qi (S := Unit) (fun r _ => r = z.1) (fun _ t => WE (dC, dI) cI cZ (wX8_fewestFrom cI cZ a (sr M 5 (z.2 5))) (va_A (wX8_fewestFrom cI cZ a M) sz) t) (va_A (wX8_fewestFrom cI cZ a M) sz)) 0 0 (va_A (wX8_fewestFrom cI cZ a M) sz) := by
  refine Met.ofW (cc := cX8_fewestFrom) (maxL := 6) (ret := (some .int)) (by decide) rfl ?_
  intro p e s m args below meth c s₁ B hml hv
  obtain ⟨rfl, hsz, hP, hK, hD0, hNW⟩ := hv
  have hx := B.exec
  have hb := B.bytes
  have hr := B.returns
  have hts := atoms_spec (ws := wsX8_fewestFrom) B.pre
  have hown : s.vm.findClass RX8 = some m.cls := findClass_of_methodNamed B.named
  have hlocks := B.notSynchronized
  have hinX7 : ∀ w ∈ u_ws RX7 TX7 6, w ∈ wsX8_fewestFrom := by decide +kernel
  have hw1 := hts (.initialized RX7) (by decide +kernel)
  have hw2 := hts (.instanceMethod yX7_helps) (by decide +kernel)
  have hw3 := hts (.selects RX7 yX7_helps yX7_helps) (by decide +kernel)
  have hw4 := hts (.instanceMethod yX7_lend) (by decide +kernel)
  have hw5 := hts (.selects RX7 yX7_lend yX7_lend) (by decide +kernel)
  subst hsz
  have hD := hD0.self (sz := s.heap.size)
  generalize hAe : va_A (wX8_fewestFrom cI cZ a M) s.heap.size = A at hD ⊢
  have hA : ∀ q : Nat, s.heap.size ≤ q → A q := fun q h => by rw [← hAe]; exact Or.inr h
  have hS : va_S A s.heap s.heap [] := va_S.rf
  have hfX8_fewestFrom_B31 : ∀ (N : Mem) (l4 : Int32), fX8_fewestFrom_B31 M  N l4 = some z → ∀ (ls : Array Slot), lv_has ls 6 [(4, .int l4)] → ∀ (H : Heap) (locs : List Loc), va_P (dC, dI) vwCl (wX8_fewestFrom cI cZ a (sr M 5 (N 5))) H → va_D A (wX8_fewestFrom cI cZ a (sr M 5 (N 5))) → va_S A s.heap H locs → W p l e (headSpec wsX8_fewestFrom ({ frames := 8, cells := 0, slots := 0, locals := 195 } : Room)).room s m ([.ref (a 0), .ref (a 5), .int a2, .int a3, .int a4] : List Value).toArray below meth c H locs 0 0 (MQ below (va_Qi (S := Unit) (fun r _ => r = z.1) (fun _ t => WE (dC, dI) cI cZ (wX8_fewestFrom cI cZ a (sr M 5 (z.2 5))) A t) A) ([.ref (a 0), .ref (a 5), .int a2, .int a3, .int a4] : List Value).toArray s 0 0 A) (F0 m 31 ls []) := by
    intro  N l4 hf ls hl H locs hP hD hS
    unfold fX8_fewestFrom_B31 at hf
    refine lv_iload hx hb dX8_fewestFrom_31 (lv_at hl 0 rfl) ?_
    have e9 := so_e hf
    subst e9
    exact W.iret (v := l4) hx hb hr (fun t ht hW => ⟨⟨l4, (), rfl, rfl, WE.mk hP hD ht⟩, hS.F ht⟩) hS.2.2 dX8_fewestFrom_33
  have hfX8_fewestFrom_B76 : ∀ (N : Mem) (l2 : Int32) (l3 : Int32) (l5 : Int32), fX8_fewestFrom_B76 (fX8_fewestFrom 3) M  N l2 l3 l5 = some z → ∀ (ls : Array Slot), lv_has ls 6 [(0, .ref (a 0)), (1, .ref (a 5)), (2, .int l2), (3, .int l3), (5, .int l5)] → ∀ (H : Heap) (locs : List Loc), va_P (dC, dI) vwCl (wX8_fewestFrom cI cZ a (sr M 5 (N 5))) H → va_D A (wX8_fewestFrom cI cZ a (sr M 5 (N 5))) → va_S A s.heap H locs → W p l e (headSpec wsX8_fewestFrom ({ frames := 8, cells := 0, slots := 0, locals := 195 } : Room)).room s m ([.ref (a 0), .ref (a 5), .int a2, .int a3, .int a4] : List Value).toArray below meth c H locs 0 0 (MQ below (va_Qi (S := Unit) (fun r _ => r = z.1) (fun _ t => WE (dC, dI) cI cZ (wX8_fewestFrom cI cZ a (sr M 5 (z.2 5))) A t) A) ([.ref (a 0), .ref (a 5), .int a2, .int a3, .int a4] : List Value).toArray s 0 0 A) (F0 m 76 ls []) := by
    intro  N l2 l3 l5 hf ls hl H locs hP hD hS
    unfold fX8_fewestFrom_B76 at hf
    refine lv_aload_n hx hb dX8_fewestFrom_76 rfl (lv_at hl 0 rfl) ?_
    refine lv_aload_n hx hb dX8_fewestFrom_77 rfl (lv_at hl 1 rfl) ?_
    refine lv_iload_n hx hb dX8_fewestFrom_78 rfl (lv_at hl 2 rfl) ?_
    refine lv_iconst (v := (1 : Int32)) hx hb dX8_fewestFrom_79 (by decide) ?_
    refine lv_iadd hx hb dX8_fewestFrom_80 ?_
    refine lv_iload_n hx hb dX8_fewestFrom_81 rfl (lv_at hl 3 rfl) ?_
    refine lv_iload hx hb dX8_fewestFrom_82 (lv_at hl 4 rfl) ?_
    obtain ⟨r84, hc84, hf⟩ := bi_s hf
    have hPc := hP
    have hDc := hD
    have hFc := va_free (wc := (wX8_fewestFrom cI cZ a (sr M 5 (N 5)))) hD hS hA [0, 1, 2, 3, 4, 5] rfl
    refine va_calli (va_runS (As := [.ref (a 0), .ref (a 5), .int (l2 + (1 : Int32)), .int l3, .int l5]) (rest := []) ⟨hx, hb, hml, hown, hts⟩ (c_X8_fewestFrom_3 l dC dI cI cZ a H.size (sr M 5 (N 5)) (l2 + (1 : Int32)) l3 l5 r84 hc84) (va_cwS 5 hts gX8_fewestFrom_X8_fewestFrom rfl rfl rfl (by decide +kernel) ⟨Nat.le_of_ble_eq_true rfl, Nat.le_of_ble_eq_true rfl⟩) ⟨WR.blind, WR.pre hPc hK hDc hNW⟩ rfl rfl hl.1 rfl (lv_room (Nat.le_of_ble_eq_true rfl)) dX8_fewestFrom_84 ⟨Nat.le_of_ble_eq_true rfl, Nat.le_of_ble_eq_true rfl⟩) hS (fun q _ h => hFc q h) hFc (fun rv u t H1 locs ht hvm hw hB hz1 hk1 hS => ?_)
    obtain ⟨hP1, hD1⟩ := hB
    rw [ht] at hP1
    subst hw
    have hP := hP1
    have hD := hD1.weaken (fun k q _ h => hFc q.1 h)
    have hP : va_P (dC, dI) vwCl (wX8_fewestFrom cI cZ a (sr M 5 (r84.2 5))) H1 := hP
    have hD : va_D A (wX8_fewestFrom cI cZ a (sr M 5 (r84.2 5))) := hD
    generalize H1 = H at hP hS ⊢
    have e9 := so_e hf
    subst e9
    exact W.iret (v := r84.1) hx hb hr (fun t ht hW => ⟨⟨r84.1, (), rfl, rfl, WE.mk hP hD ht⟩, hS.F ht⟩) hS.2.2 dX8_fewestFrom_87
  have hl := lv_entry ([.ref (a 0), .ref (a 5), .int a2, .int a3, .int a4]) (n := 6) (Nat.le_of_ble_eq_true rfl)
  rw [lg_entry_eq]
  generalize (lg_sl ([.ref (a 0), .ref (a 5), .int a2, .int a3, .int a4]) ++ List.replicate (6 - (lg_sl ([.ref (a 0), .ref (a 5), .int a2, .int a3, .int a4])).length) Slot.unset).toArray = ls at hl ⊢
  have hl : lv_has ls 6 [(0, .ref (a 0)), (1, .ref (a 5)), (2, .int a2), (3, .int a3), (4, .int a4)] := hl
  rw [fX8_fewestFrom] at hf
  suffices hgo : ∀ (H : Heap) (locs : List Loc), va_P (dC, dI) vwCl (wX8_fewestFrom cI cZ a M) H → va_D A (wX8_fewestFrom cI cZ a M) → va_S A s.heap H locs → W p l e (headSpec wsX8_fewestFrom ({ frames := 8, cells := 0, slots := 0, locals := 195 } : Room)).room s m ([.ref (a 0), .ref (a 5), .int a2, .int a3, .int a4] : List Value).toArray below meth c H locs 0 0 (MQ below (va_Qi (S := Unit) (fun r _ => r = z.1) (fun _ t => WE (dC, dI) cI cZ (wX8_fewestFrom cI cZ a (sr M 5 (z.2 5))) A t) A) ([.ref (a 0), .ref (a 5), .int a2, .int a3, .int a4] : List Value).toArray s 0 0 A) (F0 m 0 ls []) from hgo _ _ hP hD hS
  intro H locs hP hD hS
  refine lv_aload_n hx hb dX8_fewestFrom_0 rfl (lv_at hl 1 rfl) ?_
  obtain ⟨r1, hc1, hf⟩ := bi_s hf
  have hPc := hP.sub (ws' := (wX8_isLacking cI cZ (ofs 5 a) (ofs 5 M))) [5] rfl
  refine cRO (W.runS (As := [.ref (a 5)]) (rest := []) ⟨hx, hb, hml, hown, hts⟩ (c_X8_isLacking l dC dI cI cZ (ofs 5 a) (ofs 5 M) r1 hc1) (va_cwS 1 hts gX8_fewestFrom_X8_isLacking rfl rfl rfl (by decide +kernel) ⟨Nat.le_of_ble_eq_true rfl, Nat.le_of_ble_eq_true rfl⟩) ⟨RO.blind, RO.pre hPc hK hNW⟩ rfl rfl hl.1 rfl (lv_room (Nat.le_of_ble_eq_true rfl)) dX8_fewestFrom_1 ⟨Nat.le_of_ble_eq_true rfl, Nat.le_of_ble_eq_true rfl⟩) ?_
  refine lv_if_ne (tgt := 9) hx hb dX8_fewestFrom_4 (by decide) (fun c9 => ?_) (fun c9 => ?_)
  · have hf := it_t hf c9
    refine lv_iload_n hx hb dX8_fewestFrom_9 rfl (lv_at hl 2 rfl) ?_
    refine lv_aload_n hx hb dX8_fewestFrom_10 rfl (lv_at hl 0 rfl) ?_
    refine va_getN (D := (dC, dI)) (ci := 7) (v := .int (M 0 0)) (C := RX7) (T := TX7) (N := 6) hx hb hts hinX7 hown hK hP 0 rfl rfl 0 (by decide) (nw24 hNW) (fun _ h9 => h9) rfl dX8_fewestFrom_11 ?_
    refine lv_icmp_ge (tgt := 31) hx hb dX8_fewestFrom_14 (by decide) (fun c9 => ?_) (fun c9 => ?_)
    · have hf := it_t hf c9
      exact hfX8_fewestFrom_B31  M a4 hf _ (lv_sub hl [4] rfl) _ _ hP hD hS
    · have hf := it_f hf c9
      refine lv_iload_n hx hb dX8_fewestFrom_17 rfl (lv_at hl 2 rfl) ?_
      refine lv_bipush (v := (12 : Int32)) hx hb dX8_fewestFrom_18 (by decide) ?_
      refine lv_icmp_ge (tgt := 31) hx hb dX8_fewestFrom_20 (by decide) (fun c9 => ?_) (fun c9 => ?_)
      · have hf := it_t hf c9
        exact hfX8_fewestFrom_B31  M a4 hf _ (lv_sub hl [4] rfl) _ _ hP hD hS
      · have hf := it_f hf c9
        refine lv_iload_n hx hb dX8_fewestFrom_23 rfl (lv_at hl 3 rfl) ?_
        refine lv_iconst (v := (1 : Int32)) hx hb dX8_fewestFrom_24 (by decide) ?_
        refine lv_iadd hx hb dX8_fewestFrom_25 ?_
        refine lv_iload hx hb dX8_fewestFrom_26 (lv_at hl 4 rfl) ?_
        refine lv_icmp_lt (tgt := 34) hx hb dX8_fewestFrom_28 (by decide) (fun c9 => ?_) (fun c9 => ?_)
        · have hf := it_t hf c9
          refine lv_iload hx hb dX8_fewestFrom_34 (lv_at hl 4 rfl) ?_
          refine lv_istore (lv' := [(5, .int a4), (0, .ref (a 0)), (1, .ref (a 5)), (2, .int a2), (3, .int a3), (4, .int a4)]) hx hb dX8_fewestFrom_36 hl (by decide) rfl (fun ls hl => ?_)
          refine lv_aload_n hx hb dX8_fewestFrom_38 rfl (lv_at hl 1 rfl) ?_
          refine lv_iload_n hx hb dX8_fewestFrom_39 rfl (lv_at hl 3 rfl) ?_
          refine lv_aload_n hx hb dX8_fewestFrom_40 rfl (lv_at hl 2 rfl) ?_
          obtain ⟨r41, hc41, hf⟩ := bi_s hf
          have hPc := hP.sub (ws' := (wX7_helps cI cZ a M)) [0, 1, 2, 3, 4, 5] rfl
          refine cRO (va_Run.run (va_runVN (As := [.int a2, .ref (a 5)]) (rest := []) ⟨hx, hb, hml, hown, hts⟩ (c_X7_helps l dC dI cI cZ a M a2 r41 hc41) ⟨va_cnB 2 hts gX8_fewestFrom_X7_helps_n454 rfl rfl rfl (nw64 hNW) hw1 (by decide +kernel) ⟨Nat.le_of_ble_eq_true rfl, Nat.le_of_ble_eq_true rfl⟩, hw2, hw3⟩ ⟨RO.blind, va_recv hK hP (ci := 7) (q0 := 0) rfl rfl, RO.pre hPc hK hNW⟩ rfl rfl hl.1 rfl (lv_room (Nat.le_of_ble_eq_true rfl)) dX8_fewestFrom_41 ⟨Nat.le_of_ble_eq_true rfl, Nat.le_of_ble_eq_true rfl⟩)) ?_
          refine lv_if_eq (tgt := 76) hx hb dX8_fewestFrom_44 (by decide) (fun c9 => ?_) (fun c9 => ?_)
          · have hf := it_t hf c9
            exact hfX8_fewestFrom_B76  M a2 a3 a4 hf _ (lv_sub hl [1, 2, 3, 4, 0] rfl) _ _ hP hD hS
          · have hf := it_f hf c9
            refine lv_aload_n hx hb dX8_fewestFrom_47 rfl (lv_at hl 1 rfl) ?_
            refine lv_iload_n hx hb dX8_fewestFrom_48 rfl (lv_at hl 3 rfl) ?_
            refine lv_aload_n hx hb dX8_fewestFrom_49 rfl (lv_at hl 2 rfl) ?_
            refine lv_iconst (v := (-1 : Int32)) hx hb dX8_fewestFrom_50 (by decide) ?_
            obtain ⟨r51, hc51, hf⟩ := bi_s hf
            have hPc := hP.sub (ws' := (wX7_lend cI cZ a M)) [0, 1, 2, 3, 4, 5] rfl
            have hDc := hD.sub (ws' := (wX7_lend cI cZ a M)) [0, 1, 2, 3, 4, 5] (by decide) rfl
            have hFc := va_free (wc := (wX7_lend cI cZ a M)) hD hS hA [0, 1, 2, 3, 4, 5] rfl
            refine va_callv (va_runVN (As := [.int a2, .ref (a 5), .int (-1 : Int32)]) (rest := []) ⟨hx, hb, hml, hown, hts⟩ (c_X7_lend l dC dI cI cZ a H.size M a2 (-1 : Int32) r51 hc51) ⟨va_cnB 3 hts gX8_fewestFrom_X7_lend_n458 rfl rfl rfl (nw65 hNW) hw1 (by decide +kernel) ⟨Nat.le_of_ble_eq_true rfl, Nat.le_of_ble_eq_true rfl⟩, hw4, hw5⟩ ⟨WR.blind, va_recv hK hP (ci := 7) (q0 := 0) rfl rfl, WR.pre hPc hK hDc hNW⟩ rfl rfl hl.1 rfl (lv_room (Nat.le_of_ble_eq_true rfl)) dX8_fewestFrom_51 ⟨Nat.le_of_ble_eq_true rfl, Nat.le_of_ble_eq_true rfl⟩) hS (fun q _ h => hFc q h) hFc (fun u t H1 locs ht hvm hw hB hz1 hk1 hS => ?_)
            obtain ⟨hP1, hD1⟩ := hB
            rw [ht] at hP1
            obtain ⟨hP, hD⟩ := va_join (wr := []) (w1 := (wX7_lend cI cZ a (sr M 5 (r51 5)))) hP hD [0, 1, 2, 3, 4, 5] [] rfl rfl (by decide) (by decide) hk1 hFc hP1 hD1
            have hP := hP.sub (ws' := (wX8_fewestFrom cI cZ a (sr M 5 (r51 5)))) [0, 1, 2, 3, 4, 5] rfl
            have hD := hD.sub (ws' := (wX8_fewestFrom cI cZ a (sr M 5 (r51 5)))) [0, 1, 2, 3, 4, 5] (by decide) rfl
            generalize H1 = H at hP hS ⊢
            refine lv_aload_n hx hb dX8_fewestFrom_54 rfl (lv_at hl 1 rfl) ?_
            refine lv_aload_n hx hb dX8_fewestFrom_55 rfl (lv_at hl 2 rfl) ?_
            refine lv_iload_n hx hb dX8_fewestFrom_56 rfl (lv_at hl 3 rfl) ?_
            refine lv_iconst (v := (1 : Int32)) hx hb dX8_fewestFrom_57 (by decide) ?_
            refine lv_iadd hx hb dX8_fewestFrom_58 ?_
            refine lv_iload_n hx hb dX8_fewestFrom_59 rfl (lv_at hl 4 rfl) ?_
            refine lv_iconst (v := (1 : Int32)) hx hb dX8_fewestFrom_60 (by decide) ?_
            refine lv_iadd hx hb dX8_fewestFrom_61 ?_
            refine lv_iload hx hb dX8_fewestFrom_62 (lv_at hl 0 rfl) ?_
            obtain ⟨r64, hc64, hf⟩ := bi_s hf
            have hPc := hP
            have hDc := hD
            have hFc := va_free (wc := (wX8_fewestFrom cI cZ a (sr M 5 (r51 5)))) hD hS hA [0, 1, 2, 3, 4, 5] rfl
            refine va_calli (va_runS (As := [.ref (a 0), .ref (a 5), .int (a2 + (1 : Int32)), .int (a3 + (1 : Int32)), .int a4]) (rest := []) ⟨hx, hb, hml, hown, hts⟩ (c_X8_fewestFrom_3 l dC dI cI cZ a H.size (sr M 5 (r51 5)) (a2 + (1 : Int32)) (a3 + (1 : Int32)) a4 r64 hc64) (va_cwS 5 hts gX8_fewestFrom_X8_fewestFrom rfl rfl rfl (by decide +kernel) ⟨Nat.le_of_ble_eq_true rfl, Nat.le_of_ble_eq_true rfl⟩) ⟨WR.blind, WR.pre hPc hK hDc hNW⟩ rfl rfl hl.1 rfl (lv_room (Nat.le_of_ble_eq_true rfl)) dX8_fewestFrom_64 ⟨Nat.le_of_ble_eq_true rfl, Nat.le_of_ble_eq_true rfl⟩) hS (fun q _ h => hFc q h) hFc (fun rv u t H1 locs ht hvm hw hB hz1 hk1 hS => ?_)
            obtain ⟨hP1, hD1⟩ := hB
            rw [ht] at hP1
            subst hw
            have hP := hP1
            have hD := hD1.weaken (fun k q _ h => hFc q.1 h)
            have hP : va_P (dC, dI) vwCl (wX8_fewestFrom cI cZ a (sr M 5 (r64.2 5))) H1 := hP
            have hD : va_D A (wX8_fewestFrom cI cZ a (sr M 5 (r64.2 5))) := hD
            generalize H1 = H at hP hS ⊢
            refine lv_istore (lv' := [(5, .int r64.1), (0, .ref (a 0)), (1, .ref (a 5)), (2, .int a2), (3, .int a3), (4, .int a4)]) hx hb dX8_fewestFrom_67 hl (by decide) rfl (fun ls hl => ?_)
            refine lv_aload_n hx hb dX8_fewestFrom_69 rfl (lv_at hl 1 rfl) ?_
            refine lv_iload_n hx hb dX8_fewestFrom_70 rfl (lv_at hl 3 rfl) ?_
            refine lv_aload_n hx hb dX8_fewestFrom_71 rfl (lv_at hl 2 rfl) ?_
            refine lv_iconst (v := (1 : Int32)) hx hb dX8_fewestFrom_72 (by decide) ?_
            obtain ⟨r73, hc73, hf⟩ := bi_s hf
            have hPc := hP.sub (ws' := (wX7_lend cI cZ a (sr M 5 (r64.2 5)))) [0, 1, 2, 3, 4, 5] rfl
            have hDc := hD.sub (ws' := (wX7_lend cI cZ a (sr M 5 (r64.2 5)))) [0, 1, 2, 3, 4, 5] (by decide) rfl
            have hFc := va_free (wc := (wX7_lend cI cZ a (sr M 5 (r64.2 5)))) hD hS hA [0, 1, 2, 3, 4, 5] rfl
            refine va_callv (va_runVN (As := [.int a2, .ref (a 5), .int (1 : Int32)]) (rest := []) ⟨hx, hb, hml, hown, hts⟩ (c_X7_lend l dC dI cI cZ a H.size (sr M 5 (r64.2 5)) a2 (1 : Int32) r73 hc73) ⟨va_cnB 3 hts gX8_fewestFrom_X7_lend_n458 rfl rfl rfl (nw65 hNW) hw1 (by decide +kernel) ⟨Nat.le_of_ble_eq_true rfl, Nat.le_of_ble_eq_true rfl⟩, hw4, hw5⟩ ⟨WR.blind, va_recv hK hP (ci := 7) (q0 := 0) rfl rfl, WR.pre hPc hK hDc hNW⟩ rfl rfl hl.1 rfl (lv_room (Nat.le_of_ble_eq_true rfl)) dX8_fewestFrom_73 ⟨Nat.le_of_ble_eq_true rfl, Nat.le_of_ble_eq_true rfl⟩) hS (fun q _ h => hFc q h) hFc (fun u t H1 locs ht hvm hw hB hz1 hk1 hS => ?_)
            obtain ⟨hP1, hD1⟩ := hB
            rw [ht] at hP1
            obtain ⟨hP, hD⟩ := va_join (wr := []) (w1 := (wX7_lend cI cZ a (sr (sr M 5 (r64.2 5)) 5 (r73 5)))) hP hD [0, 1, 2, 3, 4, 5] [] rfl rfl (by decide) (by decide) hk1 hFc hP1 hD1
            have hP := hP.sub (ws' := (wX8_fewestFrom cI cZ a (sr M 5 (r73 5)))) [0, 1, 2, 3, 4, 5] rfl
            have hD := hD.sub (ws' := (wX8_fewestFrom cI cZ a (sr M 5 (r73 5)))) [0, 1, 2, 3, 4, 5] (by decide) rfl
            generalize H1 = H at hP hS ⊢
            exact hfX8_fewestFrom_B76  (sr M 5 (r73 5)) a2 a3 r64.1 hf _ (lv_sub hl [1, 2, 3, 4, 0] rfl) _ _ hP hD hS
        · have hf := it_f hf c9
          exact hfX8_fewestFrom_B31  M a4 hf _ (lv_sub hl [4] rfl) _ _ hP hD hS
  · have hf := it_n hf c9
    refine lv_iload_n hx hb dX8_fewestFrom_7 rfl (lv_at hl 3 rfl) ?_
    have e9 := so_e hf
    subst e9
    exact W.iret (v := a3) hx hb hr (fun t ht hW => ⟨⟨a3, (), rfl, rfl, WE.mk hP hD ht⟩, hS.F ht⟩) hS.2.2 dX8_fewestFrom_8
set_option maxHeartbeats 4000000 in
set_option maxRecDepth 100000 in
theorem c_X8_fewestFrom_5 (l : Launch) (dC : Nat → ClassId) (dI : Nat → Nat → Nat) (cI cZ : ClassId) (a : Nat → Nat) (sz : Nat) (M : Mem) (a2 : Int32) (a3 : Int32) (a4 : Int32) (z : Int32 × Mem) (hf : fX8_fewestFrom (4 + 1) M a2 a3 a4 = some z) : Met l yX8_fewestFrom wsX8_fewestFrom ({ frames := 9, cells := 0, slots := 0, locals := 220 } : Room) (va_Pc [.ref (a 0), .ref (a 5), .int a2, .int a3, .int a4] (WR (dC, dI) cI cZ (wX8_fewestFrom cI cZ a M) sz)) (va_Qi (S := Unit) (fun r _ => r = z.1) (fun _ t => WE (dC, dI) cI cZ (wX8_fewestFrom cI cZ a (sr M 5 (z.2 5))) (va_A (wX8_fewestFrom cI cZ a M) sz) t) (va_A (wX8_fewestFrom cI cZ a M) sz)) 0 0 (va_A (wX8_fewestFrom cI cZ a M) sz) := by
  refine Met.ofW (cc := cX8_fewestFrom) (maxL := 6) (ret := (some .int)) (by decide) rfl ?_
  intro p e s m args below meth c s₁ B hml hv
  obtain ⟨rfl, hsz, hP, hK, hD0, hNW⟩ := hv
  have hx := B.exec
  have hb := B.bytes
  have hr := B.returns
  have hts := atoms_spec (ws := wsX8_fewestFrom) B.pre
  have hown : s.vm.findClass RX8 = some m.cls := findClass_of_methodNamed B.named
  have hlocks := B.notSynchronized
  have hinX7 : ∀ w ∈ u_ws RX7 TX7 6, w ∈ wsX8_fewestFrom := by decide +kernel
  have hw1 := hts (.initialized RX7) (by decide +kernel)
  have hw2 := hts (.instanceMethod yX7_helps) (by decide +kernel)
  have hw3 := hts (.selects RX7 yX7_helps yX7_helps) (by decide +kernel)
  have hw4 := hts (.instanceMethod yX7_lend) (by decide +kernel)
  have hw5 := hts (.selects RX7 yX7_lend yX7_lend) (by decide +kernel)
  subst hsz
  have hD := hD0.self (sz := s.heap.size)
  generalize hAe : va_A (wX8_fewestFrom cI cZ a M) s.heap.size = A at hD ⊢
  have hA : ∀ q : Nat, s.heap.size ≤ q → A q := fun q h => by rw [← hAe]; exact Or.inr h
  have hS : va_S A s.heap s.heap [] := va_S.rf
  have hfX8_fewestFrom_B31 : ∀ (N : Mem) (l4 : Int32), fX8_fewestFrom_B31 M  N l4 = some z → ∀ (ls : Array Slot), lv_has ls 6 [(4, .int l4)] → ∀ (H : Heap) (locs : List Loc), va_P (dC, dI) vwCl (wX8_fewestFrom cI cZ a (sr M 5 (N 5))) H → va_D A (wX8_fewestFrom cI cZ a (sr M 5 (N 5))) → va_S A s.heap H locs → W p l e (headSpec wsX8_fewestFrom ({ frames := 9, cells := 0, slots := 0, locals := 220 } : Room)).room s m ([.ref (a 0), .ref (a 5), .int a2, .int a3, .int a4] : List Value).toArray below meth c H locs 0 0 (MQ below (va_Qi (S := Unit) (fun r _ => r = z.1) (fun _ t => WE (dC, dI) cI cZ (wX8_fewestFrom cI cZ a (sr M 5 (z.2 5))) A t) A) ([.ref (a 0), .ref (a 5), .int a2, .int a3, .int a4] : List Value).toArray s 0 0 A) (F0 m 31 ls []) := by
    intro  N l4 hf ls hl H locs hP hD hS
    unfold fX8_fewestFrom_B31 at hf
    refine lv_iload hx hb dX8_fewestFrom_31 (lv_at hl 0 rfl) ?_
    have e9 := so_e hf
    subst e9
    exact W.iret (v := l4) hx hb hr (fun t ht hW => ⟨⟨l4, (), rfl, rfl, WE.mk hP hD ht⟩, hS.F ht⟩) hS.2.2 dX8_fewestFrom_33
  have hfX8_fewestFrom_B76 : ∀ (N : Mem) (l2 : Int32) (l3 : Int32) (l5 : Int32), fX8_fewestFrom_B76 (fX8_fewestFrom 4) M  N l2 l3 l5 = some z → ∀ (ls : Array Slot), lv_has ls 6 [(0, .ref (a 0)), (1, .ref (a 5)), (2, .int l2), (3, .int l3), (5, .int l5)] → ∀ (H : Heap) (locs : List Loc), va_P (dC, dI) vwCl (wX8_fewestFrom cI cZ a (sr M 5 (N 5))) H → va_D A (wX8_fewestFrom cI cZ a (sr M 5 (N 5))) → va_S A s.heap H locs → W p l e (headSpec wsX8_fewestFrom ({ frames := 9, cells := 0, slots := 0, locals := 220 } : Room)).room s m ([.ref (a 0), .ref (a 5), .int a2, .int a3, .int a4] : List Value).toArray below meth c H locs 0 0 (MQ below (va_Qi (S := Unit) (fun r _ => r = z.1) (fun _ t => WE (dC, dI) cI cZ (wX8_fewestFrom cI cZ a (sr M 5 (z.2 5))) A t) A) ([.ref (a 0), .ref (a 5), .int a2, .int a3, .int a4] : List Value).toArray s 0 0 A) (F0 m 76 ls []) := by
    intro  N l2 l3 l5 hf ls hl H locs hP hD hS
    unfold fX8_fewestFrom_B76 at hf
    refine lv_aload_n hx hb dX8_fewestFrom_76 rfl (lv_at hl 0 rfl) ?_
    refine lv_aload_n hx hb dX8_fewestFrom_77 rfl (lv_at hl 1 rfl) ?_
    refine lv_iload_n hx hb dX8_fewestFrom_78 rfl (lv_at hl 2 rfl) ?_
    refine lv_iconst (v := (1 : Int32)) hx hb dX8_fewestFrom_79 (by decide) ?_
    refine lv_iadd hx hb dX8_fewestFrom_80 ?_
    refine lv_iload_n hx hb dX8_fewestFrom_81 rfl (lv_at hl 3 rfl) ?_
    refine lv_iload hx hb dX8_fewestFrom_82 (lv_at hl 4 rfl) ?_
    obtain ⟨r84, hc84, hf⟩ := bi_s hf
    have hPc := hP
    have hDc := hD
    have hFc := va_free (wc := (wX8_fewestFrom cI cZ a (sr M 5 (N 5)))) hD hS hA [0, 1, 2, 3, 4, 5] rfl
    refine va_calli (va_runS (As := [.ref (a 0), .ref (a 5), .int (l2 + (1 : Int32)), .int l3, .int l5]) (rest := []) ⟨hx, hb, hml, hown, hts⟩ (c_X8_fewestFrom_4 l dC dI cI cZ a H.size (sr M 5 (N 5)) (l2 + (1 : Int32)) l3 l5 r84 hc84) (va_cwS 5 hts gX8_fewestFrom_X8_fewestFrom rfl rfl rfl (by decide +kernel) ⟨Nat.le_of_ble_eq_true rfl, Nat.le_of_ble_eq_true rfl⟩) ⟨WR.blind, WR.pre hPc hK hDc hNW⟩ rfl rfl hl.1 rfl (lv_room (Nat.le_of_ble_eq_true rfl)) dX8_fewestFrom_84 ⟨Nat.le_of_ble_eq_true rfl, Nat.le_of_ble_eq_true rfl⟩) hS (fun q _ h => hFc q h) hFc (fun rv u t H1 locs ht hvm hw hB hz1 hk1 hS => ?_)
    obtain ⟨hP1, hD1⟩ := hB
    rw [ht] at hP1
    subst hw
    have hP := hP1
    have hD := hD1.weaken (fun k q _ h => hFc q.1 h)
    have hP : va_P (dC, dI) vwCl (wX8_fewestFrom cI cZ a (sr M 5 (r84.2 5))) H1 := hP
    have hD : va_D A (wX8_fewestFrom cI cZ a (sr M 5 (r84.2 5))) := hD
    generalize H1 = H at hP hS ⊢
    have e9 := so_e hf
    subst e9
    exact W.iret (v := r84.1) hx hb hr (fun t ht hW => ⟨⟨r84.1, (), rfl, rfl, WE.mk hP hD ht⟩, hS.F ht⟩) hS.2.2 dX8_fewestFrom_87
  have hl := lv_entry ([.ref (a 0), .ref (a 5), .int a2, .int a3, .int a4]) (n := 6) (Nat.le_of_ble_eq_true rfl)
  rw [lg_entry_eq]
  generalize (lg_sl ([.ref (a 0), .ref (a 5), .int a2, .int a3, .int a4]) ++ List.replicate (6 - (lg_sl ([.ref (a 0), .ref (a 5), .int a2, .int a3, .int a4])).length) Slot.unset).toArray = ls at hl ⊢
  have hl : lv_has ls 6 [(0, .ref (a 0)), (1, .ref (a 5)), (2, .int a2), (3, .int a3), (4, .int a4)] := hl
  rw [fX8_fewestFrom] at hf
  suffices hgo : ∀ (H : Heap) (locs : List Loc), va_P (dC, dI) vwCl (wX8_fewestFrom cI cZ a M) H → va_D A (wX8_fewestFrom cI cZ a M) → va_S A s.heap H locs → W p l e (headSpec wsX8_fewestFrom ({ frames := 9, cells := 0, slots := 0, locals := 220 } : Room)).room s m ([.ref (a 0), .ref (a 5), .int a2, .int a3, .int a4] : List Value).toArray below meth c H locs 0 0 (MQ below (va_Qi (S := Unit) (fun r _ => r = z.1) (fun _ t => WE (dC, dI) cI cZ (wX8_fewestFrom cI cZ a (sr M 5 (z.2 5))) A t) A) ([.ref (a 0), .ref (a 5), .int a2, .int a3, .int a4] : List Value).toArray s 0 0 A) (F0 m 0 ls []) from hgo _ _ hP hD hS
  intro H locs hP hD hS
  refine lv_aload_n hx hb dX8_fewestFrom_0 rfl (lv_at hl 1 rfl) ?_
  obtain ⟨r1, hc1, hf⟩ := bi_s hf
  have hPc := hP.sub (ws' := (wX8_isLacking cI cZ (ofs 5 a) (ofs 5 M))) [5] rfl
  refine cRO (W.runS (As := [.ref (a 5)]) (rest := []) ⟨hx, hb, hml, hown, hts⟩ (c_X8_isLacking l dC dI cI cZ (ofs 5 a) (ofs 5 M) r1 hc1) (va_cwS 1 hts gX8_fewestFrom_X8_isLacking rfl rfl rfl (by decide +kernel) ⟨Nat.le_of_ble_eq_true rfl, Nat.le_of_ble_eq_true rfl⟩) ⟨RO.blind, RO.pre hPc hK hNW⟩ rfl rfl hl.1 rfl (lv_room (Nat.le_of_ble_eq_true rfl)) dX8_fewestFrom_1 ⟨Nat.le_of_ble_eq_true rfl, Nat.le_of_ble_eq_true rfl⟩) ?_
  refine lv_if_ne (tgt := 9) hx hb dX8_fewestFrom_4 (by decide) (fun c9 => ?_) (fun c9 => ?_)
  · have hf := it_t hf c9
    refine lv_iload_n hx hb dX8_fewestFrom_9 rfl (lv_at hl 2 rfl) ?_
    refine lv_aload_n hx hb dX8_fewestFrom_10 rfl (lv_at hl 0 rfl) ?_
    refine va_getN (D := (dC, dI)) (ci := 7) (v := .int (M 0 0)) (C := RX7) (T := TX7) (N := 6) hx hb hts hinX7 hown hK hP 0 rfl rfl 0 (by decide) (nw24 hNW) (fun _ h9 => h9) rfl dX8_fewestFrom_11 ?_
    refine lv_icmp_ge (tgt := 31) hx hb dX8_fewestFrom_14 (by decide) (fun c9 => ?_) (fun c9 => ?_)
    · have hf := it_t hf c9
      exact hfX8_fewestFrom_B31  M a4 hf _ (lv_sub hl [4] rfl) _ _ hP hD hS
    · have hf := it_f hf c9
      refine lv_iload_n hx hb dX8_fewestFrom_17 rfl (lv_at hl 2 rfl) ?_
      refine lv_bipush (v := (12 : Int32)) hx hb dX8_fewestFrom_18 (by decide) ?_
      refine lv_icmp_ge (tgt := 31) hx hb dX8_fewestFrom_20 (by decide) (fun c9 => ?_) (fun c9 => ?_)
      · have hf := it_t hf c9
        exact hfX8_fewestFrom_B31  M a4 hf _ (lv_sub hl [4] rfl) _ _ hP hD hS
      · have hf := it_f hf c9
        refine lv_iload_n hx hb dX8_fewestFrom_23 rfl (lv_at hl 3 rfl) ?_
        refine lv_iconst (v := (1 : Int32)) hx hb dX8_fewestFrom_24 (by decide) ?_
        refine lv_iadd hx hb dX8_fewestFrom_25 ?_
        refine lv_iload hx hb dX8_fewestFrom_26 (lv_at hl 4 rfl) ?_
        refine lv_icmp_lt (tgt := 34) hx hb dX8_fewestFrom_28 (by decide) (fun c9 => ?_) (fun c9 => ?_)
        · have hf := it_t hf c9
          refine lv_iload hx hb dX8_fewestFrom_34 (lv_at hl 4 rfl) ?_
          refine lv_istore (lv' := [(5, .int a4), (0, .ref (a 0)), (1, .ref (a 5)), (2, .int a2), (3, .int a3), (4, .int a4)]) hx hb dX8_fewestFrom_36 hl (by decide) rfl (fun ls hl => ?_)
          refine lv_aload_n hx hb dX8_fewestFrom_38 rfl (lv_at hl 1 rfl) ?_
          refine lv_iload_n hx hb dX8_fewestFrom_39 rfl (lv_at hl 3 rfl) ?_
          refine lv_aload_n hx hb dX8_fewestFrom_40 rfl (lv_at hl 2 rfl) ?_
          obtain ⟨r41, hc41, hf⟩ := bi_s hf
          have hPc := hP.sub (ws' := (wX7_helps cI cZ a M)) [0, 1, 2, 3, 4, 5] rfl
          refine cRO (va_Run.run (va_runVN (As := [.int a2, .ref (a 5)]) (rest := []) ⟨hx, hb, hml, hown, hts⟩ (c_X7_helps l dC dI cI cZ a M a2 r41 hc41) ⟨va_cnB 2 hts gX8_fewestFrom_X7_helps_n454 rfl rfl rfl (nw64 hNW) hw1 (by decide +kernel) ⟨Nat.le_of_ble_eq_true rfl, Nat.le_of_ble_eq_true rfl⟩, hw2, hw3⟩ ⟨RO.blind, va_recv hK hP (ci := 7) (q0 := 0) rfl rfl, RO.pre hPc hK hNW⟩ rfl rfl hl.1 rfl (lv_room (Nat.le_of_ble_eq_true rfl)) dX8_fewestFrom_41 ⟨Nat.le_of_ble_eq_true rfl, Nat.le_of_ble_eq_true rfl⟩)) ?_
          refine lv_if_eq (tgt := 76) hx hb dX8_fewestFrom_44 (by decide) (fun c9 => ?_) (fun c9 => ?_)
          · have hf := it_t hf c9
            exact hfX8_fewestFrom_B76  M a2 a3 a4 hf _ (lv_sub hl [1, 2, 3, 4, 0] rfl) _ _ hP hD hS
          · have hf := it_f hf c9
            refine lv_aload_n hx hb dX8_fewestFrom_47 rfl (lv_at hl 1 rfl) ?_
            refine lv_iload_n hx hb dX8_fewestFrom_48 rfl (lv_at hl 3 rfl) ?_
            refine lv_aload_n hx hb dX8_fewestFrom_49 rfl (lv_at hl 2 rfl) ?_
            refine lv_iconst (v := (-1 : Int32)) hx hb dX8_fewestFrom_50 (by decide) ?_
            obtain ⟨r51, hc51, hf⟩ := bi_s hf
            have hPc := hP.sub (ws' := (wX7_lend cI cZ a M)) [0, 1, 2, 3, 4, 5] rfl
            have hDc := hD.sub (ws' := (wX7_lend cI cZ a M)) [0, 1, 2, 3, 4, 5] (by decide) rfl
            have hFc := va_free (wc := (wX7_lend cI cZ a M)) hD hS hA [0, 1, 2, 3, 4, 5] rfl
            refine va_callv (va_runVN (As := [.int a2, .ref (a 5), .int (-1 : Int32)]) (rest := []) ⟨hx, hb, hml, hown, hts⟩ (c_X7_lend l dC dI cI cZ a H.size M a2 (-1 : Int32) r51 hc51) ⟨va_cnB 3 hts gX8_fewestFrom_X7_lend_n458 rfl rfl rfl (nw65 hNW) hw1 (by decide +kernel) ⟨Nat.le_of_ble_eq_true rfl, Nat.le_of_ble_eq_true rfl⟩, hw4, hw5⟩ ⟨WR.blind, va_recv hK hP (ci := 7) (q0 := 0) rfl rfl, WR.pre hPc hK hDc hNW⟩ rfl rfl hl.1 rfl (lv_room (Nat.le_of_ble_eq_true rfl)) dX8_fewestFrom_51 ⟨Nat.le_of_ble_eq_true rfl, Nat.le_of_ble_eq_true rfl⟩) hS (fun q _ h => hFc q h) hFc (fun u t H1 locs ht hvm hw hB hz1 hk1 hS => ?_)
            obtain ⟨hP1, hD1⟩ := hB
            rw [ht] at hP1
            obtain ⟨hP, hD⟩ := va_join (wr := []) (w1 := (wX7_lend cI cZ a (sr M 5 (r51 5)))) hP hD [0, 1, 2, 3, 4, 5] [] rfl rfl (by decide) (by decide) hk1 hFc hP1 hD1
            have hP := hP.sub (ws' := (wX8_fewestFrom cI cZ a (sr M 5 (r51 5)))) [0, 1, 2, 3, 4, 5] rfl
            have hD := hD.sub (ws' := (wX8_fewestFrom cI cZ a (sr M 5 (r51 5)))) [0, 1, 2, 3, 4, 5] (by decide) rfl
            generalize H1 = H at hP hS ⊢
            refine lv_aload_n hx hb dX8_fewestFrom_54 rfl (lv_at hl 1 rfl) ?_
            refine lv_aload_n hx hb dX8_fewestFrom_55 rfl (lv_at hl 2 rfl) ?_
            refine lv_iload_n hx hb dX8_fewestFrom_56 rfl (lv_at hl 3 rfl) ?_
            refine lv_iconst (v := (1 : Int32)) hx hb dX8_fewestFrom_57 (by decide) ?_
            refine lv_iadd hx hb dX8_fewestFrom_58 ?_
            refine lv_iload_n hx hb dX8_fewestFrom_59 rfl (lv_at hl 4 rfl) ?_
            refine lv_iconst (v := (1 : Int32)) hx hb dX8_fewestFrom_60 (by decide) ?_
            refine lv_iadd hx hb dX8_fewestFrom_61 ?_
            refine lv_iload hx hb dX8_fewestFrom_62 (lv_at hl 0 rfl) ?_
            obtain ⟨r64, hc64, hf⟩ := bi_s hf
            have hPc := hP
            have hDc := hD
            have hFc := va_free (wc := (wX8_fewestFrom cI cZ a (sr M 5 (r51 5)))) hD hS hA [0, 1, 2, 3, 4, 5] rfl
            refine va_calli (va_runS (As := [.ref (a 0), .ref (a 5), .int (a2 + (1 : Int32)), .int (a3 + (1 : Int32)), .int a4]) (rest := []) ⟨hx, hb, hml, hown, hts⟩ (c_X8_fewestFrom_4 l dC dI cI cZ a H.size (sr M 5 (r51 5)) (a2 + (1 : Int32)) (a3 + (1 : Int32)) a4 r64 hc64) (va_cwS 5 hts gX8_fewestFrom_X8_fewestFrom rfl rfl rfl (by decide +kernel) ⟨Nat.le_of_ble_eq_true rfl, Nat.le_of_ble_eq_true rfl⟩) ⟨WR.blind, WR.pre hPc hK hDc hNW⟩ rfl rfl hl.1 rfl (lv_room (Nat.le_of_ble_eq_true rfl)) dX8_fewestFrom_64 ⟨Nat.le_of_ble_eq_true rfl, Nat.le_of_ble_eq_true rfl⟩) hS (fun q _ h => hFc q h) hFc (fun rv u t H1 locs ht hvm hw hB hz1 hk1 hS => ?_)
            obtain ⟨hP1, hD1⟩ := hB
            rw [ht] at hP1
            subst hw
            have hP := hP1
            have hD := hD1.weaken (fun k q _ h => hFc q.1 h)
            have hP : va_P (dC, dI) vwCl (wX8_fewestFrom cI cZ a (sr M 5 (r64.2 5))) H1 := hP
            have hD : va_D A (wX8_fewestFrom cI cZ a (sr M 5 (r64.2 5))) := hD
            generalize H1 = H at hP hS ⊢
            refine lv_istore (lv' := [(5, .int r64.1), (0, .ref (a 0)), (1, .ref (a 5)), (2, .int a2), (3, .int a3), (4, .int a4)]) hx hb dX8_fewestFrom_67 hl (by decide) rfl (fun ls hl => ?_)
            refine lv_aload_n hx hb dX8_fewestFrom_69 rfl (lv_at hl 1 rfl) ?_
            refine lv_iload_n hx hb dX8_fewestFrom_70 rfl (lv_at hl 3 rfl) ?_
            refine lv_aload_n hx hb dX8_fewestFrom_71 rfl (lv_at hl 2 rfl) ?_
            refine lv_iconst (v := (1 : Int32)) hx hb dX8_fewestFrom_72 (by decide) ?_
            obtain ⟨r73, hc73, hf⟩ := bi_s hf
            have hPc := hP.sub (ws' := (wX7_lend cI cZ a (sr M 5 (r64.2 5)))) [0, 1, 2, 3, 4, 5] rfl
            have hDc := hD.sub (ws' := (wX7_lend cI cZ a (sr M 5 (r64.2 5)))) [0, 1, 2, 3, 4, 5] (by decide) rfl
            have hFc := va_free (wc := (wX7_lend cI cZ a (sr M 5 (r64.2 5)))) hD hS hA [0, 1, 2, 3, 4, 5] rfl
            refine va_callv (va_runVN (As := [.int a2, .ref (a 5), .int (1 : Int32)]) (rest := []) ⟨hx, hb, hml, hown, hts⟩ (c_X7_lend l dC dI cI cZ a H.size (sr M 5 (r64.2 5)) a2 (1 : Int32) r73 hc73) ⟨va_cnB 3 hts gX8_fewestFrom_X7_lend_n458 rfl rfl rfl (nw65 hNW) hw1 (by decide +kernel) ⟨Nat.le_of_ble_eq_true rfl, Nat.le_of_ble_eq_true rfl⟩, hw4, hw5⟩ ⟨WR.blind, va_recv hK hP (ci := 7) (q0 := 0) rfl rfl, WR.pre hPc hK hDc hNW⟩ rfl rfl hl.1 rfl (lv_room (Nat.le_of_ble_eq_true rfl)) dX8_fewestFrom_73 ⟨Nat.le_of_ble_eq_true rfl, Nat.le_of_ble_eq_true rfl⟩) hS (fun q _ h => hFc q h) hFc (fun u t H1 locs ht hvm hw hB hz1 hk1 hS => ?_)
            obtain ⟨hP1, hD1⟩ := hB
            rw [ht] at hP1
            obtain ⟨hP, hD⟩ := va_join (wr := []) (w1 := (wX7_lend cI cZ a (sr (sr M 5 (r64.2 5)) 5 (r73 5)))) hP hD [0, 1, 2, 3, 4, 5] [] rfl rfl (by decide) (by decide) hk1 hFc hP1 hD1
            have hP := hP.sub (ws' := (wX8_fewestFrom cI cZ a (sr M 5 (r73 5)))) [0, 1, 2, 3, 4, 5] rfl
            have hD := hD.sub (ws' := (wX8_fewestFrom cI cZ a (sr M 5 (r73 5)))) [0, 1, 2, 3, 4, 5] (by decide) rfl
            generalize H1 = H at hP hS ⊢
            exact hfX8_fewestFrom_B76  (sr M 5 (r73 5)) a2 a3 r64.1 hf _ (lv_sub hl [1, 2, 3, 4, 0] rfl) _ _ hP hD hS
        · have hf := it_f hf c9
          exact hfX8_fewestFrom_B31  M a4 hf _ (lv_sub hl [4] rfl) _ _ hP hD hS
  · have hf := it_n hf c9
    refine lv_iload_n hx hb dX8_fewestFrom_7 rfl (lv_at hl 3 rfl) ?_
    have e9 := so_e hf
    subst e9
    exact W.iret (v := a3) hx hb hr (fun t ht hW => ⟨⟨a3, (), rfl, rfl, WE.mk hP hD ht⟩, hS.F ht⟩) hS.2.2 dX8_fewestFrom_8
set_option maxHeartbeats 4000000 in
set_option maxRecDepth 100000 in
theorem c_X8_fewestFrom_6 (l : Launch) (dC : Nat → ClassId) (dI : Nat → Nat → Nat) (cI cZ : ClassId) (a : Nat → Nat) (sz : Nat) (M : Mem) (a2 : Int32) (a3 : Int32) (a4 : Int32) (z : Int32 × Mem) (hf : fX8_fewestFrom (5 + 1) M a2 a3 a4 = some z) : Met l yX8_fewestFrom wsX8_fewestFrom ({ frames := 10, cells := 0, slots := 0, locals := 245 } : Room) (va_Pc [.ref (a 0), .ref (a 5), .int a2, .int a3, .int a4] (WR (dC, dI) cI cZ (wX8_fewestFrom cI cZ a M) sz)) (va_Qi (S := Unit) (fun r _ => r = z.1) (fun _ t => WE (dC, dI) cI cZ (wX8_fewestFrom cI cZ a (sr M 5 (z.2 5))) (va_A (wX8_fewestFrom cI cZ a M) sz) t) (va_A (wX8_fewestFrom cI cZ a M) sz)) 0 0 (va_A (wX8_fewestFrom cI cZ a M) sz) := by
  refine Met.ofW (cc := cX8_fewestFrom) (maxL := 6) (ret := (some .int)) (by decide) rfl ?_
  intro p e s m args below meth c s₁ B hml hv
  obtain ⟨rfl, hsz, hP, hK, hD0, hNW⟩ := hv
  have hx := B.exec
  have hb := B.bytes
  have hr := B.returns
  have hts := atoms_spec (ws := wsX8_fewestFrom) B.pre
  have hown : s.vm.findClass RX8 = some m.cls := findClass_of_methodNamed B.named
  have hlocks := B.notSynchronized
  have hinX7 : ∀ w ∈ u_ws RX7 TX7 6, w ∈ wsX8_fewestFrom := by decide +kernel
  have hw1 := hts (.initialized RX7) (by decide +kernel)
  have hw2 := hts (.instanceMethod yX7_helps) (by decide +kernel)
  have hw3 := hts (.selects RX7 yX7_helps yX7_helps) (by decide +kernel)
  have hw4 := hts (.instanceMethod yX7_lend) (by decide +kernel)
  have hw5 := hts (.selects RX7 yX7_lend yX7_lend) (by decide +kernel)
  subst hsz
  have hD := hD0.self (sz := s.heap.size)
  generalize hAe : va_A (wX8_fewestFrom cI cZ a M) s.heap.size = A at hD ⊢
  have hA : ∀ q : Nat, s.heap.size ≤ q → A q := fun q h => by rw [← hAe]; exact Or.inr h
  have hS : va_S A s.heap s.heap [] := va_S.rf
  have hfX8_fewestFrom_B31 : ∀ (N : Mem) (l4 : Int32), fX8_fewestFrom_B31 M  N l4 = some z → ∀ (ls : Array Slot), lv_has ls 6 [(4, .int l4)] → ∀ (H : Heap) (locs : List Loc), va_P (dC, dI) vwCl (wX8_fewestFrom cI cZ a (sr M 5 (N 5))) H → va_D A (wX8_fewestFrom cI cZ a (sr M 5 (N 5))) → va_S A s.heap H locs → W p l e (headSpec wsX8_fewestFrom ({ frames := 10, cells := 0, slots := 0, locals := 245 } : Room)).room s m ([.ref (a 0), .ref (a 5), .int a2, .int a3, .int a4] : List Value).toArray below meth c H locs 0 0 (MQ below (va_Qi (S := Unit) (fun r _ => r = z.1) (fun _ t => WE (dC, dI) cI cZ (wX8_fewestFrom cI cZ a (sr M 5 (z.2 5))) A t) A) ([.ref (a 0), .ref (a 5), .int a2, .int a3, .int a4] : List Value).toArray s 0 0 A) (F0 m 31 ls []) := by
    intro  N l4 hf ls hl H locs hP hD hS
    unfold fX8_fewestFrom_B31 at hf
    refine lv_iload hx hb dX8_fewestFrom_31 (lv_at hl 0 rfl) ?_
    have e9 := so_e hf
    subst e9
    exact W.iret (v := l4) hx hb hr (fun t ht hW => ⟨⟨l4, (), rfl, rfl, WE.mk hP hD ht⟩, hS.F ht⟩) hS.2.2 dX8_fewestFrom_33
  have hfX8_fewestFrom_B76 : ∀ (N : Mem) (l2 : Int32) (l3 : Int32) (l5 : Int32), fX8_fewestFrom_B76 (fX8_fewestFrom 5) M  N l2 l3 l5 = some z → ∀ (ls : Array Slot), lv_has ls 6 [(0, .ref (a 0)), (1, .ref (a 5)), (2, .int l2), (3, .int l3), (5, .int l5)] → ∀ (H : Heap) (locs : List Loc), va_P (dC, dI) vwCl (wX8_fewestFrom cI cZ a (sr M 5 (N 5))) H → va_D A (wX8_fewestFrom cI cZ a (sr M 5 (N 5))) → va_S A s.heap H locs → W p l e (headSpec wsX8_fewestFrom ({ frames := 10, cells := 0, slots := 0, locals := 245 } : Room)).room s m ([.ref (a 0), .ref (a 5), .int a2, .int a3, .int a4] : List Value).toArray below meth c H locs 0 0 (MQ below (va_Qi (S := Unit) (fun r _ => r = z.1) (fun _ t => WE (dC, dI) cI cZ (wX8_fewestFrom cI cZ a (sr M 5 (z.2 5))) A t) A) ([.ref (a 0), .ref (a 5), .int a2, .int a3, .int a4] : List Value).toArray s 0 0 A) (F0 m 76 ls []) := by
    intro  N l2 l3 l5 hf ls hl H locs hP hD hS
    unfold fX8_fewestFrom_B76 at hf
    refine lv_aload_n hx hb dX8_fewestFrom_76 rfl (lv_at hl 0 rfl) ?_
    refine lv_aload_n hx hb dX8_fewestFrom_77 rfl (lv_at hl 1 rfl) ?_
    refine lv_iload_n hx hb dX8_fewestFrom_78 rfl (lv_at hl 2 rfl) ?_
    refine lv_iconst (v := (1 : Int32)) hx hb dX8_fewestFrom_79 (by decide) ?_
    refine lv_iadd hx hb dX8_fewestFrom_80 ?_
    refine lv_iload_n hx hb dX8_fewestFrom_81 rfl (lv_at hl 3 rfl) ?_
    refine lv_iload hx hb dX8_fewestFrom_82 (lv_at hl 4 rfl) ?_
    obtain ⟨r84, hc84, hf⟩ := bi_s hf
    have hPc := hP
    have hDc := hD
    have hFc := va_free (wc := (wX8_fewestFrom cI cZ a (sr M 5 (N 5)))) hD hS hA [0, 1, 2, 3, 4, 5] rfl
    refine va_calli (va_runS (As := [.ref (a 0), .ref (a 5), .int (l2 + (1 : Int32)), .int l3, .int l5]) (rest := []) ⟨hx, hb, hml, hown, hts⟩ (c_X8_fewestFrom_5 l dC dI cI cZ a H.size (sr M 5 (N 5)) (l2 + (1 : Int32)) l3 l5 r84 hc84) (va_cwS 5 hts gX8_fewestFrom_X8_fewestFrom rfl rfl rfl (by decide +kernel) ⟨Nat.le_of_ble_eq_true rfl, Nat.le_of_ble_eq_true rfl⟩) ⟨WR.blind, WR.pre hPc hK hDc hNW⟩ rfl rfl hl.1 rfl (lv_room (Nat.le_of_ble_eq_true rfl)) dX8_fewestFrom_84 ⟨Nat.le_of_ble_eq_true rfl, Nat.le_of_ble_eq_true rfl⟩) hS (fun q _ h => hFc q h) hFc (fun rv u t H1 locs ht hvm hw hB hz1 hk1 hS => ?_)
    obtain ⟨hP1, hD1⟩ := hB
    rw [ht] at hP1
    subst hw
    have hP := hP1
    have hD := hD1.weaken (fun k q _ h => hFc q.1 h)
    have hP : va_P (dC, dI) vwCl (wX8_fewestFrom cI cZ a (sr M 5 (r84.2 5))) H1 := hP
    have hD : va_D A (wX8_fewestFrom cI cZ a (sr M 5 (r84.2 5))) := hD
    generalize H1 = H at hP hS ⊢
    have e9 := so_e hf
    subst e9
    exact W.iret (v := r84.1) hx hb hr (fun t ht hW => ⟨⟨r84.1, (), rfl, rfl, WE.mk hP hD ht⟩, hS.F ht⟩) hS.2.2 dX8_fewestFrom_87
  have hl := lv_entry ([.ref (a 0), .ref (a 5), .int a2, .int a3, .int a4]) (n := 6) (Nat.le_of_ble_eq_true rfl)
  rw [lg_entry_eq]
  generalize (lg_sl ([.ref (a 0), .ref (a 5), .int a2, .int a3, .int a4]) ++ List.replicate (6 - (lg_sl ([.ref (a 0), .ref (a 5), .int a2, .int a3, .int a4])).length) Slot.unset).toArray = ls at hl ⊢
  have hl : lv_has ls 6 [(0, .ref (a 0)), (1, .ref (a 5)), (2, .int a2), (3, .int a3), (4, .int a4)] := hl
  rw [fX8_fewestFrom] at hf
  suffices hgo : ∀ (H : Heap) (locs : List Loc), va_P (dC, dI) vwCl (wX8_fewestFrom cI cZ a M) H → va_D A (wX8_fewestFrom cI cZ a M) → va_S A s.heap H locs → W p l e (headSpec wsX8_fewestFrom ({ frames := 10, cells := 0, slots := 0, locals := 245 } : Room)).room s m ([.ref (a 0), .ref (a 5), .int a2, .int a3, .int a4] : List Value).toArray below meth c H locs 0 0 (MQ below (va_Qi (S := Unit) (fun r _ => r = z.1) (fun _ t => WE (dC, dI) cI cZ (wX8_fewestFrom cI cZ a (sr M 5 (z.2 5))) A t) A) ([.ref (a 0), .ref (a 5), .int a2, .int a3, .int a4] : List Value).toArray s 0 0 A) (F0 m 0 ls []) from hgo _ _ hP hD hS
  intro H locs hP hD hS
  refine lv_aload_n hx hb dX8_fewestFrom_0 rfl (lv_at hl 1 rfl) ?_
  obtain ⟨r1, hc1, hf⟩ := bi_s hf
  have hPc := hP.sub (ws' := (wX8_isLacking cI cZ (ofs 5 a) (ofs 5 M))) [5] rfl
  refine cRO (W.runS (As := [.ref (a 5)]) (rest := []) ⟨hx, hb, hml, hown, hts⟩ (c_X8_isLacking l dC dI cI cZ (ofs 5 a) (ofs 5 M) r1 hc1) (va_cwS 1 hts gX8_fewestFrom_X8_isLacking rfl rfl rfl (by decide +kernel) ⟨Nat.le_of_ble_eq_true rfl, Nat.le_of_ble_eq_true rfl⟩) ⟨RO.blind, RO.pre hPc hK hNW⟩ rfl rfl hl.1 rfl (lv_room (Nat.le_of_ble_eq_true rfl)) dX8_fewestFrom_1 ⟨Nat.le_of_ble_eq_true rfl, Nat.le_of_ble_eq_true rfl⟩) ?_
  refine lv_if_ne (tgt := 9) hx hb dX8_fewestFrom_4 (by decide) (fun c9 => ?_) (fun c9 => ?_)
  · have hf := it_t hf c9
    refine lv_iload_n hx hb dX8_fewestFrom_9 rfl (lv_at hl 2 rfl) ?_
    refine lv_aload_n hx hb dX8_fewestFrom_10 rfl (lv_at hl 0 rfl) ?_
    refine va_getN (D := (dC, dI)) (ci := 7) (v := .int (M 0 0)) (C := RX7) (T := TX7) (N := 6) hx hb hts hinX7 hown hK hP 0 rfl rfl 0 (by decide) (nw24 hNW) (fun _ h9 => h9) rfl dX8_fewestFrom_11 ?_
    refine lv_icmp_ge (tgt := 31) hx hb dX8_fewestFrom_14 (by decide) (fun c9 => ?_) (fun c9 => ?_)
    · have hf := it_t hf c9
      exact hfX8_fewestFrom_B31  M a4 hf _ (lv_sub hl [4] rfl) _ _ hP hD hS
    · have hf := it_f hf c9
      refine lv_iload_n hx hb dX8_fewestFrom_17 rfl (lv_at hl 2 rfl) ?_
      refine lv_bipush (v := (12 : Int32)) hx hb dX8_fewestFrom_18 (by decide) ?_
      refine lv_icmp_ge (tgt := 31) hx hb dX8_fewestFrom_20 (by decide) (fun c9 => ?_) (fun c9 => ?_)
      · have hf := it_t hf c9
        exact hfX8_fewestFrom_B31  M a4 hf _ (lv_sub hl [4] rfl) _ _ hP hD hS
      · have hf := it_f hf c9
        refine lv_iload_n hx hb dX8_fewestFrom_23 rfl (lv_at hl 3 rfl) ?_
        refine lv_iconst (v := (1 : Int32)) hx hb dX8_fewestFrom_24 (by decide) ?_
        refine lv_iadd hx hb dX8_fewestFrom_25 ?_
        refine lv_iload hx hb dX8_fewestFrom_26 (lv_at hl 4 rfl) ?_
        refine lv_icmp_lt (tgt := 34) hx hb dX8_fewestFrom_28 (by decide) (fun c9 => ?_) (fun c9 => ?_)
        · have hf := it_t hf c9
          refine lv_iload hx hb dX8_fewestFrom_34 (lv_at hl 4 rfl) ?_
          refine lv_istore (lv' := [(5, .int a4), (0, .ref (a 0)), (1, .ref (a 5)), (2, .int a2), (3, .int a3), (4, .int a4)]) hx hb dX8_fewestFrom_36 hl (by decide) rfl (fun ls hl => ?_)
          refine lv_aload_n hx hb dX8_fewestFrom_38 rfl (lv_at hl 1 rfl) ?_
          refine lv_iload_n hx hb dX8_fewestFrom_39 rfl (lv_at hl 3 rfl) ?_
          refine lv_aload_n hx hb dX8_fewestFrom_40 rfl (lv_at hl 2 rfl) ?_
          obtain ⟨r41, hc41, hf⟩ := bi_s hf
          have hPc := hP.sub (ws' := (wX7_helps cI cZ a M)) [0, 1, 2, 3, 4, 5] rfl
          refine cRO (va_Run.run (va_runVN (As := [.int a2, .ref (a 5)]) (rest := []) ⟨hx, hb, hml, hown, hts⟩ (c_X7_helps l dC dI cI cZ a M a2 r41 hc41) ⟨va_cnB 2 hts gX8_fewestFrom_X7_helps_n454 rfl rfl rfl (nw64 hNW) hw1 (by decide +kernel) ⟨Nat.le_of_ble_eq_true rfl, Nat.le_of_ble_eq_true rfl⟩, hw2, hw3⟩ ⟨RO.blind, va_recv hK hP (ci := 7) (q0 := 0) rfl rfl, RO.pre hPc hK hNW⟩ rfl rfl hl.1 rfl (lv_room (Nat.le_of_ble_eq_true rfl)) dX8_fewestFrom_41 ⟨Nat.le_of_ble_eq_true rfl, Nat.le_of_ble_eq_true rfl⟩)) ?_
          refine lv_if_eq (tgt := 76) hx hb dX8_fewestFrom_44 (by decide) (fun c9 => ?_) (fun c9 => ?_)
          · have hf := it_t hf c9
            exact hfX8_fewestFrom_B76  M a2 a3 a4 hf _ (lv_sub hl [1, 2, 3, 4, 0] rfl) _ _ hP hD hS
          · have hf := it_f hf c9
            refine lv_aload_n hx hb dX8_fewestFrom_47 rfl (lv_at hl 1 rfl) ?_
            refine lv_iload_n hx hb dX8_fewestFrom_48 rfl (lv_at hl 3 rfl) ?_
            refine lv_aload_n hx hb dX8_fewestFrom_49 rfl (lv_at hl 2 rfl) ?_
            refine lv_iconst (v := (-1 : Int32)) hx hb dX8_fewestFrom_50 (by decide) ?_
            obtain ⟨r51, hc51, hf⟩ := bi_s hf
            have hPc := hP.sub (ws' := (wX7_lend cI cZ a M)) [0, 1, 2, 3, 4, 5] rfl
            have hDc := hD.sub (ws' := (wX7_lend cI cZ a M)) [0, 1, 2, 3, 4, 5] (by decide) rfl
            have hFc := va_free (wc := (wX7_lend cI cZ a M)) hD hS hA [0, 1, 2, 3, 4, 5] rfl
            refine va_callv (va_runVN (As := [.int a2, .ref (a 5), .int (-1 : Int32)]) (rest := []) ⟨hx, hb, hml, hown, hts⟩ (c_X7_lend l dC dI cI cZ a H.size M a2 (-1 : Int32) r51 hc51) ⟨va_cnB 3 hts gX8_fewestFrom_X7_lend_n458 rfl rfl rfl (nw65 hNW) hw1 (by decide +kernel) ⟨Nat.le_of_ble_eq_true rfl, Nat.le_of_ble_eq_true rfl⟩, hw4, hw5⟩ ⟨WR.blind, va_recv hK hP (ci := 7) (q0 := 0) rfl rfl, WR.pre hPc hK hDc hNW⟩ rfl rfl hl.1 rfl (lv_room (Nat.le_of_ble_eq_true rfl)) dX8_fewestFrom_51 ⟨Nat.le_of_ble_eq_true rfl, Nat.le_of_ble_eq_true rfl⟩) hS (fun q _ h => hFc q h) hFc (fun u t H1 locs ht hvm hw hB hz1 hk1 hS => ?_)
            obtain ⟨hP1, hD1⟩ := hB
            rw [ht] at hP1
            obtain ⟨hP, hD⟩ := va_join (wr := []) (w1 := (wX7_lend cI cZ a (sr M 5 (r51 5)))) hP hD [0, 1, 2, 3, 4, 5] [] rfl rfl (by decide) (by decide) hk1 hFc hP1 hD1
            have hP := hP.sub (ws' := (wX8_fewestFrom cI cZ a (sr M 5 (r51 5)))) [0, 1, 2, 3, 4, 5] rfl
            have hD := hD.sub (ws' := (wX8_fewestFrom cI cZ a (sr M 5 (r51 5)))) [0, 1, 2, 3, 4, 5] (by decide) rfl
            generalize H1 = H at hP hS ⊢
            refine lv_aload_n hx hb dX8_fewestFrom_54 rfl (lv_at hl 1 rfl) ?_
            refine lv_aload_n hx hb dX8_fewestFrom_55 rfl (lv_at hl 2 rfl) ?_
            refine lv_iload_n hx hb dX8_fewestFrom_56 rfl (lv_at hl 3 rfl) ?_
            refine lv_iconst (v := (1 : Int32)) hx hb dX8_fewestFrom_57 (by decide) ?_
            refine lv_iadd hx hb dX8_fewestFrom_58 ?_
            refine lv_iload_n hx hb dX8_fewestFrom_59 rfl (lv_at hl 4 rfl) ?_
            refine lv_iconst (v := (1 : Int32)) hx hb dX8_fewestFrom_60 (by decide) ?_
            refine lv_iadd hx hb dX8_fewestFrom_61 ?_
            refine lv_iload hx hb dX8_fewestFrom_62 (lv_at hl 0 rfl) ?_
            obtain ⟨r64, hc64, hf⟩ := bi_s hf
            have hPc := hP
            have hDc := hD
            have hFc := va_free (wc := (wX8_fewestFrom cI cZ a (sr M 5 (r51 5)))) hD hS hA [0, 1, 2, 3, 4, 5] rfl
            refine va_calli (va_runS (As := [.ref (a 0), .ref (a 5), .int (a2 + (1 : Int32)), .int (a3 + (1 : Int32)), .int a4]) (rest := []) ⟨hx, hb, hml, hown, hts⟩ (c_X8_fewestFrom_5 l dC dI cI cZ a H.size (sr M 5 (r51 5)) (a2 + (1 : Int32)) (a3 + (1 : Int32)) a4 r64 hc64) (va_cwS 5 hts gX8_fewestFrom_X8_fewestFrom rfl rfl rfl (by decide +kernel) ⟨Nat.le_of_ble_eq_true rfl, Nat.le_of_ble_eq_true rfl⟩) ⟨WR.blind, WR.pre hPc hK hDc hNW⟩ rfl rfl hl.1 rfl (lv_room (Nat.le_of_ble_eq_true rfl)) dX8_fewestFrom_64 ⟨Nat.le_of_ble_eq_true rfl, Nat.le_of_ble_eq_true rfl⟩) hS (fun q _ h => hFc q h) hFc (fun rv u t H1 locs ht hvm hw hB hz1 hk1 hS => ?_)
            obtain ⟨hP1, hD1⟩ := hB
            rw [ht] at hP1
            subst hw
            have hP := hP1
            have hD := hD1.weaken (fun k q _ h => hFc q.1 h)
            have hP : va_P (dC, dI) vwCl (wX8_fewestFrom cI cZ a (sr M 5 (r64.2 5))) H1 := hP
            have hD : va_D A (wX8_fewestFrom cI cZ a (sr M 5 (r64.2 5))) := hD
            generalize H1 = H at hP hS ⊢
            refine lv_istore (lv' := [(5, .int r64.1), (0, .ref (a 0)), (1, .ref (a 5)), (2, .int a2), (3, .int a3), (4, .int a4)]) hx hb dX8_fewestFrom_67 hl (by decide) rfl (fun ls hl => ?_)
            refine lv_aload_n hx hb dX8_fewestFrom_69 rfl (lv_at hl 1 rfl) ?_
            refine lv_iload_n hx hb dX8_fewestFrom_70 rfl (lv_at hl 3 rfl) ?_
            refine lv_aload_n hx hb dX8_fewestFrom_71 rfl (lv_at hl 2 rfl) ?_
            refine lv_iconst (v := (1 : Int32)) hx hb dX8_fewestFrom_72 (by decide) ?_
            obtain ⟨r73, hc73, hf⟩ := bi_s hf
            have hPc := hP.sub (ws' := (wX7_lend cI cZ a (sr M 5 (r64.2 5)))) [0, 1, 2, 3, 4, 5] rfl
            have hDc := hD.sub (ws' := (wX7_lend cI cZ a (sr M 5 (r64.2 5)))) [0, 1, 2, 3, 4, 5] (by decide) rfl
            have hFc := va_free (wc := (wX7_lend cI cZ a (sr M 5 (r64.2 5)))) hD hS hA [0, 1, 2, 3, 4, 5] rfl
            refine va_callv (va_runVN (As := [.int a2, .ref (a 5), .int (1 : Int32)]) (rest := []) ⟨hx, hb, hml, hown, hts⟩ (c_X7_lend l dC dI cI cZ a H.size (sr M 5 (r64.2 5)) a2 (1 : Int32) r73 hc73) ⟨va_cnB 3 hts gX8_fewestFrom_X7_lend_n458 rfl rfl rfl (nw65 hNW) hw1 (by decide +kernel) ⟨Nat.le_of_ble_eq_true rfl, Nat.le_of_ble_eq_true rfl⟩, hw4, hw5⟩ ⟨WR.blind, va_recv hK hP (ci := 7) (q0 := 0) rfl rfl, WR.pre hPc hK hDc hNW⟩ rfl rfl hl.1 rfl (lv_room (Nat.le_of_ble_eq_true rfl)) dX8_fewestFrom_73 ⟨Nat.le_of_ble_eq_true rfl, Nat.le_of_ble_eq_true rfl⟩) hS (fun q _ h => hFc q h) hFc (fun u t H1 locs ht hvm hw hB hz1 hk1 hS => ?_)
            obtain ⟨hP1, hD1⟩ := hB
            rw [ht] at hP1
            obtain ⟨hP, hD⟩ := va_join (wr := []) (w1 := (wX7_lend cI cZ a (sr (sr M 5 (r64.2 5)) 5 (r73 5)))) hP hD [0, 1, 2, 3, 4, 5] [] rfl rfl (by decide) (by decide) hk1 hFc hP1 hD1
            have hP := hP.sub (ws' := (wX8_fewestFrom cI cZ a (sr M 5 (r73 5)))) [0, 1, 2, 3, 4, 5] rfl
            have hD := hD.sub (ws' := (wX8_fewestFrom cI cZ a (sr M 5 (r73 5)))) [0, 1, 2, 3, 4, 5] (by decide) rfl
            generalize H1 = H at hP hS ⊢
            exact hfX8_fewestFrom_B76  (sr M 5 (r73 5)) a2 a3 r64.1 hf _ (lv_sub hl [1, 2, 3, 4, 0] rfl) _ _ hP hD hS
        · have hf := it_f hf c9
          exact hfX8_fewestFrom_B31  M a4 hf _ (lv_sub hl [4] rfl) _ _ hP hD hS
  · have hf := it_n hf c9
    refine lv_iload_n hx hb dX8_fewestFrom_7 rfl (lv_at hl 3 rfl) ?_
    have e9 := so_e hf
    subst e9
    exact W.iret (v := a3) hx hb hr (fun t ht hW => ⟨⟨a3, (), rfl, rfl, WE.mk hP hD ht⟩, hS.F ht⟩) hS.2.2 dX8_fewestFrom_8
set_option maxHeartbeats 4000000 in
set_option maxRecDepth 100000 in
theorem c_X8_fewestFrom_7 (l : Launch) (dC : Nat → ClassId) (dI : Nat → Nat → Nat) (cI cZ : ClassId) (a : Nat → Nat) (sz : Nat) (M : Mem) (a2 : Int32) (a3 : Int32) (a4 : Int32) (z : Int32 × Mem) (hf : fX8_fewestFrom (6 + 1) M a2 a3 a4 = some z) : Met l yX8_fewestFrom wsX8_fewestFrom ({ frames := 11, cells := 0, slots := 0, locals := 270 } : Room) (va_Pc [.ref (a 0), .ref (a 5), .int a2, .int a3, .int a4] (WR (dC, dI) cI cZ (wX8_fewestFrom cI cZ a M) sz)) (va_Qi (S := Unit) (fun r _ => r = z.1) (fun _ t => WE (dC, dI) cI cZ (wX8_fewestFrom cI cZ a (sr M 5 (z.2 5))) (va_A (wX8_fewestFrom cI cZ a M) sz) t) (va_A (wX8_fewestFrom cI cZ a M) sz)) 0 0 (va_A (wX8_fewestFrom cI cZ a M) sz) := by
  refine Met.ofW (cc := cX8_fewestFrom) (maxL := 6) (ret := (some .int)) (by decide) rfl ?_
  intro p e s m args below meth c s₁ B hml hv
  obtain ⟨rfl, hsz, hP, hK, hD0, hNW⟩ := hv
  have hx := B.exec
  have hb := B.bytes
  have hr := B.returns
  have hts := atoms_spec (ws := wsX8_fewestFrom) B.pre
  have hown : s.vm.findClass RX8 = some m.cls := findClass_of_methodNamed B.named
  have hlocks := B.notSynchronized
  have hinX7 : ∀ w ∈ u_ws RX7 TX7 6, w ∈ wsX8_fewestFrom := by decide +kernel
  have hw1 := hts (.initialized RX7) (by decide +kernel)
  have hw2 := hts (.instanceMethod yX7_helps) (by decide +kernel)
  have hw3 := hts (.selects RX7 yX7_helps yX7_helps) (by decide +kernel)
  have hw4 := hts (.instanceMethod yX7_lend) (by decide +kernel)
  have hw5 := hts (.selects RX7 yX7_lend yX7_lend) (by decide +kernel)
  subst hsz
  have hD := hD0.self (sz := s.heap.size)
  generalize hAe : va_A (wX8_fewestFrom cI cZ a M) s.heap.size = A at hD ⊢
  have hA : ∀ q : Nat, s.heap.size ≤ q → A q := fun q h => by rw [← hAe]; exact Or.inr h
  have hS : va_S A s.heap s.heap [] := va_S.rf
  have hfX8_fewestFrom_B31 : ∀ (N : Mem) (l4 : Int32), fX8_fewestFrom_B31 M  N l4 = some z → ∀ (ls : Array Slot), lv_has ls 6 [(4, .int l4)] → ∀ (H : Heap) (locs : List Loc), va_P (dC, dI) vwCl (wX8_fewestFrom cI cZ a (sr M 5 (N 5))) H → va_D A (wX8_fewestFrom cI cZ a (sr M 5 (N 5))) → va_S A s.heap H locs → W p l e (headSpec wsX8_fewestFrom ({ frames := 11, cells := 0, slots := 0, locals := 270 } : Room)).room s m ([.ref (a 0), .ref (a 5), .int a2, .int a3, .int a4] : List Value).toArray below meth c H locs 0 0 (MQ below (va_Qi (S := Unit) (fun r _ => r = z.1) (fun _ t => WE (dC, dI) cI cZ (wX8_fewestFrom cI cZ a (sr M 5 (z.2 5))) A t) A) ([.ref (a 0), .ref (a 5), .int a2, .int a3, .int a4] : List Value).toArray s 0 0 A) (F0 m 31 ls []) := by
    intro  N l4 hf ls hl H locs hP hD hS
    unfold fX8_fewestFrom_B31 at hf
    refine lv_iload hx hb dX8_fewestFrom_31 (lv_at hl 0 rfl) ?_
    have e9 := so_e hf
    subst e9
    exact W.iret (v := l4) hx hb hr (fun t ht hW => ⟨⟨l4, (), rfl, rfl, WE.mk hP hD ht⟩, hS.F ht⟩) hS.2.2 dX8_fewestFrom_33
  have hfX8_fewestFrom_B76 : ∀ (N : Mem) (l2 : Int32) (l3 : Int32) (l5 : Int32), fX8_fewestFrom_B76 (fX8_fewestFrom 6) M  N l2 l3 l5 = some z → ∀ (ls : Array Slot), lv_has ls 6 [(0, .ref (a 0)), (1, .ref (a 5)), (2, .int l2), (3, .int l3), (5, .int l5)] → ∀ (H : Heap) (locs : List Loc), va_P (dC, dI) vwCl (wX8_fewestFrom cI cZ a (sr M 5 (N 5))) H → va_D A (wX8_fewestFrom cI cZ a (sr M 5 (N 5))) → va_S A s.heap H locs → W p l e (headSpec wsX8_fewestFrom ({ frames := 11, cells := 0, slots := 0, locals := 270 } : Room)).room s m ([.ref (a 0), .ref (a 5), .int a2, .int a3, .int a4] : List Value).toArray below meth c H locs 0 0 (MQ below (va_Qi (S := Unit) (fun r _ => r = z.1) (fun _ t => WE (dC, dI) cI cZ (wX8_fewestFrom cI cZ a (sr M 5 (z.2 5))) A t) A) ([.ref (a 0), .ref (a 5), .int a2, .int a3, .int a4] : List Value).toArray s 0 0 A) (F0 m 76 ls []) := by
    intro  N l2 l3 l5 hf ls hl H locs hP hD hS
    unfold fX8_fewestFrom_B76 at hf
    refine lv_aload_n hx hb dX8_fewestFrom_76 rfl (lv_at hl 0 rfl) ?_
    refine lv_aload_n hx hb dX8_fewestFrom_77 rfl (lv_at hl 1 rfl) ?_
    refine lv_iload_n hx hb dX8_fewestFrom_78 rfl (lv_at hl 2 rfl) ?_
    refine lv_iconst (v := (1 : Int32)) hx hb dX8_fewestFrom_79 (by decide) ?_
    refine lv_iadd hx hb dX8_fewestFrom_80 ?_
    refine lv_iload_n hx hb dX8_fewestFrom_81 rfl (lv_at hl 3 rfl) ?_
    refine lv_iload hx hb dX8_fewestFrom_82 (lv_at hl 4 rfl) ?_
    obtain ⟨r84, hc84, hf⟩ := bi_s hf
    have hPc := hP
    have hDc := hD
    have hFc := va_free (wc := (wX8_fewestFrom cI cZ a (sr M 5 (N 5)))) hD hS hA [0, 1, 2, 3, 4, 5] rfl
    refine va_calli (va_runS (As := [.ref (a 0), .ref (a 5), .int (l2 + (1 : Int32)), .int l3, .int l5]) (rest := []) ⟨hx, hb, hml, hown, hts⟩ (c_X8_fewestFrom_6 l dC dI cI cZ a H.size (sr M 5 (N 5)) (l2 + (1 : Int32)) l3 l5 r84 hc84) (va_cwS 5 hts gX8_fewestFrom_X8_fewestFrom rfl rfl rfl (by decide +kernel) ⟨Nat.le_of_ble_eq_true rfl, Nat.le_of_ble_eq_true rfl⟩) ⟨WR.blind, WR.pre hPc hK hDc hNW⟩ rfl rfl hl.1 rfl (lv_room (Nat.le_of_ble_eq_true rfl)) dX8_fewestFrom_84 ⟨Nat.le_of_ble_eq_true rfl, Nat.le_of_ble_eq_true rfl⟩) hS (fun q _ h => hFc q h) hFc (fun rv u t H1 locs ht hvm hw hB hz1 hk1 hS => ?_)
    obtain ⟨hP1, hD1⟩ := hB
    rw [ht] at hP1
    subst hw
    have hP := hP1
    have hD := hD1.weaken (fun k q _ h => hFc q.1 h)
    have hP : va_P (dC, dI) vwCl (wX8_fewestFrom cI cZ a (sr M 5 (r84.2 5))) H1 := hP
    have hD : va_D A (wX8_fewestFrom cI cZ a (sr M 5 (r84.2 5))) := hD
    generalize H1 = H at hP hS ⊢
    have e9 := so_e hf
    subst e9
    exact W.iret (v := r84.1) hx hb hr (fun t ht hW => ⟨⟨r84.1, (), rfl, rfl, WE.mk hP hD ht⟩, hS.F ht⟩) hS.2.2 dX8_fewestFrom_87
  have hl := lv_entry ([.ref (a 0), .ref (a 5), .int a2, .int a3, .int a4]) (n := 6) (Nat.le_of_ble_eq_true rfl)
  rw [lg_entry_eq]
  generalize (lg_sl ([.ref (a 0), .ref (a 5), .int a2, .int a3, .int a4]) ++ List.replicate (6 - (lg_sl ([.ref (a 0), .ref (a 5), .int a2, .int a3, .int a4])).length) Slot.unset).toArray = ls at hl ⊢
  have hl : lv_has ls 6 [(0, .ref (a 0)), (1, .ref (a 5)), (2, .int a2), (3, .int a3), (4, .int a4)] := hl
  rw [fX8_fewestFrom] at hf
  suffices hgo : ∀ (H : Heap) (locs : List Loc), va_P (dC, dI) vwCl (wX8_fewestFrom cI cZ a M) H → va_D A (wX8_fewestFrom cI cZ a M) → va_S A s.heap H locs → W p l e (headSpec wsX8_fewestFrom ({ frames := 11, cells := 0, slots := 0, locals := 270 } : Room)).room s m ([.ref (a 0), .ref (a 5), .int a2, .int a3, .int a4] : List Value).toArray below meth c H locs 0 0 (MQ below (va_Qi (S := Unit) (fun r _ => r = z.1) (fun _ t => WE (dC, dI) cI cZ (wX8_fewestFrom cI cZ a (sr M 5 (z.2 5))) A t) A) ([.ref (a 0), .ref (a 5), .int a2, .int a3, .int a4] : List Value).toArray s 0 0 A) (F0 m 0 ls []) from hgo _ _ hP hD hS
  intro H locs hP hD hS
  refine lv_aload_n hx hb dX8_fewestFrom_0 rfl (lv_at hl 1 rfl) ?_
  obtain ⟨r1, hc1, hf⟩ := bi_s hf
  have hPc := hP.sub (ws' := (wX8_isLacking cI cZ (ofs 5 a) (ofs 5 M))) [5] rfl
  refine cRO (W.runS (As := [.ref (a 5)]) (rest := []) ⟨hx, hb, hml, hown, hts⟩ (c_X8_isLacking l dC dI cI cZ (ofs 5 a) (ofs 5 M) r1 hc1) (va_cwS 1 hts gX8_fewestFrom_X8_isLacking rfl rfl rfl (by decide +kernel) ⟨Nat.le_of_ble_eq_true rfl, Nat.le_of_ble_eq_true rfl⟩) ⟨RO.blind, RO.pre hPc hK hNW⟩ rfl rfl hl.1 rfl (lv_room (Nat.le_of_ble_eq_true rfl)) dX8_fewestFrom_1 ⟨Nat.le_of_ble_eq_true rfl, Nat.le_of_ble_eq_true rfl⟩) ?_
  refine lv_if_ne (tgt := 9) hx hb dX8_fewestFrom_4 (by decide) (fun c9 => ?_) (fun c9 => ?_)
  · have hf := it_t hf c9
    refine lv_iload_n hx hb dX8_fewestFrom_9 rfl (lv_at hl 2 rfl) ?_
    refine lv_aload_n hx hb dX8_fewestFrom_10 rfl (lv_at hl 0 rfl) ?_
    refine va_getN (D := (dC, dI)) (ci := 7) (v := .int (M 0 0)) (C := RX7) (T := TX7) (N := 6) hx hb hts hinX7 hown hK hP 0 rfl rfl 0 (by decide) (nw24 hNW) (fun _ h9 => h9) rfl dX8_fewestFrom_11 ?_
    refine lv_icmp_ge (tgt := 31) hx hb dX8_fewestFrom_14 (by decide) (fun c9 => ?_) (fun c9 => ?_)
    · have hf := it_t hf c9
      exact hfX8_fewestFrom_B31  M a4 hf _ (lv_sub hl [4] rfl) _ _ hP hD hS
    · have hf := it_f hf c9
      refine lv_iload_n hx hb dX8_fewestFrom_17 rfl (lv_at hl 2 rfl) ?_
      refine lv_bipush (v := (12 : Int32)) hx hb dX8_fewestFrom_18 (by decide) ?_
      refine lv_icmp_ge (tgt := 31) hx hb dX8_fewestFrom_20 (by decide) (fun c9 => ?_) (fun c9 => ?_)
      · have hf := it_t hf c9
        exact hfX8_fewestFrom_B31  M a4 hf _ (lv_sub hl [4] rfl) _ _ hP hD hS
      · have hf := it_f hf c9
        refine lv_iload_n hx hb dX8_fewestFrom_23 rfl (lv_at hl 3 rfl) ?_
        refine lv_iconst (v := (1 : Int32)) hx hb dX8_fewestFrom_24 (by decide) ?_
        refine lv_iadd hx hb dX8_fewestFrom_25 ?_
        refine lv_iload hx hb dX8_fewestFrom_26 (lv_at hl 4 rfl) ?_
        refine lv_icmp_lt (tgt := 34) hx hb dX8_fewestFrom_28 (by decide) (fun c9 => ?_) (fun c9 => ?_)
        · have hf := it_t hf c9
          refine lv_iload hx hb dX8_fewestFrom_34 (lv_at hl 4 rfl) ?_
          refine lv_istore (lv' := [(5, .int a4), (0, .ref (a 0)), (1, .ref (a 5)), (2, .int a2), (3, .int a3), (4, .int a4)]) hx hb dX8_fewestFrom_36 hl (by decide) rfl (fun ls hl => ?_)
          refine lv_aload_n hx hb dX8_fewestFrom_38 rfl (lv_at hl 1 rfl) ?_
          refine lv_iload_n hx hb dX8_fewestFrom_39 rfl (lv_at hl 3 rfl) ?_
          refine lv_aload_n hx hb dX8_fewestFrom_40 rfl (lv_at hl 2 rfl) ?_
          obtain ⟨r41, hc41, hf⟩ := bi_s hf
          have hPc := hP.sub (ws' := (wX7_helps cI cZ a M)) [0, 1, 2, 3, 4, 5] rfl
          refine cRO (va_Run.run (va_runVN (As := [.int a2, .ref (a 5)]) (rest := []) ⟨hx, hb, hml, hown, hts⟩ (c_X7_helps l dC dI cI cZ a M a2 r41 hc41) ⟨va_cnB 2 hts gX8_fewestFrom_X7_helps_n454 rfl rfl rfl (nw64 hNW) hw1 (by decide +kernel) ⟨Nat.le_of_ble_eq_true rfl, Nat.le_of_ble_eq_true rfl⟩, hw2, hw3⟩ ⟨RO.blind, va_recv hK hP (ci := 7) (q0 := 0) rfl rfl, RO.pre hPc hK hNW⟩ rfl rfl hl.1 rfl (lv_room (Nat.le_of_ble_eq_true rfl)) dX8_fewestFrom_41 ⟨Nat.le_of_ble_eq_true rfl, Nat.le_of_ble_eq_true rfl⟩)) ?_
          refine lv_if_eq (tgt := 76) hx hb dX8_fewestFrom_44 (by decide) (fun c9 => ?_) (fun c9 => ?_)
          · have hf := it_t hf c9
            exact hfX8_fewestFrom_B76  M a2 a3 a4 hf _ (lv_sub hl [1, 2, 3, 4, 0] rfl) _ _ hP hD hS
          · have hf := it_f hf c9
            refine lv_aload_n hx hb dX8_fewestFrom_47 rfl (lv_at hl 1 rfl) ?_
            refine lv_iload_n hx hb dX8_fewestFrom_48 rfl (lv_at hl 3 rfl) ?_
            refine lv_aload_n hx hb dX8_fewestFrom_49 rfl (lv_at hl 2 rfl) ?_
            refine lv_iconst (v := (-1 : Int32)) hx hb dX8_fewestFrom_50 (by decide) ?_
            obtain ⟨r51, hc51, hf⟩ := bi_s hf
            have hPc := hP.sub (ws' := (wX7_lend cI cZ a M)) [0, 1, 2, 3, 4, 5] rfl
            have hDc := hD.sub (ws' := (wX7_lend cI cZ a M)) [0, 1, 2, 3, 4, 5] (by decide) rfl
            have hFc := va_free (wc := (wX7_lend cI cZ a M)) hD hS hA [0, 1, 2, 3, 4, 5] rfl
            refine va_callv (va_runVN (As := [.int a2, .ref (a 5), .int (-1 : Int32)]) (rest := []) ⟨hx, hb, hml, hown, hts⟩ (c_X7_lend l dC dI cI cZ a H.size M a2 (-1 : Int32) r51 hc51) ⟨va_cnB 3 hts gX8_fewestFrom_X7_lend_n458 rfl rfl rfl (nw65 hNW) hw1 (by decide +kernel) ⟨Nat.le_of_ble_eq_true rfl, Nat.le_of_ble_eq_true rfl⟩, hw4, hw5⟩ ⟨WR.blind, va_recv hK hP (ci := 7) (q0 := 0) rfl rfl, WR.pre hPc hK hDc hNW⟩ rfl rfl hl.1 rfl (lv_room (Nat.le_of_ble_eq_true rfl)) dX8_fewestFrom_51 ⟨Nat.le_of_ble_eq_true rfl, Nat.le_of_ble_eq_true rfl⟩) hS (fun q _ h => hFc q h) hFc (fun u t H1 locs ht hvm hw hB hz1 hk1 hS => ?_)
            obtain ⟨hP1, hD1⟩ := hB
            rw [ht] at hP1
            obtain ⟨hP, hD⟩ := va_join (wr := []) (w1 := (wX7_lend cI cZ a (sr M 5 (r51 5)))) hP hD [0, 1, 2, 3, 4, 5] [] rfl rfl (by decide) (by decide) hk1 hFc hP1 hD1
            have hP := hP.sub (ws' := (wX8_fewestFrom cI cZ a (sr M 5 (r51 5)))) [0, 1, 2, 3, 4, 5] rfl
            have hD := hD.sub (ws' := (wX8_fewestFrom cI cZ a (sr M 5 (r51 5)))) [0, 1, 2, 3, 4, 5] (by decide) rfl
            generalize H1 = H at hP hS ⊢
            refine lv_aload_n hx hb dX8_fewestFrom_54 rfl (lv_at hl 1 rfl) ?_
            refine lv_aload_n hx hb dX8_fewestFrom_55 rfl (lv_at hl 2 rfl) ?_
            refine lv_iload_n hx hb dX8_fewestFrom_56 rfl (lv_at hl 3 rfl) ?_
            refine lv_iconst (v := (1 : Int32)) hx hb dX8_fewestFrom_57 (by decide) ?_
            refine lv_iadd hx hb dX8_fewestFrom_58 ?_
            refine lv_iload_n hx hb dX8_fewestFrom_59 rfl (lv_at hl 4 rfl) ?_
            refine lv_iconst (v := (1 : Int32)) hx hb dX8_fewestFrom_60 (by decide) ?_
            refine lv_iadd hx hb dX8_fewestFrom_61 ?_
            refine lv_iload hx hb dX8_fewestFrom_62 (lv_at hl 0 rfl) ?_
            obtain ⟨r64, hc64, hf⟩ := bi_s hf
            have hPc := hP
            have hDc := hD
            have hFc := va_free (wc := (wX8_fewestFrom cI cZ a (sr M 5 (r51 5)))) hD hS hA [0, 1, 2, 3, 4, 5] rfl
            refine va_calli (va_runS (As := [.ref (a 0), .ref (a 5), .int (a2 + (1 : Int32)), .int (a3 + (1 : Int32)), .int a4]) (rest := []) ⟨hx, hb, hml, hown, hts⟩ (c_X8_fewestFrom_6 l dC dI cI cZ a H.size (sr M 5 (r51 5)) (a2 + (1 : Int32)) (a3 + (1 : Int32)) a4 r64 hc64) (va_cwS 5 hts gX8_fewestFrom_X8_fewestFrom rfl rfl rfl (by decide +kernel) ⟨Nat.le_of_ble_eq_true rfl, Nat.le_of_ble_eq_true rfl⟩) ⟨WR.blind, WR.pre hPc hK hDc hNW⟩ rfl rfl hl.1 rfl (lv_room (Nat.le_of_ble_eq_true rfl)) dX8_fewestFrom_64 ⟨Nat.le_of_ble_eq_true rfl, Nat.le_of_ble_eq_true rfl⟩) hS (fun q _ h => hFc q h) hFc (fun rv u t H1 locs ht hvm hw hB hz1 hk1 hS => ?_)
            obtain ⟨hP1, hD1⟩ := hB
            rw [ht] at hP1
            subst hw
            have hP := hP1
            have hD := hD1.weaken (fun k q _ h => hFc q.1 h)
            have hP : va_P (dC, dI) vwCl (wX8_fewestFrom cI cZ a (sr M 5 (r64.2 5))) H1 := hP
            have hD : va_D A (wX8_fewestFrom cI cZ a (sr M 5 (r64.2 5))) := hD
            generalize H1 = H at hP hS ⊢
            refine lv_istore (lv' := [(5, .int r64.1), (0, .ref (a 0)), (1, .ref (a 5)), (2, .int a2), (3, .int a3), (4, .int a4)]) hx hb dX8_fewestFrom_67 hl (by decide) rfl (fun ls hl => ?_)
            refine lv_aload_n hx hb dX8_fewestFrom_69 rfl (lv_at hl 1 rfl) ?_
            refine lv_iload_n hx hb dX8_fewestFrom_70 rfl (lv_at hl 3 rfl) ?_
            refine lv_aload_n hx hb dX8_fewestFrom_71 rfl (lv_at hl 2 rfl) ?_
            refine lv_iconst (v := (1 : Int32)) hx hb dX8_fewestFrom_72 (by decide) ?_
            obtain ⟨r73, hc73, hf⟩ := bi_s hf
            have hPc := hP.sub (ws' := (wX7_lend cI cZ a (sr M 5 (r64.2 5)))) [0, 1, 2, 3, 4, 5] rfl
            have hDc := hD.sub (ws' := (wX7_lend cI cZ a (sr M 5 (r64.2 5)))) [0, 1, 2, 3, 4, 5] (by decide) rfl
            have hFc := va_free (wc := (wX7_lend cI cZ a (sr M 5 (r64.2 5)))) hD hS hA [0, 1, 2, 3, 4, 5] rfl
            refine va_callv (va_runVN (As := [.int a2, .ref (a 5), .int (1 : Int32)]) (rest := []) ⟨hx, hb, hml, hown, hts⟩ (c_X7_lend l dC dI cI cZ a H.size (sr M 5 (r64.2 5)) a2 (1 : Int32) r73 hc73) ⟨va_cnB 3 hts gX8_fewestFrom_X7_lend_n458 rfl rfl rfl (nw65 hNW) hw1 (by decide +kernel) ⟨Nat.le_of_ble_eq_true rfl, Nat.le_of_ble_eq_true rfl⟩, hw4, hw5⟩ ⟨WR.blind, va_recv hK hP (ci := 7) (q0 := 0) rfl rfl, WR.pre hPc hK hDc hNW⟩ rfl rfl hl.1 rfl (lv_room (Nat.le_of_ble_eq_true rfl)) dX8_fewestFrom_73 ⟨Nat.le_of_ble_eq_true rfl, Nat.le_of_ble_eq_true rfl⟩) hS (fun q _ h => hFc q h) hFc (fun u t H1 locs ht hvm hw hB hz1 hk1 hS => ?_)
            obtain ⟨hP1, hD1⟩ := hB
            rw [ht] at hP1
            obtain ⟨hP, hD⟩ := va_join (wr := []) (w1 := (wX7_lend cI cZ a (sr (sr M 5 (r64.2 5)) 5 (r73 5)))) hP hD [0, 1, 2, 3, 4, 5] [] rfl rfl (by decide) (by decide) hk1 hFc hP1 hD1
            have hP := hP.sub (ws' := (wX8_fewestFrom cI cZ a (sr M 5 (r73 5)))) [0, 1, 2, 3, 4, 5] rfl
            have hD := hD.sub (ws' := (wX8_fewestFrom cI cZ a (sr M 5 (r73 5)))) [0, 1, 2, 3, 4, 5] (by decide) rfl
            generalize H1 = H at hP hS ⊢
            exact hfX8_fewestFrom_B76  (sr M 5 (r73 5)) a2 a3 r64.1 hf _ (lv_sub hl [1, 2, 3, 4, 0] rfl) _ _ hP hD hS
        · have hf := it_f hf c9
          exact hfX8_fewestFrom_B31  M a4 hf _ (lv_sub hl [4] rfl) _ _ hP hD hS
  · have hf := it_n hf c9
    refine lv_iload_n hx hb dX8_fewestFrom_7 rfl (lv_at hl 3 rfl) ?_
    have e9 := so_e hf
    subst e9
    exact W.iret (v := a3) hx hb hr (fun t ht hW => ⟨⟨a3, (), rfl, rfl, WE.mk hP hD ht⟩, hS.F ht⟩) hS.2.2 dX8_fewestFrom_8
set_option maxHeartbeats 4000000 in
set_option maxRecDepth 100000 in
theorem c_X8_fewestFrom_8 (l : Launch) (dC : Nat → ClassId) (dI : Nat → Nat → Nat) (cI cZ : ClassId) (a : Nat → Nat) (sz : Nat) (M : Mem) (a2 : Int32) (a3 : Int32) (a4 : Int32) (z : Int32 × Mem) (hf : fX8_fewestFrom (7 + 1) M a2 a3 a4 = some z) : Met l yX8_fewestFrom wsX8_fewestFrom ({ frames := 12, cells := 0, slots := 0, locals := 295 } : Room) (va_Pc [.ref (a 0), .ref (a 5), .int a2, .int a3, .int a4] (WR (dC, dI) cI cZ (wX8_fewestFrom cI cZ a M) sz)) (va_Qi (S := Unit) (fun r _ => r = z.1) (fun _ t => WE (dC, dI) cI cZ (wX8_fewestFrom cI cZ a (sr M 5 (z.2 5))) (va_A (wX8_fewestFrom cI cZ a M) sz) t) (va_A (wX8_fewestFrom cI cZ a M) sz)) 0 0 (va_A (wX8_fewestFrom cI cZ a M) sz) := by
  refine Met.ofW (cc := cX8_fewestFrom) (maxL := 6) (ret := (some .int)) (by decide) rfl ?_
  intro p e s m args below meth c s₁ B hml hv
  obtain ⟨rfl, hsz, hP, hK, hD0, hNW⟩ := hv
  have hx := B.exec
  have hb := B.bytes
  have hr := B.returns
  have hts := atoms_spec (ws := wsX8_fewestFrom) B.pre
  have hown : s.vm.findClass RX8 = some m.cls := findClass_of_methodNamed B.named
  have hlocks := B.notSynchronized
  have hinX7 : ∀ w ∈ u_ws RX7 TX7 6, w ∈ wsX8_fewestFrom := by decide +kernel
  have hw1 := hts (.initialized RX7) (by decide +kernel)
  have hw2 := hts (.instanceMethod yX7_helps) (by decide +kernel)
  have hw3 := hts (.selects RX7 yX7_helps yX7_helps) (by decide +kernel)
  have hw4 := hts (.instanceMethod yX7_lend) (by decide +kernel)
  have hw5 := hts (.selects RX7 yX7_lend yX7_lend) (by decide +kernel)
  subst hsz
  have hD := hD0.self (sz := s.heap.size)
  generalize hAe : va_A (wX8_fewestFrom cI cZ a M) s.heap.size = A at hD ⊢
  have hA : ∀ q : Nat, s.heap.size ≤ q → A q := fun q h => by rw [← hAe]; exact Or.inr h
  have hS : va_S A s.heap s.heap [] := va_S.rf
  have hfX8_fewestFrom_B31 : ∀ (N : Mem) (l4 : Int32), fX8_fewestFrom_B31 M  N l4 = some z → ∀ (ls : Array Slot), lv_has ls 6 [(4, .int l4)] → ∀ (H : Heap) (locs : List Loc), va_P (dC, dI) vwCl (wX8_fewestFrom cI cZ a (sr M 5 (N 5))) H → va_D A (wX8_fewestFrom cI cZ a (sr M 5 (N 5))) → va_S A s.heap H locs → W p l e (headSpec wsX8_fewestFrom ({ frames := 12, cells := 0, slots := 0, locals := 295 } : Room)).room s m ([.ref (a 0), .ref (a 5), .int a2, .int a3, .int a4] : List Value).toArray below meth c H locs 0 0 (MQ below (va_Qi (S := Unit) (fun r _ => r = z.1) (fun _ t => WE (dC, dI) cI cZ (wX8_fewestFrom cI cZ a (sr M 5 (z.2 5))) A t) A) ([.ref (a 0), .ref (a 5), .int a2, .int a3, .int a4] : List Value).toArray s 0 0 A) (F0 m 31 ls []) := by
    intro  N l4 hf ls hl H locs hP hD hS
    unfold fX8_fewestFrom_B31 at hf
    refine lv_iload hx hb dX8_fewestFrom_31 (lv_at hl 0 rfl) ?_
    have e9 := so_e hf
    subst e9
    exact W.iret (v := l4) hx hb hr (fun t ht hW => ⟨⟨l4, (), rfl, rfl, WE.mk hP hD ht⟩, hS.F ht⟩) hS.2.2 dX8_fewestFrom_33
  have hfX8_fewestFrom_B76 : ∀ (N : Mem) (l2 : Int32) (l3 : Int32) (l5 : Int32), fX8_fewestFrom_B76 (fX8_fewestFrom 7) M  N l2 l3 l5 = some z → ∀ (ls : Array Slot), lv_has ls 6 [(0, .ref (a 0)), (1, .ref (a 5)), (2, .int l2), (3, .int l3), (5, .int l5)] → ∀ (H : Heap) (locs : List Loc), va_P (dC, dI) vwCl (wX8_fewestFrom cI cZ a (sr M 5 (N 5))) H → va_D A (wX8_fewestFrom cI cZ a (sr M 5 (N 5))) → va_S A s.heap H locs → W p l e (headSpec wsX8_fewestFrom ({ frames := 12, cells := 0, slots := 0, locals := 295 } : Room)).room s m ([.ref (a 0), .ref (a 5), .int a2, .int a3, .int a4] : List Value).toArray below meth c H locs 0 0 (MQ below (va_Qi (S := Unit) (fun r _ => r = z.1) (fun _ t => WE (dC, dI) cI cZ (wX8_fewestFrom cI cZ a (sr M 5 (z.2 5))) A t) A) ([.ref (a 0), .ref (a 5), .int a2, .int a3, .int a4] : List Value).toArray s 0 0 A) (F0 m 76 ls []) := by
    intro  N l2 l3 l5 hf ls hl H locs hP hD hS
    unfold fX8_fewestFrom_B76 at hf
    refine lv_aload_n hx hb dX8_fewestFrom_76 rfl (lv_at hl 0 rfl) ?_
    refine lv_aload_n hx hb dX8_fewestFrom_77 rfl (lv_at hl 1 rfl) ?_
    refine lv_iload_n hx hb dX8_fewestFrom_78 rfl (lv_at hl 2 rfl) ?_
    refine lv_iconst (v := (1 : Int32)) hx hb dX8_fewestFrom_79 (by decide) ?_
    refine lv_iadd hx hb dX8_fewestFrom_80 ?_
    refine lv_iload_n hx hb dX8_fewestFrom_81 rfl (lv_at hl 3 rfl) ?_
    refine lv_iload hx hb dX8_fewestFrom_82 (lv_at hl 4 rfl) ?_
    obtain ⟨r84, hc84, hf⟩ := bi_s hf
    have hPc := hP
    have hDc := hD
    have hFc := va_free (wc := (wX8_fewestFrom cI cZ a (sr M 5 (N 5)))) hD hS hA [0, 1, 2, 3, 4, 5] rfl
    refine va_calli (va_runS (As := [.ref (a 0), .ref (a 5), .int (l2 + (1 : Int32)), .int l3, .int l5]) (rest := []) ⟨hx, hb, hml, hown, hts⟩ (c_X8_fewestFrom_7 l dC dI cI cZ a H.size (sr M 5 (N 5)) (l2 + (1 : Int32)) l3 l5 r84 hc84) (va_cwS 5 hts gX8_fewestFrom_X8_fewestFrom rfl rfl rfl (by decide +kernel) ⟨Nat.le_of_ble_eq_true rfl, Nat.le_of_ble_eq_true rfl⟩) ⟨WR.blind, WR.pre hPc hK hDc hNW⟩ rfl rfl hl.1 rfl (lv_room (Nat.le_of_ble_eq_true rfl)) dX8_fewestFrom_84 ⟨Nat.le_of_ble_eq_true rfl, Nat.le_of_ble_eq_true rfl⟩) hS (fun q _ h => hFc q h) hFc (fun rv u t H1 locs ht hvm hw hB hz1 hk1 hS => ?_)
    obtain ⟨hP1, hD1⟩ := hB
    rw [ht] at hP1
    subst hw
    have hP := hP1
    have hD := hD1.weaken (fun k q _ h => hFc q.1 h)
    have hP : va_P (dC, dI) vwCl (wX8_fewestFrom cI cZ a (sr M 5 (r84.2 5))) H1 := hP
    have hD : va_D A (wX8_fewestFrom cI cZ a (sr M 5 (r84.2 5))) := hD
    generalize H1 = H at hP hS ⊢
    have e9 := so_e hf
    subst e9
    exact W.iret (v := r84.1) hx hb hr (fun t ht hW => ⟨⟨r84.1, (), rfl, rfl, WE.mk hP hD ht⟩, hS.F ht⟩) hS.2.2 dX8_fewestFrom_87
  have hl := lv_entry ([.ref (a 0), .ref (a 5), .int a2, .int a3, .int a4]) (n := 6) (Nat.le_of_ble_eq_true rfl)
  rw [lg_entry_eq]
  generalize (lg_sl ([.ref (a 0), .ref (a 5), .int a2, .int a3, .int a4]) ++ List.replicate (6 - (lg_sl ([.ref (a 0), .ref (a 5), .int a2, .int a3, .int a4])).length) Slot.unset).toArray = ls at hl ⊢
  have hl : lv_has ls 6 [(0, .ref (a 0)), (1, .ref (a 5)), (2, .int a2), (3, .int a3), (4, .int a4)] := hl
  rw [fX8_fewestFrom] at hf
  suffices hgo : ∀ (H : Heap) (locs : List Loc), va_P (dC, dI) vwCl (wX8_fewestFrom cI cZ a M) H → va_D A (wX8_fewestFrom cI cZ a M) → va_S A s.heap H locs → W p l e (headSpec wsX8_fewestFrom ({ frames := 12, cells := 0, slots := 0, locals := 295 } : Room)).room s m ([.ref (a 0), .ref (a 5), .int a2, .int a3, .int a4] : List Value).toArray below meth c H locs 0 0 (MQ below (va_Qi (S := Unit) (fun r _ => r = z.1) (fun _ t => WE (dC, dI) cI cZ (wX8_fewestFrom cI cZ a (sr M 5 (z.2 5))) A t) A) ([.ref (a 0), .ref (a 5), .int a2, .int a3, .int a4] : List Value).toArray s 0 0 A) (F0 m 0 ls []) from hgo _ _ hP hD hS
  intro H locs hP hD hS
  refine lv_aload_n hx hb dX8_fewestFrom_0 rfl (lv_at hl 1 rfl) ?_
  obtain ⟨r1, hc1, hf⟩ := bi_s hf
  have hPc := hP.sub (ws' := (wX8_isLacking cI cZ (ofs 5 a) (ofs 5 M))) [5] rfl
  refine cRO (W.runS (As := [.ref (a 5)]) (rest := []) ⟨hx, hb, hml, hown, hts⟩ (c_X8_isLacking l dC dI cI cZ (ofs 5 a) (ofs 5 M) r1 hc1) (va_cwS 1 hts gX8_fewestFrom_X8_isLacking rfl rfl rfl (by decide +kernel) ⟨Nat.le_of_ble_eq_true rfl, Nat.le_of_ble_eq_true rfl⟩) ⟨RO.blind, RO.pre hPc hK hNW⟩ rfl rfl hl.1 rfl (lv_room (Nat.le_of_ble_eq_true rfl)) dX8_fewestFrom_1 ⟨Nat.le_of_ble_eq_true rfl, Nat.le_of_ble_eq_true rfl⟩) ?_
  refine lv_if_ne (tgt := 9) hx hb dX8_fewestFrom_4 (by decide) (fun c9 => ?_) (fun c9 => ?_)
  · have hf := it_t hf c9
    refine lv_iload_n hx hb dX8_fewestFrom_9 rfl (lv_at hl 2 rfl) ?_
    refine lv_aload_n hx hb dX8_fewestFrom_10 rfl (lv_at hl 0 rfl) ?_
    refine va_getN (D := (dC, dI)) (ci := 7) (v := .int (M 0 0)) (C := RX7) (T := TX7) (N := 6) hx hb hts hinX7 hown hK hP 0 rfl rfl 0 (by decide) (nw24 hNW) (fun _ h9 => h9) rfl dX8_fewestFrom_11 ?_
    refine lv_icmp_ge (tgt := 31) hx hb dX8_fewestFrom_14 (by decide) (fun c9 => ?_) (fun c9 => ?_)
    · have hf := it_t hf c9
      exact hfX8_fewestFrom_B31  M a4 hf _ (lv_sub hl [4] rfl) _ _ hP hD hS
    · have hf := it_f hf c9
      refine lv_iload_n hx hb dX8_fewestFrom_17 rfl (lv_at hl 2 rfl) ?_
      refine lv_bipush (v := (12 : Int32)) hx hb dX8_fewestFrom_18 (by decide) ?_
      refine lv_icmp_ge (tgt := 31) hx hb dX8_fewestFrom_20 (by decide) (fun c9 => ?_) (fun c9 => ?_)
      · have hf := it_t hf c9
        exact hfX8_fewestFrom_B31  M a4 hf _ (lv_sub hl [4] rfl) _ _ hP hD hS
      · have hf := it_f hf c9
        refine lv_iload_n hx hb dX8_fewestFrom_23 rfl (lv_at hl 3 rfl) ?_
        refine lv_iconst (v := (1 : Int32)) hx hb dX8_fewestFrom_24 (by decide) ?_
        refine lv_iadd hx hb dX8_fewestFrom_25 ?_
        refine lv_iload hx hb dX8_fewestFrom_26 (lv_at hl 4 rfl) ?_
        refine lv_icmp_lt (tgt := 34) hx hb dX8_fewestFrom_28 (by decide) (fun c9 => ?_) (fun c9 => ?_)
        · have hf := it_t hf c9
          refine lv_iload hx hb dX8_fewestFrom_34 (lv_at hl 4 rfl) ?_
          refine lv_istore (lv' := [(5, .int a4), (0, .ref (a 0)), (1, .ref (a 5)), (2, .int a2), (3, .int a3), (4, .int a4)]) hx hb dX8_fewestFrom_36 hl (by decide) rfl (fun ls hl => ?_)
          refine lv_aload_n hx hb dX8_fewestFrom_38 rfl (lv_at hl 1 rfl) ?_
          refine lv_iload_n hx hb dX8_fewestFrom_39 rfl (lv_at hl 3 rfl) ?_
          refine lv_aload_n hx hb dX8_fewestFrom_40 rfl (lv_at hl 2 rfl) ?_
          obtain ⟨r41, hc41, hf⟩ := bi_s hf
          have hPc := hP.sub (ws' := (wX7_helps cI cZ a M)) [0, 1, 2, 3, 4, 5] rfl
          refine cRO (va_Run.run (va_runVN (As := [.int a2, .ref (a 5)]) (rest := []) ⟨hx, hb, hml, hown, hts⟩ (c_X7_helps l dC dI cI cZ a M a2 r41 hc41) ⟨va_cnB 2 hts gX8_fewestFrom_X7_helps_n454 rfl rfl rfl (nw64 hNW) hw1 (by decide +kernel) ⟨Nat.le_of_ble_eq_true rfl, Nat.le_of_ble_eq_true rfl⟩, hw2, hw3⟩ ⟨RO.blind, va_recv hK hP (ci := 7) (q0 := 0) rfl rfl, RO.pre hPc hK hNW⟩ rfl rfl hl.1 rfl (lv_room (Nat.le_of_ble_eq_true rfl)) dX8_fewestFrom_41 ⟨Nat.le_of_ble_eq_true rfl, Nat.le_of_ble_eq_true rfl⟩)) ?_
          refine lv_if_eq (tgt := 76) hx hb dX8_fewestFrom_44 (by decide) (fun c9 => ?_) (fun c9 => ?_)
          · have hf := it_t hf c9
            exact hfX8_fewestFrom_B76  M a2 a3 a4 hf _ (lv_sub hl [1, 2, 3, 4, 0] rfl) _ _ hP hD hS
          · have hf := it_f hf c9
            refine lv_aload_n hx hb dX8_fewestFrom_47 rfl (lv_at hl 1 rfl) ?_
            refine lv_iload_n hx hb dX8_fewestFrom_48 rfl (lv_at hl 3 rfl) ?_
            refine lv_aload_n hx hb dX8_fewestFrom_49 rfl (lv_at hl 2 rfl) ?_
            refine lv_iconst (v := (-1 : Int32)) hx hb dX8_fewestFrom_50 (by decide) ?_
            obtain ⟨r51, hc51, hf⟩ := bi_s hf
            have hPc := hP.sub (ws' := (wX7_lend cI cZ a M)) [0, 1, 2, 3, 4, 5] rfl
            have hDc := hD.sub (ws' := (wX7_lend cI cZ a M)) [0, 1, 2, 3, 4, 5] (by decide) rfl
            have hFc := va_free (wc := (wX7_lend cI cZ a M)) hD hS hA [0, 1, 2, 3, 4, 5] rfl
            refine va_callv (va_runVN (As := [.int a2, .ref (a 5), .int (-1 : Int32)]) (rest := []) ⟨hx, hb, hml, hown, hts⟩ (c_X7_lend l dC dI cI cZ a H.size M a2 (-1 : Int32) r51 hc51) ⟨va_cnB 3 hts gX8_fewestFrom_X7_lend_n458 rfl rfl rfl (nw65 hNW) hw1 (by decide +kernel) ⟨Nat.le_of_ble_eq_true rfl, Nat.le_of_ble_eq_true rfl⟩, hw4, hw5⟩ ⟨WR.blind, va_recv hK hP (ci := 7) (q0 := 0) rfl rfl, WR.pre hPc hK hDc hNW⟩ rfl rfl hl.1 rfl (lv_room (Nat.le_of_ble_eq_true rfl)) dX8_fewestFrom_51 ⟨Nat.le_of_ble_eq_true rfl, Nat.le_of_ble_eq_true rfl⟩) hS (fun q _ h => hFc q h) hFc (fun u t H1 locs ht hvm hw hB hz1 hk1 hS => ?_)
            obtain ⟨hP1, hD1⟩ := hB
            rw [ht] at hP1
            obtain ⟨hP, hD⟩ := va_join (wr := []) (w1 := (wX7_lend cI cZ a (sr M 5 (r51 5)))) hP hD [0, 1, 2, 3, 4, 5] [] rfl rfl (by decide) (by decide) hk1 hFc hP1 hD1
            have hP := hP.sub (ws' := (wX8_fewestFrom cI cZ a (sr M 5 (r51 5)))) [0, 1, 2, 3, 4, 5] rfl
            have hD := hD.sub (ws' := (wX8_fewestFrom cI cZ a (sr M 5 (r51 5)))) [0, 1, 2, 3, 4, 5] (by decide) rfl
            generalize H1 = H at hP hS ⊢
            refine lv_aload_n hx hb dX8_fewestFrom_54 rfl (lv_at hl 1 rfl) ?_
            refine lv_aload_n hx hb dX8_fewestFrom_55 rfl (lv_at hl 2 rfl) ?_
            refine lv_iload_n hx hb dX8_fewestFrom_56 rfl (lv_at hl 3 rfl) ?_
            refine lv_iconst (v := (1 : Int32)) hx hb dX8_fewestFrom_57 (by decide) ?_
            refine lv_iadd hx hb dX8_fewestFrom_58 ?_
            refine lv_iload_n hx hb dX8_fewestFrom_59 rfl (lv_at hl 4 rfl) ?_
            refine lv_iconst (v := (1 : Int32)) hx hb dX8_fewestFrom_60 (by decide) ?_
            refine lv_iadd hx hb dX8_fewestFrom_61 ?_
            refine lv_iload hx hb dX8_fewestFrom_62 (lv_at hl 0 rfl) ?_
            obtain ⟨r64, hc64, hf⟩ := bi_s hf
            have hPc := hP
            have hDc := hD
            have hFc := va_free (wc := (wX8_fewestFrom cI cZ a (sr M 5 (r51 5)))) hD hS hA [0, 1, 2, 3, 4, 5] rfl
            refine va_calli (va_runS (As := [.ref (a 0), .ref (a 5), .int (a2 + (1 : Int32)), .int (a3 + (1 : Int32)), .int a4]) (rest := []) ⟨hx, hb, hml, hown, hts⟩ (c_X8_fewestFrom_7 l dC dI cI cZ a H.size (sr M 5 (r51 5)) (a2 + (1 : Int32)) (a3 + (1 : Int32)) a4 r64 hc64) (va_cwS 5 hts gX8_fewestFrom_X8_fewestFrom rfl rfl rfl (by decide +kernel) ⟨Nat.le_of_ble_eq_true rfl, Nat.le_of_ble_eq_true rfl⟩) ⟨WR.blind, WR.pre hPc hK hDc hNW⟩ rfl rfl hl.1 rfl (lv_room (Nat.le_of_ble_eq_true rfl)) dX8_fewestFrom_64 ⟨Nat.le_of_ble_eq_true rfl, Nat.le_of_ble_eq_true rfl⟩) hS (fun q _ h => hFc q h) hFc (fun rv u t H1 locs ht hvm hw hB hz1 hk1 hS => ?_)
            obtain ⟨hP1, hD1⟩ := hB
            rw [ht] at hP1
            subst hw
            have hP := hP1
            have hD := hD1.weaken (fun k q _ h => hFc q.1 h)
            have hP : va_P (dC, dI) vwCl (wX8_fewestFrom cI cZ a (sr M 5 (r64.2 5))) H1 := hP
            have hD : va_D A (wX8_fewestFrom cI cZ a (sr M 5 (r64.2 5))) := hD
            generalize H1 = H at hP hS ⊢
            refine lv_istore (lv' := [(5, .int r64.1), (0, .ref (a 0)), (1, .ref (a 5)), (2, .int a2), (3, .int a3), (4, .int a4)]) hx hb dX8_fewestFrom_67 hl (by decide) rfl (fun ls hl => ?_)
            refine lv_aload_n hx hb dX8_fewestFrom_69 rfl (lv_at hl 1 rfl) ?_
            refine lv_iload_n hx hb dX8_fewestFrom_70 rfl (lv_at hl 3 rfl) ?_
            refine lv_aload_n hx hb dX8_fewestFrom_71 rfl (lv_at hl 2 rfl) ?_
            refine lv_iconst (v := (1 : Int32)) hx hb dX8_fewestFrom_72 (by decide) ?_
            obtain ⟨r73, hc73, hf⟩ := bi_s hf
            have hPc := hP.sub (ws' := (wX7_lend cI cZ a (sr M 5 (r64.2 5)))) [0, 1, 2, 3, 4, 5] rfl
            have hDc := hD.sub (ws' := (wX7_lend cI cZ a (sr M 5 (r64.2 5)))) [0, 1, 2, 3, 4, 5] (by decide) rfl
            have hFc := va_free (wc := (wX7_lend cI cZ a (sr M 5 (r64.2 5)))) hD hS hA [0, 1, 2, 3, 4, 5] rfl
            refine va_callv (va_runVN (As := [.int a2, .ref (a 5), .int (1 : Int32)]) (rest := []) ⟨hx, hb, hml, hown, hts⟩ (c_X7_lend l dC dI cI cZ a H.size (sr M 5 (r64.2 5)) a2 (1 : Int32) r73 hc73) ⟨va_cnB 3 hts gX8_fewestFrom_X7_lend_n458 rfl rfl rfl (nw65 hNW) hw1 (by decide +kernel) ⟨Nat.le_of_ble_eq_true rfl, Nat.le_of_ble_eq_true rfl⟩, hw4, hw5⟩ ⟨WR.blind, va_recv hK hP (ci := 7) (q0 := 0) rfl rfl, WR.pre hPc hK hDc hNW⟩ rfl rfl hl.1 rfl (lv_room (Nat.le_of_ble_eq_true rfl)) dX8_fewestFrom_73 ⟨Nat.le_of_ble_eq_true rfl, Nat.le_of_ble_eq_true rfl⟩) hS (fun q _ h => hFc q h) hFc (fun u t H1 locs ht hvm hw hB hz1 hk1 hS => ?_)
            obtain ⟨hP1, hD1⟩ := hB
            rw [ht] at hP1
            obtain ⟨hP, hD⟩ := va_join (wr := []) (w1 := (wX7_lend cI cZ a (sr (sr M 5 (r64.2 5)) 5 (r73 5)))) hP hD [0, 1, 2, 3, 4, 5] [] rfl rfl (by decide) (by decide) hk1 hFc hP1 hD1
            have hP := hP.sub (ws' := (wX8_fewestFrom cI cZ a (sr M 5 (r73 5)))) [0, 1, 2, 3, 4, 5] rfl
            have hD := hD.sub (ws' := (wX8_fewestFrom cI cZ a (sr M 5 (r73 5)))) [0, 1, 2, 3, 4, 5] (by decide) rfl
            generalize H1 = H at hP hS ⊢
            exact hfX8_fewestFrom_B76  (sr M 5 (r73 5)) a2 a3 r64.1 hf _ (lv_sub hl [1, 2, 3, 4, 0] rfl) _ _ hP hD hS
        · have hf := it_f hf c9
          exact hfX8_fewestFrom_B31  M a4 hf _ (lv_sub hl [4] rfl) _ _ hP hD hS
  · have hf := it_n hf c9
    refine lv_iload_n hx hb dX8_fewestFrom_7 rfl (lv_at hl 3 rfl) ?_
    have e9 := so_e hf
    subst e9
    exact W.iret (v := a3) hx hb hr (fun t ht hW => ⟨⟨a3, (), rfl, rfl, WE.mk hP hD ht⟩, hS.F ht⟩) hS.2.2 dX8_fewestFrom_8
set_option maxHeartbeats 4000000 in
set_option maxRecDepth 100000 in
theorem c_X8_fewestFrom_9 (l : Launch) (dC : Nat → ClassId) (dI : Nat → Nat → Nat) (cI cZ : ClassId) (a : Nat → Nat) (sz : Nat) (M : Mem) (a2 : Int32) (a3 : Int32) (a4 : Int32) (z : Int32 × Mem) (hf : fX8_fewestFrom (8 + 1) M a2 a3 a4 = some z) : Met l yX8_fewestFrom wsX8_fewestFrom ({ frames := 13, cells := 0, slots := 0, locals := 320 } : Room) (va_Pc [.ref (a 0), .ref (a 5), .int a2, .int a3, .int a4] (WR (dC, dI) cI cZ (wX8_fewestFrom cI cZ a M) sz)) (va_Qi (S := Unit) (fun r _ => r = z.1) (fun _ t => WE (dC, dI) cI cZ (wX8_fewestFrom cI cZ a (sr M 5 (z.2 5))) (va_A (wX8_fewestFrom cI cZ a M) sz) t) (va_A (wX8_fewestFrom cI cZ a M) sz)) 0 0 (va_A (wX8_fewestFrom cI cZ a M) sz) := by
  refine Met.ofW (cc := cX8_fewestFrom) (maxL := 6) (ret := (some .int)) (by decide) rfl ?_
  intro p e s m args below meth c s₁ B hml hv
  obtain ⟨rfl, hsz, hP, hK, hD0, hNW⟩ := hv
  have hx := B.exec
  have hb := B.bytes
  have hr := B.returns
  have hts := atoms_spec (ws := wsX8_fewestFrom) B.pre
  have hown : s.vm.findClass RX8 = some m.cls := findClass_of_methodNamed B.named
  have hlocks := B.notSynchronized
  have hinX7 : ∀ w ∈ u_ws RX7 TX7 6, w ∈ wsX8_fewestFrom := by decide +kernel
  have hw1 := hts (.initialized RX7) (by decide +kernel)
  have hw2 := hts (.instanceMethod yX7_helps) (by decide +kernel)
  have hw3 := hts (.selects RX7 yX7_helps yX7_helps) (by decide +kernel)
  have hw4 := hts (.instanceMethod yX7_lend) (by decide +kernel)
  have hw5 := hts (.selects RX7 yX7_lend yX7_lend) (by decide +kernel)
  subst hsz
  have hD := hD0.self (sz := s.heap.size)
  generalize hAe : va_A (wX8_fewestFrom cI cZ a M) s.heap.size = A at hD ⊢
  have hA : ∀ q : Nat, s.heap.size ≤ q → A q := fun q h => by rw [← hAe]; exact Or.inr h
  have hS : va_S A s.heap s.heap [] := va_S.rf
  have hfX8_fewestFrom_B31 : ∀ (N : Mem) (l4 : Int32), fX8_fewestFrom_B31 M  N l4 = some z → ∀ (ls : Array Slot), lv_has ls 6 [(4, .int l4)] → ∀ (H : Heap) (locs : List Loc), va_P (dC, dI) vwCl (wX8_fewestFrom cI cZ a (sr M 5 (N 5))) H → va_D A (wX8_fewestFrom cI cZ a (sr M 5 (N 5))) → va_S A s.heap H locs → W p l e (headSpec wsX8_fewestFrom ({ frames := 13, cells := 0, slots := 0, locals := 320 } : Room)).room s m ([.ref (a 0), .ref (a 5), .int a2, .int a3, .int a4] : List Value).toArray below meth c H locs 0 0 (MQ below (va_Qi (S := Unit) (fun r _ => r = z.1) (fun _ t => WE (dC, dI) cI cZ (wX8_fewestFrom cI cZ a (sr M 5 (z.2 5))) A t) A) ([.ref (a 0), .ref (a 5), .int a2, .int a3, .int a4] : List Value).toArray s 0 0 A) (F0 m 31 ls []) := by
    intro  N l4 hf ls hl H locs hP hD hS
    unfold fX8_fewestFrom_B31 at hf
    refine lv_iload hx hb dX8_fewestFrom_31 (lv_at hl 0 rfl) ?_
    have e9 := so_e hf
    subst e9
    exact W.iret (v := l4) hx hb hr (fun t ht hW => ⟨⟨l4, (), rfl, rfl, WE.mk hP hD ht⟩, hS.F ht⟩) hS.2.2 dX8_fewestFrom_33
  have hfX8_fewestFrom_B76 : ∀ (N : Mem) (l2 : Int32) (l3 : Int32) (l5 : Int32), fX8_fewestFrom_B76 (fX8_fewestFrom 8) M  N l2 l3 l5 = some z → ∀ (ls : Array Slot), lv_has ls 6 [(0, .ref (a 0)), (1, .ref (a 5)), (2, .int l2), (3, .int l3), (5, .int l5)] → ∀ (H : Heap) (locs : List Loc), va_P (dC, dI) vwCl (wX8_fewestFrom cI cZ a (sr M 5 (N 5))) H → va_D A (wX8_fewestFrom cI cZ a (sr M 5 (N 5))) → va_S A s.heap H locs → W p l e (headSpec wsX8_fewestFrom ({ frames := 13, cells := 0, slots := 0, locals := 320 } : Room)).room s m ([.ref (a 0), .ref (a 5), .int a2, .int a3, .int a4] : List Value).toArray below meth c H locs 0 0 (MQ below (va_Qi (S := Unit) (fun r _ => r = z.1) (fun _ t => WE (dC, dI) cI cZ (wX8_fewestFrom cI cZ a (sr M 5 (z.2 5))) A t) A) ([.ref (a 0), .ref (a 5), .int a2, .int a3, .int a4] : List Value).toArray s 0 0 A) (F0 m 76 ls []) := by
    intro  N l2 l3 l5 hf ls hl H locs hP hD hS
    unfold fX8_fewestFrom_B76 at hf
    refine lv_aload_n hx hb dX8_fewestFrom_76 rfl (lv_at hl 0 rfl) ?_
    refine lv_aload_n hx hb dX8_fewestFrom_77 rfl (lv_at hl 1 rfl) ?_
    refine lv_iload_n hx hb dX8_fewestFrom_78 rfl (lv_at hl 2 rfl) ?_
    refine lv_iconst (v := (1 : Int32)) hx hb dX8_fewestFrom_79 (by decide) ?_
    refine lv_iadd hx hb dX8_fewestFrom_80 ?_
    refine lv_iload_n hx hb dX8_fewestFrom_81 rfl (lv_at hl 3 rfl) ?_
    refine lv_iload hx hb dX8_fewestFrom_82 (lv_at hl 4 rfl) ?_
    obtain ⟨r84, hc84, hf⟩ := bi_s hf
    have hPc := hP
    have hDc := hD
    have hFc := va_free (wc := (wX8_fewestFrom cI cZ a (sr M 5 (N 5)))) hD hS hA [0, 1, 2, 3, 4, 5] rfl
    refine va_calli (va_runS (As := [.ref (a 0), .ref (a 5), .int (l2 + (1 : Int32)), .int l3, .int l5]) (rest := []) ⟨hx, hb, hml, hown, hts⟩ (c_X8_fewestFrom_8 l dC dI cI cZ a H.size (sr M 5 (N 5)) (l2 + (1 : Int32)) l3 l5 r84 hc84) (va_cwS 5 hts gX8_fewestFrom_X8_fewestFrom rfl rfl rfl (by decide +kernel) ⟨Nat.le_of_ble_eq_true rfl, Nat.le_of_ble_eq_true rfl⟩) ⟨WR.blind, WR.pre hPc hK hDc hNW⟩ rfl rfl hl.1 rfl (lv_room (Nat.le_of_ble_eq_true rfl)) dX8_fewestFrom_84 ⟨Nat.le_of_ble_eq_true rfl, Nat.le_of_ble_eq_true rfl⟩) hS (fun q _ h => hFc q h) hFc (fun rv u t H1 locs ht hvm hw hB hz1 hk1 hS => ?_)
    obtain ⟨hP1, hD1⟩ := hB
    rw [ht] at hP1
    subst hw
    have hP := hP1
    have hD := hD1.weaken (fun k q _ h => hFc q.1 h)
    have hP : va_P (dC, dI) vwCl (wX8_fewestFrom cI cZ a (sr M 5 (r84.2 5))) H1 := hP
    have hD : va_D A (wX8_fewestFrom cI cZ a (sr M 5 (r84.2 5))) := hD
    generalize H1 = H at hP hS ⊢
    have e9 := so_e hf
    subst e9
    exact W.iret (v := r84.1) hx hb hr (fun t ht hW => ⟨⟨r84.1, (), rfl, rfl, WE.mk hP hD ht⟩, hS.F ht⟩) hS.2.2 dX8_fewestFrom_87
  have hl := lv_entry ([.ref (a 0), .ref (a 5), .int a2, .int a3, .int a4]) (n := 6) (Nat.le_of_ble_eq_true rfl)
  rw [lg_entry_eq]
  generalize (lg_sl ([.ref (a 0), .ref (a 5), .int a2, .int a3, .int a4]) ++ List.replicate (6 - (lg_sl ([.ref (a 0), .ref (a 5), .int a2, .int a3, .int a4])).length) Slot.unset).toArray = ls at hl ⊢
  have hl : lv_has ls 6 [(0, .ref (a 0)), (1, .ref (a 5)), (2, .int a2), (3, .int a3), (4, .int a4)] := hl
  rw [fX8_fewestFrom] at hf
  suffices hgo : ∀ (H : Heap) (locs : List Loc), va_P (dC, dI) vwCl (wX8_fewestFrom cI cZ a M) H → va_D A (wX8_fewestFrom cI cZ a M) → va_S A s.heap H locs → W p l e (headSpec wsX8_fewestFrom ({ frames := 13, cells := 0, slots := 0, locals := 320 } : Room)).room s m ([.ref (a 0), .ref (a 5), .int a2, .int a3, .int a4] : List Value).toArray below meth c H locs 0 0 (MQ below (va_Qi (S := Unit) (fun r _ => r = z.1) (fun _ t => WE (dC, dI) cI cZ (wX8_fewestFrom cI cZ a (sr M 5 (z.2 5))) A t) A) ([.ref (a 0), .ref (a 5), .int a2, .int a3, .int a4] : List Value).toArray s 0 0 A) (F0 m 0 ls []) from hgo _ _ hP hD hS
  intro H locs hP hD hS
  refine lv_aload_n hx hb dX8_fewestFrom_0 rfl (lv_at hl 1 rfl) ?_
  obtain ⟨r1, hc1, hf⟩ := bi_s hf
  have hPc := hP.sub (ws' := (wX8_isLacking cI cZ (ofs 5 a) (ofs 5 M))) [5] rfl
  refine cRO (W.runS (As := [.ref (a 5)]) (rest := []) ⟨hx, hb, hml, hown, hts⟩ (c_X8_isLacking l dC dI cI cZ (ofs 5 a) (ofs 5 M) r1 hc1) (va_cwS 1 hts gX8_fewestFrom_X8_isLacking rfl rfl rfl (by decide +kernel) ⟨Nat.le_of_ble_eq_true rfl, Nat.le_of_ble_eq_true rfl⟩) ⟨RO.blind, RO.pre hPc hK hNW⟩ rfl rfl hl.1 rfl (lv_room (Nat.le_of_ble_eq_true rfl)) dX8_fewestFrom_1 ⟨Nat.le_of_ble_eq_true rfl, Nat.le_of_ble_eq_true rfl⟩) ?_
  refine lv_if_ne (tgt := 9) hx hb dX8_fewestFrom_4 (by decide) (fun c9 => ?_) (fun c9 => ?_)
  · have hf := it_t hf c9
    refine lv_iload_n hx hb dX8_fewestFrom_9 rfl (lv_at hl 2 rfl) ?_
    refine lv_aload_n hx hb dX8_fewestFrom_10 rfl (lv_at hl 0 rfl) ?_
    refine va_getN (D := (dC, dI)) (ci := 7) (v := .int (M 0 0)) (C := RX7) (T := TX7) (N := 6) hx hb hts hinX7 hown hK hP 0 rfl rfl 0 (by decide) (nw24 hNW) (fun _ h9 => h9) rfl dX8_fewestFrom_11 ?_
    refine lv_icmp_ge (tgt := 31) hx hb dX8_fewestFrom_14 (by decide) (fun c9 => ?_) (fun c9 => ?_)
    · have hf := it_t hf c9
      exact hfX8_fewestFrom_B31  M a4 hf _ (lv_sub hl [4] rfl) _ _ hP hD hS
    · have hf := it_f hf c9
      refine lv_iload_n hx hb dX8_fewestFrom_17 rfl (lv_at hl 2 rfl) ?_
      refine lv_bipush (v := (12 : Int32)) hx hb dX8_fewestFrom_18 (by decide) ?_
      refine lv_icmp_ge (tgt := 31) hx hb dX8_fewestFrom_20 (by decide) (fun c9 => ?_) (fun c9 => ?_)
      · have hf := it_t hf c9
        exact hfX8_fewestFrom_B31  M a4 hf _ (lv_sub hl [4] rfl) _ _ hP hD hS
      · have hf := it_f hf c9
        refine lv_iload_n hx hb dX8_fewestFrom_23 rfl (lv_at hl 3 rfl) ?_
        refine lv_iconst (v := (1 : Int32)) hx hb dX8_fewestFrom_24 (by decide) ?_
        refine lv_iadd hx hb dX8_fewestFrom_25 ?_
        refine lv_iload hx hb dX8_fewestFrom_26 (lv_at hl 4 rfl) ?_
        refine lv_icmp_lt (tgt := 34) hx hb dX8_fewestFrom_28 (by decide) (fun c9 => ?_) (fun c9 => ?_)
        · have hf := it_t hf c9
          refine lv_iload hx hb dX8_fewestFrom_34 (lv_at hl 4 rfl) ?_
          refine lv_istore (lv' := [(5, .int a4), (0, .ref (a 0)), (1, .ref (a 5)), (2, .int a2), (3, .int a3), (4, .int a4)]) hx hb dX8_fewestFrom_36 hl (by decide) rfl (fun ls hl => ?_)
          refine lv_aload_n hx hb dX8_fewestFrom_38 rfl (lv_at hl 1 rfl) ?_
          refine lv_iload_n hx hb dX8_fewestFrom_39 rfl (lv_at hl 3 rfl) ?_
          refine lv_aload_n hx hb dX8_fewestFrom_40 rfl (lv_at hl 2 rfl) ?_
          obtain ⟨r41, hc41, hf⟩ := bi_s hf
          have hPc := hP.sub (ws' := (wX7_helps cI cZ a M)) [0, 1, 2, 3, 4, 5] rfl
          refine cRO (va_Run.run (va_runVN (As := [.int a2, .ref (a 5)]) (rest := []) ⟨hx, hb, hml, hown, hts⟩ (c_X7_helps l dC dI cI cZ a M a2 r41 hc41) ⟨va_cnB 2 hts gX8_fewestFrom_X7_helps_n454 rfl rfl rfl (nw64 hNW) hw1 (by decide +kernel) ⟨Nat.le_of_ble_eq_true rfl, Nat.le_of_ble_eq_true rfl⟩, hw2, hw3⟩ ⟨RO.blind, va_recv hK hP (ci := 7) (q0 := 0) rfl rfl, RO.pre hPc hK hNW⟩ rfl rfl hl.1 rfl (lv_room (Nat.le_of_ble_eq_true rfl)) dX8_fewestFrom_41 ⟨Nat.le_of_ble_eq_true rfl, Nat.le_of_ble_eq_true rfl⟩)) ?_
          refine lv_if_eq (tgt := 76) hx hb dX8_fewestFrom_44 (by decide) (fun c9 => ?_) (fun c9 => ?_)
          · have hf := it_t hf c9
            exact hfX8_fewestFrom_B76  M a2 a3 a4 hf _ (lv_sub hl [1, 2, 3, 4, 0] rfl) _ _ hP hD hS
          · have hf := it_f hf c9
            refine lv_aload_n hx hb dX8_fewestFrom_47 rfl (lv_at hl 1 rfl) ?_
            refine lv_iload_n hx hb dX8_fewestFrom_48 rfl (lv_at hl 3 rfl) ?_
            refine lv_aload_n hx hb dX8_fewestFrom_49 rfl (lv_at hl 2 rfl) ?_
            refine lv_iconst (v := (-1 : Int32)) hx hb dX8_fewestFrom_50 (by decide) ?_
            obtain ⟨r51, hc51, hf⟩ := bi_s hf
            have hPc := hP.sub (ws' := (wX7_lend cI cZ a M)) [0, 1, 2, 3, 4, 5] rfl
            have hDc := hD.sub (ws' := (wX7_lend cI cZ a M)) [0, 1, 2, 3, 4, 5] (by decide) rfl
            have hFc := va_free (wc := (wX7_lend cI cZ a M)) hD hS hA [0, 1, 2, 3, 4, 5] rfl
            refine va_callv (va_runVN (As := [.int a2, .ref (a 5), .int (-1 : Int32)]) (rest := []) ⟨hx, hb, hml, hown, hts⟩ (c_X7_lend l dC dI cI cZ a H.size M a2 (-1 : Int32) r51 hc51) ⟨va_cnB 3 hts gX8_fewestFrom_X7_lend_n458 rfl rfl rfl (nw65 hNW) hw1 (by decide +kernel) ⟨Nat.le_of_ble_eq_true rfl, Nat.le_of_ble_eq_true rfl⟩, hw4, hw5⟩ ⟨WR.blind, va_recv hK hP (ci := 7) (q0 := 0) rfl rfl, WR.pre hPc hK hDc hNW⟩ rfl rfl hl.1 rfl (lv_room (Nat.le_of_ble_eq_true rfl)) dX8_fewestFrom_51 ⟨Nat.le_of_ble_eq_true rfl, Nat.le_of_ble_eq_true rfl⟩) hS (fun q _ h => hFc q h) hFc (fun u t H1 locs ht hvm hw hB hz1 hk1 hS => ?_)
            obtain ⟨hP1, hD1⟩ := hB
            rw [ht] at hP1
            obtain ⟨hP, hD⟩ := va_join (wr := []) (w1 := (wX7_lend cI cZ a (sr M 5 (r51 5)))) hP hD [0, 1, 2, 3, 4, 5] [] rfl rfl (by decide) (by decide) hk1 hFc hP1 hD1
            have hP := hP.sub (ws' := (wX8_fewestFrom cI cZ a (sr M 5 (r51 5)))) [0, 1, 2, 3, 4, 5] rfl
            have hD := hD.sub (ws' := (wX8_fewestFrom cI cZ a (sr M 5 (r51 5)))) [0, 1, 2, 3, 4, 5] (by decide) rfl
            generalize H1 = H at hP hS ⊢
            refine lv_aload_n hx hb dX8_fewestFrom_54 rfl (lv_at hl 1 rfl) ?_
            refine lv_aload_n hx hb dX8_fewestFrom_55 rfl (lv_at hl 2 rfl) ?_
            refine lv_iload_n hx hb dX8_fewestFrom_56 rfl (lv_at hl 3 rfl) ?_
            refine lv_iconst (v := (1 : Int32)) hx hb dX8_fewestFrom_57 (by decide) ?_
            refine lv_iadd hx hb dX8_fewestFrom_58 ?_
            refine lv_iload_n hx hb dX8_fewestFrom_59 rfl (lv_at hl 4 rfl) ?_
            refine lv_iconst (v := (1 : Int32)) hx hb dX8_fewestFrom_60 (by decide) ?_
            refine lv_iadd hx hb dX8_fewestFrom_61 ?_
            refine lv_iload hx hb dX8_fewestFrom_62 (lv_at hl 0 rfl) ?_
            obtain ⟨r64, hc64, hf⟩ := bi_s hf
            have hPc := hP
            have hDc := hD
            have hFc := va_free (wc := (wX8_fewestFrom cI cZ a (sr M 5 (r51 5)))) hD hS hA [0, 1, 2, 3, 4, 5] rfl
            refine va_calli (va_runS (As := [.ref (a 0), .ref (a 5), .int (a2 + (1 : Int32)), .int (a3 + (1 : Int32)), .int a4]) (rest := []) ⟨hx, hb, hml, hown, hts⟩ (c_X8_fewestFrom_8 l dC dI cI cZ a H.size (sr M 5 (r51 5)) (a2 + (1 : Int32)) (a3 + (1 : Int32)) a4 r64 hc64) (va_cwS 5 hts gX8_fewestFrom_X8_fewestFrom rfl rfl rfl (by decide +kernel) ⟨Nat.le_of_ble_eq_true rfl, Nat.le_of_ble_eq_true rfl⟩) ⟨WR.blind, WR.pre hPc hK hDc hNW⟩ rfl rfl hl.1 rfl (lv_room (Nat.le_of_ble_eq_true rfl)) dX8_fewestFrom_64 ⟨Nat.le_of_ble_eq_true rfl, Nat.le_of_ble_eq_true rfl⟩) hS (fun q _ h => hFc q h) hFc (fun rv u t H1 locs ht hvm hw hB hz1 hk1 hS => ?_)
            obtain ⟨hP1, hD1⟩ := hB
            rw [ht] at hP1
            subst hw
            have hP := hP1
            have hD := hD1.weaken (fun k q _ h => hFc q.1 h)
            have hP : va_P (dC, dI) vwCl (wX8_fewestFrom cI cZ a (sr M 5 (r64.2 5))) H1 := hP
            have hD : va_D A (wX8_fewestFrom cI cZ a (sr M 5 (r64.2 5))) := hD
            generalize H1 = H at hP hS ⊢
            refine lv_istore (lv' := [(5, .int r64.1), (0, .ref (a 0)), (1, .ref (a 5)), (2, .int a2), (3, .int a3), (4, .int a4)]) hx hb dX8_fewestFrom_67 hl (by decide) rfl (fun ls hl => ?_)
            refine lv_aload_n hx hb dX8_fewestFrom_69 rfl (lv_at hl 1 rfl) ?_
            refine lv_iload_n hx hb dX8_fewestFrom_70 rfl (lv_at hl 3 rfl) ?_
            refine lv_aload_n hx hb dX8_fewestFrom_71 rfl (lv_at hl 2 rfl) ?_
            refine lv_iconst (v := (1 : Int32)) hx hb dX8_fewestFrom_72 (by decide) ?_
            obtain ⟨r73, hc73, hf⟩ := bi_s hf
            have hPc := hP.sub (ws' := (wX7_lend cI cZ a (sr M 5 (r64.2 5)))) [0, 1, 2, 3, 4, 5] rfl
            have hDc := hD.sub (ws' := (wX7_lend cI cZ a (sr M 5 (r64.2 5)))) [0, 1, 2, 3, 4, 5] (by decide) rfl
            have hFc := va_free (wc := (wX7_lend cI cZ a (sr M 5 (r64.2 5)))) hD hS hA [0, 1, 2, 3, 4, 5] rfl
            refine va_callv (va_runVN (As := [.int a2, .ref (a 5), .int (1 : Int32)]) (rest := []) ⟨hx, hb, hml, hown, hts⟩ (c_X7_lend l dC dI cI cZ a H.size (sr M 5 (r64.2 5)) a2 (1 : Int32) r73 hc73) ⟨va_cnB 3 hts gX8_fewestFrom_X7_lend_n458 rfl rfl rfl (nw65 hNW) hw1 (by decide +kernel) ⟨Nat.le_of_ble_eq_true rfl, Nat.le_of_ble_eq_true rfl⟩, hw4, hw5⟩ ⟨WR.blind, va_recv hK hP (ci := 7) (q0 := 0) rfl rfl, WR.pre hPc hK hDc hNW⟩ rfl rfl hl.1 rfl (lv_room (Nat.le_of_ble_eq_true rfl)) dX8_fewestFrom_73 ⟨Nat.le_of_ble_eq_true rfl, Nat.le_of_ble_eq_true rfl⟩) hS (fun q _ h => hFc q h) hFc (fun u t H1 locs ht hvm hw hB hz1 hk1 hS => ?_)
            obtain ⟨hP1, hD1⟩ := hB
            rw [ht] at hP1
            obtain ⟨hP, hD⟩ := va_join (wr := []) (w1 := (wX7_lend cI cZ a (sr (sr M 5 (r64.2 5)) 5 (r73 5)))) hP hD [0, 1, 2, 3, 4, 5] [] rfl rfl (by decide) (by decide) hk1 hFc hP1 hD1
            have hP := hP.sub (ws' := (wX8_fewestFrom cI cZ a (sr M 5 (r73 5)))) [0, 1, 2, 3, 4, 5] rfl
            have hD := hD.sub (ws' := (wX8_fewestFrom cI cZ a (sr M 5 (r73 5)))) [0, 1, 2, 3, 4, 5] (by decide) rfl
            generalize H1 = H at hP hS ⊢
            exact hfX8_fewestFrom_B76  (sr M 5 (r73 5)) a2 a3 r64.1 hf _ (lv_sub hl [1, 2, 3, 4, 0] rfl) _ _ hP hD hS
        · have hf := it_f hf c9
          exact hfX8_fewestFrom_B31  M a4 hf _ (lv_sub hl [4] rfl) _ _ hP hD hS
  · have hf := it_n hf c9
    refine lv_iload_n hx hb dX8_fewestFrom_7 rfl (lv_at hl 3 rfl) ?_
    have e9 := so_e hf
    subst e9
    exact W.iret (v := a3) hx hb hr (fun t ht hW => ⟨⟨a3, (), rfl, rfl, WE.mk hP hD ht⟩, hS.F ht⟩) hS.2.2 dX8_fewestFrom_8
set_option maxHeartbeats 4000000 in
set_option maxRecDepth 100000 in
theorem c_X8_fewestFrom_10 (l : Launch) (dC : Nat → ClassId) (dI : Nat → Nat → Nat) (cI cZ : ClassId) (a : Nat → Nat) (sz : Nat) (M : Mem) (a2 : Int32) (a3 : Int32) (a4 : Int32) (z : Int32 × Mem) (hf : fX8_fewestFrom (9 + 1) M a2 a3 a4 = some z) : Met l yX8_fewestFrom wsX8_fewestFrom ({ frames := 14, cells := 0, slots := 0, locals := 345 } : Room) (va_Pc [.ref (a 0), .ref (a 5), .int a2, .int a3, .int a4] (WR (dC, dI) cI cZ (wX8_fewestFrom cI cZ a M) sz)) (va_Qi (S := Unit) (fun r _ => r = z.1) (fun _ t => WE (dC, dI) cI cZ (wX8_fewestFrom cI cZ a (sr M 5 (z.2 5))) (va_A (wX8_fewestFrom cI cZ a M) sz) t) (va_A (wX8_fewestFrom cI cZ a M) sz)) 0 0 (va_A (wX8_fewestFrom cI cZ a M) sz) := by
  refine Met.ofW (cc := cX8_fewestFrom) (maxL := 6) (ret := (some .int)) (by decide) rfl ?_
  intro p e s m args below meth c s₁ B hml hv
  obtain ⟨rfl, hsz, hP, hK, hD0, hNW⟩ := hv
  have hx := B.exec
  have hb := B.bytes
  have hr := B.returns
  have hts := atoms_spec (ws := wsX8_fewestFrom) B.pre
  have hown : s.vm.findClass RX8 = some m.cls := findClass_of_methodNamed B.named
  have hlocks := B.notSynchronized
  have hinX7 : ∀ w ∈ u_ws RX7 TX7 6, w ∈ wsX8_fewestFrom := by decide +kernel
  have hw1 := hts (.initialized RX7) (by decide +kernel)
  have hw2 := hts (.instanceMethod yX7_helps) (by decide +kernel)
  have hw3 := hts (.selects RX7 yX7_helps yX7_helps) (by decide +kernel)
  have hw4 := hts (.instanceMethod yX7_lend) (by decide +kernel)
  have hw5 := hts (.selects RX7 yX7_lend yX7_lend) (by decide +kernel)
  subst hsz
  have hD := hD0.self (sz := s.heap.size)
  generalize hAe : va_A (wX8_fewestFrom cI cZ a M) s.heap.size = A at hD ⊢
  have hA : ∀ q : Nat, s.heap.size ≤ q → A q := fun q h => by rw [← hAe]; exact Or.inr h
  have hS : va_S A s.heap s.heap [] := va_S.rf
  have hfX8_fewestFrom_B31 : ∀ (N : Mem) (l4 : Int32), fX8_fewestFrom_B31 M  N l4 = some z → ∀ (ls : Array Slot), lv_has ls 6 [(4, .int l4)] → ∀ (H : Heap) (locs : List Loc), va_P (dC, dI) vwCl (wX8_fewestFrom cI cZ a (sr M 5 (N 5))) H → va_D A (wX8_fewestFrom cI cZ a (sr M 5 (N 5))) → va_S A s.heap H locs → W p l e (headSpec wsX8_fewestFrom ({ frames := 14, cells := 0, slots := 0, locals := 345 } : Room)).room s m ([.ref (a 0), .ref (a 5), .int a2, .int a3, .int a4] : List Value).toArray below meth c H locs 0 0 (MQ below (va_Qi (S := Unit) (fun r _ => r = z.1) (fun _ t => WE (dC, dI) cI cZ (wX8_fewestFrom cI cZ a (sr M 5 (z.2 5))) A t) A) ([.ref (a 0), .ref (a 5), .int a2, .int a3, .int a4] : List Value).toArray s 0 0 A) (F0 m 31 ls []) := by
    intro  N l4 hf ls hl H locs hP hD hS
    unfold fX8_fewestFrom_B31 at hf
    refine lv_iload hx hb dX8_fewestFrom_31 (lv_at hl 0 rfl) ?_
    have e9 := so_e hf
    subst e9
    exact W.iret (v := l4) hx hb hr (fun t ht hW => ⟨⟨l4, (), rfl, rfl, WE.mk hP hD ht⟩, hS.F ht⟩) hS.2.2 dX8_fewestFrom_33
  have hfX8_fewestFrom_B76 : ∀ (N : Mem) (l2 : Int32) (l3 : Int32) (l5 : Int32), fX8_fewestFrom_B76 (fX8_fewestFrom 9) M  N l2 l3 l5 = some z → ∀ (ls : Array Slot), lv_has ls 6 [(0, .ref (a 0)), (1, .ref (a 5)), (2, .int l2), (3, .int l3), (5, .int l5)] → ∀ (H : Heap) (locs : List Loc), va_P (dC, dI) vwCl (wX8_fewestFrom cI cZ a (sr M 5 (N 5))) H → va_D A (wX8_fewestFrom cI cZ a (sr M 5 (N 5))) → va_S A s.heap H locs → W p l e (headSpec wsX8_fewestFrom ({ frames := 14, cells := 0, slots := 0, locals := 345 } : Room)).room s m ([.ref (a 0), .ref (a 5), .int a2, .int a3, .int a4] : List Value).toArray below meth c H locs 0 0 (MQ below (va_Qi (S := Unit) (fun r _ => r = z.1) (fun _ t => WE (dC, dI) cI cZ (wX8_fewestFrom cI cZ a (sr M 5 (z.2 5))) A t) A) ([.ref (a 0), .ref (a 5), .int a2, .int a3, .int a4] : List Value).toArray s 0 0 A) (F0 m 76 ls []) := by
    intro  N l2 l3 l5 hf ls hl H locs hP hD hS
    unfold fX8_fewestFrom_B76 at hf
    refine lv_aload_n hx hb dX8_fewestFrom_76 rfl (lv_at hl 0 rfl) ?_
    refine lv_aload_n hx hb dX8_fewestFrom_77 rfl (lv_at hl 1 rfl) ?_
    refine lv_iload_n hx hb dX8_fewestFrom_78 rfl (lv_at hl 2 rfl) ?_
    refine lv_iconst (v := (1 : Int32)) hx hb dX8_fewestFrom_79 (by decide) ?_
    refine lv_iadd hx hb dX8_fewestFrom_80 ?_
    refine lv_iload_n hx hb dX8_fewestFrom_81 rfl (lv_at hl 3 rfl) ?_
    refine lv_iload hx hb dX8_fewestFrom_82 (lv_at hl 4 rfl) ?_
    obtain ⟨r84, hc84, hf⟩ := bi_s hf
    have hPc := hP
    have hDc := hD
    have hFc := va_free (wc := (wX8_fewestFrom cI cZ a (sr M 5 (N 5)))) hD hS hA [0, 1, 2, 3, 4, 5] rfl
    refine va_calli (va_runS (As := [.ref (a 0), .ref (a 5), .int (l2 + (1 : Int32)), .int l3, .int l5]) (rest := []) ⟨hx, hb, hml, hown, hts⟩ (c_X8_fewestFrom_9 l dC dI cI cZ a H.size (sr M 5 (N 5)) (l2 + (1 : Int32)) l3 l5 r84 hc84) (va_cwS 5 hts gX8_fewestFrom_X8_fewestFrom rfl rfl rfl (by decide +kernel) ⟨Nat.le_of_ble_eq_true rfl, Nat.le_of_ble_eq_true rfl⟩) ⟨WR.blind, WR.pre hPc hK hDc hNW⟩ rfl rfl hl.1 rfl (lv_room (Nat.le_of_ble_eq_true rfl)) dX8_fewestFrom_84 ⟨Nat.le_of_ble_eq_true rfl, Nat.le_of_ble_eq_true rfl⟩) hS (fun q _ h => hFc q h) hFc (fun rv u t H1 locs ht hvm hw hB hz1 hk1 hS => ?_)
    obtain ⟨hP1, hD1⟩ := hB
    rw [ht] at hP1
    subst hw
    have hP := hP1
    have hD := hD1.weaken (fun k q _ h => hFc q.1 h)
    have hP : va_P (dC, dI) vwCl (wX8_fewestFrom cI cZ a (sr M 5 (r84.2 5))) H1 := hP
    have hD : va_D A (wX8_fewestFrom cI cZ a (sr M 5 (r84.2 5))) := hD
    generalize H1 = H at hP hS ⊢
    have e9 := so_e hf
    subst e9
    exact W.iret (v := r84.1) hx hb hr (fun t ht hW => ⟨⟨r84.1, (), rfl, rfl, WE.mk hP hD ht⟩, hS.F ht⟩) hS.2.2 dX8_fewestFrom_87
  have hl := lv_entry ([.ref (a 0), .ref (a 5), .int a2, .int a3, .int a4]) (n := 6) (Nat.le_of_ble_eq_true rfl)
  rw [lg_entry_eq]
  generalize (lg_sl ([.ref (a 0), .ref (a 5), .int a2, .int a3, .int a4]) ++ List.replicate (6 - (lg_sl ([.ref (a 0), .ref (a 5), .int a2, .int a3, .int a4])).length) Slot.unset).toArray = ls at hl ⊢
  have hl : lv_has ls 6 [(0, .ref (a 0)), (1, .ref (a 5)), (2, .int a2), (3, .int a3), (4, .int a4)] := hl
  rw [fX8_fewestFrom] at hf
  suffices hgo : ∀ (H : Heap) (locs : List Loc), va_P (dC, dI) vwCl (wX8_fewestFrom cI cZ a M) H → va_D A (wX8_fewestFrom cI cZ a M) → va_S A s.heap H locs → W p l e (headSpec wsX8_fewestFrom ({ frames := 14, cells := 0, slots := 0, locals := 345 } : Room)).room s m ([.ref (a 0), .ref (a 5), .int a2, .int a3, .int a4] : List Value).toArray below meth c H locs 0 0 (MQ below (va_Qi (S := Unit) (fun r _ => r = z.1) (fun _ t => WE (dC, dI) cI cZ (wX8_fewestFrom cI cZ a (sr M 5 (z.2 5))) A t) A) ([.ref (a 0), .ref (a 5), .int a2, .int a3, .int a4] : List Value).toArray s 0 0 A) (F0 m 0 ls []) from hgo _ _ hP hD hS
  intro H locs hP hD hS
  refine lv_aload_n hx hb dX8_fewestFrom_0 rfl (lv_at hl 1 rfl) ?_
  obtain ⟨r1, hc1, hf⟩ := bi_s hf
  have hPc := hP.sub (ws' := (wX8_isLacking cI cZ (ofs 5 a) (ofs 5 M))) [5] rfl
  refine cRO (W.runS (As := [.ref (a 5)]) (rest := []) ⟨hx, hb, hml, hown, hts⟩ (c_X8_isLacking l dC dI cI cZ (ofs 5 a) (ofs 5 M) r1 hc1) (va_cwS 1 hts gX8_fewestFrom_X8_isLacking rfl rfl rfl (by decide +kernel) ⟨Nat.le_of_ble_eq_true rfl, Nat.le_of_ble_eq_true rfl⟩) ⟨RO.blind, RO.pre hPc hK hNW⟩ rfl rfl hl.1 rfl (lv_room (Nat.le_of_ble_eq_true rfl)) dX8_fewestFrom_1 ⟨Nat.le_of_ble_eq_true rfl, Nat.le_of_ble_eq_true rfl⟩) ?_
  refine lv_if_ne (tgt := 9) hx hb dX8_fewestFrom_4 (by decide) (fun c9 => ?_) (fun c9 => ?_)
  · have hf := it_t hf c9
    refine lv_iload_n hx hb dX8_fewestFrom_9 rfl (lv_at hl 2 rfl) ?_
    refine lv_aload_n hx hb dX8_fewestFrom_10 rfl (lv_at hl 0 rfl) ?_
    refine va_getN (D := (dC, dI)) (ci := 7) (v := .int (M 0 0)) (C := RX7) (T := TX7) (N := 6) hx hb hts hinX7 hown hK hP 0 rfl rfl 0 (by decide) (nw24 hNW) (fun _ h9 => h9) rfl dX8_fewestFrom_11 ?_
    refine lv_icmp_ge (tgt := 31) hx hb dX8_fewestFrom_14 (by decide) (fun c9 => ?_) (fun c9 => ?_)
    · have hf := it_t hf c9
      exact hfX8_fewestFrom_B31  M a4 hf _ (lv_sub hl [4] rfl) _ _ hP hD hS
    · have hf := it_f hf c9
      refine lv_iload_n hx hb dX8_fewestFrom_17 rfl (lv_at hl 2 rfl) ?_
      refine lv_bipush (v := (12 : Int32)) hx hb dX8_fewestFrom_18 (by decide) ?_
      refine lv_icmp_ge (tgt := 31) hx hb dX8_fewestFrom_20 (by decide) (fun c9 => ?_) (fun c9 => ?_)
      · have hf := it_t hf c9
        exact hfX8_fewestFrom_B31  M a4 hf _ (lv_sub hl [4] rfl) _ _ hP hD hS
      · have hf := it_f hf c9
        refine lv_iload_n hx hb dX8_fewestFrom_23 rfl (lv_at hl 3 rfl) ?_
        refine lv_iconst (v := (1 : Int32)) hx hb dX8_fewestFrom_24 (by decide) ?_
        refine lv_iadd hx hb dX8_fewestFrom_25 ?_
        refine lv_iload hx hb dX8_fewestFrom_26 (lv_at hl 4 rfl) ?_
        refine lv_icmp_lt (tgt := 34) hx hb dX8_fewestFrom_28 (by decide) (fun c9 => ?_) (fun c9 => ?_)
        · have hf := it_t hf c9
          refine lv_iload hx hb dX8_fewestFrom_34 (lv_at hl 4 rfl) ?_
          refine lv_istore (lv' := [(5, .int a4), (0, .ref (a 0)), (1, .ref (a 5)), (2, .int a2), (3, .int a3), (4, .int a4)]) hx hb dX8_fewestFrom_36 hl (by decide) rfl (fun ls hl => ?_)
          refine lv_aload_n hx hb dX8_fewestFrom_38 rfl (lv_at hl 1 rfl) ?_
          refine lv_iload_n hx hb dX8_fewestFrom_39 rfl (lv_at hl 3 rfl) ?_
          refine lv_aload_n hx hb dX8_fewestFrom_40 rfl (lv_at hl 2 rfl) ?_
          obtain ⟨r41, hc41, hf⟩ := bi_s hf
          have hPc := hP.sub (ws' := (wX7_helps cI cZ a M)) [0, 1, 2, 3, 4, 5] rfl
          refine cRO (va_Run.run (va_runVN (As := [.int a2, .ref (a 5)]) (rest := []) ⟨hx, hb, hml, hown, hts⟩ (c_X7_helps l dC dI cI cZ a M a2 r41 hc41) ⟨va_cnB 2 hts gX8_fewestFrom_X7_helps_n454 rfl rfl rfl (nw64 hNW) hw1 (by decide +kernel) ⟨Nat.le_of_ble_eq_true rfl, Nat.le_of_ble_eq_true rfl⟩, hw2, hw3⟩ ⟨RO.blind, va_recv hK hP (ci := 7) (q0 := 0) rfl rfl, RO.pre hPc hK hNW⟩ rfl rfl hl.1 rfl (lv_room (Nat.le_of_ble_eq_true rfl)) dX8_fewestFrom_41 ⟨Nat.le_of_ble_eq_true rfl, Nat.le_of_ble_eq_true rfl⟩)) ?_
          refine lv_if_eq (tgt := 76) hx hb dX8_fewestFrom_44 (by decide) (fun c9 => ?_) (fun c9 => ?_)
          · have hf := it_t hf c9
            exact hfX8_fewestFrom_B76  M a2 a3 a4 hf _ (lv_sub hl [1, 2, 3, 4, 0] rfl) _ _ hP hD hS
          · have hf := it_f hf c9
            refine lv_aload_n hx hb dX8_fewestFrom_47 rfl (lv_at hl 1 rfl) ?_
            refine lv_iload_n hx hb dX8_fewestFrom_48 rfl (lv_at hl 3 rfl) ?_
            refine lv_aload_n hx hb dX8_fewestFrom_49 rfl (lv_at hl 2 rfl) ?_
            refine lv_iconst (v := (-1 : Int32)) hx hb dX8_fewestFrom_50 (by decide) ?_
            obtain ⟨r51, hc51, hf⟩ := bi_s hf
            have hPc := hP.sub (ws' := (wX7_lend cI cZ a M)) [0, 1, 2, 3, 4, 5] rfl
            have hDc := hD.sub (ws' := (wX7_lend cI cZ a M)) [0, 1, 2, 3, 4, 5] (by decide) rfl
            have hFc := va_free (wc := (wX7_lend cI cZ a M)) hD hS hA [0, 1, 2, 3, 4, 5] rfl
            refine va_callv (va_runVN (As := [.int a2, .ref (a 5), .int (-1 : Int32)]) (rest := []) ⟨hx, hb, hml, hown, hts⟩ (c_X7_lend l dC dI cI cZ a H.size M a2 (-1 : Int32) r51 hc51) ⟨va_cnB 3 hts gX8_fewestFrom_X7_lend_n458 rfl rfl rfl (nw65 hNW) hw1 (by decide +kernel) ⟨Nat.le_of_ble_eq_true rfl, Nat.le_of_ble_eq_true rfl⟩, hw4, hw5⟩ ⟨WR.blind, va_recv hK hP (ci := 7) (q0 := 0) rfl rfl, WR.pre hPc hK hDc hNW⟩ rfl rfl hl.1 rfl (lv_room (Nat.le_of_ble_eq_true rfl)) dX8_fewestFrom_51 ⟨Nat.le_of_ble_eq_true rfl, Nat.le_of_ble_eq_true rfl⟩) hS (fun q _ h => hFc q h) hFc (fun u t H1 locs ht hvm hw hB hz1 hk1 hS => ?_)
            obtain ⟨hP1, hD1⟩ := hB
            rw [ht] at hP1
            obtain ⟨hP, hD⟩ := va_join (wr := []) (w1 := (wX7_lend cI cZ a (sr M 5 (r51 5)))) hP hD [0, 1, 2, 3, 4, 5] [] rfl rfl (by decide) (by decide) hk1 hFc hP1 hD1
            have hP := hP.sub (ws' := (wX8_fewestFrom cI cZ a (sr M 5 (r51 5)))) [0, 1, 2, 3, 4, 5] rfl
            have hD := hD.sub (ws' := (wX8_fewestFrom cI cZ a (sr M 5 (r51 5)))) [0, 1, 2, 3, 4, 5] (by decide) rfl
            generalize H1 = H at hP hS ⊢
            refine lv_aload_n hx hb dX8_fewestFrom_54 rfl (lv_at hl 1 rfl) ?_
            refine lv_aload_n hx hb dX8_fewestFrom_55 rfl (lv_at hl 2 rfl) ?_
            refine lv_iload_n hx hb dX8_fewestFrom_56 rfl (lv_at hl 3 rfl) ?_
            refine lv_iconst (v := (1 : Int32)) hx hb dX8_fewestFrom_57 (by decide) ?_
            refine lv_iadd hx hb dX8_fewestFrom_58 ?_
            refine lv_iload_n hx hb dX8_fewestFrom_59 rfl (lv_at hl 4 rfl) ?_
            refine lv_iconst (v := (1 : Int32)) hx hb dX8_fewestFrom_60 (by decide) ?_
            refine lv_iadd hx hb dX8_fewestFrom_61 ?_
            refine lv_iload hx hb dX8_fewestFrom_62 (lv_at hl 0 rfl) ?_
            obtain ⟨r64, hc64, hf⟩ := bi_s hf
            have hPc := hP
            have hDc := hD
            have hFc := va_free (wc := (wX8_fewestFrom cI cZ a (sr M 5 (r51 5)))) hD hS hA [0, 1, 2, 3, 4, 5] rfl
            refine va_calli (va_runS (As := [.ref (a 0), .ref (a 5), .int (a2 + (1 : Int32)), .int (a3 + (1 : Int32)), .int a4]) (rest := []) ⟨hx, hb, hml, hown, hts⟩ (c_X8_fewestFrom_9 l dC dI cI cZ a H.size (sr M 5 (r51 5)) (a2 + (1 : Int32)) (a3 + (1 : Int32)) a4 r64 hc64) (va_cwS 5 hts gX8_fewestFrom_X8_fewestFrom rfl rfl rfl (by decide +kernel) ⟨Nat.le_of_ble_eq_true rfl, Nat.le_of_ble_eq_true rfl⟩) ⟨WR.blind, WR.pre hPc hK hDc hNW⟩ rfl rfl hl.1 rfl (lv_room (Nat.le_of_ble_eq_true rfl)) dX8_fewestFrom_64 ⟨Nat.le_of_ble_eq_true rfl, Nat.le_of_ble_eq_true rfl⟩) hS (fun q _ h => hFc q h) hFc (fun rv u t H1 locs ht hvm hw hB hz1 hk1 hS => ?_)
            obtain ⟨hP1, hD1⟩ := hB
            rw [ht] at hP1
            subst hw
            have hP := hP1
            have hD := hD1.weaken (fun k q _ h => hFc q.1 h)
            have hP : va_P (dC, dI) vwCl (wX8_fewestFrom cI cZ a (sr M 5 (r64.2 5))) H1 := hP
            have hD : va_D A (wX8_fewestFrom cI cZ a (sr M 5 (r64.2 5))) := hD
            generalize H1 = H at hP hS ⊢
            refine lv_istore (lv' := [(5, .int r64.1), (0, .ref (a 0)), (1, .ref (a 5)), (2, .int a2), (3, .int a3), (4, .int a4)]) hx hb dX8_fewestFrom_67 hl (by decide) rfl (fun ls hl => ?_)
            refine lv_aload_n hx hb dX8_fewestFrom_69 rfl (lv_at hl 1 rfl) ?_
            refine lv_iload_n hx hb dX8_fewestFrom_70 rfl (lv_at hl 3 rfl) ?_
            refine lv_aload_n hx hb dX8_fewestFrom_71 rfl (lv_at hl 2 rfl) ?_
            refine lv_iconst (v := (1 : Int32)) hx hb dX8_fewestFrom_72 (by decide) ?_
            obtain ⟨r73, hc73, hf⟩ := bi_s hf
            have hPc := hP.sub (ws' := (wX7_lend cI cZ a (sr M 5 (r64.2 5)))) [0, 1, 2, 3, 4, 5] rfl
            have hDc := hD.sub (ws' := (wX7_lend cI cZ a (sr M 5 (r64.2 5)))) [0, 1, 2, 3, 4, 5] (by decide) rfl
            have hFc := va_free (wc := (wX7_lend cI cZ a (sr M 5 (r64.2 5)))) hD hS hA [0, 1, 2, 3, 4, 5] rfl
            refine va_callv (va_runVN (As := [.int a2, .ref (a 5), .int (1 : Int32)]) (rest := []) ⟨hx, hb, hml, hown, hts⟩ (c_X7_lend l dC dI cI cZ a H.size (sr M 5 (r64.2 5)) a2 (1 : Int32) r73 hc73) ⟨va_cnB 3 hts gX8_fewestFrom_X7_lend_n458 rfl rfl rfl (nw65 hNW) hw1 (by decide +kernel) ⟨Nat.le_of_ble_eq_true rfl, Nat.le_of_ble_eq_true rfl⟩, hw4, hw5⟩ ⟨WR.blind, va_recv hK hP (ci := 7) (q0 := 0) rfl rfl, WR.pre hPc hK hDc hNW⟩ rfl rfl hl.1 rfl (lv_room (Nat.le_of_ble_eq_true rfl)) dX8_fewestFrom_73 ⟨Nat.le_of_ble_eq_true rfl, Nat.le_of_ble_eq_true rfl⟩) hS (fun q _ h => hFc q h) hFc (fun u t H1 locs ht hvm hw hB hz1 hk1 hS => ?_)
            obtain ⟨hP1, hD1⟩ := hB
            rw [ht] at hP1
            obtain ⟨hP, hD⟩ := va_join (wr := []) (w1 := (wX7_lend cI cZ a (sr (sr M 5 (r64.2 5)) 5 (r73 5)))) hP hD [0, 1, 2, 3, 4, 5] [] rfl rfl (by decide) (by decide) hk1 hFc hP1 hD1
            have hP := hP.sub (ws' := (wX8_fewestFrom cI cZ a (sr M 5 (r73 5)))) [0, 1, 2, 3, 4, 5] rfl
            have hD := hD.sub (ws' := (wX8_fewestFrom cI cZ a (sr M 5 (r73 5)))) [0, 1, 2, 3, 4, 5] (by decide) rfl
            generalize H1 = H at hP hS ⊢
            exact hfX8_fewestFrom_B76  (sr M 5 (r73 5)) a2 a3 r64.1 hf _ (lv_sub hl [1, 2, 3, 4, 0] rfl) _ _ hP hD hS
        · have hf := it_f hf c9
          exact hfX8_fewestFrom_B31  M a4 hf _ (lv_sub hl [4] rfl) _ _ hP hD hS
  · have hf := it_n hf c9
    refine lv_iload_n hx hb dX8_fewestFrom_7 rfl (lv_at hl 3 rfl) ?_
    have e9 := so_e hf
    subst e9
    exact W.iret (v := a3) hx hb hr (fun t ht hW => ⟨⟨a3, (), rfl, rfl, WE.mk hP hD ht⟩, hS.F ht⟩) hS.2.2 dX8_fewestFrom_8
set_option maxHeartbeats 4000000 in
set_option maxRecDepth 100000 in
theorem c_X8_fewestFrom_11 (l : Launch) (dC : Nat → ClassId) (dI : Nat → Nat → Nat) (cI cZ : ClassId) (a : Nat → Nat) (sz : Nat) (M : Mem) (a2 : Int32) (a3 : Int32) (a4 : Int32) (z : Int32 × Mem) (hf : fX8_fewestFrom (10 + 1) M a2 a3 a4 = some z) : Met l yX8_fewestFrom wsX8_fewestFrom ({ frames := 15, cells := 0, slots := 0, locals := 370 } : Room) (va_Pc [.ref (a 0), .ref (a 5), .int a2, .int a3, .int a4] (WR (dC, dI) cI cZ (wX8_fewestFrom cI cZ a M) sz)) (va_Qi (S := Unit) (fun r _ => r = z.1) (fun _ t => WE (dC, dI) cI cZ (wX8_fewestFrom cI cZ a (sr M 5 (z.2 5))) (va_A (wX8_fewestFrom cI cZ a M) sz) t) (va_A (wX8_fewestFrom cI cZ a M) sz)) 0 0 (va_A (wX8_fewestFrom cI cZ a M) sz) := by
  refine Met.ofW (cc := cX8_fewestFrom) (maxL := 6) (ret := (some .int)) (by decide) rfl ?_
  intro p e s m args below meth c s₁ B hml hv
  obtain ⟨rfl, hsz, hP, hK, hD0, hNW⟩ := hv
  have hx := B.exec
  have hb := B.bytes
  have hr := B.returns
  have hts := atoms_spec (ws := wsX8_fewestFrom) B.pre
  have hown : s.vm.findClass RX8 = some m.cls := findClass_of_methodNamed B.named
  have hlocks := B.notSynchronized
  have hinX7 : ∀ w ∈ u_ws RX7 TX7 6, w ∈ wsX8_fewestFrom := by decide +kernel
  have hw1 := hts (.initialized RX7) (by decide +kernel)
  have hw2 := hts (.instanceMethod yX7_helps) (by decide +kernel)
  have hw3 := hts (.selects RX7 yX7_helps yX7_helps) (by decide +kernel)
  have hw4 := hts (.instanceMethod yX7_lend) (by decide +kernel)
  have hw5 := hts (.selects RX7 yX7_lend yX7_lend) (by decide +kernel)
  subst hsz
  have hD := hD0.self (sz := s.heap.size)
  generalize hAe : va_A (wX8_fewestFrom cI cZ a M) s.heap.size = A at hD ⊢
  have hA : ∀ q : Nat, s.heap.size ≤ q → A q := fun q h => by rw [← hAe]; exact Or.inr h
  have hS : va_S A s.heap s.heap [] := va_S.rf
  have hfX8_fewestFrom_B31 : ∀ (N : Mem) (l4 : Int32), fX8_fewestFrom_B31 M  N l4 = some z → ∀ (ls : Array Slot), lv_has ls 6 [(4, .int l4)] → ∀ (H : Heap) (locs : List Loc), va_P (dC, dI) vwCl (wX8_fewestFrom cI cZ a (sr M 5 (N 5))) H → va_D A (wX8_fewestFrom cI cZ a (sr M 5 (N 5))) → va_S A s.heap H locs → W p l e (headSpec wsX8_fewestFrom ({ frames := 15, cells := 0, slots := 0, locals := 370 } : Room)).room s m ([.ref (a 0), .ref (a 5), .int a2, .int a3, .int a4] : List Value).toArray below meth c H locs 0 0 (MQ below (va_Qi (S := Unit) (fun r _ => r = z.1) (fun _ t => WE (dC, dI) cI cZ (wX8_fewestFrom cI cZ a (sr M 5 (z.2 5))) A t) A) ([.ref (a 0), .ref (a 5), .int a2, .int a3, .int a4] : List Value).toArray s 0 0 A) (F0 m 31 ls []) := by
    intro  N l4 hf ls hl H locs hP hD hS
    unfold fX8_fewestFrom_B31 at hf
    refine lv_iload hx hb dX8_fewestFrom_31 (lv_at hl 0 rfl) ?_
    have e9 := so_e hf
    subst e9
    exact W.iret (v := l4) hx hb hr (fun t ht hW => ⟨⟨l4, (), rfl, rfl, WE.mk hP hD ht⟩, hS.F ht⟩) hS.2.2 dX8_fewestFrom_33
  have hfX8_fewestFrom_B76 : ∀ (N : Mem) (l2 : Int32) (l3 : Int32) (l5 : Int32), fX8_fewestFrom_B76 (fX8_fewestFrom 10) M  N l2 l3 l5 = some z → ∀ (ls : Array Slot), lv_has ls 6 [(0, .ref (a 0)), (1, .ref (a 5)), (2, .int l2), (3, .int l3), (5, .int l5)] → ∀ (H : Heap) (locs : List Loc), va_P (dC, dI) vwCl (wX8_fewestFrom cI cZ a (sr M 5 (N 5))) H → va_D A (wX8_fewestFrom cI cZ a (sr M 5 (N 5))) → va_S A s.heap H locs → W p l e (headSpec wsX8_fewestFrom ({ frames := 15, cells := 0, slots := 0, locals := 370 } : Room)).room s m ([.ref (a 0), .ref (a 5), .int a2, .int a3, .int a4] : List Value).toArray below meth c H locs 0 0 (MQ below (va_Qi (S := Unit) (fun r _ => r = z.1) (fun _ t => WE (dC, dI) cI cZ (wX8_fewestFrom cI cZ a (sr M 5 (z.2 5))) A t) A) ([.ref (a 0), .ref (a 5), .int a2, .int a3, .int a4] : List Value).toArray s 0 0 A) (F0 m 76 ls []) := by
    intro  N l2 l3 l5 hf ls hl H locs hP hD hS
    unfold fX8_fewestFrom_B76 at hf
    refine lv_aload_n hx hb dX8_fewestFrom_76 rfl (lv_at hl 0 rfl) ?_
    refine lv_aload_n hx hb dX8_fewestFrom_77 rfl (lv_at hl 1 rfl) ?_
    refine lv_iload_n hx hb dX8_fewestFrom_78 rfl (lv_at hl 2 rfl) ?_
    refine lv_iconst (v := (1 : Int32)) hx hb dX8_fewestFrom_79 (by decide) ?_
    refine lv_iadd hx hb dX8_fewestFrom_80 ?_
    refine lv_iload_n hx hb dX8_fewestFrom_81 rfl (lv_at hl 3 rfl) ?_
    refine lv_iload hx hb dX8_fewestFrom_82 (lv_at hl 4 rfl) ?_
    obtain ⟨r84, hc84, hf⟩ := bi_s hf
    have hPc := hP
    have hDc := hD
    have hFc := va_free (wc := (wX8_fewestFrom cI cZ a (sr M 5 (N 5)))) hD hS hA [0, 1, 2, 3, 4, 5] rfl
    refine va_calli (va_runS (As := [.ref (a 0), .ref (a 5), .int (l2 + (1 : Int32)), .int l3, .int l5]) (rest := []) ⟨hx, hb, hml, hown, hts⟩ (c_X8_fewestFrom_10 l dC dI cI cZ a H.size (sr M 5 (N 5)) (l2 + (1 : Int32)) l3 l5 r84 hc84) (va_cwS 5 hts gX8_fewestFrom_X8_fewestFrom rfl rfl rfl (by decide +kernel) ⟨Nat.le_of_ble_eq_true rfl, Nat.le_of_ble_eq_true rfl⟩) ⟨WR.blind, WR.pre hPc hK hDc hNW⟩ rfl rfl hl.1 rfl (lv_room (Nat.le_of_ble_eq_true rfl)) dX8_fewestFrom_84 ⟨Nat.le_of_ble_eq_true rfl, Nat.le_of_ble_eq_true rfl⟩) hS (fun q _ h => hFc q h) hFc (fun rv u t H1 locs ht hvm hw hB hz1 hk1 hS => ?_)
    obtain ⟨hP1, hD1⟩ := hB
    rw [ht] at hP1
    subst hw
    have hP := hP1
    have hD := hD1.weaken (fun k q _ h => hFc q.1 h)
    have hP : va_P (dC, dI) vwCl (wX8_fewestFrom cI cZ a (sr M 5 (r84.2 5))) H1 := hP
    have hD : va_D A (wX8_fewestFrom cI cZ a (sr M 5 (r84.2 5))) := hD
    generalize H1 = H at hP hS ⊢
    have e9 := so_e hf
    subst e9
    exact W.iret (v := r84.1) hx hb hr (fun t ht hW => ⟨⟨r84.1, (), rfl, rfl, WE.mk hP hD ht⟩, hS.F ht⟩) hS.2.2 dX8_fewestFrom_87
  have hl := lv_entry ([.ref (a 0), .ref (a 5), .int a2, .int a3, .int a4]) (n := 6) (Nat.le_of_ble_eq_true rfl)
  rw [lg_entry_eq]
  generalize (lg_sl ([.ref (a 0), .ref (a 5), .int a2, .int a3, .int a4]) ++ List.replicate (6 - (lg_sl ([.ref (a 0), .ref (a 5), .int a2, .int a3, .int a4])).length) Slot.unset).toArray = ls at hl ⊢
  have hl : lv_has ls 6 [(0, .ref (a 0)), (1, .ref (a 5)), (2, .int a2), (3, .int a3), (4, .int a4)] := hl
  rw [fX8_fewestFrom] at hf
  suffices hgo : ∀ (H : Heap) (locs : List Loc), va_P (dC, dI) vwCl (wX8_fewestFrom cI cZ a M) H → va_D A (wX8_fewestFrom cI cZ a M) → va_S A s.heap H locs → W p l e (headSpec wsX8_fewestFrom ({ frames := 15, cells := 0, slots := 0, locals := 370 } : Room)).room s m ([.ref (a 0), .ref (a 5), .int a2, .int a3, .int a4] : List Value).toArray below meth c H locs 0 0 (MQ below (va_Qi (S := Unit) (fun r _ => r = z.1) (fun _ t => WE (dC, dI) cI cZ (wX8_fewestFrom cI cZ a (sr M 5 (z.2 5))) A t) A) ([.ref (a 0), .ref (a 5), .int a2, .int a3, .int a4] : List Value).toArray s 0 0 A) (F0 m 0 ls []) from hgo _ _ hP hD hS
  intro H locs hP hD hS
  refine lv_aload_n hx hb dX8_fewestFrom_0 rfl (lv_at hl 1 rfl) ?_
  obtain ⟨r1, hc1, hf⟩ := bi_s hf
  have hPc := hP.sub (ws' := (wX8_isLacking cI cZ (ofs 5 a) (ofs 5 M))) [5] rfl
  refine cRO (W.runS (As := [.ref (a 5)]) (rest := []) ⟨hx, hb, hml, hown, hts⟩ (c_X8_isLacking l dC dI cI cZ (ofs 5 a) (ofs 5 M) r1 hc1) (va_cwS 1 hts gX8_fewestFrom_X8_isLacking rfl rfl rfl (by decide +kernel) ⟨Nat.le_of_ble_eq_true rfl, Nat.le_of_ble_eq_true rfl⟩) ⟨RO.blind, RO.pre hPc hK hNW⟩ rfl rfl hl.1 rfl (lv_room (Nat.le_of_ble_eq_true rfl)) dX8_fewestFrom_1 ⟨Nat.le_of_ble_eq_true rfl, Nat.le_of_ble_eq_true rfl⟩) ?_
  refine lv_if_ne (tgt := 9) hx hb dX8_fewestFrom_4 (by decide) (fun c9 => ?_) (fun c9 => ?_)
  · have hf := it_t hf c9
    refine lv_iload_n hx hb dX8_fewestFrom_9 rfl (lv_at hl 2 rfl) ?_
    refine lv_aload_n hx hb dX8_fewestFrom_10 rfl (lv_at hl 0 rfl) ?_
    refine va_getN (D := (dC, dI)) (ci := 7) (v := .int (M 0 0)) (C := RX7) (T := TX7) (N := 6) hx hb hts hinX7 hown hK hP 0 rfl rfl 0 (by decide) (nw24 hNW) (fun _ h9 => h9) rfl dX8_fewestFrom_11 ?_
    refine lv_icmp_ge (tgt := 31) hx hb dX8_fewestFrom_14 (by decide) (fun c9 => ?_) (fun c9 => ?_)
    · have hf := it_t hf c9
      exact hfX8_fewestFrom_B31  M a4 hf _ (lv_sub hl [4] rfl) _ _ hP hD hS
    · have hf := it_f hf c9
      refine lv_iload_n hx hb dX8_fewestFrom_17 rfl (lv_at hl 2 rfl) ?_
      refine lv_bipush (v := (12 : Int32)) hx hb dX8_fewestFrom_18 (by decide) ?_
      refine lv_icmp_ge (tgt := 31) hx hb dX8_fewestFrom_20 (by decide) (fun c9 => ?_) (fun c9 => ?_)
      · have hf := it_t hf c9
        exact hfX8_fewestFrom_B31  M a4 hf _ (lv_sub hl [4] rfl) _ _ hP hD hS
      · have hf := it_f hf c9
        refine lv_iload_n hx hb dX8_fewestFrom_23 rfl (lv_at hl 3 rfl) ?_
        refine lv_iconst (v := (1 : Int32)) hx hb dX8_fewestFrom_24 (by decide) ?_
        refine lv_iadd hx hb dX8_fewestFrom_25 ?_
        refine lv_iload hx hb dX8_fewestFrom_26 (lv_at hl 4 rfl) ?_
        refine lv_icmp_lt (tgt := 34) hx hb dX8_fewestFrom_28 (by decide) (fun c9 => ?_) (fun c9 => ?_)
        · have hf := it_t hf c9
          refine lv_iload hx hb dX8_fewestFrom_34 (lv_at hl 4 rfl) ?_
          refine lv_istore (lv' := [(5, .int a4), (0, .ref (a 0)), (1, .ref (a 5)), (2, .int a2), (3, .int a3), (4, .int a4)]) hx hb dX8_fewestFrom_36 hl (by decide) rfl (fun ls hl => ?_)
          refine lv_aload_n hx hb dX8_fewestFrom_38 rfl (lv_at hl 1 rfl) ?_
          refine lv_iload_n hx hb dX8_fewestFrom_39 rfl (lv_at hl 3 rfl) ?_
          refine lv_aload_n hx hb dX8_fewestFrom_40 rfl (lv_at hl 2 rfl) ?_
          obtain ⟨r41, hc41, hf⟩ := bi_s hf
          have hPc := hP.sub (ws' := (wX7_helps cI cZ a M)) [0, 1, 2, 3, 4, 5] rfl
          refine cRO (va_Run.run (va_runVN (As := [.int a2, .ref (a 5)]) (rest := []) ⟨hx, hb, hml, hown, hts⟩ (c_X7_helps l dC dI cI cZ a M a2 r41 hc41) ⟨va_cnB 2 hts gX8_fewestFrom_X7_helps_n454 rfl rfl rfl (nw64 hNW) hw1 (by decide +kernel) ⟨Nat.le_of_ble_eq_true rfl, Nat.le_of_ble_eq_true rfl⟩, hw2, hw3⟩ ⟨RO.blind, va_recv hK hP (ci := 7) (q0 := 0) rfl rfl, RO.pre hPc hK hNW⟩ rfl rfl hl.1 rfl (lv_room (Nat.le_of_ble_eq_true rfl)) dX8_fewestFrom_41 ⟨Nat.le_of_ble_eq_true rfl, Nat.le_of_ble_eq_true rfl⟩)) ?_
          refine lv_if_eq (tgt := 76) hx hb dX8_fewestFrom_44 (by decide) (fun c9 => ?_) (fun c9 => ?_)
          · have hf := it_t hf c9
            exact hfX8_fewestFrom_B76  M a2 a3 a4 hf _ (lv_sub hl [1, 2, 3, 4, 0] rfl) _ _ hP hD hS
          · have hf := it_f hf c9
            refine lv_aload_n hx hb dX8_fewestFrom_47 rfl (lv_at hl 1 rfl) ?_
            refine lv_iload_n hx hb dX8_fewestFrom_48 rfl (lv_at hl 3 rfl) ?_
            refine lv_aload_n hx hb dX8_fewestFrom_49 rfl (lv_at hl 2 rfl) ?_
            refine lv_iconst (v := (-1 : Int32)) hx hb dX8_fewestFrom_50 (by decide) ?_
            obtain ⟨r51, hc51, hf⟩ := bi_s hf
            have hPc := hP.sub (ws' := (wX7_lend cI cZ a M)) [0, 1, 2, 3, 4, 5] rfl
            have hDc := hD.sub (ws' := (wX7_lend cI cZ a M)) [0, 1, 2, 3, 4, 5] (by decide) rfl
            have hFc := va_free (wc := (wX7_lend cI cZ a M)) hD hS hA [0, 1, 2, 3, 4, 5] rfl
            refine va_callv (va_runVN (As := [.int a2, .ref (a 5), .int (-1 : Int32)]) (rest := []) ⟨hx, hb, hml, hown, hts⟩ (c_X7_lend l dC dI cI cZ a H.size M a2 (-1 : Int32) r51 hc51) ⟨va_cnB 3 hts gX8_fewestFrom_X7_lend_n458 rfl rfl rfl (nw65 hNW) hw1 (by decide +kernel) ⟨Nat.le_of_ble_eq_true rfl, Nat.le_of_ble_eq_true rfl⟩, hw4, hw5⟩ ⟨WR.blind, va_recv hK hP (ci := 7) (q0 := 0) rfl rfl, WR.pre hPc hK hDc hNW⟩ rfl rfl hl.1 rfl (lv_room (Nat.le_of_ble_eq_true rfl)) dX8_fewestFrom_51 ⟨Nat.le_of_ble_eq_true rfl, Nat.le_of_ble_eq_true rfl⟩) hS (fun q _ h => hFc q h) hFc (fun u t H1 locs ht hvm hw hB hz1 hk1 hS => ?_)
            obtain ⟨hP1, hD1⟩ := hB
            rw [ht] at hP1
            obtain ⟨hP, hD⟩ := va_join (wr := []) (w1 := (wX7_lend cI cZ a (sr M 5 (r51 5)))) hP hD [0, 1, 2, 3, 4, 5] [] rfl rfl (by decide) (by decide) hk1 hFc hP1 hD1
            have hP := hP.sub (ws' := (wX8_fewestFrom cI cZ a (sr M 5 (r51 5)))) [0, 1, 2, 3, 4, 5] rfl
            have hD := hD.sub (ws' := (wX8_fewestFrom cI cZ a (sr M 5 (r51 5)))) [0, 1, 2, 3, 4, 5] (by decide) rfl
            generalize H1 = H at hP hS ⊢
            refine lv_aload_n hx hb dX8_fewestFrom_54 rfl (lv_at hl 1 rfl) ?_
            refine lv_aload_n hx hb dX8_fewestFrom_55 rfl (lv_at hl 2 rfl) ?_
            refine lv_iload_n hx hb dX8_fewestFrom_56 rfl (lv_at hl 3 rfl) ?_
            refine lv_iconst (v := (1 : Int32)) hx hb dX8_fewestFrom_57 (by decide) ?_
            refine lv_iadd hx hb dX8_fewestFrom_58 ?_
            refine lv_iload_n hx hb dX8_fewestFrom_59 rfl (lv_at hl 4 rfl) ?_
            refine lv_iconst (v := (1 : Int32)) hx hb dX8_fewestFrom_60 (by decide) ?_
            refine lv_iadd hx hb dX8_fewestFrom_61 ?_
            refine lv_iload hx hb dX8_fewestFrom_62 (lv_at hl 0 rfl) ?_
            obtain ⟨r64, hc64, hf⟩ := bi_s hf
            have hPc := hP
            have hDc := hD
            have hFc := va_free (wc := (wX8_fewestFrom cI cZ a (sr M 5 (r51 5)))) hD hS hA [0, 1, 2, 3, 4, 5] rfl
            refine va_calli (va_runS (As := [.ref (a 0), .ref (a 5), .int (a2 + (1 : Int32)), .int (a3 + (1 : Int32)), .int a4]) (rest := []) ⟨hx, hb, hml, hown, hts⟩ (c_X8_fewestFrom_10 l dC dI cI cZ a H.size (sr M 5 (r51 5)) (a2 + (1 : Int32)) (a3 + (1 : Int32)) a4 r64 hc64) (va_cwS 5 hts gX8_fewestFrom_X8_fewestFrom rfl rfl rfl (by decide +kernel) ⟨Nat.le_of_ble_eq_true rfl, Nat.le_of_ble_eq_true rfl⟩) ⟨WR.blind, WR.pre hPc hK hDc hNW⟩ rfl rfl hl.1 rfl (lv_room (Nat.le_of_ble_eq_true rfl)) dX8_fewestFrom_64 ⟨Nat.le_of_ble_eq_true rfl, Nat.le_of_ble_eq_true rfl⟩) hS (fun q _ h => hFc q h) hFc (fun rv u t H1 locs ht hvm hw hB hz1 hk1 hS => ?_)
            obtain ⟨hP1, hD1⟩ := hB
            rw [ht] at hP1
            subst hw
            have hP := hP1
            have hD := hD1.weaken (fun k q _ h => hFc q.1 h)
            have hP : va_P (dC, dI) vwCl (wX8_fewestFrom cI cZ a (sr M 5 (r64.2 5))) H1 := hP
            have hD : va_D A (wX8_fewestFrom cI cZ a (sr M 5 (r64.2 5))) := hD
            generalize H1 = H at hP hS ⊢
            refine lv_istore (lv' := [(5, .int r64.1), (0, .ref (a 0)), (1, .ref (a 5)), (2, .int a2), (3, .int a3), (4, .int a4)]) hx hb dX8_fewestFrom_67 hl (by decide) rfl (fun ls hl => ?_)
            refine lv_aload_n hx hb dX8_fewestFrom_69 rfl (lv_at hl 1 rfl) ?_
            refine lv_iload_n hx hb dX8_fewestFrom_70 rfl (lv_at hl 3 rfl) ?_
            refine lv_aload_n hx hb dX8_fewestFrom_71 rfl (lv_at hl 2 rfl) ?_
            refine lv_iconst (v := (1 : Int32)) hx hb dX8_fewestFrom_72 (by decide) ?_
            obtain ⟨r73, hc73, hf⟩ := bi_s hf
            have hPc := hP.sub (ws' := (wX7_lend cI cZ a (sr M 5 (r64.2 5)))) [0, 1, 2, 3, 4, 5] rfl
            have hDc := hD.sub (ws' := (wX7_lend cI cZ a (sr M 5 (r64.2 5)))) [0, 1, 2, 3, 4, 5] (by decide) rfl
            have hFc := va_free (wc := (wX7_lend cI cZ a (sr M 5 (r64.2 5)))) hD hS hA [0, 1, 2, 3, 4, 5] rfl
            refine va_callv (va_runVN (As := [.int a2, .ref (a 5), .int (1 : Int32)]) (rest := []) ⟨hx, hb, hml, hown, hts⟩ (c_X7_lend l dC dI cI cZ a H.size (sr M 5 (r64.2 5)) a2 (1 : Int32) r73 hc73) ⟨va_cnB 3 hts gX8_fewestFrom_X7_lend_n458 rfl rfl rfl (nw65 hNW) hw1 (by decide +kernel) ⟨Nat.le_of_ble_eq_true rfl, Nat.le_of_ble_eq_true rfl⟩, hw4, hw5⟩ ⟨WR.blind, va_recv hK hP (ci := 7) (q0 := 0) rfl rfl, WR.pre hPc hK hDc hNW⟩ rfl rfl hl.1 rfl (lv_room (Nat.le_of_ble_eq_true rfl)) dX8_fewestFrom_73 ⟨Nat.le_of_ble_eq_true rfl, Nat.le_of_ble_eq_true rfl⟩) hS (fun q _ h => hFc q h) hFc (fun u t H1 locs ht hvm hw hB hz1 hk1 hS => ?_)
            obtain ⟨hP1, hD1⟩ := hB
            rw [ht] at hP1
            obtain ⟨hP, hD⟩ := va_join (wr := []) (w1 := (wX7_lend cI cZ a (sr (sr M 5 (r64.2 5)) 5 (r73 5)))) hP hD [0, 1, 2, 3, 4, 5] [] rfl rfl (by decide) (by decide) hk1 hFc hP1 hD1
            have hP := hP.sub (ws' := (wX8_fewestFrom cI cZ a (sr M 5 (r73 5)))) [0, 1, 2, 3, 4, 5] rfl
            have hD := hD.sub (ws' := (wX8_fewestFrom cI cZ a (sr M 5 (r73 5)))) [0, 1, 2, 3, 4, 5] (by decide) rfl
            generalize H1 = H at hP hS ⊢
            exact hfX8_fewestFrom_B76  (sr M 5 (r73 5)) a2 a3 r64.1 hf _ (lv_sub hl [1, 2, 3, 4, 0] rfl) _ _ hP hD hS
        · have hf := it_f hf c9
          exact hfX8_fewestFrom_B31  M a4 hf _ (lv_sub hl [4] rfl) _ _ hP hD hS
  · have hf := it_n hf c9
    refine lv_iload_n hx hb dX8_fewestFrom_7 rfl (lv_at hl 3 rfl) ?_
    have e9 := so_e hf
    subst e9
    exact W.iret (v := a3) hx hb hr (fun t ht hW => ⟨⟨a3, (), rfl, rfl, WE.mk hP hD ht⟩, hS.F ht⟩) hS.2.2 dX8_fewestFrom_8
set_option maxHeartbeats 4000000 in
set_option maxRecDepth 100000 in
theorem c_X8_fewestFrom_12 (l : Launch) (dC : Nat → ClassId) (dI : Nat → Nat → Nat) (cI cZ : ClassId) (a : Nat → Nat) (sz : Nat) (M : Mem) (a2 : Int32) (a3 : Int32) (a4 : Int32) (z : Int32 × Mem) (hf : fX8_fewestFrom (11 + 1) M a2 a3 a4 = some z) : Met l yX8_fewestFrom wsX8_fewestFrom ({ frames := 16, cells := 0, slots := 0, locals := 395 } : Room) (va_Pc [.ref (a 0), .ref (a 5), .int a2, .int a3, .int a4] (WR (dC, dI) cI cZ (wX8_fewestFrom cI cZ a M) sz)) (va_Qi (S := Unit) (fun r _ => r = z.1) (fun _ t => WE (dC, dI) cI cZ (wX8_fewestFrom cI cZ a (sr M 5 (z.2 5))) (va_A (wX8_fewestFrom cI cZ a M) sz) t) (va_A (wX8_fewestFrom cI cZ a M) sz)) 0 0 (va_A (wX8_fewestFrom cI cZ a M) sz) := by
  refine Met.ofW (cc := cX8_fewestFrom) (maxL := 6) (ret := (some .int)) (by decide) rfl ?_
  intro p e s m args below meth c s₁ B hml hv
  obtain ⟨rfl, hsz, hP, hK, hD0, hNW⟩ := hv
  have hx := B.exec
  have hb := B.bytes
  have hr := B.returns
  have hts := atoms_spec (ws := wsX8_fewestFrom) B.pre
  have hown : s.vm.findClass RX8 = some m.cls := findClass_of_methodNamed B.named
  have hlocks := B.notSynchronized
  have hinX7 : ∀ w ∈ u_ws RX7 TX7 6, w ∈ wsX8_fewestFrom := by decide +kernel
  have hw1 := hts (.initialized RX7) (by decide +kernel)
  have hw2 := hts (.instanceMethod yX7_helps) (by decide +kernel)
  have hw3 := hts (.selects RX7 yX7_helps yX7_helps) (by decide +kernel)
  have hw4 := hts (.instanceMethod yX7_lend) (by decide +kernel)
  have hw5 := hts (.selects RX7 yX7_lend yX7_lend) (by decide +kernel)
  subst hsz
  have hD := hD0.self (sz := s.heap.size)
  generalize hAe : va_A (wX8_fewestFrom cI cZ a M) s.heap.size = A at hD ⊢
  have hA : ∀ q : Nat, s.heap.size ≤ q → A q := fun q h => by rw [← hAe]; exact Or.inr h
  have hS : va_S A s.heap s.heap [] := va_S.rf
  have hfX8_fewestFrom_B31 : ∀ (N : Mem) (l4 : Int32), fX8_fewestFrom_B31 M  N l4 = some z → ∀ (ls : Array Slot), lv_has ls 6 [(4, .int l4)] → ∀ (H : Heap) (locs : List Loc), va_P (dC, dI) vwCl (wX8_fewestFrom cI cZ a (sr M 5 (N 5))) H → va_D A (wX8_fewestFrom cI cZ a (sr M 5 (N 5))) → va_S A s.heap H locs → W p l e (headSpec wsX8_fewestFrom ({ frames := 16, cells := 0, slots := 0, locals := 395 } : Room)).room s m ([.ref (a 0), .ref (a 5), .int a2, .int a3, .int a4] : List Value).toArray below meth c H locs 0 0 (MQ below (va_Qi (S := Unit) (fun r _ => r = z.1) (fun _ t => WE (dC, dI) cI cZ (wX8_fewestFrom cI cZ a (sr M 5 (z.2 5))) A t) A) ([.ref (a 0), .ref (a 5), .int a2, .int a3, .int a4] : List Value).toArray s 0 0 A) (F0 m 31 ls []) := by
    intro  N l4 hf ls hl H locs hP hD hS
    unfold fX8_fewestFrom_B31 at hf
    refine lv_iload hx hb dX8_fewestFrom_31 (lv_at hl 0 rfl) ?_
    have e9 := so_e hf
    subst e9
    exact W.iret (v := l4) hx hb hr (fun t ht hW => ⟨⟨l4, (), rfl, rfl, WE.mk hP hD ht⟩, hS.F ht⟩) hS.2.2 dX8_fewestFrom_33
  have hfX8_fewestFrom_B76 : ∀ (N : Mem) (l2 : Int32) (l3 : Int32) (l5 : Int32), fX8_fewestFrom_B76 (fX8_fewestFrom 11) M  N l2 l3 l5 = some z → ∀ (ls : Array Slot), lv_has ls 6 [(0, .ref (a 0)), (1, .ref (a 5)), (2, .int l2), (3, .int l3), (5, .int l5)] → ∀ (H : Heap) (locs : List Loc), va_P (dC, dI) vwCl (wX8_fewestFrom cI cZ a (sr M 5 (N 5))) H → va_D A (wX8_fewestFrom cI cZ a (sr M 5 (N 5))) → va_S A s.heap H locs → W p l e (headSpec wsX8_fewestFrom ({ frames := 16, cells := 0, slots := 0, locals := 395 } : Room)).room s m ([.ref (a 0), .ref (a 5), .int a2, .int a3, .int a4] : List Value).toArray below meth c H locs 0 0 (MQ below (va_Qi (S := Unit) (fun r _ => r = z.1) (fun _ t => WE (dC, dI) cI cZ (wX8_fewestFrom cI cZ a (sr M 5 (z.2 5))) A t) A) ([.ref (a 0), .ref (a 5), .int a2, .int a3, .int a4] : List Value).toArray s 0 0 A) (F0 m 76 ls []) := by
    intro  N l2 l3 l5 hf ls hl H locs hP hD hS
    unfold fX8_fewestFrom_B76 at hf
    refine lv_aload_n hx hb dX8_fewestFrom_76 rfl (lv_at hl 0 rfl) ?_
    refine lv_aload_n hx hb dX8_fewestFrom_77 rfl (lv_at hl 1 rfl) ?_
    refine lv_iload_n hx hb dX8_fewestFrom_78 rfl (lv_at hl 2 rfl) ?_
    refine lv_iconst (v := (1 : Int32)) hx hb dX8_fewestFrom_79 (by decide) ?_
    refine lv_iadd hx hb dX8_fewestFrom_80 ?_
    refine lv_iload_n hx hb dX8_fewestFrom_81 rfl (lv_at hl 3 rfl) ?_
    refine lv_iload hx hb dX8_fewestFrom_82 (lv_at hl 4 rfl) ?_
    obtain ⟨r84, hc84, hf⟩ := bi_s hf
    have hPc := hP
    have hDc := hD
    have hFc := va_free (wc := (wX8_fewestFrom cI cZ a (sr M 5 (N 5)))) hD hS hA [0, 1, 2, 3, 4, 5] rfl
    refine va_calli (va_runS (As := [.ref (a 0), .ref (a 5), .int (l2 + (1 : Int32)), .int l3, .int l5]) (rest := []) ⟨hx, hb, hml, hown, hts⟩ (c_X8_fewestFrom_11 l dC dI cI cZ a H.size (sr M 5 (N 5)) (l2 + (1 : Int32)) l3 l5 r84 hc84) (va_cwS 5 hts gX8_fewestFrom_X8_fewestFrom rfl rfl rfl (by decide +kernel) ⟨Nat.le_of_ble_eq_true rfl, Nat.le_of_ble_eq_true rfl⟩) ⟨WR.blind, WR.pre hPc hK hDc hNW⟩ rfl rfl hl.1 rfl (lv_room (Nat.le_of_ble_eq_true rfl)) dX8_fewestFrom_84 ⟨Nat.le_of_ble_eq_true rfl, Nat.le_of_ble_eq_true rfl⟩) hS (fun q _ h => hFc q h) hFc (fun rv u t H1 locs ht hvm hw hB hz1 hk1 hS => ?_)
    obtain ⟨hP1, hD1⟩ := hB
    rw [ht] at hP1
    subst hw
    have hP := hP1
    have hD := hD1.weaken (fun k q _ h => hFc q.1 h)
    have hP : va_P (dC, dI) vwCl (wX8_fewestFrom cI cZ a (sr M 5 (r84.2 5))) H1 := hP
    have hD : va_D A (wX8_fewestFrom cI cZ a (sr M 5 (r84.2 5))) := hD
    generalize H1 = H at hP hS ⊢
    have e9 := so_e hf
    subst e9
    exact W.iret (v := r84.1) hx hb hr (fun t ht hW => ⟨⟨r84.1, (), rfl, rfl, WE.mk hP hD ht⟩, hS.F ht⟩) hS.2.2 dX8_fewestFrom_87
  have hl := lv_entry ([.ref (a 0), .ref (a 5), .int a2, .int a3, .int a4]) (n := 6) (Nat.le_of_ble_eq_true rfl)
  rw [lg_entry_eq]
  generalize (lg_sl ([.ref (a 0), .ref (a 5), .int a2, .int a3, .int a4]) ++ List.replicate (6 - (lg_sl ([.ref (a 0), .ref (a 5), .int a2, .int a3, .int a4])).length) Slot.unset).toArray = ls at hl ⊢
  have hl : lv_has ls 6 [(0, .ref (a 0)), (1, .ref (a 5)), (2, .int a2), (3, .int a3), (4, .int a4)] := hl
  rw [fX8_fewestFrom] at hf
  suffices hgo : ∀ (H : Heap) (locs : List Loc), va_P (dC, dI) vwCl (wX8_fewestFrom cI cZ a M) H → va_D A (wX8_fewestFrom cI cZ a M) → va_S A s.heap H locs → W p l e (headSpec wsX8_fewestFrom ({ frames := 16, cells := 0, slots := 0, locals := 395 } : Room)).room s m ([.ref (a 0), .ref (a 5), .int a2, .int a3, .int a4] : List Value).toArray below meth c H locs 0 0 (MQ below (va_Qi (S := Unit) (fun r _ => r = z.1) (fun _ t => WE (dC, dI) cI cZ (wX8_fewestFrom cI cZ a (sr M 5 (z.2 5))) A t) A) ([.ref (a 0), .ref (a 5), .int a2, .int a3, .int a4] : List Value).toArray s 0 0 A) (F0 m 0 ls []) from hgo _ _ hP hD hS
  intro H locs hP hD hS
  refine lv_aload_n hx hb dX8_fewestFrom_0 rfl (lv_at hl 1 rfl) ?_
  obtain ⟨r1, hc1, hf⟩ := bi_s hf
  have hPc := hP.sub (ws' := (wX8_isLacking cI cZ (ofs 5 a) (ofs 5 M))) [5] rfl
  refine cRO (W.runS (As := [.ref (a 5)]) (rest := []) ⟨hx, hb, hml, hown, hts⟩ (c_X8_isLacking l dC dI cI cZ (ofs 5 a) (ofs 5 M) r1 hc1) (va_cwS 1 hts gX8_fewestFrom_X8_isLacking rfl rfl rfl (by decide +kernel) ⟨Nat.le_of_ble_eq_true rfl, Nat.le_of_ble_eq_true rfl⟩) ⟨RO.blind, RO.pre hPc hK hNW⟩ rfl rfl hl.1 rfl (lv_room (Nat.le_of_ble_eq_true rfl)) dX8_fewestFrom_1 ⟨Nat.le_of_ble_eq_true rfl, Nat.le_of_ble_eq_true rfl⟩) ?_
  refine lv_if_ne (tgt := 9) hx hb dX8_fewestFrom_4 (by decide) (fun c9 => ?_) (fun c9 => ?_)
  · have hf := it_t hf c9
    refine lv_iload_n hx hb dX8_fewestFrom_9 rfl (lv_at hl 2 rfl) ?_
    refine lv_aload_n hx hb dX8_fewestFrom_10 rfl (lv_at hl 0 rfl) ?_
    refine va_getN (D := (dC, dI)) (ci := 7) (v := .int (M 0 0)) (C := RX7) (T := TX7) (N := 6) hx hb hts hinX7 hown hK hP 0 rfl rfl 0 (by decide) (nw24 hNW) (fun _ h9 => h9) rfl dX8_fewestFrom_11 ?_
    refine lv_icmp_ge (tgt := 31) hx hb dX8_fewestFrom_14 (by decide) (fun c9 => ?_) (fun c9 => ?_)
    · have hf := it_t hf c9
      exact hfX8_fewestFrom_B31  M a4 hf _ (lv_sub hl [4] rfl) _ _ hP hD hS
    · have hf := it_f hf c9
      refine lv_iload_n hx hb dX8_fewestFrom_17 rfl (lv_at hl 2 rfl) ?_
      refine lv_bipush (v := (12 : Int32)) hx hb dX8_fewestFrom_18 (by decide) ?_
      refine lv_icmp_ge (tgt := 31) hx hb dX8_fewestFrom_20 (by decide) (fun c9 => ?_) (fun c9 => ?_)
      · have hf := it_t hf c9
        exact hfX8_fewestFrom_B31  M a4 hf _ (lv_sub hl [4] rfl) _ _ hP hD hS
      · have hf := it_f hf c9
        refine lv_iload_n hx hb dX8_fewestFrom_23 rfl (lv_at hl 3 rfl) ?_
        refine lv_iconst (v := (1 : Int32)) hx hb dX8_fewestFrom_24 (by decide) ?_
        refine lv_iadd hx hb dX8_fewestFrom_25 ?_
        refine lv_iload hx hb dX8_fewestFrom_26 (lv_at hl 4 rfl) ?_
        refine lv_icmp_lt (tgt := 34) hx hb dX8_fewestFrom_28 (by decide) (fun c9 => ?_) (fun c9 => ?_)
        · have hf := it_t hf c9
          refine lv_iload hx hb dX8_fewestFrom_34 (lv_at hl 4 rfl) ?_
          refine lv_istore (lv' := [(5, .int a4), (0, .ref (a 0)), (1, .ref (a 5)), (2, .int a2), (3, .int a3), (4, .int a4)]) hx hb dX8_fewestFrom_36 hl (by decide) rfl (fun ls hl => ?_)
          refine lv_aload_n hx hb dX8_fewestFrom_38 rfl (lv_at hl 1 rfl) ?_
          refine lv_iload_n hx hb dX8_fewestFrom_39 rfl (lv_at hl 3 rfl) ?_
          refine lv_aload_n hx hb dX8_fewestFrom_40 rfl (lv_at hl 2 rfl) ?_
          obtain ⟨r41, hc41, hf⟩ := bi_s hf
          have hPc := hP.sub (ws' := (wX7_helps cI cZ a M)) [0, 1, 2, 3, 4, 5] rfl
          refine cRO (va_Run.run (va_runVN (As := [.int a2, .ref (a 5)]) (rest := []) ⟨hx, hb, hml, hown, hts⟩ (c_X7_helps l dC dI cI cZ a M a2 r41 hc41) ⟨va_cnB 2 hts gX8_fewestFrom_X7_helps_n454 rfl rfl rfl (nw64 hNW) hw1 (by decide +kernel) ⟨Nat.le_of_ble_eq_true rfl, Nat.le_of_ble_eq_true rfl⟩, hw2, hw3⟩ ⟨RO.blind, va_recv hK hP (ci := 7) (q0 := 0) rfl rfl, RO.pre hPc hK hNW⟩ rfl rfl hl.1 rfl (lv_room (Nat.le_of_ble_eq_true rfl)) dX8_fewestFrom_41 ⟨Nat.le_of_ble_eq_true rfl, Nat.le_of_ble_eq_true rfl⟩)) ?_
          refine lv_if_eq (tgt := 76) hx hb dX8_fewestFrom_44 (by decide) (fun c9 => ?_) (fun c9 => ?_)
          · have hf := it_t hf c9
            exact hfX8_fewestFrom_B76  M a2 a3 a4 hf _ (lv_sub hl [1, 2, 3, 4, 0] rfl) _ _ hP hD hS
          · have hf := it_f hf c9
            refine lv_aload_n hx hb dX8_fewestFrom_47 rfl (lv_at hl 1 rfl) ?_
            refine lv_iload_n hx hb dX8_fewestFrom_48 rfl (lv_at hl 3 rfl) ?_
            refine lv_aload_n hx hb dX8_fewestFrom_49 rfl (lv_at hl 2 rfl) ?_
            refine lv_iconst (v := (-1 : Int32)) hx hb dX8_fewestFrom_50 (by decide) ?_
            obtain ⟨r51, hc51, hf⟩ := bi_s hf
            have hPc := hP.sub (ws' := (wX7_lend cI cZ a M)) [0, 1, 2, 3, 4, 5] rfl
            have hDc := hD.sub (ws' := (wX7_lend cI cZ a M)) [0, 1, 2, 3, 4, 5] (by decide) rfl
            have hFc := va_free (wc := (wX7_lend cI cZ a M)) hD hS hA [0, 1, 2, 3, 4, 5] rfl
            refine va_callv (va_runVN (As := [.int a2, .ref (a 5), .int (-1 : Int32)]) (rest := []) ⟨hx, hb, hml, hown, hts⟩ (c_X7_lend l dC dI cI cZ a H.size M a2 (-1 : Int32) r51 hc51) ⟨va_cnB 3 hts gX8_fewestFrom_X7_lend_n458 rfl rfl rfl (nw65 hNW) hw1 (by decide +kernel) ⟨Nat.le_of_ble_eq_true rfl, Nat.le_of_ble_eq_true rfl⟩, hw4, hw5⟩ ⟨WR.blind, va_recv hK hP (ci := 7) (q0 := 0) rfl rfl, WR.pre hPc hK hDc hNW⟩ rfl rfl hl.1 rfl (lv_room (Nat.le_of_ble_eq_true rfl)) dX8_fewestFrom_51 ⟨Nat.le_of_ble_eq_true rfl, Nat.le_of_ble_eq_true rfl⟩) hS (fun q _ h => hFc q h) hFc (fun u t H1 locs ht hvm hw hB hz1 hk1 hS => ?_)
            obtain ⟨hP1, hD1⟩ := hB
            rw [ht] at hP1
            obtain ⟨hP, hD⟩ := va_join (wr := []) (w1 := (wX7_lend cI cZ a (sr M 5 (r51 5)))) hP hD [0, 1, 2, 3, 4, 5] [] rfl rfl (by decide) (by decide) hk1 hFc hP1 hD1
            have hP := hP.sub (ws' := (wX8_fewestFrom cI cZ a (sr M 5 (r51 5)))) [0, 1, 2, 3, 4, 5] rfl
            have hD := hD.sub (ws' := (wX8_fewestFrom cI cZ a (sr M 5 (r51 5)))) [0, 1, 2, 3, 4, 5] (by decide) rfl
            generalize H1 = H at hP hS ⊢
            refine lv_aload_n hx hb dX8_fewestFrom_54 rfl (lv_at hl 1 rfl) ?_
            refine lv_aload_n hx hb dX8_fewestFrom_55 rfl (lv_at hl 2 rfl) ?_
            refine lv_iload_n hx hb dX8_fewestFrom_56 rfl (lv_at hl 3 rfl) ?_
            refine lv_iconst (v := (1 : Int32)) hx hb dX8_fewestFrom_57 (by decide) ?_
            refine lv_iadd hx hb dX8_fewestFrom_58 ?_
            refine lv_iload_n hx hb dX8_fewestFrom_59 rfl (lv_at hl 4 rfl) ?_
            refine lv_iconst (v := (1 : Int32)) hx hb dX8_fewestFrom_60 (by decide) ?_
            refine lv_iadd hx hb dX8_fewestFrom_61 ?_
            refine lv_iload hx hb dX8_fewestFrom_62 (lv_at hl 0 rfl) ?_
            obtain ⟨r64, hc64, hf⟩ := bi_s hf
            have hPc := hP
            have hDc := hD
            have hFc := va_free (wc := (wX8_fewestFrom cI cZ a (sr M 5 (r51 5)))) hD hS hA [0, 1, 2, 3, 4, 5] rfl
            refine va_calli (va_runS (As := [.ref (a 0), .ref (a 5), .int (a2 + (1 : Int32)), .int (a3 + (1 : Int32)), .int a4]) (rest := []) ⟨hx, hb, hml, hown, hts⟩ (c_X8_fewestFrom_11 l dC dI cI cZ a H.size (sr M 5 (r51 5)) (a2 + (1 : Int32)) (a3 + (1 : Int32)) a4 r64 hc64) (va_cwS 5 hts gX8_fewestFrom_X8_fewestFrom rfl rfl rfl (by decide +kernel) ⟨Nat.le_of_ble_eq_true rfl, Nat.le_of_ble_eq_true rfl⟩) ⟨WR.blind, WR.pre hPc hK hDc hNW⟩ rfl rfl hl.1 rfl (lv_room (Nat.le_of_ble_eq_true rfl)) dX8_fewestFrom_64 ⟨Nat.le_of_ble_eq_true rfl, Nat.le_of_ble_eq_true rfl⟩) hS (fun q _ h => hFc q h) hFc (fun rv u t H1 locs ht hvm hw hB hz1 hk1 hS => ?_)
            obtain ⟨hP1, hD1⟩ := hB
            rw [ht] at hP1
            subst hw
            have hP := hP1
            have hD := hD1.weaken (fun k q _ h => hFc q.1 h)
            have hP : va_P (dC, dI) vwCl (wX8_fewestFrom cI cZ a (sr M 5 (r64.2 5))) H1 := hP
            have hD : va_D A (wX8_fewestFrom cI cZ a (sr M 5 (r64.2 5))) := hD
            generalize H1 = H at hP hS ⊢
            refine lv_istore (lv' := [(5, .int r64.1), (0, .ref (a 0)), (1, .ref (a 5)), (2, .int a2), (3, .int a3), (4, .int a4)]) hx hb dX8_fewestFrom_67 hl (by decide) rfl (fun ls hl => ?_)
            refine lv_aload_n hx hb dX8_fewestFrom_69 rfl (lv_at hl 1 rfl) ?_
            refine lv_iload_n hx hb dX8_fewestFrom_70 rfl (lv_at hl 3 rfl) ?_
            refine lv_aload_n hx hb dX8_fewestFrom_71 rfl (lv_at hl 2 rfl) ?_
            refine lv_iconst (v := (1 : Int32)) hx hb dX8_fewestFrom_72 (by decide) ?_
            obtain ⟨r73, hc73, hf⟩ := bi_s hf
            have hPc := hP.sub (ws' := (wX7_lend cI cZ a (sr M 5 (r64.2 5)))) [0, 1, 2, 3, 4, 5] rfl
            have hDc := hD.sub (ws' := (wX7_lend cI cZ a (sr M 5 (r64.2 5)))) [0, 1, 2, 3, 4, 5] (by decide) rfl
            have hFc := va_free (wc := (wX7_lend cI cZ a (sr M 5 (r64.2 5)))) hD hS hA [0, 1, 2, 3, 4, 5] rfl
            refine va_callv (va_runVN (As := [.int a2, .ref (a 5), .int (1 : Int32)]) (rest := []) ⟨hx, hb, hml, hown, hts⟩ (c_X7_lend l dC dI cI cZ a H.size (sr M 5 (r64.2 5)) a2 (1 : Int32) r73 hc73) ⟨va_cnB 3 hts gX8_fewestFrom_X7_lend_n458 rfl rfl rfl (nw65 hNW) hw1 (by decide +kernel) ⟨Nat.le_of_ble_eq_true rfl, Nat.le_of_ble_eq_true rfl⟩, hw4, hw5⟩ ⟨WR.blind, va_recv hK hP (ci := 7) (q0 := 0) rfl rfl, WR.pre hPc hK hDc hNW⟩ rfl rfl hl.1 rfl (lv_room (Nat.le_of_ble_eq_true rfl)) dX8_fewestFrom_73 ⟨Nat.le_of_ble_eq_true rfl, Nat.le_of_ble_eq_true rfl⟩) hS (fun q _ h => hFc q h) hFc (fun u t H1 locs ht hvm hw hB hz1 hk1 hS => ?_)
            obtain ⟨hP1, hD1⟩ := hB
            rw [ht] at hP1
            obtain ⟨hP, hD⟩ := va_join (wr := []) (w1 := (wX7_lend cI cZ a (sr (sr M 5 (r64.2 5)) 5 (r73 5)))) hP hD [0, 1, 2, 3, 4, 5] [] rfl rfl (by decide) (by decide) hk1 hFc hP1 hD1
            have hP := hP.sub (ws' := (wX8_fewestFrom cI cZ a (sr M 5 (r73 5)))) [0, 1, 2, 3, 4, 5] rfl
            have hD := hD.sub (ws' := (wX8_fewestFrom cI cZ a (sr M 5 (r73 5)))) [0, 1, 2, 3, 4, 5] (by decide) rfl
            generalize H1 = H at hP hS ⊢
            exact hfX8_fewestFrom_B76  (sr M 5 (r73 5)) a2 a3 r64.1 hf _ (lv_sub hl [1, 2, 3, 4, 0] rfl) _ _ hP hD hS
        · have hf := it_f hf c9
          exact hfX8_fewestFrom_B31  M a4 hf _ (lv_sub hl [4] rfl) _ _ hP hD hS
  · have hf := it_n hf c9
    refine lv_iload_n hx hb dX8_fewestFrom_7 rfl (lv_at hl 3 rfl) ?_
    have e9 := so_e hf
    subst e9
    exact W.iret (v := a3) hx hb hr (fun t ht hW => ⟨⟨a3, (), rfl, rfl, WE.mk hP hD ht⟩, hS.F ht⟩) hS.2.2 dX8_fewestFrom_8
set_option maxHeartbeats 4000000 in
set_option maxRecDepth 100000 in
theorem c_X8_fewestFrom_13 (l : Launch) (dC : Nat → ClassId) (dI : Nat → Nat → Nat) (cI cZ : ClassId) (a : Nat → Nat) (sz : Nat) (M : Mem) (a2 : Int32) (a3 : Int32) (a4 : Int32) (z : Int32 × Mem) (hf : fX8_fewestFrom (12 + 1) M a2 a3 a4 = some z) : Met l yX8_fewestFrom wsX8_fewestFrom ({ frames := 17, cells := 0, slots := 0, locals := 420 } : Room) (va_Pc [.ref (a 0), .ref (a 5), .int a2, .int a3, .int a4] (WR (dC, dI) cI cZ (wX8_fewestFrom cI cZ a M) sz)) (va_Qi (S := Unit) (fun r _ => r = z.1) (fun _ t => WE (dC, dI) cI cZ (wX8_fewestFrom cI cZ a (sr M 5 (z.2 5))) (va_A (wX8_fewestFrom cI cZ a M) sz) t) (va_A (wX8_fewestFrom cI cZ a M) sz)) 0 0 (va_A (wX8_fewestFrom cI cZ a M) sz) := by
  refine Met.ofW (cc := cX8_fewestFrom) (maxL := 6) (ret := (some .int)) (by decide) rfl ?_
  intro p e s m args below meth c s₁ B hml hv
  obtain ⟨rfl, hsz, hP, hK, hD0, hNW⟩ := hv
  have hx := B.exec
  have hb := B.bytes
  have hr := B.returns
  have hts := atoms_spec (ws := wsX8_fewestFrom) B.pre
  have hown : s.vm.findClass RX8 = some m.cls := findClass_of_methodNamed B.named
  have hlocks := B.notSynchronized
  have hinX7 : ∀ w ∈ u_ws RX7 TX7 6, w ∈ wsX8_fewestFrom := by decide +kernel
  have hw1 := hts (.initialized RX7) (by decide +kernel)
  have hw2 := hts (.instanceMethod yX7_helps) (by decide +kernel)
  have hw3 := hts (.selects RX7 yX7_helps yX7_helps) (by decide +kernel)
  have hw4 := hts (.instanceMethod yX7_lend) (by decide +kernel)
  have hw5 := hts (.selects RX7 yX7_lend yX7_lend) (by decide +kernel)
  subst hsz
  have hD := hD0.self (sz := s.heap.size)
  generalize hAe : va_A (wX8_fewestFrom cI cZ a M) s.heap.size = A at hD ⊢
  have hA : ∀ q : Nat, s.heap.size ≤ q → A q := fun q h => by rw [← hAe]; exact Or.inr h
  have hS : va_S A s.heap s.heap [] := va_S.rf
  have hfX8_fewestFrom_B31 : ∀ (N : Mem) (l4 : Int32), fX8_fewestFrom_B31 M  N l4 = some z → ∀ (ls : Array Slot), lv_has ls 6 [(4, .int l4)] → ∀ (H : Heap) (locs : List Loc), va_P (dC, dI) vwCl (wX8_fewestFrom cI cZ a (sr M 5 (N 5))) H → va_D A (wX8_fewestFrom cI cZ a (sr M 5 (N 5))) → va_S A s.heap H locs → W p l e (headSpec wsX8_fewestFrom ({ frames := 17, cells := 0, slots := 0, locals := 420 } : Room)).room s m ([.ref (a 0), .ref (a 5), .int a2, .int a3, .int a4] : List Value).toArray below meth c H locs 0 0 (MQ below (va_Qi (S := Unit) (fun r _ => r = z.1) (fun _ t => WE (dC, dI) cI cZ (wX8_fewestFrom cI cZ a (sr M 5 (z.2 5))) A t) A) ([.ref (a 0), .ref (a 5), .int a2, .int a3, .int a4] : List Value).toArray s 0 0 A) (F0 m 31 ls []) := by
    intro  N l4 hf ls hl H locs hP hD hS
    unfold fX8_fewestFrom_B31 at hf
    refine lv_iload hx hb dX8_fewestFrom_31 (lv_at hl 0 rfl) ?_
    have e9 := so_e hf
    subst e9
    exact W.iret (v := l4) hx hb hr (fun t ht hW => ⟨⟨l4, (), rfl, rfl, WE.mk hP hD ht⟩, hS.F ht⟩) hS.2.2 dX8_fewestFrom_33
  have hfX8_fewestFrom_B76 : ∀ (N : Mem) (l2 : Int32) (l3 : Int32) (l5 : Int32), fX8_fewestFrom_B76 (fX8_fewestFrom 12) M  N l2 l3 l5 = some z → ∀ (ls : Array Slot), lv_has ls 6 [(0, .ref (a 0)), (1, .ref (a 5)), (2, .int l2), (3, .int l3), (5, .int l5)] → ∀ (H : Heap) (locs : List Loc), va_P (dC, dI) vwCl (wX8_fewestFrom cI cZ a (sr M 5 (N 5))) H → va_D A (wX8_fewestFrom cI cZ a (sr M 5 (N 5))) → va_S A s.heap H locs → W p l e (headSpec wsX8_fewestFrom ({ frames := 17, cells := 0, slots := 0, locals := 420 } : Room)).room s m ([.ref (a 0), .ref (a 5), .int a2, .int a3, .int a4] : List Value).toArray below meth c H locs 0 0 (MQ below (va_Qi (S := Unit) (fun r _ => r = z.1) (fun _ t => WE (dC, dI) cI cZ (wX8_fewestFrom cI cZ a (sr M 5 (z.2 5))) A t) A) ([.ref (a 0), .ref (a 5), .int a2, .int a3, .int a4] : List Value).toArray s 0 0 A) (F0 m 76 ls []) := by
    intro  N l2 l3 l5 hf ls hl H locs hP hD hS
    unfold fX8_fewestFrom_B76 at hf
    refine lv_aload_n hx hb dX8_fewestFrom_76 rfl (lv_at hl 0 rfl) ?_
    refine lv_aload_n hx hb dX8_fewestFrom_77 rfl (lv_at hl 1 rfl) ?_
    refine lv_iload_n hx hb dX8_fewestFrom_78 rfl (lv_at hl 2 rfl) ?_
    refine lv_iconst (v := (1 : Int32)) hx hb dX8_fewestFrom_79 (by decide) ?_
    refine lv_iadd hx hb dX8_fewestFrom_80 ?_
    refine lv_iload_n hx hb dX8_fewestFrom_81 rfl (lv_at hl 3 rfl) ?_
    refine lv_iload hx hb dX8_fewestFrom_82 (lv_at hl 4 rfl) ?_
    obtain ⟨r84, hc84, hf⟩ := bi_s hf
    have hPc := hP
    have hDc := hD
    have hFc := va_free (wc := (wX8_fewestFrom cI cZ a (sr M 5 (N 5)))) hD hS hA [0, 1, 2, 3, 4, 5] rfl
    refine va_calli (va_runS (As := [.ref (a 0), .ref (a 5), .int (l2 + (1 : Int32)), .int l3, .int l5]) (rest := []) ⟨hx, hb, hml, hown, hts⟩ (c_X8_fewestFrom_12 l dC dI cI cZ a H.size (sr M 5 (N 5)) (l2 + (1 : Int32)) l3 l5 r84 hc84) (va_cwS 5 hts gX8_fewestFrom_X8_fewestFrom rfl rfl rfl (by decide +kernel) ⟨Nat.le_of_ble_eq_true rfl, Nat.le_of_ble_eq_true rfl⟩) ⟨WR.blind, WR.pre hPc hK hDc hNW⟩ rfl rfl hl.1 rfl (lv_room (Nat.le_of_ble_eq_true rfl)) dX8_fewestFrom_84 ⟨Nat.le_of_ble_eq_true rfl, Nat.le_of_ble_eq_true rfl⟩) hS (fun q _ h => hFc q h) hFc (fun rv u t H1 locs ht hvm hw hB hz1 hk1 hS => ?_)
    obtain ⟨hP1, hD1⟩ := hB
    rw [ht] at hP1
    subst hw
    have hP := hP1
    have hD := hD1.weaken (fun k q _ h => hFc q.1 h)
    have hP : va_P (dC, dI) vwCl (wX8_fewestFrom cI cZ a (sr M 5 (r84.2 5))) H1 := hP
    have hD : va_D A (wX8_fewestFrom cI cZ a (sr M 5 (r84.2 5))) := hD
    generalize H1 = H at hP hS ⊢
    have e9 := so_e hf
    subst e9
    exact W.iret (v := r84.1) hx hb hr (fun t ht hW => ⟨⟨r84.1, (), rfl, rfl, WE.mk hP hD ht⟩, hS.F ht⟩) hS.2.2 dX8_fewestFrom_87
  have hl := lv_entry ([.ref (a 0), .ref (a 5), .int a2, .int a3, .int a4]) (n := 6) (Nat.le_of_ble_eq_true rfl)
  rw [lg_entry_eq]
  generalize (lg_sl ([.ref (a 0), .ref (a 5), .int a2, .int a3, .int a4]) ++ List.replicate (6 - (lg_sl ([.ref (a 0), .ref (a 5), .int a2, .int a3, .int a4])).length) Slot.unset).toArray = ls at hl ⊢
  have hl : lv_has ls 6 [(0, .ref (a 0)), (1, .ref (a 5)), (2, .int a2), (3, .int a3), (4, .int a4)] := hl
  rw [fX8_fewestFrom] at hf
  suffices hgo : ∀ (H : Heap) (locs : List Loc), va_P (dC, dI) vwCl (wX8_fewestFrom cI cZ a M) H → va_D A (wX8_fewestFrom cI cZ a M) → va_S A s.heap H locs → W p l e (headSpec wsX8_fewestFrom ({ frames := 17, cells := 0, slots := 0, locals := 420 } : Room)).room s m ([.ref (a 0), .ref (a 5), .int a2, .int a3, .int a4] : List Value).toArray below meth c H locs 0 0 (MQ below (va_Qi (S := Unit) (fun r _ => r = z.1) (fun _ t => WE (dC, dI) cI cZ (wX8_fewestFrom cI cZ a (sr M 5 (z.2 5))) A t) A) ([.ref (a 0), .ref (a 5), .int a2, .int a3, .int a4] : List Value).toArray s 0 0 A) (F0 m 0 ls []) from hgo _ _ hP hD hS
  intro H locs hP hD hS
  refine lv_aload_n hx hb dX8_fewestFrom_0 rfl (lv_at hl 1 rfl) ?_
  obtain ⟨r1, hc1, hf⟩ := bi_s hf
  have hPc := hP.sub (ws' := (wX8_isLacking cI cZ (ofs 5 a) (ofs 5 M))) [5] rfl
  refine cRO (W.runS (As := [.ref (a 5)]) (rest := []) ⟨hx, hb, hml, hown, hts⟩ (c_X8_isLacking l dC dI cI cZ (ofs 5 a) (ofs 5 M) r1 hc1) (va_cwS 1 hts gX8_fewestFrom_X8_isLacking rfl rfl rfl (by decide +kernel) ⟨Nat.le_of_ble_eq_true rfl, Nat.le_of_ble_eq_true rfl⟩) ⟨RO.blind, RO.pre hPc hK hNW⟩ rfl rfl hl.1 rfl (lv_room (Nat.le_of_ble_eq_true rfl)) dX8_fewestFrom_1 ⟨Nat.le_of_ble_eq_true rfl, Nat.le_of_ble_eq_true rfl⟩) ?_
  refine lv_if_ne (tgt := 9) hx hb dX8_fewestFrom_4 (by decide) (fun c9 => ?_) (fun c9 => ?_)
  · have hf := it_t hf c9
    refine lv_iload_n hx hb dX8_fewestFrom_9 rfl (lv_at hl 2 rfl) ?_
    refine lv_aload_n hx hb dX8_fewestFrom_10 rfl (lv_at hl 0 rfl) ?_
    refine va_getN (D := (dC, dI)) (ci := 7) (v := .int (M 0 0)) (C := RX7) (T := TX7) (N := 6) hx hb hts hinX7 hown hK hP 0 rfl rfl 0 (by decide) (nw24 hNW) (fun _ h9 => h9) rfl dX8_fewestFrom_11 ?_
    refine lv_icmp_ge (tgt := 31) hx hb dX8_fewestFrom_14 (by decide) (fun c9 => ?_) (fun c9 => ?_)
    · have hf := it_t hf c9
      exact hfX8_fewestFrom_B31  M a4 hf _ (lv_sub hl [4] rfl) _ _ hP hD hS
    · have hf := it_f hf c9
      refine lv_iload_n hx hb dX8_fewestFrom_17 rfl (lv_at hl 2 rfl) ?_
      refine lv_bipush (v := (12 : Int32)) hx hb dX8_fewestFrom_18 (by decide) ?_
      refine lv_icmp_ge (tgt := 31) hx hb dX8_fewestFrom_20 (by decide) (fun c9 => ?_) (fun c9 => ?_)
      · have hf := it_t hf c9
        exact hfX8_fewestFrom_B31  M a4 hf _ (lv_sub hl [4] rfl) _ _ hP hD hS
      · have hf := it_f hf c9
        refine lv_iload_n hx hb dX8_fewestFrom_23 rfl (lv_at hl 3 rfl) ?_
        refine lv_iconst (v := (1 : Int32)) hx hb dX8_fewestFrom_24 (by decide) ?_
        refine lv_iadd hx hb dX8_fewestFrom_25 ?_
        refine lv_iload hx hb dX8_fewestFrom_26 (lv_at hl 4 rfl) ?_
        refine lv_icmp_lt (tgt := 34) hx hb dX8_fewestFrom_28 (by decide) (fun c9 => ?_) (fun c9 => ?_)
        · have hf := it_t hf c9
          refine lv_iload hx hb dX8_fewestFrom_34 (lv_at hl 4 rfl) ?_
          refine lv_istore (lv' := [(5, .int a4), (0, .ref (a 0)), (1, .ref (a 5)), (2, .int a2), (3, .int a3), (4, .int a4)]) hx hb dX8_fewestFrom_36 hl (by decide) rfl (fun ls hl => ?_)
          refine lv_aload_n hx hb dX8_fewestFrom_38 rfl (lv_at hl 1 rfl) ?_
          refine lv_iload_n hx hb dX8_fewestFrom_39 rfl (lv_at hl 3 rfl) ?_
          refine lv_aload_n hx hb dX8_fewestFrom_40 rfl (lv_at hl 2 rfl) ?_
          obtain ⟨r41, hc41, hf⟩ := bi_s hf
          have hPc := hP.sub (ws' := (wX7_helps cI cZ a M)) [0, 1, 2, 3, 4, 5] rfl
          refine cRO (va_Run.run (va_runVN (As := [.int a2, .ref (a 5)]) (rest := []) ⟨hx, hb, hml, hown, hts⟩ (c_X7_helps l dC dI cI cZ a M a2 r41 hc41) ⟨va_cnB 2 hts gX8_fewestFrom_X7_helps_n454 rfl rfl rfl (nw64 hNW) hw1 (by decide +kernel) ⟨Nat.le_of_ble_eq_true rfl, Nat.le_of_ble_eq_true rfl⟩, hw2, hw3⟩ ⟨RO.blind, va_recv hK hP (ci := 7) (q0 := 0) rfl rfl, RO.pre hPc hK hNW⟩ rfl rfl hl.1 rfl (lv_room (Nat.le_of_ble_eq_true rfl)) dX8_fewestFrom_41 ⟨Nat.le_of_ble_eq_true rfl, Nat.le_of_ble_eq_true rfl⟩)) ?_
          refine lv_if_eq (tgt := 76) hx hb dX8_fewestFrom_44 (by decide) (fun c9 => ?_) (fun c9 => ?_)
          · have hf := it_t hf c9
            exact hfX8_fewestFrom_B76  M a2 a3 a4 hf _ (lv_sub hl [1, 2, 3, 4, 0] rfl) _ _ hP hD hS
          · have hf := it_f hf c9
            refine lv_aload_n hx hb dX8_fewestFrom_47 rfl (lv_at hl 1 rfl) ?_
            refine lv_iload_n hx hb dX8_fewestFrom_48 rfl (lv_at hl 3 rfl) ?_
            refine lv_aload_n hx hb dX8_fewestFrom_49 rfl (lv_at hl 2 rfl) ?_
            refine lv_iconst (v := (-1 : Int32)) hx hb dX8_fewestFrom_50 (by decide) ?_
            obtain ⟨r51, hc51, hf⟩ := bi_s hf
            have hPc := hP.sub (ws' := (wX7_lend cI cZ a M)) [0, 1, 2, 3, 4, 5] rfl
            have hDc := hD.sub (ws' := (wX7_lend cI cZ a M)) [0, 1, 2, 3, 4, 5] (by decide) rfl
            have hFc := va_free (wc := (wX7_lend cI cZ a M)) hD hS hA [0, 1, 2, 3, 4, 5] rfl
            refine va_callv (va_runVN (As := [.int a2, .ref (a 5), .int (-1 : Int32)]) (rest := []) ⟨hx, hb, hml, hown, hts⟩ (c_X7_lend l dC dI cI cZ a H.size M a2 (-1 : Int32) r51 hc51) ⟨va_cnB 3 hts gX8_fewestFrom_X7_lend_n458 rfl rfl rfl (nw65 hNW) hw1 (by decide +kernel) ⟨Nat.le_of_ble_eq_true rfl, Nat.le_of_ble_eq_true rfl⟩, hw4, hw5⟩ ⟨WR.blind, va_recv hK hP (ci := 7) (q0 := 0) rfl rfl, WR.pre hPc hK hDc hNW⟩ rfl rfl hl.1 rfl (lv_room (Nat.le_of_ble_eq_true rfl)) dX8_fewestFrom_51 ⟨Nat.le_of_ble_eq_true rfl, Nat.le_of_ble_eq_true rfl⟩) hS (fun q _ h => hFc q h) hFc (fun u t H1 locs ht hvm hw hB hz1 hk1 hS => ?_)
            obtain ⟨hP1, hD1⟩ := hB
            rw [ht] at hP1
            obtain ⟨hP, hD⟩ := va_join (wr := []) (w1 := (wX7_lend cI cZ a (sr M 5 (r51 5)))) hP hD [0, 1, 2, 3, 4, 5] [] rfl rfl (by decide) (by decide) hk1 hFc hP1 hD1
            have hP := hP.sub (ws' := (wX8_fewestFrom cI cZ a (sr M 5 (r51 5)))) [0, 1, 2, 3, 4, 5] rfl
            have hD := hD.sub (ws' := (wX8_fewestFrom cI cZ a (sr M 5 (r51 5)))) [0, 1, 2, 3, 4, 5] (by decide) rfl
            generalize H1 = H at hP hS ⊢
            refine lv_aload_n hx hb dX8_fewestFrom_54 rfl (lv_at hl 1 rfl) ?_
            refine lv_aload_n hx hb dX8_fewestFrom_55 rfl (lv_at hl 2 rfl) ?_
            refine lv_iload_n hx hb dX8_fewestFrom_56 rfl (lv_at hl 3 rfl) ?_
            refine lv_iconst (v := (1 : Int32)) hx hb dX8_fewestFrom_57 (by decide) ?_
            refine lv_iadd hx hb dX8_fewestFrom_58 ?_
            refine lv_iload_n hx hb dX8_fewestFrom_59 rfl (lv_at hl 4 rfl) ?_
            refine lv_iconst (v := (1 : Int32)) hx hb dX8_fewestFrom_60 (by decide) ?_
            refine lv_iadd hx hb dX8_fewestFrom_61 ?_
            refine lv_iload hx hb dX8_fewestFrom_62 (lv_at hl 0 rfl) ?_
            obtain ⟨r64, hc64, hf⟩ := bi_s hf
            have hPc := hP
            have hDc := hD
            have hFc := va_free (wc := (wX8_fewestFrom cI cZ a (sr M 5 (r51 5)))) hD hS hA [0, 1, 2, 3, 4, 5] rfl
            refine va_calli (va_runS (As := [.ref (a 0), .ref (a 5), .int (a2 + (1 : Int32)), .int (a3 + (1 : Int32)), .int a4]) (rest := []) ⟨hx, hb, hml, hown, hts⟩ (c_X8_fewestFrom_12 l dC dI cI cZ a H.size (sr M 5 (r51 5)) (a2 + (1 : Int32)) (a3 + (1 : Int32)) a4 r64 hc64) (va_cwS 5 hts gX8_fewestFrom_X8_fewestFrom rfl rfl rfl (by decide +kernel) ⟨Nat.le_of_ble_eq_true rfl, Nat.le_of_ble_eq_true rfl⟩) ⟨WR.blind, WR.pre hPc hK hDc hNW⟩ rfl rfl hl.1 rfl (lv_room (Nat.le_of_ble_eq_true rfl)) dX8_fewestFrom_64 ⟨Nat.le_of_ble_eq_true rfl, Nat.le_of_ble_eq_true rfl⟩) hS (fun q _ h => hFc q h) hFc (fun rv u t H1 locs ht hvm hw hB hz1 hk1 hS => ?_)
            obtain ⟨hP1, hD1⟩ := hB
            rw [ht] at hP1
            subst hw
            have hP := hP1
            have hD := hD1.weaken (fun k q _ h => hFc q.1 h)
            have hP : va_P (dC, dI) vwCl (wX8_fewestFrom cI cZ a (sr M 5 (r64.2 5))) H1 := hP
            have hD : va_D A (wX8_fewestFrom cI cZ a (sr M 5 (r64.2 5))) := hD
            generalize H1 = H at hP hS ⊢
            refine lv_istore (lv' := [(5, .int r64.1), (0, .ref (a 0)), (1, .ref (a 5)), (2, .int a2), (3, .int a3), (4, .int a4)]) hx hb dX8_fewestFrom_67 hl (by decide) rfl (fun ls hl => ?_)
            refine lv_aload_n hx hb dX8_fewestFrom_69 rfl (lv_at hl 1 rfl) ?_
            refine lv_iload_n hx hb dX8_fewestFrom_70 rfl (lv_at hl 3 rfl) ?_
            refine lv_aload_n hx hb dX8_fewestFrom_71 rfl (lv_at hl 2 rfl) ?_
            refine lv_iconst (v := (1 : Int32)) hx hb dX8_fewestFrom_72 (by decide) ?_
            obtain ⟨r73, hc73, hf⟩ := bi_s hf
            have hPc := hP.sub (ws' := (wX7_lend cI cZ a (sr M 5 (r64.2 5)))) [0, 1, 2, 3, 4, 5] rfl
            have hDc := hD.sub (ws' := (wX7_lend cI cZ a (sr M 5 (r64.2 5)))) [0, 1, 2, 3, 4, 5] (by decide) rfl
            have hFc := va_free (wc := (wX7_lend cI cZ a (sr M 5 (r64.2 5)))) hD hS hA [0, 1, 2, 3, 4, 5] rfl
            refine va_callv (va_runVN (As := [.int a2, .ref (a 5), .int (1 : Int32)]) (rest := []) ⟨hx, hb, hml, hown, hts⟩ (c_X7_lend l dC dI cI cZ a H.size (sr M 5 (r64.2 5)) a2 (1 : Int32) r73 hc73) ⟨va_cnB 3 hts gX8_fewestFrom_X7_lend_n458 rfl rfl rfl (nw65 hNW) hw1 (by decide +kernel) ⟨Nat.le_of_ble_eq_true rfl, Nat.le_of_ble_eq_true rfl⟩, hw4, hw5⟩ ⟨WR.blind, va_recv hK hP (ci := 7) (q0 := 0) rfl rfl, WR.pre hPc hK hDc hNW⟩ rfl rfl hl.1 rfl (lv_room (Nat.le_of_ble_eq_true rfl)) dX8_fewestFrom_73 ⟨Nat.le_of_ble_eq_true rfl, Nat.le_of_ble_eq_true rfl⟩) hS (fun q _ h => hFc q h) hFc (fun u t H1 locs ht hvm hw hB hz1 hk1 hS => ?_)
            obtain ⟨hP1, hD1⟩ := hB
            rw [ht] at hP1
            obtain ⟨hP, hD⟩ := va_join (wr := []) (w1 := (wX7_lend cI cZ a (sr (sr M 5 (r64.2 5)) 5 (r73 5)))) hP hD [0, 1, 2, 3, 4, 5] [] rfl rfl (by decide) (by decide) hk1 hFc hP1 hD1
            have hP := hP.sub (ws' := (wX8_fewestFrom cI cZ a (sr M 5 (r73 5)))) [0, 1, 2, 3, 4, 5] rfl
            have hD := hD.sub (ws' := (wX8_fewestFrom cI cZ a (sr M 5 (r73 5)))) [0, 1, 2, 3, 4, 5] (by decide) rfl
            generalize H1 = H at hP hS ⊢
            exact hfX8_fewestFrom_B76  (sr M 5 (r73 5)) a2 a3 r64.1 hf _ (lv_sub hl [1, 2, 3, 4, 0] rfl) _ _ hP hD hS
        · have hf := it_f hf c9
          exact hfX8_fewestFrom_B31  M a4 hf _ (lv_sub hl [4] rfl) _ _ hP hD hS
  · have hf := it_n hf c9
    refine lv_iload_n hx hb dX8_fewestFrom_7 rfl (lv_at hl 3 rfl) ?_
    have e9 := so_e hf
    subst e9
    exact W.iret (v := a3) hx hb hr (fun t ht hW => ⟨⟨a3, (), rfl, rfl, WE.mk hP hD ht⟩, hS.F ht⟩) hS.2.2 dX8_fewestFrom_8
set_option maxHeartbeats 4000000 in
set_option maxRecDepth 100000 in
theorem c_X8_fewestFrom_14 (l : Launch) (dC : Nat → ClassId) (dI : Nat → Nat → Nat) (cI cZ : ClassId) (a : Nat → Nat) (sz : Nat) (M : Mem) (a2 : Int32) (a3 : Int32) (a4 : Int32) (z : Int32 × Mem) (hf : fX8_fewestFrom (13 + 1) M a2 a3 a4 = some z) : Met l yX8_fewestFrom wsX8_fewestFrom ({ frames := 18, cells := 0, slots := 0, locals := 445 } : Room) (va_Pc [.ref (a 0), .ref (a 5), .int a2, .int a3, .int a4] (WR (dC, dI) cI cZ (wX8_fewestFrom cI cZ a M) sz)) (va_Qi (S := Unit) (fun r _ => r = z.1) (fun _ t => WE (dC, dI) cI cZ (wX8_fewestFrom cI cZ a (sr M 5 (z.2 5))) (va_A (wX8_fewestFrom cI cZ a M) sz) t) (va_A (wX8_fewestFrom cI cZ a M) sz)) 0 0 (va_A (wX8_fewestFrom cI cZ a M) sz) := by
  refine Met.ofW (cc := cX8_fewestFrom) (maxL := 6) (ret := (some .int)) (by decide) rfl ?_
  intro p e s m args below meth c s₁ B hml hv
  obtain ⟨rfl, hsz, hP, hK, hD0, hNW⟩ := hv
  have hx := B.exec
  have hb := B.bytes
  have hr := B.returns
  have hts := atoms_spec (ws := wsX8_fewestFrom) B.pre
  have hown : s.vm.findClass RX8 = some m.cls := findClass_of_methodNamed B.named
  have hlocks := B.notSynchronized
  have hinX7 : ∀ w ∈ u_ws RX7 TX7 6, w ∈ wsX8_fewestFrom := by decide +kernel
  have hw1 := hts (.initialized RX7) (by decide +kernel)
  have hw2 := hts (.instanceMethod yX7_helps) (by decide +kernel)
  have hw3 := hts (.selects RX7 yX7_helps yX7_helps) (by decide +kernel)
  have hw4 := hts (.instanceMethod yX7_lend) (by decide +kernel)
  have hw5 := hts (.selects RX7 yX7_lend yX7_lend) (by decide +kernel)
  subst hsz
  have hD := hD0.self (sz := s.heap.size)
  generalize hAe : va_A (wX8_fewestFrom cI cZ a M) s.heap.size = A at hD ⊢
  have hA : ∀ q : Nat, s.heap.size ≤ q → A q := fun q h => by rw [← hAe]; exact Or.inr h
  have hS : va_S A s.heap s.heap [] := va_S.rf
  have hfX8_fewestFrom_B31 : ∀ (N : Mem) (l4 : Int32), fX8_fewestFrom_B31 M  N l4 = some z → ∀ (ls : Array Slot), lv_has ls 6 [(4, .int l4)] → ∀ (H : Heap) (locs : List Loc), va_P (dC, dI) vwCl (wX8_fewestFrom cI cZ a (sr M 5 (N 5))) H → va_D A (wX8_fewestFrom cI cZ a (sr M 5 (N 5))) → va_S A s.heap H locs → W p l e (headSpec wsX8_fewestFrom ({ frames := 18, cells := 0, slots := 0, locals := 445 } : Room)).room s m ([.ref (a 0), .ref (a 5), .int a2, .int a3, .int a4] : List Value).toArray below meth c H locs 0 0 (MQ below (va_Qi (S := Unit) (fun r _ => r = z.1) (fun _ t => WE (dC, dI) cI cZ (wX8_fewestFrom cI cZ a (sr M 5 (z.2 5))) A t) A) ([.ref (a 0), .ref (a 5), .int a2, .int a3, .int a4] : List Value).toArray s 0 0 A) (F0 m 31 ls []) := by
    intro  N l4 hf ls hl H locs hP hD hS
    unfold fX8_fewestFrom_B31 at hf
    refine lv_iload hx hb dX8_fewestFrom_31 (lv_at hl 0 rfl) ?_
    have e9 := so_e hf
    subst e9
    exact W.iret (v := l4) hx hb hr (fun t ht hW => ⟨⟨l4, (), rfl, rfl, WE.mk hP hD ht⟩, hS.F ht⟩) hS.2.2 dX8_fewestFrom_33
  have hfX8_fewestFrom_B76 : ∀ (N : Mem) (l2 : Int32) (l3 : Int32) (l5 : Int32), fX8_fewestFrom_B76 (fX8_fewestFrom 13) M  N l2 l3 l5 = some z → ∀ (ls : Array Slot), lv_has ls 6 [(0, .ref (a 0)), (1, .ref (a 5)), (2, .int l2), (3, .int l3), (5, .int l5)] → ∀ (H : Heap) (locs : List Loc), va_P (dC, dI) vwCl (wX8_fewestFrom cI cZ a (sr M 5 (N 5))) H → va_D A (wX8_fewestFrom cI cZ a (sr M 5 (N 5))) → va_S A s.heap H locs → W p l e (headSpec wsX8_fewestFrom ({ frames := 18, cells := 0, slots := 0, locals := 445 } : Room)).room s m ([.ref (a 0), .ref (a 5), .int a2, .int a3, .int a4] : List Value).toArray below meth c H locs 0 0 (MQ below (va_Qi (S := Unit) (fun r _ => r = z.1) (fun _ t => WE (dC, dI) cI cZ (wX8_fewestFrom cI cZ a (sr M 5 (z.2 5))) A t) A) ([.ref (a 0), .ref (a 5), .int a2, .int a3, .int a4] : List Value).toArray s 0 0 A) (F0 m 76 ls []) := by
    intro  N l2 l3 l5 hf ls hl H locs hP hD hS
    unfold fX8_fewestFrom_B76 at hf
    refine lv_aload_n hx hb dX8_fewestFrom_76 rfl (lv_at hl 0 rfl) ?_
    refine lv_aload_n hx hb dX8_fewestFrom_77 rfl (lv_at hl 1 rfl) ?_
    refine lv_iload_n hx hb dX8_fewestFrom_78 rfl (lv_at hl 2 rfl) ?_
    refine lv_iconst (v := (1 : Int32)) hx hb dX8_fewestFrom_79 (by decide) ?_
    refine lv_iadd hx hb dX8_fewestFrom_80 ?_
    refine lv_iload_n hx hb dX8_fewestFrom_81 rfl (lv_at hl 3 rfl) ?_
    refine lv_iload hx hb dX8_fewestFrom_82 (lv_at hl 4 rfl) ?_
    obtain ⟨r84, hc84, hf⟩ := bi_s hf
    have hPc := hP
    have hDc := hD
    have hFc := va_free (wc := (wX8_fewestFrom cI cZ a (sr M 5 (N 5)))) hD hS hA [0, 1, 2, 3, 4, 5] rfl
    refine va_calli (va_runS (As := [.ref (a 0), .ref (a 5), .int (l2 + (1 : Int32)), .int l3, .int l5]) (rest := []) ⟨hx, hb, hml, hown, hts⟩ (c_X8_fewestFrom_13 l dC dI cI cZ a H.size (sr M 5 (N 5)) (l2 + (1 : Int32)) l3 l5 r84 hc84) (va_cwS 5 hts gX8_fewestFrom_X8_fewestFrom rfl rfl rfl (by decide +kernel) ⟨Nat.le_of_ble_eq_true rfl, Nat.le_of_ble_eq_true rfl⟩) ⟨WR.blind, WR.pre hPc hK hDc hNW⟩ rfl rfl hl.1 rfl (lv_room (Nat.le_of_ble_eq_true rfl)) dX8_fewestFrom_84 ⟨Nat.le_of_ble_eq_true rfl, Nat.le_of_ble_eq_true rfl⟩) hS (fun q _ h => hFc q h) hFc (fun rv u t H1 locs ht hvm hw hB hz1 hk1 hS => ?_)
    obtain ⟨hP1, hD1⟩ := hB
    rw [ht] at hP1
    subst hw
    have hP := hP1
    have hD := hD1.weaken (fun k q _ h => hFc q.1 h)
    have hP : va_P (dC, dI) vwCl (wX8_fewestFrom cI cZ a (sr M 5 (r84.2 5))) H1 := hP
    have hD : va_D A (wX8_fewestFrom cI cZ a (sr M 5 (r84.2 5))) := hD
    generalize H1 = H at hP hS ⊢
    have e9 := so_e hf
    subst e9
    exact W.iret (v := r84.1) hx hb hr (fun t ht hW => ⟨⟨r84.1, (), rfl, rfl, WE.mk hP hD ht⟩, hS.F ht⟩) hS.2.2 dX8_fewestFrom_87
  have hl := lv_entry ([.ref (a 0), .ref (a 5), .int a2, .int a3, .int a4]) (n := 6) (Nat.le_of_ble_eq_true rfl)
  rw [lg_entry_eq]
  generalize (lg_sl ([.ref (a 0), .ref (a 5), .int a2, .int a3, .int a4]) ++ List.replicate (6 - (lg_sl ([.ref (a 0), .ref (a 5), .int a2, .int a3, .int a4])).length) Slot.unset).toArray = ls at hl ⊢
  have hl : lv_has ls 6 [(0, .ref (a 0)), (1, .ref (a 5)), (2, .int a2), (3, .int a3), (4, .int a4)] := hl
  rw [fX8_fewestFrom] at hf
  suffices hgo : ∀ (H : Heap) (locs : List Loc), va_P (dC, dI) vwCl (wX8_fewestFrom cI cZ a M) H → va_D A (wX8_fewestFrom cI cZ a M) → va_S A s.heap H locs → W p l e (headSpec wsX8_fewestFrom ({ frames := 18, cells := 0, slots := 0, locals := 445 } : Room)).room s m ([.ref (a 0), .ref (a 5), .int a2, .int a3, .int a4] : List Value).toArray below meth c H locs 0 0 (MQ below (va_Qi (S := Unit) (fun r _ => r = z.1) (fun _ t => WE (dC, dI) cI cZ (wX8_fewestFrom cI cZ a (sr M 5 (z.2 5))) A t) A) ([.ref (a 0), .ref (a 5), .int a2, .int a3, .int a4] : List Value).toArray s 0 0 A) (F0 m 0 ls []) from hgo _ _ hP hD hS
  intro H locs hP hD hS
  refine lv_aload_n hx hb dX8_fewestFrom_0 rfl (lv_at hl 1 rfl) ?_
  obtain ⟨r1, hc1, hf⟩ := bi_s hf
  have hPc := hP.sub (ws' := (wX8_isLacking cI cZ (ofs 5 a) (ofs 5 M))) [5] rfl
  refine cRO (W.runS (As := [.ref (a 5)]) (rest := []) ⟨hx, hb, hml, hown, hts⟩ (c_X8_isLacking l dC dI cI cZ (ofs 5 a) (ofs 5 M) r1 hc1) (va_cwS 1 hts gX8_fewestFrom_X8_isLacking rfl rfl rfl (by decide +kernel) ⟨Nat.le_of_ble_eq_true rfl, Nat.le_of_ble_eq_true rfl⟩) ⟨RO.blind, RO.pre hPc hK hNW⟩ rfl rfl hl.1 rfl (lv_room (Nat.le_of_ble_eq_true rfl)) dX8_fewestFrom_1 ⟨Nat.le_of_ble_eq_true rfl, Nat.le_of_ble_eq_true rfl⟩) ?_
  refine lv_if_ne (tgt := 9) hx hb dX8_fewestFrom_4 (by decide) (fun c9 => ?_) (fun c9 => ?_)
  · have hf := it_t hf c9
    refine lv_iload_n hx hb dX8_fewestFrom_9 rfl (lv_at hl 2 rfl) ?_
    refine lv_aload_n hx hb dX8_fewestFrom_10 rfl (lv_at hl 0 rfl) ?_
    refine va_getN (D := (dC, dI)) (ci := 7) (v := .int (M 0 0)) (C := RX7) (T := TX7) (N := 6) hx hb hts hinX7 hown hK hP 0 rfl rfl 0 (by decide) (nw24 hNW) (fun _ h9 => h9) rfl dX8_fewestFrom_11 ?_
    refine lv_icmp_ge (tgt := 31) hx hb dX8_fewestFrom_14 (by decide) (fun c9 => ?_) (fun c9 => ?_)
    · have hf := it_t hf c9
      exact hfX8_fewestFrom_B31  M a4 hf _ (lv_sub hl [4] rfl) _ _ hP hD hS
    · have hf := it_f hf c9
      refine lv_iload_n hx hb dX8_fewestFrom_17 rfl (lv_at hl 2 rfl) ?_
      refine lv_bipush (v := (12 : Int32)) hx hb dX8_fewestFrom_18 (by decide) ?_
      refine lv_icmp_ge (tgt := 31) hx hb dX8_fewestFrom_20 (by decide) (fun c9 => ?_) (fun c9 => ?_)
      · have hf := it_t hf c9
        exact hfX8_fewestFrom_B31  M a4 hf _ (lv_sub hl [4] rfl) _ _ hP hD hS
      · have hf := it_f hf c9
        refine lv_iload_n hx hb dX8_fewestFrom_23 rfl (lv_at hl 3 rfl) ?_
        refine lv_iconst (v := (1 : Int32)) hx hb dX8_fewestFrom_24 (by decide) ?_
        refine lv_iadd hx hb dX8_fewestFrom_25 ?_
        refine lv_iload hx hb dX8_fewestFrom_26 (lv_at hl 4 rfl) ?_
        refine lv_icmp_lt (tgt := 34) hx hb dX8_fewestFrom_28 (by decide) (fun c9 => ?_) (fun c9 => ?_)
        · have hf := it_t hf c9
          refine lv_iload hx hb dX8_fewestFrom_34 (lv_at hl 4 rfl) ?_
          refine lv_istore (lv' := [(5, .int a4), (0, .ref (a 0)), (1, .ref (a 5)), (2, .int a2), (3, .int a3), (4, .int a4)]) hx hb dX8_fewestFrom_36 hl (by decide) rfl (fun ls hl => ?_)
          refine lv_aload_n hx hb dX8_fewestFrom_38 rfl (lv_at hl 1 rfl) ?_
          refine lv_iload_n hx hb dX8_fewestFrom_39 rfl (lv_at hl 3 rfl) ?_
          refine lv_aload_n hx hb dX8_fewestFrom_40 rfl (lv_at hl 2 rfl) ?_
          obtain ⟨r41, hc41, hf⟩ := bi_s hf
          have hPc := hP.sub (ws' := (wX7_helps cI cZ a M)) [0, 1, 2, 3, 4, 5] rfl
          refine cRO (va_Run.run (va_runVN (As := [.int a2, .ref (a 5)]) (rest := []) ⟨hx, hb, hml, hown, hts⟩ (c_X7_helps l dC dI cI cZ a M a2 r41 hc41) ⟨va_cnB 2 hts gX8_fewestFrom_X7_helps_n454 rfl rfl rfl (nw64 hNW) hw1 (by decide +kernel) ⟨Nat.le_of_ble_eq_true rfl, Nat.le_of_ble_eq_true rfl⟩, hw2, hw3⟩ ⟨RO.blind, va_recv hK hP (ci := 7) (q0 := 0) rfl rfl, RO.pre hPc hK hNW⟩ rfl rfl hl.1 rfl (lv_room (Nat.le_of_ble_eq_true rfl)) dX8_fewestFrom_41 ⟨Nat.le_of_ble_eq_true rfl, Nat.le_of_ble_eq_true rfl⟩)) ?_
          refine lv_if_eq (tgt := 76) hx hb dX8_fewestFrom_44 (by decide) (fun c9 => ?_) (fun c9 => ?_)
          · have hf := it_t hf c9
            exact hfX8_fewestFrom_B76  M a2 a3 a4 hf _ (lv_sub hl [1, 2, 3, 4, 0] rfl) _ _ hP hD hS
          · have hf := it_f hf c9
            refine lv_aload_n hx hb dX8_fewestFrom_47 rfl (lv_at hl 1 rfl) ?_
            refine lv_iload_n hx hb dX8_fewestFrom_48 rfl (lv_at hl 3 rfl) ?_
            refine lv_aload_n hx hb dX8_fewestFrom_49 rfl (lv_at hl 2 rfl) ?_
            refine lv_iconst (v := (-1 : Int32)) hx hb dX8_fewestFrom_50 (by decide) ?_
            obtain ⟨r51, hc51, hf⟩ := bi_s hf
            have hPc := hP.sub (ws' := (wX7_lend cI cZ a M)) [0, 1, 2, 3, 4, 5] rfl
            have hDc := hD.sub (ws' := (wX7_lend cI cZ a M)) [0, 1, 2, 3, 4, 5] (by decide) rfl
            have hFc := va_free (wc := (wX7_lend cI cZ a M)) hD hS hA [0, 1, 2, 3, 4, 5] rfl
            refine va_callv (va_runVN (As := [.int a2, .ref (a 5), .int (-1 : Int32)]) (rest := []) ⟨hx, hb, hml, hown, hts⟩ (c_X7_lend l dC dI cI cZ a H.size M a2 (-1 : Int32) r51 hc51) ⟨va_cnB 3 hts gX8_fewestFrom_X7_lend_n458 rfl rfl rfl (nw65 hNW) hw1 (by decide +kernel) ⟨Nat.le_of_ble_eq_true rfl, Nat.le_of_ble_eq_true rfl⟩, hw4, hw5⟩ ⟨WR.blind, va_recv hK hP (ci := 7) (q0 := 0) rfl rfl, WR.pre hPc hK hDc hNW⟩ rfl rfl hl.1 rfl (lv_room (Nat.le_of_ble_eq_true rfl)) dX8_fewestFrom_51 ⟨Nat.le_of_ble_eq_true rfl, Nat.le_of_ble_eq_true rfl⟩) hS (fun q _ h => hFc q h) hFc (fun u t H1 locs ht hvm hw hB hz1 hk1 hS => ?_)
            obtain ⟨hP1, hD1⟩ := hB
            rw [ht] at hP1
            obtain ⟨hP, hD⟩ := va_join (wr := []) (w1 := (wX7_lend cI cZ a (sr M 5 (r51 5)))) hP hD [0, 1, 2, 3, 4, 5] [] rfl rfl (by decide) (by decide) hk1 hFc hP1 hD1
            have hP := hP.sub (ws' := (wX8_fewestFrom cI cZ a (sr M 5 (r51 5)))) [0, 1, 2, 3, 4, 5] rfl
            have hD := hD.sub (ws' := (wX8_fewestFrom cI cZ a (sr M 5 (r51 5)))) [0, 1, 2, 3, 4, 5] (by decide) rfl
            generalize H1 = H at hP hS ⊢
            refine lv_aload_n hx hb dX8_fewestFrom_54 rfl (lv_at hl 1 rfl) ?_
            refine lv_aload_n hx hb dX8_fewestFrom_55 rfl (lv_at hl 2 rfl) ?_
            refine lv_iload_n hx hb dX8_fewestFrom_56 rfl (lv_at hl 3 rfl) ?_
            refine lv_iconst (v := (1 : Int32)) hx hb dX8_fewestFrom_57 (by decide) ?_
            refine lv_iadd hx hb dX8_fewestFrom_58 ?_
            refine lv_iload_n hx hb dX8_fewestFrom_59 rfl (lv_at hl 4 rfl) ?_
            refine lv_iconst (v := (1 : Int32)) hx hb dX8_fewestFrom_60 (by decide) ?_
            refine lv_iadd hx hb dX8_fewestFrom_61 ?_
            refine lv_iload hx hb dX8_fewestFrom_62 (lv_at hl 0 rfl) ?_
            obtain ⟨r64, hc64, hf⟩ := bi_s hf
            have hPc := hP
            have hDc := hD
            have hFc := va_free (wc := (wX8_fewestFrom cI cZ a (sr M 5 (r51 5)))) hD hS hA [0, 1, 2, 3, 4, 5] rfl
            refine va_calli (va_runS (As := [.ref (a 0), .ref (a 5), .int (a2 + (1 : Int32)), .int (a3 + (1 : Int32)), .int a4]) (rest := []) ⟨hx, hb, hml, hown, hts⟩ (c_X8_fewestFrom_13 l dC dI cI cZ a H.size (sr M 5 (r51 5)) (a2 + (1 : Int32)) (a3 + (1 : Int32)) a4 r64 hc64) (va_cwS 5 hts gX8_fewestFrom_X8_fewestFrom rfl rfl rfl (by decide +kernel) ⟨Nat.le_of_ble_eq_true rfl, Nat.le_of_ble_eq_true rfl⟩) ⟨WR.blind, WR.pre hPc hK hDc hNW⟩ rfl rfl hl.1 rfl (lv_room (Nat.le_of_ble_eq_true rfl)) dX8_fewestFrom_64 ⟨Nat.le_of_ble_eq_true rfl, Nat.le_of_ble_eq_true rfl⟩) hS (fun q _ h => hFc q h) hFc (fun rv u t H1 locs ht hvm hw hB hz1 hk1 hS => ?_)
            obtain ⟨hP1, hD1⟩ := hB
            rw [ht] at hP1
            subst hw
            have hP := hP1
            have hD := hD1.weaken (fun k q _ h => hFc q.1 h)
            have hP : va_P (dC, dI) vwCl (wX8_fewestFrom cI cZ a (sr M 5 (r64.2 5))) H1 := hP
            have hD : va_D A (wX8_fewestFrom cI cZ a (sr M 5 (r64.2 5))) := hD
            generalize H1 = H at hP hS ⊢
            refine lv_istore (lv' := [(5, .int r64.1), (0, .ref (a 0)), (1, .ref (a 5)), (2, .int a2), (3, .int a3), (4, .int a4)]) hx hb dX8_fewestFrom_67 hl (by decide) rfl (fun ls hl => ?_)
            refine lv_aload_n hx hb dX8_fewestFrom_69 rfl (lv_at hl 1 rfl) ?_
            refine lv_iload_n hx hb dX8_fewestFrom_70 rfl (lv_at hl 3 rfl) ?_
            refine lv_aload_n hx hb dX8_fewestFrom_71 rfl (lv_at hl 2 rfl) ?_
            refine lv_iconst (v := (1 : Int32)) hx hb dX8_fewestFrom_72 (by decide) ?_
            obtain ⟨r73, hc73, hf⟩ := bi_s hf
            have hPc := hP.sub (ws' := (wX7_lend cI cZ a (sr M 5 (r64.2 5)))) [0, 1, 2, 3, 4, 5] rfl
            have hDc := hD.sub (ws' := (wX7_lend cI cZ a (sr M 5 (r64.2 5)))) [0, 1, 2, 3, 4, 5] (by decide) rfl
            have hFc := va_free (wc := (wX7_lend cI cZ a (sr M 5 (r64.2 5)))) hD hS hA [0, 1, 2, 3, 4, 5] rfl
            refine va_callv (va_runVN (As := [.int a2, .ref (a 5), .int (1 : Int32)]) (rest := []) ⟨hx, hb, hml, hown, hts⟩ (c_X7_lend l dC dI cI cZ a H.size (sr M 5 (r64.2 5)) a2 (1 : Int32) r73 hc73) ⟨va_cnB 3 hts gX8_fewestFrom_X7_lend_n458 rfl rfl rfl (nw65 hNW) hw1 (by decide +kernel) ⟨Nat.le_of_ble_eq_true rfl, Nat.le_of_ble_eq_true rfl⟩, hw4, hw5⟩ ⟨WR.blind, va_recv hK hP (ci := 7) (q0 := 0) rfl rfl, WR.pre hPc hK hDc hNW⟩ rfl rfl hl.1 rfl (lv_room (Nat.le_of_ble_eq_true rfl)) dX8_fewestFrom_73 ⟨Nat.le_of_ble_eq_true rfl, Nat.le_of_ble_eq_true rfl⟩) hS (fun q _ h => hFc q h) hFc (fun u t H1 locs ht hvm hw hB hz1 hk1 hS => ?_)
            obtain ⟨hP1, hD1⟩ := hB
            rw [ht] at hP1
            obtain ⟨hP, hD⟩ := va_join (wr := []) (w1 := (wX7_lend cI cZ a (sr (sr M 5 (r64.2 5)) 5 (r73 5)))) hP hD [0, 1, 2, 3, 4, 5] [] rfl rfl (by decide) (by decide) hk1 hFc hP1 hD1
            have hP := hP.sub (ws' := (wX8_fewestFrom cI cZ a (sr M 5 (r73 5)))) [0, 1, 2, 3, 4, 5] rfl
            have hD := hD.sub (ws' := (wX8_fewestFrom cI cZ a (sr M 5 (r73 5)))) [0, 1, 2, 3, 4, 5] (by decide) rfl
            generalize H1 = H at hP hS ⊢
            exact hfX8_fewestFrom_B76  (sr M 5 (r73 5)) a2 a3 r64.1 hf _ (lv_sub hl [1, 2, 3, 4, 0] rfl) _ _ hP hD hS
        · have hf := it_f hf c9
          exact hfX8_fewestFrom_B31  M a4 hf _ (lv_sub hl [4] rfl) _ _ hP hD hS
  · have hf := it_n hf c9
    refine lv_iload_n hx hb dX8_fewestFrom_7 rfl (lv_at hl 3 rfl) ?_
    have e9 := so_e hf
    subst e9
    exact W.iret (v := a3) hx hb hr (fun t ht hW => ⟨⟨a3, (), rfl, rfl, WE.mk hP hD ht⟩, hS.F ht⟩) hS.2.2 dX8_fewestFrom_8
