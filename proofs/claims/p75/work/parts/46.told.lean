def nz (y : Int32) : Bool := decide (¬ y = 0)
theorem nz_s {y : Int32} (h : nz y = true) : ¬ y = 0 := of_decide_eq_true h
def fL_low (a0 : Int32) (a1 : Int32) : Option (Int32) := gd (nz a1) (some ((a0 &&& (2147483647 : Int32)) - (a0 &&& (2147483647 : Int32)) / a1 * a1))
set_option maxHeartbeats 4000000 in
set_option maxRecDepth 100000 in
theorem c_L_low (l : Launch) (a0 : Int32) (a1 : Int32) (z : Int32) (hf : fL_low a0 a1 = some z) : Met l yL_low wsL_low ({ frames := 0, cells := 0, slots := 0, locals := 0 } : Room) (va_Pc [.int a0, .int a1] (fun _ => True)) (k2_QcV (.int z)) 0 0 (fun _ => False) := by
  refine Met.ofW (cc := cL_low) (maxL := 2) (ret := (some .int)) (by decide) rfl ?_
  intro p e s m args below meth c s₁ B hml hv
  obtain ⟨rfl, -⟩ := hv
  have hx := B.exec
  have hb := B.bytes
  have hr := B.returns
  have hts := atoms_spec (ws := wsL_low) B.pre
  have hown : s.vm.findClass RL = some m.cls := findClass_of_methodNamed B.named
  have hlocks := B.notSynchronized
  have hw0 := hts (.constant RL 7 (2147483647)) (by decide +kernel)
  have hl := lv_entry ([.int a0, .int a1]) (n := 2) (Nat.le_of_ble_eq_true rfl)
  rw [lg_entry_eq]
  generalize (lg_sl ([.int a0, .int a1]) ++ List.replicate (2 - (lg_sl ([.int a0, .int a1])).length) Slot.unset).toArray = ls at hl ⊢
  have hl : lv_has ls 2 [(0, .int a0), (1, .int a1)] := hl
  unfold fL_low at hf
  refine lv_iload_n hx hb dL_low_0 rfl (lv_at hl 0 rfl) ?_
  refine lv_ldc (v := (2147483647 : Int32)) hx hb hown hw0 dL_low_1 ?_
  refine lv_iand hx hb dL_low_3 ?_
  refine lv_iload_n hx hb dL_low_4 rfl (lv_at hl 1 rfl) ?_
  obtain ⟨hi, hf⟩ := gd_s hf
  refine lv_irem hx hb dL_low_5 (nz_s hi) ?_
  exact W.iret (v := ((a0 &&& (2147483647 : Int32)) - (a0 &&& (2147483647 : Int32)) / a1 * a1)) hx hb hr (fun t ht hW => ⟨congrArg (fun x => Outcome.returned (some (Value.int x))) (so_e hf), ht⟩) fl0 dL_low_6
def fL_told_B134 (M : Mem) (kb : Int64 → Int32 → Option (Int64)) (kx151 : Int64 → Option (Int64)) (l3 : Int32) (s0 : Int64) (s1 : Int64) (s2 : Int32) : Option (Int64) := (fX8_weightOf M l3).bind fun r139 => sel r139 (fun E9 => none) (fun r139 => kb ((s0 * (s1 + (s2.toInt64))) + (r139.toInt64)) (l3 + (1 : Int32)))
def fL_told_L70 (M : Mem) : Nat → (Int64 → Option (Int64)) → Int64 → Int32 → Option (Int64)
  | 0, _, _, _ => none
  | n + 1, kx151, l1, l3 => (fX8_shelves M ).bind fun r72 => if r72 ≤ l3 then (kx151 l1) else ((fX8_sideOf M l3).bind fun r91 => sel r91 (fun E9 => none) (fun r91 => (fX8_slotOf M l3).bind fun r99 => sel r99 (fun E9 => none) (fun r99 => (fX8_fetchesOf M l3).bind fun r107 => sel r107 (fun E9 => none) (fun r107 => (fX8_isAtWindow M l3).bind fun r123 => sel r123 (fun E9 => none) (fun r123 => if r123 = 0 then (fL_told_B134 M (fun (l1 : Int64) (l3 : Int32) => fL_told_L70 M n kx151 l1 l3) kx151 l3 (31 : Int64) ((31 : Int64) * (((31 : Int64) * (((31 : Int64) * (((31 : Int64) * l1) + (r91.toInt64))) + (r99.toInt64))) + (r107.toInt64))) (0 : Int32)) else (fL_told_B134 M (fun (l1 : Int64) (l3 : Int32) => fL_told_L70 M n kx151 l1 l3) kx151 l3 (31 : Int64) ((31 : Int64) * (((31 : Int64) * (((31 : Int64) * (((31 : Int64) * l1) + (r91.toInt64))) + (r99.toInt64))) + (r107.toInt64))) (1 : Int32)))))))
def fL_told_L153 (M : Mem) : Nat → (Int64 → Option (Int64)) → Int64 → Int32 → Option (Int64)
  | 0, _, _, _ => none
  | n + 1, kx200, l1, l3 => if (10 : Int32) ≤ l3 then (kx200 l1) else ((fX8_stockByAccount M l3).bind fun r172 => sel r172 (fun E9 => none) (fun r172 => (fX8_weightOfKind M l3).bind fun r180 => sel r180 (fun E9 => none) (fun r180 => (fX8_leastOf M l3).bind fun r188 => sel r188 (fun E9 => none) (fun r188 => fL_told_L153 M n kx200 (((31 : Int64) * (((31 : Int64) * (((31 : Int64) * l1) + (r172.toInt64))) + (r180.toInt64))) + (r188.toInt64)) (l3 + (1 : Int32))))))
def fL_told_L202 (M : Mem) : Nat → (Int64 → Option (Int64)) → Int64 → Int32 → Option (Int64)
  | 0, _, _, _ => none
  | n + 1, kx229, l1, l3 => (fX8_orders M ).bind fun r204 => if r204 ≤ l3 then (kx229 l1) else ((fX8_thingsOf M l3).bind fun r217 => sel r217 (fun E9 => none) (fun r217 => fL_told_L202 M n kx229 (((31 : Int64) * l1) + (r217.toInt64)) (l3 + (1 : Int32))))
def fL_told_B268 (M : Mem) (kb : Int64 → Int32 → Option (Int64)) (kx277 : Int64 → Option (Int64)) (l3 : Int32) (s0 : Int64) (s1 : Int32) : Option (Int64) := kb (s0 + (s1.toInt64)) (l3 + (1 : Int32))
def fL_told_L231 (M : Mem) : Nat → (Int64 → Option (Int64)) → Int64 → Int32 → Option (Int64)
  | 0, _, _, _ => none
  | n + 1, kx277, l1, l3 => (fX8_trips M ).bind fun r233 => if r233 ≤ l3 then (kx277 l1) else ((fX8_tripTicks M l3).bind fun r249 => sel r249 (fun E9 => none) (fun r249 => (fX8_wasFetch M l3).bind fun r257 => sel r257 (fun E9 => none) (fun r257 => if r257 = 0 then (fL_told_B268 M (fun (l1 : Int64) (l3 : Int32) => fL_told_L231 M n kx277 l1 l3) kx277 l3 ((31 : Int64) * (((31 : Int64) * l1) + (r249.toInt64))) (0 : Int32)) else (fL_told_B268 M (fun (l1 : Int64) (l3 : Int32) => fL_told_L231 M n kx277 l1 l3) kx277 l3 ((31 : Int64) * (((31 : Int64) * l1) + (r249.toInt64))) (1 : Int32)))))
def fL_told_B294 (M : Mem)  (s0 : Int64) (s1 : Int32) : Option (Int64) := some (s0 + (s1.toInt64))
def fL_told (M : Mem)  : Option (Int64) := (fX8_shelves M ).bind fun r16 => (fX8_lift M ).bind fun r23 => (fX8_ticks M ).bind fun r30 => (fX8_fetches M ).bind fun r48 => (fX8_served M ).bind fun r55 => (fX8_orders M ).bind fun r62 => fL_told_L70 M 5000 (fun (l1 : Int64) => fL_told_L153 M 5000 (fun (l1 : Int64) => fL_told_L202 M 5000 (fun (l1 : Int64) => fL_told_L231 M 5000 (fun (l1 : Int64) => (fX8_isKeptPlace M ).bind fun r283 => if r283 = 0 then (fL_told_B294 M  ((31 : Int64) * l1) (0 : Int32)) else (fL_told_B294 M  ((31 : Int64) * l1) (1 : Int32))) l1 (0 : Int32)) l1 (0 : Int32)) l1 (0 : Int32)) (((31 : Int64) * (((31 : Int64) * (((31 : Int64) * (((31 : Int64) * (((31 : Int64) * (((31 : Int64) * (3 : Int64)) + (r16.toInt64))) + (r23.toInt64))) + (r30.toInt64))) + (r48.toInt64))) + (r55.toInt64))) + (r62.toInt64)) (0 : Int32)
set_option maxHeartbeats 4000000 in
set_option maxRecDepth 100000 in
theorem c_L_told (l : Launch) (dC : Nat → ClassId) (dI : Nat → Nat → Nat) (cI cZ cS : ClassId) (f g : Nat → Option Nat) (a : Nat → Nat) (M : Mem) (z : Int64) (hf : fL_told M  = some z) : Met l yL_told wsL_told ({ frames := 3, cells := 0, slots := 0, locals := 66 } : Room) (va_Pc [.ref (a 0)] (RO8 (dC, dI) cI cZ cS (wX8 cI cZ cS f g a M))) (k2_QcV (.long z)) 0 0 (fun _ => False) := by
  refine Met.ofW (cc := cL_told) (maxL := 4) (ret := (some .long)) (by decide) rfl ?_
  intro p e s m args below meth c s₁ B hml hv
  obtain ⟨rfl, hP, hK, hNW⟩ := hv
  have hK2 : va_K (dC, dI) vwCl [(cI, .int), (cZ, .boolean)] s := hK.sub (tys' := [(cI, .int), (cZ, .boolean)]) [0, 1] rfl
  have hx := B.exec
  have hb := B.bytes
  have hr := B.returns
  have hts := atoms_spec (ws := wsL_told) B.pre
  have hown : s.vm.findClass RL = some m.cls := findClass_of_methodNamed B.named
  have hlocks := B.notSynchronized
  have hw0 := hts (.constantLong RL 8 (3)) (by decide +kernel)
  have hw1 := hts (.constantLong RL 10 (31)) (by decide +kernel)
  have hfL_told_B134 : ∀ (kb : Int64 → Int32 → Option (Int64)) (hkb : ∀ (l1 : Int64) (l3 : Int32), kb l1 l3 = some z → ∀ (ls : Array Slot), lv_has ls 4 [(0, .ref (a 0)), (1, .long l1), (3, .int l3)] → W p l e (headSpec wsL_told ({ frames := 3, cells := 0, slots := 0, locals := 66 } : Room)).room s m ([.ref (a 0)] : List Value).toArray below meth c s.heap [] 0 0 (MQ below (k2_QcV (.long z)) ([.ref (a 0)] : List Value).toArray s 0 0 (fun _ => False)) (F0 m 70 ls [])) (kx151 : Int64 → Option (Int64)) (hkx151 : ∀ (l1 : Int64), kx151 l1 = some z → ∀ (ls : Array Slot), lv_has ls 4 [(0, .ref (a 0)), (1, .long l1)] → W p l e (headSpec wsL_told ({ frames := 3, cells := 0, slots := 0, locals := 66 } : Room)).room s m ([.ref (a 0)] : List Value).toArray below meth c s.heap [] 0 0 (MQ below (k2_QcV (.long z)) ([.ref (a 0)] : List Value).toArray s 0 0 (fun _ => False)) (F0 m 151 ls [])), ∀ (l3 : Int32) (s0 : Int64) (s1 : Int64) (s2 : Int32), fL_told_B134 M kb kx151 l3 s0 s1 s2 = some z → ∀ (ls : Array Slot), lv_has ls 4 [(0, .ref (a 0)), (3, .int l3)] → W p l e (headSpec wsL_told ({ frames := 3, cells := 0, slots := 0, locals := 66 } : Room)).room s m ([.ref (a 0)] : List Value).toArray below meth c s.heap [] 0 0 (MQ below (k2_QcV (.long z)) ([.ref (a 0)] : List Value).toArray s 0 0 (fun _ => False)) (F0 m 134 ls [.int s2, .long s1, .long s0]) := by
    intro kb hkb kx151 hkx151 l3 s0 s1 s2 hf ls hl
    unfold fL_told_B134 at hf
    refine lv_i2l (v := s2.toInt64) hx hb dL_told_134 rfl ?_
    refine lv_ladd hx hb dL_told_135 ?_
    refine lv_lmul hx hb dL_told_136 ?_
    refine lv_aload_n hx hb dL_told_137 rfl (lv_at hl 0 rfl) ?_
    refine lv_iload_n hx hb dL_told_138 rfl (lv_at hl 1 rfl) ?_
    obtain ⟨r139, hc139, hf⟩ := bi_s hf
    rcases r139 with E9 | r139
    · exact absurd hf (fun h => nomatch h)
    have hf := sel_r hf
    refine cRO (W.runV (As := [.int l3]) (rest := [.long (s0 * (s1 + (s2.toInt64)))]) ⟨hx, hb, hml, hown, hts⟩ (n_X8_weightOf l dC dI cI cZ cS f g a M l3 r139 hc139) (cwV 1 hts gL_told_X8_weightOf rfl rfl rfl (by decide +kernel) ⟨Nat.le_of_ble_eq_true rfl, Nat.le_of_ble_eq_true rfl⟩) ⟨RO8.blind, va_recv hK hP (ci := 8) (q0 := 0) rfl rfl, RO8.pre hP hK hNW⟩ rfl rfl hl.1 rfl (lv_room (Nat.le_of_ble_eq_true rfl)) dL_told_139 ⟨Nat.le_of_ble_eq_true rfl, Nat.le_of_ble_eq_true rfl⟩) ?_
    refine lv_i2l (v := r139.toInt64) hx hb dL_told_142 rfl ?_
    refine lv_ladd hx hb dL_told_143 ?_
    refine lv_lstore_n (lv' := [(1, .long ((s0 * (s1 + (s2.toInt64))) + (r139.toInt64))), (0, .ref (a 0)), (3, .int l3)]) hx hb dL_told_144 rfl hl (by decide) rfl (fun ls hl => ?_)
    refine lv_iinc (v := (l3 + (1 : Int32))) (lv' := [(3, .int (l3 + (1 : Int32))), (1, .long ((s0 * (s1 + (s2.toInt64))) + (r139.toInt64))), (0, .ref (a 0))]) hx hb dL_told_145 hl (k := 2) rfl rfl (by decide) rfl (fun ls hl => ?_)
    refine lv_goto (tgt := 70) hx hb dL_told_148 (by decide) ?_
    exact hkb ((s0 * (s1 + (s2.toInt64))) + (r139.toInt64)) (l3 + (1 : Int32)) hf _ (lv_sub hl [2, 1, 0] rfl)
  have hfL_told_L70 : ∀ (n : Nat) (kx151 : Int64 → Option (Int64)) (hkx151 : ∀ (l1 : Int64), kx151 l1 = some z → ∀ (ls : Array Slot), lv_has ls 4 [(0, .ref (a 0)), (1, .long l1)] → W p l e (headSpec wsL_told ({ frames := 3, cells := 0, slots := 0, locals := 66 } : Room)).room s m ([.ref (a 0)] : List Value).toArray below meth c s.heap [] 0 0 (MQ below (k2_QcV (.long z)) ([.ref (a 0)] : List Value).toArray s 0 0 (fun _ => False)) (F0 m 151 ls [])), ∀ (l1 : Int64) (l3 : Int32), fL_told_L70 M n kx151 l1 l3 = some z → ∀ (ls : Array Slot), lv_has ls 4 [(0, .ref (a 0)), (1, .long l1), (3, .int l3)] → W p l e (headSpec wsL_told ({ frames := 3, cells := 0, slots := 0, locals := 66 } : Room)).room s m ([.ref (a 0)] : List Value).toArray below meth c s.heap [] 0 0 (MQ below (k2_QcV (.long z)) ([.ref (a 0)] : List Value).toArray s 0 0 (fun _ => False)) (F0 m 70 ls []) := by
    intro n
    induction n with
    | zero =>
      intro kx151 hkx151 l1 l3 hf ls hl
      rw [fL_told_L70] at hf
      cases hf
    | succ n ih =>
      intro kx151 hkx151 l1 l3 hf ls hl
      rw [fL_told_L70] at hf
      refine lv_iload_n hx hb dL_told_70 rfl (lv_at hl 2 rfl) ?_
      refine lv_aload_n hx hb dL_told_71 rfl (lv_at hl 0 rfl) ?_
      obtain ⟨r72, hc72, hf⟩ := bi_s hf
      have hPc := hP
      refine cRO (W.runV (As := []) (rest := [.int l3]) ⟨hx, hb, hml, hown, hts⟩ (c_X8_shelves l dC dI cI cZ cS f g a M r72 hc72) (cwV 0 hts gL_told_X8_shelves rfl rfl rfl (by decide +kernel) ⟨Nat.le_of_ble_eq_true rfl, Nat.le_of_ble_eq_true rfl⟩) ⟨RO8.blind, va_recv hK hP (ci := 8) (q0 := 0) rfl rfl, RO8.pre hPc hK hNW⟩ rfl rfl hl.1 rfl (lv_room (Nat.le_of_ble_eq_true rfl)) dL_told_72 ⟨Nat.le_of_ble_eq_true rfl, Nat.le_of_ble_eq_true rfl⟩) ?_
      refine lv_icmp_ge (tgt := 151) hx hb dL_told_75 (by decide) (fun c9 => ?_) (fun c9 => ?_)
      · have hf := it_t hf c9
        exact hkx151 l1 hf _ (lv_sub hl [0, 1] rfl)
      · have hf := it_f hf c9
        refine lv_ldc2 (v := (31 : Int64)) hx hb hown hw1 dL_told_78 ?_
        refine lv_ldc2 (v := (31 : Int64)) hx hb hown hw1 dL_told_81 ?_
        refine lv_ldc2 (v := (31 : Int64)) hx hb hown hw1 dL_told_84 ?_
        refine lv_lload_n hx hb dL_told_87 rfl (lv_at hl 1 rfl) ?_
        refine lv_lmul hx hb dL_told_88 ?_
        refine lv_aload_n hx hb dL_told_89 rfl (lv_at hl 0 rfl) ?_
        refine lv_iload_n hx hb dL_told_90 rfl (lv_at hl 2 rfl) ?_
        obtain ⟨r91, hc91, hf⟩ := bi_s hf
        rcases r91 with E9 | r91
        · exact absurd hf (fun h => nomatch h)
        have hf := sel_r hf
        refine cRO (W.runV (As := [.int l3]) (rest := [.long ((31 : Int64) * l1), .long (31 : Int64), .long (31 : Int64)]) ⟨hx, hb, hml, hown, hts⟩ (n_X8_sideOf l dC dI cI cZ cS f g a M l3 r91 hc91) (cwV 1 hts gL_told_X8_sideOf rfl rfl rfl (by decide +kernel) ⟨Nat.le_of_ble_eq_true rfl, Nat.le_of_ble_eq_true rfl⟩) ⟨RO8.blind, va_recv hK hP (ci := 8) (q0 := 0) rfl rfl, RO8.pre hP hK hNW⟩ rfl rfl hl.1 rfl (lv_room (Nat.le_of_ble_eq_true rfl)) dL_told_91 ⟨Nat.le_of_ble_eq_true rfl, Nat.le_of_ble_eq_true rfl⟩) ?_
        refine lv_i2l (v := r91.toInt64) hx hb dL_told_94 rfl ?_
        refine lv_ladd hx hb dL_told_95 ?_
        refine lv_lmul hx hb dL_told_96 ?_
        refine lv_aload_n hx hb dL_told_97 rfl (lv_at hl 0 rfl) ?_
        refine lv_iload_n hx hb dL_told_98 rfl (lv_at hl 2 rfl) ?_
        obtain ⟨r99, hc99, hf⟩ := bi_s hf
        rcases r99 with E9 | r99
        · exact absurd hf (fun h => nomatch h)
        have hf := sel_r hf
        refine cRO (W.runV (As := [.int l3]) (rest := [.long ((31 : Int64) * (((31 : Int64) * l1) + (r91.toInt64))), .long (31 : Int64)]) ⟨hx, hb, hml, hown, hts⟩ (n_X8_slotOf l dC dI cI cZ cS f g a M l3 r99 hc99) (cwV 1 hts gL_told_X8_slotOf rfl rfl rfl (by decide +kernel) ⟨Nat.le_of_ble_eq_true rfl, Nat.le_of_ble_eq_true rfl⟩) ⟨RO8.blind, va_recv hK hP (ci := 8) (q0 := 0) rfl rfl, RO8.pre hP hK hNW⟩ rfl rfl hl.1 rfl (lv_room (Nat.le_of_ble_eq_true rfl)) dL_told_99 ⟨Nat.le_of_ble_eq_true rfl, Nat.le_of_ble_eq_true rfl⟩) ?_
        refine lv_i2l (v := r99.toInt64) hx hb dL_told_102 rfl ?_
        refine lv_ladd hx hb dL_told_103 ?_
        refine lv_lmul hx hb dL_told_104 ?_
        refine lv_aload_n hx hb dL_told_105 rfl (lv_at hl 0 rfl) ?_
        refine lv_iload_n hx hb dL_told_106 rfl (lv_at hl 2 rfl) ?_
        obtain ⟨r107, hc107, hf⟩ := bi_s hf
        rcases r107 with E9 | r107
        · exact absurd hf (fun h => nomatch h)
        have hf := sel_r hf
        refine cRO (W.runV (As := [.int l3]) (rest := [.long ((31 : Int64) * (((31 : Int64) * (((31 : Int64) * l1) + (r91.toInt64))) + (r99.toInt64)))]) ⟨hx, hb, hml, hown, hts⟩ (n_X8_fetchesOf l dC dI cI cZ cS f g a M l3 r107 hc107) (cwV 1 hts gL_told_X8_fetchesOf rfl rfl rfl (by decide +kernel) ⟨Nat.le_of_ble_eq_true rfl, Nat.le_of_ble_eq_true rfl⟩) ⟨RO8.blind, va_recv hK hP (ci := 8) (q0 := 0) rfl rfl, RO8.pre hP hK hNW⟩ rfl rfl hl.1 rfl (lv_room (Nat.le_of_ble_eq_true rfl)) dL_told_107 ⟨Nat.le_of_ble_eq_true rfl, Nat.le_of_ble_eq_true rfl⟩) ?_
        refine lv_i2l (v := r107.toInt64) hx hb dL_told_110 rfl ?_
        refine lv_ladd hx hb dL_told_111 ?_
        refine lv_lstore_n (lv' := [(1, .long (((31 : Int64) * (((31 : Int64) * (((31 : Int64) * l1) + (r91.toInt64))) + (r99.toInt64))) + (r107.toInt64))), (0, .ref (a 0)), (3, .int l3)]) hx hb dL_told_112 rfl hl (by decide) rfl (fun ls hl => ?_)
        refine lv_ldc2 (v := (31 : Int64)) hx hb hown hw1 dL_told_113 ?_
        refine lv_ldc2 (v := (31 : Int64)) hx hb hown hw1 dL_told_116 ?_
        refine lv_lload_n hx hb dL_told_119 rfl (lv_at hl 0 rfl) ?_
        refine lv_lmul hx hb dL_told_120 ?_
        refine lv_aload_n hx hb dL_told_121 rfl (lv_at hl 1 rfl) ?_
        refine lv_iload_n hx hb dL_told_122 rfl (lv_at hl 2 rfl) ?_
        obtain ⟨r123, hc123, hf⟩ := bi_s hf
        rcases r123 with E9 | r123
        · exact absurd hf (fun h => nomatch h)
        have hf := sel_r hf
        refine cRO (W.runV (As := [.int l3]) (rest := [.long ((31 : Int64) * (((31 : Int64) * (((31 : Int64) * (((31 : Int64) * l1) + (r91.toInt64))) + (r99.toInt64))) + (r107.toInt64))), .long (31 : Int64)]) ⟨hx, hb, hml, hown, hts⟩ (n_X8_isAtWindow l dC dI cI cZ cS f g a M l3 r123 hc123) (cwV 1 hts gL_told_X8_isAtWindow rfl rfl rfl (by decide +kernel) ⟨Nat.le_of_ble_eq_true rfl, Nat.le_of_ble_eq_true rfl⟩) ⟨RO8.blind, va_recv hK hP (ci := 8) (q0 := 0) rfl rfl, RO8.pre hP hK hNW⟩ rfl rfl hl.1 rfl (lv_room (Nat.le_of_ble_eq_true rfl)) dL_told_123 ⟨Nat.le_of_ble_eq_true rfl, Nat.le_of_ble_eq_true rfl⟩) ?_
        refine lv_if_eq (tgt := 133) hx hb dL_told_126 (by decide) (fun c9 => ?_) (fun c9 => ?_)
        · have hf := it_t hf c9
          refine lv_iconst (v := (0 : Int32)) hx hb dL_told_133 (by decide) ?_
          exact hfL_told_B134 _ (ih kx151 hkx151) _ hkx151 l3 (31 : Int64) ((31 : Int64) * (((31 : Int64) * (((31 : Int64) * (((31 : Int64) * l1) + (r91.toInt64))) + (r99.toInt64))) + (r107.toInt64))) (0 : Int32) hf _ (lv_sub hl [1, 2] rfl)
        · have hf := it_f hf c9
          refine lv_iconst (v := (1 : Int32)) hx hb dL_told_129 (by decide) ?_
          refine lv_goto (tgt := 134) hx hb dL_told_130 (by decide) ?_
          exact hfL_told_B134 _ (ih kx151 hkx151) _ hkx151 l3 (31 : Int64) ((31 : Int64) * (((31 : Int64) * (((31 : Int64) * (((31 : Int64) * l1) + (r91.toInt64))) + (r99.toInt64))) + (r107.toInt64))) (1 : Int32) hf _ (lv_sub hl [1, 2] rfl)
  have hfL_told_L153 : ∀ (n : Nat) (kx200 : Int64 → Option (Int64)) (hkx200 : ∀ (l1 : Int64), kx200 l1 = some z → ∀ (ls : Array Slot), lv_has ls 4 [(0, .ref (a 0)), (1, .long l1)] → W p l e (headSpec wsL_told ({ frames := 3, cells := 0, slots := 0, locals := 66 } : Room)).room s m ([.ref (a 0)] : List Value).toArray below meth c s.heap [] 0 0 (MQ below (k2_QcV (.long z)) ([.ref (a 0)] : List Value).toArray s 0 0 (fun _ => False)) (F0 m 200 ls [])), ∀ (l1 : Int64) (l3 : Int32), fL_told_L153 M n kx200 l1 l3 = some z → ∀ (ls : Array Slot), lv_has ls 4 [(0, .ref (a 0)), (1, .long l1), (3, .int l3)] → W p l e (headSpec wsL_told ({ frames := 3, cells := 0, slots := 0, locals := 66 } : Room)).room s m ([.ref (a 0)] : List Value).toArray below meth c s.heap [] 0 0 (MQ below (k2_QcV (.long z)) ([.ref (a 0)] : List Value).toArray s 0 0 (fun _ => False)) (F0 m 153 ls []) := by
    intro n
    induction n with
    | zero =>
      intro kx200 hkx200 l1 l3 hf ls hl
      rw [fL_told_L153] at hf
      cases hf
    | succ n ih =>
      intro kx200 hkx200 l1 l3 hf ls hl
      rw [fL_told_L153] at hf
      refine lv_iload_n hx hb dL_told_153 rfl (lv_at hl 2 rfl) ?_
      refine lv_bipush (v := (10 : Int32)) hx hb dL_told_154 (by decide) ?_
      refine lv_icmp_ge (tgt := 200) hx hb dL_told_156 (by decide) (fun c9 => ?_) (fun c9 => ?_)
      · have hf := it_t hf c9
        exact hkx200 l1 hf _ (lv_sub hl [0, 1] rfl)
      · have hf := it_f hf c9
        refine lv_ldc2 (v := (31 : Int64)) hx hb hown hw1 dL_told_159 ?_
        refine lv_ldc2 (v := (31 : Int64)) hx hb hown hw1 dL_told_162 ?_
        refine lv_ldc2 (v := (31 : Int64)) hx hb hown hw1 dL_told_165 ?_
        refine lv_lload_n hx hb dL_told_168 rfl (lv_at hl 1 rfl) ?_
        refine lv_lmul hx hb dL_told_169 ?_
        refine lv_aload_n hx hb dL_told_170 rfl (lv_at hl 0 rfl) ?_
        refine lv_iload_n hx hb dL_told_171 rfl (lv_at hl 2 rfl) ?_
        obtain ⟨r172, hc172, hf⟩ := bi_s hf
        rcases r172 with E9 | r172
        · exact absurd hf (fun h => nomatch h)
        have hf := sel_r hf
        refine cRO (W.runV (As := [.int l3]) (rest := [.long ((31 : Int64) * l1), .long (31 : Int64), .long (31 : Int64)]) ⟨hx, hb, hml, hown, hts⟩ (n_X8_stockByAccount l dC dI cI cZ cS f g a M l3 r172 hc172) (cwV 1 hts gL_told_X8_stockByAccount rfl rfl rfl (by decide +kernel) ⟨Nat.le_of_ble_eq_true rfl, Nat.le_of_ble_eq_true rfl⟩) ⟨RO8.blind, va_recv hK hP (ci := 8) (q0 := 0) rfl rfl, RO8.pre hP hK hNW⟩ rfl rfl hl.1 rfl (lv_room (Nat.le_of_ble_eq_true rfl)) dL_told_172 ⟨Nat.le_of_ble_eq_true rfl, Nat.le_of_ble_eq_true rfl⟩) ?_
        refine lv_i2l (v := r172.toInt64) hx hb dL_told_175 rfl ?_
        refine lv_ladd hx hb dL_told_176 ?_
        refine lv_lmul hx hb dL_told_177 ?_
        refine lv_aload_n hx hb dL_told_178 rfl (lv_at hl 0 rfl) ?_
        refine lv_iload_n hx hb dL_told_179 rfl (lv_at hl 2 rfl) ?_
        obtain ⟨r180, hc180, hf⟩ := bi_s hf
        rcases r180 with E9 | r180
        · exact absurd hf (fun h => nomatch h)
        have hf := sel_r hf
        refine cRO (W.runV (As := [.int l3]) (rest := [.long ((31 : Int64) * (((31 : Int64) * l1) + (r172.toInt64))), .long (31 : Int64)]) ⟨hx, hb, hml, hown, hts⟩ (n_X8_weightOfKind l dC dI cI cZ cS f g a M l3 r180 hc180) (cwV 1 hts gL_told_X8_weightOfKind rfl rfl rfl (by decide +kernel) ⟨Nat.le_of_ble_eq_true rfl, Nat.le_of_ble_eq_true rfl⟩) ⟨RO8.blind, va_recv hK hP (ci := 8) (q0 := 0) rfl rfl, RO8.pre hP hK hNW⟩ rfl rfl hl.1 rfl (lv_room (Nat.le_of_ble_eq_true rfl)) dL_told_180 ⟨Nat.le_of_ble_eq_true rfl, Nat.le_of_ble_eq_true rfl⟩) ?_
        refine lv_i2l (v := r180.toInt64) hx hb dL_told_183 rfl ?_
        refine lv_ladd hx hb dL_told_184 ?_
        refine lv_lmul hx hb dL_told_185 ?_
        refine lv_aload_n hx hb dL_told_186 rfl (lv_at hl 0 rfl) ?_
        refine lv_iload_n hx hb dL_told_187 rfl (lv_at hl 2 rfl) ?_
        obtain ⟨r188, hc188, hf⟩ := bi_s hf
        rcases r188 with E9 | r188
        · exact absurd hf (fun h => nomatch h)
        have hf := sel_r hf
        refine cRO (W.runV (As := [.int l3]) (rest := [.long ((31 : Int64) * (((31 : Int64) * (((31 : Int64) * l1) + (r172.toInt64))) + (r180.toInt64)))]) ⟨hx, hb, hml, hown, hts⟩ (n_X8_leastOf l dC dI cI cZ cS f g a M l3 r188 hc188) (cwV 1 hts gL_told_X8_leastOf rfl rfl rfl (by decide +kernel) ⟨Nat.le_of_ble_eq_true rfl, Nat.le_of_ble_eq_true rfl⟩) ⟨RO8.blind, va_recv hK hP (ci := 8) (q0 := 0) rfl rfl, RO8.pre hP hK hNW⟩ rfl rfl hl.1 rfl (lv_room (Nat.le_of_ble_eq_true rfl)) dL_told_188 ⟨Nat.le_of_ble_eq_true rfl, Nat.le_of_ble_eq_true rfl⟩) ?_
        refine lv_i2l (v := r188.toInt64) hx hb dL_told_191 rfl ?_
        refine lv_ladd hx hb dL_told_192 ?_
        refine lv_lstore_n (lv' := [(1, .long (((31 : Int64) * (((31 : Int64) * (((31 : Int64) * l1) + (r172.toInt64))) + (r180.toInt64))) + (r188.toInt64))), (0, .ref (a 0)), (3, .int l3)]) hx hb dL_told_193 rfl hl (by decide) rfl (fun ls hl => ?_)
        refine lv_iinc (v := (l3 + (1 : Int32))) (lv' := [(3, .int (l3 + (1 : Int32))), (1, .long (((31 : Int64) * (((31 : Int64) * (((31 : Int64) * l1) + (r172.toInt64))) + (r180.toInt64))) + (r188.toInt64))), (0, .ref (a 0))]) hx hb dL_told_194 hl (k := 2) rfl rfl (by decide) rfl (fun ls hl => ?_)
        refine lv_goto (tgt := 153) hx hb dL_told_197 (by decide) ?_
        exact ih kx200 hkx200 (((31 : Int64) * (((31 : Int64) * (((31 : Int64) * l1) + (r172.toInt64))) + (r180.toInt64))) + (r188.toInt64)) (l3 + (1 : Int32)) hf _ (lv_sub hl [2, 1, 0] rfl)
  have hfL_told_L202 : ∀ (n : Nat) (kx229 : Int64 → Option (Int64)) (hkx229 : ∀ (l1 : Int64), kx229 l1 = some z → ∀ (ls : Array Slot), lv_has ls 4 [(0, .ref (a 0)), (1, .long l1)] → W p l e (headSpec wsL_told ({ frames := 3, cells := 0, slots := 0, locals := 66 } : Room)).room s m ([.ref (a 0)] : List Value).toArray below meth c s.heap [] 0 0 (MQ below (k2_QcV (.long z)) ([.ref (a 0)] : List Value).toArray s 0 0 (fun _ => False)) (F0 m 229 ls [])), ∀ (l1 : Int64) (l3 : Int32), fL_told_L202 M n kx229 l1 l3 = some z → ∀ (ls : Array Slot), lv_has ls 4 [(0, .ref (a 0)), (1, .long l1), (3, .int l3)] → W p l e (headSpec wsL_told ({ frames := 3, cells := 0, slots := 0, locals := 66 } : Room)).room s m ([.ref (a 0)] : List Value).toArray below meth c s.heap [] 0 0 (MQ below (k2_QcV (.long z)) ([.ref (a 0)] : List Value).toArray s 0 0 (fun _ => False)) (F0 m 202 ls []) := by
    intro n
    induction n with
    | zero =>
      intro kx229 hkx229 l1 l3 hf ls hl
      rw [fL_told_L202] at hf
      cases hf
    | succ n ih =>
      intro kx229 hkx229 l1 l3 hf ls hl
      rw [fL_told_L202] at hf
      refine lv_iload_n hx hb dL_told_202 rfl (lv_at hl 2 rfl) ?_
      refine lv_aload_n hx hb dL_told_203 rfl (lv_at hl 0 rfl) ?_
      obtain ⟨r204, hc204, hf⟩ := bi_s hf
      have hPc := hP
      refine cRO (W.runV (As := []) (rest := [.int l3]) ⟨hx, hb, hml, hown, hts⟩ (c_X8_orders l dC dI cI cZ cS f g a M r204 hc204) (cwV 0 hts gL_told_X8_orders rfl rfl rfl (by decide +kernel) ⟨Nat.le_of_ble_eq_true rfl, Nat.le_of_ble_eq_true rfl⟩) ⟨RO8.blind, va_recv hK hP (ci := 8) (q0 := 0) rfl rfl, RO8.pre hPc hK hNW⟩ rfl rfl hl.1 rfl (lv_room (Nat.le_of_ble_eq_true rfl)) dL_told_204 ⟨Nat.le_of_ble_eq_true rfl, Nat.le_of_ble_eq_true rfl⟩) ?_
      refine lv_icmp_ge (tgt := 229) hx hb dL_told_207 (by decide) (fun c9 => ?_) (fun c9 => ?_)
      · have hf := it_t hf c9
        exact hkx229 l1 hf _ (lv_sub hl [0, 1] rfl)
      · have hf := it_f hf c9
        refine lv_ldc2 (v := (31 : Int64)) hx hb hown hw1 dL_told_210 ?_
        refine lv_lload_n hx hb dL_told_213 rfl (lv_at hl 1 rfl) ?_
        refine lv_lmul hx hb dL_told_214 ?_
        refine lv_aload_n hx hb dL_told_215 rfl (lv_at hl 0 rfl) ?_
        refine lv_iload_n hx hb dL_told_216 rfl (lv_at hl 2 rfl) ?_
        obtain ⟨r217, hc217, hf⟩ := bi_s hf
        rcases r217 with E9 | r217
        · exact absurd hf (fun h => nomatch h)
        have hf := sel_r hf
        refine cRO (W.runV (As := [.int l3]) (rest := [.long ((31 : Int64) * l1)]) ⟨hx, hb, hml, hown, hts⟩ (n_X8_thingsOf l dC dI cI cZ cS f g a M l3 r217 hc217) (cwV 1 hts gL_told_X8_thingsOf rfl rfl rfl (by decide +kernel) ⟨Nat.le_of_ble_eq_true rfl, Nat.le_of_ble_eq_true rfl⟩) ⟨RO8.blind, va_recv hK hP (ci := 8) (q0 := 0) rfl rfl, RO8.pre hP hK hNW⟩ rfl rfl hl.1 rfl (lv_room (Nat.le_of_ble_eq_true rfl)) dL_told_217 ⟨Nat.le_of_ble_eq_true rfl, Nat.le_of_ble_eq_true rfl⟩) ?_
        refine lv_i2l (v := r217.toInt64) hx hb dL_told_220 rfl ?_
        refine lv_ladd hx hb dL_told_221 ?_
        refine lv_lstore_n (lv' := [(1, .long (((31 : Int64) * l1) + (r217.toInt64))), (0, .ref (a 0)), (3, .int l3)]) hx hb dL_told_222 rfl hl (by decide) rfl (fun ls hl => ?_)
        refine lv_iinc (v := (l3 + (1 : Int32))) (lv' := [(3, .int (l3 + (1 : Int32))), (1, .long (((31 : Int64) * l1) + (r217.toInt64))), (0, .ref (a 0))]) hx hb dL_told_223 hl (k := 2) rfl rfl (by decide) rfl (fun ls hl => ?_)
        refine lv_goto (tgt := 202) hx hb dL_told_226 (by decide) ?_
        exact ih kx229 hkx229 (((31 : Int64) * l1) + (r217.toInt64)) (l3 + (1 : Int32)) hf _ (lv_sub hl [2, 1, 0] rfl)
  have hfL_told_B268 : ∀ (kb : Int64 → Int32 → Option (Int64)) (hkb : ∀ (l1 : Int64) (l3 : Int32), kb l1 l3 = some z → ∀ (ls : Array Slot), lv_has ls 4 [(0, .ref (a 0)), (1, .long l1), (3, .int l3)] → W p l e (headSpec wsL_told ({ frames := 3, cells := 0, slots := 0, locals := 66 } : Room)).room s m ([.ref (a 0)] : List Value).toArray below meth c s.heap [] 0 0 (MQ below (k2_QcV (.long z)) ([.ref (a 0)] : List Value).toArray s 0 0 (fun _ => False)) (F0 m 231 ls [])) (kx277 : Int64 → Option (Int64)) (hkx277 : ∀ (l1 : Int64), kx277 l1 = some z → ∀ (ls : Array Slot), lv_has ls 4 [(0, .ref (a 0)), (1, .long l1)] → W p l e (headSpec wsL_told ({ frames := 3, cells := 0, slots := 0, locals := 66 } : Room)).room s m ([.ref (a 0)] : List Value).toArray below meth c s.heap [] 0 0 (MQ below (k2_QcV (.long z)) ([.ref (a 0)] : List Value).toArray s 0 0 (fun _ => False)) (F0 m 277 ls [])), ∀ (l3 : Int32) (s0 : Int64) (s1 : Int32), fL_told_B268 M kb kx277 l3 s0 s1 = some z → ∀ (ls : Array Slot), lv_has ls 4 [(0, .ref (a 0)), (3, .int l3)] → W p l e (headSpec wsL_told ({ frames := 3, cells := 0, slots := 0, locals := 66 } : Room)).room s m ([.ref (a 0)] : List Value).toArray below meth c s.heap [] 0 0 (MQ below (k2_QcV (.long z)) ([.ref (a 0)] : List Value).toArray s 0 0 (fun _ => False)) (F0 m 268 ls [.int s1, .long s0]) := by
    intro kb hkb kx277 hkx277 l3 s0 s1 hf ls hl
    unfold fL_told_B268 at hf
    refine lv_i2l (v := s1.toInt64) hx hb dL_told_268 rfl ?_
    refine lv_ladd hx hb dL_told_269 ?_
    refine lv_lstore_n (lv' := [(1, .long (s0 + (s1.toInt64))), (0, .ref (a 0)), (3, .int l3)]) hx hb dL_told_270 rfl hl (by decide) rfl (fun ls hl => ?_)
    refine lv_iinc (v := (l3 + (1 : Int32))) (lv' := [(3, .int (l3 + (1 : Int32))), (1, .long (s0 + (s1.toInt64))), (0, .ref (a 0))]) hx hb dL_told_271 hl (k := 2) rfl rfl (by decide) rfl (fun ls hl => ?_)
    refine lv_goto (tgt := 231) hx hb dL_told_274 (by decide) ?_
    exact hkb (s0 + (s1.toInt64)) (l3 + (1 : Int32)) hf _ (lv_sub hl [2, 1, 0] rfl)
  have hfL_told_L231 : ∀ (n : Nat) (kx277 : Int64 → Option (Int64)) (hkx277 : ∀ (l1 : Int64), kx277 l1 = some z → ∀ (ls : Array Slot), lv_has ls 4 [(0, .ref (a 0)), (1, .long l1)] → W p l e (headSpec wsL_told ({ frames := 3, cells := 0, slots := 0, locals := 66 } : Room)).room s m ([.ref (a 0)] : List Value).toArray below meth c s.heap [] 0 0 (MQ below (k2_QcV (.long z)) ([.ref (a 0)] : List Value).toArray s 0 0 (fun _ => False)) (F0 m 277 ls [])), ∀ (l1 : Int64) (l3 : Int32), fL_told_L231 M n kx277 l1 l3 = some z → ∀ (ls : Array Slot), lv_has ls 4 [(0, .ref (a 0)), (1, .long l1), (3, .int l3)] → W p l e (headSpec wsL_told ({ frames := 3, cells := 0, slots := 0, locals := 66 } : Room)).room s m ([.ref (a 0)] : List Value).toArray below meth c s.heap [] 0 0 (MQ below (k2_QcV (.long z)) ([.ref (a 0)] : List Value).toArray s 0 0 (fun _ => False)) (F0 m 231 ls []) := by
    intro n
    induction n with
    | zero =>
      intro kx277 hkx277 l1 l3 hf ls hl
      rw [fL_told_L231] at hf
      cases hf
    | succ n ih =>
      intro kx277 hkx277 l1 l3 hf ls hl
      rw [fL_told_L231] at hf
      refine lv_iload_n hx hb dL_told_231 rfl (lv_at hl 2 rfl) ?_
      refine lv_aload_n hx hb dL_told_232 rfl (lv_at hl 0 rfl) ?_
      obtain ⟨r233, hc233, hf⟩ := bi_s hf
      have hPc := hP
      refine cRO (W.runV (As := []) (rest := [.int l3]) ⟨hx, hb, hml, hown, hts⟩ (c_X8_trips l dC dI cI cZ cS f g a M r233 hc233) (cwV 0 hts gL_told_X8_trips rfl rfl rfl (by decide +kernel) ⟨Nat.le_of_ble_eq_true rfl, Nat.le_of_ble_eq_true rfl⟩) ⟨RO8.blind, va_recv hK hP (ci := 8) (q0 := 0) rfl rfl, RO8.pre hPc hK hNW⟩ rfl rfl hl.1 rfl (lv_room (Nat.le_of_ble_eq_true rfl)) dL_told_233 ⟨Nat.le_of_ble_eq_true rfl, Nat.le_of_ble_eq_true rfl⟩) ?_
      refine lv_icmp_ge (tgt := 277) hx hb dL_told_236 (by decide) (fun c9 => ?_) (fun c9 => ?_)
      · have hf := it_t hf c9
        exact hkx277 l1 hf _ (lv_sub hl [0, 1] rfl)
      · have hf := it_f hf c9
        refine lv_ldc2 (v := (31 : Int64)) hx hb hown hw1 dL_told_239 ?_
        refine lv_ldc2 (v := (31 : Int64)) hx hb hown hw1 dL_told_242 ?_
        refine lv_lload_n hx hb dL_told_245 rfl (lv_at hl 1 rfl) ?_
        refine lv_lmul hx hb dL_told_246 ?_
        refine lv_aload_n hx hb dL_told_247 rfl (lv_at hl 0 rfl) ?_
        refine lv_iload_n hx hb dL_told_248 rfl (lv_at hl 2 rfl) ?_
        obtain ⟨r249, hc249, hf⟩ := bi_s hf
        rcases r249 with E9 | r249
        · exact absurd hf (fun h => nomatch h)
        have hf := sel_r hf
        refine cRO (W.runV (As := [.int l3]) (rest := [.long ((31 : Int64) * l1), .long (31 : Int64)]) ⟨hx, hb, hml, hown, hts⟩ (n_X8_tripTicks l dC dI cI cZ cS f g a M l3 r249 hc249) (cwV 1 hts gL_told_X8_tripTicks rfl rfl rfl (by decide +kernel) ⟨Nat.le_of_ble_eq_true rfl, Nat.le_of_ble_eq_true rfl⟩) ⟨RO8.blind, va_recv hK hP (ci := 8) (q0 := 0) rfl rfl, RO8.pre hP hK hNW⟩ rfl rfl hl.1 rfl (lv_room (Nat.le_of_ble_eq_true rfl)) dL_told_249 ⟨Nat.le_of_ble_eq_true rfl, Nat.le_of_ble_eq_true rfl⟩) ?_
        refine lv_i2l (v := r249.toInt64) hx hb dL_told_252 rfl ?_
        refine lv_ladd hx hb dL_told_253 ?_
        refine lv_lmul hx hb dL_told_254 ?_
        refine lv_aload_n hx hb dL_told_255 rfl (lv_at hl 0 rfl) ?_
        refine lv_iload_n hx hb dL_told_256 rfl (lv_at hl 2 rfl) ?_
        obtain ⟨r257, hc257, hf⟩ := bi_s hf
        rcases r257 with E9 | r257
        · exact absurd hf (fun h => nomatch h)
        have hf := sel_r hf
        refine cRO (W.runV (As := [.int l3]) (rest := [.long ((31 : Int64) * (((31 : Int64) * l1) + (r249.toInt64)))]) ⟨hx, hb, hml, hown, hts⟩ (n_X8_wasFetch l dC dI cI cZ cS f g a M l3 r257 hc257) (cwV 1 hts gL_told_X8_wasFetch rfl rfl rfl (by decide +kernel) ⟨Nat.le_of_ble_eq_true rfl, Nat.le_of_ble_eq_true rfl⟩) ⟨RO8.blind, va_recv hK hP (ci := 8) (q0 := 0) rfl rfl, RO8.pre hP hK hNW⟩ rfl rfl hl.1 rfl (lv_room (Nat.le_of_ble_eq_true rfl)) dL_told_257 ⟨Nat.le_of_ble_eq_true rfl, Nat.le_of_ble_eq_true rfl⟩) ?_
        refine lv_if_eq (tgt := 267) hx hb dL_told_260 (by decide) (fun c9 => ?_) (fun c9 => ?_)
        · have hf := it_t hf c9
          refine lv_iconst (v := (0 : Int32)) hx hb dL_told_267 (by decide) ?_
          exact hfL_told_B268 _ (ih kx277 hkx277) _ hkx277 l3 ((31 : Int64) * (((31 : Int64) * l1) + (r249.toInt64))) (0 : Int32) hf _ (lv_sub hl [0, 2] rfl)
        · have hf := it_f hf c9
          refine lv_iconst (v := (1 : Int32)) hx hb dL_told_263 (by decide) ?_
          refine lv_goto (tgt := 268) hx hb dL_told_264 (by decide) ?_
          exact hfL_told_B268 _ (ih kx277 hkx277) _ hkx277 l3 ((31 : Int64) * (((31 : Int64) * l1) + (r249.toInt64))) (1 : Int32) hf _ (lv_sub hl [0, 2] rfl)
  have hfL_told_B294 : ∀ (s0 : Int64) (s1 : Int32), fL_told_B294 M  s0 s1 = some z → ∀ (ls : Array Slot), lv_has ls 4 [] → W p l e (headSpec wsL_told ({ frames := 3, cells := 0, slots := 0, locals := 66 } : Room)).room s m ([.ref (a 0)] : List Value).toArray below meth c s.heap [] 0 0 (MQ below (k2_QcV (.long z)) ([.ref (a 0)] : List Value).toArray s 0 0 (fun _ => False)) (F0 m 294 ls [.int s1, .long s0]) := by
    intro  s0 s1 hf ls hl
    unfold fL_told_B294 at hf
    refine lv_i2l (v := s1.toInt64) hx hb dL_told_294 rfl ?_
    refine lv_ladd hx hb dL_told_295 ?_
    exact W.lret (v := (s0 + (s1.toInt64))) hx hb hr (fun t ht hW => ⟨congrArg (fun x => Outcome.returned (some (Value.long x))) (so_e hf), ht⟩) fl0 dL_told_296
  have hl := lv_entry ([.ref (a 0)]) (n := 4) (Nat.le_of_ble_eq_true rfl)
  rw [lg_entry_eq]
  generalize (lg_sl ([.ref (a 0)]) ++ List.replicate (4 - (lg_sl ([.ref (a 0)])).length) Slot.unset).toArray = ls at hl ⊢
  have hl : lv_has ls 4 [(0, .ref (a 0))] := hl
  unfold fL_told at hf
  refine lv_ldc2 (v := (3 : Int64)) hx hb hown hw0 dL_told_0 ?_
  refine lv_lstore_n (lv' := [(1, .long (3 : Int64)), (0, .ref (a 0))]) hx hb dL_told_3 rfl hl (by decide) rfl (fun ls hl => ?_)
  refine lv_ldc2 (v := (31 : Int64)) hx hb hown hw1 dL_told_4 ?_
  refine lv_ldc2 (v := (31 : Int64)) hx hb hown hw1 dL_told_7 ?_
  refine lv_ldc2 (v := (31 : Int64)) hx hb hown hw1 dL_told_10 ?_
  refine lv_lload_n hx hb dL_told_13 rfl (lv_at hl 0 rfl) ?_
  refine lv_lmul hx hb dL_told_14 ?_
  refine lv_aload_n hx hb dL_told_15 rfl (lv_at hl 1 rfl) ?_
  obtain ⟨r16, hc16, hf⟩ := bi_s hf
  have hPc := hP
  refine cRO (W.runV (As := []) (rest := [.long ((31 : Int64) * (3 : Int64)), .long (31 : Int64), .long (31 : Int64)]) ⟨hx, hb, hml, hown, hts⟩ (c_X8_shelves l dC dI cI cZ cS f g a M r16 hc16) (cwV 0 hts gL_told_X8_shelves rfl rfl rfl (by decide +kernel) ⟨Nat.le_of_ble_eq_true rfl, Nat.le_of_ble_eq_true rfl⟩) ⟨RO8.blind, va_recv hK hP (ci := 8) (q0 := 0) rfl rfl, RO8.pre hPc hK hNW⟩ rfl rfl hl.1 rfl (lv_room (Nat.le_of_ble_eq_true rfl)) dL_told_16 ⟨Nat.le_of_ble_eq_true rfl, Nat.le_of_ble_eq_true rfl⟩) ?_
  refine lv_i2l (v := r16.toInt64) hx hb dL_told_19 rfl ?_
  refine lv_ladd hx hb dL_told_20 ?_
  refine lv_lmul hx hb dL_told_21 ?_
  refine lv_aload_n hx hb dL_told_22 rfl (lv_at hl 1 rfl) ?_
  obtain ⟨r23, hc23, hf⟩ := bi_s hf
  have hPc := hP
  refine cRO (W.runV (As := []) (rest := [.long ((31 : Int64) * (((31 : Int64) * (3 : Int64)) + (r16.toInt64))), .long (31 : Int64)]) ⟨hx, hb, hml, hown, hts⟩ (c_X8_lift l dC dI cI cZ cS f g a M r23 hc23) (cwV 0 hts gL_told_X8_lift rfl rfl rfl (by decide +kernel) ⟨Nat.le_of_ble_eq_true rfl, Nat.le_of_ble_eq_true rfl⟩) ⟨RO8.blind, va_recv hK hP (ci := 8) (q0 := 0) rfl rfl, RO8.pre hPc hK hNW⟩ rfl rfl hl.1 rfl (lv_room (Nat.le_of_ble_eq_true rfl)) dL_told_23 ⟨Nat.le_of_ble_eq_true rfl, Nat.le_of_ble_eq_true rfl⟩) ?_
  refine lv_i2l (v := r23.toInt64) hx hb dL_told_26 rfl ?_
  refine lv_ladd hx hb dL_told_27 ?_
  refine lv_lmul hx hb dL_told_28 ?_
  refine lv_aload_n hx hb dL_told_29 rfl (lv_at hl 1 rfl) ?_
  obtain ⟨r30, hc30, hf⟩ := bi_s hf
  have hPc := hP
  refine cRO (W.runV (As := []) (rest := [.long ((31 : Int64) * (((31 : Int64) * (((31 : Int64) * (3 : Int64)) + (r16.toInt64))) + (r23.toInt64)))]) ⟨hx, hb, hml, hown, hts⟩ (c_X8_ticks l dC dI cI cZ cS f g a M r30 hc30) (cwV 0 hts gL_told_X8_ticks rfl rfl rfl (by decide +kernel) ⟨Nat.le_of_ble_eq_true rfl, Nat.le_of_ble_eq_true rfl⟩) ⟨RO8.blind, va_recv hK hP (ci := 8) (q0 := 0) rfl rfl, RO8.pre hPc hK hNW⟩ rfl rfl hl.1 rfl (lv_room (Nat.le_of_ble_eq_true rfl)) dL_told_30 ⟨Nat.le_of_ble_eq_true rfl, Nat.le_of_ble_eq_true rfl⟩) ?_
  refine lv_i2l (v := r30.toInt64) hx hb dL_told_33 rfl ?_
  refine lv_ladd hx hb dL_told_34 ?_
  refine lv_lstore_n (lv' := [(1, .long (((31 : Int64) * (((31 : Int64) * (((31 : Int64) * (3 : Int64)) + (r16.toInt64))) + (r23.toInt64))) + (r30.toInt64))), (0, .ref (a 0))]) hx hb dL_told_35 rfl hl (by decide) rfl (fun ls hl => ?_)
  refine lv_ldc2 (v := (31 : Int64)) hx hb hown hw1 dL_told_36 ?_
  refine lv_ldc2 (v := (31 : Int64)) hx hb hown hw1 dL_told_39 ?_
  refine lv_ldc2 (v := (31 : Int64)) hx hb hown hw1 dL_told_42 ?_
  refine lv_lload_n hx hb dL_told_45 rfl (lv_at hl 0 rfl) ?_
  refine lv_lmul hx hb dL_told_46 ?_
  refine lv_aload_n hx hb dL_told_47 rfl (lv_at hl 1 rfl) ?_
  obtain ⟨r48, hc48, hf⟩ := bi_s hf
  have hPc := hP
  refine cRO (W.runV (As := []) (rest := [.long ((31 : Int64) * (((31 : Int64) * (((31 : Int64) * (((31 : Int64) * (3 : Int64)) + (r16.toInt64))) + (r23.toInt64))) + (r30.toInt64))), .long (31 : Int64), .long (31 : Int64)]) ⟨hx, hb, hml, hown, hts⟩ (c_X8_fetches l dC dI cI cZ cS f g a M r48 hc48) (cwV 0 hts gL_told_X8_fetches rfl rfl rfl (by decide +kernel) ⟨Nat.le_of_ble_eq_true rfl, Nat.le_of_ble_eq_true rfl⟩) ⟨RO8.blind, va_recv hK hP (ci := 8) (q0 := 0) rfl rfl, RO8.pre hPc hK hNW⟩ rfl rfl hl.1 rfl (lv_room (Nat.le_of_ble_eq_true rfl)) dL_told_48 ⟨Nat.le_of_ble_eq_true rfl, Nat.le_of_ble_eq_true rfl⟩) ?_
  refine lv_i2l (v := r48.toInt64) hx hb dL_told_51 rfl ?_
  refine lv_ladd hx hb dL_told_52 ?_
  refine lv_lmul hx hb dL_told_53 ?_
  refine lv_aload_n hx hb dL_told_54 rfl (lv_at hl 1 rfl) ?_
  obtain ⟨r55, hc55, hf⟩ := bi_s hf
  have hPc := hP
  refine cRO (W.runV (As := []) (rest := [.long ((31 : Int64) * (((31 : Int64) * (((31 : Int64) * (((31 : Int64) * (((31 : Int64) * (3 : Int64)) + (r16.toInt64))) + (r23.toInt64))) + (r30.toInt64))) + (r48.toInt64))), .long (31 : Int64)]) ⟨hx, hb, hml, hown, hts⟩ (c_X8_served l dC dI cI cZ cS f g a M r55 hc55) (cwV 0 hts gL_told_X8_served rfl rfl rfl (by decide +kernel) ⟨Nat.le_of_ble_eq_true rfl, Nat.le_of_ble_eq_true rfl⟩) ⟨RO8.blind, va_recv hK hP (ci := 8) (q0 := 0) rfl rfl, RO8.pre hPc hK hNW⟩ rfl rfl hl.1 rfl (lv_room (Nat.le_of_ble_eq_true rfl)) dL_told_55 ⟨Nat.le_of_ble_eq_true rfl, Nat.le_of_ble_eq_true rfl⟩) ?_
  refine lv_i2l (v := r55.toInt64) hx hb dL_told_58 rfl ?_
  refine lv_ladd hx hb dL_told_59 ?_
  refine lv_lmul hx hb dL_told_60 ?_
  refine lv_aload_n hx hb dL_told_61 rfl (lv_at hl 1 rfl) ?_
  obtain ⟨r62, hc62, hf⟩ := bi_s hf
  have hPc := hP
  refine cRO (W.runV (As := []) (rest := [.long ((31 : Int64) * (((31 : Int64) * (((31 : Int64) * (((31 : Int64) * (((31 : Int64) * (((31 : Int64) * (3 : Int64)) + (r16.toInt64))) + (r23.toInt64))) + (r30.toInt64))) + (r48.toInt64))) + (r55.toInt64)))]) ⟨hx, hb, hml, hown, hts⟩ (c_X8_orders l dC dI cI cZ cS f g a M r62 hc62) (cwV 0 hts gL_told_X8_orders rfl rfl rfl (by decide +kernel) ⟨Nat.le_of_ble_eq_true rfl, Nat.le_of_ble_eq_true rfl⟩) ⟨RO8.blind, va_recv hK hP (ci := 8) (q0 := 0) rfl rfl, RO8.pre hPc hK hNW⟩ rfl rfl hl.1 rfl (lv_room (Nat.le_of_ble_eq_true rfl)) dL_told_62 ⟨Nat.le_of_ble_eq_true rfl, Nat.le_of_ble_eq_true rfl⟩) ?_
  refine lv_i2l (v := r62.toInt64) hx hb dL_told_65 rfl ?_
  refine lv_ladd hx hb dL_told_66 ?_
  refine lv_lstore_n (lv' := [(1, .long (((31 : Int64) * (((31 : Int64) * (((31 : Int64) * (((31 : Int64) * (((31 : Int64) * (((31 : Int64) * (3 : Int64)) + (r16.toInt64))) + (r23.toInt64))) + (r30.toInt64))) + (r48.toInt64))) + (r55.toInt64))) + (r62.toInt64))), (0, .ref (a 0))]) hx hb dL_told_67 rfl hl (by decide) rfl (fun ls hl => ?_)
  refine lv_iconst (v := (0 : Int32)) hx hb dL_told_68 (by decide) ?_
  refine lv_istore_n (lv' := [(3, .int (0 : Int32)), (1, .long (((31 : Int64) * (((31 : Int64) * (((31 : Int64) * (((31 : Int64) * (((31 : Int64) * (((31 : Int64) * (3 : Int64)) + (r16.toInt64))) + (r23.toInt64))) + (r30.toInt64))) + (r48.toInt64))) + (r55.toInt64))) + (r62.toInt64))), (0, .ref (a 0))]) hx hb dL_told_69 rfl hl (by decide) rfl (fun ls hl => ?_)
  refine hfL_told_L70 5000 _ (fun l1 hf ls hl => ?_) (((31 : Int64) * (((31 : Int64) * (((31 : Int64) * (((31 : Int64) * (((31 : Int64) * (((31 : Int64) * (3 : Int64)) + (r16.toInt64))) + (r23.toInt64))) + (r30.toInt64))) + (r48.toInt64))) + (r55.toInt64))) + (r62.toInt64)) (0 : Int32) hf _ (lv_sub hl [2, 1, 0] rfl)
  refine lv_iconst (v := (0 : Int32)) hx hb dL_told_151 (by decide) ?_
  refine lv_istore_n (lv' := [(3, .int (0 : Int32)), (0, .ref (a 0)), (1, .long l1)]) hx hb dL_told_152 rfl hl (by decide) rfl (fun ls hl => ?_)
  refine hfL_told_L153 5000 _ (fun l1 hf ls hl => ?_) l1 (0 : Int32) hf _ (lv_sub hl [1, 2, 0] rfl)
  refine lv_iconst (v := (0 : Int32)) hx hb dL_told_200 (by decide) ?_
  refine lv_istore_n (lv' := [(3, .int (0 : Int32)), (0, .ref (a 0)), (1, .long l1)]) hx hb dL_told_201 rfl hl (by decide) rfl (fun ls hl => ?_)
  refine hfL_told_L202 5000 _ (fun l1 hf ls hl => ?_) l1 (0 : Int32) hf _ (lv_sub hl [1, 2, 0] rfl)
  refine lv_iconst (v := (0 : Int32)) hx hb dL_told_229 (by decide) ?_
  refine lv_istore_n (lv' := [(3, .int (0 : Int32)), (0, .ref (a 0)), (1, .long l1)]) hx hb dL_told_230 rfl hl (by decide) rfl (fun ls hl => ?_)
  refine hfL_told_L231 5000 _ (fun l1 hf ls hl => ?_) l1 (0 : Int32) hf _ (lv_sub hl [1, 2, 0] rfl)
  refine lv_ldc2 (v := (31 : Int64)) hx hb hown hw1 dL_told_277 ?_
  refine lv_lload_n hx hb dL_told_280 rfl (lv_at hl 1 rfl) ?_
  refine lv_lmul hx hb dL_told_281 ?_
  refine lv_aload_n hx hb dL_told_282 rfl (lv_at hl 0 rfl) ?_
  obtain ⟨r283, hc283, hf⟩ := bi_s hf
  have hPc := hP
  refine cRO (W.runV (As := []) (rest := [.long ((31 : Int64) * l1)]) ⟨hx, hb, hml, hown, hts⟩ (c_X8_isKeptPlace l dC dI cI cZ cS f g a M r283 hc283) (cwV 0 hts gL_told_X8_isKeptPlace rfl rfl rfl (by decide +kernel) ⟨Nat.le_of_ble_eq_true rfl, Nat.le_of_ble_eq_true rfl⟩) ⟨RO8.blind, va_recv hK hP (ci := 8) (q0 := 0) rfl rfl, RO8.pre hPc hK hNW⟩ rfl rfl hl.1 rfl (lv_room (Nat.le_of_ble_eq_true rfl)) dL_told_283 ⟨Nat.le_of_ble_eq_true rfl, Nat.le_of_ble_eq_true rfl⟩) ?_
  refine lv_if_eq (tgt := 293) hx hb dL_told_286 (by decide) (fun c9 => ?_) (fun c9 => ?_)
  · have hf := it_t hf c9
    refine lv_iconst (v := (0 : Int32)) hx hb dL_told_293 (by decide) ?_
    exact hfL_told_B294  ((31 : Int64) * l1) (0 : Int32) hf _ (lv_sub hl [] rfl)
  · have hf := it_f hf c9
    refine lv_iconst (v := (1 : Int32)) hx hb dL_told_289 (by decide) ?_
    refine lv_goto (tgt := 294) hx hb dL_told_290 (by decide) ?_
    exact hfL_told_B294  ((31 : Int64) * l1) (1 : Int32) hf _ (lv_sub hl [] rfl)
