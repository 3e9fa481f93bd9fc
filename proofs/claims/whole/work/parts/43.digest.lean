section
variable {p : Program} {l : Launch} {e : Env} {R : Room} {s : State} {m : MethodId} {args : Array Value} {below : List Frame} {meth : Method} {c : Code} {H : Heap} {locs : List Loc} {cells slots : Nat} {Q : State → Prop} {ls : Array Slot} {pc : Nat} {rest : List Value}
theorem lv_ifnull_q {cc : ByteArray} (hexec : p.tables.exec = Jvm.exec) (hb : c.code = cc) {o : Option Nat} {off : Int} {tgt : Nat} (hdg : decode cc pc = .ok (.ifnull off, 3)) (ht : (pc : Int) + off = (tgt : Int)) (kN : o.isNone = true → W p l e R s m args below meth c H locs cells slots Q (F0 m tgt ls rest)) (kS : ¬ o.isNone = true → W p l e R s m args below meth c H locs cells slots Q (F0 m (pc + 3) ls rest)) : W p l e R s m args below meth c H locs cells slots Q (F0 m pc ls (va_rf o :: rest)) := by
  cases o with
  | none => exact lv_ifnullN hexec hb hdg ht (kN rfl)
  | some x => exact lv_ifnull hexec hb hdg (kS (fun h => by cases h))
end
def fX8_hashTexts_B30 (g : Nat → Option Nat) (M : Mem) (kb : Int64 → Int32 → Option (Int64)) (kx40 : Int64 → Option (Int64)) (l5 : Int32) (s0 : Int64) (s1 : Int32) : Option (Int64) := (fX8_hashOn_  s0 s1).bind fun r30 => kb r30 (l5 + (1 : Int32))
def fX8_hashTexts_L5 (g : Nat → Option Nat) (M : Mem) : Nat → (Int64 → Option (Int64)) → Int64 → Int32 → Option (Int64)
  | 0, _, _, _ => none
  | n + 1, kx40, l3, l5 => if (2 : Int32) ≤ l5 then (kx40 l3) else (gd (inb l5 2) (if (g l5.toNatClampNeg).isNone = true then (fX8_hashTexts_B30 g M (fun (l3 : Int64) (l5 : Int32) => fX8_hashTexts_L5 g M n kx40 l3 l5) kx40 l5 l3 (0 : Int32)) else (fX8_hashTexts_B30 g M (fun (l3 : Int64) (l5 : Int32) => fX8_hashTexts_L5 g M n kx40 l3 l5) kx40 l5 l3 (1 : Int32))))
def fX8_hashTexts_L56 (g : Nat → Option Nat) (M : Mem) : Nat → (Int64 → Option (Int64)) → Int64 → Int32 → Option (Int64)
  | 0, _, _, _ => none
  | n + 1, kx90, l3, l5 => if (M 36 0) ≤ l5 then (kx90 l3) else (gd (inb l5 60) ((fX8_hashOn  l3 ((M 37 l5.toNatClampNeg).toInt64)).bind fun r80 => fX8_hashTexts_L56 g M n kx90 r80 (l5 + (1 : Int32))))
def fX8_hashTexts (g : Nat → Option Nat) (M : Mem) (a1 : Int64) : Option (Int64) := fX8_hashTexts_L5 g M 5000 (fun (l3 : Int64) => (fX8_hashOn  l3 ((M 36 0).toInt64)).bind fun r49 => fX8_hashTexts_L56 g M 5000 (fun (l3 : Int64) => some l3) r49 (0 : Int32)) a1 (0 : Int32)
def fX8_digest_B58 (g : Nat → Option Nat) (M : Mem)  (N : Mem) (s0 : Int64) (s1 : Int64) : Option (Int64 × Mem) := (fX8_hashOn  s0 s1).bind fun r58 => (fX8_hashAccounts (sr (sr (sr (sr (sr (sr (sr (sr (sr (sr (sr (sr (sr (sr (sr (sr M 17 (N 17)) 18 (N 18)) 19 (N 19)) 20 (N 20)) 21 (N 21)) 22 (N 22)) 23 (N 23)) 24 (N 24)) 25 (N 25)) 27 (N 27)) 28 (N 28)) 29 (N 29)) 30 (N 30)) 31 (N 31)) 32 (N 32)) 41 (N 41)) r58).bind fun r64 => (fX8_hashTexts g (sr (sr (sr (sr (sr (sr (sr (sr (sr (sr (sr (sr (sr (sr (sr (sr M 17 (N 17)) 18 (N 18)) 19 (N 19)) 20 (N 20)) 21 (N 21)) 22 (N 22)) 23 (N 23)) 24 (N 24)) 25 (N 25)) 27 (N 27)) 28 (N 28)) 29 (N 29)) 30 (N 30)) 31 (N 31)) 32 (N 32)) 41 (N 41)) r64).bind fun r70 => some (r70, (sr (sr (sr (sr (sr (sr (sr (sr (sr (sr (sr (sr (sr (sr (sr (sr M 17 (N 17)) 18 (N 18)) 19 (N 19)) 20 (N 20)) 21 (N 21)) 22 (N 22)) 23 (N 23)) 24 (N 24)) 25 (N 25)) 27 (N 27)) 28 (N 28)) 29 (N 29)) 30 (N 30)) 31 (N 31)) 32 (N 32)) 41 (N 41)))
def fX8_digest (g : Nat → Option Nat) (M : Mem)  : Option (Int64 × Mem) := (fX8_hashShelves M (4349 : Int64)).bind fun r4 => (fX8_hashSlots M r4).bind fun r10 => (fX8_hashKinds M r10).bind fun r16 => (fX8_hashTrips M r16).bind fun r22 => (fX8_hashOrders M r22).bind fun r28 => if ¬ (M 2 1) = (-1 : Int32) then (fX8_digest_B58 g M  (sr M 41 (r28.2 41)) r28.1 (0 : Int64)) else ((fX8_findCheapest (sr M 41 (r28.2 41)) ).bind fun r48 => fX8_digest_B58 g M  (sr (sr (sr (sr (sr (sr (sr (sr (sr (sr (sr (sr (sr (sr (sr (sr M 17 (r48.2 17)) 18 (r48.2 18)) 19 (r48.2 19)) 20 (r48.2 20)) 21 (r48.2 21)) 22 (r48.2 22)) 23 (r48.2 23)) 24 (r48.2 24)) 25 (r48.2 25)) 27 (r48.2 27)) 28 (r48.2 28)) 29 (r48.2 29)) 30 (r48.2 30)) 31 (r48.2 31)) 32 (r48.2 32)) 41 (r28.2 41)) r28.1 ((r48.1 + (1 : Int32)).toInt64))
set_option maxHeartbeats 4000000 in
set_option maxRecDepth 100000 in
theorem c_X8_hashTexts (l : Launch) (dC : Nat → ClassId) (dI : Nat → Nat → Nat) (cI cZ cS : ClassId) (f g : Nat → Option Nat) (a : Nat → Nat) (M : Mem) (a1 : Int64) (z : Int64) (hf : fX8_hashTexts g M a1 = some z) : Met l yX8_hashTexts wsX8_hashTexts ({ frames := 2, cells := 0, slots := 0, locals := 45 } : Room) (va_Pc [.ref (a 0), .long a1] (RO8 (dC, dI) cI cZ cS (wX8 cI cZ cS f g a M))) (k2_QcV (.long z)) 0 0 (fun _ => False) := by
  refine Met.ofW (cc := cX8_hashTexts) (maxL := 6) (ret := (some .long)) (by decide) rfl ?_
  intro p e s m args below meth c s₁ B hml hv
  obtain ⟨rfl, hP, hK, hNW⟩ := hv
  have hK2 : va_K (dC, dI) vwCl [(cI, .int), (cZ, .boolean)] s := hK.sub (tys' := [(cI, .int), (cZ, .boolean)]) [0, 1] rfl
  have hx := B.exec
  have hb := B.bytes
  have hr := B.returns
  have hts := atoms_spec (ws := wsX8_hashTexts) B.pre
  have hown : s.vm.findClass RX8 = some m.cls := findClass_of_methodNamed B.named
  have hlocks := B.notSynchronized
  have hinX8 : ∀ w ∈ u_ws RX8 TX8 6, w ∈ wsX8_hashTexts := by decide +kernel
  have hw1 := hts (.fieldLink RX8 22 "GlideShelves" "history" "LGlideShelves$History;") (by decide +kernel)
  have hinX1 : ∀ w ∈ u_ws RX1 TX1 3, w ∈ wsX8_hashTexts := by decide +kernel
  have hw3 := hts (.fieldLink RX8 29 "GlideShelves" "buffer" "LGlideShelves$OrderText;") (by decide +kernel)
  have hinX5 : ∀ w ∈ u_ws RX5 TX5 3, w ∈ wsX8_hashTexts := by decide +kernel
  have hfX8_hashTexts_B30 : ∀ (kb : Int64 → Int32 → Option (Int64)) (hkb : ∀ (l3 : Int64) (l5 : Int32), kb l3 l5 = some z → ∀ (ls : Array Slot), lv_has ls 6 [(0, .ref (a 0)), (3, .long l3), (5, .int l5)] → W p l e (headSpec wsX8_hashTexts ({ frames := 2, cells := 0, slots := 0, locals := 45 } : Room)).room s m ([.ref (a 0), .long a1] : List Value).toArray below meth c s.heap [] 0 0 (MQ below (k2_QcV (.long z)) ([.ref (a 0), .long a1] : List Value).toArray s 0 0 (fun _ => False)) (F0 m 5 ls [])) (kx40 : Int64 → Option (Int64)) (hkx40 : ∀ (l3 : Int64), kx40 l3 = some z → ∀ (ls : Array Slot), lv_has ls 6 [(0, .ref (a 0)), (3, .long l3)] → W p l e (headSpec wsX8_hashTexts ({ frames := 2, cells := 0, slots := 0, locals := 45 } : Room)).room s m ([.ref (a 0), .long a1] : List Value).toArray below meth c s.heap [] 0 0 (MQ below (k2_QcV (.long z)) ([.ref (a 0), .long a1] : List Value).toArray s 0 0 (fun _ => False)) (F0 m 40 ls [])), ∀ (l5 : Int32) (s0 : Int64) (s1 : Int32), fX8_hashTexts_B30 g M kb kx40 l5 s0 s1 = some z → ∀ (ls : Array Slot), lv_has ls 6 [(0, .ref (a 0)), (5, .int l5)] → W p l e (headSpec wsX8_hashTexts ({ frames := 2, cells := 0, slots := 0, locals := 45 } : Room)).room s m ([.ref (a 0), .long a1] : List Value).toArray below meth c s.heap [] 0 0 (MQ below (k2_QcV (.long z)) ([.ref (a 0), .long a1] : List Value).toArray s 0 0 (fun _ => False)) (F0 m 30 ls [.int s1, .long s0]) := by
    intro kb hkb kx40 hkx40 l5 s0 s1 hf ls hl
    unfold fX8_hashTexts_B30 at hf
    obtain ⟨r30, hc30, hf⟩ := bi_s hf
    refine cRO (W.runS (As := [.long s0, .int s1]) (rest := []) ⟨hx, hb, hml, hown, hts⟩ (c_X8_hashOn_ l s0 s1 r30 hc30) (va_cwS 2 hts gX8_hashTexts_X8_hashOn_ rfl rfl rfl (by decide +kernel) ⟨Nat.le_of_ble_eq_true rfl, Nat.le_of_ble_eq_true rfl⟩) ⟨tr_blind, tr_pre⟩ rfl rfl hl.1 rfl (lv_room (Nat.le_of_ble_eq_true rfl)) dX8_hashTexts_30 ⟨Nat.le_of_ble_eq_true rfl, Nat.le_of_ble_eq_true rfl⟩) ?_
    refine lv_lstore_n (lv' := [(3, .long r30), (0, .ref (a 0)), (5, .int l5)]) hx hb dX8_hashTexts_33 rfl hl (by decide) rfl (fun ls hl => ?_)
    refine lv_iinc (v := (l5 + (1 : Int32))) (lv' := [(5, .int (l5 + (1 : Int32))), (3, .long r30), (0, .ref (a 0))]) hx hb dX8_hashTexts_34 hl (k := 2) rfl rfl (by decide) rfl (fun ls hl => ?_)
    refine lv_goto (tgt := 5) hx hb dX8_hashTexts_37 (by decide) ?_
    exact hkb r30 (l5 + (1 : Int32)) hf _ (lv_sub hl [2, 1, 0] rfl)
  have hfX8_hashTexts_L5 : ∀ (n : Nat) (kx40 : Int64 → Option (Int64)) (hkx40 : ∀ (l3 : Int64), kx40 l3 = some z → ∀ (ls : Array Slot), lv_has ls 6 [(0, .ref (a 0)), (3, .long l3)] → W p l e (headSpec wsX8_hashTexts ({ frames := 2, cells := 0, slots := 0, locals := 45 } : Room)).room s m ([.ref (a 0), .long a1] : List Value).toArray below meth c s.heap [] 0 0 (MQ below (k2_QcV (.long z)) ([.ref (a 0), .long a1] : List Value).toArray s 0 0 (fun _ => False)) (F0 m 40 ls [])), ∀ (l3 : Int64) (l5 : Int32), fX8_hashTexts_L5 g M n kx40 l3 l5 = some z → ∀ (ls : Array Slot), lv_has ls 6 [(0, .ref (a 0)), (3, .long l3), (5, .int l5)] → W p l e (headSpec wsX8_hashTexts ({ frames := 2, cells := 0, slots := 0, locals := 45 } : Room)).room s m ([.ref (a 0), .long a1] : List Value).toArray below meth c s.heap [] 0 0 (MQ below (k2_QcV (.long z)) ([.ref (a 0), .long a1] : List Value).toArray s 0 0 (fun _ => False)) (F0 m 5 ls []) := by
    intro n
    induction n with
    | zero =>
      intro kx40 hkx40 l3 l5 hf ls hl
      rw [fX8_hashTexts_L5] at hf
      cases hf
    | succ n ih =>
      intro kx40 hkx40 l3 l5 hf ls hl
      rw [fX8_hashTexts_L5] at hf
      refine lv_iload hx hb dX8_hashTexts_5 (lv_at hl 2 rfl) ?_
      refine lv_iconst (v := (2 : Int32)) hx hb dX8_hashTexts_7 (by decide) ?_
      refine lv_icmp_ge (tgt := 40) hx hb dX8_hashTexts_8 (by decide) (fun c9 => ?_) (fun c9 => ?_)
      · have hf := it_t hf c9
        exact hkx40 l3 hf _ (lv_sub hl [0, 1] rfl)
      · have hf := it_f hf c9
        refine lv_lload_n hx hb dX8_hashTexts_11 rfl (lv_at hl 1 rfl) ?_
        refine lv_aload_n hx hb dX8_hashTexts_12 rfl (lv_at hl 0 rfl) ?_
        refine va_get (D := (dC, dI)) (ci := 8) (v := .ref (a 33)) (C := RX8) (T := TX8) (N := 6) hx hb hts hinX8 hown hK hP 0 rfl rfl 2 (by decide) hw1 (fun _ h9 => h9) rfl dX8_hashTexts_13 ?_
        refine va_getN (D := (dC, dI)) (ci := 1) (v := .ref (a 35)) (C := RX1) (T := TX1) (N := 3) hx hb hts hinX1 hown hK hP 33 rfl rfl 2 (by decide) (nw13 hNW) (fun _ h9 => h9) rfl dX8_hashTexts_16 ?_
        refine lv_iload hx hb dX8_hashTexts_19 (lv_at hl 2 rfl) ?_
        obtain ⟨hi, hf⟩ := gd_s hf
        refine va_aldq (D := (dC, dI)) (f := g) (C := "GlideShelves$State") hx hb hK hP 35 2 rfl rfl (inb_in hi) dX8_hashTexts_21 ?_
        refine lv_ifnull_q (tgt := 29) hx hb dX8_hashTexts_22 (by decide) (fun c9 => ?_) (fun c9 => ?_)
        · have hf := it_t hf c9
          refine lv_iconst (v := (0 : Int32)) hx hb dX8_hashTexts_29 (by decide) ?_
          exact hfX8_hashTexts_B30 _ (ih kx40 hkx40) _ hkx40 l5 l3 (0 : Int32) hf _ (lv_sub hl [0, 2] rfl)
        · have hf := it_f hf c9
          refine lv_iconst (v := (1 : Int32)) hx hb dX8_hashTexts_25 (by decide) ?_
          refine lv_goto (tgt := 30) hx hb dX8_hashTexts_26 (by decide) ?_
          exact hfX8_hashTexts_B30 _ (ih kx40 hkx40) _ hkx40 l5 l3 (1 : Int32) hf _ (lv_sub hl [0, 2] rfl)
  have hfX8_hashTexts_L56 : ∀ (n : Nat) (kx90 : Int64 → Option (Int64)) (hkx90 : ∀ (l3 : Int64), kx90 l3 = some z → ∀ (ls : Array Slot), lv_has ls 6 [(3, .long l3)] → W p l e (headSpec wsX8_hashTexts ({ frames := 2, cells := 0, slots := 0, locals := 45 } : Room)).room s m ([.ref (a 0), .long a1] : List Value).toArray below meth c s.heap [] 0 0 (MQ below (k2_QcV (.long z)) ([.ref (a 0), .long a1] : List Value).toArray s 0 0 (fun _ => False)) (F0 m 90 ls [])), ∀ (l3 : Int64) (l5 : Int32), fX8_hashTexts_L56 g M n kx90 l3 l5 = some z → ∀ (ls : Array Slot), lv_has ls 6 [(0, .ref (a 0)), (3, .long l3), (5, .int l5)] → W p l e (headSpec wsX8_hashTexts ({ frames := 2, cells := 0, slots := 0, locals := 45 } : Room)).room s m ([.ref (a 0), .long a1] : List Value).toArray below meth c s.heap [] 0 0 (MQ below (k2_QcV (.long z)) ([.ref (a 0), .long a1] : List Value).toArray s 0 0 (fun _ => False)) (F0 m 56 ls []) := by
    intro n
    induction n with
    | zero =>
      intro kx90 hkx90 l3 l5 hf ls hl
      rw [fX8_hashTexts_L56] at hf
      cases hf
    | succ n ih =>
      intro kx90 hkx90 l3 l5 hf ls hl
      rw [fX8_hashTexts_L56] at hf
      refine lv_iload hx hb dX8_hashTexts_56 (lv_at hl 2 rfl) ?_
      refine lv_aload_n hx hb dX8_hashTexts_58 rfl (lv_at hl 0 rfl) ?_
      refine va_get (D := (dC, dI)) (ci := 8) (v := .ref (a 36)) (C := RX8) (T := TX8) (N := 6) hx hb hts hinX8 hown hK hP 0 rfl rfl 3 (by decide) hw3 (fun _ h9 => h9) rfl dX8_hashTexts_59 ?_
      refine va_getN (D := (dC, dI)) (ci := 5) (v := .int (M 36 0)) (C := RX5) (T := TX5) (N := 3) hx hb hts hinX5 hown hK hP 36 rfl rfl 0 (by decide) (nw8 hNW) (fun _ h9 => h9) rfl dX8_hashTexts_62 ?_
      refine lv_icmp_ge (tgt := 90) hx hb dX8_hashTexts_65 (by decide) (fun c9 => ?_) (fun c9 => ?_)
      · have hf := it_t hf c9
        exact hkx90 l3 hf _ (lv_sub hl [1] rfl)
      · have hf := it_f hf c9
        refine lv_lload_n hx hb dX8_hashTexts_68 rfl (lv_at hl 1 rfl) ?_
        refine lv_aload_n hx hb dX8_hashTexts_69 rfl (lv_at hl 0 rfl) ?_
        refine va_get (D := (dC, dI)) (ci := 8) (v := .ref (a 36)) (C := RX8) (T := TX8) (N := 6) hx hb hts hinX8 hown hK hP 0 rfl rfl 3 (by decide) hw3 (fun _ h9 => h9) rfl dX8_hashTexts_70 ?_
        refine va_getN (D := (dC, dI)) (ci := 5) (v := .ref (a 37)) (C := RX5) (T := TX5) (N := 3) hx hb hts hinX5 hown hK hP 36 rfl rfl 1 (by decide) (nw12 hNW) (fun _ h9 => h9) rfl dX8_hashTexts_73 ?_
        refine lv_iload hx hb dX8_hashTexts_76 (lv_at hl 2 rfl) ?_
        obtain ⟨hi, hf⟩ := gd_s hf
        refine va_iald (D := (dC, dI)) (f := (M 37)) hx hb hK hP 37 0 rfl rfl (inb_in hi) dX8_hashTexts_78 ?_
        refine lv_i2l (v := (M 37 l5.toNatClampNeg).toInt64) hx hb dX8_hashTexts_79 rfl ?_
        obtain ⟨r80, hc80, hf⟩ := bi_s hf
        refine cRO (W.runS (As := [.long l3, .long ((M 37 l5.toNatClampNeg).toInt64)]) (rest := []) ⟨hx, hb, hml, hown, hts⟩ (c_X8_hashOn l l3 ((M 37 l5.toNatClampNeg).toInt64) r80 hc80) (va_cwS 2 hts gX8_hashTexts_X8_hashOn rfl rfl rfl (by decide +kernel) ⟨Nat.le_of_ble_eq_true rfl, Nat.le_of_ble_eq_true rfl⟩) ⟨tr_blind, tr_pre⟩ rfl rfl hl.1 rfl (lv_room (Nat.le_of_ble_eq_true rfl)) dX8_hashTexts_80 ⟨Nat.le_of_ble_eq_true rfl, Nat.le_of_ble_eq_true rfl⟩) ?_
        refine lv_lstore_n (lv' := [(3, .long r80), (0, .ref (a 0)), (5, .int l5)]) hx hb dX8_hashTexts_83 rfl hl (by decide) rfl (fun ls hl => ?_)
        refine lv_iinc (v := (l5 + (1 : Int32))) (lv' := [(5, .int (l5 + (1 : Int32))), (3, .long r80), (0, .ref (a 0))]) hx hb dX8_hashTexts_84 hl (k := 2) rfl rfl (by decide) rfl (fun ls hl => ?_)
        refine lv_goto (tgt := 56) hx hb dX8_hashTexts_87 (by decide) ?_
        exact ih kx90 hkx90 r80 (l5 + (1 : Int32)) hf _ (lv_sub hl [2, 1, 0] rfl)
  have hl := lv_entry ([.ref (a 0), .long a1]) (n := 6) (Nat.le_of_ble_eq_true rfl)
  rw [lg_entry_eq]
  generalize (lg_sl ([.ref (a 0), .long a1]) ++ List.replicate (6 - (lg_sl ([.ref (a 0), .long a1])).length) Slot.unset).toArray = ls at hl ⊢
  have hl : lv_has ls 6 [(0, .ref (a 0)), (1, .long a1)] := hl
  unfold fX8_hashTexts at hf
  refine lv_lload_n hx hb dX8_hashTexts_0 rfl (lv_at hl 1 rfl) ?_
  refine lv_lstore_n (lv' := [(3, .long a1), (0, .ref (a 0)), (1, .long a1)]) hx hb dX8_hashTexts_1 rfl hl (by decide) rfl (fun ls hl => ?_)
  refine lv_iconst (v := (0 : Int32)) hx hb dX8_hashTexts_2 (by decide) ?_
  refine lv_istore (lv' := [(5, .int (0 : Int32)), (3, .long a1), (0, .ref (a 0)), (1, .long a1)]) hx hb dX8_hashTexts_3 hl (by decide) rfl (fun ls hl => ?_)
  refine hfX8_hashTexts_L5 5000 _ (fun l3 hf ls hl => ?_) a1 (0 : Int32) hf _ (lv_sub hl [2, 1, 0] rfl)
  refine lv_lload_n hx hb dX8_hashTexts_40 rfl (lv_at hl 1 rfl) ?_
  refine lv_aload_n hx hb dX8_hashTexts_41 rfl (lv_at hl 0 rfl) ?_
  refine va_get (D := (dC, dI)) (ci := 8) (v := .ref (a 36)) (C := RX8) (T := TX8) (N := 6) hx hb hts hinX8 hown hK hP 0 rfl rfl 3 (by decide) hw3 (fun _ h9 => h9) rfl dX8_hashTexts_42 ?_
  refine va_getN (D := (dC, dI)) (ci := 5) (v := .int (M 36 0)) (C := RX5) (T := TX5) (N := 3) hx hb hts hinX5 hown hK hP 36 rfl rfl 0 (by decide) (nw8 hNW) (fun _ h9 => h9) rfl dX8_hashTexts_45 ?_
  refine lv_i2l (v := (M 36 0).toInt64) hx hb dX8_hashTexts_48 rfl ?_
  obtain ⟨r49, hc49, hf⟩ := bi_s hf
  refine cRO (W.runS (As := [.long l3, .long ((M 36 0).toInt64)]) (rest := []) ⟨hx, hb, hml, hown, hts⟩ (c_X8_hashOn l l3 ((M 36 0).toInt64) r49 hc49) (va_cwS 2 hts gX8_hashTexts_X8_hashOn rfl rfl rfl (by decide +kernel) ⟨Nat.le_of_ble_eq_true rfl, Nat.le_of_ble_eq_true rfl⟩) ⟨tr_blind, tr_pre⟩ rfl rfl hl.1 rfl (lv_room (Nat.le_of_ble_eq_true rfl)) dX8_hashTexts_49 ⟨Nat.le_of_ble_eq_true rfl, Nat.le_of_ble_eq_true rfl⟩) ?_
  refine lv_lstore_n (lv' := [(3, .long r49), (0, .ref (a 0))]) hx hb dX8_hashTexts_52 rfl hl (by decide) rfl (fun ls hl => ?_)
  refine lv_iconst (v := (0 : Int32)) hx hb dX8_hashTexts_53 (by decide) ?_
  refine lv_istore (lv' := [(5, .int (0 : Int32)), (3, .long r49), (0, .ref (a 0))]) hx hb dX8_hashTexts_54 hl (by decide) rfl (fun ls hl => ?_)
  refine hfX8_hashTexts_L56 5000 _ (fun l3 hf ls hl => ?_) r49 (0 : Int32) hf _ (lv_sub hl [2, 1, 0] rfl)
  refine lv_lload_n hx hb dX8_hashTexts_90 rfl (lv_at hl 0 rfl) ?_
  exact W.lret (v := l3) hx hb hr (fun t ht hW => ⟨congrArg (fun x => Outcome.returned (some (Value.long x))) (so_e hf), ht⟩) fl0 dX8_hashTexts_91
set_option maxHeartbeats 4000000 in
set_option maxRecDepth 100000 in
theorem c_X8_digest (l : Launch) (dC : Nat → ClassId) (dI : Nat → Nat → Nat) (cI cZ cS : ClassId) (f g : Nat → Option Nat) (a : Nat → Nat) (sz : Nat) (M : Mem) (z : Int64 × Mem) (hf : fX8_digest g M  = some z) : Met l yX8_digest wsX8_digest ({ frames := 21, cells := 0, slots := 0, locals := 519 } : Room) (va_Pc [.ref (a 0)] (WR8 (dC, dI) cI cZ cS (wX8 cI cZ cS f g a M) sz)) (va_Ql (S := Unit) (fun r _ => r = z.1) (fun _ t => WE (dC, dI) cI cZ (wX8 cI cZ cS f g a (sr (sr (sr (sr (sr (sr (sr (sr (sr (sr (sr (sr (sr (sr (sr (sr M 17 (z.2 17)) 18 (z.2 18)) 19 (z.2 19)) 20 (z.2 20)) 21 (z.2 21)) 22 (z.2 22)) 23 (z.2 23)) 24 (z.2 24)) 25 (z.2 25)) 27 (z.2 27)) 28 (z.2 28)) 29 (z.2 29)) 30 (z.2 30)) 31 (z.2 31)) 32 (z.2 32)) 41 (z.2 41))) (va_A (wX8 cI cZ cS f g a M) sz) t) (va_A (wX8 cI cZ cS f g a M) sz)) 0 0 (va_A (wX8 cI cZ cS f g a M) sz) := by
  refine Met.ofW (cc := cX8_digest) (maxL := 3) (ret := (some .long)) (by decide) rfl ?_
  intro p e s m args below meth c s₁ B hml hv
  obtain ⟨rfl, hsz, hP, hK, hD0, hNW⟩ := hv
  have hK2 : va_K (dC, dI) vwCl [(cI, .int), (cZ, .boolean)] s := hK.sub (tys' := [(cI, .int), (cZ, .boolean)]) [0, 1] rfl
  have hx := B.exec
  have hb := B.bytes
  have hr := B.returns
  have hts := atoms_spec (ws := wsX8_digest) B.pre
  have hown : s.vm.findClass RX8 = some m.cls := findClass_of_methodNamed B.named
  have hlocks := B.notSynchronized
  have hw0 := hts (.constantLong RX8 384 (4349)) (by decide +kernel)
  have hinX8 : ∀ w ∈ u_ws RX8 TX8 6, w ∈ wsX8_digest := by decide +kernel
  have hw2 := hts (.fieldLink RX8 12 "GlideShelves" "now" "LGlideShelves$State;") (by decide +kernel)
  have hinX6 : ∀ w ∈ u_ws RX6 TX6 5, w ∈ wsX8_digest := by decide +kernel
  have hinX7 : ∀ w ∈ u_ws RX7 TX7 6, w ∈ wsX8_digest := by decide +kernel
  subst hsz
  have hD := hD0.self (sz := s.heap.size)
  generalize hAe : va_A (wX8 cI cZ cS f g a M) s.heap.size = A at hD ⊢
  have hA : ∀ q : Nat, s.heap.size ≤ q → A q := fun q h => by rw [← hAe]; exact Or.inr h
  have hS : va_S A s.heap s.heap [] := va_S.rf
  have hfX8_digest_B58 : ∀ (N : Mem) (s0 : Int64) (s1 : Int64), fX8_digest_B58 g M  N s0 s1 = some z → ∀ (ls : Array Slot), lv_has ls 3 [(0, .ref (a 0))] → ∀ (H : Heap) (locs : List Loc), va_P (dC, dI) vwCl (wX8 cI cZ cS f g a (sr (sr (sr (sr (sr (sr (sr (sr (sr (sr (sr (sr (sr (sr (sr (sr M 17 (N 17)) 18 (N 18)) 19 (N 19)) 20 (N 20)) 21 (N 21)) 22 (N 22)) 23 (N 23)) 24 (N 24)) 25 (N 25)) 27 (N 27)) 28 (N 28)) 29 (N 29)) 30 (N 30)) 31 (N 31)) 32 (N 32)) 41 (N 41))) H → va_D A (wX8 cI cZ cS f g a (sr (sr (sr (sr (sr (sr (sr (sr (sr (sr (sr (sr (sr (sr (sr (sr M 17 (N 17)) 18 (N 18)) 19 (N 19)) 20 (N 20)) 21 (N 21)) 22 (N 22)) 23 (N 23)) 24 (N 24)) 25 (N 25)) 27 (N 27)) 28 (N 28)) 29 (N 29)) 30 (N 30)) 31 (N 31)) 32 (N 32)) 41 (N 41))) → va_S A s.heap H locs → W p l e (headSpec wsX8_digest ({ frames := 21, cells := 0, slots := 0, locals := 519 } : Room)).room s m ([.ref (a 0)] : List Value).toArray below meth c H locs 0 0 (MQ below (va_Ql (S := Unit) (fun r _ => r = z.1) (fun _ t => WE (dC, dI) cI cZ (wX8 cI cZ cS f g a (sr (sr (sr (sr (sr (sr (sr (sr (sr (sr (sr (sr (sr (sr (sr (sr M 17 (z.2 17)) 18 (z.2 18)) 19 (z.2 19)) 20 (z.2 20)) 21 (z.2 21)) 22 (z.2 22)) 23 (z.2 23)) 24 (z.2 24)) 25 (z.2 25)) 27 (z.2 27)) 28 (z.2 28)) 29 (z.2 29)) 30 (z.2 30)) 31 (z.2 31)) 32 (z.2 32)) 41 (z.2 41))) A t) A) ([.ref (a 0)] : List Value).toArray s 0 0 A) (F0 m 58 ls [.long s1, .long s0]) := by
    intro  N s0 s1 hf ls hl H locs hP hD hS
    unfold fX8_digest_B58 at hf
    obtain ⟨r58, hc58, hf⟩ := bi_s hf
    refine cRO (W.runS (As := [.long s0, .long s1]) (rest := []) ⟨hx, hb, hml, hown, hts⟩ (c_X8_hashOn l s0 s1 r58 hc58) (va_cwS 2 hts gX8_digest_X8_hashOn rfl rfl rfl (by decide +kernel) ⟨Nat.le_of_ble_eq_true rfl, Nat.le_of_ble_eq_true rfl⟩) ⟨tr_blind, tr_pre⟩ rfl rfl hl.1 rfl (lv_room (Nat.le_of_ble_eq_true rfl)) dX8_digest_58 ⟨Nat.le_of_ble_eq_true rfl, Nat.le_of_ble_eq_true rfl⟩) ?_
    refine lv_lstore_n (lv' := [(1, .long r58), (0, .ref (a 0))]) hx hb dX8_digest_61 rfl hl (by decide) rfl (fun ls hl => ?_)
    refine lv_aload_n hx hb dX8_digest_62 rfl (lv_at hl 1 rfl) ?_
    refine lv_lload_n hx hb dX8_digest_63 rfl (lv_at hl 0 rfl) ?_
    obtain ⟨r64, hc64, hf⟩ := bi_s hf
    have hPc := hP
    refine cRO (W.runV (As := [.long r58]) (rest := []) ⟨hx, hb, hml, hown, hts⟩ (c_X8_hashAccounts l dC dI cI cZ cS f g a (sr (sr (sr (sr (sr (sr (sr (sr (sr (sr (sr (sr (sr (sr (sr (sr M 17 (N 17)) 18 (N 18)) 19 (N 19)) 20 (N 20)) 21 (N 21)) 22 (N 22)) 23 (N 23)) 24 (N 24)) 25 (N 25)) 27 (N 27)) 28 (N 28)) 29 (N 29)) 30 (N 30)) 31 (N 31)) 32 (N 32)) 41 (N 41)) r58 r64 hc64) (cwV 1 hts gX8_digest_X8_hashAccounts rfl rfl rfl (by decide +kernel) ⟨Nat.le_of_ble_eq_true rfl, Nat.le_of_ble_eq_true rfl⟩) ⟨RO8.blind, va_recv hK hP (ci := 8) (q0 := 0) rfl rfl, RO8.pre hPc hK hNW⟩ rfl rfl hl.1 rfl (lv_room (Nat.le_of_ble_eq_true rfl)) dX8_digest_64 ⟨Nat.le_of_ble_eq_true rfl, Nat.le_of_ble_eq_true rfl⟩) ?_
    refine lv_lstore_n (lv' := [(1, .long r64), (0, .ref (a 0))]) hx hb dX8_digest_67 rfl hl (by decide) rfl (fun ls hl => ?_)
    refine lv_aload_n hx hb dX8_digest_68 rfl (lv_at hl 1 rfl) ?_
    refine lv_lload_n hx hb dX8_digest_69 rfl (lv_at hl 0 rfl) ?_
    obtain ⟨r70, hc70, hf⟩ := bi_s hf
    have hPc := hP
    refine cRO (W.runV (As := [.long r64]) (rest := []) ⟨hx, hb, hml, hown, hts⟩ (c_X8_hashTexts l dC dI cI cZ cS f g a (sr (sr (sr (sr (sr (sr (sr (sr (sr (sr (sr (sr (sr (sr (sr (sr M 17 (N 17)) 18 (N 18)) 19 (N 19)) 20 (N 20)) 21 (N 21)) 22 (N 22)) 23 (N 23)) 24 (N 24)) 25 (N 25)) 27 (N 27)) 28 (N 28)) 29 (N 29)) 30 (N 30)) 31 (N 31)) 32 (N 32)) 41 (N 41)) r64 r70 hc70) (cwV 1 hts gX8_digest_X8_hashTexts rfl rfl rfl (by decide +kernel) ⟨Nat.le_of_ble_eq_true rfl, Nat.le_of_ble_eq_true rfl⟩) ⟨RO8.blind, va_recv hK hP (ci := 8) (q0 := 0) rfl rfl, RO8.pre hPc hK hNW⟩ rfl rfl hl.1 rfl (lv_room (Nat.le_of_ble_eq_true rfl)) dX8_digest_70 ⟨Nat.le_of_ble_eq_true rfl, Nat.le_of_ble_eq_true rfl⟩) ?_
    have e9 := so_e hf
    subst e9
    exact W.lret (v := r70) hx hb hr (fun t ht hW => ⟨⟨r70, (), rfl, rfl, WE.mk hP hD ht⟩, hS.F ht⟩) hS.2.2 dX8_digest_73
  have hl := lv_entry ([.ref (a 0)]) (n := 3) (Nat.le_of_ble_eq_true rfl)
  rw [lg_entry_eq]
  generalize (lg_sl ([.ref (a 0)]) ++ List.replicate (3 - (lg_sl ([.ref (a 0)])).length) Slot.unset).toArray = ls at hl ⊢
  have hl : lv_has ls 3 [(0, .ref (a 0))] := hl
  unfold fX8_digest at hf
  suffices hgo : ∀ (H : Heap) (locs : List Loc), va_P (dC, dI) vwCl (wX8 cI cZ cS f g a M) H → va_D A (wX8 cI cZ cS f g a M) → va_S A s.heap H locs → W p l e (headSpec wsX8_digest ({ frames := 21, cells := 0, slots := 0, locals := 519 } : Room)).room s m ([.ref (a 0)] : List Value).toArray below meth c H locs 0 0 (MQ below (va_Ql (S := Unit) (fun r _ => r = z.1) (fun _ t => WE (dC, dI) cI cZ (wX8 cI cZ cS f g a (sr (sr (sr (sr (sr (sr (sr (sr (sr (sr (sr (sr (sr (sr (sr (sr M 17 (z.2 17)) 18 (z.2 18)) 19 (z.2 19)) 20 (z.2 20)) 21 (z.2 21)) 22 (z.2 22)) 23 (z.2 23)) 24 (z.2 24)) 25 (z.2 25)) 27 (z.2 27)) 28 (z.2 28)) 29 (z.2 29)) 30 (z.2 30)) 31 (z.2 31)) 32 (z.2 32)) 41 (z.2 41))) A t) A) ([.ref (a 0)] : List Value).toArray s 0 0 A) (F0 m 0 ls []) from hgo _ _ hP hD hS
  intro H locs hP hD hS
  refine lv_aload_n hx hb dX8_digest_0 rfl (lv_at hl 0 rfl) ?_
  refine lv_ldc2 (v := (4349 : Int64)) hx hb hown hw0 dX8_digest_1 ?_
  obtain ⟨r4, hc4, hf⟩ := bi_s hf
  have hPc := hP
  refine cRO (W.runV (As := [.long (4349 : Int64)]) (rest := []) ⟨hx, hb, hml, hown, hts⟩ (c_X8_hashShelves l dC dI cI cZ cS f g a M (4349 : Int64) r4 hc4) (cwV 1 hts gX8_digest_X8_hashShelves rfl rfl rfl (by decide +kernel) ⟨Nat.le_of_ble_eq_true rfl, Nat.le_of_ble_eq_true rfl⟩) ⟨RO8.blind, va_recv hK hP (ci := 8) (q0 := 0) rfl rfl, RO8.pre hPc hK hNW⟩ rfl rfl hl.1 rfl (lv_room (Nat.le_of_ble_eq_true rfl)) dX8_digest_4 ⟨Nat.le_of_ble_eq_true rfl, Nat.le_of_ble_eq_true rfl⟩) ?_
  refine lv_lstore_n (lv' := [(1, .long r4), (0, .ref (a 0))]) hx hb dX8_digest_7 rfl hl (by decide) rfl (fun ls hl => ?_)
  refine lv_aload_n hx hb dX8_digest_8 rfl (lv_at hl 1 rfl) ?_
  refine lv_lload_n hx hb dX8_digest_9 rfl (lv_at hl 0 rfl) ?_
  obtain ⟨r10, hc10, hf⟩ := bi_s hf
  have hPc := hP
  refine cRO (W.runV (As := [.long r4]) (rest := []) ⟨hx, hb, hml, hown, hts⟩ (c_X8_hashSlots l dC dI cI cZ cS f g a M r4 r10 hc10) (cwV 1 hts gX8_digest_X8_hashSlots rfl rfl rfl (by decide +kernel) ⟨Nat.le_of_ble_eq_true rfl, Nat.le_of_ble_eq_true rfl⟩) ⟨RO8.blind, va_recv hK hP (ci := 8) (q0 := 0) rfl rfl, RO8.pre hPc hK hNW⟩ rfl rfl hl.1 rfl (lv_room (Nat.le_of_ble_eq_true rfl)) dX8_digest_10 ⟨Nat.le_of_ble_eq_true rfl, Nat.le_of_ble_eq_true rfl⟩) ?_
  refine lv_lstore_n (lv' := [(1, .long r10), (0, .ref (a 0))]) hx hb dX8_digest_13 rfl hl (by decide) rfl (fun ls hl => ?_)
  refine lv_aload_n hx hb dX8_digest_14 rfl (lv_at hl 1 rfl) ?_
  refine lv_lload_n hx hb dX8_digest_15 rfl (lv_at hl 0 rfl) ?_
  obtain ⟨r16, hc16, hf⟩ := bi_s hf
  have hPc := hP
  refine cRO (W.runV (As := [.long r10]) (rest := []) ⟨hx, hb, hml, hown, hts⟩ (c_X8_hashKinds l dC dI cI cZ cS f g a M r10 r16 hc16) (cwV 1 hts gX8_digest_X8_hashKinds rfl rfl rfl (by decide +kernel) ⟨Nat.le_of_ble_eq_true rfl, Nat.le_of_ble_eq_true rfl⟩) ⟨RO8.blind, va_recv hK hP (ci := 8) (q0 := 0) rfl rfl, RO8.pre hPc hK hNW⟩ rfl rfl hl.1 rfl (lv_room (Nat.le_of_ble_eq_true rfl)) dX8_digest_16 ⟨Nat.le_of_ble_eq_true rfl, Nat.le_of_ble_eq_true rfl⟩) ?_
  refine lv_lstore_n (lv' := [(1, .long r16), (0, .ref (a 0))]) hx hb dX8_digest_19 rfl hl (by decide) rfl (fun ls hl => ?_)
  refine lv_aload_n hx hb dX8_digest_20 rfl (lv_at hl 1 rfl) ?_
  refine lv_lload_n hx hb dX8_digest_21 rfl (lv_at hl 0 rfl) ?_
  obtain ⟨r22, hc22, hf⟩ := bi_s hf
  have hPc := hP
  refine cRO (W.runV (As := [.long r16]) (rest := []) ⟨hx, hb, hml, hown, hts⟩ (c_X8_hashTrips l dC dI cI cZ cS f g a M r16 r22 hc22) (cwV 1 hts gX8_digest_X8_hashTrips rfl rfl rfl (by decide +kernel) ⟨Nat.le_of_ble_eq_true rfl, Nat.le_of_ble_eq_true rfl⟩) ⟨RO8.blind, va_recv hK hP (ci := 8) (q0 := 0) rfl rfl, RO8.pre hPc hK hNW⟩ rfl rfl hl.1 rfl (lv_room (Nat.le_of_ble_eq_true rfl)) dX8_digest_22 ⟨Nat.le_of_ble_eq_true rfl, Nat.le_of_ble_eq_true rfl⟩) ?_
  refine lv_lstore_n (lv' := [(1, .long r22), (0, .ref (a 0))]) hx hb dX8_digest_25 rfl hl (by decide) rfl (fun ls hl => ?_)
  refine lv_aload_n hx hb dX8_digest_26 rfl (lv_at hl 1 rfl) ?_
  refine lv_lload_n hx hb dX8_digest_27 rfl (lv_at hl 0 rfl) ?_
  obtain ⟨r28, hc28, hf⟩ := bi_s hf
  have hPc := hP
  have hDc := hD
  have hFc := va_free (wc := (wX8 cI cZ cS f g a M)) hD hS hA [0, 1, 2, 3, 4, 5, 6, 7, 8, 9, 10, 11, 12, 13, 14, 15, 16, 17, 18, 19, 20, 21, 22, 23, 24, 25, 26, 27, 28, 29, 30, 31, 32, 33, 34, 35, 36, 37, 38, 39, 40, 41] rfl
  refine va_calll (va_runV (As := [.long r22]) (rest := []) ⟨hx, hb, hml, hown, hts⟩ (c_X8_hashOrders l dC dI cI cZ cS f g a H.size M r22 r28 hc28) (cwV 1 hts gX8_digest_X8_hashOrders rfl rfl rfl (by decide +kernel) ⟨Nat.le_of_ble_eq_true rfl, Nat.le_of_ble_eq_true rfl⟩) ⟨WR8.blind, va_recv hK hP (ci := 8) (q0 := 0) rfl rfl, WR8.pre hPc hK hDc hNW⟩ rfl rfl hl.1 rfl (lv_room (Nat.le_of_ble_eq_true rfl)) dX8_digest_28 ⟨Nat.le_of_ble_eq_true rfl, Nat.le_of_ble_eq_true rfl⟩) hS (fun q _ h => hFc q h) hFc (fun rv u t H1 locs ht hvm hw hB hz1 hk1 hS => ?_)
  obtain ⟨hP1, hD1⟩ := hB
  rw [ht] at hP1
  subst hw
  have hP := hP1
  have hD := hD1.weaken (fun k q _ h => hFc q.1 h)
  have hP : va_P (dC, dI) vwCl (wX8 cI cZ cS f g a (sr M 41 (r28.2 41))) H1 := hP
  have hD : va_D A (wX8 cI cZ cS f g a (sr M 41 (r28.2 41))) := hD
  generalize H1 = H at hP hS ⊢
  refine lv_lstore_n (lv' := [(1, .long r28.1), (0, .ref (a 0))]) hx hb dX8_digest_31 rfl hl (by decide) rfl (fun ls hl => ?_)
  refine lv_lload_n hx hb dX8_digest_32 rfl (lv_at hl 0 rfl) ?_
  refine lv_aload_n hx hb dX8_digest_33 rfl (lv_at hl 1 rfl) ?_
  refine va_get (D := (dC, dI)) (ci := 8) (v := .ref (a 1)) (C := RX8) (T := TX8) (N := 6) hx hb hts hinX8 hown hK hP 0 rfl rfl 0 (by decide) hw2 (fun _ h9 => h9) rfl dX8_digest_34 ?_
  refine va_getN (D := (dC, dI)) (ci := 6) (v := .ref (a 2)) (C := RX6) (T := TX6) (N := 5) hx hb hts hinX6 hown hK hP 1 rfl rfl 0 (by decide) (nw24 hNW) (fun _ h9 => h9) rfl dX8_digest_37 ?_
  refine va_getN (D := (dC, dI)) (ci := 7) (v := .int (M 2 1)) (C := RX7) (T := TX7) (N := 6) hx hb hts hinX7 hown hK hP 2 rfl rfl 1 (by decide) (nw26 hNW) (fun _ h9 => h9) rfl dX8_digest_40 ?_
  refine lv_iconst (v := (-1 : Int32)) hx hb dX8_digest_43 (by decide) ?_
  refine lv_icmp_ne (tgt := 57) hx hb dX8_digest_44 (by decide) (fun c9 => ?_) (fun c9 => ?_)
  · have hf := it_t hf c9
    refine lv_lconst (v := (0 : Int64)) hx hb dX8_digest_57 (by decide) ?_
    exact hfX8_digest_B58  (sr M 41 (r28.2 41)) r28.1 (0 : Int64) hf _ (lv_sub hl [1] rfl) _ _ hP hD hS
  · have hf := it_n hf c9
    refine lv_aload_n hx hb dX8_digest_47 rfl (lv_at hl 1 rfl) ?_
    obtain ⟨r48, hc48, hf⟩ := bi_s hf
    have hPc := hP
    have hDc := hD
    have hFc := va_free (wc := (wX8 cI cZ cS f g a (sr M 41 (r28.2 41)))) hD hS hA [0, 1, 2, 3, 4, 5, 6, 7, 8, 9, 10, 11, 12, 13, 14, 15, 16, 17, 18, 19, 20, 21, 22, 23, 24, 25, 26, 27, 28, 29, 30, 31, 32, 33, 34, 35, 36, 37, 38, 39, 40, 41] rfl
    refine va_calli (va_runV (As := []) (rest := [.long r28.1]) ⟨hx, hb, hml, hown, hts⟩ (c_X8_findCheapest l dC dI cI cZ cS f g a H.size (sr M 41 (r28.2 41)) r48 hc48) (cwV 0 hts gX8_digest_X8_findCheapest rfl rfl rfl (by decide +kernel) ⟨Nat.le_of_ble_eq_true rfl, Nat.le_of_ble_eq_true rfl⟩) ⟨WR8.blind, va_recv hK hP (ci := 8) (q0 := 0) rfl rfl, WR8.pre hPc hK hDc hNW⟩ rfl rfl hl.1 rfl (lv_room (Nat.le_of_ble_eq_true rfl)) dX8_digest_48 ⟨Nat.le_of_ble_eq_true rfl, Nat.le_of_ble_eq_true rfl⟩) hS (fun q _ h => hFc q h) hFc (fun rv u t H1 locs ht hvm hw hB hz1 hk1 hS => ?_)
    obtain ⟨hP1, hD1⟩ := hB
    rw [ht] at hP1
    subst hw
    have hP := hP1
    have hD := hD1.weaken (fun k q _ h => hFc q.1 h)
    have hP : va_P (dC, dI) vwCl (wX8 cI cZ cS f g a (sr (sr (sr (sr (sr (sr (sr (sr (sr (sr (sr (sr (sr (sr (sr (sr M 17 (r48.2 17)) 18 (r48.2 18)) 19 (r48.2 19)) 20 (r48.2 20)) 21 (r48.2 21)) 22 (r48.2 22)) 23 (r48.2 23)) 24 (r48.2 24)) 25 (r48.2 25)) 27 (r48.2 27)) 28 (r48.2 28)) 29 (r48.2 29)) 30 (r48.2 30)) 31 (r48.2 31)) 32 (r48.2 32)) 41 (r28.2 41))) H1 := hP
    have hD : va_D A (wX8 cI cZ cS f g a (sr (sr (sr (sr (sr (sr (sr (sr (sr (sr (sr (sr (sr (sr (sr (sr M 17 (r48.2 17)) 18 (r48.2 18)) 19 (r48.2 19)) 20 (r48.2 20)) 21 (r48.2 21)) 22 (r48.2 22)) 23 (r48.2 23)) 24 (r48.2 24)) 25 (r48.2 25)) 27 (r48.2 27)) 28 (r48.2 28)) 29 (r48.2 29)) 30 (r48.2 30)) 31 (r48.2 31)) 32 (r48.2 32)) 41 (r28.2 41))) := hD
    generalize H1 = H at hP hS ⊢
    refine lv_iconst (v := (1 : Int32)) hx hb dX8_digest_51 (by decide) ?_
    refine lv_iadd hx hb dX8_digest_52 ?_
    refine lv_i2l (v := (r48.1 + (1 : Int32)).toInt64) hx hb dX8_digest_53 rfl ?_
    refine lv_goto (tgt := 58) hx hb dX8_digest_54 (by decide) ?_
    exact hfX8_digest_B58  (sr (sr (sr (sr (sr (sr (sr (sr (sr (sr (sr (sr (sr (sr (sr (sr M 17 (r48.2 17)) 18 (r48.2 18)) 19 (r48.2 19)) 20 (r48.2 20)) 21 (r48.2 21)) 22 (r48.2 22)) 23 (r48.2 23)) 24 (r48.2 24)) 25 (r48.2 25)) 27 (r48.2 27)) 28 (r48.2 28)) 29 (r48.2 29)) 30 (r48.2 30)) 31 (r48.2 31)) 32 (r48.2 32)) 41 (r28.2 41)) r28.1 ((r48.1 + (1 : Int32)).toInt64) hf _ (lv_sub hl [1] rfl) _ _ hP hD hS
