def fL_act_B50 (C : Nat → Option Mem) (M : Mem) (kb : Mem → Int32 → Int32 → Int32 → Int32 → Int32 → Int32 → Option ((String ⊕ Int32) × Mem × (Nat → Option Mem))) (kx58 : Mem → Int32 → Int32 → Int32 → Int32 → Int32 → Option ((String ⊕ Int32) × Mem × (Nat → Option Mem))) (N : Mem) (l1 : Int32) (l2 : Int32) (l3 : Int32) (l4 : Int32) (l6 : Int32) (s0 : Int32) : Option ((String ⊕ Int32) × Mem × (Nat → Option Mem)) := kb N l1 l2 l3 l4 s0 (l6 + (1 : Int32))
def fL_act_L28 (C : Nat → Option Mem) (M : Mem) : Nat → (Mem → Int32 → Int32 → Int32 → Int32 → Int32 → Option ((String ⊕ Int32) × Mem × (Nat → Option Mem))) → Mem → Int32 → Int32 → Int32 → Int32 → Int32 → Int32 → Option ((String ⊕ Int32) × Mem × (Nat → Option Mem))
  | 0, _, _, _, _, _, _, _, _ => none
  | n + 1, kx58, N, l1, l2, l3, l4, l5, l6 => if l3 ≤ l6 then (kx58 N l1 l2 l3 l4 l5) else ((fX8_isAtWindow N l6).bind fun r37 => sel r37 (fun E9 => some (Sum.inl E9, N, C)) (fun r37 => if r37 = 0 then (fL_act_B50 C M (fun (N : Mem) (l1 : Int32) (l2 : Int32) (l3 : Int32) (l4 : Int32) (l5 : Int32) (l6 : Int32) => fL_act_L28 C M n kx58 N l1 l2 l3 l4 l5 l6) kx58 N l1 l2 l3 l4 l6 l5) else (fL_act_B50 C M (fun (N : Mem) (l1 : Int32) (l2 : Int32) (l3 : Int32) (l4 : Int32) (l5 : Int32) (l6 : Int32) => fL_act_L28 C M n kx58 N l1 l2 l3 l4 l5 l6) kx58 N l1 l2 l3 l4 l6 l6)))
def fL_act_B182 (C : Nat → Option Mem) (M : Mem)  (N : Mem) (l7 : Int32) : Option ((String ⊕ Int32) × Mem × (Nat → Option Mem)) := (fX8_addShelf C N l7).bind fun q185 => sel q185.1 (fun E9 => none) (fun rv => gd (isb (1 : Int32)) (some (Sum.inr (1 : Int32), q185.2.1, q185.2.2)))
def fL_act_B140 (C : Nat → Option Mem) (M : Mem)  (N : Mem) (l2 : Int32) (l3 : Int32) (l5 : Int32) : Option ((String ⊕ Int32) × Mem × (Nat → Option Mem)) := (fL_low  l2 (4 : Int32)).bind fun r143 => if l3 = (9 : Int32) then (gd (isb (0 : Int32)) (some (Sum.inr (0 : Int32), N, C))) else (if 0 ≤ l5 then (gd (isb (0 : Int32)) (some (Sum.inr (0 : Int32), N, C))) else ((fX8_longestGap N (0 : Int32)).bind fun r162 => sel r162 (fun E9 => some (Sum.inl E9, N, C)) (fun r162 => if ((1 : Int32) + r143) ≤ r162 then (fL_act_B182 C M  N ((1 : Int32) + r143)) else ((fX8_longestGap N (1 : Int32)).bind fun r172 => sel r172 (fun E9 => some (Sum.inl E9, N, C)) (fun r172 => if ((1 : Int32) + r143) ≤ r172 then (fL_act_B182 C M  N ((1 : Int32) + r143)) else (gd (isb (0 : Int32)) (some (Sum.inr (0 : Int32), N, C))))))))
def fL_act_B223 (C : Nat → Option Mem) (M : Mem)  (N : Mem) (l4 : Int32) (l5 : Int32) : Option ((String ⊕ Int32) × Mem × (Nat → Option Mem)) := if l5 < 0 then (if 0 ≤ l4 then ((fX8_fetch C N l4).bind fun q245 => sel q245.1 (fun E9 => none) (fun rv => gd (isb (1 : Int32)) (some (Sum.inr (1 : Int32), q245.2.1, q245.2.2)))) else (gd (isb (0 : Int32)) (some (Sum.inr (0 : Int32), N, C)))) else ((fX8_stow C N ).bind fun q229 => sel q229.1 (fun E9 => none) (fun rv => gd (isb (1 : Int32)) (some (Sum.inr (1 : Int32), q229.2.1, q229.2.2))))
def fL_act_B251 (C : Nat → Option Mem) (M : Mem)  (N : Mem) (l2 : Int32) (l5 : Int32) (l6 : Int32) : Option ((String ⊕ Int32) × Mem × (Nat → Option Mem)) := (fL_low  (l2 >>> ((4 : Int32) &&& 31)) (12 : Int32)).bind fun r257 => if l5 < 0 then (gd (isb (0 : Int32)) (some (Sum.inr (0 : Int32), N, C))) else ((fX8_weightOf N l5).bind fun r271 => sel r271 (fun E9 => some (Sum.inl E9, N, C)) (fun r271 => (fX8_weightOfKind N l6).bind fun r279 => sel r279 (fun E9 => some (Sum.inl E9, N, C)) (fun r279 => if (r271 + (((1 : Int32) + r257) * r279)) ≤ (150 : Int32) then ((fX8_fill C N l6 ((1 : Int32) + r257)).bind fun q297 => sel q297.1 (fun E9 => none) (fun rv => gd (isb (1 : Int32)) (some (Sum.inr (1 : Int32), q297.2.1, q297.2.2)))) else (gd (isb (0 : Int32)) (some (Sum.inr (0 : Int32), N, C))))))
def fL_act_B331 (C : Nat → Option Mem) (M : Mem)  (N : Mem) (l2 : Int32) (l6 : Int32) : Option ((String ⊕ Int32) × Mem × (Nat → Option Mem)) := (fX8_orders N ).bind fun r332 => if ¬ r332 = (8 : Int32) then ((fX8_clearBuffer N ).bind fun r343 => (fX8_append (sr N 36 (r343.2 36)) ((48 : Int32) + l6)).bind fun q353 => sel q353.1 (fun E9 => some (Sum.inl E9, (sr (sr N 36 (q353.2 36)) 37 (q353.2 37)), C)) (fun r353 => (fX8_append (sr (sr N 36 (q353.2 36)) 37 (q353.2 37)) (42 : Int32)).bind fun q360 => sel q360.1 (fun E9 => some (Sum.inl E9, (sr (sr N 36 (q360.2 36)) 37 (q360.2 37)), C)) (fun r360 => (fL_low  (l2 >>> ((4 : Int32) &&& 31)) (9 : Int32)).bind fun r372 => (fX8_append (sr (sr N 36 (q360.2 36)) 37 (q360.2 37)) ((49 : Int32) + r372)).bind fun q376 => sel q376.1 (fun E9 => some (Sum.inl E9, (sr (sr N 36 (q376.2 36)) 37 (q376.2 37)), C)) (fun r376 => (fX8_accept C (sr (sr N 36 (q376.2 36)) 37 (q376.2 37)) ).bind fun q381 => sel q381.1 (fun E9 => none) (fun rv => gd (isb (1 : Int32)) (some (Sum.inr (1 : Int32), q381.2.1, q381.2.2))))))) else (gd (isb (0 : Int32)) (some (Sum.inr (0 : Int32), N, C)))
def fL_act_B20 (C : Nat → Option Mem) (M : Mem)  (N : Mem) (l1 : Int32) (l2 : Int32) (l3 : Int32) (s0 : Int32) : Option ((String ⊕ Int32) × Mem × (Nat → Option Mem)) := fL_act_L28 C M 5000 (fun (N : Mem) (l1 : Int32) (l2 : Int32) (l3 : Int32) (l4 : Int32) (l5 : Int32) => (fL_low  l2 (10 : Int32)).bind fun r61 => (if (l1 &&& (15 : Int32)) = (0 : Int32) then (fL_act_B140 C M  N l2 l3 l5) else (if (l1 &&& (15 : Int32)) = (1 : Int32) then (fL_act_B140 C M  N l2 l3 l5) else (if (l1 &&& (15 : Int32)) = (2 : Int32) then (fL_act_B140 C M  N l2 l3 l5) else (if (l1 &&& (15 : Int32)) = (3 : Int32) then (if l4 < 0 then (gd (isb (0 : Int32)) (some (Sum.inr (0 : Int32), N, C))) else (if l4 = l5 then (gd (isb (0 : Int32)) (some (Sum.inr (0 : Int32), N, C))) else ((fX8_weightOf N l4).bind fun r206 => sel r206 (fun E9 => some (Sum.inl E9, N, C)) (fun r206 => if r206 ≤ 0 then ((fX8_scrap C N l4).bind fun q217 => sel q217.1 (fun E9 => none) (fun rv => gd (isb (1 : Int32)) (some (Sum.inr (1 : Int32), q217.2.1, q217.2.2)))) else (gd (isb (0 : Int32)) (some (Sum.inr (0 : Int32), N, C))))))) else (if (l1 &&& (15 : Int32)) = (4 : Int32) then (fL_act_B223 C M  N l4 l5) else (if (l1 &&& (15 : Int32)) = (5 : Int32) then (fL_act_B223 C M  N l4 l5) else (if (l1 &&& (15 : Int32)) = (6 : Int32) then (fL_act_B251 C M  N l2 l5 r61) else (if (l1 &&& (15 : Int32)) = (7 : Int32) then (fL_act_B251 C M  N l2 l5 r61) else (if (l1 &&& (15 : Int32)) = (8 : Int32) then (fL_act_B251 C M  N l2 l5 r61) else (if (l1 &&& (15 : Int32)) = (9 : Int32) then (if l5 < 0 then (gd (isb (0 : Int32)) (some (Sum.inr (0 : Int32), N, C))) else ((fX8_thingsIn N l5 r61).bind fun r313 => sel r313 (fun E9 => some (Sum.inl E9, N, C)) (fun r313 => if ¬ r313 = 0 then ((fX8_take C N r61 (1 : Int32)).bind fun q325 => sel q325.1 (fun E9 => none) (fun rv => gd (isb (1 : Int32)) (some (Sum.inr (1 : Int32), q325.2.1, q325.2.2)))) else (gd (isb (0 : Int32)) (some (Sum.inr (0 : Int32), N, C)))))) else (if (l1 &&& (15 : Int32)) = (10 : Int32) then (fL_act_B331 C M  N l2 r61) else (if (l1 &&& (15 : Int32)) = (11 : Int32) then (fL_act_B331 C M  N l2 r61) else (if (l1 &&& (15 : Int32)) = (12 : Int32) then ((fX8_turnRule C N ).bind fun q388 => sel q388.1 (fun E9 => none) (fun rv => gd (isb (1 : Int32)) (some (Sum.inr (1 : Int32), q388.2.1, q388.2.2)))) else (if (l1 &&& (15 : Int32)) = (13 : Int32) then ((fL_low  (l2 >>> ((4 : Int32) &&& 31)) (100 : Int32)).bind fun r402 => (fX8_changeLeast C N r61 r402).bind fun q405 => sel q405.1 (fun E9 => none) (fun rv => gd (isb (1 : Int32)) (some (Sum.inr (1 : Int32), q405.2.1, q405.2.2)))) else (if l5 < 0 then ((fX8_serveAll C N ).bind fun q419 => sel q419.1 (fun E9 => none) (fun rv => gd (isb (1 : Int32)) (some (Sum.inr (1 : Int32), q419.2.1, q419.2.2)))) else (gd (isb (0 : Int32)) (some (Sum.inr (0 : Int32), N, C))))))))))))))))))) N l1 l2 l3 s0 (-1 : Int32) (0 : Int32)
def fL_act (C : Nat → Option Mem) (M : Mem) (a1 : Int32) (a2 : Int32) : Option ((String ⊕ Int32) × Mem × (Nat → Option Mem)) := (fX8_shelves M ).bind fun r1 => if ¬ r1 = 0 then ((fL_low  (a1 >>> ((4 : Int32) &&& 31)) r1).bind fun r17 => fL_act_B20 C M  M a1 a2 r1 r17) else (fL_act_B20 C M  M a1 a2 r1 (-1 : Int32))
set_option maxHeartbeats 4000000 in
set_option maxRecDepth 100000 in
theorem n_L_act (l : Launch) (dC : Nat → ClassId) (dI : Nat → Nat → Nat) (cI cZ cS : ClassId) (hs : HS) (a : Nat → Nat) (sz : Nat) (M : Mem) (a1 : Int32) (a2 : Int32) (z1 : Int32) (z2 : Mem) (z3 : Nat → Option Mem) (hf : fL_act (cts hs) M a1 a2 = some (Sum.inr z1, z2, z3)) : Met l yL_act wsL_act ({ frames := 7, cells := 16, slots := 316, locals := 176 } : Room) (va_Pc [.ref (a 0), .int a1, .int a2] (WR8 (dC, dI) cI cZ cS (wX8 cI cZ cS (fS hs) (fG hs) a M ++ RW cI cZ hs) sz)) (va_Qi (S := HS) (fun r hs' => r = z1 ∧ cts hs' = z3) (fun hs' t => WE (dC, dI) cI cZ (wX8 cI cZ cS (fS hs') (fG hs') a z2 ++ RW cI cZ hs') (va_A (wX8 cI cZ cS (fS hs) (fG hs) a M ++ RW cI cZ hs) sz) t) (va_A (wX8 cI cZ cS (fS hs) (fG hs) a M ++ RW cI cZ hs) sz)) 16 316 (va_A (wX8 cI cZ cS (fS hs) (fG hs) a M ++ RW cI cZ hs) sz) := by
  refine Met.ofW (cc := cL_act) (maxL := 9) (ret := (some .boolean)) (by decide) rfl ?_
  intro p e s m args below meth c s₁ B hml hv
  obtain ⟨rfl, hsz, hP, hK, hD0, hNW⟩ := hv
  have hx := B.exec
  have hb := B.bytes
  have hr := B.returns
  have hts := atoms_spec (ws := wsL_act) B.pre
  have hown : s.vm.findClass RL = some m.cls := findClass_of_methodNamed B.named
  have hlocks := B.notSynchronized
  have hK2 : va_K (dC, dI) vwCl [(cI, .int), (cZ, .boolean)] s := hK.sub (tys' := [(cI, .int), (cZ, .boolean)]) [0, 1] rfl
  subst hsz
  have hD := hD0.self (sz := s.heap.size)
  generalize hAe : va_A (wX8 cI cZ cS (fS hs) (fG hs) a M ++ RW cI cZ hs) s.heap.size = A at hD ⊢
  have hA : ∀ q : Nat, s.heap.size ≤ q → A q := fun q h => by rw [← hAe]; exact Or.inr h
  have hS : va_S A s.heap s.heap [] := va_S.rf
  have hfL_act_B50 : ∀ (kb : Mem → Int32 → Int32 → Int32 → Int32 → Int32 → Int32 → Option ((String ⊕ Int32) × Mem × (Nat → Option Mem))) (hkb : ∀ (N : Mem) (l1 : Int32) (l2 : Int32) (l3 : Int32) (l4 : Int32) (l5 : Int32) (l6 : Int32), kb N l1 l2 l3 l4 l5 l6 = some (Sum.inr z1, z2, z3) → ∀ (ls : Array Slot), lv_has ls 9 [(0, .ref (a 0)), (1, .int l1), (2, .int l2), (3, .int l3), (4, .int l4), (5, .int l5), (6, .int l6)] → ∀ (H : Heap) (locs : List Loc), va_P (dC, dI) vwCl (wX8 cI cZ cS (fS hs) (fG hs) a N ++ RW cI cZ hs) H → va_D A (wX8 cI cZ cS (fS hs) (fG hs) a N ++ RW cI cZ hs) → va_S A s.heap H locs → W p l e (headSpec wsL_act ({ frames := 7, cells := 16, slots := 316, locals := 176 } : Room)).room s m ([.ref (a 0), .int a1, .int a2] : List Value).toArray below meth c H locs 0 0 (MQ below (va_Qi (S := HS) (fun r hs' => r = z1 ∧ cts hs' = z3) (fun hs' t => WE (dC, dI) cI cZ (wX8 cI cZ cS (fS hs') (fG hs') a z2 ++ RW cI cZ hs') A t) A) ([.ref (a 0), .int a1, .int a2] : List Value).toArray s 16 316 A) (F0 m 28 ls [])) (kx58 : Mem → Int32 → Int32 → Int32 → Int32 → Int32 → Option ((String ⊕ Int32) × Mem × (Nat → Option Mem))) (hkx58 : ∀ (N : Mem) (l1 : Int32) (l2 : Int32) (l3 : Int32) (l4 : Int32) (l5 : Int32), kx58 N l1 l2 l3 l4 l5 = some (Sum.inr z1, z2, z3) → ∀ (ls : Array Slot), lv_has ls 9 [(0, .ref (a 0)), (1, .int l1), (2, .int l2), (3, .int l3), (4, .int l4), (5, .int l5)] → ∀ (H : Heap) (locs : List Loc), va_P (dC, dI) vwCl (wX8 cI cZ cS (fS hs) (fG hs) a N ++ RW cI cZ hs) H → va_D A (wX8 cI cZ cS (fS hs) (fG hs) a N ++ RW cI cZ hs) → va_S A s.heap H locs → W p l e (headSpec wsL_act ({ frames := 7, cells := 16, slots := 316, locals := 176 } : Room)).room s m ([.ref (a 0), .int a1, .int a2] : List Value).toArray below meth c H locs 0 0 (MQ below (va_Qi (S := HS) (fun r hs' => r = z1 ∧ cts hs' = z3) (fun hs' t => WE (dC, dI) cI cZ (wX8 cI cZ cS (fS hs') (fG hs') a z2 ++ RW cI cZ hs') A t) A) ([.ref (a 0), .int a1, .int a2] : List Value).toArray s 16 316 A) (F0 m 58 ls [])), ∀ (N : Mem) (l1 : Int32) (l2 : Int32) (l3 : Int32) (l4 : Int32) (l6 : Int32) (s0 : Int32), fL_act_B50 (cts hs) M kb kx58 N l1 l2 l3 l4 l6 s0 = some (Sum.inr z1, z2, z3) → ∀ (ls : Array Slot), lv_has ls 9 [(0, .ref (a 0)), (1, .int l1), (2, .int l2), (3, .int l3), (4, .int l4), (6, .int l6)] → ∀ (H : Heap) (locs : List Loc), va_P (dC, dI) vwCl (wX8 cI cZ cS (fS hs) (fG hs) a N ++ RW cI cZ hs) H → va_D A (wX8 cI cZ cS (fS hs) (fG hs) a N ++ RW cI cZ hs) → va_S A s.heap H locs → W p l e (headSpec wsL_act ({ frames := 7, cells := 16, slots := 316, locals := 176 } : Room)).room s m ([.ref (a 0), .int a1, .int a2] : List Value).toArray below meth c H locs 0 0 (MQ below (va_Qi (S := HS) (fun r hs' => r = z1 ∧ cts hs' = z3) (fun hs' t => WE (dC, dI) cI cZ (wX8 cI cZ cS (fS hs') (fG hs') a z2 ++ RW cI cZ hs') A t) A) ([.ref (a 0), .int a1, .int a2] : List Value).toArray s 16 316 A) (F0 m 50 ls [.int s0]) := by
    intro kb hkb kx58 hkx58 N l1 l2 l3 l4 l6 s0 hf ls hl H locs hP hD hS
    unfold fL_act_B50 at hf
    refine lv_istore (lv' := [(5, .int s0), (0, .ref (a 0)), (1, .int l1), (2, .int l2), (3, .int l3), (4, .int l4), (6, .int l6)]) hx hb dL_act_50 hl (by decide) rfl (fun ls hl => ?_)
    refine lv_iinc (v := (l6 + (1 : Int32))) (lv' := [(6, .int (l6 + (1 : Int32))), (5, .int s0), (0, .ref (a 0)), (1, .int l1), (2, .int l2), (3, .int l3), (4, .int l4)]) hx hb dL_act_52 hl (k := 6) rfl rfl (by decide) rfl (fun ls hl => ?_)
    refine lv_goto (tgt := 28) hx hb dL_act_55 (by decide) ?_
    exact hkb N l1 l2 l3 l4 s0 (l6 + (1 : Int32)) hf _ (lv_sub hl [2, 3, 4, 5, 6, 1, 0] rfl) _ _ hP hD hS
  have hfL_act_L28 : ∀ (n : Nat) (kx58 : Mem → Int32 → Int32 → Int32 → Int32 → Int32 → Option ((String ⊕ Int32) × Mem × (Nat → Option Mem))) (hkx58 : ∀ (N : Mem) (l1 : Int32) (l2 : Int32) (l3 : Int32) (l4 : Int32) (l5 : Int32), kx58 N l1 l2 l3 l4 l5 = some (Sum.inr z1, z2, z3) → ∀ (ls : Array Slot), lv_has ls 9 [(0, .ref (a 0)), (1, .int l1), (2, .int l2), (3, .int l3), (4, .int l4), (5, .int l5)] → ∀ (H : Heap) (locs : List Loc), va_P (dC, dI) vwCl (wX8 cI cZ cS (fS hs) (fG hs) a N ++ RW cI cZ hs) H → va_D A (wX8 cI cZ cS (fS hs) (fG hs) a N ++ RW cI cZ hs) → va_S A s.heap H locs → W p l e (headSpec wsL_act ({ frames := 7, cells := 16, slots := 316, locals := 176 } : Room)).room s m ([.ref (a 0), .int a1, .int a2] : List Value).toArray below meth c H locs 0 0 (MQ below (va_Qi (S := HS) (fun r hs' => r = z1 ∧ cts hs' = z3) (fun hs' t => WE (dC, dI) cI cZ (wX8 cI cZ cS (fS hs') (fG hs') a z2 ++ RW cI cZ hs') A t) A) ([.ref (a 0), .int a1, .int a2] : List Value).toArray s 16 316 A) (F0 m 58 ls [])), ∀ (N : Mem) (l1 : Int32) (l2 : Int32) (l3 : Int32) (l4 : Int32) (l5 : Int32) (l6 : Int32), fL_act_L28 (cts hs) M n kx58 N l1 l2 l3 l4 l5 l6 = some (Sum.inr z1, z2, z3) → ∀ (ls : Array Slot), lv_has ls 9 [(0, .ref (a 0)), (1, .int l1), (2, .int l2), (3, .int l3), (4, .int l4), (5, .int l5), (6, .int l6)] → ∀ (H : Heap) (locs : List Loc), va_P (dC, dI) vwCl (wX8 cI cZ cS (fS hs) (fG hs) a N ++ RW cI cZ hs) H → va_D A (wX8 cI cZ cS (fS hs) (fG hs) a N ++ RW cI cZ hs) → va_S A s.heap H locs → W p l e (headSpec wsL_act ({ frames := 7, cells := 16, slots := 316, locals := 176 } : Room)).room s m ([.ref (a 0), .int a1, .int a2] : List Value).toArray below meth c H locs 0 0 (MQ below (va_Qi (S := HS) (fun r hs' => r = z1 ∧ cts hs' = z3) (fun hs' t => WE (dC, dI) cI cZ (wX8 cI cZ cS (fS hs') (fG hs') a z2 ++ RW cI cZ hs') A t) A) ([.ref (a 0), .int a1, .int a2] : List Value).toArray s 16 316 A) (F0 m 28 ls []) := by
    intro n
    induction n with
    | zero =>
      intro kx58 hkx58 N l1 l2 l3 l4 l5 l6 hf ls hl H locs hP hD hS
      rw [fL_act_L28] at hf
      cases hf
    | succ n ih =>
      intro kx58 hkx58 N l1 l2 l3 l4 l5 l6 hf ls hl H locs hP hD hS
      rw [fL_act_L28] at hf
      refine lv_iload hx hb dL_act_28 (lv_at hl 6 rfl) ?_
      refine lv_iload_n hx hb dL_act_30 rfl (lv_at hl 3 rfl) ?_
      refine lv_icmp_ge (tgt := 58) hx hb dL_act_31 (by decide) (fun c9 => ?_) (fun c9 => ?_)
      · have hf := it_t hf c9
        exact hkx58 N l1 l2 l3 l4 l5 hf _ (lv_sub hl [0, 1, 2, 3, 4, 5] rfl) _ _ hP hD hS
      · have hf := it_f hf c9
        refine lv_aload_n hx hb dL_act_34 rfl (lv_at hl 0 rfl) ?_
        refine lv_iload hx hb dL_act_35 (lv_at hl 6 rfl) ?_
        obtain ⟨r37, hc37, hf⟩ := bi_s hf
        rcases r37 with E9 | r37
        · have e9 := so_e hf
          cases e9
        have hf := sel_r hf
        refine cRO (W.runV (As := [.int l6]) (rest := []) ⟨hx, hb, hml, hown, hts⟩ (n_X8_isAtWindow l dC dI cI cZ cS (fS hs) (fG hs) a N l6 r37 hc37) (cwV 1 hts gL_act_X8_isAtWindow rfl rfl rfl (by decide +kernel) ⟨Nat.le_of_ble_eq_true rfl, Nat.le_of_ble_eq_true rfl⟩) ⟨RO8.blind, va_recv hK hP (ci := 8) (q0 := 0) rfl rfl, RO8.pre (P_app hP).1 hK hNW⟩ rfl rfl hl.1 rfl (lv_room (Nat.le_of_ble_eq_true rfl)) dL_act_37 ⟨Nat.le_of_ble_eq_true rfl, Nat.le_of_ble_eq_true rfl⟩) ?_
        refine lv_if_eq (tgt := 48) hx hb dL_act_40 (by decide) (fun c9 => ?_) (fun c9 => ?_)
        · have hf := it_t hf c9
          refine lv_iload hx hb dL_act_48 (lv_at hl 5 rfl) ?_
          exact hfL_act_B50 _ (ih kx58 hkx58) _ hkx58 N l1 l2 l3 l4 l6 l5 hf _ (lv_sub hl [0, 1, 2, 3, 4, 6] rfl) _ _ hP hD hS
        · have hf := it_f hf c9
          refine lv_iload hx hb dL_act_43 (lv_at hl 6 rfl) ?_
          refine lv_goto (tgt := 50) hx hb dL_act_45 (by decide) ?_
          exact hfL_act_B50 _ (ih kx58 hkx58) _ hkx58 N l1 l2 l3 l4 l6 l6 hf _ (lv_sub hl [0, 1, 2, 3, 4, 6] rfl) _ _ hP hD hS
  have hfL_act_B182 : ∀ (N : Mem) (l7 : Int32), fL_act_B182 (cts hs) M  N l7 = some (Sum.inr z1, z2, z3) → ∀ (ls : Array Slot), lv_has ls 9 [(0, .ref (a 0)), (7, .int l7)] → ∀ (H : Heap) (locs : List Loc), va_P (dC, dI) vwCl (wX8 cI cZ cS (fS hs) (fG hs) a N ++ RW cI cZ hs) H → va_D A (wX8 cI cZ cS (fS hs) (fG hs) a N ++ RW cI cZ hs) → va_S A s.heap H locs → W p l e (headSpec wsL_act ({ frames := 7, cells := 16, slots := 316, locals := 176 } : Room)).room s m ([.ref (a 0), .int a1, .int a2] : List Value).toArray below meth c H locs 0 0 (MQ below (va_Qi (S := HS) (fun r hs' => r = z1 ∧ cts hs' = z3) (fun hs' t => WE (dC, dI) cI cZ (wX8 cI cZ cS (fS hs') (fG hs') a z2 ++ RW cI cZ hs') A t) A) ([.ref (a 0), .int a1, .int a2] : List Value).toArray s 16 316 A) (F0 m 182 ls []) := by
    intro  N l7 hf ls hl H locs hP hD hS
    unfold fL_act_B182 at hf
    refine lv_aload_n hx hb dL_act_182 rfl (lv_at hl 0 rfl) ?_
    refine lv_iload hx hb dL_act_183 (lv_at hl 1 rfl) ?_
    obtain ⟨⟨r185, N185, C185⟩, hc185, hf⟩ := bi_s hf
    rcases r185 with E9 | r185
    · exact absurd hf (fun h => nomatch h)
    have hf := sel_r hf
    have hPc := hP.part (X := (wX8 cI cZ cS (fS hs) (fG hs) a N)) (cx := (wX8 cI cZ cS (fS hs) (fG hs) a N)) [0, 1, 2, 3, 4, 5, 6, 7, 8, 9, 10, 11, 12, 13, 14, 15, 16, 17, 18, 19, 20, 21, 22, 23, 24, 25, 26, 27, 28, 29, 30, 31, 32, 33, 34, 35, 36, 37, 38, 39, 40, 41] rfl
    have hDc := hD.part (X := (wX8 cI cZ cS (fS hs) (fG hs) a N)) (cx := (wX8 cI cZ cS (fS hs) (fG hs) a N)) [0, 1, 2, 3, 4, 5, 6, 7, 8, 9, 10, 11, 12, 13, 14, 15, 16, 17, 18, 19, 20, 21, 22, 23, 24, 25, 26, 27, 28, 29, 30, 31, 32, 33, 34, 35, 36, 37, 38, 39, 40, 41] (by decide) rfl
    have hFc := va_freeP (X := (wX8 cI cZ cS (fS hs) (fG hs) a N)) (cx := (wX8 cI cZ cS (fS hs) (fG hs) a N)) hD hS hA [0, 1, 2, 3, 4, 5, 6, 7, 8, 9, 10, 11, 12, 13, 14, 15, 16, 17, 18, 19, 20, 21, 22, 23, 24, 25, 26, 27, 28, 29, 30, 31, 32, 33, 34, 35, 36, 37, 38, 39, 40, 41] rfl
    refine va_calli (va_runV (As := [.int l7]) (rest := []) ⟨hx, hb, hml, hown, hts⟩ (n_X8_addShelf l dC dI cI cZ cS hs a H.size N l7 r185 N185 C185 hc185) (cwV 1 hts gL_act_X8_addShelf rfl rfl rfl (by decide +kernel) ⟨Nat.le_of_ble_eq_true rfl, Nat.le_of_ble_eq_true rfl⟩) ⟨WR8.blind, va_recv hK hP (ci := 8) (q0 := 0) rfl rfl, WR8.pre hPc hK hDc hNW⟩ rfl rfl hl.1 rfl (lv_room (Nat.le_of_ble_eq_true rfl)) dL_act_185 ⟨Nat.le_of_ble_eq_true rfl, Nat.le_of_ble_eq_true rfl⟩) hS (fun q _ h => hFc q h) hFc (fun rv hs1 t H1 locs ht hvm hw hB hz1 hk1 hS => ?_)
    obtain ⟨hw1, hh1⟩ := hw
    subst hw1
    obtain ⟨hP1, hD1⟩ := hB
    rw [ht] at hP1
    have hP := hP1
    have hD := hD1.weaken (fun k q _ h => hFc q.1 h)
    have hP : va_P (dC, dI) vwCl (wX8 cI cZ cS (fS hs1) (fG hs1) a N185 ++ RW cI cZ hs1) H1 := hP
    have hD : va_D A (wX8 cI cZ cS (fS hs1) (fG hs1) a N185 ++ RW cI cZ hs1) := hD
    generalize H1 = H at hP hS ⊢
    refine lv_pop hx hb dL_act_188 rfl ?_
    refine lv_iconst (v := (1 : Int32)) hx hb dL_act_189 (by decide) ?_
    obtain ⟨hz, hf⟩ := gd_s hf
    have e9 := so_e hf
    cases e9
    exact W.zret hx hb hr (isb_nar hz) (fun t ht hW => ⟨⟨_, hs1, rfl, ⟨rfl, hh1⟩, WE.mk hP hD ht⟩, hS.F ht⟩) hS.2.2 dL_act_190
  have hfL_act_B140 : ∀ (N : Mem) (l2 : Int32) (l3 : Int32) (l5 : Int32), fL_act_B140 (cts hs) M  N l2 l3 l5 = some (Sum.inr z1, z2, z3) → ∀ (ls : Array Slot), lv_has ls 9 [(0, .ref (a 0)), (2, .int l2), (3, .int l3), (5, .int l5)] → ∀ (H : Heap) (locs : List Loc), va_P (dC, dI) vwCl (wX8 cI cZ cS (fS hs) (fG hs) a N ++ RW cI cZ hs) H → va_D A (wX8 cI cZ cS (fS hs) (fG hs) a N ++ RW cI cZ hs) → va_S A s.heap H locs → W p l e (headSpec wsL_act ({ frames := 7, cells := 16, slots := 316, locals := 176 } : Room)).room s m ([.ref (a 0), .int a1, .int a2] : List Value).toArray below meth c H locs 0 0 (MQ below (va_Qi (S := HS) (fun r hs' => r = z1 ∧ cts hs' = z3) (fun hs' t => WE (dC, dI) cI cZ (wX8 cI cZ cS (fS hs') (fG hs') a z2 ++ RW cI cZ hs') A t) A) ([.ref (a 0), .int a1, .int a2] : List Value).toArray s 16 316 A) (F0 m 140 ls []) := by
    intro  N l2 l3 l5 hf ls hl H locs hP hD hS
    unfold fL_act_B140 at hf
    refine lv_iconst (v := (1 : Int32)) hx hb dL_act_140 (by decide) ?_
    refine lv_iload_n hx hb dL_act_141 rfl (lv_at hl 1 rfl) ?_
    refine lv_iconst (v := (4 : Int32)) hx hb dL_act_142 (by decide) ?_
    obtain ⟨r143, hc143, hf⟩ := bi_s hf
    refine cRO (W.runS (As := [.int l2, .int (4 : Int32)]) (rest := [.int (1 : Int32)]) ⟨hx, hb, hml, hown, hts⟩ (c_L_low l l2 (4 : Int32) r143 hc143) (va_cwS 2 hts gL_act_L_low rfl rfl rfl (by decide +kernel) ⟨Nat.le_of_ble_eq_true rfl, Nat.le_of_ble_eq_true rfl⟩) ⟨tr_blind, tr_pre⟩ rfl rfl hl.1 rfl (lv_room (Nat.le_of_ble_eq_true rfl)) dL_act_143 ⟨Nat.le_of_ble_eq_true rfl, Nat.le_of_ble_eq_true rfl⟩) ?_
    refine lv_iadd hx hb dL_act_146 ?_
    refine lv_istore (lv' := [(7, .int ((1 : Int32) + r143)), (0, .ref (a 0)), (2, .int l2), (3, .int l3), (5, .int l5)]) hx hb dL_act_147 hl (by decide) rfl (fun ls hl => ?_)
    refine lv_iload_n hx hb dL_act_149 rfl (lv_at hl 3 rfl) ?_
    refine lv_bipush (v := (9 : Int32)) hx hb dL_act_150 (by decide) ?_
    refine lv_icmp_eq (tgt := 180) hx hb dL_act_152 (by decide) (fun c9 => ?_) (fun c9 => ?_)
    · have hf := it_t hf c9
      refine lv_iconst (v := (0 : Int32)) hx hb dL_act_180 (by decide) ?_
      obtain ⟨hz, hf⟩ := gd_s hf
      have e9 := so_e hf
      cases e9
      refine W.widen (k := 16) (n := 316) (by decide) (by decide) ?_
      exact W.zret hx hb hr (isb_nar hz) (fun t ht hW => ⟨⟨_, hs, rfl, ⟨rfl, rfl⟩, WE.mk hP hD ht⟩, hS.F ht⟩) hS.2.2 dL_act_181
    · have hf := it_f hf c9
      refine lv_iload hx hb dL_act_155 (lv_at hl 4 rfl) ?_
      refine lv_if_ge (tgt := 180) hx hb dL_act_157 (by decide) (fun c9 => ?_) (fun c9 => ?_)
      · have hf := it_t hf c9
        refine lv_iconst (v := (0 : Int32)) hx hb dL_act_180 (by decide) ?_
        obtain ⟨hz, hf⟩ := gd_s hf
        have e9 := so_e hf
        cases e9
        refine W.widen (k := 16) (n := 316) (by decide) (by decide) ?_
        exact W.zret hx hb hr (isb_nar hz) (fun t ht hW => ⟨⟨_, hs, rfl, ⟨rfl, rfl⟩, WE.mk hP hD ht⟩, hS.F ht⟩) hS.2.2 dL_act_181
      · have hf := it_f hf c9
        refine lv_aload_n hx hb dL_act_160 rfl (lv_at hl 1 rfl) ?_
        refine lv_iconst (v := (0 : Int32)) hx hb dL_act_161 (by decide) ?_
        obtain ⟨r162, hc162, hf⟩ := bi_s hf
        rcases r162 with E9 | r162
        · have e9 := so_e hf
          cases e9
        have hf := sel_r hf
        refine cRO (W.runV (As := [.int (0 : Int32)]) (rest := []) ⟨hx, hb, hml, hown, hts⟩ (n_X8_longestGap l dC dI cI cZ cS (fS hs) (fG hs) a N (0 : Int32) r162 hc162) (cwV 1 hts gL_act_X8_longestGap rfl rfl rfl (by decide +kernel) ⟨Nat.le_of_ble_eq_true rfl, Nat.le_of_ble_eq_true rfl⟩) ⟨RO8.blind, va_recv hK hP (ci := 8) (q0 := 0) rfl rfl, RO8.pre (P_app hP).1 hK hNW⟩ rfl rfl hl.1 rfl (lv_room (Nat.le_of_ble_eq_true rfl)) dL_act_162 ⟨Nat.le_of_ble_eq_true rfl, Nat.le_of_ble_eq_true rfl⟩) ?_
        refine lv_iload hx hb dL_act_165 (lv_at hl 0 rfl) ?_
        refine lv_icmp_ge (tgt := 182) hx hb dL_act_167 (by decide) (fun c9 => ?_) (fun c9 => ?_)
        · have hf := it_t hf c9
          exact hfL_act_B182  N ((1 : Int32) + r143) hf _ (lv_sub hl [1, 0] rfl) _ _ hP hD hS
        · have hf := it_f hf c9
          refine lv_aload_n hx hb dL_act_170 rfl (lv_at hl 1 rfl) ?_
          refine lv_iconst (v := (1 : Int32)) hx hb dL_act_171 (by decide) ?_
          obtain ⟨r172, hc172, hf⟩ := bi_s hf
          rcases r172 with E9 | r172
          · have e9 := so_e hf
            cases e9
          have hf := sel_r hf
          refine cRO (W.runV (As := [.int (1 : Int32)]) (rest := []) ⟨hx, hb, hml, hown, hts⟩ (n_X8_longestGap l dC dI cI cZ cS (fS hs) (fG hs) a N (1 : Int32) r172 hc172) (cwV 1 hts gL_act_X8_longestGap rfl rfl rfl (by decide +kernel) ⟨Nat.le_of_ble_eq_true rfl, Nat.le_of_ble_eq_true rfl⟩) ⟨RO8.blind, va_recv hK hP (ci := 8) (q0 := 0) rfl rfl, RO8.pre (P_app hP).1 hK hNW⟩ rfl rfl hl.1 rfl (lv_room (Nat.le_of_ble_eq_true rfl)) dL_act_172 ⟨Nat.le_of_ble_eq_true rfl, Nat.le_of_ble_eq_true rfl⟩) ?_
          refine lv_iload hx hb dL_act_175 (lv_at hl 0 rfl) ?_
          refine lv_icmp_ge (tgt := 182) hx hb dL_act_177 (by decide) (fun c9 => ?_) (fun c9 => ?_)
          · have hf := it_t hf c9
            exact hfL_act_B182  N ((1 : Int32) + r143) hf _ (lv_sub hl [1, 0] rfl) _ _ hP hD hS
          · have hf := it_f hf c9
            refine lv_iconst (v := (0 : Int32)) hx hb dL_act_180 (by decide) ?_
            obtain ⟨hz, hf⟩ := gd_s hf
            have e9 := so_e hf
            cases e9
            refine W.widen (k := 16) (n := 316) (by decide) (by decide) ?_
            exact W.zret hx hb hr (isb_nar hz) (fun t ht hW => ⟨⟨_, hs, rfl, ⟨rfl, rfl⟩, WE.mk hP hD ht⟩, hS.F ht⟩) hS.2.2 dL_act_181
  have hfL_act_B223 : ∀ (N : Mem) (l4 : Int32) (l5 : Int32), fL_act_B223 (cts hs) M  N l4 l5 = some (Sum.inr z1, z2, z3) → ∀ (ls : Array Slot), lv_has ls 9 [(0, .ref (a 0)), (4, .int l4), (5, .int l5)] → ∀ (H : Heap) (locs : List Loc), va_P (dC, dI) vwCl (wX8 cI cZ cS (fS hs) (fG hs) a N ++ RW cI cZ hs) H → va_D A (wX8 cI cZ cS (fS hs) (fG hs) a N ++ RW cI cZ hs) → va_S A s.heap H locs → W p l e (headSpec wsL_act ({ frames := 7, cells := 16, slots := 316, locals := 176 } : Room)).room s m ([.ref (a 0), .int a1, .int a2] : List Value).toArray below meth c H locs 0 0 (MQ below (va_Qi (S := HS) (fun r hs' => r = z1 ∧ cts hs' = z3) (fun hs' t => WE (dC, dI) cI cZ (wX8 cI cZ cS (fS hs') (fG hs') a z2 ++ RW cI cZ hs') A t) A) ([.ref (a 0), .int a1, .int a2] : List Value).toArray s 16 316 A) (F0 m 223 ls []) := by
    intro  N l4 l5 hf ls hl H locs hP hD hS
    unfold fL_act_B223 at hf
    refine lv_iload hx hb dL_act_223 (lv_at hl 2 rfl) ?_
    refine lv_if_lt (tgt := 235) hx hb dL_act_225 (by decide) (fun c9 => ?_) (fun c9 => ?_)
    · have hf := it_t hf c9
      refine lv_iload hx hb dL_act_235 (lv_at hl 1 rfl) ?_
      refine lv_if_ge (tgt := 242) hx hb dL_act_237 (by decide) (fun c9 => ?_) (fun c9 => ?_)
      · have hf := it_t hf c9
        refine lv_aload_n hx hb dL_act_242 rfl (lv_at hl 0 rfl) ?_
        refine lv_iload hx hb dL_act_243 (lv_at hl 1 rfl) ?_
        obtain ⟨⟨r245, N245, C245⟩, hc245, hf⟩ := bi_s hf
        rcases r245 with E9 | r245
        · exact absurd hf (fun h => nomatch h)
        have hf := sel_r hf
        have hPc := hP.part (X := (wX8 cI cZ cS (fS hs) (fG hs) a N)) (cx := (wX8 cI cZ cS (fS hs) (fG hs) a N)) [0, 1, 2, 3, 4, 5, 6, 7, 8, 9, 10, 11, 12, 13, 14, 15, 16, 17, 18, 19, 20, 21, 22, 23, 24, 25, 26, 27, 28, 29, 30, 31, 32, 33, 34, 35, 36, 37, 38, 39, 40, 41] rfl
        have hDc := hD.part (X := (wX8 cI cZ cS (fS hs) (fG hs) a N)) (cx := (wX8 cI cZ cS (fS hs) (fG hs) a N)) [0, 1, 2, 3, 4, 5, 6, 7, 8, 9, 10, 11, 12, 13, 14, 15, 16, 17, 18, 19, 20, 21, 22, 23, 24, 25, 26, 27, 28, 29, 30, 31, 32, 33, 34, 35, 36, 37, 38, 39, 40, 41] (by decide) rfl
        have hFc := va_freeP (X := (wX8 cI cZ cS (fS hs) (fG hs) a N)) (cx := (wX8 cI cZ cS (fS hs) (fG hs) a N)) hD hS hA [0, 1, 2, 3, 4, 5, 6, 7, 8, 9, 10, 11, 12, 13, 14, 15, 16, 17, 18, 19, 20, 21, 22, 23, 24, 25, 26, 27, 28, 29, 30, 31, 32, 33, 34, 35, 36, 37, 38, 39, 40, 41] rfl
        refine va_calli (va_runV (As := [.int l4]) (rest := []) ⟨hx, hb, hml, hown, hts⟩ (n_X8_fetch l dC dI cI cZ cS hs a H.size N l4 r245 N245 C245 hc245) (cwV 1 hts gL_act_X8_fetch rfl rfl rfl (by decide +kernel) ⟨Nat.le_of_ble_eq_true rfl, Nat.le_of_ble_eq_true rfl⟩) ⟨WR8.blind, va_recv hK hP (ci := 8) (q0 := 0) rfl rfl, WR8.pre hPc hK hDc hNW⟩ rfl rfl hl.1 rfl (lv_room (Nat.le_of_ble_eq_true rfl)) dL_act_245 ⟨Nat.le_of_ble_eq_true rfl, Nat.le_of_ble_eq_true rfl⟩) hS (fun q _ h => hFc q h) hFc (fun rv hs1 t H1 locs ht hvm hw hB hz1 hk1 hS => ?_)
        obtain ⟨hw1, hh1⟩ := hw
        subst hw1
        obtain ⟨hP1, hD1⟩ := hB
        rw [ht] at hP1
        have hP := hP1
        have hD := hD1.weaken (fun k q _ h => hFc q.1 h)
        have hP : va_P (dC, dI) vwCl (wX8 cI cZ cS (fS hs1) (fG hs1) a N245 ++ RW cI cZ hs1) H1 := hP
        have hD : va_D A (wX8 cI cZ cS (fS hs1) (fG hs1) a N245 ++ RW cI cZ hs1) := hD
        generalize H1 = H at hP hS ⊢
        refine lv_pop hx hb dL_act_248 rfl ?_
        refine lv_iconst (v := (1 : Int32)) hx hb dL_act_249 (by decide) ?_
        obtain ⟨hz, hf⟩ := gd_s hf
        have e9 := so_e hf
        cases e9
        exact W.zret hx hb hr (isb_nar hz) (fun t ht hW => ⟨⟨_, hs1, rfl, ⟨rfl, hh1⟩, WE.mk hP hD ht⟩, hS.F ht⟩) hS.2.2 dL_act_250
      · have hf := it_f hf c9
        refine lv_iconst (v := (0 : Int32)) hx hb dL_act_240 (by decide) ?_
        obtain ⟨hz, hf⟩ := gd_s hf
        have e9 := so_e hf
        cases e9
        refine W.widen (k := 16) (n := 316) (by decide) (by decide) ?_
        exact W.zret hx hb hr (isb_nar hz) (fun t ht hW => ⟨⟨_, hs, rfl, ⟨rfl, rfl⟩, WE.mk hP hD ht⟩, hS.F ht⟩) hS.2.2 dL_act_241
    · have hf := it_f hf c9
      refine lv_aload_n hx hb dL_act_228 rfl (lv_at hl 0 rfl) ?_
      obtain ⟨⟨r229, N229, C229⟩, hc229, hf⟩ := bi_s hf
      rcases r229 with E9 | r229
      · exact absurd hf (fun h => nomatch h)
      have hf := sel_r hf
      have hPc := hP.part (X := (wX8 cI cZ cS (fS hs) (fG hs) a N)) (cx := (wX8 cI cZ cS (fS hs) (fG hs) a N)) [0, 1, 2, 3, 4, 5, 6, 7, 8, 9, 10, 11, 12, 13, 14, 15, 16, 17, 18, 19, 20, 21, 22, 23, 24, 25, 26, 27, 28, 29, 30, 31, 32, 33, 34, 35, 36, 37, 38, 39, 40, 41] rfl
      have hDc := hD.part (X := (wX8 cI cZ cS (fS hs) (fG hs) a N)) (cx := (wX8 cI cZ cS (fS hs) (fG hs) a N)) [0, 1, 2, 3, 4, 5, 6, 7, 8, 9, 10, 11, 12, 13, 14, 15, 16, 17, 18, 19, 20, 21, 22, 23, 24, 25, 26, 27, 28, 29, 30, 31, 32, 33, 34, 35, 36, 37, 38, 39, 40, 41] (by decide) rfl
      have hFc := va_freeP (X := (wX8 cI cZ cS (fS hs) (fG hs) a N)) (cx := (wX8 cI cZ cS (fS hs) (fG hs) a N)) hD hS hA [0, 1, 2, 3, 4, 5, 6, 7, 8, 9, 10, 11, 12, 13, 14, 15, 16, 17, 18, 19, 20, 21, 22, 23, 24, 25, 26, 27, 28, 29, 30, 31, 32, 33, 34, 35, 36, 37, 38, 39, 40, 41] rfl
      refine va_calli (va_runV (As := []) (rest := []) ⟨hx, hb, hml, hown, hts⟩ (n_X8_stow l dC dI cI cZ cS hs a H.size N r229 N229 C229 hc229) (cwV 0 hts gL_act_X8_stow rfl rfl rfl (by decide +kernel) ⟨Nat.le_of_ble_eq_true rfl, Nat.le_of_ble_eq_true rfl⟩) ⟨WR8.blind, va_recv hK hP (ci := 8) (q0 := 0) rfl rfl, WR8.pre hPc hK hDc hNW⟩ rfl rfl hl.1 rfl (lv_room (Nat.le_of_ble_eq_true rfl)) dL_act_229 ⟨Nat.le_of_ble_eq_true rfl, Nat.le_of_ble_eq_true rfl⟩) hS (fun q _ h => hFc q h) hFc (fun rv hs1 t H1 locs ht hvm hw hB hz1 hk1 hS => ?_)
      obtain ⟨hw1, hh1⟩ := hw
      subst hw1
      obtain ⟨hP1, hD1⟩ := hB
      rw [ht] at hP1
      have hP := hP1
      have hD := hD1.weaken (fun k q _ h => hFc q.1 h)
      have hP : va_P (dC, dI) vwCl (wX8 cI cZ cS (fS hs1) (fG hs1) a N229 ++ RW cI cZ hs1) H1 := hP
      have hD : va_D A (wX8 cI cZ cS (fS hs1) (fG hs1) a N229 ++ RW cI cZ hs1) := hD
      generalize H1 = H at hP hS ⊢
      refine lv_pop hx hb dL_act_232 rfl ?_
      refine lv_iconst (v := (1 : Int32)) hx hb dL_act_233 (by decide) ?_
      obtain ⟨hz, hf⟩ := gd_s hf
      have e9 := so_e hf
      cases e9
      exact W.zret hx hb hr (isb_nar hz) (fun t ht hW => ⟨⟨_, hs1, rfl, ⟨rfl, hh1⟩, WE.mk hP hD ht⟩, hS.F ht⟩) hS.2.2 dL_act_234
  have hfL_act_B251 : ∀ (N : Mem) (l2 : Int32) (l5 : Int32) (l6 : Int32), fL_act_B251 (cts hs) M  N l2 l5 l6 = some (Sum.inr z1, z2, z3) → ∀ (ls : Array Slot), lv_has ls 9 [(0, .ref (a 0)), (2, .int l2), (5, .int l5), (6, .int l6)] → ∀ (H : Heap) (locs : List Loc), va_P (dC, dI) vwCl (wX8 cI cZ cS (fS hs) (fG hs) a N ++ RW cI cZ hs) H → va_D A (wX8 cI cZ cS (fS hs) (fG hs) a N ++ RW cI cZ hs) → va_S A s.heap H locs → W p l e (headSpec wsL_act ({ frames := 7, cells := 16, slots := 316, locals := 176 } : Room)).room s m ([.ref (a 0), .int a1, .int a2] : List Value).toArray below meth c H locs 0 0 (MQ below (va_Qi (S := HS) (fun r hs' => r = z1 ∧ cts hs' = z3) (fun hs' t => WE (dC, dI) cI cZ (wX8 cI cZ cS (fS hs') (fG hs') a z2 ++ RW cI cZ hs') A t) A) ([.ref (a 0), .int a1, .int a2] : List Value).toArray s 16 316 A) (F0 m 251 ls []) := by
    intro  N l2 l5 l6 hf ls hl H locs hP hD hS
    unfold fL_act_B251 at hf
    refine lv_iconst (v := (1 : Int32)) hx hb dL_act_251 (by decide) ?_
    refine lv_iload_n hx hb dL_act_252 rfl (lv_at hl 1 rfl) ?_
    refine lv_iconst (v := (4 : Int32)) hx hb dL_act_253 (by decide) ?_
    refine lv_ishr hx hb dL_act_254 ?_
    refine lv_bipush (v := (12 : Int32)) hx hb dL_act_255 (by decide) ?_
    obtain ⟨r257, hc257, hf⟩ := bi_s hf
    refine cRO (W.runS (As := [.int (l2 >>> ((4 : Int32) &&& 31)), .int (12 : Int32)]) (rest := [.int (1 : Int32)]) ⟨hx, hb, hml, hown, hts⟩ (c_L_low l (l2 >>> ((4 : Int32) &&& 31)) (12 : Int32) r257 hc257) (va_cwS 2 hts gL_act_L_low rfl rfl rfl (by decide +kernel) ⟨Nat.le_of_ble_eq_true rfl, Nat.le_of_ble_eq_true rfl⟩) ⟨tr_blind, tr_pre⟩ rfl rfl hl.1 rfl (lv_room (Nat.le_of_ble_eq_true rfl)) dL_act_257 ⟨Nat.le_of_ble_eq_true rfl, Nat.le_of_ble_eq_true rfl⟩) ?_
    refine lv_iadd hx hb dL_act_260 ?_
    refine lv_istore (lv' := [(8, .int ((1 : Int32) + r257)), (0, .ref (a 0)), (2, .int l2), (5, .int l5), (6, .int l6)]) hx hb dL_act_261 hl (by decide) rfl (fun ls hl => ?_)
    refine lv_iload hx hb dL_act_263 (lv_at hl 3 rfl) ?_
    refine lv_if_lt (tgt := 290) hx hb dL_act_265 (by decide) (fun c9 => ?_) (fun c9 => ?_)
    · have hf := it_t hf c9
      refine lv_iconst (v := (0 : Int32)) hx hb dL_act_290 (by decide) ?_
      obtain ⟨hz, hf⟩ := gd_s hf
      have e9 := so_e hf
      cases e9
      refine W.widen (k := 16) (n := 316) (by decide) (by decide) ?_
      exact W.zret hx hb hr (isb_nar hz) (fun t ht hW => ⟨⟨_, hs, rfl, ⟨rfl, rfl⟩, WE.mk hP hD ht⟩, hS.F ht⟩) hS.2.2 dL_act_291
    · have hf := it_f hf c9
      refine lv_aload_n hx hb dL_act_268 rfl (lv_at hl 1 rfl) ?_
      refine lv_iload hx hb dL_act_269 (lv_at hl 3 rfl) ?_
      obtain ⟨r271, hc271, hf⟩ := bi_s hf
      rcases r271 with E9 | r271
      · have e9 := so_e hf
        cases e9
      have hf := sel_r hf
      refine cRO (W.runV (As := [.int l5]) (rest := []) ⟨hx, hb, hml, hown, hts⟩ (n_X8_weightOf l dC dI cI cZ cS (fS hs) (fG hs) a N l5 r271 hc271) (cwV 1 hts gL_act_X8_weightOf rfl rfl rfl (by decide +kernel) ⟨Nat.le_of_ble_eq_true rfl, Nat.le_of_ble_eq_true rfl⟩) ⟨RO8.blind, va_recv hK hP (ci := 8) (q0 := 0) rfl rfl, RO8.pre (P_app hP).1 hK hNW⟩ rfl rfl hl.1 rfl (lv_room (Nat.le_of_ble_eq_true rfl)) dL_act_271 ⟨Nat.le_of_ble_eq_true rfl, Nat.le_of_ble_eq_true rfl⟩) ?_
      refine lv_iload hx hb dL_act_274 (lv_at hl 0 rfl) ?_
      refine lv_aload_n hx hb dL_act_276 rfl (lv_at hl 1 rfl) ?_
      refine lv_iload hx hb dL_act_277 (lv_at hl 4 rfl) ?_
      obtain ⟨r279, hc279, hf⟩ := bi_s hf
      rcases r279 with E9 | r279
      · have e9 := so_e hf
        cases e9
      have hf := sel_r hf
      refine cRO (W.runV (As := [.int l6]) (rest := [.int ((1 : Int32) + r257), .int r271]) ⟨hx, hb, hml, hown, hts⟩ (n_X8_weightOfKind l dC dI cI cZ cS (fS hs) (fG hs) a N l6 r279 hc279) (cwV 1 hts gL_act_X8_weightOfKind rfl rfl rfl (by decide +kernel) ⟨Nat.le_of_ble_eq_true rfl, Nat.le_of_ble_eq_true rfl⟩) ⟨RO8.blind, va_recv hK hP (ci := 8) (q0 := 0) rfl rfl, RO8.pre (P_app hP).1 hK hNW⟩ rfl rfl hl.1 rfl (lv_room (Nat.le_of_ble_eq_true rfl)) dL_act_279 ⟨Nat.le_of_ble_eq_true rfl, Nat.le_of_ble_eq_true rfl⟩) ?_
      refine lv_imul hx hb dL_act_282 ?_
      refine lv_iadd hx hb dL_act_283 ?_
      refine lv_sipush (v := (150 : Int32)) hx hb dL_act_284 (by decide) ?_
      refine lv_icmp_le (tgt := 292) hx hb dL_act_287 (by decide) (fun c9 => ?_) (fun c9 => ?_)
      · have hf := it_t hf c9
        refine lv_aload_n hx hb dL_act_292 rfl (lv_at hl 1 rfl) ?_
        refine lv_iload hx hb dL_act_293 (lv_at hl 4 rfl) ?_
        refine lv_iload hx hb dL_act_295 (lv_at hl 0 rfl) ?_
        obtain ⟨⟨r297, N297, C297⟩, hc297, hf⟩ := bi_s hf
        rcases r297 with E9 | r297
        · exact absurd hf (fun h => nomatch h)
        have hf := sel_r hf
        have hPc := hP.part (X := (wX8 cI cZ cS (fS hs) (fG hs) a N)) (cx := (wX8 cI cZ cS (fS hs) (fG hs) a N)) [0, 1, 2, 3, 4, 5, 6, 7, 8, 9, 10, 11, 12, 13, 14, 15, 16, 17, 18, 19, 20, 21, 22, 23, 24, 25, 26, 27, 28, 29, 30, 31, 32, 33, 34, 35, 36, 37, 38, 39, 40, 41] rfl
        have hDc := hD.part (X := (wX8 cI cZ cS (fS hs) (fG hs) a N)) (cx := (wX8 cI cZ cS (fS hs) (fG hs) a N)) [0, 1, 2, 3, 4, 5, 6, 7, 8, 9, 10, 11, 12, 13, 14, 15, 16, 17, 18, 19, 20, 21, 22, 23, 24, 25, 26, 27, 28, 29, 30, 31, 32, 33, 34, 35, 36, 37, 38, 39, 40, 41] (by decide) rfl
        have hFc := va_freeP (X := (wX8 cI cZ cS (fS hs) (fG hs) a N)) (cx := (wX8 cI cZ cS (fS hs) (fG hs) a N)) hD hS hA [0, 1, 2, 3, 4, 5, 6, 7, 8, 9, 10, 11, 12, 13, 14, 15, 16, 17, 18, 19, 20, 21, 22, 23, 24, 25, 26, 27, 28, 29, 30, 31, 32, 33, 34, 35, 36, 37, 38, 39, 40, 41] rfl
        refine va_calli (va_runV (As := [.int l6, .int ((1 : Int32) + r257)]) (rest := []) ⟨hx, hb, hml, hown, hts⟩ (n_X8_fill l dC dI cI cZ cS hs a H.size N l6 ((1 : Int32) + r257) r297 N297 C297 hc297) (cwV 2 hts gL_act_X8_fill rfl rfl rfl (by decide +kernel) ⟨Nat.le_of_ble_eq_true rfl, Nat.le_of_ble_eq_true rfl⟩) ⟨WR8.blind, va_recv hK hP (ci := 8) (q0 := 0) rfl rfl, WR8.pre hPc hK hDc hNW⟩ rfl rfl hl.1 rfl (lv_room (Nat.le_of_ble_eq_true rfl)) dL_act_297 ⟨Nat.le_of_ble_eq_true rfl, Nat.le_of_ble_eq_true rfl⟩) hS (fun q _ h => hFc q h) hFc (fun rv hs1 t H1 locs ht hvm hw hB hz1 hk1 hS => ?_)
        obtain ⟨hw1, hh1⟩ := hw
        subst hw1
        obtain ⟨hP1, hD1⟩ := hB
        rw [ht] at hP1
        have hP := hP1
        have hD := hD1.weaken (fun k q _ h => hFc q.1 h)
        have hP : va_P (dC, dI) vwCl (wX8 cI cZ cS (fS hs1) (fG hs1) a N297 ++ RW cI cZ hs1) H1 := hP
        have hD : va_D A (wX8 cI cZ cS (fS hs1) (fG hs1) a N297 ++ RW cI cZ hs1) := hD
        generalize H1 = H at hP hS ⊢
        refine lv_pop hx hb dL_act_300 rfl ?_
        refine lv_iconst (v := (1 : Int32)) hx hb dL_act_301 (by decide) ?_
        obtain ⟨hz, hf⟩ := gd_s hf
        have e9 := so_e hf
        cases e9
        exact W.zret hx hb hr (isb_nar hz) (fun t ht hW => ⟨⟨_, hs1, rfl, ⟨rfl, hh1⟩, WE.mk hP hD ht⟩, hS.F ht⟩) hS.2.2 dL_act_302
      · have hf := it_f hf c9
        refine lv_iconst (v := (0 : Int32)) hx hb dL_act_290 (by decide) ?_
        obtain ⟨hz, hf⟩ := gd_s hf
        have e9 := so_e hf
        cases e9
        refine W.widen (k := 16) (n := 316) (by decide) (by decide) ?_
        exact W.zret hx hb hr (isb_nar hz) (fun t ht hW => ⟨⟨_, hs, rfl, ⟨rfl, rfl⟩, WE.mk hP hD ht⟩, hS.F ht⟩) hS.2.2 dL_act_291
  have hfL_act_B331 : ∀ (N : Mem) (l2 : Int32) (l6 : Int32), fL_act_B331 (cts hs) M  N l2 l6 = some (Sum.inr z1, z2, z3) → ∀ (ls : Array Slot), lv_has ls 9 [(0, .ref (a 0)), (2, .int l2), (6, .int l6)] → ∀ (H : Heap) (locs : List Loc), va_P (dC, dI) vwCl (wX8 cI cZ cS (fS hs) (fG hs) a N ++ RW cI cZ hs) H → va_D A (wX8 cI cZ cS (fS hs) (fG hs) a N ++ RW cI cZ hs) → va_S A s.heap H locs → W p l e (headSpec wsL_act ({ frames := 7, cells := 16, slots := 316, locals := 176 } : Room)).room s m ([.ref (a 0), .int a1, .int a2] : List Value).toArray below meth c H locs 0 0 (MQ below (va_Qi (S := HS) (fun r hs' => r = z1 ∧ cts hs' = z3) (fun hs' t => WE (dC, dI) cI cZ (wX8 cI cZ cS (fS hs') (fG hs') a z2 ++ RW cI cZ hs') A t) A) ([.ref (a 0), .int a1, .int a2] : List Value).toArray s 16 316 A) (F0 m 331 ls []) := by
    intro  N l2 l6 hf ls hl H locs hP hD hS
    unfold fL_act_B331 at hf
    refine lv_aload_n hx hb dL_act_331 rfl (lv_at hl 0 rfl) ?_
    obtain ⟨r332, hc332, hf⟩ := bi_s hf
    have hPc := (P_app hP).1
    refine cRO (W.runV (As := []) (rest := []) ⟨hx, hb, hml, hown, hts⟩ (c_X8_orders l dC dI cI cZ cS (fS hs) (fG hs) a N r332 hc332) (cwV 0 hts gL_act_X8_orders rfl rfl rfl (by decide +kernel) ⟨Nat.le_of_ble_eq_true rfl, Nat.le_of_ble_eq_true rfl⟩) ⟨RO8.blind, va_recv hK hP (ci := 8) (q0 := 0) rfl rfl, RO8.pre hPc hK hNW⟩ rfl rfl hl.1 rfl (lv_room (Nat.le_of_ble_eq_true rfl)) dL_act_332 ⟨Nat.le_of_ble_eq_true rfl, Nat.le_of_ble_eq_true rfl⟩) ?_
    refine lv_bipush (v := (8 : Int32)) hx hb dL_act_335 (by decide) ?_
    refine lv_icmp_ne (tgt := 342) hx hb dL_act_337 (by decide) (fun c9 => ?_) (fun c9 => ?_)
    · have hf := it_t hf c9
      refine lv_aload_n hx hb dL_act_342 rfl (lv_at hl 0 rfl) ?_
      obtain ⟨r343, hc343, hf⟩ := bi_s hf
      have hPc := (P_app hP).1
      have hDc := (D_split hD).1
      have hFc := va_free (wc := (wX8 cI cZ cS (fS hs) (fG hs) a N)) hD hS hA [0, 1, 2, 3, 4, 5, 6, 7, 8, 9, 10, 11, 12, 13, 14, 15, 16, 17, 18, 19, 20, 21, 22, 23, 24, 25, 26, 27, 28, 29, 30, 31, 32, 33, 34, 35, 36, 37, 38, 39, 40, 41] rfl
      refine va_calli (va_runV (As := []) (rest := []) ⟨hx, hb, hml, hown, hts⟩ (c_X8_clearBuffer l dC dI cI cZ cS (fS hs) (fG hs) a H.size N r343 hc343) (cwV 0 hts gL_act_X8_clearBuffer rfl rfl rfl (by decide +kernel) ⟨Nat.le_of_ble_eq_true rfl, Nat.le_of_ble_eq_true rfl⟩) ⟨WR8.blind, va_recv hK hP (ci := 8) (q0 := 0) rfl rfl, WR8.pre hPc hK hDc hNW⟩ rfl rfl hl.1 rfl (lv_room (Nat.le_of_ble_eq_true rfl)) dL_act_343 ⟨Nat.le_of_ble_eq_true rfl, Nat.le_of_ble_eq_true rfl⟩) hS (fun q _ h => hFc q h) hFc (fun rv u t H1 locs ht hvm hw hB hz1 hk1 hS => ?_)
      obtain ⟨hP1, hD1⟩ := hB
      rw [ht] at hP1
      subst hw
      obtain ⟨hP, hD⟩ := join_app (ws := (wX8 cI cZ cS (fS hs) (fG hs) a N)) (wr := []) (w1 := _) hP hD [0, 1, 2, 3, 4, 5, 6, 7, 8, 9, 10, 11, 12, 13, 14, 15, 16, 17, 18, 19, 20, 21, 22, 23, 24, 25, 26, 27, 28, 29, 30, 31, 32, 33, 34, 35, 36, 37, 38, 39, 40, 41] [] rfl rfl (by decide) (by decide) hk1 hFc hP1 hD1
      have hP : va_P (dC, dI) vwCl (wX8 cI cZ cS (fS hs) (fG hs) a (sr N 36 (r343.2 36)) ++ RW cI cZ hs) H1 := hP
      have hD : va_D A (wX8 cI cZ cS (fS hs) (fG hs) a (sr N 36 (r343.2 36)) ++ RW cI cZ hs) := hD
      generalize H1 = H at hP hS ⊢
      refine lv_pop hx hb dL_act_346 rfl ?_
      refine lv_aload_n hx hb dL_act_347 rfl (lv_at hl 0 rfl) ?_
      refine lv_bipush (v := (48 : Int32)) hx hb dL_act_348 (by decide) ?_
      refine lv_iload hx hb dL_act_350 (lv_at hl 2 rfl) ?_
      refine lv_iadd hx hb dL_act_352 ?_
      obtain ⟨⟨r353, N353⟩, hc353, hf⟩ := bi_s hf
      rcases r353 with E9 | r353
      · have e9 := so_e hf
        cases e9
      have hf := sel_r hf
      have hFc := va_free (wc := (wX8 cI cZ cS (fS hs) (fG hs) a (sr N 36 (r343.2 36)))) hD hS hA [0, 1, 2, 3, 4, 5, 6, 7, 8, 9, 10, 11, 12, 13, 14, 15, 16, 17, 18, 19, 20, 21, 22, 23, 24, 25, 26, 27, 28, 29, 30, 31, 32, 33, 34, 35, 36, 37, 38, 39, 40, 41] rfl
      refine va_calli (va_runV (As := [.int ((48 : Int32) + l6)]) (rest := []) ⟨hx, hb, hml, hown, hts⟩ (n_X8_append l dC dI cI cZ cS (fS hs) (fG hs) a H.size (sr N 36 (r343.2 36)) ((48 : Int32) + l6) r353 N353 hc353) (cwV 1 hts gL_act_X8_append rfl rfl rfl (by decide +kernel) ⟨Nat.le_of_ble_eq_true rfl, Nat.le_of_ble_eq_true rfl⟩) ⟨WR8.blind, va_recv hK hP (ci := 8) (q0 := 0) rfl rfl, WR8.pre (P_app hP).1 hK (D_split hD).1 hNW⟩ rfl rfl hl.1 rfl (lv_room (Nat.le_of_ble_eq_true rfl)) dL_act_353 ⟨Nat.le_of_ble_eq_true rfl, Nat.le_of_ble_eq_true rfl⟩) hS (fun q _ h => hFc q h) hFc (fun rv u t H1 locs ht hvm hw hB hz1 hk1 hS => ?_)
      obtain ⟨hP1, hD1⟩ := hB
      rw [ht] at hP1
      subst hw
      obtain ⟨hP, hD⟩ := join_app (ws := (wX8 cI cZ cS (fS hs) (fG hs) a (sr N 36 (r343.2 36)))) (wr := []) (w1 := _) hP hD [0, 1, 2, 3, 4, 5, 6, 7, 8, 9, 10, 11, 12, 13, 14, 15, 16, 17, 18, 19, 20, 21, 22, 23, 24, 25, 26, 27, 28, 29, 30, 31, 32, 33, 34, 35, 36, 37, 38, 39, 40, 41] [] rfl rfl (by decide) (by decide) hk1 hFc hP1 hD1
      have hP : va_P (dC, dI) vwCl (wX8 cI cZ cS (fS hs) (fG hs) a (sr (sr N 36 (N353 36)) 37 (N353 37)) ++ RW cI cZ hs) H1 := hP
      have hD : va_D A (wX8 cI cZ cS (fS hs) (fG hs) a (sr (sr N 36 (N353 36)) 37 (N353 37)) ++ RW cI cZ hs) := hD
      generalize H1 = H at hP hS ⊢
      refine lv_pop hx hb dL_act_356 rfl ?_
      refine lv_aload_n hx hb dL_act_357 rfl (lv_at hl 0 rfl) ?_
      refine lv_bipush (v := (42 : Int32)) hx hb dL_act_358 (by decide) ?_
      obtain ⟨⟨r360, N360⟩, hc360, hf⟩ := bi_s hf
      rcases r360 with E9 | r360
      · have e9 := so_e hf
        cases e9
      have hf := sel_r hf
      have hFc := va_free (wc := (wX8 cI cZ cS (fS hs) (fG hs) a (sr (sr N 36 (N353 36)) 37 (N353 37)))) hD hS hA [0, 1, 2, 3, 4, 5, 6, 7, 8, 9, 10, 11, 12, 13, 14, 15, 16, 17, 18, 19, 20, 21, 22, 23, 24, 25, 26, 27, 28, 29, 30, 31, 32, 33, 34, 35, 36, 37, 38, 39, 40, 41] rfl
      refine va_calli (va_runV (As := [.int (42 : Int32)]) (rest := []) ⟨hx, hb, hml, hown, hts⟩ (n_X8_append l dC dI cI cZ cS (fS hs) (fG hs) a H.size (sr (sr N 36 (N353 36)) 37 (N353 37)) (42 : Int32) r360 N360 hc360) (cwV 1 hts gL_act_X8_append rfl rfl rfl (by decide +kernel) ⟨Nat.le_of_ble_eq_true rfl, Nat.le_of_ble_eq_true rfl⟩) ⟨WR8.blind, va_recv hK hP (ci := 8) (q0 := 0) rfl rfl, WR8.pre (P_app hP).1 hK (D_split hD).1 hNW⟩ rfl rfl hl.1 rfl (lv_room (Nat.le_of_ble_eq_true rfl)) dL_act_360 ⟨Nat.le_of_ble_eq_true rfl, Nat.le_of_ble_eq_true rfl⟩) hS (fun q _ h => hFc q h) hFc (fun rv u t H1 locs ht hvm hw hB hz1 hk1 hS => ?_)
      obtain ⟨hP1, hD1⟩ := hB
      rw [ht] at hP1
      subst hw
      obtain ⟨hP, hD⟩ := join_app (ws := (wX8 cI cZ cS (fS hs) (fG hs) a (sr (sr N 36 (N353 36)) 37 (N353 37)))) (wr := []) (w1 := _) hP hD [0, 1, 2, 3, 4, 5, 6, 7, 8, 9, 10, 11, 12, 13, 14, 15, 16, 17, 18, 19, 20, 21, 22, 23, 24, 25, 26, 27, 28, 29, 30, 31, 32, 33, 34, 35, 36, 37, 38, 39, 40, 41] [] rfl rfl (by decide) (by decide) hk1 hFc hP1 hD1
      have hP : va_P (dC, dI) vwCl (wX8 cI cZ cS (fS hs) (fG hs) a (sr (sr N 36 (N360 36)) 37 (N360 37)) ++ RW cI cZ hs) H1 := hP
      have hD : va_D A (wX8 cI cZ cS (fS hs) (fG hs) a (sr (sr N 36 (N360 36)) 37 (N360 37)) ++ RW cI cZ hs) := hD
      generalize H1 = H at hP hS ⊢
      refine lv_pop hx hb dL_act_363 rfl ?_
      refine lv_aload_n hx hb dL_act_364 rfl (lv_at hl 0 rfl) ?_
      refine lv_bipush (v := (49 : Int32)) hx hb dL_act_365 (by decide) ?_
      refine lv_iload_n hx hb dL_act_367 rfl (lv_at hl 1 rfl) ?_
      refine lv_iconst (v := (4 : Int32)) hx hb dL_act_368 (by decide) ?_
      refine lv_ishr hx hb dL_act_369 ?_
      refine lv_bipush (v := (9 : Int32)) hx hb dL_act_370 (by decide) ?_
      obtain ⟨r372, hc372, hf⟩ := bi_s hf
      refine cRO (W.runS (As := [.int (l2 >>> ((4 : Int32) &&& 31)), .int (9 : Int32)]) (rest := [.int (49 : Int32), .ref (a 0)]) ⟨hx, hb, hml, hown, hts⟩ (c_L_low l (l2 >>> ((4 : Int32) &&& 31)) (9 : Int32) r372 hc372) (va_cwS 2 hts gL_act_L_low rfl rfl rfl (by decide +kernel) ⟨Nat.le_of_ble_eq_true rfl, Nat.le_of_ble_eq_true rfl⟩) ⟨tr_blind, tr_pre⟩ rfl rfl hl.1 rfl (lv_room (Nat.le_of_ble_eq_true rfl)) dL_act_372 ⟨Nat.le_of_ble_eq_true rfl, Nat.le_of_ble_eq_true rfl⟩) ?_
      refine lv_iadd hx hb dL_act_375 ?_
      obtain ⟨⟨r376, N376⟩, hc376, hf⟩ := bi_s hf
      rcases r376 with E9 | r376
      · have e9 := so_e hf
        cases e9
      have hf := sel_r hf
      have hFc := va_free (wc := (wX8 cI cZ cS (fS hs) (fG hs) a (sr (sr N 36 (N360 36)) 37 (N360 37)))) hD hS hA [0, 1, 2, 3, 4, 5, 6, 7, 8, 9, 10, 11, 12, 13, 14, 15, 16, 17, 18, 19, 20, 21, 22, 23, 24, 25, 26, 27, 28, 29, 30, 31, 32, 33, 34, 35, 36, 37, 38, 39, 40, 41] rfl
      refine va_calli (va_runV (As := [.int ((49 : Int32) + r372)]) (rest := []) ⟨hx, hb, hml, hown, hts⟩ (n_X8_append l dC dI cI cZ cS (fS hs) (fG hs) a H.size (sr (sr N 36 (N360 36)) 37 (N360 37)) ((49 : Int32) + r372) r376 N376 hc376) (cwV 1 hts gL_act_X8_append rfl rfl rfl (by decide +kernel) ⟨Nat.le_of_ble_eq_true rfl, Nat.le_of_ble_eq_true rfl⟩) ⟨WR8.blind, va_recv hK hP (ci := 8) (q0 := 0) rfl rfl, WR8.pre (P_app hP).1 hK (D_split hD).1 hNW⟩ rfl rfl hl.1 rfl (lv_room (Nat.le_of_ble_eq_true rfl)) dL_act_376 ⟨Nat.le_of_ble_eq_true rfl, Nat.le_of_ble_eq_true rfl⟩) hS (fun q _ h => hFc q h) hFc (fun rv u t H1 locs ht hvm hw hB hz1 hk1 hS => ?_)
      obtain ⟨hP1, hD1⟩ := hB
      rw [ht] at hP1
      subst hw
      obtain ⟨hP, hD⟩ := join_app (ws := (wX8 cI cZ cS (fS hs) (fG hs) a (sr (sr N 36 (N360 36)) 37 (N360 37)))) (wr := []) (w1 := _) hP hD [0, 1, 2, 3, 4, 5, 6, 7, 8, 9, 10, 11, 12, 13, 14, 15, 16, 17, 18, 19, 20, 21, 22, 23, 24, 25, 26, 27, 28, 29, 30, 31, 32, 33, 34, 35, 36, 37, 38, 39, 40, 41] [] rfl rfl (by decide) (by decide) hk1 hFc hP1 hD1
      have hP : va_P (dC, dI) vwCl (wX8 cI cZ cS (fS hs) (fG hs) a (sr (sr N 36 (N376 36)) 37 (N376 37)) ++ RW cI cZ hs) H1 := hP
      have hD : va_D A (wX8 cI cZ cS (fS hs) (fG hs) a (sr (sr N 36 (N376 36)) 37 (N376 37)) ++ RW cI cZ hs) := hD
      generalize H1 = H at hP hS ⊢
      refine lv_pop hx hb dL_act_379 rfl ?_
      refine lv_aload_n hx hb dL_act_380 rfl (lv_at hl 0 rfl) ?_
      obtain ⟨⟨r381, N381, C381⟩, hc381, hf⟩ := bi_s hf
      rcases r381 with E9 | r381
      · exact absurd hf (fun h => nomatch h)
      have hf := sel_r hf
      have hPc := hP.part (X := (wX8 cI cZ cS (fS hs) (fG hs) a (sr (sr N 36 (N376 36)) 37 (N376 37)))) (cx := (wX8 cI cZ cS (fS hs) (fG hs) a (sr (sr N 36 (N376 36)) 37 (N376 37)))) [0, 1, 2, 3, 4, 5, 6, 7, 8, 9, 10, 11, 12, 13, 14, 15, 16, 17, 18, 19, 20, 21, 22, 23, 24, 25, 26, 27, 28, 29, 30, 31, 32, 33, 34, 35, 36, 37, 38, 39, 40, 41] rfl
      have hDc := hD.part (X := (wX8 cI cZ cS (fS hs) (fG hs) a (sr (sr N 36 (N376 36)) 37 (N376 37)))) (cx := (wX8 cI cZ cS (fS hs) (fG hs) a (sr (sr N 36 (N376 36)) 37 (N376 37)))) [0, 1, 2, 3, 4, 5, 6, 7, 8, 9, 10, 11, 12, 13, 14, 15, 16, 17, 18, 19, 20, 21, 22, 23, 24, 25, 26, 27, 28, 29, 30, 31, 32, 33, 34, 35, 36, 37, 38, 39, 40, 41] (by decide) rfl
      have hFc := va_freeP (X := (wX8 cI cZ cS (fS hs) (fG hs) a (sr (sr N 36 (N376 36)) 37 (N376 37)))) (cx := (wX8 cI cZ cS (fS hs) (fG hs) a (sr (sr N 36 (N376 36)) 37 (N376 37)))) hD hS hA [0, 1, 2, 3, 4, 5, 6, 7, 8, 9, 10, 11, 12, 13, 14, 15, 16, 17, 18, 19, 20, 21, 22, 23, 24, 25, 26, 27, 28, 29, 30, 31, 32, 33, 34, 35, 36, 37, 38, 39, 40, 41] rfl
      refine va_calli (va_runV (As := []) (rest := []) ⟨hx, hb, hml, hown, hts⟩ (n_X8_accept l dC dI cI cZ cS hs a H.size (sr (sr N 36 (N376 36)) 37 (N376 37)) r381 N381 C381 hc381) (cwV 0 hts gL_act_X8_accept rfl rfl rfl (by decide +kernel) ⟨Nat.le_of_ble_eq_true rfl, Nat.le_of_ble_eq_true rfl⟩) ⟨WR8.blind, va_recv hK hP (ci := 8) (q0 := 0) rfl rfl, WR8.pre hPc hK hDc hNW⟩ rfl rfl hl.1 rfl (lv_room (Nat.le_of_ble_eq_true rfl)) dL_act_381 ⟨Nat.le_of_ble_eq_true rfl, Nat.le_of_ble_eq_true rfl⟩) hS (fun q _ h => hFc q h) hFc (fun rv hs1 t H1 locs ht hvm hw hB hz1 hk1 hS => ?_)
      obtain ⟨hw1, hh1⟩ := hw
      subst hw1
      obtain ⟨hP1, hD1⟩ := hB
      rw [ht] at hP1
      have hP := hP1
      have hD := hD1.weaken (fun k q _ h => hFc q.1 h)
      have hP : va_P (dC, dI) vwCl (wX8 cI cZ cS (fS hs1) (fG hs1) a N381 ++ RW cI cZ hs1) H1 := hP
      have hD : va_D A (wX8 cI cZ cS (fS hs1) (fG hs1) a N381 ++ RW cI cZ hs1) := hD
      generalize H1 = H at hP hS ⊢
      refine lv_pop hx hb dL_act_384 rfl ?_
      refine lv_iconst (v := (1 : Int32)) hx hb dL_act_385 (by decide) ?_
      obtain ⟨hz, hf⟩ := gd_s hf
      have e9 := so_e hf
      cases e9
      exact W.zret hx hb hr (isb_nar hz) (fun t ht hW => ⟨⟨_, hs1, rfl, ⟨rfl, hh1⟩, WE.mk hP hD ht⟩, hS.F ht⟩) hS.2.2 dL_act_386
    · have hf := it_n hf c9
      refine lv_iconst (v := (0 : Int32)) hx hb dL_act_340 (by decide) ?_
      obtain ⟨hz, hf⟩ := gd_s hf
      have e9 := so_e hf
      cases e9
      refine W.widen (k := 16) (n := 316) (by decide) (by decide) ?_
      exact W.zret hx hb hr (isb_nar hz) (fun t ht hW => ⟨⟨_, hs, rfl, ⟨rfl, rfl⟩, WE.mk hP hD ht⟩, hS.F ht⟩) hS.2.2 dL_act_341
  have hfL_act_B20 : ∀ (N : Mem) (l1 : Int32) (l2 : Int32) (l3 : Int32) (s0 : Int32), fL_act_B20 (cts hs) M  N l1 l2 l3 s0 = some (Sum.inr z1, z2, z3) → ∀ (ls : Array Slot), lv_has ls 9 [(0, .ref (a 0)), (1, .int l1), (2, .int l2), (3, .int l3)] → ∀ (H : Heap) (locs : List Loc), va_P (dC, dI) vwCl (wX8 cI cZ cS (fS hs) (fG hs) a N ++ RW cI cZ hs) H → va_D A (wX8 cI cZ cS (fS hs) (fG hs) a N ++ RW cI cZ hs) → va_S A s.heap H locs → W p l e (headSpec wsL_act ({ frames := 7, cells := 16, slots := 316, locals := 176 } : Room)).room s m ([.ref (a 0), .int a1, .int a2] : List Value).toArray below meth c H locs 0 0 (MQ below (va_Qi (S := HS) (fun r hs' => r = z1 ∧ cts hs' = z3) (fun hs' t => WE (dC, dI) cI cZ (wX8 cI cZ cS (fS hs') (fG hs') a z2 ++ RW cI cZ hs') A t) A) ([.ref (a 0), .int a1, .int a2] : List Value).toArray s 16 316 A) (F0 m 20 ls [.int s0]) := by
    intro  N l1 l2 l3 s0 hf ls hl H locs hP hD hS
    unfold fL_act_B20 at hf
    refine lv_istore (lv' := [(4, .int s0), (0, .ref (a 0)), (1, .int l1), (2, .int l2), (3, .int l3)]) hx hb dL_act_20 hl (by decide) rfl (fun ls hl => ?_)
    refine lv_iconst (v := (-1 : Int32)) hx hb dL_act_22 (by decide) ?_
    refine lv_istore (lv' := [(5, .int (-1 : Int32)), (4, .int s0), (0, .ref (a 0)), (1, .int l1), (2, .int l2), (3, .int l3)]) hx hb dL_act_23 hl (by decide) rfl (fun ls hl => ?_)
    refine lv_iconst (v := (0 : Int32)) hx hb dL_act_25 (by decide) ?_
    refine lv_istore (lv' := [(6, .int (0 : Int32)), (5, .int (-1 : Int32)), (4, .int s0), (0, .ref (a 0)), (1, .int l1), (2, .int l2), (3, .int l3)]) hx hb dL_act_26 hl (by decide) rfl (fun ls hl => ?_)
    refine hfL_act_L28 5000 _ (fun N l1 l2 l3 l4 l5 hf ls hl H locs hP hD hS => ?_) N l1 l2 l3 s0 (-1 : Int32) (0 : Int32) hf _ (lv_sub hl [3, 4, 5, 6, 2, 1, 0] rfl) _ _ hP hD hS
    refine lv_iload_n hx hb dL_act_58 rfl (lv_at hl 2 rfl) ?_
    refine lv_bipush (v := (10 : Int32)) hx hb dL_act_59 (by decide) ?_
    obtain ⟨r61, hc61, hf⟩ := bi_s hf
    refine cRO (W.runS (As := [.int l2, .int (10 : Int32)]) (rest := []) ⟨hx, hb, hml, hown, hts⟩ (c_L_low l l2 (10 : Int32) r61 hc61) (va_cwS 2 hts gL_act_L_low rfl rfl rfl (by decide +kernel) ⟨Nat.le_of_ble_eq_true rfl, Nat.le_of_ble_eq_true rfl⟩) ⟨tr_blind, tr_pre⟩ rfl rfl hl.1 rfl (lv_room (Nat.le_of_ble_eq_true rfl)) dL_act_61 ⟨Nat.le_of_ble_eq_true rfl, Nat.le_of_ble_eq_true rfl⟩) ?_
    refine lv_istore (lv' := [(6, .int r61), (0, .ref (a 0)), (1, .int l1), (2, .int l2), (3, .int l3), (4, .int l4), (5, .int l5)]) hx hb dL_act_64 hl (by decide) rfl (fun ls hl => ?_)
    refine lv_iload_n hx hb dL_act_66 rfl (lv_at hl 2 rfl) ?_
    refine lv_bipush (v := (15 : Int32)) hx hb dL_act_67 (by decide) ?_
    refine lv_iand hx hb dL_act_69 ?_
    by_cases c900 : (l1 &&& (15 : Int32)) = (0 : Int32)
    · have hf := it_t hf c900
      refine lv_tableIn (off := 70) (tgt := 140) hx hb dL_act_70 (by rw [c900]; decide) (by rw [c900]; decide) (by rw [c900]; rfl) (by decide) ?_
      exact hfL_act_B140  N l2 l3 l5 hf _ (lv_sub hl [1, 3, 4, 6] rfl) _ _ hP hD hS
    have hf := it_f hf c900
    by_cases c901 : (l1 &&& (15 : Int32)) = (1 : Int32)
    · have hf := it_t hf c901
      refine lv_tableIn (off := 70) (tgt := 140) hx hb dL_act_70 (by rw [c901]; decide) (by rw [c901]; decide) (by rw [c901]; rfl) (by decide) ?_
      exact hfL_act_B140  N l2 l3 l5 hf _ (lv_sub hl [1, 3, 4, 6] rfl) _ _ hP hD hS
    have hf := it_f hf c901
    by_cases c902 : (l1 &&& (15 : Int32)) = (2 : Int32)
    · have hf := it_t hf c902
      refine lv_tableIn (off := 70) (tgt := 140) hx hb dL_act_70 (by rw [c902]; decide) (by rw [c902]; decide) (by rw [c902]; rfl) (by decide) ?_
      exact hfL_act_B140  N l2 l3 l5 hf _ (lv_sub hl [1, 3, 4, 6] rfl) _ _ hP hD hS
    have hf := it_f hf c902
    by_cases c903 : (l1 &&& (15 : Int32)) = (3 : Int32)
    · have hf := it_t hf c903
      refine lv_tableIn (off := 121) (tgt := 191) hx hb dL_act_70 (by rw [c903]; decide) (by rw [c903]; decide) (by rw [c903]; rfl) (by decide) ?_
      refine lv_iload hx hb dL_act_191 (lv_at hl 5 rfl) ?_
      refine lv_if_lt (tgt := 212) hx hb dL_act_193 (by decide) (fun c9 => ?_) (fun c9 => ?_)
      · have hf := it_t hf c9
        refine lv_iconst (v := (0 : Int32)) hx hb dL_act_212 (by decide) ?_
        obtain ⟨hz, hf⟩ := gd_s hf
        have e9 := so_e hf
        cases e9
        refine W.widen (k := 16) (n := 316) (by decide) (by decide) ?_
        exact W.zret hx hb hr (isb_nar hz) (fun t ht hW => ⟨⟨_, hs, rfl, ⟨rfl, rfl⟩, WE.mk hP hD ht⟩, hS.F ht⟩) hS.2.2 dL_act_213
      · have hf := it_f hf c9
        refine lv_iload hx hb dL_act_196 (lv_at hl 5 rfl) ?_
        refine lv_iload hx hb dL_act_198 (lv_at hl 6 rfl) ?_
        refine lv_icmp_eq (tgt := 212) hx hb dL_act_200 (by decide) (fun c9 => ?_) (fun c9 => ?_)
        · have hf := it_t hf c9
          refine lv_iconst (v := (0 : Int32)) hx hb dL_act_212 (by decide) ?_
          obtain ⟨hz, hf⟩ := gd_s hf
          have e9 := so_e hf
          cases e9
          refine W.widen (k := 16) (n := 316) (by decide) (by decide) ?_
          exact W.zret hx hb hr (isb_nar hz) (fun t ht hW => ⟨⟨_, hs, rfl, ⟨rfl, rfl⟩, WE.mk hP hD ht⟩, hS.F ht⟩) hS.2.2 dL_act_213
        · have hf := it_f hf c9
          refine lv_aload_n hx hb dL_act_203 rfl (lv_at hl 1 rfl) ?_
          refine lv_iload hx hb dL_act_204 (lv_at hl 5 rfl) ?_
          obtain ⟨r206, hc206, hf⟩ := bi_s hf
          rcases r206 with E9 | r206
          · have e9 := so_e hf
            cases e9
          have hf := sel_r hf
          refine cRO (W.runV (As := [.int l4]) (rest := []) ⟨hx, hb, hml, hown, hts⟩ (n_X8_weightOf l dC dI cI cZ cS (fS hs) (fG hs) a N l4 r206 hc206) (cwV 1 hts gL_act_X8_weightOf rfl rfl rfl (by decide +kernel) ⟨Nat.le_of_ble_eq_true rfl, Nat.le_of_ble_eq_true rfl⟩) ⟨RO8.blind, va_recv hK hP (ci := 8) (q0 := 0) rfl rfl, RO8.pre (P_app hP).1 hK hNW⟩ rfl rfl hl.1 rfl (lv_room (Nat.le_of_ble_eq_true rfl)) dL_act_206 ⟨Nat.le_of_ble_eq_true rfl, Nat.le_of_ble_eq_true rfl⟩) ?_
          refine lv_if_le (tgt := 214) hx hb dL_act_209 (by decide) (fun c9 => ?_) (fun c9 => ?_)
          · have hf := it_t hf c9
            refine lv_aload_n hx hb dL_act_214 rfl (lv_at hl 1 rfl) ?_
            refine lv_iload hx hb dL_act_215 (lv_at hl 5 rfl) ?_
            obtain ⟨⟨r217, N217, C217⟩, hc217, hf⟩ := bi_s hf
            rcases r217 with E9 | r217
            · exact absurd hf (fun h => nomatch h)
            have hf := sel_r hf
            have hPc := hP.part (X := (wX8 cI cZ cS (fS hs) (fG hs) a N)) (cx := (wX8 cI cZ cS (fS hs) (fG hs) a N)) [0, 1, 2, 3, 4, 5, 6, 7, 8, 9, 10, 11, 12, 13, 14, 15, 16, 17, 18, 19, 20, 21, 22, 23, 24, 25, 26, 27, 28, 29, 30, 31, 32, 33, 34, 35, 36, 37, 38, 39, 40, 41] rfl
            have hDc := hD.part (X := (wX8 cI cZ cS (fS hs) (fG hs) a N)) (cx := (wX8 cI cZ cS (fS hs) (fG hs) a N)) [0, 1, 2, 3, 4, 5, 6, 7, 8, 9, 10, 11, 12, 13, 14, 15, 16, 17, 18, 19, 20, 21, 22, 23, 24, 25, 26, 27, 28, 29, 30, 31, 32, 33, 34, 35, 36, 37, 38, 39, 40, 41] (by decide) rfl
            have hFc := va_freeP (X := (wX8 cI cZ cS (fS hs) (fG hs) a N)) (cx := (wX8 cI cZ cS (fS hs) (fG hs) a N)) hD hS hA [0, 1, 2, 3, 4, 5, 6, 7, 8, 9, 10, 11, 12, 13, 14, 15, 16, 17, 18, 19, 20, 21, 22, 23, 24, 25, 26, 27, 28, 29, 30, 31, 32, 33, 34, 35, 36, 37, 38, 39, 40, 41] rfl
            refine va_calli (va_runV (As := [.int l4]) (rest := []) ⟨hx, hb, hml, hown, hts⟩ (n_X8_scrap l dC dI cI cZ cS hs a H.size N l4 r217 N217 C217 hc217) (cwV 1 hts gL_act_X8_scrap rfl rfl rfl (by decide +kernel) ⟨Nat.le_of_ble_eq_true rfl, Nat.le_of_ble_eq_true rfl⟩) ⟨WR8.blind, va_recv hK hP (ci := 8) (q0 := 0) rfl rfl, WR8.pre hPc hK hDc hNW⟩ rfl rfl hl.1 rfl (lv_room (Nat.le_of_ble_eq_true rfl)) dL_act_217 ⟨Nat.le_of_ble_eq_true rfl, Nat.le_of_ble_eq_true rfl⟩) hS (fun q _ h => hFc q h) hFc (fun rv hs1 t H1 locs ht hvm hw hB hz1 hk1 hS => ?_)
            obtain ⟨hw1, hh1⟩ := hw
            subst hw1
            obtain ⟨hP1, hD1⟩ := hB
            rw [ht] at hP1
            have hP := hP1
            have hD := hD1.weaken (fun k q _ h => hFc q.1 h)
            have hP : va_P (dC, dI) vwCl (wX8 cI cZ cS (fS hs1) (fG hs1) a N217 ++ RW cI cZ hs1) H1 := hP
            have hD : va_D A (wX8 cI cZ cS (fS hs1) (fG hs1) a N217 ++ RW cI cZ hs1) := hD
            generalize H1 = H at hP hS ⊢
            refine lv_pop hx hb dL_act_220 rfl ?_
            refine lv_iconst (v := (1 : Int32)) hx hb dL_act_221 (by decide) ?_
            obtain ⟨hz, hf⟩ := gd_s hf
            have e9 := so_e hf
            cases e9
            exact W.zret hx hb hr (isb_nar hz) (fun t ht hW => ⟨⟨_, hs1, rfl, ⟨rfl, hh1⟩, WE.mk hP hD ht⟩, hS.F ht⟩) hS.2.2 dL_act_222
          · have hf := it_f hf c9
            refine lv_iconst (v := (0 : Int32)) hx hb dL_act_212 (by decide) ?_
            obtain ⟨hz, hf⟩ := gd_s hf
            have e9 := so_e hf
            cases e9
            refine W.widen (k := 16) (n := 316) (by decide) (by decide) ?_
            exact W.zret hx hb hr (isb_nar hz) (fun t ht hW => ⟨⟨_, hs, rfl, ⟨rfl, rfl⟩, WE.mk hP hD ht⟩, hS.F ht⟩) hS.2.2 dL_act_213
    have hf := it_f hf c903
    by_cases c904 : (l1 &&& (15 : Int32)) = (4 : Int32)
    · have hf := it_t hf c904
      refine lv_tableIn (off := 153) (tgt := 223) hx hb dL_act_70 (by rw [c904]; decide) (by rw [c904]; decide) (by rw [c904]; rfl) (by decide) ?_
      exact hfL_act_B223  N l4 l5 hf _ (lv_sub hl [1, 5, 6] rfl) _ _ hP hD hS
    have hf := it_f hf c904
    by_cases c905 : (l1 &&& (15 : Int32)) = (5 : Int32)
    · have hf := it_t hf c905
      refine lv_tableIn (off := 153) (tgt := 223) hx hb dL_act_70 (by rw [c905]; decide) (by rw [c905]; decide) (by rw [c905]; rfl) (by decide) ?_
      exact hfL_act_B223  N l4 l5 hf _ (lv_sub hl [1, 5, 6] rfl) _ _ hP hD hS
    have hf := it_f hf c905
    by_cases c906 : (l1 &&& (15 : Int32)) = (6 : Int32)
    · have hf := it_t hf c906
      refine lv_tableIn (off := 181) (tgt := 251) hx hb dL_act_70 (by rw [c906]; decide) (by rw [c906]; decide) (by rw [c906]; rfl) (by decide) ?_
      exact hfL_act_B251  N l2 l5 r61 hf _ (lv_sub hl [1, 3, 6, 0] rfl) _ _ hP hD hS
    have hf := it_f hf c906
    by_cases c907 : (l1 &&& (15 : Int32)) = (7 : Int32)
    · have hf := it_t hf c907
      refine lv_tableIn (off := 181) (tgt := 251) hx hb dL_act_70 (by rw [c907]; decide) (by rw [c907]; decide) (by rw [c907]; rfl) (by decide) ?_
      exact hfL_act_B251  N l2 l5 r61 hf _ (lv_sub hl [1, 3, 6, 0] rfl) _ _ hP hD hS
    have hf := it_f hf c907
    by_cases c908 : (l1 &&& (15 : Int32)) = (8 : Int32)
    · have hf := it_t hf c908
      refine lv_tableIn (off := 181) (tgt := 251) hx hb dL_act_70 (by rw [c908]; decide) (by rw [c908]; decide) (by rw [c908]; rfl) (by decide) ?_
      exact hfL_act_B251  N l2 l5 r61 hf _ (lv_sub hl [1, 3, 6, 0] rfl) _ _ hP hD hS
    have hf := it_f hf c908
    by_cases c909 : (l1 &&& (15 : Int32)) = (9 : Int32)
    · have hf := it_t hf c909
      refine lv_tableIn (off := 233) (tgt := 303) hx hb dL_act_70 (by rw [c909]; decide) (by rw [c909]; decide) (by rw [c909]; rfl) (by decide) ?_
      refine lv_iload hx hb dL_act_303 (lv_at hl 6 rfl) ?_
      refine lv_if_lt (tgt := 319) hx hb dL_act_305 (by decide) (fun c9 => ?_) (fun c9 => ?_)
      · have hf := it_t hf c9
        refine lv_iconst (v := (0 : Int32)) hx hb dL_act_319 (by decide) ?_
        obtain ⟨hz, hf⟩ := gd_s hf
        have e9 := so_e hf
        cases e9
        refine W.widen (k := 16) (n := 316) (by decide) (by decide) ?_
        exact W.zret hx hb hr (isb_nar hz) (fun t ht hW => ⟨⟨_, hs, rfl, ⟨rfl, rfl⟩, WE.mk hP hD ht⟩, hS.F ht⟩) hS.2.2 dL_act_320
      · have hf := it_f hf c9
        refine lv_aload_n hx hb dL_act_308 rfl (lv_at hl 1 rfl) ?_
        refine lv_iload hx hb dL_act_309 (lv_at hl 6 rfl) ?_
        refine lv_iload hx hb dL_act_311 (lv_at hl 0 rfl) ?_
        obtain ⟨r313, hc313, hf⟩ := bi_s hf
        rcases r313 with E9 | r313
        · have e9 := so_e hf
          cases e9
        have hf := sel_r hf
        refine cRO (W.runV (As := [.int l5, .int r61]) (rest := []) ⟨hx, hb, hml, hown, hts⟩ (n_X8_thingsIn l dC dI cI cZ cS (fS hs) (fG hs) a N l5 r61 r313 hc313) (cwV 2 hts gL_act_X8_thingsIn rfl rfl rfl (by decide +kernel) ⟨Nat.le_of_ble_eq_true rfl, Nat.le_of_ble_eq_true rfl⟩) ⟨RO8.blind, va_recv hK hP (ci := 8) (q0 := 0) rfl rfl, RO8.pre (P_app hP).1 hK hNW⟩ rfl rfl hl.1 rfl (lv_room (Nat.le_of_ble_eq_true rfl)) dL_act_313 ⟨Nat.le_of_ble_eq_true rfl, Nat.le_of_ble_eq_true rfl⟩) ?_
        refine lv_if_ne (tgt := 321) hx hb dL_act_316 (by decide) (fun c9 => ?_) (fun c9 => ?_)
        · have hf := it_t hf c9
          refine lv_aload_n hx hb dL_act_321 rfl (lv_at hl 1 rfl) ?_
          refine lv_iload hx hb dL_act_322 (lv_at hl 0 rfl) ?_
          refine lv_iconst (v := (1 : Int32)) hx hb dL_act_324 (by decide) ?_
          obtain ⟨⟨r325, N325, C325⟩, hc325, hf⟩ := bi_s hf
          rcases r325 with E9 | r325
          · exact absurd hf (fun h => nomatch h)
          have hf := sel_r hf
          have hPc := hP.part (X := (wX8 cI cZ cS (fS hs) (fG hs) a N)) (cx := (wX8 cI cZ cS (fS hs) (fG hs) a N)) [0, 1, 2, 3, 4, 5, 6, 7, 8, 9, 10, 11, 12, 13, 14, 15, 16, 17, 18, 19, 20, 21, 22, 23, 24, 25, 26, 27, 28, 29, 30, 31, 32, 33, 34, 35, 36, 37, 38, 39, 40, 41] rfl
          have hDc := hD.part (X := (wX8 cI cZ cS (fS hs) (fG hs) a N)) (cx := (wX8 cI cZ cS (fS hs) (fG hs) a N)) [0, 1, 2, 3, 4, 5, 6, 7, 8, 9, 10, 11, 12, 13, 14, 15, 16, 17, 18, 19, 20, 21, 22, 23, 24, 25, 26, 27, 28, 29, 30, 31, 32, 33, 34, 35, 36, 37, 38, 39, 40, 41] (by decide) rfl
          have hFc := va_freeP (X := (wX8 cI cZ cS (fS hs) (fG hs) a N)) (cx := (wX8 cI cZ cS (fS hs) (fG hs) a N)) hD hS hA [0, 1, 2, 3, 4, 5, 6, 7, 8, 9, 10, 11, 12, 13, 14, 15, 16, 17, 18, 19, 20, 21, 22, 23, 24, 25, 26, 27, 28, 29, 30, 31, 32, 33, 34, 35, 36, 37, 38, 39, 40, 41] rfl
          refine va_calli (va_runV (As := [.int r61, .int (1 : Int32)]) (rest := []) ⟨hx, hb, hml, hown, hts⟩ (n_X8_take l dC dI cI cZ cS hs a H.size N r61 (1 : Int32) r325 N325 C325 hc325) (cwV 2 hts gL_act_X8_take rfl rfl rfl (by decide +kernel) ⟨Nat.le_of_ble_eq_true rfl, Nat.le_of_ble_eq_true rfl⟩) ⟨WR8.blind, va_recv hK hP (ci := 8) (q0 := 0) rfl rfl, WR8.pre hPc hK hDc hNW⟩ rfl rfl hl.1 rfl (lv_room (Nat.le_of_ble_eq_true rfl)) dL_act_325 ⟨Nat.le_of_ble_eq_true rfl, Nat.le_of_ble_eq_true rfl⟩) hS (fun q _ h => hFc q h) hFc (fun rv hs1 t H1 locs ht hvm hw hB hz1 hk1 hS => ?_)
          obtain ⟨hw1, hh1⟩ := hw
          subst hw1
          obtain ⟨hP1, hD1⟩ := hB
          rw [ht] at hP1
          have hP := hP1
          have hD := hD1.weaken (fun k q _ h => hFc q.1 h)
          have hP : va_P (dC, dI) vwCl (wX8 cI cZ cS (fS hs1) (fG hs1) a N325 ++ RW cI cZ hs1) H1 := hP
          have hD : va_D A (wX8 cI cZ cS (fS hs1) (fG hs1) a N325 ++ RW cI cZ hs1) := hD
          generalize H1 = H at hP hS ⊢
          refine lv_pop hx hb dL_act_328 rfl ?_
          refine lv_iconst (v := (1 : Int32)) hx hb dL_act_329 (by decide) ?_
          obtain ⟨hz, hf⟩ := gd_s hf
          have e9 := so_e hf
          cases e9
          exact W.zret hx hb hr (isb_nar hz) (fun t ht hW => ⟨⟨_, hs1, rfl, ⟨rfl, hh1⟩, WE.mk hP hD ht⟩, hS.F ht⟩) hS.2.2 dL_act_330
        · have hf := it_n hf c9
          refine lv_iconst (v := (0 : Int32)) hx hb dL_act_319 (by decide) ?_
          obtain ⟨hz, hf⟩ := gd_s hf
          have e9 := so_e hf
          cases e9
          refine W.widen (k := 16) (n := 316) (by decide) (by decide) ?_
          exact W.zret hx hb hr (isb_nar hz) (fun t ht hW => ⟨⟨_, hs, rfl, ⟨rfl, rfl⟩, WE.mk hP hD ht⟩, hS.F ht⟩) hS.2.2 dL_act_320
    have hf := it_f hf c909
    by_cases c910 : (l1 &&& (15 : Int32)) = (10 : Int32)
    · have hf := it_t hf c910
      refine lv_tableIn (off := 261) (tgt := 331) hx hb dL_act_70 (by rw [c910]; decide) (by rw [c910]; decide) (by rw [c910]; rfl) (by decide) ?_
      exact hfL_act_B331  N l2 r61 hf _ (lv_sub hl [1, 3, 0] rfl) _ _ hP hD hS
    have hf := it_f hf c910
    by_cases c911 : (l1 &&& (15 : Int32)) = (11 : Int32)
    · have hf := it_t hf c911
      refine lv_tableIn (off := 261) (tgt := 331) hx hb dL_act_70 (by rw [c911]; decide) (by rw [c911]; decide) (by rw [c911]; rfl) (by decide) ?_
      exact hfL_act_B331  N l2 r61 hf _ (lv_sub hl [1, 3, 0] rfl) _ _ hP hD hS
    have hf := it_f hf c911
    by_cases c912 : (l1 &&& (15 : Int32)) = (12 : Int32)
    · have hf := it_t hf c912
      refine lv_tableIn (off := 317) (tgt := 387) hx hb dL_act_70 (by rw [c912]; decide) (by rw [c912]; decide) (by rw [c912]; rfl) (by decide) ?_
      refine lv_aload_n hx hb dL_act_387 rfl (lv_at hl 1 rfl) ?_
      obtain ⟨⟨r388, N388, C388⟩, hc388, hf⟩ := bi_s hf
      rcases r388 with E9 | r388
      · exact absurd hf (fun h => nomatch h)
      have hf := sel_r hf
      have hPc := hP.part (X := (wX8 cI cZ cS (fS hs) (fG hs) a N)) (cx := (wX8 cI cZ cS (fS hs) (fG hs) a N)) [0, 1, 2, 3, 4, 5, 6, 7, 8, 9, 10, 11, 12, 13, 14, 15, 16, 17, 18, 19, 20, 21, 22, 23, 24, 25, 26, 27, 28, 29, 30, 31, 32, 33, 34, 35, 36, 37, 38, 39, 40, 41] rfl
      have hDc := hD.part (X := (wX8 cI cZ cS (fS hs) (fG hs) a N)) (cx := (wX8 cI cZ cS (fS hs) (fG hs) a N)) [0, 1, 2, 3, 4, 5, 6, 7, 8, 9, 10, 11, 12, 13, 14, 15, 16, 17, 18, 19, 20, 21, 22, 23, 24, 25, 26, 27, 28, 29, 30, 31, 32, 33, 34, 35, 36, 37, 38, 39, 40, 41] (by decide) rfl
      have hFc := va_freeP (X := (wX8 cI cZ cS (fS hs) (fG hs) a N)) (cx := (wX8 cI cZ cS (fS hs) (fG hs) a N)) hD hS hA [0, 1, 2, 3, 4, 5, 6, 7, 8, 9, 10, 11, 12, 13, 14, 15, 16, 17, 18, 19, 20, 21, 22, 23, 24, 25, 26, 27, 28, 29, 30, 31, 32, 33, 34, 35, 36, 37, 38, 39, 40, 41] rfl
      refine va_calli (va_runV (As := []) (rest := []) ⟨hx, hb, hml, hown, hts⟩ (n_X8_turnRule l dC dI cI cZ cS hs a H.size N r388 N388 C388 hc388) (cwV 0 hts gL_act_X8_turnRule rfl rfl rfl (by decide +kernel) ⟨Nat.le_of_ble_eq_true rfl, Nat.le_of_ble_eq_true rfl⟩) ⟨WR8.blind, va_recv hK hP (ci := 8) (q0 := 0) rfl rfl, WR8.pre hPc hK hDc hNW⟩ rfl rfl hl.1 rfl (lv_room (Nat.le_of_ble_eq_true rfl)) dL_act_388 ⟨Nat.le_of_ble_eq_true rfl, Nat.le_of_ble_eq_true rfl⟩) hS (fun q _ h => hFc q h) hFc (fun rv hs1 t H1 locs ht hvm hw hB hz1 hk1 hS => ?_)
      obtain ⟨hw1, hh1⟩ := hw
      subst hw1
      obtain ⟨hP1, hD1⟩ := hB
      rw [ht] at hP1
      have hP := hP1
      have hD := hD1.weaken (fun k q _ h => hFc q.1 h)
      have hP : va_P (dC, dI) vwCl (wX8 cI cZ cS (fS hs1) (fG hs1) a N388 ++ RW cI cZ hs1) H1 := hP
      have hD : va_D A (wX8 cI cZ cS (fS hs1) (fG hs1) a N388 ++ RW cI cZ hs1) := hD
      generalize H1 = H at hP hS ⊢
      refine lv_pop hx hb dL_act_391 rfl ?_
      refine lv_iconst (v := (1 : Int32)) hx hb dL_act_392 (by decide) ?_
      obtain ⟨hz, hf⟩ := gd_s hf
      have e9 := so_e hf
      cases e9
      exact W.zret hx hb hr (isb_nar hz) (fun t ht hW => ⟨⟨_, hs1, rfl, ⟨rfl, hh1⟩, WE.mk hP hD ht⟩, hS.F ht⟩) hS.2.2 dL_act_393
    have hf := it_f hf c912
    by_cases c913 : (l1 &&& (15 : Int32)) = (13 : Int32)
    · have hf := it_t hf c913
      refine lv_tableIn (off := 324) (tgt := 394) hx hb dL_act_70 (by rw [c913]; decide) (by rw [c913]; decide) (by rw [c913]; rfl) (by decide) ?_
      refine lv_aload_n hx hb dL_act_394 rfl (lv_at hl 1 rfl) ?_
      refine lv_iload hx hb dL_act_395 (lv_at hl 0 rfl) ?_
      refine lv_iload_n hx hb dL_act_397 rfl (lv_at hl 3 rfl) ?_
      refine lv_iconst (v := (4 : Int32)) hx hb dL_act_398 (by decide) ?_
      refine lv_ishr hx hb dL_act_399 ?_
      refine lv_bipush (v := (100 : Int32)) hx hb dL_act_400 (by decide) ?_
      obtain ⟨r402, hc402, hf⟩ := bi_s hf
      refine cRO (W.runS (As := [.int (l2 >>> ((4 : Int32) &&& 31)), .int (100 : Int32)]) (rest := [.int r61, .ref (a 0)]) ⟨hx, hb, hml, hown, hts⟩ (c_L_low l (l2 >>> ((4 : Int32) &&& 31)) (100 : Int32) r402 hc402) (va_cwS 2 hts gL_act_L_low rfl rfl rfl (by decide +kernel) ⟨Nat.le_of_ble_eq_true rfl, Nat.le_of_ble_eq_true rfl⟩) ⟨tr_blind, tr_pre⟩ rfl rfl hl.1 rfl (lv_room (Nat.le_of_ble_eq_true rfl)) dL_act_402 ⟨Nat.le_of_ble_eq_true rfl, Nat.le_of_ble_eq_true rfl⟩) ?_
      obtain ⟨⟨r405, N405, C405⟩, hc405, hf⟩ := bi_s hf
      rcases r405 with E9 | r405
      · exact absurd hf (fun h => nomatch h)
      have hf := sel_r hf
      have hPc := hP.part (X := (wX8 cI cZ cS (fS hs) (fG hs) a N)) (cx := (wX8 cI cZ cS (fS hs) (fG hs) a N)) [0, 1, 2, 3, 4, 5, 6, 7, 8, 9, 10, 11, 12, 13, 14, 15, 16, 17, 18, 19, 20, 21, 22, 23, 24, 25, 26, 27, 28, 29, 30, 31, 32, 33, 34, 35, 36, 37, 38, 39, 40, 41] rfl
      have hDc := hD.part (X := (wX8 cI cZ cS (fS hs) (fG hs) a N)) (cx := (wX8 cI cZ cS (fS hs) (fG hs) a N)) [0, 1, 2, 3, 4, 5, 6, 7, 8, 9, 10, 11, 12, 13, 14, 15, 16, 17, 18, 19, 20, 21, 22, 23, 24, 25, 26, 27, 28, 29, 30, 31, 32, 33, 34, 35, 36, 37, 38, 39, 40, 41] (by decide) rfl
      have hFc := va_freeP (X := (wX8 cI cZ cS (fS hs) (fG hs) a N)) (cx := (wX8 cI cZ cS (fS hs) (fG hs) a N)) hD hS hA [0, 1, 2, 3, 4, 5, 6, 7, 8, 9, 10, 11, 12, 13, 14, 15, 16, 17, 18, 19, 20, 21, 22, 23, 24, 25, 26, 27, 28, 29, 30, 31, 32, 33, 34, 35, 36, 37, 38, 39, 40, 41] rfl
      refine va_calli (va_runV (As := [.int r61, .int r402]) (rest := []) ⟨hx, hb, hml, hown, hts⟩ (n_X8_changeLeast l dC dI cI cZ cS hs a H.size N r61 r402 r405 N405 C405 hc405) (cwV 2 hts gL_act_X8_changeLeast rfl rfl rfl (by decide +kernel) ⟨Nat.le_of_ble_eq_true rfl, Nat.le_of_ble_eq_true rfl⟩) ⟨WR8.blind, va_recv hK hP (ci := 8) (q0 := 0) rfl rfl, WR8.pre hPc hK hDc hNW⟩ rfl rfl hl.1 rfl (lv_room (Nat.le_of_ble_eq_true rfl)) dL_act_405 ⟨Nat.le_of_ble_eq_true rfl, Nat.le_of_ble_eq_true rfl⟩) hS (fun q _ h => hFc q h) hFc (fun rv hs1 t H1 locs ht hvm hw hB hz1 hk1 hS => ?_)
      obtain ⟨hw1, hh1⟩ := hw
      subst hw1
      obtain ⟨hP1, hD1⟩ := hB
      rw [ht] at hP1
      have hP := hP1
      have hD := hD1.weaken (fun k q _ h => hFc q.1 h)
      have hP : va_P (dC, dI) vwCl (wX8 cI cZ cS (fS hs1) (fG hs1) a N405 ++ RW cI cZ hs1) H1 := hP
      have hD : va_D A (wX8 cI cZ cS (fS hs1) (fG hs1) a N405 ++ RW cI cZ hs1) := hD
      generalize H1 = H at hP hS ⊢
      refine lv_pop hx hb dL_act_408 rfl ?_
      refine lv_iconst (v := (1 : Int32)) hx hb dL_act_409 (by decide) ?_
      obtain ⟨hz, hf⟩ := gd_s hf
      have e9 := so_e hf
      cases e9
      exact W.zret hx hb hr (isb_nar hz) (fun t ht hW => ⟨⟨_, hs1, rfl, ⟨rfl, hh1⟩, WE.mk hP hD ht⟩, hS.F ht⟩) hS.2.2 dL_act_410
    have hf := it_f hf c913
    refine lv_tableOut (tgt := 411) hx hb dL_act_70 (tab_out 14 (by decide) (fun k hk => by rcases (show k = 0 ∨ k = 1 ∨ k = 2 ∨ k = 3 ∨ k = 4 ∨ k = 5 ∨ k = 6 ∨ k = 7 ∨ k = 8 ∨ k = 9 ∨ k = 10 ∨ k = 11 ∨ k = 12 ∨ k = 13 by omega) with rfl | rfl | rfl | rfl | rfl | rfl | rfl | rfl | rfl | rfl | rfl | rfl | rfl | rfl <;> assumption)) (by decide) ?_
    refine lv_iload hx hb dL_act_411 (lv_at hl 6 rfl) ?_
    refine lv_if_lt (tgt := 418) hx hb dL_act_413 (by decide) (fun c9 => ?_) (fun c9 => ?_)
    · have hf := it_t hf c9
      refine lv_aload_n hx hb dL_act_418 rfl (lv_at hl 1 rfl) ?_
      obtain ⟨⟨r419, N419, C419⟩, hc419, hf⟩ := bi_s hf
      rcases r419 with E9 | r419
      · exact absurd hf (fun h => nomatch h)
      have hf := sel_r hf
      have hPc := hP.part (X := (wX8 cI cZ cS (fS hs) (fG hs) a N)) (cx := (wX8 cI cZ cS (fS hs) (fG hs) a N)) [0, 1, 2, 3, 4, 5, 6, 7, 8, 9, 10, 11, 12, 13, 14, 15, 16, 17, 18, 19, 20, 21, 22, 23, 24, 25, 26, 27, 28, 29, 30, 31, 32, 33, 34, 35, 36, 37, 38, 39, 40, 41] rfl
      have hDc := hD.part (X := (wX8 cI cZ cS (fS hs) (fG hs) a N)) (cx := (wX8 cI cZ cS (fS hs) (fG hs) a N)) [0, 1, 2, 3, 4, 5, 6, 7, 8, 9, 10, 11, 12, 13, 14, 15, 16, 17, 18, 19, 20, 21, 22, 23, 24, 25, 26, 27, 28, 29, 30, 31, 32, 33, 34, 35, 36, 37, 38, 39, 40, 41] (by decide) rfl
      have hFc := va_freeP (X := (wX8 cI cZ cS (fS hs) (fG hs) a N)) (cx := (wX8 cI cZ cS (fS hs) (fG hs) a N)) hD hS hA [0, 1, 2, 3, 4, 5, 6, 7, 8, 9, 10, 11, 12, 13, 14, 15, 16, 17, 18, 19, 20, 21, 22, 23, 24, 25, 26, 27, 28, 29, 30, 31, 32, 33, 34, 35, 36, 37, 38, 39, 40, 41] rfl
      refine va_calli (va_runV (As := []) (rest := []) ⟨hx, hb, hml, hown, hts⟩ (n_X8_serveAll l dC dI cI cZ cS hs a H.size N r419 N419 C419 hc419) (cwV 0 hts gL_act_X8_serveAll rfl rfl rfl (by decide +kernel) ⟨Nat.le_of_ble_eq_true rfl, Nat.le_of_ble_eq_true rfl⟩) ⟨WR8.blind, va_recv hK hP (ci := 8) (q0 := 0) rfl rfl, WR8.pre hPc hK hDc hNW⟩ rfl rfl hl.1 rfl (lv_room (Nat.le_of_ble_eq_true rfl)) dL_act_419 ⟨Nat.le_of_ble_eq_true rfl, Nat.le_of_ble_eq_true rfl⟩) hS (fun q _ h => hFc q h) hFc (fun rv hs1 t H1 locs ht hvm hw hB hz1 hk1 hS => ?_)
      obtain ⟨hw1, hh1⟩ := hw
      subst hw1
      obtain ⟨hP1, hD1⟩ := hB
      rw [ht] at hP1
      have hP := hP1
      have hD := hD1.weaken (fun k q _ h => hFc q.1 h)
      have hP : va_P (dC, dI) vwCl (wX8 cI cZ cS (fS hs1) (fG hs1) a N419 ++ RW cI cZ hs1) H1 := hP
      have hD : va_D A (wX8 cI cZ cS (fS hs1) (fG hs1) a N419 ++ RW cI cZ hs1) := hD
      generalize H1 = H at hP hS ⊢
      refine lv_pop hx hb dL_act_422 rfl ?_
      refine lv_iconst (v := (1 : Int32)) hx hb dL_act_423 (by decide) ?_
      obtain ⟨hz, hf⟩ := gd_s hf
      have e9 := so_e hf
      cases e9
      exact W.zret hx hb hr (isb_nar hz) (fun t ht hW => ⟨⟨_, hs1, rfl, ⟨rfl, hh1⟩, WE.mk hP hD ht⟩, hS.F ht⟩) hS.2.2 dL_act_424
    · have hf := it_f hf c9
      refine lv_iconst (v := (0 : Int32)) hx hb dL_act_416 (by decide) ?_
      obtain ⟨hz, hf⟩ := gd_s hf
      have e9 := so_e hf
      cases e9
      refine W.widen (k := 16) (n := 316) (by decide) (by decide) ?_
      exact W.zret hx hb hr (isb_nar hz) (fun t ht hW => ⟨⟨_, hs, rfl, ⟨rfl, rfl⟩, WE.mk hP hD ht⟩, hS.F ht⟩) hS.2.2 dL_act_417
  have hl := lv_entry ([.ref (a 0), .int a1, .int a2]) (n := 9) (Nat.le_of_ble_eq_true rfl)
  rw [lg_entry_eq]
  generalize (lg_sl ([.ref (a 0), .int a1, .int a2]) ++ List.replicate (9 - (lg_sl ([.ref (a 0), .int a1, .int a2])).length) Slot.unset).toArray = ls at hl ⊢
  have hl : lv_has ls 9 [(0, .ref (a 0)), (1, .int a1), (2, .int a2)] := hl
  unfold fL_act at hf
  suffices hgo : ∀ (H : Heap) (locs : List Loc), va_P (dC, dI) vwCl (wX8 cI cZ cS (fS hs) (fG hs) a M ++ RW cI cZ hs) H → va_D A (wX8 cI cZ cS (fS hs) (fG hs) a M ++ RW cI cZ hs) → va_S A s.heap H locs → W p l e (headSpec wsL_act ({ frames := 7, cells := 16, slots := 316, locals := 176 } : Room)).room s m ([.ref (a 0), .int a1, .int a2] : List Value).toArray below meth c H locs 0 0 (MQ below (va_Qi (S := HS) (fun r hs' => r = z1 ∧ cts hs' = z3) (fun hs' t => WE (dC, dI) cI cZ (wX8 cI cZ cS (fS hs') (fG hs') a z2 ++ RW cI cZ hs') A t) A) ([.ref (a 0), .int a1, .int a2] : List Value).toArray s 16 316 A) (F0 m 0 ls []) from hgo _ _ hP hD hS
  intro H locs hP hD hS
  refine lv_aload_n hx hb dL_act_0 rfl (lv_at hl 0 rfl) ?_
  obtain ⟨r1, hc1, hf⟩ := bi_s hf
  have hPc := (P_app hP).1
  refine cRO (W.runV (As := []) (rest := []) ⟨hx, hb, hml, hown, hts⟩ (c_X8_shelves l dC dI cI cZ cS (fS hs) (fG hs) a M r1 hc1) (cwV 0 hts gL_act_X8_shelves rfl rfl rfl (by decide +kernel) ⟨Nat.le_of_ble_eq_true rfl, Nat.le_of_ble_eq_true rfl⟩) ⟨RO8.blind, va_recv hK hP (ci := 8) (q0 := 0) rfl rfl, RO8.pre hPc hK hNW⟩ rfl rfl hl.1 rfl (lv_room (Nat.le_of_ble_eq_true rfl)) dL_act_1 ⟨Nat.le_of_ble_eq_true rfl, Nat.le_of_ble_eq_true rfl⟩) ?_
  refine lv_istore_n (lv' := [(3, .int r1), (0, .ref (a 0)), (1, .int a1), (2, .int a2)]) hx hb dL_act_4 rfl hl (by decide) rfl (fun ls hl => ?_)
  refine lv_iload_n hx hb dL_act_5 rfl (lv_at hl 0 rfl) ?_
  refine lv_if_ne (tgt := 13) hx hb dL_act_6 (by decide) (fun c9 => ?_) (fun c9 => ?_)
  · have hf := it_t hf c9
    refine lv_iload_n hx hb dL_act_13 rfl (lv_at hl 2 rfl) ?_
    refine lv_iconst (v := (4 : Int32)) hx hb dL_act_14 (by decide) ?_
    refine lv_ishr hx hb dL_act_15 ?_
    refine lv_iload_n hx hb dL_act_16 rfl (lv_at hl 0 rfl) ?_
    obtain ⟨r17, hc17, hf⟩ := bi_s hf
    refine cRO (W.runS (As := [.int (a1 >>> ((4 : Int32) &&& 31)), .int r1]) (rest := []) ⟨hx, hb, hml, hown, hts⟩ (c_L_low l (a1 >>> ((4 : Int32) &&& 31)) r1 r17 hc17) (va_cwS 2 hts gL_act_L_low rfl rfl rfl (by decide +kernel) ⟨Nat.le_of_ble_eq_true rfl, Nat.le_of_ble_eq_true rfl⟩) ⟨tr_blind, tr_pre⟩ rfl rfl hl.1 rfl (lv_room (Nat.le_of_ble_eq_true rfl)) dL_act_17 ⟨Nat.le_of_ble_eq_true rfl, Nat.le_of_ble_eq_true rfl⟩) ?_
    exact hfL_act_B20  M a1 a2 r1 r17 hf _ (lv_sub hl [1, 2, 3, 0] rfl) _ _ hP hD hS
  · have hf := it_n hf c9
    refine lv_iconst (v := (-1 : Int32)) hx hb dL_act_9 (by decide) ?_
    refine lv_goto (tgt := 20) hx hb dL_act_10 (by decide) ?_
    exact hfL_act_B20  M a1 a2 r1 (-1 : Int32) hf _ (lv_sub hl [1, 2, 3, 0] rfl) _ _ hP hD hS
