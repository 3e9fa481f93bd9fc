def fL_holds_L54 (M : Mem) : Nat → (Mem → Option (Int32 × Mem)) → (Mem → Int32 → Int32 → Int32 → Option (Int32 × Mem)) → Mem → Int32 → Int32 → Int32 → Int32 → Int32 → Option (Int32 × Mem)
  | 0, _, _, _, _, _, _, _, _ => none
  | n + 1, kx110, kx118, N, l1, l2, l3, l4, l5 => (fX8_heightOf (sr M 41 (N 41)) l3).bind fun r58 => sel r58 (fun E9 => none) (fun r58 => if r58 ≤ l5 then (kx118 (sr M 41 (N 41)) l1 l2 l3) else (if ¬ l4 = 0 then (kx118 (sr M 41 (N 41)) l1 l2 l3) else ((fX8_sideOf (sr M 41 (N 41)) l3).bind fun r72 => sel r72 (fun E9 => none) (fun r72 => (fX8_slotOf (sr M 41 (N 41)) l3).bind fun r77 => sel r77 (fun E9 => none) (fun r77 => (fX8_isFree (sr M 41 (N 41)) r72 (r77 + l5)).bind fun r83 => sel r83 (fun E9 => none) (fun r83 => if ¬ r83 = 0 then (kx110 (sr M 41 (N 41))) else ((fX8_sideOf (sr M 41 (N 41)) l3).bind fun r92 => sel r92 (fun E9 => none) (fun r92 => (fX8_slotOf (sr M 41 (N 41)) l3).bind fun r97 => sel r97 (fun E9 => none) (fun r97 => (fX8_shelfAt (sr M 41 (N 41)) r92 (r97 + l5)).bind fun r103 => sel r103 (fun E9 => none) (fun r103 => if r103 = l3 then (fL_holds_L54 M n kx110 kx118 (sr M 41 (N 41)) l1 l2 l3 l4 (l5 + (1 : Int32))) else (kx110 (sr M 41 (N 41)))))))))))))
def fL_holds_B49 (M : Mem) (kb : Mem → Int32 → Int32 → Int32 → Option (Int32 × Mem)) (kx110 : Mem → Option (Int32 × Mem)) (kx169 : Mem → Option (Int32 × Mem)) (kx177 : Mem → Int32 → Int32 → Option (Int32 × Mem)) (N : Mem) (l2 : Int32) (l3 : Int32) (l4 : Int32) (s0 : Int32) (s1 : Int32) : Option (Int32 × Mem) := fL_holds_L54 M 5000 (fun (N : Mem) => kx110 (sr M 41 (N 41))) (fun (N : Mem) (l1 : Int32) (l2 : Int32) (l3 : Int32) => (fX8_weightOf (sr M 41 (N 41)) l3).bind fun r120 => sel r120 (fun E9 => none) (fun r120 => if r120 < 0 then (kx169 (sr M 41 (N 41))) else ((fX8_weightOf (sr M 41 (N 41)) l3).bind fun r128 => sel r128 (fun E9 => none) (fun r128 => if (150 : Int32) < r128 then (kx169 (sr M 41 (N 41))) else ((fX8_heaviest (sr M 41 (N 41)) ).bind fun r139 => sel r139 (fun E9 => none) (fun r139 => (fX8_weightOf (sr M 41 (N 41)) r139).bind fun r142 => sel r142 (fun E9 => none) (fun r142 => (fX8_weightOf (sr M 41 (N 41)) l3).bind fun r147 => sel r147 (fun E9 => none) (fun r147 => if r142 < r147 then (kx169 (sr M 41 (N 41))) else ((fX8_mostFetched (sr M 41 (N 41)) ).bind fun r155 => sel r155 (fun E9 => none) (fun r155 => (fX8_fetchesOf (sr M 41 (N 41)) r155).bind fun r158 => sel r158 (fun E9 => none) (fun r158 => (fX8_fetchesOf (sr M 41 (N 41)) l3).bind fun r163 => sel r163 (fun E9 => none) (fun r163 => if r163 ≤ r158 then (kb (sr M 41 (N 41)) l1 l2 (l3 + (1 : Int32))) else (kx169 (sr M 41 (N 41))))))))))))))) (sr M 41 (N 41)) (s0 + s1) l2 l3 l4 (0 : Int32)
def fL_holds_B32 (M : Mem) (kb : Mem → Int32 → Int32 → Int32 → Option (Int32 × Mem)) (kx110 : Mem → Option (Int32 × Mem)) (kx169 : Mem → Option (Int32 × Mem)) (kx177 : Mem → Int32 → Int32 → Option (Int32 × Mem)) (N : Mem) (l1 : Int32) (l3 : Int32) (l4 : Int32) (s0 : Int32) (s1 : Int32) : Option (Int32 × Mem) := if l4 = 0 then ((fX8_heightOf (sr M 41 (N 41)) l3).bind fun r46 => sel r46 (fun E9 => none) (fun r46 => fL_holds_B49 M kb kx110 kx169 kx177 (sr M 41 (N 41)) (s0 + s1) l3 l4 l1 r46)) else (fL_holds_B49 M kb kx110 kx169 kx177 (sr M 41 (N 41)) (s0 + s1) l3 l4 l1 (0 : Int32))
def fL_holds_L6 (M : Mem) : Nat → (Mem → Option (Int32 × Mem)) → (Mem → Option (Int32 × Mem)) → (Mem → Int32 → Int32 → Option (Int32 × Mem)) → Mem → Int32 → Int32 → Int32 → Option (Int32 × Mem)
  | 0, _, _, _, _, _, _, _ => none
  | n + 1, kx110, kx169, kx177, N, l1, l2, l3 => (fX8_shelves (sr M 41 (N 41)) ).bind fun r8 => if r8 ≤ l3 then (kx177 (sr M 41 (N 41)) l1 l2) else ((fX8_isAtWindow (sr M 41 (N 41)) l3).bind fun r16 => sel r16 (fun E9 => none) (fun r16 => if r16 = 0 then (fL_holds_B32 M (fun (N : Mem) (l1 : Int32) (l2 : Int32) (l3 : Int32) => fL_holds_L6 M n kx110 kx169 kx177 N l1 l2 l3) kx110 kx169 kx177 (sr M 41 (N 41)) l1 l3 r16 l2 (0 : Int32)) else (fL_holds_B32 M (fun (N : Mem) (l1 : Int32) (l2 : Int32) (l3 : Int32) => fL_holds_L6 M n kx110 kx169 kx177 N l1 l2 l3) kx110 kx169 kx177 (sr M 41 (N 41)) l1 l3 r16 l2 (1 : Int32))))
def fL_holds_B228 (M : Mem) (kb : Mem → Int32 → Int32 → Int32 → Option (Int32 × Mem)) (kx231 : Mem → Option (Int32 × Mem)) (kx239 : Mem → Int32 → Int32 → Option (Int32 × Mem)) (N : Mem) (l1 : Int32) (l2 : Int32) (l3 : Int32) (s0 : Int32) (s1 : Int32) : Option (Int32 × Mem) := if s0 = s1 then (kb (sr M 41 (N 41)) l1 l2 (l3 + (1 : Int32))) else (kx231 (sr M 41 (N 41)))
def fL_holds_B211 (M : Mem) (kb : Mem → Int32 → Int32 → Int32 → Option (Int32 × Mem)) (kx231 : Mem → Option (Int32 × Mem)) (kx239 : Mem → Int32 → Int32 → Option (Int32 × Mem)) (N : Mem) (l1 : Int32) (l2 : Int32) (l3 : Int32) (s0 : Int32) : Option (Int32 × Mem) := (fX8_shortKinds (sr M 41 (N 41)) ).bind fun r212 => if ¬ ((r212 >>> (l3 &&& 31)) &&& (1 : Int32)) = (1 : Int32) then (fL_holds_B228 M kb kx231 kx239 (sr M 41 (N 41)) l1 l2 l3 s0 (0 : Int32)) else (fL_holds_B228 M kb kx231 kx239 (sr M 41 (N 41)) l1 l2 l3 s0 (1 : Int32))
def fL_holds_L179 (M : Mem) : Nat → (Mem → Option (Int32 × Mem)) → (Mem → Int32 → Int32 → Option (Int32 × Mem)) → Mem → Int32 → Int32 → Int32 → Option (Int32 × Mem)
  | 0, _, _, _, _, _, _ => none
  | n + 1, kx231, kx239, N, l1, l2, l3 => if (10 : Int32) ≤ l3 then (kx239 (sr M 41 (N 41)) l1 l2) else ((fX8_stockByShelves (sr M 41 (N 41)) l3).bind fun r187 => sel r187 (fun E9 => none) (fun r187 => (fX8_stockByAccount (sr M 41 (N 41)) l3).bind fun r192 => sel r192 (fun E9 => none) (fun r192 => if ¬ r187 = r192 then (kx231 (sr M 41 (N 41))) else ((fX8_missingOf (sr M 41 (N 41)) l3).bind fun r200 => sel r200 (fun E9 => none) (fun r200 => if r200 ≤ 0 then (fL_holds_B211 M (fun (N : Mem) (l1 : Int32) (l2 : Int32) (l3 : Int32) => fL_holds_L179 M n kx231 kx239 N l1 l2 l3) kx231 kx239 (sr M 41 (N 41)) l1 l2 l3 (0 : Int32)) else (fL_holds_B211 M (fun (N : Mem) (l1 : Int32) (l2 : Int32) (l3 : Int32) => fL_holds_L179 M n kx231 kx239 N l1 l2 l3) kx231 kx239 (sr M 41 (N 41)) l1 l2 l3 (1 : Int32)))))))
def fL_holds_B288 (M : Mem) (kb : Mem → Int32 → Int32 → Int32 → Int32 → Int32 → Option (Int32 × Mem)) (kx296 : Mem → Int32 → Int32 → Int32 → Int32 → Option (Int32 × Mem)) (N : Mem) (l1 : Int32) (l2 : Int32) (l3 : Int32) (l5 : Int32) (s0 : Int32) : Option (Int32 × Mem) := kb (sr M 41 (N 41)) l1 l2 l3 s0 (l5 + (1 : Int32))
def fL_holds_B287 (M : Mem) (kb : Mem → Int32 → Int32 → Int32 → Int32 → Int32 → Option (Int32 × Mem)) (kx296 : Mem → Int32 → Int32 → Int32 → Int32 → Option (Int32 × Mem)) (N : Mem) (l1 : Int32) (l2 : Int32) (l3 : Int32) (l5 : Int32) : Option (Int32 × Mem) := fL_holds_B288 M kb kx296 (sr M 41 (N 41)) l1 l2 l3 l5 (0 : Int32)
def fL_holds_L255 (M : Mem) : Nat → (Mem → Int32 → Int32 → Int32 → Int32 → Option (Int32 × Mem)) → Mem → Int32 → Int32 → Int32 → Int32 → Int32 → Option (Int32 × Mem)
  | 0, _, _, _, _, _, _, _ => none
  | n + 1, kx296, N, l1, l2, l3, l4, l5 => if (10 : Int32) ≤ l5 then (kx296 (sr M 41 (N 41)) l1 l2 l3 l4) else (if l4 = 0 then (fL_holds_B287 M (fun (N : Mem) (l1 : Int32) (l2 : Int32) (l3 : Int32) (l4 : Int32) (l5 : Int32) => fL_holds_L255 M n kx296 N l1 l2 l3 l4 l5) kx296 (sr M 41 (N 41)) l1 l2 l3 l5) else ((fX8_wanted (sr M 41 (N 41)) l3 l5).bind fun r271 => sel r271 (fun E9 => none) (fun r271 => (fX8_stockByShelves (sr M 41 (N 41)) l5).bind fun r277 => sel r277 (fun E9 => none) (fun r277 => if r277 < r271 then (fL_holds_B287 M (fun (N : Mem) (l1 : Int32) (l2 : Int32) (l3 : Int32) (l4 : Int32) (l5 : Int32) => fL_holds_L255 M n kx296 N l1 l2 l3 l4 l5) kx296 (sr M 41 (N 41)) l1 l2 l3 l5) else (fL_holds_B288 M (fun (N : Mem) (l1 : Int32) (l2 : Int32) (l3 : Int32) (l4 : Int32) (l5 : Int32) => fL_holds_L255 M n kx296 N l1 l2 l3 l4 l5) kx296 (sr M 41 (N 41)) l1 l2 l3 l5 (1 : Int32))))))
def fL_holds_B335 (M : Mem) (kb : Mem → Int32 → Int32 → Int32 → Option (Int32 × Mem)) (kx333 : Mem → Option (Int32 × Mem)) (kx341 : Mem → Int32 → Int32 → Option (Int32 × Mem)) (N : Mem) (l1 : Int32) (l2 : Int32) (l3 : Int32) : Option (Int32 × Mem) := kb (sr M 41 (N 41)) l1 l2 (l3 + (1 : Int32))
def fL_holds_L241 (M : Mem) : Nat → (Mem → Option (Int32 × Mem)) → (Mem → Int32 → Int32 → Option (Int32 × Mem)) → Mem → Int32 → Int32 → Int32 → Option (Int32 × Mem)
  | 0, _, _, _, _, _, _ => none
  | n + 1, kx333, kx341, N, l1, l2, l3 => (fX8_orders (sr M 41 (N 41)) ).bind fun r243 => if r243 ≤ l3 then (kx341 (sr M 41 (N 41)) l1 l2) else (fL_holds_L255 M 5000 (fun (N : Mem) (l1 : Int32) (l2 : Int32) (l3 : Int32) (l4 : Int32) => (fX8_canServe (sr M 41 (N 41)) l3).bind fun r298 => sel r298 (fun E9 => none) (fun r298 => if ¬ r298 = l4 then (kx333 (sr M 41 (N 41))) else (if l4 = 0 then (fL_holds_B335 M (fun (N : Mem) (l1 : Int32) (l2 : Int32) (l3 : Int32) => fL_holds_L241 M n kx333 kx341 N l1 l2 l3) kx333 kx341 (sr M 41 (N 41)) l1 l2 l3) else ((fX8_fewestByTrying (sr M 41 (N 41)) l3).bind fun r313 => sel r313 (fun E9 => none) (fun r313 => (fX8_fewestByGoing (sr M 41 (N 41)) l3).bind fun q318 => sel q318.1 (fun E9 => none) (fun r318 => if ¬ r313 = r318 then (kx333 (sr M 41 (q318.2 41))) else ((fX8_fewestByTrying (sr M 41 (q318.2 41)) l3).bind fun r326 => sel r326 (fun E9 => none) (fun r326 => if (1 : Int32) ≤ r326 then (fL_holds_B335 M (fun (N : Mem) (l1 : Int32) (l2 : Int32) (l3 : Int32) => fL_holds_L241 M n kx333 kx341 N l1 l2 l3) kx333 kx341 (sr M 41 (q318.2 41)) l1 l2 l3) else (kx333 (sr M 41 (q318.2 41))))))))))) (sr M 41 (N 41)) l1 l2 l3 (1 : Int32) (0 : Int32))
def fL_holds_B405 (M : Mem)  (N : Mem) (s0 : Int32) : Option (Int32 × Mem) := gd (isb s0) (some (s0, (sr M 41 (N 41))))
def fL_holds_B404 (M : Mem)  (N : Mem) : Option (Int32 × Mem) := fL_holds_B405 M  (sr M 41 (N 41)) (0 : Int32)
def fL_holds (M : Mem)  : Option (Int32 × Mem) := fL_holds_L6 M 5000 (fun (N : Mem) => gd (isb (0 : Int32)) (some ((0 : Int32), (sr M 41 (N 41))))) (fun (N : Mem) => gd (isb (0 : Int32)) (some ((0 : Int32), (sr M 41 (N 41))))) (fun (N : Mem) (l1 : Int32) (l2 : Int32) => fL_holds_L179 M 5000 (fun (N : Mem) => gd (isb (0 : Int32)) (some ((0 : Int32), (sr M 41 (N 41))))) (fun (N : Mem) (l1 : Int32) (l2 : Int32) => fL_holds_L241 M 5000 (fun (N : Mem) => gd (isb (0 : Int32)) (some ((0 : Int32), (sr M 41 (N 41))))) (fun (N : Mem) (l1 : Int32) (l2 : Int32) => if (1 : Int32) < l2 then (fL_holds_B404 M  (sr M 41 (N 41))) else ((fX8_freeBySlots (sr M 41 (N 41)) ).bind fun r347 => if ¬ r347 = ((40 : Int32) - l1) then (fL_holds_B404 M  (sr M 41 (N 41))) else ((fX8_freeByHeights (sr M 41 (N 41)) ).bind fun r358 => if ¬ r358 = ((40 : Int32) - l1) then (fL_holds_B404 M  (sr M 41 (N 41))) else ((fX8_lift (sr M 41 (N 41)) ).bind fun r369 => if r369 < 0 then (fL_holds_B404 M  (sr M 41 (N 41))) else ((fX8_lift (sr M 41 (N 41)) ).bind fun r376 => if (20 : Int32) ≤ r376 then (fL_holds_B404 M  (sr M 41 (N 41))) else ((fX8_trips (sr M 41 (N 41)) ).bind fun r385 => if (8 : Int32) < r385 then (fL_holds_B404 M  (sr M 41 (N 41))) else ((fX8_fetches (sr M 41 (N 41)) ).bind fun r394 => if r394 < 0 then (fL_holds_B404 M  (sr M 41 (N 41))) else (fL_holds_B405 M  (sr M 41 (N 41)) (1 : Int32))))))))) (sr M 41 (N 41)) l1 l2 (0 : Int32)) (sr M 41 (N 41)) l1 l2 (0 : Int32)) M (0 : Int32) (0 : Int32) (0 : Int32)
set_option maxHeartbeats 4000000 in
set_option maxRecDepth 100000 in
theorem c_L_holds (l : Launch) (dC : Nat → ClassId) (dI : Nat → Nat → Nat) (cI cZ cS : ClassId) (f g : Nat → Option Nat) (a : Nat → Nat) (sz : Nat) (M : Mem) (z : Int32 × Mem) (hf : fL_holds M  = some z) : Met l yL_holds wsL_holds ({ frames := 21, cells := 0, slots := 0, locals := 513 } : Room) (va_Pc [.ref (a 0)] (WR8 (dC, dI) cI cZ cS (wX8 cI cZ cS f g a M) sz)) (va_Qi (S := Unit) (fun r _ => r = z.1) (fun _ t => WE (dC, dI) cI cZ (wX8 cI cZ cS f g a (sr M 41 (z.2 41))) (va_A (wX8 cI cZ cS f g a M) sz) t) (va_A (wX8 cI cZ cS f g a M) sz)) 0 0 (va_A (wX8 cI cZ cS f g a M) sz) := by
  refine Met.ofW (cc := cL_holds) (maxL := 6) (ret := (some .boolean)) (by decide) rfl ?_
  intro p e s m args below meth c s₁ B hml hv
  obtain ⟨rfl, hsz, hP, hK, hD0, hNW⟩ := hv
  have hK2 : va_K (dC, dI) vwCl [(cI, .int), (cZ, .boolean)] s := hK.sub (tys' := [(cI, .int), (cZ, .boolean)]) [0, 1] rfl
  have hx := B.exec
  have hb := B.bytes
  have hr := B.returns
  have hts := atoms_spec (ws := wsL_holds) B.pre
  have hown : s.vm.findClass RL = some m.cls := findClass_of_methodNamed B.named
  have hlocks := B.notSynchronized
  subst hsz
  have hD := hD0.self (sz := s.heap.size)
  generalize hAe : va_A (wX8 cI cZ cS f g a M) s.heap.size = A at hD ⊢
  have hA : ∀ q : Nat, s.heap.size ≤ q → A q := fun q h => by rw [← hAe]; exact Or.inr h
  have hS : va_S A s.heap s.heap [] := va_S.rf
  have hfL_holds_L54 : ∀ (n : Nat) (kx110 : Mem → Option (Int32 × Mem)) (hkx110 : ∀ (N : Mem), kx110 N = some z → ∀ (ls : Array Slot), lv_has ls 6 [] → ∀ (H : Heap) (locs : List Loc), va_P (dC, dI) vwCl (wX8 cI cZ cS f g a (sr M 41 (N 41))) H → va_D A (wX8 cI cZ cS f g a (sr M 41 (N 41))) → va_S A s.heap H locs → W p l e (headSpec wsL_holds ({ frames := 21, cells := 0, slots := 0, locals := 513 } : Room)).room s m ([.ref (a 0)] : List Value).toArray below meth c H locs 0 0 (MQ below (va_Qi (S := Unit) (fun r _ => r = z.1) (fun _ t => WE (dC, dI) cI cZ (wX8 cI cZ cS f g a (sr M 41 (z.2 41))) A t) A) ([.ref (a 0)] : List Value).toArray s 0 0 A) (F0 m 110 ls [])) (kx118 : Mem → Int32 → Int32 → Int32 → Option (Int32 × Mem)) (hkx118 : ∀ (N : Mem) (l1 : Int32) (l2 : Int32) (l3 : Int32), kx118 N l1 l2 l3 = some z → ∀ (ls : Array Slot), lv_has ls 6 [(0, .ref (a 0)), (1, .int l1), (2, .int l2), (3, .int l3)] → ∀ (H : Heap) (locs : List Loc), va_P (dC, dI) vwCl (wX8 cI cZ cS f g a (sr M 41 (N 41))) H → va_D A (wX8 cI cZ cS f g a (sr M 41 (N 41))) → va_S A s.heap H locs → W p l e (headSpec wsL_holds ({ frames := 21, cells := 0, slots := 0, locals := 513 } : Room)).room s m ([.ref (a 0)] : List Value).toArray below meth c H locs 0 0 (MQ below (va_Qi (S := Unit) (fun r _ => r = z.1) (fun _ t => WE (dC, dI) cI cZ (wX8 cI cZ cS f g a (sr M 41 (z.2 41))) A t) A) ([.ref (a 0)] : List Value).toArray s 0 0 A) (F0 m 118 ls [])), ∀ (N : Mem) (l1 : Int32) (l2 : Int32) (l3 : Int32) (l4 : Int32) (l5 : Int32), fL_holds_L54 M n kx110 kx118 N l1 l2 l3 l4 l5 = some z → ∀ (ls : Array Slot), lv_has ls 6 [(0, .ref (a 0)), (1, .int l1), (2, .int l2), (3, .int l3), (4, .int l4), (5, .int l5)] → ∀ (H : Heap) (locs : List Loc), va_P (dC, dI) vwCl (wX8 cI cZ cS f g a (sr M 41 (N 41))) H → va_D A (wX8 cI cZ cS f g a (sr M 41 (N 41))) → va_S A s.heap H locs → W p l e (headSpec wsL_holds ({ frames := 21, cells := 0, slots := 0, locals := 513 } : Room)).room s m ([.ref (a 0)] : List Value).toArray below meth c H locs 0 0 (MQ below (va_Qi (S := Unit) (fun r _ => r = z.1) (fun _ t => WE (dC, dI) cI cZ (wX8 cI cZ cS f g a (sr M 41 (z.2 41))) A t) A) ([.ref (a 0)] : List Value).toArray s 0 0 A) (F0 m 54 ls []) := by
    intro n
    induction n with
    | zero =>
      intro kx110 hkx110 kx118 hkx118 N l1 l2 l3 l4 l5 hf ls hl H locs hP hD hS
      rw [fL_holds_L54] at hf
      cases hf
    | succ n ih =>
      intro kx110 hkx110 kx118 hkx118 N l1 l2 l3 l4 l5 hf ls hl H locs hP hD hS
      rw [fL_holds_L54] at hf
      refine lv_iload hx hb dL_holds_54 (lv_at hl 5 rfl) ?_
      refine lv_aload_n hx hb dL_holds_56 rfl (lv_at hl 0 rfl) ?_
      refine lv_iload_n hx hb dL_holds_57 rfl (lv_at hl 3 rfl) ?_
      obtain ⟨r58, hc58, hf⟩ := bi_s hf
      rcases r58 with E9 | r58
      · exact absurd hf (fun h => nomatch h)
      have hf := sel_r hf
      refine cRO (W.runV (As := [.int l3]) (rest := [.int l5]) ⟨hx, hb, hml, hown, hts⟩ (n_X8_heightOf l dC dI cI cZ cS f g a (sr M 41 (N 41)) l3 r58 hc58) (cwV 1 hts gL_holds_X8_heightOf rfl rfl rfl (by decide +kernel) ⟨Nat.le_of_ble_eq_true rfl, Nat.le_of_ble_eq_true rfl⟩) ⟨RO8.blind, va_recv hK hP (ci := 8) (q0 := 0) rfl rfl, RO8.pre hP hK hNW⟩ rfl rfl hl.1 rfl (lv_room (Nat.le_of_ble_eq_true rfl)) dL_holds_58 ⟨Nat.le_of_ble_eq_true rfl, Nat.le_of_ble_eq_true rfl⟩) ?_
      refine lv_icmp_ge (tgt := 118) hx hb dL_holds_61 (by decide) (fun c9 => ?_) (fun c9 => ?_)
      · have hf := it_t hf c9
        exact hkx118 (sr M 41 (N 41)) l1 l2 l3 hf _ (lv_sub hl [0, 1, 2, 3] rfl) _ _ hP hD hS
      · have hf := it_f hf c9
        refine lv_iload hx hb dL_holds_64 (lv_at hl 4 rfl) ?_
        refine lv_if_ne (tgt := 118) hx hb dL_holds_66 (by decide) (fun c9 => ?_) (fun c9 => ?_)
        · have hf := it_t hf c9
          exact hkx118 (sr M 41 (N 41)) l1 l2 l3 hf _ (lv_sub hl [0, 1, 2, 3] rfl) _ _ hP hD hS
        · have hf := it_n hf c9
          refine lv_aload_n hx hb dL_holds_69 rfl (lv_at hl 0 rfl) ?_
          refine lv_aload_n hx hb dL_holds_70 rfl (lv_at hl 0 rfl) ?_
          refine lv_iload_n hx hb dL_holds_71 rfl (lv_at hl 3 rfl) ?_
          obtain ⟨r72, hc72, hf⟩ := bi_s hf
          rcases r72 with E9 | r72
          · exact absurd hf (fun h => nomatch h)
          have hf := sel_r hf
          refine cRO (W.runV (As := [.int l3]) (rest := [.ref (a 0)]) ⟨hx, hb, hml, hown, hts⟩ (n_X8_sideOf l dC dI cI cZ cS f g a (sr M 41 (N 41)) l3 r72 hc72) (cwV 1 hts gL_holds_X8_sideOf rfl rfl rfl (by decide +kernel) ⟨Nat.le_of_ble_eq_true rfl, Nat.le_of_ble_eq_true rfl⟩) ⟨RO8.blind, va_recv hK hP (ci := 8) (q0 := 0) rfl rfl, RO8.pre hP hK hNW⟩ rfl rfl hl.1 rfl (lv_room (Nat.le_of_ble_eq_true rfl)) dL_holds_72 ⟨Nat.le_of_ble_eq_true rfl, Nat.le_of_ble_eq_true rfl⟩) ?_
          refine lv_aload_n hx hb dL_holds_75 rfl (lv_at hl 0 rfl) ?_
          refine lv_iload_n hx hb dL_holds_76 rfl (lv_at hl 3 rfl) ?_
          obtain ⟨r77, hc77, hf⟩ := bi_s hf
          rcases r77 with E9 | r77
          · exact absurd hf (fun h => nomatch h)
          have hf := sel_r hf
          refine cRO (W.runV (As := [.int l3]) (rest := [.int r72, .ref (a 0)]) ⟨hx, hb, hml, hown, hts⟩ (n_X8_slotOf l dC dI cI cZ cS f g a (sr M 41 (N 41)) l3 r77 hc77) (cwV 1 hts gL_holds_X8_slotOf rfl rfl rfl (by decide +kernel) ⟨Nat.le_of_ble_eq_true rfl, Nat.le_of_ble_eq_true rfl⟩) ⟨RO8.blind, va_recv hK hP (ci := 8) (q0 := 0) rfl rfl, RO8.pre hP hK hNW⟩ rfl rfl hl.1 rfl (lv_room (Nat.le_of_ble_eq_true rfl)) dL_holds_77 ⟨Nat.le_of_ble_eq_true rfl, Nat.le_of_ble_eq_true rfl⟩) ?_
          refine lv_iload hx hb dL_holds_80 (lv_at hl 5 rfl) ?_
          refine lv_iadd hx hb dL_holds_82 ?_
          obtain ⟨r83, hc83, hf⟩ := bi_s hf
          rcases r83 with E9 | r83
          · exact absurd hf (fun h => nomatch h)
          have hf := sel_r hf
          refine cRO (W.runV (As := [.int r72, .int (r77 + l5)]) (rest := []) ⟨hx, hb, hml, hown, hts⟩ (n_X8_isFree l dC dI cI cZ cS f g a (sr M 41 (N 41)) r72 (r77 + l5) r83 hc83) (cwV 2 hts gL_holds_X8_isFree rfl rfl rfl (by decide +kernel) ⟨Nat.le_of_ble_eq_true rfl, Nat.le_of_ble_eq_true rfl⟩) ⟨RO8.blind, va_recv hK hP (ci := 8) (q0 := 0) rfl rfl, RO8.pre hP hK hNW⟩ rfl rfl hl.1 rfl (lv_room (Nat.le_of_ble_eq_true rfl)) dL_holds_83 ⟨Nat.le_of_ble_eq_true rfl, Nat.le_of_ble_eq_true rfl⟩) ?_
          refine lv_if_ne (tgt := 110) hx hb dL_holds_86 (by decide) (fun c9 => ?_) (fun c9 => ?_)
          · have hf := it_t hf c9
            exact hkx110 (sr M 41 (N 41)) hf _ (lv_sub hl [] rfl) _ _ hP hD hS
          · have hf := it_n hf c9
            refine lv_aload_n hx hb dL_holds_89 rfl (lv_at hl 0 rfl) ?_
            refine lv_aload_n hx hb dL_holds_90 rfl (lv_at hl 0 rfl) ?_
            refine lv_iload_n hx hb dL_holds_91 rfl (lv_at hl 3 rfl) ?_
            obtain ⟨r92, hc92, hf⟩ := bi_s hf
            rcases r92 with E9 | r92
            · exact absurd hf (fun h => nomatch h)
            have hf := sel_r hf
            refine cRO (W.runV (As := [.int l3]) (rest := [.ref (a 0)]) ⟨hx, hb, hml, hown, hts⟩ (n_X8_sideOf l dC dI cI cZ cS f g a (sr M 41 (N 41)) l3 r92 hc92) (cwV 1 hts gL_holds_X8_sideOf rfl rfl rfl (by decide +kernel) ⟨Nat.le_of_ble_eq_true rfl, Nat.le_of_ble_eq_true rfl⟩) ⟨RO8.blind, va_recv hK hP (ci := 8) (q0 := 0) rfl rfl, RO8.pre hP hK hNW⟩ rfl rfl hl.1 rfl (lv_room (Nat.le_of_ble_eq_true rfl)) dL_holds_92 ⟨Nat.le_of_ble_eq_true rfl, Nat.le_of_ble_eq_true rfl⟩) ?_
            refine lv_aload_n hx hb dL_holds_95 rfl (lv_at hl 0 rfl) ?_
            refine lv_iload_n hx hb dL_holds_96 rfl (lv_at hl 3 rfl) ?_
            obtain ⟨r97, hc97, hf⟩ := bi_s hf
            rcases r97 with E9 | r97
            · exact absurd hf (fun h => nomatch h)
            have hf := sel_r hf
            refine cRO (W.runV (As := [.int l3]) (rest := [.int r92, .ref (a 0)]) ⟨hx, hb, hml, hown, hts⟩ (n_X8_slotOf l dC dI cI cZ cS f g a (sr M 41 (N 41)) l3 r97 hc97) (cwV 1 hts gL_holds_X8_slotOf rfl rfl rfl (by decide +kernel) ⟨Nat.le_of_ble_eq_true rfl, Nat.le_of_ble_eq_true rfl⟩) ⟨RO8.blind, va_recv hK hP (ci := 8) (q0 := 0) rfl rfl, RO8.pre hP hK hNW⟩ rfl rfl hl.1 rfl (lv_room (Nat.le_of_ble_eq_true rfl)) dL_holds_97 ⟨Nat.le_of_ble_eq_true rfl, Nat.le_of_ble_eq_true rfl⟩) ?_
            refine lv_iload hx hb dL_holds_100 (lv_at hl 5 rfl) ?_
            refine lv_iadd hx hb dL_holds_102 ?_
            obtain ⟨r103, hc103, hf⟩ := bi_s hf
            rcases r103 with E9 | r103
            · exact absurd hf (fun h => nomatch h)
            have hf := sel_r hf
            refine cRO (W.runV (As := [.int r92, .int (r97 + l5)]) (rest := []) ⟨hx, hb, hml, hown, hts⟩ (n_X8_shelfAt l dC dI cI cZ cS f g a (sr M 41 (N 41)) r92 (r97 + l5) r103 hc103) (cwV 2 hts gL_holds_X8_shelfAt rfl rfl rfl (by decide +kernel) ⟨Nat.le_of_ble_eq_true rfl, Nat.le_of_ble_eq_true rfl⟩) ⟨RO8.blind, va_recv hK hP (ci := 8) (q0 := 0) rfl rfl, RO8.pre hP hK hNW⟩ rfl rfl hl.1 rfl (lv_room (Nat.le_of_ble_eq_true rfl)) dL_holds_103 ⟨Nat.le_of_ble_eq_true rfl, Nat.le_of_ble_eq_true rfl⟩) ?_
            refine lv_iload_n hx hb dL_holds_106 rfl (lv_at hl 3 rfl) ?_
            refine lv_icmp_eq (tgt := 112) hx hb dL_holds_107 (by decide) (fun c9 => ?_) (fun c9 => ?_)
            · have hf := it_t hf c9
              refine lv_iinc (v := (l5 + (1 : Int32))) (lv' := [(5, .int (l5 + (1 : Int32))), (0, .ref (a 0)), (1, .int l1), (2, .int l2), (3, .int l3), (4, .int l4)]) hx hb dL_holds_112 hl (k := 5) rfl rfl (by decide) rfl (fun ls hl => ?_)
              refine lv_goto (tgt := 54) hx hb dL_holds_115 (by decide) ?_
              exact ih kx110 hkx110 kx118 hkx118 (sr M 41 (N 41)) l1 l2 l3 l4 (l5 + (1 : Int32)) hf _ (lv_sub hl [1, 2, 3, 4, 5, 0] rfl) _ _ hP hD hS
            · have hf := it_f hf c9
              exact hkx110 (sr M 41 (N 41)) hf _ (lv_sub hl [] rfl) _ _ hP hD hS
  have hfL_holds_B49 : ∀ (kb : Mem → Int32 → Int32 → Int32 → Option (Int32 × Mem)) (hkb : ∀ (N : Mem) (l1 : Int32) (l2 : Int32) (l3 : Int32), kb N l1 l2 l3 = some z → ∀ (ls : Array Slot), lv_has ls 6 [(0, .ref (a 0)), (1, .int l1), (2, .int l2), (3, .int l3)] → ∀ (H : Heap) (locs : List Loc), va_P (dC, dI) vwCl (wX8 cI cZ cS f g a (sr M 41 (N 41))) H → va_D A (wX8 cI cZ cS f g a (sr M 41 (N 41))) → va_S A s.heap H locs → W p l e (headSpec wsL_holds ({ frames := 21, cells := 0, slots := 0, locals := 513 } : Room)).room s m ([.ref (a 0)] : List Value).toArray below meth c H locs 0 0 (MQ below (va_Qi (S := Unit) (fun r _ => r = z.1) (fun _ t => WE (dC, dI) cI cZ (wX8 cI cZ cS f g a (sr M 41 (z.2 41))) A t) A) ([.ref (a 0)] : List Value).toArray s 0 0 A) (F0 m 6 ls [])) (kx110 : Mem → Option (Int32 × Mem)) (hkx110 : ∀ (N : Mem), kx110 N = some z → ∀ (ls : Array Slot), lv_has ls 6 [] → ∀ (H : Heap) (locs : List Loc), va_P (dC, dI) vwCl (wX8 cI cZ cS f g a (sr M 41 (N 41))) H → va_D A (wX8 cI cZ cS f g a (sr M 41 (N 41))) → va_S A s.heap H locs → W p l e (headSpec wsL_holds ({ frames := 21, cells := 0, slots := 0, locals := 513 } : Room)).room s m ([.ref (a 0)] : List Value).toArray below meth c H locs 0 0 (MQ below (va_Qi (S := Unit) (fun r _ => r = z.1) (fun _ t => WE (dC, dI) cI cZ (wX8 cI cZ cS f g a (sr M 41 (z.2 41))) A t) A) ([.ref (a 0)] : List Value).toArray s 0 0 A) (F0 m 110 ls [])) (kx169 : Mem → Option (Int32 × Mem)) (hkx169 : ∀ (N : Mem), kx169 N = some z → ∀ (ls : Array Slot), lv_has ls 6 [] → ∀ (H : Heap) (locs : List Loc), va_P (dC, dI) vwCl (wX8 cI cZ cS f g a (sr M 41 (N 41))) H → va_D A (wX8 cI cZ cS f g a (sr M 41 (N 41))) → va_S A s.heap H locs → W p l e (headSpec wsL_holds ({ frames := 21, cells := 0, slots := 0, locals := 513 } : Room)).room s m ([.ref (a 0)] : List Value).toArray below meth c H locs 0 0 (MQ below (va_Qi (S := Unit) (fun r _ => r = z.1) (fun _ t => WE (dC, dI) cI cZ (wX8 cI cZ cS f g a (sr M 41 (z.2 41))) A t) A) ([.ref (a 0)] : List Value).toArray s 0 0 A) (F0 m 169 ls [])) (kx177 : Mem → Int32 → Int32 → Option (Int32 × Mem)) (hkx177 : ∀ (N : Mem) (l1 : Int32) (l2 : Int32), kx177 N l1 l2 = some z → ∀ (ls : Array Slot), lv_has ls 6 [(0, .ref (a 0)), (1, .int l1), (2, .int l2)] → ∀ (H : Heap) (locs : List Loc), va_P (dC, dI) vwCl (wX8 cI cZ cS f g a (sr M 41 (N 41))) H → va_D A (wX8 cI cZ cS f g a (sr M 41 (N 41))) → va_S A s.heap H locs → W p l e (headSpec wsL_holds ({ frames := 21, cells := 0, slots := 0, locals := 513 } : Room)).room s m ([.ref (a 0)] : List Value).toArray below meth c H locs 0 0 (MQ below (va_Qi (S := Unit) (fun r _ => r = z.1) (fun _ t => WE (dC, dI) cI cZ (wX8 cI cZ cS f g a (sr M 41 (z.2 41))) A t) A) ([.ref (a 0)] : List Value).toArray s 0 0 A) (F0 m 177 ls [])), ∀ (N : Mem) (l2 : Int32) (l3 : Int32) (l4 : Int32) (s0 : Int32) (s1 : Int32), fL_holds_B49 M kb kx110 kx169 kx177 N l2 l3 l4 s0 s1 = some z → ∀ (ls : Array Slot), lv_has ls 6 [(0, .ref (a 0)), (2, .int l2), (3, .int l3), (4, .int l4)] → ∀ (H : Heap) (locs : List Loc), va_P (dC, dI) vwCl (wX8 cI cZ cS f g a (sr M 41 (N 41))) H → va_D A (wX8 cI cZ cS f g a (sr M 41 (N 41))) → va_S A s.heap H locs → W p l e (headSpec wsL_holds ({ frames := 21, cells := 0, slots := 0, locals := 513 } : Room)).room s m ([.ref (a 0)] : List Value).toArray below meth c H locs 0 0 (MQ below (va_Qi (S := Unit) (fun r _ => r = z.1) (fun _ t => WE (dC, dI) cI cZ (wX8 cI cZ cS f g a (sr M 41 (z.2 41))) A t) A) ([.ref (a 0)] : List Value).toArray s 0 0 A) (F0 m 49 ls [.int s1, .int s0]) := by
    intro kb hkb kx110 hkx110 kx169 hkx169 kx177 hkx177 N l2 l3 l4 s0 s1 hf ls hl H locs hP hD hS
    unfold fL_holds_B49 at hf
    refine lv_iadd hx hb dL_holds_49 ?_
    refine lv_istore_n (lv' := [(1, .int (s0 + s1)), (0, .ref (a 0)), (2, .int l2), (3, .int l3), (4, .int l4)]) hx hb dL_holds_50 rfl hl (by decide) rfl (fun ls hl => ?_)
    refine lv_iconst (v := (0 : Int32)) hx hb dL_holds_51 (by decide) ?_
    refine lv_istore (lv' := [(5, .int (0 : Int32)), (1, .int (s0 + s1)), (0, .ref (a 0)), (2, .int l2), (3, .int l3), (4, .int l4)]) hx hb dL_holds_52 hl (by decide) rfl (fun ls hl => ?_)
    refine hfL_holds_L54 5000 _ (fun N hf ls hl H locs hP hD hS => ?_) _ (fun N l1 l2 l3 hf ls hl H locs hP hD hS => ?_) (sr M 41 (N 41)) (s0 + s1) l2 l3 l4 (0 : Int32) hf _ (lv_sub hl [2, 1, 3, 4, 5, 0] rfl) _ _ hP hD hS
    · exact hkx110 (sr M 41 (N 41)) hf _ (lv_sub hl [] rfl) _ _ hP hD hS
    · refine lv_aload_n hx hb dL_holds_118 rfl (lv_at hl 0 rfl) ?_
      refine lv_iload_n hx hb dL_holds_119 rfl (lv_at hl 3 rfl) ?_
      obtain ⟨r120, hc120, hf⟩ := bi_s hf
      rcases r120 with E9 | r120
      · exact absurd hf (fun h => nomatch h)
      have hf := sel_r hf
      refine cRO (W.runV (As := [.int l3]) (rest := []) ⟨hx, hb, hml, hown, hts⟩ (n_X8_weightOf l dC dI cI cZ cS f g a (sr M 41 (N 41)) l3 r120 hc120) (cwV 1 hts gL_holds_X8_weightOf rfl rfl rfl (by decide +kernel) ⟨Nat.le_of_ble_eq_true rfl, Nat.le_of_ble_eq_true rfl⟩) ⟨RO8.blind, va_recv hK hP (ci := 8) (q0 := 0) rfl rfl, RO8.pre hP hK hNW⟩ rfl rfl hl.1 rfl (lv_room (Nat.le_of_ble_eq_true rfl)) dL_holds_120 ⟨Nat.le_of_ble_eq_true rfl, Nat.le_of_ble_eq_true rfl⟩) ?_
      refine lv_if_lt (tgt := 169) hx hb dL_holds_123 (by decide) (fun c9 => ?_) (fun c9 => ?_)
      · have hf := it_t hf c9
        exact hkx169 (sr M 41 (N 41)) hf _ (lv_sub hl [] rfl) _ _ hP hD hS
      · have hf := it_f hf c9
        refine lv_aload_n hx hb dL_holds_126 rfl (lv_at hl 0 rfl) ?_
        refine lv_iload_n hx hb dL_holds_127 rfl (lv_at hl 3 rfl) ?_
        obtain ⟨r128, hc128, hf⟩ := bi_s hf
        rcases r128 with E9 | r128
        · exact absurd hf (fun h => nomatch h)
        have hf := sel_r hf
        refine cRO (W.runV (As := [.int l3]) (rest := []) ⟨hx, hb, hml, hown, hts⟩ (n_X8_weightOf l dC dI cI cZ cS f g a (sr M 41 (N 41)) l3 r128 hc128) (cwV 1 hts gL_holds_X8_weightOf rfl rfl rfl (by decide +kernel) ⟨Nat.le_of_ble_eq_true rfl, Nat.le_of_ble_eq_true rfl⟩) ⟨RO8.blind, va_recv hK hP (ci := 8) (q0 := 0) rfl rfl, RO8.pre hP hK hNW⟩ rfl rfl hl.1 rfl (lv_room (Nat.le_of_ble_eq_true rfl)) dL_holds_128 ⟨Nat.le_of_ble_eq_true rfl, Nat.le_of_ble_eq_true rfl⟩) ?_
        refine lv_sipush (v := (150 : Int32)) hx hb dL_holds_131 (by decide) ?_
        refine lv_icmp_gt (tgt := 169) hx hb dL_holds_134 (by decide) (fun c9 => ?_) (fun c9 => ?_)
        · have hf := it_t hf c9
          exact hkx169 (sr M 41 (N 41)) hf _ (lv_sub hl [] rfl) _ _ hP hD hS
        · have hf := it_f hf c9
          refine lv_aload_n hx hb dL_holds_137 rfl (lv_at hl 0 rfl) ?_
          refine lv_aload_n hx hb dL_holds_138 rfl (lv_at hl 0 rfl) ?_
          obtain ⟨r139, hc139, hf⟩ := bi_s hf
          rcases r139 with E9 | r139
          · exact absurd hf (fun h => nomatch h)
          have hf := sel_r hf
          refine cRO (W.runV (As := []) (rest := [.ref (a 0)]) ⟨hx, hb, hml, hown, hts⟩ (n_X8_heaviest l dC dI cI cZ cS f g a (sr M 41 (N 41)) r139 hc139) (cwV 0 hts gL_holds_X8_heaviest rfl rfl rfl (by decide +kernel) ⟨Nat.le_of_ble_eq_true rfl, Nat.le_of_ble_eq_true rfl⟩) ⟨RO8.blind, va_recv hK hP (ci := 8) (q0 := 0) rfl rfl, RO8.pre hP hK hNW⟩ rfl rfl hl.1 rfl (lv_room (Nat.le_of_ble_eq_true rfl)) dL_holds_139 ⟨Nat.le_of_ble_eq_true rfl, Nat.le_of_ble_eq_true rfl⟩) ?_
          obtain ⟨r142, hc142, hf⟩ := bi_s hf
          rcases r142 with E9 | r142
          · exact absurd hf (fun h => nomatch h)
          have hf := sel_r hf
          refine cRO (W.runV (As := [.int r139]) (rest := []) ⟨hx, hb, hml, hown, hts⟩ (n_X8_weightOf l dC dI cI cZ cS f g a (sr M 41 (N 41)) r139 r142 hc142) (cwV 1 hts gL_holds_X8_weightOf rfl rfl rfl (by decide +kernel) ⟨Nat.le_of_ble_eq_true rfl, Nat.le_of_ble_eq_true rfl⟩) ⟨RO8.blind, va_recv hK hP (ci := 8) (q0 := 0) rfl rfl, RO8.pre hP hK hNW⟩ rfl rfl hl.1 rfl (lv_room (Nat.le_of_ble_eq_true rfl)) dL_holds_142 ⟨Nat.le_of_ble_eq_true rfl, Nat.le_of_ble_eq_true rfl⟩) ?_
          refine lv_aload_n hx hb dL_holds_145 rfl (lv_at hl 0 rfl) ?_
          refine lv_iload_n hx hb dL_holds_146 rfl (lv_at hl 3 rfl) ?_
          obtain ⟨r147, hc147, hf⟩ := bi_s hf
          rcases r147 with E9 | r147
          · exact absurd hf (fun h => nomatch h)
          have hf := sel_r hf
          refine cRO (W.runV (As := [.int l3]) (rest := [.int r142]) ⟨hx, hb, hml, hown, hts⟩ (n_X8_weightOf l dC dI cI cZ cS f g a (sr M 41 (N 41)) l3 r147 hc147) (cwV 1 hts gL_holds_X8_weightOf rfl rfl rfl (by decide +kernel) ⟨Nat.le_of_ble_eq_true rfl, Nat.le_of_ble_eq_true rfl⟩) ⟨RO8.blind, va_recv hK hP (ci := 8) (q0 := 0) rfl rfl, RO8.pre hP hK hNW⟩ rfl rfl hl.1 rfl (lv_room (Nat.le_of_ble_eq_true rfl)) dL_holds_147 ⟨Nat.le_of_ble_eq_true rfl, Nat.le_of_ble_eq_true rfl⟩) ?_
          refine lv_icmp_lt (tgt := 169) hx hb dL_holds_150 (by decide) (fun c9 => ?_) (fun c9 => ?_)
          · have hf := it_t hf c9
            exact hkx169 (sr M 41 (N 41)) hf _ (lv_sub hl [] rfl) _ _ hP hD hS
          · have hf := it_f hf c9
            refine lv_aload_n hx hb dL_holds_153 rfl (lv_at hl 0 rfl) ?_
            refine lv_aload_n hx hb dL_holds_154 rfl (lv_at hl 0 rfl) ?_
            obtain ⟨r155, hc155, hf⟩ := bi_s hf
            rcases r155 with E9 | r155
            · exact absurd hf (fun h => nomatch h)
            have hf := sel_r hf
            refine cRO (W.runV (As := []) (rest := [.ref (a 0)]) ⟨hx, hb, hml, hown, hts⟩ (n_X8_mostFetched l dC dI cI cZ cS f g a (sr M 41 (N 41)) r155 hc155) (cwV 0 hts gL_holds_X8_mostFetched rfl rfl rfl (by decide +kernel) ⟨Nat.le_of_ble_eq_true rfl, Nat.le_of_ble_eq_true rfl⟩) ⟨RO8.blind, va_recv hK hP (ci := 8) (q0 := 0) rfl rfl, RO8.pre hP hK hNW⟩ rfl rfl hl.1 rfl (lv_room (Nat.le_of_ble_eq_true rfl)) dL_holds_155 ⟨Nat.le_of_ble_eq_true rfl, Nat.le_of_ble_eq_true rfl⟩) ?_
            obtain ⟨r158, hc158, hf⟩ := bi_s hf
            rcases r158 with E9 | r158
            · exact absurd hf (fun h => nomatch h)
            have hf := sel_r hf
            refine cRO (W.runV (As := [.int r155]) (rest := []) ⟨hx, hb, hml, hown, hts⟩ (n_X8_fetchesOf l dC dI cI cZ cS f g a (sr M 41 (N 41)) r155 r158 hc158) (cwV 1 hts gL_holds_X8_fetchesOf rfl rfl rfl (by decide +kernel) ⟨Nat.le_of_ble_eq_true rfl, Nat.le_of_ble_eq_true rfl⟩) ⟨RO8.blind, va_recv hK hP (ci := 8) (q0 := 0) rfl rfl, RO8.pre hP hK hNW⟩ rfl rfl hl.1 rfl (lv_room (Nat.le_of_ble_eq_true rfl)) dL_holds_158 ⟨Nat.le_of_ble_eq_true rfl, Nat.le_of_ble_eq_true rfl⟩) ?_
            refine lv_aload_n hx hb dL_holds_161 rfl (lv_at hl 0 rfl) ?_
            refine lv_iload_n hx hb dL_holds_162 rfl (lv_at hl 3 rfl) ?_
            obtain ⟨r163, hc163, hf⟩ := bi_s hf
            rcases r163 with E9 | r163
            · exact absurd hf (fun h => nomatch h)
            have hf := sel_r hf
            refine cRO (W.runV (As := [.int l3]) (rest := [.int r158]) ⟨hx, hb, hml, hown, hts⟩ (n_X8_fetchesOf l dC dI cI cZ cS f g a (sr M 41 (N 41)) l3 r163 hc163) (cwV 1 hts gL_holds_X8_fetchesOf rfl rfl rfl (by decide +kernel) ⟨Nat.le_of_ble_eq_true rfl, Nat.le_of_ble_eq_true rfl⟩) ⟨RO8.blind, va_recv hK hP (ci := 8) (q0 := 0) rfl rfl, RO8.pre hP hK hNW⟩ rfl rfl hl.1 rfl (lv_room (Nat.le_of_ble_eq_true rfl)) dL_holds_163 ⟨Nat.le_of_ble_eq_true rfl, Nat.le_of_ble_eq_true rfl⟩) ?_
            refine lv_icmp_ge (tgt := 171) hx hb dL_holds_166 (by decide) (fun c9 => ?_) (fun c9 => ?_)
            · have hf := it_t hf c9
              refine lv_iinc (v := (l3 + (1 : Int32))) (lv' := [(3, .int (l3 + (1 : Int32))), (0, .ref (a 0)), (1, .int l1), (2, .int l2)]) hx hb dL_holds_171 hl (k := 3) rfl rfl (by decide) rfl (fun ls hl => ?_)
              refine lv_goto (tgt := 6) hx hb dL_holds_174 (by decide) ?_
              exact hkb (sr M 41 (N 41)) l1 l2 (l3 + (1 : Int32)) hf _ (lv_sub hl [1, 2, 3, 0] rfl) _ _ hP hD hS
            · have hf := it_f hf c9
              exact hkx169 (sr M 41 (N 41)) hf _ (lv_sub hl [] rfl) _ _ hP hD hS
  have hfL_holds_B32 : ∀ (kb : Mem → Int32 → Int32 → Int32 → Option (Int32 × Mem)) (hkb : ∀ (N : Mem) (l1 : Int32) (l2 : Int32) (l3 : Int32), kb N l1 l2 l3 = some z → ∀ (ls : Array Slot), lv_has ls 6 [(0, .ref (a 0)), (1, .int l1), (2, .int l2), (3, .int l3)] → ∀ (H : Heap) (locs : List Loc), va_P (dC, dI) vwCl (wX8 cI cZ cS f g a (sr M 41 (N 41))) H → va_D A (wX8 cI cZ cS f g a (sr M 41 (N 41))) → va_S A s.heap H locs → W p l e (headSpec wsL_holds ({ frames := 21, cells := 0, slots := 0, locals := 513 } : Room)).room s m ([.ref (a 0)] : List Value).toArray below meth c H locs 0 0 (MQ below (va_Qi (S := Unit) (fun r _ => r = z.1) (fun _ t => WE (dC, dI) cI cZ (wX8 cI cZ cS f g a (sr M 41 (z.2 41))) A t) A) ([.ref (a 0)] : List Value).toArray s 0 0 A) (F0 m 6 ls [])) (kx110 : Mem → Option (Int32 × Mem)) (hkx110 : ∀ (N : Mem), kx110 N = some z → ∀ (ls : Array Slot), lv_has ls 6 [] → ∀ (H : Heap) (locs : List Loc), va_P (dC, dI) vwCl (wX8 cI cZ cS f g a (sr M 41 (N 41))) H → va_D A (wX8 cI cZ cS f g a (sr M 41 (N 41))) → va_S A s.heap H locs → W p l e (headSpec wsL_holds ({ frames := 21, cells := 0, slots := 0, locals := 513 } : Room)).room s m ([.ref (a 0)] : List Value).toArray below meth c H locs 0 0 (MQ below (va_Qi (S := Unit) (fun r _ => r = z.1) (fun _ t => WE (dC, dI) cI cZ (wX8 cI cZ cS f g a (sr M 41 (z.2 41))) A t) A) ([.ref (a 0)] : List Value).toArray s 0 0 A) (F0 m 110 ls [])) (kx169 : Mem → Option (Int32 × Mem)) (hkx169 : ∀ (N : Mem), kx169 N = some z → ∀ (ls : Array Slot), lv_has ls 6 [] → ∀ (H : Heap) (locs : List Loc), va_P (dC, dI) vwCl (wX8 cI cZ cS f g a (sr M 41 (N 41))) H → va_D A (wX8 cI cZ cS f g a (sr M 41 (N 41))) → va_S A s.heap H locs → W p l e (headSpec wsL_holds ({ frames := 21, cells := 0, slots := 0, locals := 513 } : Room)).room s m ([.ref (a 0)] : List Value).toArray below meth c H locs 0 0 (MQ below (va_Qi (S := Unit) (fun r _ => r = z.1) (fun _ t => WE (dC, dI) cI cZ (wX8 cI cZ cS f g a (sr M 41 (z.2 41))) A t) A) ([.ref (a 0)] : List Value).toArray s 0 0 A) (F0 m 169 ls [])) (kx177 : Mem → Int32 → Int32 → Option (Int32 × Mem)) (hkx177 : ∀ (N : Mem) (l1 : Int32) (l2 : Int32), kx177 N l1 l2 = some z → ∀ (ls : Array Slot), lv_has ls 6 [(0, .ref (a 0)), (1, .int l1), (2, .int l2)] → ∀ (H : Heap) (locs : List Loc), va_P (dC, dI) vwCl (wX8 cI cZ cS f g a (sr M 41 (N 41))) H → va_D A (wX8 cI cZ cS f g a (sr M 41 (N 41))) → va_S A s.heap H locs → W p l e (headSpec wsL_holds ({ frames := 21, cells := 0, slots := 0, locals := 513 } : Room)).room s m ([.ref (a 0)] : List Value).toArray below meth c H locs 0 0 (MQ below (va_Qi (S := Unit) (fun r _ => r = z.1) (fun _ t => WE (dC, dI) cI cZ (wX8 cI cZ cS f g a (sr M 41 (z.2 41))) A t) A) ([.ref (a 0)] : List Value).toArray s 0 0 A) (F0 m 177 ls [])), ∀ (N : Mem) (l1 : Int32) (l3 : Int32) (l4 : Int32) (s0 : Int32) (s1 : Int32), fL_holds_B32 M kb kx110 kx169 kx177 N l1 l3 l4 s0 s1 = some z → ∀ (ls : Array Slot), lv_has ls 6 [(0, .ref (a 0)), (1, .int l1), (3, .int l3), (4, .int l4)] → ∀ (H : Heap) (locs : List Loc), va_P (dC, dI) vwCl (wX8 cI cZ cS f g a (sr M 41 (N 41))) H → va_D A (wX8 cI cZ cS f g a (sr M 41 (N 41))) → va_S A s.heap H locs → W p l e (headSpec wsL_holds ({ frames := 21, cells := 0, slots := 0, locals := 513 } : Room)).room s m ([.ref (a 0)] : List Value).toArray below meth c H locs 0 0 (MQ below (va_Qi (S := Unit) (fun r _ => r = z.1) (fun _ t => WE (dC, dI) cI cZ (wX8 cI cZ cS f g a (sr M 41 (z.2 41))) A t) A) ([.ref (a 0)] : List Value).toArray s 0 0 A) (F0 m 32 ls [.int s1, .int s0]) := by
    intro kb hkb kx110 hkx110 kx169 hkx169 kx177 hkx177 N l1 l3 l4 s0 s1 hf ls hl H locs hP hD hS
    unfold fL_holds_B32 at hf
    refine lv_iadd hx hb dL_holds_32 ?_
    refine lv_istore_n (lv' := [(2, .int (s0 + s1)), (0, .ref (a 0)), (1, .int l1), (3, .int l3), (4, .int l4)]) hx hb dL_holds_33 rfl hl (by decide) rfl (fun ls hl => ?_)
    refine lv_iload_n hx hb dL_holds_34 rfl (lv_at hl 2 rfl) ?_
    refine lv_iload hx hb dL_holds_35 (lv_at hl 4 rfl) ?_
    refine lv_if_eq (tgt := 44) hx hb dL_holds_37 (by decide) (fun c9 => ?_) (fun c9 => ?_)
    · have hf := it_t hf c9
      refine lv_aload_n hx hb dL_holds_44 rfl (lv_at hl 1 rfl) ?_
      refine lv_iload_n hx hb dL_holds_45 rfl (lv_at hl 3 rfl) ?_
      obtain ⟨r46, hc46, hf⟩ := bi_s hf
      rcases r46 with E9 | r46
      · exact absurd hf (fun h => nomatch h)
      have hf := sel_r hf
      refine cRO (W.runV (As := [.int l3]) (rest := [.int l1]) ⟨hx, hb, hml, hown, hts⟩ (n_X8_heightOf l dC dI cI cZ cS f g a (sr M 41 (N 41)) l3 r46 hc46) (cwV 1 hts gL_holds_X8_heightOf rfl rfl rfl (by decide +kernel) ⟨Nat.le_of_ble_eq_true rfl, Nat.le_of_ble_eq_true rfl⟩) ⟨RO8.blind, va_recv hK hP (ci := 8) (q0 := 0) rfl rfl, RO8.pre hP hK hNW⟩ rfl rfl hl.1 rfl (lv_room (Nat.le_of_ble_eq_true rfl)) dL_holds_46 ⟨Nat.le_of_ble_eq_true rfl, Nat.le_of_ble_eq_true rfl⟩) ?_
      exact hfL_holds_B49 _ hkb _ hkx110 _ hkx169 _ hkx177 (sr M 41 (N 41)) (s0 + s1) l3 l4 l1 r46 hf _ (lv_sub hl [1, 0, 3, 4] rfl) _ _ hP hD hS
    · have hf := it_f hf c9
      refine lv_iconst (v := (0 : Int32)) hx hb dL_holds_40 (by decide) ?_
      refine lv_goto (tgt := 49) hx hb dL_holds_41 (by decide) ?_
      exact hfL_holds_B49 _ hkb _ hkx110 _ hkx169 _ hkx177 (sr M 41 (N 41)) (s0 + s1) l3 l4 l1 (0 : Int32) hf _ (lv_sub hl [1, 0, 3, 4] rfl) _ _ hP hD hS
  have hfL_holds_L6 : ∀ (n : Nat) (kx110 : Mem → Option (Int32 × Mem)) (hkx110 : ∀ (N : Mem), kx110 N = some z → ∀ (ls : Array Slot), lv_has ls 6 [] → ∀ (H : Heap) (locs : List Loc), va_P (dC, dI) vwCl (wX8 cI cZ cS f g a (sr M 41 (N 41))) H → va_D A (wX8 cI cZ cS f g a (sr M 41 (N 41))) → va_S A s.heap H locs → W p l e (headSpec wsL_holds ({ frames := 21, cells := 0, slots := 0, locals := 513 } : Room)).room s m ([.ref (a 0)] : List Value).toArray below meth c H locs 0 0 (MQ below (va_Qi (S := Unit) (fun r _ => r = z.1) (fun _ t => WE (dC, dI) cI cZ (wX8 cI cZ cS f g a (sr M 41 (z.2 41))) A t) A) ([.ref (a 0)] : List Value).toArray s 0 0 A) (F0 m 110 ls [])) (kx169 : Mem → Option (Int32 × Mem)) (hkx169 : ∀ (N : Mem), kx169 N = some z → ∀ (ls : Array Slot), lv_has ls 6 [] → ∀ (H : Heap) (locs : List Loc), va_P (dC, dI) vwCl (wX8 cI cZ cS f g a (sr M 41 (N 41))) H → va_D A (wX8 cI cZ cS f g a (sr M 41 (N 41))) → va_S A s.heap H locs → W p l e (headSpec wsL_holds ({ frames := 21, cells := 0, slots := 0, locals := 513 } : Room)).room s m ([.ref (a 0)] : List Value).toArray below meth c H locs 0 0 (MQ below (va_Qi (S := Unit) (fun r _ => r = z.1) (fun _ t => WE (dC, dI) cI cZ (wX8 cI cZ cS f g a (sr M 41 (z.2 41))) A t) A) ([.ref (a 0)] : List Value).toArray s 0 0 A) (F0 m 169 ls [])) (kx177 : Mem → Int32 → Int32 → Option (Int32 × Mem)) (hkx177 : ∀ (N : Mem) (l1 : Int32) (l2 : Int32), kx177 N l1 l2 = some z → ∀ (ls : Array Slot), lv_has ls 6 [(0, .ref (a 0)), (1, .int l1), (2, .int l2)] → ∀ (H : Heap) (locs : List Loc), va_P (dC, dI) vwCl (wX8 cI cZ cS f g a (sr M 41 (N 41))) H → va_D A (wX8 cI cZ cS f g a (sr M 41 (N 41))) → va_S A s.heap H locs → W p l e (headSpec wsL_holds ({ frames := 21, cells := 0, slots := 0, locals := 513 } : Room)).room s m ([.ref (a 0)] : List Value).toArray below meth c H locs 0 0 (MQ below (va_Qi (S := Unit) (fun r _ => r = z.1) (fun _ t => WE (dC, dI) cI cZ (wX8 cI cZ cS f g a (sr M 41 (z.2 41))) A t) A) ([.ref (a 0)] : List Value).toArray s 0 0 A) (F0 m 177 ls [])), ∀ (N : Mem) (l1 : Int32) (l2 : Int32) (l3 : Int32), fL_holds_L6 M n kx110 kx169 kx177 N l1 l2 l3 = some z → ∀ (ls : Array Slot), lv_has ls 6 [(0, .ref (a 0)), (1, .int l1), (2, .int l2), (3, .int l3)] → ∀ (H : Heap) (locs : List Loc), va_P (dC, dI) vwCl (wX8 cI cZ cS f g a (sr M 41 (N 41))) H → va_D A (wX8 cI cZ cS f g a (sr M 41 (N 41))) → va_S A s.heap H locs → W p l e (headSpec wsL_holds ({ frames := 21, cells := 0, slots := 0, locals := 513 } : Room)).room s m ([.ref (a 0)] : List Value).toArray below meth c H locs 0 0 (MQ below (va_Qi (S := Unit) (fun r _ => r = z.1) (fun _ t => WE (dC, dI) cI cZ (wX8 cI cZ cS f g a (sr M 41 (z.2 41))) A t) A) ([.ref (a 0)] : List Value).toArray s 0 0 A) (F0 m 6 ls []) := by
    intro n
    induction n with
    | zero =>
      intro kx110 hkx110 kx169 hkx169 kx177 hkx177 N l1 l2 l3 hf ls hl H locs hP hD hS
      rw [fL_holds_L6] at hf
      cases hf
    | succ n ih =>
      intro kx110 hkx110 kx169 hkx169 kx177 hkx177 N l1 l2 l3 hf ls hl H locs hP hD hS
      rw [fL_holds_L6] at hf
      refine lv_iload_n hx hb dL_holds_6 rfl (lv_at hl 3 rfl) ?_
      refine lv_aload_n hx hb dL_holds_7 rfl (lv_at hl 0 rfl) ?_
      obtain ⟨r8, hc8, hf⟩ := bi_s hf
      have hPc := hP
      refine cRO (W.runV (As := []) (rest := [.int l3]) ⟨hx, hb, hml, hown, hts⟩ (c_X8_shelves l dC dI cI cZ cS f g a (sr M 41 (N 41)) r8 hc8) (cwV 0 hts gL_holds_X8_shelves rfl rfl rfl (by decide +kernel) ⟨Nat.le_of_ble_eq_true rfl, Nat.le_of_ble_eq_true rfl⟩) ⟨RO8.blind, va_recv hK hP (ci := 8) (q0 := 0) rfl rfl, RO8.pre hPc hK hNW⟩ rfl rfl hl.1 rfl (lv_room (Nat.le_of_ble_eq_true rfl)) dL_holds_8 ⟨Nat.le_of_ble_eq_true rfl, Nat.le_of_ble_eq_true rfl⟩) ?_
      refine lv_icmp_ge (tgt := 177) hx hb dL_holds_11 (by decide) (fun c9 => ?_) (fun c9 => ?_)
      · have hf := it_t hf c9
        exact hkx177 (sr M 41 (N 41)) l1 l2 hf _ (lv_sub hl [0, 1, 2] rfl) _ _ hP hD hS
      · have hf := it_f hf c9
        refine lv_aload_n hx hb dL_holds_14 rfl (lv_at hl 0 rfl) ?_
        refine lv_iload_n hx hb dL_holds_15 rfl (lv_at hl 3 rfl) ?_
        obtain ⟨r16, hc16, hf⟩ := bi_s hf
        rcases r16 with E9 | r16
        · exact absurd hf (fun h => nomatch h)
        have hf := sel_r hf
        refine cRO (W.runV (As := [.int l3]) (rest := []) ⟨hx, hb, hml, hown, hts⟩ (n_X8_isAtWindow l dC dI cI cZ cS f g a (sr M 41 (N 41)) l3 r16 hc16) (cwV 1 hts gL_holds_X8_isAtWindow rfl rfl rfl (by decide +kernel) ⟨Nat.le_of_ble_eq_true rfl, Nat.le_of_ble_eq_true rfl⟩) ⟨RO8.blind, va_recv hK hP (ci := 8) (q0 := 0) rfl rfl, RO8.pre hP hK hNW⟩ rfl rfl hl.1 rfl (lv_room (Nat.le_of_ble_eq_true rfl)) dL_holds_16 ⟨Nat.le_of_ble_eq_true rfl, Nat.le_of_ble_eq_true rfl⟩) ?_
        refine lv_istore (lv' := [(4, .int r16), (0, .ref (a 0)), (1, .int l1), (2, .int l2), (3, .int l3)]) hx hb dL_holds_19 hl (by decide) rfl (fun ls hl => ?_)
        refine lv_iload_n hx hb dL_holds_21 rfl (lv_at hl 3 rfl) ?_
        refine lv_iload hx hb dL_holds_22 (lv_at hl 0 rfl) ?_
        refine lv_if_eq (tgt := 31) hx hb dL_holds_24 (by decide) (fun c9 => ?_) (fun c9 => ?_)
        · have hf := it_t hf c9
          refine lv_iconst (v := (0 : Int32)) hx hb dL_holds_31 (by decide) ?_
          exact hfL_holds_B32 _ (ih kx110 hkx110 kx169 hkx169 kx177 hkx177) _ hkx110 _ hkx169 _ hkx177 (sr M 41 (N 41)) l1 l3 r16 l2 (0 : Int32) hf _ (lv_sub hl [1, 2, 4, 0] rfl) _ _ hP hD hS
        · have hf := it_f hf c9
          refine lv_iconst (v := (1 : Int32)) hx hb dL_holds_27 (by decide) ?_
          refine lv_goto (tgt := 32) hx hb dL_holds_28 (by decide) ?_
          exact hfL_holds_B32 _ (ih kx110 hkx110 kx169 hkx169 kx177 hkx177) _ hkx110 _ hkx169 _ hkx177 (sr M 41 (N 41)) l1 l3 r16 l2 (1 : Int32) hf _ (lv_sub hl [1, 2, 4, 0] rfl) _ _ hP hD hS
  have hfL_holds_B228 : ∀ (kb : Mem → Int32 → Int32 → Int32 → Option (Int32 × Mem)) (hkb : ∀ (N : Mem) (l1 : Int32) (l2 : Int32) (l3 : Int32), kb N l1 l2 l3 = some z → ∀ (ls : Array Slot), lv_has ls 6 [(0, .ref (a 0)), (1, .int l1), (2, .int l2), (3, .int l3)] → ∀ (H : Heap) (locs : List Loc), va_P (dC, dI) vwCl (wX8 cI cZ cS f g a (sr M 41 (N 41))) H → va_D A (wX8 cI cZ cS f g a (sr M 41 (N 41))) → va_S A s.heap H locs → W p l e (headSpec wsL_holds ({ frames := 21, cells := 0, slots := 0, locals := 513 } : Room)).room s m ([.ref (a 0)] : List Value).toArray below meth c H locs 0 0 (MQ below (va_Qi (S := Unit) (fun r _ => r = z.1) (fun _ t => WE (dC, dI) cI cZ (wX8 cI cZ cS f g a (sr M 41 (z.2 41))) A t) A) ([.ref (a 0)] : List Value).toArray s 0 0 A) (F0 m 179 ls [])) (kx231 : Mem → Option (Int32 × Mem)) (hkx231 : ∀ (N : Mem), kx231 N = some z → ∀ (ls : Array Slot), lv_has ls 6 [] → ∀ (H : Heap) (locs : List Loc), va_P (dC, dI) vwCl (wX8 cI cZ cS f g a (sr M 41 (N 41))) H → va_D A (wX8 cI cZ cS f g a (sr M 41 (N 41))) → va_S A s.heap H locs → W p l e (headSpec wsL_holds ({ frames := 21, cells := 0, slots := 0, locals := 513 } : Room)).room s m ([.ref (a 0)] : List Value).toArray below meth c H locs 0 0 (MQ below (va_Qi (S := Unit) (fun r _ => r = z.1) (fun _ t => WE (dC, dI) cI cZ (wX8 cI cZ cS f g a (sr M 41 (z.2 41))) A t) A) ([.ref (a 0)] : List Value).toArray s 0 0 A) (F0 m 231 ls [])) (kx239 : Mem → Int32 → Int32 → Option (Int32 × Mem)) (hkx239 : ∀ (N : Mem) (l1 : Int32) (l2 : Int32), kx239 N l1 l2 = some z → ∀ (ls : Array Slot), lv_has ls 6 [(0, .ref (a 0)), (1, .int l1), (2, .int l2)] → ∀ (H : Heap) (locs : List Loc), va_P (dC, dI) vwCl (wX8 cI cZ cS f g a (sr M 41 (N 41))) H → va_D A (wX8 cI cZ cS f g a (sr M 41 (N 41))) → va_S A s.heap H locs → W p l e (headSpec wsL_holds ({ frames := 21, cells := 0, slots := 0, locals := 513 } : Room)).room s m ([.ref (a 0)] : List Value).toArray below meth c H locs 0 0 (MQ below (va_Qi (S := Unit) (fun r _ => r = z.1) (fun _ t => WE (dC, dI) cI cZ (wX8 cI cZ cS f g a (sr M 41 (z.2 41))) A t) A) ([.ref (a 0)] : List Value).toArray s 0 0 A) (F0 m 239 ls [])), ∀ (N : Mem) (l1 : Int32) (l2 : Int32) (l3 : Int32) (s0 : Int32) (s1 : Int32), fL_holds_B228 M kb kx231 kx239 N l1 l2 l3 s0 s1 = some z → ∀ (ls : Array Slot), lv_has ls 6 [(0, .ref (a 0)), (1, .int l1), (2, .int l2), (3, .int l3)] → ∀ (H : Heap) (locs : List Loc), va_P (dC, dI) vwCl (wX8 cI cZ cS f g a (sr M 41 (N 41))) H → va_D A (wX8 cI cZ cS f g a (sr M 41 (N 41))) → va_S A s.heap H locs → W p l e (headSpec wsL_holds ({ frames := 21, cells := 0, slots := 0, locals := 513 } : Room)).room s m ([.ref (a 0)] : List Value).toArray below meth c H locs 0 0 (MQ below (va_Qi (S := Unit) (fun r _ => r = z.1) (fun _ t => WE (dC, dI) cI cZ (wX8 cI cZ cS f g a (sr M 41 (z.2 41))) A t) A) ([.ref (a 0)] : List Value).toArray s 0 0 A) (F0 m 228 ls [.int s1, .int s0]) := by
    intro kb hkb kx231 hkx231 kx239 hkx239 N l1 l2 l3 s0 s1 hf ls hl H locs hP hD hS
    unfold fL_holds_B228 at hf
    refine lv_icmp_eq (tgt := 233) hx hb dL_holds_228 (by decide) (fun c9 => ?_) (fun c9 => ?_)
    · have hf := it_t hf c9
      refine lv_iinc (v := (l3 + (1 : Int32))) (lv' := [(3, .int (l3 + (1 : Int32))), (0, .ref (a 0)), (1, .int l1), (2, .int l2)]) hx hb dL_holds_233 hl (k := 3) rfl rfl (by decide) rfl (fun ls hl => ?_)
      refine lv_goto (tgt := 179) hx hb dL_holds_236 (by decide) ?_
      exact hkb (sr M 41 (N 41)) l1 l2 (l3 + (1 : Int32)) hf _ (lv_sub hl [1, 2, 3, 0] rfl) _ _ hP hD hS
    · have hf := it_f hf c9
      exact hkx231 (sr M 41 (N 41)) hf _ (lv_sub hl [] rfl) _ _ hP hD hS
  have hfL_holds_B211 : ∀ (kb : Mem → Int32 → Int32 → Int32 → Option (Int32 × Mem)) (hkb : ∀ (N : Mem) (l1 : Int32) (l2 : Int32) (l3 : Int32), kb N l1 l2 l3 = some z → ∀ (ls : Array Slot), lv_has ls 6 [(0, .ref (a 0)), (1, .int l1), (2, .int l2), (3, .int l3)] → ∀ (H : Heap) (locs : List Loc), va_P (dC, dI) vwCl (wX8 cI cZ cS f g a (sr M 41 (N 41))) H → va_D A (wX8 cI cZ cS f g a (sr M 41 (N 41))) → va_S A s.heap H locs → W p l e (headSpec wsL_holds ({ frames := 21, cells := 0, slots := 0, locals := 513 } : Room)).room s m ([.ref (a 0)] : List Value).toArray below meth c H locs 0 0 (MQ below (va_Qi (S := Unit) (fun r _ => r = z.1) (fun _ t => WE (dC, dI) cI cZ (wX8 cI cZ cS f g a (sr M 41 (z.2 41))) A t) A) ([.ref (a 0)] : List Value).toArray s 0 0 A) (F0 m 179 ls [])) (kx231 : Mem → Option (Int32 × Mem)) (hkx231 : ∀ (N : Mem), kx231 N = some z → ∀ (ls : Array Slot), lv_has ls 6 [] → ∀ (H : Heap) (locs : List Loc), va_P (dC, dI) vwCl (wX8 cI cZ cS f g a (sr M 41 (N 41))) H → va_D A (wX8 cI cZ cS f g a (sr M 41 (N 41))) → va_S A s.heap H locs → W p l e (headSpec wsL_holds ({ frames := 21, cells := 0, slots := 0, locals := 513 } : Room)).room s m ([.ref (a 0)] : List Value).toArray below meth c H locs 0 0 (MQ below (va_Qi (S := Unit) (fun r _ => r = z.1) (fun _ t => WE (dC, dI) cI cZ (wX8 cI cZ cS f g a (sr M 41 (z.2 41))) A t) A) ([.ref (a 0)] : List Value).toArray s 0 0 A) (F0 m 231 ls [])) (kx239 : Mem → Int32 → Int32 → Option (Int32 × Mem)) (hkx239 : ∀ (N : Mem) (l1 : Int32) (l2 : Int32), kx239 N l1 l2 = some z → ∀ (ls : Array Slot), lv_has ls 6 [(0, .ref (a 0)), (1, .int l1), (2, .int l2)] → ∀ (H : Heap) (locs : List Loc), va_P (dC, dI) vwCl (wX8 cI cZ cS f g a (sr M 41 (N 41))) H → va_D A (wX8 cI cZ cS f g a (sr M 41 (N 41))) → va_S A s.heap H locs → W p l e (headSpec wsL_holds ({ frames := 21, cells := 0, slots := 0, locals := 513 } : Room)).room s m ([.ref (a 0)] : List Value).toArray below meth c H locs 0 0 (MQ below (va_Qi (S := Unit) (fun r _ => r = z.1) (fun _ t => WE (dC, dI) cI cZ (wX8 cI cZ cS f g a (sr M 41 (z.2 41))) A t) A) ([.ref (a 0)] : List Value).toArray s 0 0 A) (F0 m 239 ls [])), ∀ (N : Mem) (l1 : Int32) (l2 : Int32) (l3 : Int32) (s0 : Int32), fL_holds_B211 M kb kx231 kx239 N l1 l2 l3 s0 = some z → ∀ (ls : Array Slot), lv_has ls 6 [(0, .ref (a 0)), (1, .int l1), (2, .int l2), (3, .int l3)] → ∀ (H : Heap) (locs : List Loc), va_P (dC, dI) vwCl (wX8 cI cZ cS f g a (sr M 41 (N 41))) H → va_D A (wX8 cI cZ cS f g a (sr M 41 (N 41))) → va_S A s.heap H locs → W p l e (headSpec wsL_holds ({ frames := 21, cells := 0, slots := 0, locals := 513 } : Room)).room s m ([.ref (a 0)] : List Value).toArray below meth c H locs 0 0 (MQ below (va_Qi (S := Unit) (fun r _ => r = z.1) (fun _ t => WE (dC, dI) cI cZ (wX8 cI cZ cS f g a (sr M 41 (z.2 41))) A t) A) ([.ref (a 0)] : List Value).toArray s 0 0 A) (F0 m 211 ls [.int s0]) := by
    intro kb hkb kx231 hkx231 kx239 hkx239 N l1 l2 l3 s0 hf ls hl H locs hP hD hS
    unfold fL_holds_B211 at hf
    refine lv_aload_n hx hb dL_holds_211 rfl (lv_at hl 0 rfl) ?_
    obtain ⟨r212, hc212, hf⟩ := bi_s hf
    have hPc := hP
    refine cRO (W.runV (As := []) (rest := [.int s0]) ⟨hx, hb, hml, hown, hts⟩ (c_X8_shortKinds l dC dI cI cZ cS f g a (sr M 41 (N 41)) r212 hc212) (cwV 0 hts gL_holds_X8_shortKinds rfl rfl rfl (by decide +kernel) ⟨Nat.le_of_ble_eq_true rfl, Nat.le_of_ble_eq_true rfl⟩) ⟨RO8.blind, va_recv hK hP (ci := 8) (q0 := 0) rfl rfl, RO8.pre hPc hK hNW⟩ rfl rfl hl.1 rfl (lv_room (Nat.le_of_ble_eq_true rfl)) dL_holds_212 ⟨Nat.le_of_ble_eq_true rfl, Nat.le_of_ble_eq_true rfl⟩) ?_
    refine lv_iload_n hx hb dL_holds_215 rfl (lv_at hl 3 rfl) ?_
    refine lv_ishr hx hb dL_holds_216 ?_
    refine lv_iconst (v := (1 : Int32)) hx hb dL_holds_217 (by decide) ?_
    refine lv_iand hx hb dL_holds_218 ?_
    refine lv_iconst (v := (1 : Int32)) hx hb dL_holds_219 (by decide) ?_
    refine lv_icmp_ne (tgt := 227) hx hb dL_holds_220 (by decide) (fun c9 => ?_) (fun c9 => ?_)
    · have hf := it_t hf c9
      refine lv_iconst (v := (0 : Int32)) hx hb dL_holds_227 (by decide) ?_
      exact hfL_holds_B228 _ hkb _ hkx231 _ hkx239 (sr M 41 (N 41)) l1 l2 l3 s0 (0 : Int32) hf _ (lv_sub hl [0, 1, 2, 3] rfl) _ _ hP hD hS
    · have hf := it_n hf c9
      refine lv_iconst (v := (1 : Int32)) hx hb dL_holds_223 (by decide) ?_
      refine lv_goto (tgt := 228) hx hb dL_holds_224 (by decide) ?_
      exact hfL_holds_B228 _ hkb _ hkx231 _ hkx239 (sr M 41 (N 41)) l1 l2 l3 s0 (1 : Int32) hf _ (lv_sub hl [0, 1, 2, 3] rfl) _ _ hP hD hS
  have hfL_holds_L179 : ∀ (n : Nat) (kx231 : Mem → Option (Int32 × Mem)) (hkx231 : ∀ (N : Mem), kx231 N = some z → ∀ (ls : Array Slot), lv_has ls 6 [] → ∀ (H : Heap) (locs : List Loc), va_P (dC, dI) vwCl (wX8 cI cZ cS f g a (sr M 41 (N 41))) H → va_D A (wX8 cI cZ cS f g a (sr M 41 (N 41))) → va_S A s.heap H locs → W p l e (headSpec wsL_holds ({ frames := 21, cells := 0, slots := 0, locals := 513 } : Room)).room s m ([.ref (a 0)] : List Value).toArray below meth c H locs 0 0 (MQ below (va_Qi (S := Unit) (fun r _ => r = z.1) (fun _ t => WE (dC, dI) cI cZ (wX8 cI cZ cS f g a (sr M 41 (z.2 41))) A t) A) ([.ref (a 0)] : List Value).toArray s 0 0 A) (F0 m 231 ls [])) (kx239 : Mem → Int32 → Int32 → Option (Int32 × Mem)) (hkx239 : ∀ (N : Mem) (l1 : Int32) (l2 : Int32), kx239 N l1 l2 = some z → ∀ (ls : Array Slot), lv_has ls 6 [(0, .ref (a 0)), (1, .int l1), (2, .int l2)] → ∀ (H : Heap) (locs : List Loc), va_P (dC, dI) vwCl (wX8 cI cZ cS f g a (sr M 41 (N 41))) H → va_D A (wX8 cI cZ cS f g a (sr M 41 (N 41))) → va_S A s.heap H locs → W p l e (headSpec wsL_holds ({ frames := 21, cells := 0, slots := 0, locals := 513 } : Room)).room s m ([.ref (a 0)] : List Value).toArray below meth c H locs 0 0 (MQ below (va_Qi (S := Unit) (fun r _ => r = z.1) (fun _ t => WE (dC, dI) cI cZ (wX8 cI cZ cS f g a (sr M 41 (z.2 41))) A t) A) ([.ref (a 0)] : List Value).toArray s 0 0 A) (F0 m 239 ls [])), ∀ (N : Mem) (l1 : Int32) (l2 : Int32) (l3 : Int32), fL_holds_L179 M n kx231 kx239 N l1 l2 l3 = some z → ∀ (ls : Array Slot), lv_has ls 6 [(0, .ref (a 0)), (1, .int l1), (2, .int l2), (3, .int l3)] → ∀ (H : Heap) (locs : List Loc), va_P (dC, dI) vwCl (wX8 cI cZ cS f g a (sr M 41 (N 41))) H → va_D A (wX8 cI cZ cS f g a (sr M 41 (N 41))) → va_S A s.heap H locs → W p l e (headSpec wsL_holds ({ frames := 21, cells := 0, slots := 0, locals := 513 } : Room)).room s m ([.ref (a 0)] : List Value).toArray below meth c H locs 0 0 (MQ below (va_Qi (S := Unit) (fun r _ => r = z.1) (fun _ t => WE (dC, dI) cI cZ (wX8 cI cZ cS f g a (sr M 41 (z.2 41))) A t) A) ([.ref (a 0)] : List Value).toArray s 0 0 A) (F0 m 179 ls []) := by
    intro n
    induction n with
    | zero =>
      intro kx231 hkx231 kx239 hkx239 N l1 l2 l3 hf ls hl H locs hP hD hS
      rw [fL_holds_L179] at hf
      cases hf
    | succ n ih =>
      intro kx231 hkx231 kx239 hkx239 N l1 l2 l3 hf ls hl H locs hP hD hS
      rw [fL_holds_L179] at hf
      refine lv_iload_n hx hb dL_holds_179 rfl (lv_at hl 3 rfl) ?_
      refine lv_bipush (v := (10 : Int32)) hx hb dL_holds_180 (by decide) ?_
      refine lv_icmp_ge (tgt := 239) hx hb dL_holds_182 (by decide) (fun c9 => ?_) (fun c9 => ?_)
      · have hf := it_t hf c9
        exact hkx239 (sr M 41 (N 41)) l1 l2 hf _ (lv_sub hl [0, 1, 2] rfl) _ _ hP hD hS
      · have hf := it_f hf c9
        refine lv_aload_n hx hb dL_holds_185 rfl (lv_at hl 0 rfl) ?_
        refine lv_iload_n hx hb dL_holds_186 rfl (lv_at hl 3 rfl) ?_
        obtain ⟨r187, hc187, hf⟩ := bi_s hf
        rcases r187 with E9 | r187
        · exact absurd hf (fun h => nomatch h)
        have hf := sel_r hf
        refine cRO (W.runV (As := [.int l3]) (rest := []) ⟨hx, hb, hml, hown, hts⟩ (n_X8_stockByShelves l dC dI cI cZ cS f g a (sr M 41 (N 41)) l3 r187 hc187) (cwV 1 hts gL_holds_X8_stockByShelves rfl rfl rfl (by decide +kernel) ⟨Nat.le_of_ble_eq_true rfl, Nat.le_of_ble_eq_true rfl⟩) ⟨RO8.blind, va_recv hK hP (ci := 8) (q0 := 0) rfl rfl, RO8.pre hP hK hNW⟩ rfl rfl hl.1 rfl (lv_room (Nat.le_of_ble_eq_true rfl)) dL_holds_187 ⟨Nat.le_of_ble_eq_true rfl, Nat.le_of_ble_eq_true rfl⟩) ?_
        refine lv_aload_n hx hb dL_holds_190 rfl (lv_at hl 0 rfl) ?_
        refine lv_iload_n hx hb dL_holds_191 rfl (lv_at hl 3 rfl) ?_
        obtain ⟨r192, hc192, hf⟩ := bi_s hf
        rcases r192 with E9 | r192
        · exact absurd hf (fun h => nomatch h)
        have hf := sel_r hf
        refine cRO (W.runV (As := [.int l3]) (rest := [.int r187]) ⟨hx, hb, hml, hown, hts⟩ (n_X8_stockByAccount l dC dI cI cZ cS f g a (sr M 41 (N 41)) l3 r192 hc192) (cwV 1 hts gL_holds_X8_stockByAccount rfl rfl rfl (by decide +kernel) ⟨Nat.le_of_ble_eq_true rfl, Nat.le_of_ble_eq_true rfl⟩) ⟨RO8.blind, va_recv hK hP (ci := 8) (q0 := 0) rfl rfl, RO8.pre hP hK hNW⟩ rfl rfl hl.1 rfl (lv_room (Nat.le_of_ble_eq_true rfl)) dL_holds_192 ⟨Nat.le_of_ble_eq_true rfl, Nat.le_of_ble_eq_true rfl⟩) ?_
        refine lv_icmp_ne (tgt := 231) hx hb dL_holds_195 (by decide) (fun c9 => ?_) (fun c9 => ?_)
        · have hf := it_t hf c9
          exact hkx231 (sr M 41 (N 41)) hf _ (lv_sub hl [] rfl) _ _ hP hD hS
        · have hf := it_n hf c9
          refine lv_aload_n hx hb dL_holds_198 rfl (lv_at hl 0 rfl) ?_
          refine lv_iload_n hx hb dL_holds_199 rfl (lv_at hl 3 rfl) ?_
          obtain ⟨r200, hc200, hf⟩ := bi_s hf
          rcases r200 with E9 | r200
          · exact absurd hf (fun h => nomatch h)
          have hf := sel_r hf
          refine cRO (W.runV (As := [.int l3]) (rest := []) ⟨hx, hb, hml, hown, hts⟩ (n_X8_missingOf l dC dI cI cZ cS f g a (sr M 41 (N 41)) l3 r200 hc200) (cwV 1 hts gL_holds_X8_missingOf rfl rfl rfl (by decide +kernel) ⟨Nat.le_of_ble_eq_true rfl, Nat.le_of_ble_eq_true rfl⟩) ⟨RO8.blind, va_recv hK hP (ci := 8) (q0 := 0) rfl rfl, RO8.pre hP hK hNW⟩ rfl rfl hl.1 rfl (lv_room (Nat.le_of_ble_eq_true rfl)) dL_holds_200 ⟨Nat.le_of_ble_eq_true rfl, Nat.le_of_ble_eq_true rfl⟩) ?_
          refine lv_if_le (tgt := 210) hx hb dL_holds_203 (by decide) (fun c9 => ?_) (fun c9 => ?_)
          · have hf := it_t hf c9
            refine lv_iconst (v := (0 : Int32)) hx hb dL_holds_210 (by decide) ?_
            exact hfL_holds_B211 _ (ih kx231 hkx231 kx239 hkx239) _ hkx231 _ hkx239 (sr M 41 (N 41)) l1 l2 l3 (0 : Int32) hf _ (lv_sub hl [0, 1, 2, 3] rfl) _ _ hP hD hS
          · have hf := it_f hf c9
            refine lv_iconst (v := (1 : Int32)) hx hb dL_holds_206 (by decide) ?_
            refine lv_goto (tgt := 211) hx hb dL_holds_207 (by decide) ?_
            exact hfL_holds_B211 _ (ih kx231 hkx231 kx239 hkx239) _ hkx231 _ hkx239 (sr M 41 (N 41)) l1 l2 l3 (1 : Int32) hf _ (lv_sub hl [0, 1, 2, 3] rfl) _ _ hP hD hS
  have hfL_holds_B288 : ∀ (kb : Mem → Int32 → Int32 → Int32 → Int32 → Int32 → Option (Int32 × Mem)) (hkb : ∀ (N : Mem) (l1 : Int32) (l2 : Int32) (l3 : Int32) (l4 : Int32) (l5 : Int32), kb N l1 l2 l3 l4 l5 = some z → ∀ (ls : Array Slot), lv_has ls 6 [(0, .ref (a 0)), (1, .int l1), (2, .int l2), (3, .int l3), (4, .int l4), (5, .int l5)] → ∀ (H : Heap) (locs : List Loc), va_P (dC, dI) vwCl (wX8 cI cZ cS f g a (sr M 41 (N 41))) H → va_D A (wX8 cI cZ cS f g a (sr M 41 (N 41))) → va_S A s.heap H locs → W p l e (headSpec wsL_holds ({ frames := 21, cells := 0, slots := 0, locals := 513 } : Room)).room s m ([.ref (a 0)] : List Value).toArray below meth c H locs 0 0 (MQ below (va_Qi (S := Unit) (fun r _ => r = z.1) (fun _ t => WE (dC, dI) cI cZ (wX8 cI cZ cS f g a (sr M 41 (z.2 41))) A t) A) ([.ref (a 0)] : List Value).toArray s 0 0 A) (F0 m 255 ls [])) (kx296 : Mem → Int32 → Int32 → Int32 → Int32 → Option (Int32 × Mem)) (hkx296 : ∀ (N : Mem) (l1 : Int32) (l2 : Int32) (l3 : Int32) (l4 : Int32), kx296 N l1 l2 l3 l4 = some z → ∀ (ls : Array Slot), lv_has ls 6 [(0, .ref (a 0)), (1, .int l1), (2, .int l2), (3, .int l3), (4, .int l4)] → ∀ (H : Heap) (locs : List Loc), va_P (dC, dI) vwCl (wX8 cI cZ cS f g a (sr M 41 (N 41))) H → va_D A (wX8 cI cZ cS f g a (sr M 41 (N 41))) → va_S A s.heap H locs → W p l e (headSpec wsL_holds ({ frames := 21, cells := 0, slots := 0, locals := 513 } : Room)).room s m ([.ref (a 0)] : List Value).toArray below meth c H locs 0 0 (MQ below (va_Qi (S := Unit) (fun r _ => r = z.1) (fun _ t => WE (dC, dI) cI cZ (wX8 cI cZ cS f g a (sr M 41 (z.2 41))) A t) A) ([.ref (a 0)] : List Value).toArray s 0 0 A) (F0 m 296 ls [])), ∀ (N : Mem) (l1 : Int32) (l2 : Int32) (l3 : Int32) (l5 : Int32) (s0 : Int32), fL_holds_B288 M kb kx296 N l1 l2 l3 l5 s0 = some z → ∀ (ls : Array Slot), lv_has ls 6 [(0, .ref (a 0)), (1, .int l1), (2, .int l2), (3, .int l3), (5, .int l5)] → ∀ (H : Heap) (locs : List Loc), va_P (dC, dI) vwCl (wX8 cI cZ cS f g a (sr M 41 (N 41))) H → va_D A (wX8 cI cZ cS f g a (sr M 41 (N 41))) → va_S A s.heap H locs → W p l e (headSpec wsL_holds ({ frames := 21, cells := 0, slots := 0, locals := 513 } : Room)).room s m ([.ref (a 0)] : List Value).toArray below meth c H locs 0 0 (MQ below (va_Qi (S := Unit) (fun r _ => r = z.1) (fun _ t => WE (dC, dI) cI cZ (wX8 cI cZ cS f g a (sr M 41 (z.2 41))) A t) A) ([.ref (a 0)] : List Value).toArray s 0 0 A) (F0 m 288 ls [.int s0]) := by
    intro kb hkb kx296 hkx296 N l1 l2 l3 l5 s0 hf ls hl H locs hP hD hS
    unfold fL_holds_B288 at hf
    refine lv_istore (lv' := [(4, .int s0), (0, .ref (a 0)), (1, .int l1), (2, .int l2), (3, .int l3), (5, .int l5)]) hx hb dL_holds_288 hl (by decide) rfl (fun ls hl => ?_)
    refine lv_iinc (v := (l5 + (1 : Int32))) (lv' := [(5, .int (l5 + (1 : Int32))), (4, .int s0), (0, .ref (a 0)), (1, .int l1), (2, .int l2), (3, .int l3)]) hx hb dL_holds_290 hl (k := 5) rfl rfl (by decide) rfl (fun ls hl => ?_)
    refine lv_goto (tgt := 255) hx hb dL_holds_293 (by decide) ?_
    exact hkb (sr M 41 (N 41)) l1 l2 l3 s0 (l5 + (1 : Int32)) hf _ (lv_sub hl [2, 3, 4, 5, 1, 0] rfl) _ _ hP hD hS
  have hfL_holds_B287 : ∀ (kb : Mem → Int32 → Int32 → Int32 → Int32 → Int32 → Option (Int32 × Mem)) (hkb : ∀ (N : Mem) (l1 : Int32) (l2 : Int32) (l3 : Int32) (l4 : Int32) (l5 : Int32), kb N l1 l2 l3 l4 l5 = some z → ∀ (ls : Array Slot), lv_has ls 6 [(0, .ref (a 0)), (1, .int l1), (2, .int l2), (3, .int l3), (4, .int l4), (5, .int l5)] → ∀ (H : Heap) (locs : List Loc), va_P (dC, dI) vwCl (wX8 cI cZ cS f g a (sr M 41 (N 41))) H → va_D A (wX8 cI cZ cS f g a (sr M 41 (N 41))) → va_S A s.heap H locs → W p l e (headSpec wsL_holds ({ frames := 21, cells := 0, slots := 0, locals := 513 } : Room)).room s m ([.ref (a 0)] : List Value).toArray below meth c H locs 0 0 (MQ below (va_Qi (S := Unit) (fun r _ => r = z.1) (fun _ t => WE (dC, dI) cI cZ (wX8 cI cZ cS f g a (sr M 41 (z.2 41))) A t) A) ([.ref (a 0)] : List Value).toArray s 0 0 A) (F0 m 255 ls [])) (kx296 : Mem → Int32 → Int32 → Int32 → Int32 → Option (Int32 × Mem)) (hkx296 : ∀ (N : Mem) (l1 : Int32) (l2 : Int32) (l3 : Int32) (l4 : Int32), kx296 N l1 l2 l3 l4 = some z → ∀ (ls : Array Slot), lv_has ls 6 [(0, .ref (a 0)), (1, .int l1), (2, .int l2), (3, .int l3), (4, .int l4)] → ∀ (H : Heap) (locs : List Loc), va_P (dC, dI) vwCl (wX8 cI cZ cS f g a (sr M 41 (N 41))) H → va_D A (wX8 cI cZ cS f g a (sr M 41 (N 41))) → va_S A s.heap H locs → W p l e (headSpec wsL_holds ({ frames := 21, cells := 0, slots := 0, locals := 513 } : Room)).room s m ([.ref (a 0)] : List Value).toArray below meth c H locs 0 0 (MQ below (va_Qi (S := Unit) (fun r _ => r = z.1) (fun _ t => WE (dC, dI) cI cZ (wX8 cI cZ cS f g a (sr M 41 (z.2 41))) A t) A) ([.ref (a 0)] : List Value).toArray s 0 0 A) (F0 m 296 ls [])), ∀ (N : Mem) (l1 : Int32) (l2 : Int32) (l3 : Int32) (l5 : Int32), fL_holds_B287 M kb kx296 N l1 l2 l3 l5 = some z → ∀ (ls : Array Slot), lv_has ls 6 [(0, .ref (a 0)), (1, .int l1), (2, .int l2), (3, .int l3), (5, .int l5)] → ∀ (H : Heap) (locs : List Loc), va_P (dC, dI) vwCl (wX8 cI cZ cS f g a (sr M 41 (N 41))) H → va_D A (wX8 cI cZ cS f g a (sr M 41 (N 41))) → va_S A s.heap H locs → W p l e (headSpec wsL_holds ({ frames := 21, cells := 0, slots := 0, locals := 513 } : Room)).room s m ([.ref (a 0)] : List Value).toArray below meth c H locs 0 0 (MQ below (va_Qi (S := Unit) (fun r _ => r = z.1) (fun _ t => WE (dC, dI) cI cZ (wX8 cI cZ cS f g a (sr M 41 (z.2 41))) A t) A) ([.ref (a 0)] : List Value).toArray s 0 0 A) (F0 m 287 ls []) := by
    intro kb hkb kx296 hkx296 N l1 l2 l3 l5 hf ls hl H locs hP hD hS
    unfold fL_holds_B287 at hf
    refine lv_iconst (v := (0 : Int32)) hx hb dL_holds_287 (by decide) ?_
    exact hfL_holds_B288 _ hkb _ hkx296 (sr M 41 (N 41)) l1 l2 l3 l5 (0 : Int32) hf _ (lv_sub hl [0, 1, 2, 3, 4] rfl) _ _ hP hD hS
  have hfL_holds_L255 : ∀ (n : Nat) (kx296 : Mem → Int32 → Int32 → Int32 → Int32 → Option (Int32 × Mem)) (hkx296 : ∀ (N : Mem) (l1 : Int32) (l2 : Int32) (l3 : Int32) (l4 : Int32), kx296 N l1 l2 l3 l4 = some z → ∀ (ls : Array Slot), lv_has ls 6 [(0, .ref (a 0)), (1, .int l1), (2, .int l2), (3, .int l3), (4, .int l4)] → ∀ (H : Heap) (locs : List Loc), va_P (dC, dI) vwCl (wX8 cI cZ cS f g a (sr M 41 (N 41))) H → va_D A (wX8 cI cZ cS f g a (sr M 41 (N 41))) → va_S A s.heap H locs → W p l e (headSpec wsL_holds ({ frames := 21, cells := 0, slots := 0, locals := 513 } : Room)).room s m ([.ref (a 0)] : List Value).toArray below meth c H locs 0 0 (MQ below (va_Qi (S := Unit) (fun r _ => r = z.1) (fun _ t => WE (dC, dI) cI cZ (wX8 cI cZ cS f g a (sr M 41 (z.2 41))) A t) A) ([.ref (a 0)] : List Value).toArray s 0 0 A) (F0 m 296 ls [])), ∀ (N : Mem) (l1 : Int32) (l2 : Int32) (l3 : Int32) (l4 : Int32) (l5 : Int32), fL_holds_L255 M n kx296 N l1 l2 l3 l4 l5 = some z → ∀ (ls : Array Slot), lv_has ls 6 [(0, .ref (a 0)), (1, .int l1), (2, .int l2), (3, .int l3), (4, .int l4), (5, .int l5)] → ∀ (H : Heap) (locs : List Loc), va_P (dC, dI) vwCl (wX8 cI cZ cS f g a (sr M 41 (N 41))) H → va_D A (wX8 cI cZ cS f g a (sr M 41 (N 41))) → va_S A s.heap H locs → W p l e (headSpec wsL_holds ({ frames := 21, cells := 0, slots := 0, locals := 513 } : Room)).room s m ([.ref (a 0)] : List Value).toArray below meth c H locs 0 0 (MQ below (va_Qi (S := Unit) (fun r _ => r = z.1) (fun _ t => WE (dC, dI) cI cZ (wX8 cI cZ cS f g a (sr M 41 (z.2 41))) A t) A) ([.ref (a 0)] : List Value).toArray s 0 0 A) (F0 m 255 ls []) := by
    intro n
    induction n with
    | zero =>
      intro kx296 hkx296 N l1 l2 l3 l4 l5 hf ls hl H locs hP hD hS
      rw [fL_holds_L255] at hf
      cases hf
    | succ n ih =>
      intro kx296 hkx296 N l1 l2 l3 l4 l5 hf ls hl H locs hP hD hS
      rw [fL_holds_L255] at hf
      refine lv_iload hx hb dL_holds_255 (lv_at hl 5 rfl) ?_
      refine lv_bipush (v := (10 : Int32)) hx hb dL_holds_257 (by decide) ?_
      refine lv_icmp_ge (tgt := 296) hx hb dL_holds_259 (by decide) (fun c9 => ?_) (fun c9 => ?_)
      · have hf := it_t hf c9
        exact hkx296 (sr M 41 (N 41)) l1 l2 l3 l4 hf _ (lv_sub hl [0, 1, 2, 3, 4] rfl) _ _ hP hD hS
      · have hf := it_f hf c9
        refine lv_iload hx hb dL_holds_262 (lv_at hl 4 rfl) ?_
        refine lv_if_eq (tgt := 287) hx hb dL_holds_264 (by decide) (fun c9 => ?_) (fun c9 => ?_)
        · have hf := it_t hf c9
          exact hfL_holds_B287 _ (ih kx296 hkx296) _ hkx296 (sr M 41 (N 41)) l1 l2 l3 l5 hf _ (lv_sub hl [0, 1, 2, 3, 5] rfl) _ _ hP hD hS
        · have hf := it_f hf c9
          refine lv_aload_n hx hb dL_holds_267 rfl (lv_at hl 0 rfl) ?_
          refine lv_iload_n hx hb dL_holds_268 rfl (lv_at hl 3 rfl) ?_
          refine lv_iload hx hb dL_holds_269 (lv_at hl 5 rfl) ?_
          obtain ⟨r271, hc271, hf⟩ := bi_s hf
          rcases r271 with E9 | r271
          · exact absurd hf (fun h => nomatch h)
          have hf := sel_r hf
          refine cRO (W.runV (As := [.int l3, .int l5]) (rest := []) ⟨hx, hb, hml, hown, hts⟩ (n_X8_wanted l dC dI cI cZ cS f g a (sr M 41 (N 41)) l3 l5 r271 hc271) (cwV 2 hts gL_holds_X8_wanted rfl rfl rfl (by decide +kernel) ⟨Nat.le_of_ble_eq_true rfl, Nat.le_of_ble_eq_true rfl⟩) ⟨RO8.blind, va_recv hK hP (ci := 8) (q0 := 0) rfl rfl, RO8.pre hP hK hNW⟩ rfl rfl hl.1 rfl (lv_room (Nat.le_of_ble_eq_true rfl)) dL_holds_271 ⟨Nat.le_of_ble_eq_true rfl, Nat.le_of_ble_eq_true rfl⟩) ?_
          refine lv_aload_n hx hb dL_holds_274 rfl (lv_at hl 0 rfl) ?_
          refine lv_iload hx hb dL_holds_275 (lv_at hl 5 rfl) ?_
          obtain ⟨r277, hc277, hf⟩ := bi_s hf
          rcases r277 with E9 | r277
          · exact absurd hf (fun h => nomatch h)
          have hf := sel_r hf
          refine cRO (W.runV (As := [.int l5]) (rest := [.int r271]) ⟨hx, hb, hml, hown, hts⟩ (n_X8_stockByShelves l dC dI cI cZ cS f g a (sr M 41 (N 41)) l5 r277 hc277) (cwV 1 hts gL_holds_X8_stockByShelves rfl rfl rfl (by decide +kernel) ⟨Nat.le_of_ble_eq_true rfl, Nat.le_of_ble_eq_true rfl⟩) ⟨RO8.blind, va_recv hK hP (ci := 8) (q0 := 0) rfl rfl, RO8.pre hP hK hNW⟩ rfl rfl hl.1 rfl (lv_room (Nat.le_of_ble_eq_true rfl)) dL_holds_277 ⟨Nat.le_of_ble_eq_true rfl, Nat.le_of_ble_eq_true rfl⟩) ?_
          refine lv_icmp_gt (tgt := 287) hx hb dL_holds_280 (by decide) (fun c9 => ?_) (fun c9 => ?_)
          · have hf := it_t hf c9
            exact hfL_holds_B287 _ (ih kx296 hkx296) _ hkx296 (sr M 41 (N 41)) l1 l2 l3 l5 hf _ (lv_sub hl [0, 1, 2, 3, 5] rfl) _ _ hP hD hS
          · have hf := it_f hf c9
            refine lv_iconst (v := (1 : Int32)) hx hb dL_holds_283 (by decide) ?_
            refine lv_goto (tgt := 288) hx hb dL_holds_284 (by decide) ?_
            exact hfL_holds_B288 _ (ih kx296 hkx296) _ hkx296 (sr M 41 (N 41)) l1 l2 l3 l5 (1 : Int32) hf _ (lv_sub hl [0, 1, 2, 3, 5] rfl) _ _ hP hD hS
  have hfL_holds_B335 : ∀ (kb : Mem → Int32 → Int32 → Int32 → Option (Int32 × Mem)) (hkb : ∀ (N : Mem) (l1 : Int32) (l2 : Int32) (l3 : Int32), kb N l1 l2 l3 = some z → ∀ (ls : Array Slot), lv_has ls 6 [(0, .ref (a 0)), (1, .int l1), (2, .int l2), (3, .int l3)] → ∀ (H : Heap) (locs : List Loc), va_P (dC, dI) vwCl (wX8 cI cZ cS f g a (sr M 41 (N 41))) H → va_D A (wX8 cI cZ cS f g a (sr M 41 (N 41))) → va_S A s.heap H locs → W p l e (headSpec wsL_holds ({ frames := 21, cells := 0, slots := 0, locals := 513 } : Room)).room s m ([.ref (a 0)] : List Value).toArray below meth c H locs 0 0 (MQ below (va_Qi (S := Unit) (fun r _ => r = z.1) (fun _ t => WE (dC, dI) cI cZ (wX8 cI cZ cS f g a (sr M 41 (z.2 41))) A t) A) ([.ref (a 0)] : List Value).toArray s 0 0 A) (F0 m 241 ls [])) (kx333 : Mem → Option (Int32 × Mem)) (hkx333 : ∀ (N : Mem), kx333 N = some z → ∀ (ls : Array Slot), lv_has ls 6 [] → ∀ (H : Heap) (locs : List Loc), va_P (dC, dI) vwCl (wX8 cI cZ cS f g a (sr M 41 (N 41))) H → va_D A (wX8 cI cZ cS f g a (sr M 41 (N 41))) → va_S A s.heap H locs → W p l e (headSpec wsL_holds ({ frames := 21, cells := 0, slots := 0, locals := 513 } : Room)).room s m ([.ref (a 0)] : List Value).toArray below meth c H locs 0 0 (MQ below (va_Qi (S := Unit) (fun r _ => r = z.1) (fun _ t => WE (dC, dI) cI cZ (wX8 cI cZ cS f g a (sr M 41 (z.2 41))) A t) A) ([.ref (a 0)] : List Value).toArray s 0 0 A) (F0 m 333 ls [])) (kx341 : Mem → Int32 → Int32 → Option (Int32 × Mem)) (hkx341 : ∀ (N : Mem) (l1 : Int32) (l2 : Int32), kx341 N l1 l2 = some z → ∀ (ls : Array Slot), lv_has ls 6 [(0, .ref (a 0)), (1, .int l1), (2, .int l2)] → ∀ (H : Heap) (locs : List Loc), va_P (dC, dI) vwCl (wX8 cI cZ cS f g a (sr M 41 (N 41))) H → va_D A (wX8 cI cZ cS f g a (sr M 41 (N 41))) → va_S A s.heap H locs → W p l e (headSpec wsL_holds ({ frames := 21, cells := 0, slots := 0, locals := 513 } : Room)).room s m ([.ref (a 0)] : List Value).toArray below meth c H locs 0 0 (MQ below (va_Qi (S := Unit) (fun r _ => r = z.1) (fun _ t => WE (dC, dI) cI cZ (wX8 cI cZ cS f g a (sr M 41 (z.2 41))) A t) A) ([.ref (a 0)] : List Value).toArray s 0 0 A) (F0 m 341 ls [])), ∀ (N : Mem) (l1 : Int32) (l2 : Int32) (l3 : Int32), fL_holds_B335 M kb kx333 kx341 N l1 l2 l3 = some z → ∀ (ls : Array Slot), lv_has ls 6 [(0, .ref (a 0)), (1, .int l1), (2, .int l2), (3, .int l3)] → ∀ (H : Heap) (locs : List Loc), va_P (dC, dI) vwCl (wX8 cI cZ cS f g a (sr M 41 (N 41))) H → va_D A (wX8 cI cZ cS f g a (sr M 41 (N 41))) → va_S A s.heap H locs → W p l e (headSpec wsL_holds ({ frames := 21, cells := 0, slots := 0, locals := 513 } : Room)).room s m ([.ref (a 0)] : List Value).toArray below meth c H locs 0 0 (MQ below (va_Qi (S := Unit) (fun r _ => r = z.1) (fun _ t => WE (dC, dI) cI cZ (wX8 cI cZ cS f g a (sr M 41 (z.2 41))) A t) A) ([.ref (a 0)] : List Value).toArray s 0 0 A) (F0 m 335 ls []) := by
    intro kb hkb kx333 hkx333 kx341 hkx341 N l1 l2 l3 hf ls hl H locs hP hD hS
    unfold fL_holds_B335 at hf
    refine lv_iinc (v := (l3 + (1 : Int32))) (lv' := [(3, .int (l3 + (1 : Int32))), (0, .ref (a 0)), (1, .int l1), (2, .int l2)]) hx hb dL_holds_335 hl (k := 3) rfl rfl (by decide) rfl (fun ls hl => ?_)
    refine lv_goto (tgt := 241) hx hb dL_holds_338 (by decide) ?_
    exact hkb (sr M 41 (N 41)) l1 l2 (l3 + (1 : Int32)) hf _ (lv_sub hl [1, 2, 3, 0] rfl) _ _ hP hD hS
  have hfL_holds_L241 : ∀ (n : Nat) (kx333 : Mem → Option (Int32 × Mem)) (hkx333 : ∀ (N : Mem), kx333 N = some z → ∀ (ls : Array Slot), lv_has ls 6 [] → ∀ (H : Heap) (locs : List Loc), va_P (dC, dI) vwCl (wX8 cI cZ cS f g a (sr M 41 (N 41))) H → va_D A (wX8 cI cZ cS f g a (sr M 41 (N 41))) → va_S A s.heap H locs → W p l e (headSpec wsL_holds ({ frames := 21, cells := 0, slots := 0, locals := 513 } : Room)).room s m ([.ref (a 0)] : List Value).toArray below meth c H locs 0 0 (MQ below (va_Qi (S := Unit) (fun r _ => r = z.1) (fun _ t => WE (dC, dI) cI cZ (wX8 cI cZ cS f g a (sr M 41 (z.2 41))) A t) A) ([.ref (a 0)] : List Value).toArray s 0 0 A) (F0 m 333 ls [])) (kx341 : Mem → Int32 → Int32 → Option (Int32 × Mem)) (hkx341 : ∀ (N : Mem) (l1 : Int32) (l2 : Int32), kx341 N l1 l2 = some z → ∀ (ls : Array Slot), lv_has ls 6 [(0, .ref (a 0)), (1, .int l1), (2, .int l2)] → ∀ (H : Heap) (locs : List Loc), va_P (dC, dI) vwCl (wX8 cI cZ cS f g a (sr M 41 (N 41))) H → va_D A (wX8 cI cZ cS f g a (sr M 41 (N 41))) → va_S A s.heap H locs → W p l e (headSpec wsL_holds ({ frames := 21, cells := 0, slots := 0, locals := 513 } : Room)).room s m ([.ref (a 0)] : List Value).toArray below meth c H locs 0 0 (MQ below (va_Qi (S := Unit) (fun r _ => r = z.1) (fun _ t => WE (dC, dI) cI cZ (wX8 cI cZ cS f g a (sr M 41 (z.2 41))) A t) A) ([.ref (a 0)] : List Value).toArray s 0 0 A) (F0 m 341 ls [])), ∀ (N : Mem) (l1 : Int32) (l2 : Int32) (l3 : Int32), fL_holds_L241 M n kx333 kx341 N l1 l2 l3 = some z → ∀ (ls : Array Slot), lv_has ls 6 [(0, .ref (a 0)), (1, .int l1), (2, .int l2), (3, .int l3)] → ∀ (H : Heap) (locs : List Loc), va_P (dC, dI) vwCl (wX8 cI cZ cS f g a (sr M 41 (N 41))) H → va_D A (wX8 cI cZ cS f g a (sr M 41 (N 41))) → va_S A s.heap H locs → W p l e (headSpec wsL_holds ({ frames := 21, cells := 0, slots := 0, locals := 513 } : Room)).room s m ([.ref (a 0)] : List Value).toArray below meth c H locs 0 0 (MQ below (va_Qi (S := Unit) (fun r _ => r = z.1) (fun _ t => WE (dC, dI) cI cZ (wX8 cI cZ cS f g a (sr M 41 (z.2 41))) A t) A) ([.ref (a 0)] : List Value).toArray s 0 0 A) (F0 m 241 ls []) := by
    intro n
    induction n with
    | zero =>
      intro kx333 hkx333 kx341 hkx341 N l1 l2 l3 hf ls hl H locs hP hD hS
      rw [fL_holds_L241] at hf
      cases hf
    | succ n ih =>
      intro kx333 hkx333 kx341 hkx341 N l1 l2 l3 hf ls hl H locs hP hD hS
      rw [fL_holds_L241] at hf
      refine lv_iload_n hx hb dL_holds_241 rfl (lv_at hl 3 rfl) ?_
      refine lv_aload_n hx hb dL_holds_242 rfl (lv_at hl 0 rfl) ?_
      obtain ⟨r243, hc243, hf⟩ := bi_s hf
      have hPc := hP
      refine cRO (W.runV (As := []) (rest := [.int l3]) ⟨hx, hb, hml, hown, hts⟩ (c_X8_orders l dC dI cI cZ cS f g a (sr M 41 (N 41)) r243 hc243) (cwV 0 hts gL_holds_X8_orders rfl rfl rfl (by decide +kernel) ⟨Nat.le_of_ble_eq_true rfl, Nat.le_of_ble_eq_true rfl⟩) ⟨RO8.blind, va_recv hK hP (ci := 8) (q0 := 0) rfl rfl, RO8.pre hPc hK hNW⟩ rfl rfl hl.1 rfl (lv_room (Nat.le_of_ble_eq_true rfl)) dL_holds_243 ⟨Nat.le_of_ble_eq_true rfl, Nat.le_of_ble_eq_true rfl⟩) ?_
      refine lv_icmp_ge (tgt := 341) hx hb dL_holds_246 (by decide) (fun c9 => ?_) (fun c9 => ?_)
      · have hf := it_t hf c9
        exact hkx341 (sr M 41 (N 41)) l1 l2 hf _ (lv_sub hl [0, 1, 2] rfl) _ _ hP hD hS
      · have hf := it_f hf c9
        refine lv_iconst (v := (1 : Int32)) hx hb dL_holds_249 (by decide) ?_
        refine lv_istore (lv' := [(4, .int (1 : Int32)), (0, .ref (a 0)), (1, .int l1), (2, .int l2), (3, .int l3)]) hx hb dL_holds_250 hl (by decide) rfl (fun ls hl => ?_)
        refine lv_iconst (v := (0 : Int32)) hx hb dL_holds_252 (by decide) ?_
        refine lv_istore (lv' := [(5, .int (0 : Int32)), (4, .int (1 : Int32)), (0, .ref (a 0)), (1, .int l1), (2, .int l2), (3, .int l3)]) hx hb dL_holds_253 hl (by decide) rfl (fun ls hl => ?_)
        refine hfL_holds_L255 5000 _ (fun N l1 l2 l3 l4 hf ls hl H locs hP hD hS => ?_) (sr M 41 (N 41)) l1 l2 l3 (1 : Int32) (0 : Int32) hf _ (lv_sub hl [2, 3, 4, 5, 1, 0] rfl) _ _ hP hD hS
        refine lv_aload_n hx hb dL_holds_296 rfl (lv_at hl 0 rfl) ?_
        refine lv_iload_n hx hb dL_holds_297 rfl (lv_at hl 3 rfl) ?_
        obtain ⟨r298, hc298, hf⟩ := bi_s hf
        rcases r298 with E9 | r298
        · exact absurd hf (fun h => nomatch h)
        have hf := sel_r hf
        refine cRO (W.runV (As := [.int l3]) (rest := []) ⟨hx, hb, hml, hown, hts⟩ (n_X8_canServe l dC dI cI cZ cS f g a (sr M 41 (N 41)) l3 r298 hc298) (cwV 1 hts gL_holds_X8_canServe rfl rfl rfl (by decide +kernel) ⟨Nat.le_of_ble_eq_true rfl, Nat.le_of_ble_eq_true rfl⟩) ⟨RO8.blind, va_recv hK hP (ci := 8) (q0 := 0) rfl rfl, RO8.pre hP hK hNW⟩ rfl rfl hl.1 rfl (lv_room (Nat.le_of_ble_eq_true rfl)) dL_holds_298 ⟨Nat.le_of_ble_eq_true rfl, Nat.le_of_ble_eq_true rfl⟩) ?_
        refine lv_iload hx hb dL_holds_301 (lv_at hl 4 rfl) ?_
        refine lv_icmp_ne (tgt := 333) hx hb dL_holds_303 (by decide) (fun c9 => ?_) (fun c9 => ?_)
        · have hf := it_t hf c9
          exact hkx333 (sr M 41 (N 41)) hf _ (lv_sub hl [] rfl) _ _ hP hD hS
        · have hf := it_n hf c9
          refine lv_iload hx hb dL_holds_306 (lv_at hl 4 rfl) ?_
          refine lv_if_eq (tgt := 335) hx hb dL_holds_308 (by decide) (fun c9 => ?_) (fun c9 => ?_)
          · have hf := it_t hf c9
            exact hfL_holds_B335 _ (ih kx333 hkx333 kx341 hkx341) _ hkx333 _ hkx341 (sr M 41 (N 41)) l1 l2 l3 hf _ (lv_sub hl [0, 1, 2, 3] rfl) _ _ hP hD hS
          · have hf := it_f hf c9
            refine lv_aload_n hx hb dL_holds_311 rfl (lv_at hl 0 rfl) ?_
            refine lv_iload_n hx hb dL_holds_312 rfl (lv_at hl 3 rfl) ?_
            obtain ⟨r313, hc313, hf⟩ := bi_s hf
            rcases r313 with E9 | r313
            · exact absurd hf (fun h => nomatch h)
            have hf := sel_r hf
            refine cRO (W.runV (As := [.int l3]) (rest := []) ⟨hx, hb, hml, hown, hts⟩ (n_X8_fewestByTrying l dC dI cI cZ cS f g a (sr M 41 (N 41)) l3 r313 hc313) (cwV 1 hts gL_holds_X8_fewestByTrying rfl rfl rfl (by decide +kernel) ⟨Nat.le_of_ble_eq_true rfl, Nat.le_of_ble_eq_true rfl⟩) ⟨RO8.blind, va_recv hK hP (ci := 8) (q0 := 0) rfl rfl, RO8.pre hP hK hNW⟩ rfl rfl hl.1 rfl (lv_room (Nat.le_of_ble_eq_true rfl)) dL_holds_313 ⟨Nat.le_of_ble_eq_true rfl, Nat.le_of_ble_eq_true rfl⟩) ?_
            refine lv_aload_n hx hb dL_holds_316 rfl (lv_at hl 0 rfl) ?_
            refine lv_iload_n hx hb dL_holds_317 rfl (lv_at hl 3 rfl) ?_
            obtain ⟨⟨r318, N318⟩, hc318, hf⟩ := bi_s hf
            rcases r318 with E9 | r318
            · exact absurd hf (fun h => nomatch h)
            have hf := sel_r hf
            have hFc := va_free (wc := (wX8 cI cZ cS f g a (sr M 41 (N 41)))) hD hS hA [0, 1, 2, 3, 4, 5, 6, 7, 8, 9, 10, 11, 12, 13, 14, 15, 16, 17, 18, 19, 20, 21, 22, 23, 24, 25, 26, 27, 28, 29, 30, 31, 32, 33, 34, 35, 36, 37, 38, 39, 40, 41] rfl
            refine va_calli (va_runV (As := [.int l3]) (rest := [.int r313]) ⟨hx, hb, hml, hown, hts⟩ (n_X8_fewestByGoing l dC dI cI cZ cS f g a H.size (sr M 41 (N 41)) l3 r318 N318 hc318) (cwV 1 hts gL_holds_X8_fewestByGoing rfl rfl rfl (by decide +kernel) ⟨Nat.le_of_ble_eq_true rfl, Nat.le_of_ble_eq_true rfl⟩) ⟨WR8.blind, va_recv hK hP (ci := 8) (q0 := 0) rfl rfl, WR8.pre hP hK hD hNW⟩ rfl rfl hl.1 rfl (lv_room (Nat.le_of_ble_eq_true rfl)) dL_holds_318 ⟨Nat.le_of_ble_eq_true rfl, Nat.le_of_ble_eq_true rfl⟩) hS (fun q _ h => hFc q h) hFc (fun rv u t H1 locs ht hvm hw hB hz1 hk1 hS => ?_)
            obtain ⟨hP1, hD1⟩ := hB
            rw [ht] at hP1
            subst hw
            have hP := hP1
            have hD := hD1.weaken (fun k q _ h => hFc q.1 h)
            have hP : va_P (dC, dI) vwCl (wX8 cI cZ cS f g a (sr M 41 (N318 41))) H1 := hP
            have hD : va_D A (wX8 cI cZ cS f g a (sr M 41 (N318 41))) := hD
            generalize H1 = H at hP hS ⊢
            refine lv_icmp_ne (tgt := 333) hx hb dL_holds_321 (by decide) (fun c9 => ?_) (fun c9 => ?_)
            · have hf := it_t hf c9
              exact hkx333 (sr M 41 (N318 41)) hf _ (lv_sub hl [] rfl) _ _ hP hD hS
            · have hf := it_n hf c9
              refine lv_aload_n hx hb dL_holds_324 rfl (lv_at hl 0 rfl) ?_
              refine lv_iload_n hx hb dL_holds_325 rfl (lv_at hl 3 rfl) ?_
              obtain ⟨r326, hc326, hf⟩ := bi_s hf
              rcases r326 with E9 | r326
              · exact absurd hf (fun h => nomatch h)
              have hf := sel_r hf
              refine cRO (W.runV (As := [.int l3]) (rest := []) ⟨hx, hb, hml, hown, hts⟩ (n_X8_fewestByTrying l dC dI cI cZ cS f g a (sr M 41 (N318 41)) l3 r326 hc326) (cwV 1 hts gL_holds_X8_fewestByTrying rfl rfl rfl (by decide +kernel) ⟨Nat.le_of_ble_eq_true rfl, Nat.le_of_ble_eq_true rfl⟩) ⟨RO8.blind, va_recv hK hP (ci := 8) (q0 := 0) rfl rfl, RO8.pre hP hK hNW⟩ rfl rfl hl.1 rfl (lv_room (Nat.le_of_ble_eq_true rfl)) dL_holds_326 ⟨Nat.le_of_ble_eq_true rfl, Nat.le_of_ble_eq_true rfl⟩) ?_
              refine lv_iconst (v := (1 : Int32)) hx hb dL_holds_329 (by decide) ?_
              refine lv_icmp_ge (tgt := 335) hx hb dL_holds_330 (by decide) (fun c9 => ?_) (fun c9 => ?_)
              · have hf := it_t hf c9
                exact hfL_holds_B335 _ (ih kx333 hkx333 kx341 hkx341) _ hkx333 _ hkx341 (sr M 41 (N318 41)) l1 l2 l3 hf _ (lv_sub hl [0, 1, 2, 3] rfl) _ _ hP hD hS
              · have hf := it_f hf c9
                exact hkx333 (sr M 41 (N318 41)) hf _ (lv_sub hl [] rfl) _ _ hP hD hS
  have hfL_holds_B405 : ∀ (N : Mem) (s0 : Int32), fL_holds_B405 M  N s0 = some z → ∀ (ls : Array Slot), lv_has ls 6 [] → ∀ (H : Heap) (locs : List Loc), va_P (dC, dI) vwCl (wX8 cI cZ cS f g a (sr M 41 (N 41))) H → va_D A (wX8 cI cZ cS f g a (sr M 41 (N 41))) → va_S A s.heap H locs → W p l e (headSpec wsL_holds ({ frames := 21, cells := 0, slots := 0, locals := 513 } : Room)).room s m ([.ref (a 0)] : List Value).toArray below meth c H locs 0 0 (MQ below (va_Qi (S := Unit) (fun r _ => r = z.1) (fun _ t => WE (dC, dI) cI cZ (wX8 cI cZ cS f g a (sr M 41 (z.2 41))) A t) A) ([.ref (a 0)] : List Value).toArray s 0 0 A) (F0 m 405 ls [.int s0]) := by
    intro  N s0 hf ls hl H locs hP hD hS
    unfold fL_holds_B405 at hf
    obtain ⟨hz, hf⟩ := gd_s hf
    have e9 := so_e hf
    subst e9
    exact W.zret (v := s0) hx hb hr (isb_nar hz) (fun t ht hW => ⟨⟨s0, (), rfl, rfl, WE.mk hP hD ht⟩, hS.F ht⟩) hS.2.2 dL_holds_405
  have hfL_holds_B404 : ∀ (N : Mem), fL_holds_B404 M  N = some z → ∀ (ls : Array Slot), lv_has ls 6 [] → ∀ (H : Heap) (locs : List Loc), va_P (dC, dI) vwCl (wX8 cI cZ cS f g a (sr M 41 (N 41))) H → va_D A (wX8 cI cZ cS f g a (sr M 41 (N 41))) → va_S A s.heap H locs → W p l e (headSpec wsL_holds ({ frames := 21, cells := 0, slots := 0, locals := 513 } : Room)).room s m ([.ref (a 0)] : List Value).toArray below meth c H locs 0 0 (MQ below (va_Qi (S := Unit) (fun r _ => r = z.1) (fun _ t => WE (dC, dI) cI cZ (wX8 cI cZ cS f g a (sr M 41 (z.2 41))) A t) A) ([.ref (a 0)] : List Value).toArray s 0 0 A) (F0 m 404 ls []) := by
    intro  N hf ls hl H locs hP hD hS
    unfold fL_holds_B404 at hf
    refine lv_iconst (v := (0 : Int32)) hx hb dL_holds_404 (by decide) ?_
    exact hfL_holds_B405  (sr M 41 (N 41)) (0 : Int32) hf _ (lv_sub hl [] rfl) _ _ hP hD hS
  have hl := lv_entry ([.ref (a 0)]) (n := 6) (Nat.le_of_ble_eq_true rfl)
  rw [lg_entry_eq]
  generalize (lg_sl ([.ref (a 0)]) ++ List.replicate (6 - (lg_sl ([.ref (a 0)])).length) Slot.unset).toArray = ls at hl ⊢
  have hl : lv_has ls 6 [(0, .ref (a 0))] := hl
  unfold fL_holds at hf
  suffices hgo : ∀ (H : Heap) (locs : List Loc), va_P (dC, dI) vwCl (wX8 cI cZ cS f g a M) H → va_D A (wX8 cI cZ cS f g a M) → va_S A s.heap H locs → W p l e (headSpec wsL_holds ({ frames := 21, cells := 0, slots := 0, locals := 513 } : Room)).room s m ([.ref (a 0)] : List Value).toArray below meth c H locs 0 0 (MQ below (va_Qi (S := Unit) (fun r _ => r = z.1) (fun _ t => WE (dC, dI) cI cZ (wX8 cI cZ cS f g a (sr M 41 (z.2 41))) A t) A) ([.ref (a 0)] : List Value).toArray s 0 0 A) (F0 m 0 ls []) from hgo _ _ hP hD hS
  intro H locs hP hD hS
  refine lv_iconst (v := (0 : Int32)) hx hb dL_holds_0 (by decide) ?_
  refine lv_istore_n (lv' := [(1, .int (0 : Int32)), (0, .ref (a 0))]) hx hb dL_holds_1 rfl hl (by decide) rfl (fun ls hl => ?_)
  refine lv_iconst (v := (0 : Int32)) hx hb dL_holds_2 (by decide) ?_
  refine lv_istore_n (lv' := [(2, .int (0 : Int32)), (1, .int (0 : Int32)), (0, .ref (a 0))]) hx hb dL_holds_3 rfl hl (by decide) rfl (fun ls hl => ?_)
  refine lv_iconst (v := (0 : Int32)) hx hb dL_holds_4 (by decide) ?_
  refine lv_istore_n (lv' := [(3, .int (0 : Int32)), (2, .int (0 : Int32)), (1, .int (0 : Int32)), (0, .ref (a 0))]) hx hb dL_holds_5 rfl hl (by decide) rfl (fun ls hl => ?_)
  refine hfL_holds_L6 5000 _ (fun N hf ls hl H locs hP hD hS => ?_) _ (fun N hf ls hl H locs hP hD hS => ?_) _ (fun N l1 l2 hf ls hl H locs hP hD hS => ?_) M (0 : Int32) (0 : Int32) (0 : Int32) hf _ (lv_sub hl [3, 2, 1, 0] rfl) _ _ hP hD hS
  · refine lv_iconst (v := (0 : Int32)) hx hb dL_holds_110 (by decide) ?_
    obtain ⟨hz, hf⟩ := gd_s hf
    have e9 := so_e hf
    subst e9
    exact W.zret (v := (0 : Int32)) hx hb hr (isb_nar hz) (fun t ht hW => ⟨⟨(0 : Int32), (), rfl, rfl, WE.mk hP hD ht⟩, hS.F ht⟩) hS.2.2 dL_holds_111
  · refine lv_iconst (v := (0 : Int32)) hx hb dL_holds_169 (by decide) ?_
    obtain ⟨hz, hf⟩ := gd_s hf
    have e9 := so_e hf
    subst e9
    exact W.zret (v := (0 : Int32)) hx hb hr (isb_nar hz) (fun t ht hW => ⟨⟨(0 : Int32), (), rfl, rfl, WE.mk hP hD ht⟩, hS.F ht⟩) hS.2.2 dL_holds_170
  · refine lv_iconst (v := (0 : Int32)) hx hb dL_holds_177 (by decide) ?_
    refine lv_istore_n (lv' := [(3, .int (0 : Int32)), (0, .ref (a 0)), (1, .int l1), (2, .int l2)]) hx hb dL_holds_178 rfl hl (by decide) rfl (fun ls hl => ?_)
    refine hfL_holds_L179 5000 _ (fun N hf ls hl H locs hP hD hS => ?_) _ (fun N l1 l2 hf ls hl H locs hP hD hS => ?_) (sr M 41 (N 41)) l1 l2 (0 : Int32) hf _ (lv_sub hl [1, 2, 3, 0] rfl) _ _ hP hD hS
    · refine lv_iconst (v := (0 : Int32)) hx hb dL_holds_231 (by decide) ?_
      obtain ⟨hz, hf⟩ := gd_s hf
      have e9 := so_e hf
      subst e9
      exact W.zret (v := (0 : Int32)) hx hb hr (isb_nar hz) (fun t ht hW => ⟨⟨(0 : Int32), (), rfl, rfl, WE.mk hP hD ht⟩, hS.F ht⟩) hS.2.2 dL_holds_232
    · refine lv_iconst (v := (0 : Int32)) hx hb dL_holds_239 (by decide) ?_
      refine lv_istore_n (lv' := [(3, .int (0 : Int32)), (0, .ref (a 0)), (1, .int l1), (2, .int l2)]) hx hb dL_holds_240 rfl hl (by decide) rfl (fun ls hl => ?_)
      refine hfL_holds_L241 5000 _ (fun N hf ls hl H locs hP hD hS => ?_) _ (fun N l1 l2 hf ls hl H locs hP hD hS => ?_) (sr M 41 (N 41)) l1 l2 (0 : Int32) hf _ (lv_sub hl [1, 2, 3, 0] rfl) _ _ hP hD hS
      · refine lv_iconst (v := (0 : Int32)) hx hb dL_holds_333 (by decide) ?_
        obtain ⟨hz, hf⟩ := gd_s hf
        have e9 := so_e hf
        subst e9
        exact W.zret (v := (0 : Int32)) hx hb hr (isb_nar hz) (fun t ht hW => ⟨⟨(0 : Int32), (), rfl, rfl, WE.mk hP hD ht⟩, hS.F ht⟩) hS.2.2 dL_holds_334
      · refine lv_iload_n hx hb dL_holds_341 rfl (lv_at hl 2 rfl) ?_
        refine lv_iconst (v := (1 : Int32)) hx hb dL_holds_342 (by decide) ?_
        refine lv_icmp_gt (tgt := 404) hx hb dL_holds_343 (by decide) (fun c9 => ?_) (fun c9 => ?_)
        · have hf := it_t hf c9
          exact hfL_holds_B404  (sr M 41 (N 41)) hf _ (lv_sub hl [] rfl) _ _ hP hD hS
        · have hf := it_f hf c9
          refine lv_aload_n hx hb dL_holds_346 rfl (lv_at hl 0 rfl) ?_
          obtain ⟨r347, hc347, hf⟩ := bi_s hf
          have hPc := hP
          refine cRO (W.runV (As := []) (rest := []) ⟨hx, hb, hml, hown, hts⟩ (c_X8_freeBySlots l dC dI cI cZ cS f g a (sr M 41 (N 41)) r347 hc347) (cwV 0 hts gL_holds_X8_freeBySlots rfl rfl rfl (by decide +kernel) ⟨Nat.le_of_ble_eq_true rfl, Nat.le_of_ble_eq_true rfl⟩) ⟨RO8.blind, va_recv hK hP (ci := 8) (q0 := 0) rfl rfl, RO8.pre hPc hK hNW⟩ rfl rfl hl.1 rfl (lv_room (Nat.le_of_ble_eq_true rfl)) dL_holds_347 ⟨Nat.le_of_ble_eq_true rfl, Nat.le_of_ble_eq_true rfl⟩) ?_
          refine lv_bipush (v := (40 : Int32)) hx hb dL_holds_350 (by decide) ?_
          refine lv_iload_n hx hb dL_holds_352 rfl (lv_at hl 1 rfl) ?_
          refine lv_isub hx hb dL_holds_353 ?_
          refine lv_icmp_ne (tgt := 404) hx hb dL_holds_354 (by decide) (fun c9 => ?_) (fun c9 => ?_)
          · have hf := it_t hf c9
            exact hfL_holds_B404  (sr M 41 (N 41)) hf _ (lv_sub hl [] rfl) _ _ hP hD hS
          · have hf := it_n hf c9
            refine lv_aload_n hx hb dL_holds_357 rfl (lv_at hl 0 rfl) ?_
            obtain ⟨r358, hc358, hf⟩ := bi_s hf
            have hPc := hP
            refine cRO (W.runV (As := []) (rest := []) ⟨hx, hb, hml, hown, hts⟩ (c_X8_freeByHeights l dC dI cI cZ cS f g a (sr M 41 (N 41)) r358 hc358) (cwV 0 hts gL_holds_X8_freeByHeights rfl rfl rfl (by decide +kernel) ⟨Nat.le_of_ble_eq_true rfl, Nat.le_of_ble_eq_true rfl⟩) ⟨RO8.blind, va_recv hK hP (ci := 8) (q0 := 0) rfl rfl, RO8.pre hPc hK hNW⟩ rfl rfl hl.1 rfl (lv_room (Nat.le_of_ble_eq_true rfl)) dL_holds_358 ⟨Nat.le_of_ble_eq_true rfl, Nat.le_of_ble_eq_true rfl⟩) ?_
            refine lv_bipush (v := (40 : Int32)) hx hb dL_holds_361 (by decide) ?_
            refine lv_iload_n hx hb dL_holds_363 rfl (lv_at hl 1 rfl) ?_
            refine lv_isub hx hb dL_holds_364 ?_
            refine lv_icmp_ne (tgt := 404) hx hb dL_holds_365 (by decide) (fun c9 => ?_) (fun c9 => ?_)
            · have hf := it_t hf c9
              exact hfL_holds_B404  (sr M 41 (N 41)) hf _ (lv_sub hl [] rfl) _ _ hP hD hS
            · have hf := it_n hf c9
              refine lv_aload_n hx hb dL_holds_368 rfl (lv_at hl 0 rfl) ?_
              obtain ⟨r369, hc369, hf⟩ := bi_s hf
              have hPc := hP
              refine cRO (W.runV (As := []) (rest := []) ⟨hx, hb, hml, hown, hts⟩ (c_X8_lift l dC dI cI cZ cS f g a (sr M 41 (N 41)) r369 hc369) (cwV 0 hts gL_holds_X8_lift rfl rfl rfl (by decide +kernel) ⟨Nat.le_of_ble_eq_true rfl, Nat.le_of_ble_eq_true rfl⟩) ⟨RO8.blind, va_recv hK hP (ci := 8) (q0 := 0) rfl rfl, RO8.pre hPc hK hNW⟩ rfl rfl hl.1 rfl (lv_room (Nat.le_of_ble_eq_true rfl)) dL_holds_369 ⟨Nat.le_of_ble_eq_true rfl, Nat.le_of_ble_eq_true rfl⟩) ?_
              refine lv_if_lt (tgt := 404) hx hb dL_holds_372 (by decide) (fun c9 => ?_) (fun c9 => ?_)
              · have hf := it_t hf c9
                exact hfL_holds_B404  (sr M 41 (N 41)) hf _ (lv_sub hl [] rfl) _ _ hP hD hS
              · have hf := it_f hf c9
                refine lv_aload_n hx hb dL_holds_375 rfl (lv_at hl 0 rfl) ?_
                obtain ⟨r376, hc376, hf⟩ := bi_s hf
                have hPc := hP
                refine cRO (W.runV (As := []) (rest := []) ⟨hx, hb, hml, hown, hts⟩ (c_X8_lift l dC dI cI cZ cS f g a (sr M 41 (N 41)) r376 hc376) (cwV 0 hts gL_holds_X8_lift rfl rfl rfl (by decide +kernel) ⟨Nat.le_of_ble_eq_true rfl, Nat.le_of_ble_eq_true rfl⟩) ⟨RO8.blind, va_recv hK hP (ci := 8) (q0 := 0) rfl rfl, RO8.pre hPc hK hNW⟩ rfl rfl hl.1 rfl (lv_room (Nat.le_of_ble_eq_true rfl)) dL_holds_376 ⟨Nat.le_of_ble_eq_true rfl, Nat.le_of_ble_eq_true rfl⟩) ?_
                refine lv_bipush (v := (20 : Int32)) hx hb dL_holds_379 (by decide) ?_
                refine lv_icmp_ge (tgt := 404) hx hb dL_holds_381 (by decide) (fun c9 => ?_) (fun c9 => ?_)
                · have hf := it_t hf c9
                  exact hfL_holds_B404  (sr M 41 (N 41)) hf _ (lv_sub hl [] rfl) _ _ hP hD hS
                · have hf := it_f hf c9
                  refine lv_aload_n hx hb dL_holds_384 rfl (lv_at hl 0 rfl) ?_
                  obtain ⟨r385, hc385, hf⟩ := bi_s hf
                  have hPc := hP
                  refine cRO (W.runV (As := []) (rest := []) ⟨hx, hb, hml, hown, hts⟩ (c_X8_trips l dC dI cI cZ cS f g a (sr M 41 (N 41)) r385 hc385) (cwV 0 hts gL_holds_X8_trips rfl rfl rfl (by decide +kernel) ⟨Nat.le_of_ble_eq_true rfl, Nat.le_of_ble_eq_true rfl⟩) ⟨RO8.blind, va_recv hK hP (ci := 8) (q0 := 0) rfl rfl, RO8.pre hPc hK hNW⟩ rfl rfl hl.1 rfl (lv_room (Nat.le_of_ble_eq_true rfl)) dL_holds_385 ⟨Nat.le_of_ble_eq_true rfl, Nat.le_of_ble_eq_true rfl⟩) ?_
                  refine lv_bipush (v := (8 : Int32)) hx hb dL_holds_388 (by decide) ?_
                  refine lv_icmp_gt (tgt := 404) hx hb dL_holds_390 (by decide) (fun c9 => ?_) (fun c9 => ?_)
                  · have hf := it_t hf c9
                    exact hfL_holds_B404  (sr M 41 (N 41)) hf _ (lv_sub hl [] rfl) _ _ hP hD hS
                  · have hf := it_f hf c9
                    refine lv_aload_n hx hb dL_holds_393 rfl (lv_at hl 0 rfl) ?_
                    obtain ⟨r394, hc394, hf⟩ := bi_s hf
                    have hPc := hP
                    refine cRO (W.runV (As := []) (rest := []) ⟨hx, hb, hml, hown, hts⟩ (c_X8_fetches l dC dI cI cZ cS f g a (sr M 41 (N 41)) r394 hc394) (cwV 0 hts gL_holds_X8_fetches rfl rfl rfl (by decide +kernel) ⟨Nat.le_of_ble_eq_true rfl, Nat.le_of_ble_eq_true rfl⟩) ⟨RO8.blind, va_recv hK hP (ci := 8) (q0 := 0) rfl rfl, RO8.pre hPc hK hNW⟩ rfl rfl hl.1 rfl (lv_room (Nat.le_of_ble_eq_true rfl)) dL_holds_394 ⟨Nat.le_of_ble_eq_true rfl, Nat.le_of_ble_eq_true rfl⟩) ?_
                    refine lv_if_lt (tgt := 404) hx hb dL_holds_397 (by decide) (fun c9 => ?_) (fun c9 => ?_)
                    · have hf := it_t hf c9
                      exact hfL_holds_B404  (sr M 41 (N 41)) hf _ (lv_sub hl [] rfl) _ _ hP hD hS
                    · have hf := it_f hf c9
                      refine lv_iconst (v := (1 : Int32)) hx hb dL_holds_400 (by decide) ?_
                      refine lv_goto (tgt := 405) hx hb dL_holds_401 (by decide) ?_
                      exact hfL_holds_B405  (sr M 41 (N 41)) (1 : Int32) hf _ (lv_sub hl [] rfl) _ _ hP hD hS
