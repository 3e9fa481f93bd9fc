/-! Worlds with a tail that a walk does not look at. -/
theorem gl_L {α : Type} {w1 w2 : List α} {k : Nat} {q : α} (h : w1[k]? = some q) : (w1 ++ w2)[k]? = some q := by
  rw [List.getElem?_append_left (List.getElem?_eq_some_iff.mp h).1]; exact h
theorem gl_R {α : Type} {w1 w2 : List α} {k : Nat} {q : α} (h : w2[k]? = some q) : (w1 ++ w2)[w1.length + k]? = some q := by
  rw [List.getElem?_append_right (Nat.le_add_right _ _), Nat.add_sub_cancel_left]; exact h
theorem P_app {D : va_G} {cl : List vw_C} {w1 w2 : va_W} {H : Heap} (h : va_P D cl (w1 ++ w2) H) : va_P D cl w1 H ∧ va_P D cl w2 H :=
  ⟨fun k q hk => h k q (gl_L hk), fun k q hk => h (w1.length + k) q (gl_R hk)⟩
theorem D_split {A : Nat → Prop} {w1 w2 : va_W} (h : va_D A (w1 ++ w2)) : va_D A w1 ∧ va_D A w2 ∧ ∀ (i j : Nat) (p q : Nat × va_E), w1[i]? = some p → w2[j]? = some q → p.1 ≠ q.1 := by
  refine ⟨⟨fun i j p q hi hj e => h.1 i j p q (gl_L hi) (gl_L hj) e, fun k q hk => h.2 k q (gl_L hk)⟩, ⟨fun i j p q hi hj e => ?_, fun k q hk => h.2 _ q (gl_R hk)⟩, fun i j p q hi hj e => ?_⟩
  · have := h.1 _ _ p q (gl_R hi) (gl_R hj) e
    omega
  · have h1 := h.1 _ _ p q (gl_L hi) (gl_R hj) e
    have h2 := (List.getElem?_eq_some_iff.mp hi).1
    omega
theorem at_of {α : Type} {ws wc : List α} {isC : List Nat} (hC : isC.map (fun i => ws[i]?) = wc.map some) {k : Nat} {q : α} (h : wc[k]? = some q) : ∃ i, isC[k]? = some i ∧ ws[i]? = some q := by
  have h1 : (isC.map (fun i => ws[i]?))[k]? = some (some q) := by rw [hC, List.getElem?_map, h]; rfl
  rw [List.getElem?_map] at h1
  cases hi : isC[k]? with
  | none => rw [hi] at h1; cases h1
  | some i => rw [hi] at h1; exact ⟨i, rfl, Option.some.inj h1⟩
/-- behind a call, with a tail beside -/
theorem join_app {A0 : Nat → Prop} {D : va_G} {cl : List vw_C} {ws wc wr w1 RW : va_W} {H H1 : Heap} (hP : va_P D cl (ws ++ RW) H) (hD : va_D A0 (ws ++ RW)) (isC isR : List Nat) (hC : isC.map (fun i => ws[i]?) = wc.map some) (hR : isR.map (fun i => ws[i]?) = wr.map some) (hn : va_nd isR = true) (hdis : ∀ i ∈ isR, i ∉ isC)
    (hk : ∀ q : Nat, q < H.size → ¬ va_A wc H.size q → H1[q]? = H[q]?) (hF : ∀ q, va_A wc H.size q → A0 q) (hP1 : va_P D cl w1 H1) (hD1 : va_D (va_A wc H.size) w1) : va_P D cl ((wr ++ w1) ++ RW) H1 ∧ va_D A0 ((wr ++ w1) ++ RW) := by
  obtain ⟨pa, pb⟩ := P_app hP
  obtain ⟨da, db, dx⟩ := D_split hD
  obtain ⟨jp, jd⟩ := va_join pa da isC isR hC hR hn hdis hk hF hP1 hD1
  have out : ∀ (k : Nat) (q : Nat × va_E), RW[k]? = some q → q.1 < H.size ∧ ¬ va_A wc H.size q.1 := by
    intro k q hq
    refine ⟨(pb k q hq).lt, fun h => ?_⟩
    rcases h with ⟨k2, e, h⟩ | h
    · obtain ⟨i, -, h2⟩ := at_of hC h
      exact dx i k (q.1, e) q h2 hq rfl
    · have := (pb k q hq).lt
      omega
  refine ⟨jp.app (fun k q hq => (pb k q hq).kept (hk q.1 (out k q hq).1 (out k q hq).2)), va_D.app jd db (fun i j x y hx hy e => ?_)⟩
  by_cases hl : i < wr.length
  · rw [List.getElem?_append_left hl] at hx
    obtain ⟨i2, -, h2⟩ := at_of hR hx
    exact dx i2 j x y h2 hy e
  · rw [List.getElem?_append_right (by omega)] at hx
    exact (out j y hy).2 (by rw [← e]; exact hD1.2 _ x hx)
/-- a world in another order, its tail beside -/
theorem P_perm {D : va_G} {cl : List vw_C} {ws ws' RW : va_W} {H : Heap} (hP : va_P D cl (ws ++ RW) H) (is : List Nat) (hs : is.filterMap (fun i => ws[i]?) = ws') : va_P D cl (ws' ++ RW) H := by
  obtain ⟨pa, pb⟩ := P_app hP
  exact (pa.sub is hs).app pb
theorem D_perm {A : Nat → Prop} {ws ws' RW : va_W} (hD : va_D A (ws ++ RW)) (is : List Nat) (hn : va_nd is = true) (hs : is.map (fun i => ws[i]?) = ws'.map some) : va_D A (ws' ++ RW) := by
  obtain ⟨da, db, dx⟩ := D_split hD
  refine va_D.app (da.sub is hn hs) db (fun i j x y hx hy e => ?_)
  obtain ⟨i2, -, h2⟩ := at_of hs hx
  exact dx i2 j x y h2 hy e
/-- the part that a call takes, out of a world with a tail -/
theorem P_head {D : va_G} {cl : List vw_C} {ws ws' RW : va_W} {H : Heap} (hP : va_P D cl (ws ++ RW) H) (is : List Nat) (hs : is.filterMap (fun i => ws[i]?) = ws') : va_P D cl ws' H := (P_app hP).1.sub is hs
theorem D_head {A : Nat → Prop} {ws ws' RW : va_W} (hD : va_D A (ws ++ RW)) (is : List Nat) (hn : va_nd is = true) (hs : is.map (fun i => ws[i]?) = ws'.map some) : va_D A ws' := (D_split hD).1.sub is hn hs
/-! The saved states and the snapshots: rows that may be there or not. -/
abbrev HS : Type := Nat → Option ((Nat → Nat) × Mem)
def rwc (cI cZ : ClassId) (o : Option ((Nat → Nat) × Mem)) : va_W := match o with
  | none => []
  | some q => wX6 cI cZ q.1 q.2
def RWl (cI cZ : ClassId) (l : List (Option ((Nat → Nat) × Mem))) : va_W := l.flatMap (rwc cI cZ)
def hl8 (hs : HS) : List (Option ((Nat → Nat) × Mem)) := [hs 0, hs 1, hs 2, hs 3, hs 4, hs 5, hs 6, hs 7]
def RW (cI cZ : ClassId) (hs : HS) : va_W := RWl cI cZ (hl8 hs)
def fA (hs : HS) : Nat → Option Nat := fun i => (hs i).map (fun q => q.1 0)
def fS (hs : HS) : Nat → Option Nat := fun i => if i < 6 then fA hs i else none
def fG (hs : HS) : Nat → Option Nat := fun i => fA hs (6 + i)
def cts (hs : HS) : Nat → Option Mem := fun i => (hs i).map (fun q => q.2)
def rot {α : Type} (f : Nat → α) : Nat → α := fun i => if i < 5 then f (i + 1) else if i = 5 then f 0 else f i
theorem cts_rot (hs : HS) : cts (rot hs) = rot (cts hs) := by
  funext i
  unfold cts rot
  by_cases h : i < 5
  · simp only [if_pos h]
  · by_cases h2 : i = 5
    · simp only [if_neg h, if_pos h2]
    · simp only [if_neg h, if_neg h2]
theorem cts_up (hs : HS) (k : Nat) (b : Nat → Nat) (N : Mem) : cts (va_up hs k (some (b, N))) = va_up (cts hs) k (some N) := by
  funext i
  unfold cts va_up
  by_cases h : i = k
  · simp only [if_pos h, Option.map_some]
  · simp only [if_neg h]
theorem fS_up (hs : HS) (k : Nat) (hk : k < 6) (b : Nat → Nat) (N : Mem) : fS (va_up hs k (some (b, N))) = va_up (fS hs) k (some (b 0)) := by
  funext i
  unfold fS fA va_up
  by_cases h : i = k
  · subst h
    simp only [if_pos hk, if_true, Option.map_some]
  · simp only [if_neg h]
theorem fG_up (hs : HS) (k : Nat) (b : Nat → Nat) (N : Mem) : fG (va_up hs (6 + k) (some (b, N))) = va_up (fG hs) k (some (b 0)) := by
  funext i
  unfold fG fA va_up
  by_cases h : i = k
  · subst h
    simp only [if_true, Option.map_some]
  · have h2 : ¬ 6 + i = 6 + k := by omega
    simp only [if_neg h, if_neg h2]
theorem fG_up0 (hs : HS) (k : Nat) (hk : k < 6) (x : Option ((Nat → Nat) × Mem)) : fG (va_up hs k x) = fG hs := by
  funext i
  unfold fG fA va_up
  have h2 : ¬ 6 + i = k := by omega
  simp only [if_neg h2]
theorem fS_up0 (hs : HS) (k : Nat) (x : Option ((Nat → Nat) × Mem)) : fS (va_up hs (6 + k) x) = fS hs := by
  funext i
  unfold fS fA va_up
  by_cases h : i < 6
  · have h2 : ¬ i = 6 + k := by omega
    simp only [if_neg h2]
  · simp only [if_neg h]
theorem up_same {β : Type} {f : Nat → β} {k : Nat} {v : β} (h : f k = v) : va_up f k v = f := by
  funext i
  unfold va_up
  by_cases e : i = k
  · subst e
    rw [if_pos rfl, h]
  · rw [if_neg e]
def jn16 {β : Type} (N K : Nat → β) : Nat → β := fun i => bif Nat.blt i 16 then N i else K (i - 16)
theorem P_pm {D : va_G} {cl : List vw_C} {ws ws' : va_W} {H : Heap} (p : ws.Perm ws') (h : va_P D cl ws H) : va_P D cl ws' H := fun k q hk => by
  obtain ⟨j, hj⟩ := List.mem_iff_getElem?.mp (p.mem_iff.mpr (List.mem_of_getElem? hk))
  exact h j q hj
theorem D_nd {A : Nat → Prop} {ws : va_W} : va_D A ws ↔ (ws.map Prod.fst).Nodup ∧ ∀ q ∈ ws, A q.1 := by
  constructor
  · intro h
    refine ⟨?_, fun q hq => ?_⟩
    · rw [List.nodup_iff_pairwise_ne, List.pairwise_iff_getElem]
      intro i j hi hj hij e
      rw [List.getElem_map, List.getElem_map] at e
      rw [List.length_map] at hi hj
      have := h.1 i j _ _ (List.getElem?_eq_getElem hi) (List.getElem?_eq_getElem hj) e
      omega
    · obtain ⟨j, hj⟩ := List.mem_iff_getElem?.mp hq
      exact h.2 j q hj
  · intro h
    have hn := h.1
    rw [List.nodup_iff_pairwise_ne, List.pairwise_iff_getElem] at hn
    have key : ∀ (i j : Nat) (p q : Nat × va_E), ws[i]? = some p → ws[j]? = some q → i < j → p.1 ≠ q.1 := by
      intro i j p q hi hj hij
      obtain ⟨h1, e1⟩ := List.getElem?_eq_some_iff.mp hi
      obtain ⟨h2, e2⟩ := List.getElem?_eq_some_iff.mp hj
      have := hn i j (by rw [List.length_map]; exact h1) (by rw [List.length_map]; exact h2) hij
      rw [List.getElem_map, List.getElem_map, e1, e2] at this
      exact this
    refine ⟨fun i j p q hi hj e => ?_, fun k q hk => h.2 q (List.mem_of_getElem? hk)⟩
    rcases Nat.lt_trichotomy i j with l | l | l
    · exact absurd e (key i j p q hi hj l)
    · exact l
    · exact absurd e.symm (key j i q p hj hi l)
theorem D_pm {A : Nat → Prop} {ws ws' : va_W} (p : ws.Perm ws') (h : va_D A ws) : va_D A ws' := D_nd.mpr ⟨(p.map Prod.fst).nodup_iff.mp (D_nd.mp h).1, fun q hq => (D_nd.mp h).2 q (p.mem_iff.mpr hq)⟩
/-- one row apart -/
theorem RW_split (cI cZ : ClassId) (hs : HS) (c : Nat) (hc : c < 8) : ∃ rest : va_W, (RW cI cZ hs).Perm (rwc cI cZ (hs c) ++ rest) ∧ ∀ x, (RW cI cZ (va_up hs c x)).Perm (rwc cI cZ x ++ rest) := by
  have key : ∀ (l1 l2 : List (Option ((Nat → Nat) × Mem))) (x : Option ((Nat → Nat) × Mem)), (RWl cI cZ (l1 ++ x :: l2)).Perm (rwc cI cZ x ++ RWl cI cZ (l1 ++ l2)) := by
    intro l1 l2 x
    have h := List.Perm.flatMap_right (rwc cI cZ) (List.perm_middle (a := x) (l₁ := l1) (l₂ := l2))
    rw [List.flatMap_cons] at h
    exact h
  have hx : ∃ l1 l2 : List (Option ((Nat → Nat) × Mem)), hl8 hs = l1 ++ hs c :: l2 ∧ ∀ x, hl8 (va_up hs c x) = l1 ++ x :: l2 := by
    rcases (show c = 0 ∨ c = 1 ∨ c = 2 ∨ c = 3 ∨ c = 4 ∨ c = 5 ∨ c = 6 ∨ c = 7 by omega) with rfl | rfl | rfl | rfl | rfl | rfl | rfl | rfl
    · exact ⟨[], [hs 1, hs 2, hs 3, hs 4, hs 5, hs 6, hs 7], rfl, fun x => rfl⟩
    · exact ⟨[hs 0], [hs 2, hs 3, hs 4, hs 5, hs 6, hs 7], rfl, fun x => rfl⟩
    · exact ⟨[hs 0, hs 1], [hs 3, hs 4, hs 5, hs 6, hs 7], rfl, fun x => rfl⟩
    · exact ⟨[hs 0, hs 1, hs 2], [hs 4, hs 5, hs 6, hs 7], rfl, fun x => rfl⟩
    · exact ⟨[hs 0, hs 1, hs 2, hs 3], [hs 5, hs 6, hs 7], rfl, fun x => rfl⟩
    · exact ⟨[hs 0, hs 1, hs 2, hs 3, hs 4], [hs 6, hs 7], rfl, fun x => rfl⟩
    · exact ⟨[hs 0, hs 1, hs 2, hs 3, hs 4, hs 5], [hs 7], rfl, fun x => rfl⟩
    · exact ⟨[hs 0, hs 1, hs 2, hs 3, hs 4, hs 5, hs 6], [], rfl, fun x => rfl⟩
  obtain ⟨l1, l2, e1, e2⟩ := hx
  refine ⟨RWl cI cZ (l1 ++ l2), ?_, fun x => ?_⟩
  · unfold RW
    rw [e1]
    exact key l1 l2 _
  · unfold RW
    rw [e2 x]
    exact key l1 l2 x
theorem RW_rot (cI cZ : ClassId) (hs : HS) : (RW cI cZ hs).Perm (RW cI cZ (rot hs)) := by
  have h : (hl8 hs).Perm (hl8 (rot hs)) := by
    show ([hs 0] ++ [hs 1, hs 2, hs 3, hs 4, hs 5] ++ [hs 6, hs 7]).Perm ([hs 1, hs 2, hs 3, hs 4, hs 5] ++ [hs 0] ++ [hs 6, hs 7])
    exact List.Perm.append_right _ List.perm_append_comm
  exact List.Perm.flatMap_right (rwc cI cZ) h
abbrev wH3 (cS : ClassId) (f g : Nat → Option Nat) (a : Nat → Nat) (M : Mem) : va_W := [(a 0, .inr (1, [.int (M 0 0), .ref (a 1), .ref (a 2)])), (a 1, .inl (cS, 6, .inr (.inr (.inr (.inr f))))), (a 2, .inl (cS, 2, .inr (.inr (.inr (.inr g)))))]
theorem row_at {cI cZ : ClassId} {hs : HS} {w : va_W} {j v : Nat} (hj : j < 8) (h : fA hs j = some v) : ∃ (qk : Nat) (vs : List Value), (w ++ RW cI cZ hs)[qk]? = some (v, .inr (6, vs)) := by
  obtain ⟨rest, hp, -⟩ := RW_split cI cZ hs j hj
  unfold fA at h
  cases hb : hs j with
  | none => rw [hb] at h; cases h
  | some q =>
    rw [hb] at h hp
    have e : q.1 0 = v := Option.some.inj h
    subst e
    have hm : (q.1 0, (.inr (6, [.ref (q.1 1), .ref (q.1 6), .ref (q.1 9), .ref (q.1 14), .int (q.2 0 4)]) : va_E)) ∈ RW cI cZ hs := hp.mem_iff.mpr (List.mem_append_left _ (List.mem_cons_self))
    obtain ⟨k, hk⟩ := List.mem_iff_getElem?.mp hm
    exact ⟨w.length + k, _, by rw [List.getElem?_append_right (Nat.le_add_right _ _), Nat.add_sub_cancel_left]; exact hk⟩
section
variable {p : Program} {l : Launch} {e : Env} {R : Room} {s : State} {m : MethodId} {args : Array Value} {below : List Frame} {meth : Method} {c : Code} {H : Heap} {locs : List Loc} {cells slots : Nat} {Q : State → Prop}
variable {cc : ByteArray} {pc : Nat} {ls : Array Slot} {rest : List Value} {D : va_G} {cl : List vw_C} {A : Nat → Prop} {a : Nat} {tys : List (ClassId × FieldType)} {ws : va_W} {H0 : Heap}
theorem lv_astore_nq (hexec : p.tables.exec = Jvm.exec) (hb : c.code = cc) {k : Fin 4} {i nL : Nat} {o : Option Nat} {lv lv' : List (Nat × Value)} (hdg : decode cc pc = .ok (.astore_n k, 1)) (hi : (k : Nat) = i) (h : lv_has ls nL lv) (hn : i < nL) (hl : (i, va_rf o) :: lv.filter (fun q => !(q.1 == i) && !(q.1 + 1 == i && q.2.category == 2)) = lv')
    (kk : ∀ ls' : Array Slot, lv_has ls' nL lv' → W p l e R s m args below meth c H locs cells slots Q (F0 m (pc + 1) ls' rest)) : W p l e R s m args below meth c H locs cells slots Q (F0 m pc ls (va_rf o :: rest)) := by
  cases o with
  | none => exact lv_astore_nN hexec hb hdg hi h hn hl kk
  | some x => exact lv_astore_n hexec hb hdg hi h hn hl kk
theorem lv_aload_nq (hexec : p.tables.exec = Jvm.exec) (hb : c.code = cc) {k : Fin 4} {i : Nat} {o : Option Nat} (hdg : decode cc pc = .ok (.aload_n k, 1)) (hi : (k : Nat) = i) (hl : ls[i]? = some (.val (va_rf o)))
    (kk : W p l e R s m args below meth c H locs cells slots Q (F0 m (pc + 1) ls (va_rf o :: rest))) : W p l e R s m args below meth c H locs cells slots Q (F0 m pc ls (rest)) := by
  cases o with
  | none => exact lv_aload_nN hexec hb hdg hi hl kk
  | some x => exact lv_aload_n hexec hb hdg hi hl kk
theorem va_astqq (hexec : p.tables.exec = Jvm.exec) (hb : c.code = cc) (hK : va_K D cl tys s) (hP : va_P D cl ws H) (hD : va_D A ws) (hS : va_S A H0 H locs) (q0 t0 ci : Nat) {cA : ClassId} {r : vw_C} {n : Nat} {o : Option Nat} {f : Nat → Option Nat} (ha : ws[q0]? = some (a, .inl (cA, n, .inr (.inr (.inr (.inr f)))))) (ht : tys[t0]? = some (cA, .object r.1)) (hv : ∀ v : Nat, o = some v → ∃ (qk : Nat) (vs : List Value), ws[qk]? = some (v, .inr (ci, vs))) (hc : cl[ci]? = some r) {i : Int32} (hin : vp_in i n) (hdg : decode cc pc = .ok (.aastore, 1)) {k : Nat} (hk : i.toNatClampNeg = k)
    (kk : ∀ (H1 : Heap) (locs1 : List Loc), va_P D cl (ws.set q0 (a, .inl (cA, n, .inr (.inr (.inr (.inr (va_up f k o))))))) H1 → va_D A (ws.set q0 (a, .inl (cA, n, .inr (.inr (.inr (.inr (va_up f k o))))))) → va_S A H0 H1 locs1 → W p l e R s m args below meth c H1 locs1 cells slots Q (F0 m (pc + 1) ls rest)) : W p l e R s m args below meth c H locs cells slots Q (F0 m pc ls (va_rf o :: .int i :: .ref a :: rest)) := by
  subst hk
  cases o with
  | none => exact va_astqN hexec hb hK hP hD hS q0 t0 ha ht hin hdg kk
  | some v =>
    obtain ⟨qk, vs, h⟩ := hv v rfl
    exact va_astq hexec hb hK hP hD hS q0 t0 qk ci ha ht h hc hin hdg kk
theorem va_aldqq (hexec : p.tables.exec = Jvm.exec) (hb : c.code = cc) (hK : va_K D cl tys s) (hP : va_P D cl ws H) (q0 t0 : Nat) {cA : ClassId} {C : String} {n : Nat} {f : Nat → Option Nat} (ha : ws[q0]? = some (a, .inl (cA, n, .inr (.inr (.inr (.inr f)))))) (ht : tys[t0]? = some (cA, .object C)) {i : Int32} (hin : vp_in i n) (hdg : decode cc pc = .ok (.aaload, 1)) {o : Option Nat} (ho : f i.toNatClampNeg = o)
    (kk : W p l e R s m args below meth c H locs cells slots Q (F0 m (pc + 1) ls (va_rf o :: rest))) : W p l e R s m args below meth c H locs cells slots Q (F0 m pc ls (.int i :: .ref a :: rest)) := by
  subst ho
  exact va_aldq hexec hb hK hP q0 t0 ha ht hin hdg kk
end
abbrev wX1s (cI cZ cS : ClassId) (f g : Nat → Option Nat) (a : Nat → Nat) (M : Mem) : va_W := [(a 0, .inr (1, [.int (M 0 0), .ref (a 1), .ref (a 2)])), (a 1, .inl (cS, 6, .inr (.inr (.inr (.inr f))))), (a 2, .inl (cS, 2, .inr (.inr (.inr (.inr g))))), (a 3, .inr (6, [.ref (a 4), .ref (a 9), .ref (a 12), .ref (a 17), .int (M 3 4)])), (a 4, .inr (7, [.int (M 4 0), .int (M 4 1), .ref (a 5), .ref (a 6), .ref (a 7), .ref (a 8)])), (a 5, .inl (cI, 12, .inl (M 5))), (a 6, .inl (cI, 12, .inl (M 6))), (a 7, .inl (cI, 12, .inl (M 7))), (a 8, .inl (cI, 120, .inl (M 8))), (a 9, .inr (2, [.int (M 9 0), .int (M 9 1), .int (M 9 2), .int (M 9 3), .int (M 9 4), .ref (a 10), .ref (a 11)])), (a 10, .inl (cI, 8, .inl (M 10))), (a 11, .inl (cZ, 8, .inl (M 11))), (a 12, .inr (0, [.ref (a 13), .ref (a 14), .ref (a 15), .ref (a 16)])), (a 13, .inl (cI, 10, .inl (M 13))), (a 14, .inl (cI, 10, .inl (M 14))), (a 15, .inl (cI, 10, .inl (M 15))), (a 16, .inl (cI, 10, .inl (M 16))), (a 17, .inr (3, [.int (M 17 0), .ref (a 18)])), (a 18, .inl (cI, 80, .inl (M 18)))]
def hold (o : Option Mem) : Option Mem := match o with
  | none => fX6_init
  | some N => some N
def fX1_put (C : Nat → Option Mem) (M : Mem) : Option (Mem × (Nat → Option Mem)) := gd (inb (M 0 0) 6) ((hold (C (M 0 0).toNatClampNeg)).bind fun N => (fX6_copyFrom (jn16 N (ofs 3 M))).bind fun r => some (sr M 0 (upd (M 0) 0 (M 0 0 + 1)), va_up C (M 0 0).toNatClampNeg (some r)))
def fX1_save (C : Nat → Option Mem) (M : Mem) : Option (Mem × (Nat → Option Mem)) := if M 0 0 < 6 then fX1_put C M else fX1_put (rot C) (sr M 0 (upd (M 0) 0 5))
def fX1_takeSnapshot (C : Nat → Option Mem) (M : Mem) (a1 : Int32) : Option (Nat → Option Mem) := gd (inb a1 2) ((hold (C (6 + a1.toNatClampNeg))).bind fun N => (fX6_copyFrom (jn16 N (ofs 3 M))).bind fun r => some (va_up C (6 + a1.toNatClampNeg) (some r)))
def jn3 (M r : Mem) : Mem := fun j => bif Nat.beq j 0 then upd (M 0) 0 (M 0 0 - 1) else bif Nat.blt j 3 then M j else r (j - 3)
def fX1_restoreLatest (C : Nat → Option Mem) (M : Mem) : Option (Int32 × Mem) := if M 0 0 ≤ 0 then some (0, M) else if M 0 0 ≤ 6 then gd (inb (M 0 0 - 1) 6) (match C (M 0 0 - 1).toNatClampNeg with
  | none => some (0, M)
  | some N => (fX6_copyFrom (jn16 (ofs 3 M) N)).bind fun r => some (1, jn3 M r)) else some (0, M)
set_option maxHeartbeats 4000000 in
set_option maxRecDepth 100000 in
theorem c_X1_dropOldest (l : Launch) (dC : Nat → ClassId) (dI : Nat → Nat → Nat) (cI cZ cS : ClassId) (hs : HS) (a : Nat → Nat) (sz : Nat) (M : Mem) : Met l yX1_dropOldest wsX1_dropOldest ({ frames := 0, cells := 0, slots := 0, locals := 0 } : Room) (va_Pc [.ref (a 0)] (WR8 (dC, dI) cI cZ cS (wH3 cS (fS hs) (fG hs) a M ++ RW cI cZ hs) sz)) (va_Qv (S := Unit) (fun _ => True) (fun _ t => WE (dC, dI) cI cZ (wH3 cS (fS (rot hs)) (fG (rot hs)) a (sr M 0 (upd (M 0) 0 (5 : Int32))) ++ RW cI cZ (rot hs)) (va_A (wH3 cS (fS hs) (fG hs) a M ++ RW cI cZ hs) sz) t) (va_A (wH3 cS (fS hs) (fG hs) a M ++ RW cI cZ hs) sz)) 0 0 (va_A (wH3 cS (fS hs) (fG hs) a M ++ RW cI cZ hs) sz) := by
  refine Met.ofW (cc := cX1_dropOldest) (maxL := 3) (ret := none) (by decide) rfl ?_
  intro p e s m args below meth c s₁ B hml hv
  obtain ⟨rfl, hsz, hP, hK, hD0, hNW⟩ := hv
  have hK2 : va_K (dC, dI) vwCl [(cI, .int), (cZ, .boolean)] s := hK.sub (tys' := [(cI, .int), (cZ, .boolean)]) [0, 1] rfl
  have hx := B.exec
  have hb := B.bytes
  have hr := B.returns
  have hts := atoms_spec (ws := wsX1_dropOldest) B.pre
  have hown : s.vm.findClass RX1 = some m.cls := findClass_of_methodNamed B.named
  have hlocks := B.notSynchronized
  have hinX1 : ∀ w ∈ u_ws RX1 TX1 3, w ∈ wsX1_dropOldest := by decide +kernel
  have hw_count := hts (.fieldLink RX1 9 "GlideShelves$History" "count" "I") (by decide +kernel)
  have hw_saved := hts (.fieldLink RX1 17 "GlideShelves$History" "saved" "[LGlideShelves$State;") (by decide +kernel)
  subst hsz
  have hD := hD0.self (sz := s.heap.size)
  generalize hAe : va_A (wH3 cS (fS hs) (fG hs) a M ++ RW cI cZ hs) s.heap.size = A at hD ⊢
  have hA : ∀ q : Nat, s.heap.size ≤ q → A q := fun q h => by rw [← hAe]; exact Or.inr h
  have hS : va_S A s.heap s.heap [] := va_S.rf
  have hl := lv_entry ([.ref (a 0)]) (n := 3) (Nat.le_of_ble_eq_true rfl)
  rw [lg_entry_eq]
  generalize (lg_sl ([.ref (a 0)]) ++ List.replicate (3 - (lg_sl ([.ref (a 0)])).length) Slot.unset).toArray = ls at hl ⊢
  suffices hgo : ∀ (H : Heap) (locs : List Loc), va_P (dC, dI) vwCl (wH3 cS (fS hs) (fG hs) a M ++ RW cI cZ hs) H → va_D A (wH3 cS (fS hs) (fG hs) a M ++ RW cI cZ hs) → va_S A s.heap H locs → W p l e (headSpec wsX1_dropOldest ({ frames := 0, cells := 0, slots := 0, locals := 0 } : Room)).room s m ([.ref (a 0)] : List Value).toArray below meth c H locs 0 0 (MQ below (va_Qv (S := Unit) (fun _ => True) (fun _ t => WE (dC, dI) cI cZ (wH3 cS (fS (rot hs)) (fG (rot hs)) a (sr M 0 (upd (M 0) 0 (5 : Int32))) ++ RW cI cZ (rot hs)) A t) A) ([.ref (a 0)] : List Value).toArray s 0 0 A) (F0 m 0 ls []) from hgo _ _ hP hD hS
  intro H locs hP hD hS
  have hl : lv_has ls 3 [(0, .ref (a 0))] := hl
  refine lv_aload_n hx hb dX1_dropOldest_0 rfl (lv_at hl 0 rfl) ?_
  refine va_get (D := (dC, dI)) (ci := 1) (v := .ref (a 1)) (C := RX1) (T := TX1) (N := 3) hx hb hts hinX1 hown hK hP 0 rfl rfl 1 (by decide) hw_saved (fun _ h9 => h9) rfl dX1_dropOldest_1 ?_
  refine lv_iconst (v := (0 : Int32)) hx hb dX1_dropOldest_4 (by decide) ?_
  refine va_aldqq (D := (dC, dI)) (f := fS hs) (C := "GlideShelves$State") (o := fA hs 0) hx hb hK hP 1 2 rfl rfl (inb_in rfl) dX1_dropOldest_5 rfl ?_
  refine lv_astore_nq (lv' := [(1, va_rf (fA hs 0)), (0, .ref (a 0))]) hx hb dX1_dropOldest_6 rfl hl (by decide) rfl (fun ls hl => ?_)
  refine lv_iconst (v := (1 : Int32)) hx hb dX1_dropOldest_7 (by decide) ?_
  refine lv_istore_n (lv' := [(2, .int (1 : Int32)), (1, va_rf (fA hs 0)), (0, .ref (a 0))]) hx hb dX1_dropOldest_8 rfl hl (by decide) (by cases fA hs 0 <;> rfl) (fun ls hl => ?_)
  refine lv_iload_n hx hb dX1_dropOldest_9 rfl (lv_at hl 0 rfl) ?_
  refine lv_bipush (v := (6 : Int32)) hx hb dX1_dropOldest_10 (by decide) ?_
  refine lv_icmp_ge (tgt := 35) hx hb dX1_dropOldest_12 (by decide) (fun c9 => absurd c9 (by decide)) (fun c9 => ?_)
  refine lv_aload_n hx hb dX1_dropOldest_15 rfl (lv_at hl 2 rfl) ?_
  refine va_get (D := (dC, dI)) (ci := 1) (v := .ref (a 1)) (C := RX1) (T := TX1) (N := 3) hx hb hts hinX1 hown hK hP 0 rfl rfl 1 (by decide) hw_saved (fun _ h9 => h9) rfl dX1_dropOldest_16 ?_
  refine lv_iload_n hx hb dX1_dropOldest_19 rfl (lv_at hl 0 rfl) ?_
  refine lv_iconst (v := (1 : Int32)) hx hb dX1_dropOldest_20 (by decide) ?_
  refine lv_isub hx hb dX1_dropOldest_21 ?_
  refine lv_aload_n hx hb dX1_dropOldest_22 rfl (lv_at hl 2 rfl) ?_
  refine va_get (D := (dC, dI)) (ci := 1) (v := .ref (a 1)) (C := RX1) (T := TX1) (N := 3) hx hb hts hinX1 hown hK hP 0 rfl rfl 1 (by decide) hw_saved (fun _ h9 => h9) rfl dX1_dropOldest_23 ?_
  refine lv_iload_n hx hb dX1_dropOldest_26 rfl (lv_at hl 0 rfl) ?_
  refine va_aldqq (D := (dC, dI)) (f := (fS hs)) (C := "GlideShelves$State") (o := fA hs 1) hx hb hK hP 1 2 rfl rfl (inb_in (by decide)) dX1_dropOldest_27 (by rw [show (1 : Int32).toNatClampNeg = 1 from by decide] <;> rfl) ?_
  refine va_astqq (D := (dC, dI)) (r := (RX6, TX6, 5)) (f := (fS hs)) hx hb hK hP hD hS 1 2 6 rfl rfl (fun v h => row_at (j := 1) (by decide) h) rfl (inb_in (by decide)) dX1_dropOldest_28 (k := 0) (by decide) (fun H locs hP hD hS => ?_)
  have hP : va_P (dC, dI) vwCl (wH3 cS (va_up (fS hs) 0 (fA hs 1)) (fG hs) a M ++ RW cI cZ hs) H := hP
  have hD : va_D A (wH3 cS (va_up (fS hs) 0 (fA hs 1)) (fG hs) a M ++ RW cI cZ hs) := hD
  refine lv_iinc (v := (2 : Int32)) (lv' := [(2, .int (2 : Int32)), (1, va_rf (fA hs 0)), (0, .ref (a 0))]) hx hb dX1_dropOldest_29 hl (k := 0) rfl (by decide) (by decide) (by cases fA hs 0 <;> rfl) (fun ls hl => ?_)
  refine lv_goto (tgt := 9) hx hb dX1_dropOldest_32 (by decide) ?_
  refine lv_iload_n hx hb dX1_dropOldest_9 rfl (lv_at hl 0 rfl) ?_
  refine lv_bipush (v := (6 : Int32)) hx hb dX1_dropOldest_10 (by decide) ?_
  refine lv_icmp_ge (tgt := 35) hx hb dX1_dropOldest_12 (by decide) (fun c9 => absurd c9 (by decide)) (fun c9 => ?_)
  refine lv_aload_n hx hb dX1_dropOldest_15 rfl (lv_at hl 2 rfl) ?_
  refine va_get (D := (dC, dI)) (ci := 1) (v := .ref (a 1)) (C := RX1) (T := TX1) (N := 3) hx hb hts hinX1 hown hK hP 0 rfl rfl 1 (by decide) hw_saved (fun _ h9 => h9) rfl dX1_dropOldest_16 ?_
  refine lv_iload_n hx hb dX1_dropOldest_19 rfl (lv_at hl 0 rfl) ?_
  refine lv_iconst (v := (1 : Int32)) hx hb dX1_dropOldest_20 (by decide) ?_
  refine lv_isub hx hb dX1_dropOldest_21 ?_
  refine lv_aload_n hx hb dX1_dropOldest_22 rfl (lv_at hl 2 rfl) ?_
  refine va_get (D := (dC, dI)) (ci := 1) (v := .ref (a 1)) (C := RX1) (T := TX1) (N := 3) hx hb hts hinX1 hown hK hP 0 rfl rfl 1 (by decide) hw_saved (fun _ h9 => h9) rfl dX1_dropOldest_23 ?_
  refine lv_iload_n hx hb dX1_dropOldest_26 rfl (lv_at hl 0 rfl) ?_
  refine va_aldqq (D := (dC, dI)) (f := (va_up (fS hs) 0 (fA hs 1))) (C := "GlideShelves$State") (o := fA hs 2) hx hb hK hP 1 2 rfl rfl (inb_in (by decide)) dX1_dropOldest_27 (by rw [show (2 : Int32).toNatClampNeg = 2 from by decide] <;> rfl) ?_
  refine va_astqq (D := (dC, dI)) (r := (RX6, TX6, 5)) (f := (va_up (fS hs) 0 (fA hs 1))) hx hb hK hP hD hS 1 2 6 rfl rfl (fun v h => row_at (j := 2) (by decide) h) rfl (inb_in (by decide)) dX1_dropOldest_28 (k := 1) (by decide) (fun H locs hP hD hS => ?_)
  have hP : va_P (dC, dI) vwCl (wH3 cS (va_up (va_up (fS hs) 0 (fA hs 1)) 1 (fA hs 2)) (fG hs) a M ++ RW cI cZ hs) H := hP
  have hD : va_D A (wH3 cS (va_up (va_up (fS hs) 0 (fA hs 1)) 1 (fA hs 2)) (fG hs) a M ++ RW cI cZ hs) := hD
  refine lv_iinc (v := (3 : Int32)) (lv' := [(2, .int (3 : Int32)), (1, va_rf (fA hs 0)), (0, .ref (a 0))]) hx hb dX1_dropOldest_29 hl (k := 0) rfl (by decide) (by decide) (by cases fA hs 0 <;> rfl) (fun ls hl => ?_)
  refine lv_goto (tgt := 9) hx hb dX1_dropOldest_32 (by decide) ?_
  refine lv_iload_n hx hb dX1_dropOldest_9 rfl (lv_at hl 0 rfl) ?_
  refine lv_bipush (v := (6 : Int32)) hx hb dX1_dropOldest_10 (by decide) ?_
  refine lv_icmp_ge (tgt := 35) hx hb dX1_dropOldest_12 (by decide) (fun c9 => absurd c9 (by decide)) (fun c9 => ?_)
  refine lv_aload_n hx hb dX1_dropOldest_15 rfl (lv_at hl 2 rfl) ?_
  refine va_get (D := (dC, dI)) (ci := 1) (v := .ref (a 1)) (C := RX1) (T := TX1) (N := 3) hx hb hts hinX1 hown hK hP 0 rfl rfl 1 (by decide) hw_saved (fun _ h9 => h9) rfl dX1_dropOldest_16 ?_
  refine lv_iload_n hx hb dX1_dropOldest_19 rfl (lv_at hl 0 rfl) ?_
  refine lv_iconst (v := (1 : Int32)) hx hb dX1_dropOldest_20 (by decide) ?_
  refine lv_isub hx hb dX1_dropOldest_21 ?_
  refine lv_aload_n hx hb dX1_dropOldest_22 rfl (lv_at hl 2 rfl) ?_
  refine va_get (D := (dC, dI)) (ci := 1) (v := .ref (a 1)) (C := RX1) (T := TX1) (N := 3) hx hb hts hinX1 hown hK hP 0 rfl rfl 1 (by decide) hw_saved (fun _ h9 => h9) rfl dX1_dropOldest_23 ?_
  refine lv_iload_n hx hb dX1_dropOldest_26 rfl (lv_at hl 0 rfl) ?_
  refine va_aldqq (D := (dC, dI)) (f := (va_up (va_up (fS hs) 0 (fA hs 1)) 1 (fA hs 2))) (C := "GlideShelves$State") (o := fA hs 3) hx hb hK hP 1 2 rfl rfl (inb_in (by decide)) dX1_dropOldest_27 (by rw [show (3 : Int32).toNatClampNeg = 3 from by decide] <;> rfl) ?_
  refine va_astqq (D := (dC, dI)) (r := (RX6, TX6, 5)) (f := (va_up (va_up (fS hs) 0 (fA hs 1)) 1 (fA hs 2))) hx hb hK hP hD hS 1 2 6 rfl rfl (fun v h => row_at (j := 3) (by decide) h) rfl (inb_in (by decide)) dX1_dropOldest_28 (k := 2) (by decide) (fun H locs hP hD hS => ?_)
  have hP : va_P (dC, dI) vwCl (wH3 cS (va_up (va_up (va_up (fS hs) 0 (fA hs 1)) 1 (fA hs 2)) 2 (fA hs 3)) (fG hs) a M ++ RW cI cZ hs) H := hP
  have hD : va_D A (wH3 cS (va_up (va_up (va_up (fS hs) 0 (fA hs 1)) 1 (fA hs 2)) 2 (fA hs 3)) (fG hs) a M ++ RW cI cZ hs) := hD
  refine lv_iinc (v := (4 : Int32)) (lv' := [(2, .int (4 : Int32)), (1, va_rf (fA hs 0)), (0, .ref (a 0))]) hx hb dX1_dropOldest_29 hl (k := 0) rfl (by decide) (by decide) (by cases fA hs 0 <;> rfl) (fun ls hl => ?_)
  refine lv_goto (tgt := 9) hx hb dX1_dropOldest_32 (by decide) ?_
  refine lv_iload_n hx hb dX1_dropOldest_9 rfl (lv_at hl 0 rfl) ?_
  refine lv_bipush (v := (6 : Int32)) hx hb dX1_dropOldest_10 (by decide) ?_
  refine lv_icmp_ge (tgt := 35) hx hb dX1_dropOldest_12 (by decide) (fun c9 => absurd c9 (by decide)) (fun c9 => ?_)
  refine lv_aload_n hx hb dX1_dropOldest_15 rfl (lv_at hl 2 rfl) ?_
  refine va_get (D := (dC, dI)) (ci := 1) (v := .ref (a 1)) (C := RX1) (T := TX1) (N := 3) hx hb hts hinX1 hown hK hP 0 rfl rfl 1 (by decide) hw_saved (fun _ h9 => h9) rfl dX1_dropOldest_16 ?_
  refine lv_iload_n hx hb dX1_dropOldest_19 rfl (lv_at hl 0 rfl) ?_
  refine lv_iconst (v := (1 : Int32)) hx hb dX1_dropOldest_20 (by decide) ?_
  refine lv_isub hx hb dX1_dropOldest_21 ?_
  refine lv_aload_n hx hb dX1_dropOldest_22 rfl (lv_at hl 2 rfl) ?_
  refine va_get (D := (dC, dI)) (ci := 1) (v := .ref (a 1)) (C := RX1) (T := TX1) (N := 3) hx hb hts hinX1 hown hK hP 0 rfl rfl 1 (by decide) hw_saved (fun _ h9 => h9) rfl dX1_dropOldest_23 ?_
  refine lv_iload_n hx hb dX1_dropOldest_26 rfl (lv_at hl 0 rfl) ?_
  refine va_aldqq (D := (dC, dI)) (f := (va_up (va_up (va_up (fS hs) 0 (fA hs 1)) 1 (fA hs 2)) 2 (fA hs 3))) (C := "GlideShelves$State") (o := fA hs 4) hx hb hK hP 1 2 rfl rfl (inb_in (by decide)) dX1_dropOldest_27 (by rw [show (4 : Int32).toNatClampNeg = 4 from by decide] <;> rfl) ?_
  refine va_astqq (D := (dC, dI)) (r := (RX6, TX6, 5)) (f := (va_up (va_up (va_up (fS hs) 0 (fA hs 1)) 1 (fA hs 2)) 2 (fA hs 3))) hx hb hK hP hD hS 1 2 6 rfl rfl (fun v h => row_at (j := 4) (by decide) h) rfl (inb_in (by decide)) dX1_dropOldest_28 (k := 3) (by decide) (fun H locs hP hD hS => ?_)
  have hP : va_P (dC, dI) vwCl (wH3 cS (va_up (va_up (va_up (va_up (fS hs) 0 (fA hs 1)) 1 (fA hs 2)) 2 (fA hs 3)) 3 (fA hs 4)) (fG hs) a M ++ RW cI cZ hs) H := hP
  have hD : va_D A (wH3 cS (va_up (va_up (va_up (va_up (fS hs) 0 (fA hs 1)) 1 (fA hs 2)) 2 (fA hs 3)) 3 (fA hs 4)) (fG hs) a M ++ RW cI cZ hs) := hD
  refine lv_iinc (v := (5 : Int32)) (lv' := [(2, .int (5 : Int32)), (1, va_rf (fA hs 0)), (0, .ref (a 0))]) hx hb dX1_dropOldest_29 hl (k := 0) rfl (by decide) (by decide) (by cases fA hs 0 <;> rfl) (fun ls hl => ?_)
  refine lv_goto (tgt := 9) hx hb dX1_dropOldest_32 (by decide) ?_
  refine lv_iload_n hx hb dX1_dropOldest_9 rfl (lv_at hl 0 rfl) ?_
  refine lv_bipush (v := (6 : Int32)) hx hb dX1_dropOldest_10 (by decide) ?_
  refine lv_icmp_ge (tgt := 35) hx hb dX1_dropOldest_12 (by decide) (fun c9 => absurd c9 (by decide)) (fun c9 => ?_)
  refine lv_aload_n hx hb dX1_dropOldest_15 rfl (lv_at hl 2 rfl) ?_
  refine va_get (D := (dC, dI)) (ci := 1) (v := .ref (a 1)) (C := RX1) (T := TX1) (N := 3) hx hb hts hinX1 hown hK hP 0 rfl rfl 1 (by decide) hw_saved (fun _ h9 => h9) rfl dX1_dropOldest_16 ?_
  refine lv_iload_n hx hb dX1_dropOldest_19 rfl (lv_at hl 0 rfl) ?_
  refine lv_iconst (v := (1 : Int32)) hx hb dX1_dropOldest_20 (by decide) ?_
  refine lv_isub hx hb dX1_dropOldest_21 ?_
  refine lv_aload_n hx hb dX1_dropOldest_22 rfl (lv_at hl 2 rfl) ?_
  refine va_get (D := (dC, dI)) (ci := 1) (v := .ref (a 1)) (C := RX1) (T := TX1) (N := 3) hx hb hts hinX1 hown hK hP 0 rfl rfl 1 (by decide) hw_saved (fun _ h9 => h9) rfl dX1_dropOldest_23 ?_
  refine lv_iload_n hx hb dX1_dropOldest_26 rfl (lv_at hl 0 rfl) ?_
  refine va_aldqq (D := (dC, dI)) (f := (va_up (va_up (va_up (va_up (fS hs) 0 (fA hs 1)) 1 (fA hs 2)) 2 (fA hs 3)) 3 (fA hs 4))) (C := "GlideShelves$State") (o := fA hs 5) hx hb hK hP 1 2 rfl rfl (inb_in (by decide)) dX1_dropOldest_27 (by rw [show (5 : Int32).toNatClampNeg = 5 from by decide] <;> rfl) ?_
  refine va_astqq (D := (dC, dI)) (r := (RX6, TX6, 5)) (f := (va_up (va_up (va_up (va_up (fS hs) 0 (fA hs 1)) 1 (fA hs 2)) 2 (fA hs 3)) 3 (fA hs 4))) hx hb hK hP hD hS 1 2 6 rfl rfl (fun v h => row_at (j := 5) (by decide) h) rfl (inb_in (by decide)) dX1_dropOldest_28 (k := 4) (by decide) (fun H locs hP hD hS => ?_)
  have hP : va_P (dC, dI) vwCl (wH3 cS (va_up (va_up (va_up (va_up (va_up (fS hs) 0 (fA hs 1)) 1 (fA hs 2)) 2 (fA hs 3)) 3 (fA hs 4)) 4 (fA hs 5)) (fG hs) a M ++ RW cI cZ hs) H := hP
  have hD : va_D A (wH3 cS (va_up (va_up (va_up (va_up (va_up (fS hs) 0 (fA hs 1)) 1 (fA hs 2)) 2 (fA hs 3)) 3 (fA hs 4)) 4 (fA hs 5)) (fG hs) a M ++ RW cI cZ hs) := hD
  refine lv_iinc (v := (6 : Int32)) (lv' := [(2, .int (6 : Int32)), (1, va_rf (fA hs 0)), (0, .ref (a 0))]) hx hb dX1_dropOldest_29 hl (k := 0) rfl (by decide) (by decide) (by cases fA hs 0 <;> rfl) (fun ls hl => ?_)
  refine lv_goto (tgt := 9) hx hb dX1_dropOldest_32 (by decide) ?_
  refine lv_iload_n hx hb dX1_dropOldest_9 rfl (lv_at hl 0 rfl) ?_
  refine lv_bipush (v := (6 : Int32)) hx hb dX1_dropOldest_10 (by decide) ?_
  refine lv_icmp_ge (tgt := 35) hx hb dX1_dropOldest_12 (by decide) (fun c9 => ?_) (fun c9 => absurd (show (6 : Int32) ≤ 6 by decide) c9)
  refine lv_aload_n hx hb dX1_dropOldest_35 rfl (lv_at hl 2 rfl) ?_
  refine va_get (D := (dC, dI)) (ci := 1) (v := .ref (a 1)) (C := RX1) (T := TX1) (N := 3) hx hb hts hinX1 hown hK hP 0 rfl rfl 1 (by decide) hw_saved (fun _ h9 => h9) rfl dX1_dropOldest_36 ?_
  refine lv_iconst (v := (5 : Int32)) hx hb dX1_dropOldest_39 (by decide) ?_
  refine lv_aload_nq hx hb dX1_dropOldest_40 rfl (lv_at hl 1 rfl) ?_
  refine va_astqq (D := (dC, dI)) (r := (RX6, TX6, 5)) (f := (va_up (va_up (va_up (va_up (va_up (fS hs) 0 (fA hs 1)) 1 (fA hs 2)) 2 (fA hs 3)) 3 (fA hs 4)) 4 (fA hs 5))) hx hb hK hP hD hS 1 2 6 rfl rfl (fun v h => row_at (j := 0) (by decide) h) rfl (inb_in (by decide)) dX1_dropOldest_41 (k := 5) (by decide) (fun H locs hP hD hS => ?_)
  have eF : (va_up (va_up (va_up (va_up (va_up (va_up (fS hs) 0 (fA hs 1)) 1 (fA hs 2)) 2 (fA hs 3)) 3 (fA hs 4)) 4 (fA hs 5)) 5 (fA hs 0)) = fS (rot hs) := by
    funext i
    rcases (show i = 0 ∨ i = 1 ∨ i = 2 ∨ i = 3 ∨ i = 4 ∨ i = 5 ∨ 6 ≤ i by omega) with rfl | rfl | rfl | rfl | rfl | rfl | h6
    · rfl
    · rfl
    · rfl
    · rfl
    · rfl
    · rfl
    · unfold va_up fS
      rw [if_neg (by omega), if_neg (by omega), if_neg (by omega), if_neg (by omega), if_neg (by omega), if_neg (by omega), if_neg (by omega), if_neg (by omega)]
  have eG : fG hs = fG (rot hs) := by
    funext i
    unfold fG fA rot
    rw [if_neg (by omega), if_neg (by omega)]
  have hP : va_P (dC, dI) vwCl (wH3 cS (va_up (va_up (va_up (va_up (va_up (va_up (fS hs) 0 (fA hs 1)) 1 (fA hs 2)) 2 (fA hs 3)) 3 (fA hs 4)) 4 (fA hs 5)) 5 (fA hs 0)) (fG hs) a M ++ RW cI cZ hs) H := hP
  have hD : va_D A (wH3 cS (va_up (va_up (va_up (va_up (va_up (va_up (fS hs) 0 (fA hs 1)) 1 (fA hs 2)) 2 (fA hs 3)) 3 (fA hs 4)) 4 (fA hs 5)) 5 (fA hs 0)) (fG hs) a M ++ RW cI cZ hs) := hD
  rw [eF, eG] at hP hD
  have hP := P_pm (List.Perm.append_left _ (RW_rot cI cZ hs)) hP
  have hD := D_pm (List.Perm.append_left _ (RW_rot cI cZ hs)) hD
  refine lv_aload_n hx hb dX1_dropOldest_42 rfl (lv_at hl 2 rfl) ?_
  refine lv_iconst (v := (5 : Int32)) hx hb dX1_dropOldest_43 (by decide) ?_
  refine va_put (D := (dC, dI)) (ci := 1) (v := .int (5 : Int32)) (ty := .int) (C := RX1) (T := TX1) (N := 3) hx hb hts hinX1 tyX1 tyX1_ok nmX1 hown hK hP hD hS 0 rfl rfl 0 (by decide) hw_count (fun _ h9 => h9) rfl (by decide +kernel) rfl rfl (Nat.le_of_ble_eq_true rfl) dX1_dropOldest_44 (fun H locs hP hD hS => ?_)
  have hP : va_P (dC, dI) vwCl (wH3 cS (fS (rot hs)) (fG (rot hs)) a (sr M 0 (upd (M 0) 0 (5 : Int32))) ++ RW cI cZ (rot hs)) H := hP
  have hD : va_D A (wH3 cS (fS (rot hs)) (fG (rot hs)) a (sr M 0 (upd (M 0) 0 (5 : Int32))) ++ RW cI cZ (rot hs)) := hD
  exact W.vret hx hb hr (fun t ht hW => ⟨⟨(), rfl, trivial, WE.mk hP hD ht⟩, hS.F ht⟩) hS.2.2 dX1_dropOldest_47
set_option maxHeartbeats 4000000 in
set_option maxRecDepth 100000 in
theorem c_X1_save (l : Launch) (dC : Nat → ClassId) (dI : Nat → Nat → Nat) (cI cZ cS : ClassId) (hs : HS) (a : Nat → Nat) (sz : Nat) (M : Mem) (z : Mem × (Nat → Option Mem)) (hf : fX1_save (cts hs) M = some z) : Met l yX1_save wsX1_save ({ frames := 3, cells := 16, slots := 316, locals := 102 } : Room) (va_Pc [.ref (a 0), .ref (a 3)] (WR8 (dC, dI) cI cZ cS (wX1s cI cZ cS (fS hs) (fG hs) a M ++ RW cI cZ hs) sz)) (va_Qv (S := HS) (fun hs' => cts hs' = z.2 ∧ hs' 6 = hs 6 ∧ hs' 7 = hs 7) (fun hs' t => WE (dC, dI) cI cZ (wX1s cI cZ cS (fS hs') (fG hs') a z.1 ++ RW cI cZ hs') (va_A (wX1s cI cZ cS (fS hs) (fG hs) a M ++ RW cI cZ hs) sz) t) (va_A (wX1s cI cZ cS (fS hs) (fG hs) a M ++ RW cI cZ hs) sz)) 16 316 (va_A (wX1s cI cZ cS (fS hs) (fG hs) a M ++ RW cI cZ hs) sz) := by
  refine Met.ofW (cc := cX1_save) (maxL := 3) (ret := none) (by decide) rfl ?_
  intro p e s m args below meth c s₁ B hml hv
  obtain ⟨rfl, hsz, hP, hK, hD0, hNW⟩ := hv
  have hK2 : va_K (dC, dI) vwCl [(cI, .int), (cZ, .boolean)] s := hK.sub (tys' := [(cI, .int), (cZ, .boolean)]) [0, 1] rfl
  have hx := B.exec
  have hb := B.bytes
  have hr := B.returns
  have hts := atoms_spec (ws := wsX1_save) B.pre
  have hown : s.vm.findClass RX1 = some m.cls := findClass_of_methodNamed B.named
  have hlocks := B.notSynchronized
  have hinX1 : ∀ w ∈ u_ws RX1 TX1 3, w ∈ wsX1_save := by decide +kernel
  have hw_count := hts (.fieldLink RX1 9 "GlideShelves$History" "count" "I") (by decide +kernel)
  have hw_saved := hts (.fieldLink RX1 17 "GlideShelves$History" "saved" "[LGlideShelves$State;") (by decide +kernel)
  subst hsz
  have hD := hD0.self (sz := s.heap.size)
  generalize hAe : va_A (wX1s cI cZ cS (fS hs) (fG hs) a M ++ RW cI cZ hs) s.heap.size = A at hD ⊢
  have hA : ∀ q : Nat, s.heap.size ≤ q → A q := fun q h => by rw [← hAe]; exact Or.inr h
  have hS : va_S A s.heap s.heap [] := va_S.rf
  have hl := lv_entry ([.ref (a 0), .ref (a 3)]) (n := 3) (Nat.le_of_ble_eq_true rfl)
  rw [lg_entry_eq]
  generalize (lg_sl ([.ref (a 0), .ref (a 3)]) ++ List.replicate (3 - (lg_sl ([.ref (a 0), .ref (a 3)])).length) Slot.unset).toArray = ls at hl ⊢
  have hinX6 : ∀ w ∈ u_ws RX6 TX6 5, w ∈ wsX1_save := by decide +kernel
  have hw_cl := hts (.classLink RX1 15 RX6) (by decide +kernel)
  have hw_it := hts (.instantiable RX6 5) (by decide +kernel)
  have hw_ini := hts (.initialized RX6) (by decide +kernel)
  have hw_im := hts (.instanceMethod yX6_init) (by decide +kernel)
  have hw_cf := hts (.instanceMethod yX6_copyFrom) (by decide +kernel)
  have hw_se := hts (.selects RX6 yX6_copyFrom yX6_copyFrom) (by decide +kernel)
  have h45 : ∀ (hs1 : HS) (M1 : Mem) (k : Nat) (rest : va_W) (b : Nat → Nat) (N : Mem), k < 6 → hs1 6 = hs 6 → hs1 7 = hs 7 → (∀ x, (RW cI cZ (va_up hs1 k x)).Perm (rwc cI cZ x ++ rest)) → ((fX6_copyFrom (jn16 N (ofs 3 M1))).bind fun r => some (sr M1 0 (upd (M1 0) 0 (M1 0 0 + 1)), va_up (cts hs1) k (some r))) = some z → ∀ (ls : Array Slot), lv_has ls 3 [(2, .ref (b 0)), (0, .ref (a 0)), (1, .ref (a 3))] → ∀ (H : Heap) (locs : List Loc), va_P (dC, dI) vwCl ((wX1s cI cZ cS (va_up (fS hs1) k (some (b 0))) (fG hs1) a M1 ++ wX6 cI cZ b N) ++ rest) H → va_D A ((wX1s cI cZ cS (va_up (fS hs1) k (some (b 0))) (fG hs1) a M1 ++ wX6 cI cZ b N) ++ rest) → va_S A s.heap H locs → W p l e (headSpec wsX1_save ({ frames := 3, cells := 16, slots := 316, locals := 102 } : Room)).room s m ([.ref (a 0), .ref (a 3)] : List Value).toArray below meth c H locs 16 316 (MQ below (va_Qv (S := HS) (fun hs' => cts hs' = z.2 ∧ hs' 6 = hs 6 ∧ hs' 7 = hs 7) (fun hs' t => WE (dC, dI) cI cZ (wX1s cI cZ cS (fS hs') (fG hs') a z.1 ++ RW cI cZ hs') A t) A) ([.ref (a 0), .ref (a 3)] : List Value).toArray s 16 316 A) (F0 m 45 ls []) := by
    intro hs1 M1 k rest b N hk6 h6 h7 hu hf ls hl H locs hP hD hS
    obtain ⟨r, hr1, hf⟩ := bi_s hf
    refine lv_aload_n hx hb dX1_save_45 rfl (lv_at hl 0 rfl) ?_
    refine lv_aload_n hx hb dX1_save_46 rfl (lv_at hl 2 rfl) ?_
    have hPc := P_head (ws := (wX1s cI cZ cS (va_up (fS hs1) k (some (b 0))) (fG hs1) a M1 ++ wX6 cI cZ b N)) (ws' := (wX6_copyFrom cI cZ (jn16 b (ofs 3 a)) (jn16 N (ofs 3 M1)))) hP [19, 20, 21, 22, 23, 24, 25, 26, 27, 28, 29, 30, 31, 32, 33, 34, 3, 4, 5, 6, 7, 8, 9, 10, 11, 12, 13, 14, 15, 16, 17, 18] rfl
    have hDc := D_head (ws := (wX1s cI cZ cS (va_up (fS hs1) k (some (b 0))) (fG hs1) a M1 ++ wX6 cI cZ b N)) (ws' := (wX6_copyFrom cI cZ (jn16 b (ofs 3 a)) (jn16 N (ofs 3 M1)))) hD [19, 20, 21, 22, 23, 24, 25, 26, 27, 28, 29, 30, 31, 32, 33, 34, 3, 4, 5, 6, 7, 8, 9, 10, 11, 12, 13, 14, 15, 16, 17, 18] (by decide) rfl
    have hFc := va_free (wc := (wX6_copyFrom cI cZ (jn16 b (ofs 3 a)) (jn16 N (ofs 3 M1)))) hD hS hA [19, 20, 21, 22, 23, 24, 25, 26, 27, 28, 29, 30, 31, 32, 33, 34, 3, 4, 5, 6, 7, 8, 9, 10, 11, 12, 13, 14, 15, 16, 17, 18] rfl
    refine va_callv (va_runVN (As := [.ref (a 3)]) (rest := []) ⟨hx, hb, hml, hown, hts⟩ (c_X6_copyFrom l dC dI cI cZ (jn16 b (ofs 3 a)) H.size (jn16 N (ofs 3 M1)) r hr1) ⟨va_cnB 1 hts gX1_save_X6_copyFrom_n28 rfl rfl rfl (nw73 hNW) hw_ini (by decide +kernel) ⟨Nat.le_of_ble_eq_true rfl, Nat.le_of_ble_eq_true rfl⟩, hw_cf, hw_se⟩ ⟨WR.blind, va_recv hK hP (ci := 6) (q0 := 19) rfl rfl, WR.pre hPc hK2 hDc hNW⟩ rfl rfl hl.1 rfl (lv_room (Nat.le_of_ble_eq_true rfl)) dX1_save_47 ⟨Nat.le_of_ble_eq_true rfl, Nat.le_of_ble_eq_true rfl⟩) hS (fun q _ h => hFc q h) hFc (fun u t H1 locs ht hvm hw hB hz1 hk1 hS => ?_)
    obtain ⟨hP1, hD1⟩ := hB
    rw [ht] at hP1
    obtain ⟨hP, hD⟩ := join_app (ws := (wX1s cI cZ cS (va_up (fS hs1) k (some (b 0))) (fG hs1) a M1 ++ wX6 cI cZ b N)) (wr := (wH3 cS (va_up (fS hs1) k (some (b 0))) (fG hs1) a M1)) (w1 := (wX6_copyFrom cI cZ (jn16 b (ofs 3 a)) (sr (sr (sr (sr (sr (sr (sr (sr (sr (sr (sr (sr (sr (sr (sr (jn16 N (ofs 3 M1)) 0 (r 0)) 1 (r 1)) 2 (r 2)) 3 (r 3)) 4 (r 4)) 5 (r 5)) 6 (r 6)) 7 (r 7)) 8 (r 8)) 10 (r 10)) 11 (r 11)) 12 (r 12)) 13 (r 13)) 14 (r 14)) 15 (r 15)))) hP hD [19, 20, 21, 22, 23, 24, 25, 26, 27, 28, 29, 30, 31, 32, 33, 34, 3, 4, 5, 6, 7, 8, 9, 10, 11, 12, 13, 14, 15, 16, 17, 18] [0, 1, 2] rfl rfl (by decide) (by decide) hk1 hFc hP1 hD1
    have hP := P_perm (ws' := (wX1s cI cZ cS (va_up (fS hs1) k (some (b 0))) (fG hs1) a M1 ++ wX6 cI cZ b r)) hP [0, 1, 2, 19, 20, 21, 22, 23, 24, 25, 26, 27, 28, 29, 30, 31, 32, 33, 34, 3, 4, 5, 6, 7, 8, 9, 10, 11, 12, 13, 14, 15, 16, 17, 18] rfl
    have hD := D_perm (ws' := (wX1s cI cZ cS (va_up (fS hs1) k (some (b 0))) (fG hs1) a M1 ++ wX6 cI cZ b r)) hD [0, 1, 2, 19, 20, 21, 22, 23, 24, 25, 26, 27, 28, 29, 30, 31, 32, 33, 34, 3, 4, 5, 6, 7, 8, 9, 10, 11, 12, 13, 14, 15, 16, 17, 18] (by decide) rfl
    generalize H1 = H at hP hS ⊢
    refine lv_aload_n hx hb dX1_save_50 rfl (lv_at hl 1 rfl) ?_
    refine lv_dup hx hb dX1_save_51 rfl ?_
    refine va_get (D := (dC, dI)) (ci := 1) (v := .int (M1 0 0)) (C := RX1) (T := TX1) (N := 3) hx hb hts hinX1 hown hK hP 0 rfl rfl 0 (by decide) hw_count (fun _ h9 => h9) rfl dX1_save_52 ?_
    refine lv_iconst (v := (1 : Int32)) hx hb dX1_save_55 (by decide) ?_
    refine lv_iadd hx hb dX1_save_56 ?_
    refine va_put (D := (dC, dI)) (ci := 1) (v := .int (M1 0 0 + (1 : Int32))) (ty := .int) (C := RX1) (T := TX1) (N := 3) hx hb hts hinX1 tyX1 tyX1_ok nmX1 hown hK hP hD hS 0 rfl rfl 0 (by decide) hw_count (fun _ h9 => h9) rfl (by decide +kernel) rfl rfl (Nat.le_of_ble_eq_true rfl) dX1_save_57 (fun H locs hP hD hS => ?_)
    have hP : va_P (dC, dI) vwCl ((wX1s cI cZ cS (va_up (fS hs1) k (some (b 0))) (fG hs1) a (sr M1 0 (upd (M1 0) 0 (M1 0 0 + 1))) ++ wX6 cI cZ b r) ++ rest) H := hP
    have hD : va_D A ((wX1s cI cZ cS (va_up (fS hs1) k (some (b 0))) (fG hs1) a (sr M1 0 (upd (M1 0) 0 (M1 0 0 + 1))) ++ wX6 cI cZ b r) ++ rest) := hD
    have e9 := so_e hf
    subst e9
    rw [← fS_up hs1 k hk6 b r, ← fG_up0 hs1 k hk6 (some (b, r)), List.append_assoc] at hP hD
    have hP := P_pm (List.Perm.append_left _ (hu (some (b, r))).symm) hP
    have hD := D_pm (List.Perm.append_left _ (hu (some (b, r))).symm) hD
    exact W.vret hx hb hr (fun t ht hW => ⟨⟨va_up hs1 k (some (b, r)), rfl, ⟨cts_up hs1 k b r, (if_neg (by omega)).trans h6, (if_neg (by omega)).trans h7⟩, WE.mk hP hD ht⟩, hS.F ht⟩) hS.2.2 dX1_save_60
  have h13 : ∀ (hs1 : HS) (M1 : Mem), hs1 6 = hs 6 → hs1 7 = hs 7 → fX1_put (cts hs1) M1 = some z → ∀ (ls : Array Slot), lv_has ls 3 [(0, .ref (a 0)), (1, .ref (a 3))] → ∀ (H : Heap) (locs : List Loc), va_P (dC, dI) vwCl (wX1s cI cZ cS (fS hs1) (fG hs1) a M1 ++ RW cI cZ hs1) H → va_D A (wX1s cI cZ cS (fS hs1) (fG hs1) a M1 ++ RW cI cZ hs1) → va_S A s.heap H locs → W p l e (headSpec wsX1_save ({ frames := 3, cells := 16, slots := 316, locals := 102 } : Room)).room s m ([.ref (a 0), .ref (a 3)] : List Value).toArray below meth c H locs 0 0 (MQ below (va_Qv (S := HS) (fun hs' => cts hs' = z.2 ∧ hs' 6 = hs 6 ∧ hs' 7 = hs 7) (fun hs' t => WE (dC, dI) cI cZ (wX1s cI cZ cS (fS hs') (fG hs') a z.1 ++ RW cI cZ hs') A t) A) ([.ref (a 0), .ref (a 3)] : List Value).toArray s 16 316 A) (F0 m 13 ls []) := by
    intro hs1 M1 h6 h7 hf ls hl H locs hP hD hS
    unfold fX1_put at hf
    obtain ⟨hi, hf⟩ := gd_s hf
    obtain ⟨N, hN, hf⟩ := bi_s hf
    have hk6 : (M1 0 0).toNatClampNeg < 6 := Nat.not_le.mp fun q => inb_in hi (Or.inr q)
    obtain ⟨rest, hp, hu⟩ := RW_split cI cZ hs1 (M1 0 0).toNatClampNeg (by omega)
    refine lv_aload_n hx hb dX1_save_13 rfl (lv_at hl 0 rfl) ?_
    refine va_get (D := (dC, dI)) (ci := 1) (v := .ref (a 1)) (C := RX1) (T := TX1) (N := 3) hx hb hts hinX1 hown hK hP 0 rfl rfl 1 (by decide) hw_saved (fun _ h9 => h9) rfl dX1_save_14 ?_
    refine lv_aload_n hx hb dX1_save_17 rfl (lv_at hl 0 rfl) ?_
    refine va_get (D := (dC, dI)) (ci := 1) (v := .int (M1 0 0)) (C := RX1) (T := TX1) (N := 3) hx hb hts hinX1 hown hK hP 0 rfl rfl 0 (by decide) hw_count (fun _ h9 => h9) rfl dX1_save_18 ?_
    refine va_aldqq (D := (dC, dI)) (f := fS hs1) (C := "GlideShelves$State") (o := fA hs1 (M1 0 0).toNatClampNeg) hx hb hK hP 1 2 rfl rfl (inb_in hi) dX1_save_21 (if_pos hk6) ?_
    refine lv_astore_nq (lv' := [(2, va_rf (fA hs1 (M1 0 0).toNatClampNeg)), (0, .ref (a 0)), (1, .ref (a 3))]) hx hb dX1_save_22 rfl hl (by decide) rfl (fun ls hl => ?_)
    refine lv_aload_nq hx hb dX1_save_23 rfl (lv_at hl 0 rfl) ?_
    cases hk : hs1 (M1 0 0).toNatClampNeg with
    | some q =>
      obtain ⟨b, N2⟩ := q
      have e1 : fA hs1 (M1 0 0).toNatClampNeg = some (b 0) := by unfold fA; rw [hk]; rfl
      have e2 : cts hs1 (M1 0 0).toNatClampNeg = some N2 := by unfold cts; rw [hk]; rfl
      rw [e2] at hN
      have e3 := so_e hN
      subst e3
      rw [e1] at hl ⊢
      refine lv_ifnonnull (tgt := 45) hx hb dX1_save_24 (by decide) ?_
      refine W.widen (k := 16) (n := 316) (Nat.le_of_ble_eq_true rfl) (Nat.le_of_ble_eq_true rfl) ?_
      rw [hk] at hp
      have hP := P_pm (List.Perm.append_left _ hp) hP
      have hD := D_pm (List.Perm.append_left _ hp) hD
      rw [← List.append_assoc] at hP hD
      have e4 : va_up (fS hs1) (M1 0 0).toNatClampNeg (some (b 0)) = fS hs1 := up_same ((if_pos hk6).trans e1)
      refine h45 hs1 M1 _ rest b N2 hk6 h6 h7 hu hf ls hl H locs ?_ ?_ hS
      · rw [e4]; exact hP
      · rw [e4]; exact hD
    | none =>
      have e1 : fA hs1 (M1 0 0).toNatClampNeg = none := by unfold fA; rw [hk]; rfl
      have e2 : cts hs1 (M1 0 0).toNatClampNeg = none := by unfold cts; rw [hk]; rfl
      rw [e2] at hN
      rw [e1] at hl ⊢
      refine lv_ifnonnullN hx hb dX1_save_24 ?_
      rw [hk] at hp
      have hP : va_P (dC, dI) vwCl (wX1s cI cZ cS (fS hs1) (fG hs1) a M1 ++ rest) H := P_pm (List.Perm.append_left _ hp) hP
      have hD : va_D A (wX1s cI cZ cS (fS hs1) (fG hs1) a M1 ++ rest) := D_pm (List.Perm.append_left _ hp) hD
      refine va_new (ci := 6) (fs := [.null, .null, .null, .null, .int 0]) (C := RX6) (T := TX6) (N := 5) hx hb hts hinX6 tyX6 tyX6_ok hown hw_cl hw_it hw_ini hK hP hD hS hA rfl (fun j hj => by rcases (show j = 0 ∨ j = 1 ∨ j = 2 ∨ j = 3 ∨ j = 4 by omega) with rfl | rfl | rfl | rfl | rfl <;> rfl) (Nat.le_of_ble_eq_true rfl) (Nat.le_of_ble_eq_true rfl) dX1_save_27 (fun q H hP hD hS => ?_)
      have hP : va_P (dC, dI) vwCl ((wX1s cI cZ cS (fS hs1) (fG hs1) a M1 ++ [(q, .inr (6, [.null, .null, .null, .null, .int 0]))]) ++ rest) H := hP.swap
      have hD : va_D A ((wX1s cI cZ cS (fS hs1) (fG hs1) a M1 ++ [(q, .inr (6, [.null, .null, .null, .null, .int 0]))]) ++ rest) := hD.swap
      refine lv_dup hx hb dX1_save_30 rfl ?_
      have hPc := P_head (ws := (wX1s cI cZ cS (fS hs1) (fG hs1) a M1 ++ [(q, .inr (6, [.null, .null, .null, .null, .int 0]))])) (ws' := [(q, .inr (6, [.null, .null, .null, .null, .int 0]))]) hP [19] rfl
      have hDc := D_head (ws := (wX1s cI cZ cS (fS hs1) (fG hs1) a M1 ++ [(q, .inr (6, [.null, .null, .null, .null, .int 0]))])) (ws' := [(q, .inr (6, [.null, .null, .null, .null, .int 0]))]) hD [19] (by decide) rfl
      have hFc := va_free (wc := [(q, .inr (6, [.null, .null, .null, .null, .int 0]))]) hD hS hA [19] rfl
      refine va_callv (va_runIN (As := []) (rest := [.ref q]) ⟨hx, hb, hml, hown, hts⟩ (c_X6_init l dC dI cI cZ q H.size N hN) ⟨va_cnB 0 hts gX1_save_X6_init_n27 rfl rfl rfl (nw72 hNW) hw_ini (by decide +kernel) ⟨Nat.le_of_ble_eq_true rfl, Nat.le_of_ble_eq_true rfl⟩, rfl, hw_im⟩ ⟨WR.blind, WR.pre hPc hK2 hDc hNW⟩ rfl rfl hl.1 rfl (lv_room (Nat.le_of_ble_eq_true rfl)) dX1_save_31 ⟨Nat.le_of_ble_eq_true rfl, Nat.le_of_ble_eq_true rfl⟩) hS (fun q _ h => hFc q h) hFc (fun b t H1 locs ht hvm hb9 hB hz1 hk1 hS => ?_)
      obtain ⟨hP1, hD1⟩ := hB
      rw [ht] at hP1
      try dsimp only at hb9
      obtain ⟨hPj, hDj⟩ := join_app (ws := (wX1s cI cZ cS (fS hs1) (fG hs1) a M1 ++ [(q, .inr (6, [.null, .null, .null, .null, .int 0]))])) (wr := wX1s cI cZ cS (fS hs1) (fG hs1) a M1) (w1 := (wX6 cI cZ b N)) hP hD [19] [0, 1, 2, 3, 4, 5, 6, 7, 8, 9, 10, 11, 12, 13, 14, 15, 16, 17, 18] rfl rfl (by decide) (by decide) hk1 hFc hP1 hD1
      subst hb9
      generalize H1 = H at hPj hS ⊢
      refine lv_astore_n (lv' := [(2, .ref (b 0)), (0, .ref (a 0)), (1, .ref (a 3))]) hx hb dX1_save_34 rfl hl (by decide) rfl (fun ls hl => ?_)
      have hP := hPj
      have hD := hDj
      refine lv_aload_n hx hb dX1_save_35 rfl (lv_at hl 1 rfl) ?_
      refine va_get (D := (dC, dI)) (ci := 1) (v := .ref (a 1)) (C := RX1) (T := TX1) (N := 3) hx hb hts hinX1 hown hK hP 0 rfl rfl 1 (by decide) hw_saved (fun _ h9 => h9) rfl dX1_save_36 ?_
      refine lv_aload_n hx hb dX1_save_39 rfl (lv_at hl 1 rfl) ?_
      refine va_get (D := (dC, dI)) (ci := 1) (v := .int (M1 0 0)) (C := RX1) (T := TX1) (N := 3) hx hb hts hinX1 hown hK hP 0 rfl rfl 0 (by decide) hw_count (fun _ h9 => h9) rfl dX1_save_40 ?_
      refine lv_aload_n hx hb dX1_save_43 rfl (lv_at hl 0 rfl) ?_
      refine va_astq (D := (dC, dI)) (r := (RX6, TX6, 5)) (f := fS hs1) hx hb hK hP hD hS 1 2 19 6 rfl rfl rfl rfl (inb_in hi) dX1_save_44 (fun H locs hP hD hS => ?_)
      exact h45 hs1 M1 _ rest b N hk6 h6 h7 hu hf ls hl H locs hP hD hS
  suffices hgo : ∀ (H : Heap) (locs : List Loc), va_P (dC, dI) vwCl (wX1s cI cZ cS (fS hs) (fG hs) a M ++ RW cI cZ hs) H → va_D A (wX1s cI cZ cS (fS hs) (fG hs) a M ++ RW cI cZ hs) → va_S A s.heap H locs → W p l e (headSpec wsX1_save ({ frames := 3, cells := 16, slots := 316, locals := 102 } : Room)).room s m ([.ref (a 0), .ref (a 3)] : List Value).toArray below meth c H locs 0 0 (MQ below (va_Qv (S := HS) (fun hs' => cts hs' = z.2 ∧ hs' 6 = hs 6 ∧ hs' 7 = hs 7) (fun hs' t => WE (dC, dI) cI cZ (wX1s cI cZ cS (fS hs') (fG hs') a z.1 ++ RW cI cZ hs') A t) A) ([.ref (a 0), .ref (a 3)] : List Value).toArray s 16 316 A) (F0 m 0 ls []) from hgo _ _ hP hD hS
  intro H locs hP hD hS
  have hl : lv_has ls 3 [(0, .ref (a 0)), (1, .ref (a 3))] := hl
  unfold fX1_save at hf
  refine lv_aload_n hx hb dX1_save_0 rfl (lv_at hl 0 rfl) ?_
  refine va_get (D := (dC, dI)) (ci := 1) (v := .int (M 0 0)) (C := RX1) (T := TX1) (N := 3) hx hb hts hinX1 hown hK hP 0 rfl rfl 0 (by decide) hw_count (fun _ h9 => h9) rfl dX1_save_1 ?_
  refine lv_bipush (v := (6 : Int32)) hx hb dX1_save_4 (by decide) ?_
  refine lv_icmp_lt (tgt := 13) hx hb dX1_save_6 (by decide) (fun c9 => ?_) (fun c9 => ?_)
  · have hf := it_t hf c9
    exact h13 hs M rfl rfl hf ls hl H locs hP hD hS
  · have hf := it_f hf c9
    refine lv_aload_n hx hb dX1_save_9 rfl (lv_at hl 0 rfl) ?_
    have hPc := hP.part (X := wX1s cI cZ cS (fS hs) (fG hs) a M) (cx := wH3 cS (fS hs) (fG hs) a M) [0, 1, 2] rfl
    have hDc := hD.part (X := wX1s cI cZ cS (fS hs) (fG hs) a M) (cx := wH3 cS (fS hs) (fG hs) a M) [0, 1, 2] (by decide) rfl
    have hFc := va_freeP (X := wX1s cI cZ cS (fS hs) (fG hs) a M) (cx := wH3 cS (fS hs) (fG hs) a M) hD hS hA [0, 1, 2] rfl
    refine va_callv (va_runV (As := []) (rest := []) ⟨hx, hb, hml, hown, hts⟩ (c_X1_dropOldest l dC dI cI cZ cS hs a H.size M) (cwV 0 hts gX1_save_X1_dropOldest rfl rfl rfl (by decide +kernel) ⟨Nat.le_of_ble_eq_true rfl, Nat.le_of_ble_eq_true rfl⟩) ⟨WR8.blind, va_recv hK hP (ci := 1) (q0 := 0) rfl rfl, WR8.pre hPc hK hDc hNW⟩ rfl rfl hl.1 rfl (lv_room (Nat.le_of_ble_eq_true rfl)) dX1_save_10 ⟨Nat.le_of_ble_eq_true rfl, Nat.le_of_ble_eq_true rfl⟩) hS (fun q _ h => hFc q h) hFc (fun u t H1 locs ht hvm hw hB hz1 hk1 hS => ?_)
    obtain ⟨hP1, hD1⟩ := hB
    rw [ht] at hP1
    obtain ⟨hP, hD⟩ := va_joinP (X := wX1s cI cZ cS (fS hs) (fG hs) a M) (cx := wH3 cS (fS hs) (fG hs) a M) (wr := wX6 cI cZ (ofs 3 a) (ofs 3 M)) (rx := wH3 cS (fS (rot hs)) (fG (rot hs)) a (sr M 0 (upd (M 0) 0 (5 : Int32)))) hP hD [0, 1, 2] [3, 4, 5, 6, 7, 8, 9, 10, 11, 12, 13, 14, 15, 16, 17, 18] rfl rfl (by decide) (by decide) hk1 hFc hP1 hD1
    have hP := P_perm (ws' := wX1s cI cZ cS (fS (rot hs)) (fG (rot hs)) a (sr M 0 (upd (M 0) 0 (5 : Int32)))) hP [16, 17, 18, 0, 1, 2, 3, 4, 5, 6, 7, 8, 9, 10, 11, 12, 13, 14, 15] rfl
    have hD := D_perm (ws' := wX1s cI cZ cS (fS (rot hs)) (fG (rot hs)) a (sr M 0 (upd (M 0) 0 (5 : Int32)))) hD [16, 17, 18, 0, 1, 2, 3, 4, 5, 6, 7, 8, 9, 10, 11, 12, 13, 14, 15] (by decide) rfl
    rw [← cts_rot] at hf
    exact h13 (rot hs) _ rfl rfl hf ls hl H1 locs hP hD hS
set_option maxHeartbeats 4000000 in
set_option maxRecDepth 100000 in
theorem c_X1_restoreLatest (l : Launch) (dC : Nat → ClassId) (dI : Nat → Nat → Nat) (cI cZ cS : ClassId) (hs : HS) (a : Nat → Nat) (sz : Nat) (M : Mem) (z : Int32 × Mem) (hf : fX1_restoreLatest (cts hs) M = some z) : Met l yX1_restoreLatest wsX1_restoreLatest ({ frames := 3, cells := 0, slots := 0, locals := 102 } : Room) (va_Pc [.ref (a 0), .ref (a 3)] (WR8 (dC, dI) cI cZ cS (wX1s cI cZ cS (fS hs) (fG hs) a M ++ RW cI cZ hs) sz)) (va_Qi (S := Unit) (fun r _ => r = z.1) (fun _ t => WE (dC, dI) cI cZ (wX1s cI cZ cS (fS hs) (fG hs) a z.2 ++ RW cI cZ hs) (va_A (wX1s cI cZ cS (fS hs) (fG hs) a M ++ RW cI cZ hs) sz) t) (va_A (wX1s cI cZ cS (fS hs) (fG hs) a M ++ RW cI cZ hs) sz)) 0 0 (va_A (wX1s cI cZ cS (fS hs) (fG hs) a M ++ RW cI cZ hs) sz) := by
  refine Met.ofW (cc := cX1_restoreLatest) (maxL := 3) (ret := (some .boolean)) (by decide) rfl ?_
  intro p e s m args below meth c s₁ B hml hv
  obtain ⟨rfl, hsz, hP, hK, hD0, hNW⟩ := hv
  have hK2 : va_K (dC, dI) vwCl [(cI, .int), (cZ, .boolean)] s := hK.sub (tys' := [(cI, .int), (cZ, .boolean)]) [0, 1] rfl
  have hx := B.exec
  have hb := B.bytes
  have hr := B.returns
  have hts := atoms_spec (ws := wsX1_restoreLatest) B.pre
  have hown : s.vm.findClass RX1 = some m.cls := findClass_of_methodNamed B.named
  have hlocks := B.notSynchronized
  have hinX1 : ∀ w ∈ u_ws RX1 TX1 3, w ∈ wsX1_restoreLatest := by decide +kernel
  have hw_count := hts (.fieldLink RX1 9 "GlideShelves$History" "count" "I") (by decide +kernel)
  have hw_saved := hts (.fieldLink RX1 17 "GlideShelves$History" "saved" "[LGlideShelves$State;") (by decide +kernel)
  subst hsz
  have hD := hD0.self (sz := s.heap.size)
  generalize hAe : va_A (wX1s cI cZ cS (fS hs) (fG hs) a M ++ RW cI cZ hs) s.heap.size = A at hD ⊢
  have hA : ∀ q : Nat, s.heap.size ≤ q → A q := fun q h => by rw [← hAe]; exact Or.inr h
  have hS : va_S A s.heap s.heap [] := va_S.rf
  have hl := lv_entry ([.ref (a 0), .ref (a 3)]) (n := 3) (Nat.le_of_ble_eq_true rfl)
  rw [lg_entry_eq]
  generalize (lg_sl ([.ref (a 0), .ref (a 3)]) ++ List.replicate (3 - (lg_sl ([.ref (a 0), .ref (a 3)])).length) Slot.unset).toArray = ls at hl ⊢
  have hw_ini := hts (.initialized RX6) (by decide +kernel)
  have hw_cf := hts (.instanceMethod yX6_copyFrom) (by decide +kernel)
  have hw_se := hts (.selects RX6 yX6_copyFrom yX6_copyFrom) (by decide +kernel)
  suffices hgo : ∀ (H : Heap) (locs : List Loc), va_P (dC, dI) vwCl (wX1s cI cZ cS (fS hs) (fG hs) a M ++ RW cI cZ hs) H → va_D A (wX1s cI cZ cS (fS hs) (fG hs) a M ++ RW cI cZ hs) → va_S A s.heap H locs → W p l e (headSpec wsX1_restoreLatest ({ frames := 3, cells := 0, slots := 0, locals := 102 } : Room)).room s m ([.ref (a 0), .ref (a 3)] : List Value).toArray below meth c H locs 0 0 (MQ below (va_Qi (S := Unit) (fun r _ => r = z.1) (fun _ t => WE (dC, dI) cI cZ (wX1s cI cZ cS (fS hs) (fG hs) a z.2 ++ RW cI cZ hs) A t) A) ([.ref (a 0), .ref (a 3)] : List Value).toArray s 0 0 A) (F0 m 0 ls []) from hgo _ _ hP hD hS
  intro H locs hP hD hS
  have hl : lv_has ls 3 [(0, .ref (a 0)), (1, .ref (a 3))] := hl
  unfold fX1_restoreLatest at hf
  refine lv_aload_n hx hb dX1_restoreLatest_0 rfl (lv_at hl 0 rfl) ?_
  refine va_get (D := (dC, dI)) (ci := 1) (v := .int (M 0 0)) (C := RX1) (T := TX1) (N := 3) hx hb hts hinX1 hown hK hP 0 rfl rfl 0 (by decide) hw_count (fun _ h9 => h9) rfl dX1_restoreLatest_1 ?_
  refine lv_if_le (tgt := 16) hx hb dX1_restoreLatest_4 (by decide) (fun c9 => ?_) (fun c9 => ?_)
  · have hf := it_t hf c9
    have e9 := so_e hf
    subst e9
    refine lv_iconst (v := (0 : Int32)) hx hb dX1_restoreLatest_16 (by decide) ?_
    exact W.zret (v := (0 : Int32)) hx hb hr (by rfl) (fun t ht hW => ⟨⟨_, (), rfl, rfl, WE.mk hP hD ht⟩, hS.F ht⟩) hS.2.2 dX1_restoreLatest_17
  · have hf := it_f hf c9
    refine lv_aload_n hx hb dX1_restoreLatest_7 rfl (lv_at hl 0 rfl) ?_
    refine va_get (D := (dC, dI)) (ci := 1) (v := .int (M 0 0)) (C := RX1) (T := TX1) (N := 3) hx hb hts hinX1 hown hK hP 0 rfl rfl 0 (by decide) hw_count (fun _ h9 => h9) rfl dX1_restoreLatest_8 ?_
    refine lv_bipush (v := (6 : Int32)) hx hb dX1_restoreLatest_11 (by decide) ?_
    refine lv_icmp_le (tgt := 18) hx hb dX1_restoreLatest_13 (by decide) (fun c9 => ?_) (fun c9 => ?_)
    · have hf := it_t hf c9
      obtain ⟨hi, hf⟩ := gd_s hf
      have hk6 : (M 0 0 - (1 : Int32)).toNatClampNeg < 6 := Nat.not_le.mp fun q => inb_in hi (Or.inr q)
      obtain ⟨rest, hp, hu⟩ := RW_split cI cZ hs (M 0 0 - (1 : Int32)).toNatClampNeg (by omega)
      refine lv_aload_n hx hb dX1_restoreLatest_18 rfl (lv_at hl 0 rfl) ?_
      refine va_get (D := (dC, dI)) (ci := 1) (v := .ref (a 1)) (C := RX1) (T := TX1) (N := 3) hx hb hts hinX1 hown hK hP 0 rfl rfl 1 (by decide) hw_saved (fun _ h9 => h9) rfl dX1_restoreLatest_19 ?_
      refine lv_aload_n hx hb dX1_restoreLatest_22 rfl (lv_at hl 0 rfl) ?_
      refine va_get (D := (dC, dI)) (ci := 1) (v := .int (M 0 0)) (C := RX1) (T := TX1) (N := 3) hx hb hts hinX1 hown hK hP 0 rfl rfl 0 (by decide) hw_count (fun _ h9 => h9) rfl dX1_restoreLatest_23 ?_
      refine lv_iconst (v := (1 : Int32)) hx hb dX1_restoreLatest_26 (by decide) ?_
      refine lv_isub hx hb dX1_restoreLatest_27 ?_
      refine va_aldqq (D := (dC, dI)) (f := fS hs) (C := "GlideShelves$State") (o := fA hs (M 0 0 - (1 : Int32)).toNatClampNeg) hx hb hK hP 1 2 rfl rfl (inb_in hi) dX1_restoreLatest_28 (if_pos hk6) ?_
      refine lv_astore_nq (lv' := [(2, va_rf (fA hs (M 0 0 - (1 : Int32)).toNatClampNeg)), (0, .ref (a 0)), (1, .ref (a 3))]) hx hb dX1_restoreLatest_29 rfl hl (by decide) rfl (fun ls hl => ?_)
      refine lv_aload_nq hx hb dX1_restoreLatest_30 rfl (lv_at hl 0 rfl) ?_
      cases hk : hs (M 0 0 - (1 : Int32)).toNatClampNeg with
      | none =>
        have e1 : fA hs (M 0 0 - (1 : Int32)).toNatClampNeg = none := by unfold fA; rw [hk]; rfl
        have e2 : cts hs (M 0 0 - (1 : Int32)).toNatClampNeg = none := by unfold cts; rw [hk]; rfl
        rw [e2] at hf
        have e9 := so_e hf
        subst e9
        rw [e1] at hl ⊢
        refine lv_ifnonnullN hx hb dX1_restoreLatest_31 ?_
        refine lv_iconst (v := (0 : Int32)) hx hb dX1_restoreLatest_34 (by decide) ?_
        exact W.zret (v := (0 : Int32)) hx hb hr (by rfl) (fun t ht hW => ⟨⟨_, (), rfl, rfl, WE.mk hP hD ht⟩, hS.F ht⟩) hS.2.2 dX1_restoreLatest_35
      | some q =>
        obtain ⟨b, N⟩ := q
        have e1 : fA hs (M 0 0 - (1 : Int32)).toNatClampNeg = some (b 0) := by unfold fA; rw [hk]; rfl
        have e2 : cts hs (M 0 0 - (1 : Int32)).toNatClampNeg = some N := by unfold cts; rw [hk]; rfl
        rw [e2] at hf
        obtain ⟨r, hr1, hf⟩ := bi_s hf
        have e9 := so_e hf
        subst e9
        rw [e1] at hl ⊢
        refine lv_ifnonnull (tgt := 36) hx hb dX1_restoreLatest_31 (by decide) ?_
        have e5 : va_up hs (M 0 0 - (1 : Int32)).toNatClampNeg (some (b, N)) = hs := up_same hk
        have hu2 := hu (some (b, N))
        rw [e5] at hu2
        have hP : va_P (dC, dI) vwCl ((wX1s cI cZ cS (fS hs) (fG hs) a M ++ wX6 cI cZ b N) ++ rest) H := by rw [List.append_assoc]; exact P_pm (List.Perm.append_left _ hu2) hP
        have hD : va_D A ((wX1s cI cZ cS (fS hs) (fG hs) a M ++ wX6 cI cZ b N) ++ rest) := by rw [List.append_assoc]; exact D_pm (List.Perm.append_left _ hu2) hD
        refine lv_aload_n hx hb dX1_restoreLatest_36 rfl (lv_at hl 2 rfl) ?_
        refine lv_aload_n hx hb dX1_restoreLatest_37 rfl (lv_at hl 0 rfl) ?_
        have hPc := P_head (ws := (wX1s cI cZ cS (fS hs) (fG hs) a M ++ wX6 cI cZ b N)) (ws' := (wX6_copyFrom cI cZ (jn16 (ofs 3 a) b) (jn16 (ofs 3 M) N))) hP [3, 4, 5, 6, 7, 8, 9, 10, 11, 12, 13, 14, 15, 16, 17, 18, 19, 20, 21, 22, 23, 24, 25, 26, 27, 28, 29, 30, 31, 32, 33, 34] rfl
        have hDc := D_head (ws := (wX1s cI cZ cS (fS hs) (fG hs) a M ++ wX6 cI cZ b N)) (ws' := (wX6_copyFrom cI cZ (jn16 (ofs 3 a) b) (jn16 (ofs 3 M) N))) hD [3, 4, 5, 6, 7, 8, 9, 10, 11, 12, 13, 14, 15, 16, 17, 18, 19, 20, 21, 22, 23, 24, 25, 26, 27, 28, 29, 30, 31, 32, 33, 34] (by decide) rfl
        have hFc := va_free (wc := (wX6_copyFrom cI cZ (jn16 (ofs 3 a) b) (jn16 (ofs 3 M) N))) hD hS hA [3, 4, 5, 6, 7, 8, 9, 10, 11, 12, 13, 14, 15, 16, 17, 18, 19, 20, 21, 22, 23, 24, 25, 26, 27, 28, 29, 30, 31, 32, 33, 34] rfl
        refine va_callv (va_runVN (As := [.ref (b 0)]) (rest := []) ⟨hx, hb, hml, hown, hts⟩ (c_X6_copyFrom l dC dI cI cZ (jn16 (ofs 3 a) b) H.size (jn16 (ofs 3 M) N) r hr1) ⟨va_cnB 1 hts gX1_restoreLatest_X6_copyFrom_n28 rfl rfl rfl (nw73 hNW) hw_ini (by decide +kernel) ⟨Nat.le_of_ble_eq_true rfl, Nat.le_of_ble_eq_true rfl⟩, hw_cf, hw_se⟩ ⟨WR.blind, va_recv hK hP (ci := 6) (q0 := 3) rfl rfl, WR.pre hPc hK2 hDc hNW⟩ rfl rfl hl.1 rfl (lv_room (Nat.le_of_ble_eq_true rfl)) dX1_restoreLatest_38 ⟨Nat.le_of_ble_eq_true rfl, Nat.le_of_ble_eq_true rfl⟩) hS (fun q _ h => hFc q h) hFc (fun u t H1 locs ht hvm hw hB hz1 hk1 hS => ?_)
        obtain ⟨hP1, hD1⟩ := hB
        rw [ht] at hP1
        obtain ⟨hP, hD⟩ := join_app (ws := (wX1s cI cZ cS (fS hs) (fG hs) a M ++ wX6 cI cZ b N)) (wr := (wH3 cS (fS hs) (fG hs) a M)) (w1 := (wX6_copyFrom cI cZ (jn16 (ofs 3 a) b) (sr (sr (sr (sr (sr (sr (sr (sr (sr (sr (sr (sr (sr (sr (sr (jn16 (ofs 3 M) N) 0 (r 0)) 1 (r 1)) 2 (r 2)) 3 (r 3)) 4 (r 4)) 5 (r 5)) 6 (r 6)) 7 (r 7)) 8 (r 8)) 10 (r 10)) 11 (r 11)) 12 (r 12)) 13 (r 13)) 14 (r 14)) 15 (r 15)))) hP hD [3, 4, 5, 6, 7, 8, 9, 10, 11, 12, 13, 14, 15, 16, 17, 18, 19, 20, 21, 22, 23, 24, 25, 26, 27, 28, 29, 30, 31, 32, 33, 34] [0, 1, 2] rfl rfl (by decide) (by decide) hk1 hFc hP1 hD1
        have hP := P_perm (ws' := (wH3 cS (fS hs) (fG hs) a M ++ wX6 cI cZ (ofs 3 a) r ++ wX6 cI cZ b N)) hP [0, 1, 2, 3, 4, 5, 6, 7, 8, 9, 10, 11, 12, 13, 14, 15, 16, 17, 18, 19, 20, 21, 22, 23, 24, 25, 26, 27, 28, 29, 30, 31, 32, 33, 34] rfl
        have hD := D_perm (ws' := (wH3 cS (fS hs) (fG hs) a M ++ wX6 cI cZ (ofs 3 a) r ++ wX6 cI cZ b N)) hD [0, 1, 2, 3, 4, 5, 6, 7, 8, 9, 10, 11, 12, 13, 14, 15, 16, 17, 18, 19, 20, 21, 22, 23, 24, 25, 26, 27, 28, 29, 30, 31, 32, 33, 34] (by decide) rfl
        generalize H1 = H at hP hS ⊢
        refine lv_aload_n hx hb dX1_restoreLatest_41 rfl (lv_at hl 1 rfl) ?_
        refine lv_dup hx hb dX1_restoreLatest_42 rfl ?_
        refine va_get (D := (dC, dI)) (ci := 1) (v := .int (M 0 0)) (C := RX1) (T := TX1) (N := 3) hx hb hts hinX1 hown hK hP 0 rfl rfl 0 (by decide) hw_count (fun _ h9 => h9) rfl dX1_restoreLatest_43 ?_
        refine lv_iconst (v := (1 : Int32)) hx hb dX1_restoreLatest_46 (by decide) ?_
        refine lv_isub hx hb dX1_restoreLatest_47 ?_
        refine va_put (D := (dC, dI)) (ci := 1) (v := .int (M 0 0 - (1 : Int32))) (ty := .int) (C := RX1) (T := TX1) (N := 3) hx hb hts hinX1 tyX1 tyX1_ok nmX1 hown hK hP hD hS 0 rfl rfl 0 (by decide) hw_count (fun _ h9 => h9) rfl (by decide +kernel) rfl rfl (Nat.le_of_ble_eq_true rfl) dX1_restoreLatest_48 (fun H locs hP hD hS => ?_)
        have hP : va_P (dC, dI) vwCl ((wH3 cS (fS hs) (fG hs) a (sr M 0 (upd (M 0) 0 (M 0 0 - 1))) ++ wX6 cI cZ (ofs 3 a) r ++ wX6 cI cZ b N) ++ rest) H := hP
        have hD : va_D A ((wH3 cS (fS hs) (fG hs) a (sr M 0 (upd (M 0) 0 (M 0 0 - 1))) ++ wX6 cI cZ (ofs 3 a) r ++ wX6 cI cZ b N) ++ rest) := hD
        have hP := P_perm (ws' := (wX1s cI cZ cS (fS hs) (fG hs) a (jn3 M r) ++ wX6 cI cZ b N)) hP [0, 1, 2, 3, 4, 5, 6, 7, 8, 9, 10, 11, 12, 13, 14, 15, 16, 17, 18, 19, 20, 21, 22, 23, 24, 25, 26, 27, 28, 29, 30, 31, 32, 33, 34] rfl
        have hD := D_perm (ws' := (wX1s cI cZ cS (fS hs) (fG hs) a (jn3 M r) ++ wX6 cI cZ b N)) hD [0, 1, 2, 3, 4, 5, 6, 7, 8, 9, 10, 11, 12, 13, 14, 15, 16, 17, 18, 19, 20, 21, 22, 23, 24, 25, 26, 27, 28, 29, 30, 31, 32, 33, 34] (by decide) rfl
        rw [List.append_assoc] at hP hD
        have hP := P_pm (List.Perm.append_left _ hu2.symm) hP
        have hD := D_pm (List.Perm.append_left _ hu2.symm) hD
        refine lv_iconst (v := (1 : Int32)) hx hb dX1_restoreLatest_51 (by decide) ?_
        exact W.zret (v := (1 : Int32)) hx hb hr (by rfl) (fun t ht hW => ⟨⟨_, (), rfl, rfl, WE.mk hP hD ht⟩, hS.F ht⟩) hS.2.2 dX1_restoreLatest_52
    · have hf := it_f hf c9
      have e9 := so_e hf
      subst e9
      refine lv_iconst (v := (0 : Int32)) hx hb dX1_restoreLatest_16 (by decide) ?_
      exact W.zret (v := (0 : Int32)) hx hb hr (by rfl) (fun t ht hW => ⟨⟨_, (), rfl, rfl, WE.mk hP hD ht⟩, hS.F ht⟩) hS.2.2 dX1_restoreLatest_17
