set_option maxHeartbeats 400000
/-! the reference: all orders, aside, the cheapest -/
theorem zn_waddm (j : Nat) : nI j + wI 0 = wI j := by
  unfold wI
  rw [Int32.sub_eq_add_neg, Int32.sub_eq_add_neg, show nI 0 = 0 from rfl, Int32.zero_add]
section
variable {K : Mem} {S : SM} {u : Nat}
def zs_fsj (S : SM) (j : Nat) : Nat := bif zs_any (zs_can S) (S 14 0 - j) j then zs_first (zs_can S) (S 14 0 - j) j + 1 else 0
theorem zk_firstServable_L (h : RK (K 1) S) (g : GX u S) (kx : Int32 → Option Int32) : ∀ j n, j ≤ S 14 0 → j < n → fX9_firstServable_L12 K n kx (wI (zs_fsj S j)) (wI j) = kx (wI (zs_fsj S 0)) := by
  have h8 := g.o8
  intro j
  induction j with
  | zero =>
    intro n _ hn
    obtain ⟨m, rfl⟩ : ∃ m, n = m + 1 := ⟨n - 1, by omega⟩
    rw [fX9_firstServable_L12, if_pos (show wI 0 < 0 by decide)]
  | succ j ih =>
    intro n hj hn
    obtain ⟨m, rfl⟩ : ∃ m, n = m + 1 := ⟨n - 1, by omega⟩
    have e := zk_canBe h g (r := j) (by omega)
    have ih1 := ih m (by omega) (by omega)
    have ej : zs_fsj S j = bif zs_can S j then j + 1 else zs_fsj S (j + 1) := by
      unfold zs_fsj
      rw [show S 14 0 - j = S 14 0 - (j + 1) + 1 by omega, zs_any, zs_first]
      cases zs_can S j <;> rfl
    rw [ej] at ih1
    rw [fX9_firstServable_L12, wI_s, if_neg (nI_pos (by omega)), e, zn_bs]
    cases q : zs_can S j
    · rw [q, cond_false] at ih1
      rw [cond_false, if_pos (show nI 0 = 0 from rfl), fX9_firstServable_B29, show (-1 : Int32) = wI 0 from rfl, zn_waddm]
      exact ih1
    · rw [q, cond_true, wI_s] at ih1
      rw [cond_true, if_neg (show ¬ nI 1 = 0 by decide), fX9_firstServable_B29, show (-1 : Int32) = wI 0 from rfl, zn_waddm]
      exact ih1
theorem zk_firstServable (h : RK (K 1) S) (g : GX u S) : fX9_firstServable K = some (wI (zs_fs S)) := by
  have h8 := g.o8
  have e8 := h.2.2.2.2.1.2.2.2.2.2.2
  have e := zk_firstServable_L h g (fun (l1 : Int32) => some l1) (S 14 0) 5000 (Nat.le_refl _) (by omega)
  rw [show zs_fsj S (S 14 0) = 0 by unfold zs_fsj; rw [Nat.sub_self]; rfl] at e
  unfold fX9_firstServable
  rw [show inb (8 : Int32) 304 = true by decide, zn_gd, show (8 : Int32).toNatClampNeg = 8 from by decide, e8]
  refine Eq.trans e ?_
  unfold zs_fsj zs_fs
  rw [Nat.sub_zero]
theorem zs_fs_0 (h : S 14 0 = 0) : zs_fs S = 0 := by
  have := zs_fs_le S
  omega
theorem zk_servesAll_L : ∀ d (S : SM) (u n a : Nat) (N : Mem), S 14 0 ≤ d → d < n → RK (N 1) S → GX u S → S 99 0 = 0 → S 1 1 = 0 → u + 24 * d ≤ 200000 → ∃ z, fX9_servesAll_L7 K n (fun (N : Mem) (l1 : Int32) => some (l1, (sr (sr K 1 (N 1)) 8 (N 8)))) N (nI a) (wI (zs_fs S)) = some (nI (a + (zo_all d S).2), z) ∧ RK (z 1) (zo_all d S).1 := by
  intro d
  induction d with
  | zero =>
    intro S u n a N ho hn h g h99 hw hu
    obtain ⟨m, rfl⟩ : ∃ m, n = m + 1 := ⟨n - 1, by omega⟩
    rw [fX9_servesAll_L7, zs_fs_0 (by omega), if_pos (show wI 0 = -1 from rfl)]
    exact ⟨_, rfl, h⟩
  | succ d ih =>
    intro S u n a N ho hn h g h99 hw hu
    obtain ⟨m, rfl⟩ : ∃ m, n = m + 1 := ⟨n - 1, by omega⟩
    have fl := zs_fs_le S
    have h8 := g.o8
    rw [fX9_servesAll_L7, zo_all]
    by_cases q : zs_fs S = 0
    · rw [if_pos q, q, if_pos (show wI 0 = -1 from rfl)]
      exact ⟨_, rfl, h⟩
    · rw [if_neg q]
      have q0 : 0 < zs_fs S := by omega
      have q1 : ¬ wI (zs_fs S) = -1 := by
        rw [← wI_0, zn_weq (by omega) (by omega)]
        exact q
      rw [if_neg q1, wI_p q0]
      obtain ⟨a1, a2, a3, a4, a5, a6⟩ := zo_srv_r S (zs_fs S - 1) hw
      have g1 : GX (u + 24) (zo_srv S (zs_fs S - 1)) := g.serve h99 hw (by omega) (by omega)
      refine zn_bk2 (zk_serves (K := sr (sr K 1 (N 1)) 8 (N 8)) (S := S) (u := u) h g h99 hw (r := zs_fs S - 1) (by omega) (zs_fs_can q0) (by omega)) (fun z h1 => ?_)
      have e := zk_firstServable (K := sr (sr K 1 (z 1)) 8 (z 8)) (S := zo_srv S (zs_fs S - 1)) h1 g1
      rw [e, zn_bs]
      simp only [nI_add]
      rw [show a + (zo_cost S (zs_fs S - 1) + (zo_all d (zo_srv S (zs_fs S - 1))).2) = (a + zo_cost S (zs_fs S - 1)) + (zo_all d (zo_srv S (zs_fs S - 1))).2 by omega]
      exact ih (zo_srv S (zs_fs S - 1)) (u + 24) m (a + zo_cost S (zs_fs S - 1)) _ (by omega) (by omega) h1 g1 a4 a2 (by omega)
theorem zk_servesAll (h : RK (K 1) S) (g : GX u S) (h99 : S 99 0 = 0) (hw : S 1 1 = 0) (hu : u + 192 ≤ 200000) : ∃ z, fX9_servesAll K = some (nI (zo_all 8 S).2, z) ∧ RK (z 1) (zo_all 8 S).1 := by
  have e := zk_firstServable h g
  have e2 := zk_servesAll_L (K := K) 8 S u 5000 0 K g.o8 (by omega) h g h99 hw (by omega)
  rw [Nat.zero_add] at e2
  unfold fX9_servesAll
  rw [e, zn_bs]
  exact e2
theorem zk_putAside_L {kx : Mem → Option Mem} {Q : Mem → Prop} (hk : ∀ N, (∀ i, i < 304 → N 2 i = K 1 i) → ∃ z, kx N = some z ∧ Q z) : ∀ d j n N, j + d = 304 → d < n → (∀ i, i < j → N 2 i = K 1 i) → ∃ z, fX9_putAside_L2 K n kx N (nI j) = some z ∧ Q z := by
  intro d
  induction d with
  | zero =>
    intro j n N hj hn h
    obtain ⟨m, rfl⟩ : ∃ m, n = m + 1 := ⟨n - 1, by omega⟩
    have c : 304 ≤ j := by omega
    rw [fX9_putAside_L2]
    simp (disch := omega) only [li0, li1, li2, li3, li4, li5, li6, li7, li8, li9, li10, li12, li13, li14, li15, li19, li20, li31, li33, li40, li42, li44, li48, li57, li60, li99, li100, li126, li150, li176, li177, li187, li197, li207, li208, li223, li304, li608, li1520, li1824, nI_add, pk_mul, nI_clamp, nI_leI, nI_ltI, nI_eq, zn_inb, zn_gd, zn_bs, zn_isb, not_true_eq_false, not_false_eq_true, ↓reduceIte, pk_div, pk_sub, zn_rem20, zn_rem2, zn_m1, zn_eqw, zn_weq, zn_weq2, zn_wlt0, zn_wltn, zn_win, zn_wcl, zn_wadd, Nat.not_lt_zero, Nat.one_ne_zero, Nat.zero_ne_one, Nat.le_refl, Nat.zero_le, zn_sel_r, zn_sel_l, c]
    exact hk _ (fun i hi => h i (by omega))
  | succ d ih =>
    intro j n N hj hn h
    obtain ⟨m, rfl⟩ : ∃ m, n = m + 1 := ⟨n - 1, by omega⟩
    have c : ¬ 304 ≤ j := by omega
    rw [fX9_putAside_L2]
    simp (disch := omega) only [li0, li1, li2, li3, li4, li5, li6, li7, li8, li9, li10, li12, li13, li14, li15, li19, li20, li31, li33, li40, li42, li44, li48, li57, li60, li99, li100, li126, li150, li176, li177, li187, li197, li207, li208, li223, li304, li608, li1520, li1824, nI_add, pk_mul, nI_clamp, nI_leI, nI_ltI, nI_eq, zn_inb, zn_gd, zn_bs, zn_isb, not_true_eq_false, not_false_eq_true, ↓reduceIte, pk_div, pk_sub, zn_rem20, zn_rem2, zn_m1, zn_eqw, zn_weq, zn_weq2, zn_wlt0, zn_wltn, zn_win, zn_wcl, zn_wadd, Nat.not_lt_zero, Nat.one_ne_zero, Nat.zero_ne_one, Nat.le_refl, Nat.zero_le, zn_sel_r, zn_sel_l, c]
    refine ih (j + 1) m _ (by omega) (by omega) (fun i hi => ?_)
    show upd (N 2) j (K 1 j) i = K 1 i
    by_cases e : i = j
    · rw [e]
      exact up_s _ _ _
    · rw [up_n e]
      exact h i (by omega)
theorem zk_putAside : ∃ z, fX9_putAside K = some z ∧ (∀ i, i < 304 → z 2 i = K 1 i) := by
  unfold fX9_putAside
  exact zk_putAside_L (fun N hN => ⟨_, rfl, hN⟩) 304 0 5000 K (by omega) (by omega) (fun i hi => absurd hi (by omega))
theorem zk_takeBack_L {kx : Mem → Option Mem} {Q : Mem → Prop} (hk : ∀ N, (∀ i, i < 304 → N 1 i = K 2 i) → ∃ z, kx N = some z ∧ Q z) : ∀ d j n N, j + d = 304 → d < n → (∀ i, i < j → N 1 i = K 2 i) → ∃ z, fX9_takeBack_L2 K n kx N (nI j) = some z ∧ Q z := by
  intro d
  induction d with
  | zero =>
    intro j n N hj hn h
    obtain ⟨m, rfl⟩ : ∃ m, n = m + 1 := ⟨n - 1, by omega⟩
    have c : 304 ≤ j := by omega
    rw [fX9_takeBack_L2]
    simp (disch := omega) only [li0, li1, li2, li3, li4, li5, li6, li7, li8, li9, li10, li12, li13, li14, li15, li19, li20, li31, li33, li40, li42, li44, li48, li57, li60, li99, li100, li126, li150, li176, li177, li187, li197, li207, li208, li223, li304, li608, li1520, li1824, nI_add, pk_mul, nI_clamp, nI_leI, nI_ltI, nI_eq, zn_inb, zn_gd, zn_bs, zn_isb, not_true_eq_false, not_false_eq_true, ↓reduceIte, pk_div, pk_sub, zn_rem20, zn_rem2, zn_m1, zn_eqw, zn_weq, zn_weq2, zn_wlt0, zn_wltn, zn_win, zn_wcl, zn_wadd, Nat.not_lt_zero, Nat.one_ne_zero, Nat.zero_ne_one, Nat.le_refl, Nat.zero_le, zn_sel_r, zn_sel_l, c]
    exact hk _ (fun i hi => h i (by omega))
  | succ d ih =>
    intro j n N hj hn h
    obtain ⟨m, rfl⟩ : ∃ m, n = m + 1 := ⟨n - 1, by omega⟩
    have c : ¬ 304 ≤ j := by omega
    rw [fX9_takeBack_L2]
    simp (disch := omega) only [li0, li1, li2, li3, li4, li5, li6, li7, li8, li9, li10, li12, li13, li14, li15, li19, li20, li31, li33, li40, li42, li44, li48, li57, li60, li99, li100, li126, li150, li176, li177, li187, li197, li207, li208, li223, li304, li608, li1520, li1824, nI_add, pk_mul, nI_clamp, nI_leI, nI_ltI, nI_eq, zn_inb, zn_gd, zn_bs, zn_isb, not_true_eq_false, not_false_eq_true, ↓reduceIte, pk_div, pk_sub, zn_rem20, zn_rem2, zn_m1, zn_eqw, zn_weq, zn_weq2, zn_wlt0, zn_wltn, zn_win, zn_wcl, zn_wadd, Nat.not_lt_zero, Nat.one_ne_zero, Nat.zero_ne_one, Nat.le_refl, Nat.zero_le, zn_sel_r, zn_sel_l, c]
    refine ih (j + 1) m _ (by omega) (by omega) (fun i hi => ?_)
    show upd (N 1) j (K 2 j) i = K 2 i
    by_cases e : i = j
    · rw [e]
      exact up_s _ _ _
    · rw [up_n e]
      exact h i (by omega)
theorem zk_takeBack : ∃ z, fX9_takeBack K = some z ∧ (∀ i, i < 304 → z 1 i = K 2 i) := by
  unfold fX9_takeBack
  exact zk_takeBack_L (fun N hN => ⟨_, rfl, hN⟩) 304 0 5000 K (by omega) (by omega) (fun i hi => absurd hi (by omega))
theorem zk_servesAside (h : RK (K 1) S) (g : GX u S) (h99 : S 99 0 = 0) (hw : S 1 1 = 0) {r : Nat} (hr : r < S 14 0) (hcan : zs_can S r = true) (hu : u + 24 ≤ 200000) : ∃ z, fX9_servesAside K (nI r) = some (nI (zo_cost S r), z) ∧ RK (z 1) S := by
  unfold fX9_servesAside
  refine zn_bk1 zk_putAside (fun y hy => ?_)
  refine zn_bk2 (zk_serves (K := sr K 2 (y 2)) h g h99 hw hr hcan hu) (fun x hx => ?_)
  refine zn_bk1 zk_takeBack (fun z hz => ?_)
  refine ⟨_, rfl, ?_⟩
  exact h.of g.c12 g.o8 (fun i hi => (hz i hi).trans (hy i hi))
/-- the cheapest order, and 1, with its ticks -/
noncomputable def zs_cp (S : SM) : Nat → Nat × Nat := zs_it (fun r x => if zs_can S r = true ∧ (x.1 = 0 ∨ ¬ x.2 ≤ zo_cost S r) then (r + 1, zo_cost S r) else x) (0, 0)
theorem zo_cost_le (g : GX u S) (h99 : S 99 0 = 0) (hw : S 1 1 = 0) (hu : u + 24 ≤ 200000) (r : Nat) : zo_cost S r ≤ 8000000 := by
  have g1 := g.on.loop (r := r) (set := zs_set S r) rfl hw hu (S 1 0) (Nat.le_refl _)
  have := g1.2.2.2.2.2.2.2.2.1
  have hc := g.c12
  unfold zo_cost
  omega
theorem zs_cp_le (g : GX u S) (h99 : S 99 0 = 0) (hw : S 1 1 = 0) (hu : u + 24 ≤ 200000) : ∀ n, (zs_cp S n).1 ≤ n ∧ (zs_cp S n).2 ≤ 8000000
  | 0 => ⟨Nat.le_refl _, Nat.zero_le _⟩
  | n + 1 => by
    have ih := zs_cp_le g h99 hw hu n
    have b := zo_cost_le g h99 hw hu n
    have e : zs_cp S (n + 1) = if zs_can S n = true ∧ ((zs_cp S n).1 = 0 ∨ ¬ (zs_cp S n).2 ≤ zo_cost S n) then (n + 1, zo_cost S n) else zs_cp S n := rfl
    rw [e]
    split
    · exact ⟨Nat.le_refl _, b⟩
    · exact ⟨Nat.le_succ_of_le ih.1, ih.2⟩
theorem zk_hasWindow (h : RK (K 1) S) (hw : S 1 1 ≤ 12) : fX9_hasWindow K = some (nI (if S 1 1 = 0 then 0 else 1)) := by
  have e := h.2.1
  unfold fX9_hasWindow
  by_cases c : S 1 1 = 0
  · simp (disch := omega) only [li0, li1, li2, li3, li4, li5, li6, li7, li8, li9, li10, li12, li13, li14, li15, li19, li20, li31, li33, li40, li42, li44, li48, li57, li60, li99, li100, li126, li150, li176, li177, li187, li197, li207, li208, li223, li304, li608, li1520, li1824, nI_add, pk_mul, nI_clamp, nI_leI, nI_ltI, nI_eq, zn_inb, zn_gd, zn_bs, zn_isb, not_true_eq_false, not_false_eq_true, ↓reduceIte, pk_div, pk_sub, zn_rem20, zn_rem2, zn_m1, zn_eqw, zn_weq, zn_weq2, zn_wlt0, zn_wltn, zn_win, zn_wcl, zn_wadd, Nat.not_lt_zero, Nat.one_ne_zero, Nat.zero_ne_one, Nat.le_refl, Nat.zero_le, zn_sel_r, zn_sel_l, e, eq_true c, fX9_hasWindow_B15]
  · simp (disch := omega) only [li0, li1, li2, li3, li4, li5, li6, li7, li8, li9, li10, li12, li13, li14, li15, li19, li20, li31, li33, li40, li42, li44, li48, li57, li60, li99, li100, li126, li150, li176, li177, li187, li197, li207, li208, li223, li304, li608, li1520, li1824, nI_add, pk_mul, nI_clamp, nI_leI, nI_ltI, nI_eq, zn_inb, zn_gd, zn_bs, zn_isb, not_true_eq_false, not_false_eq_true, ↓reduceIte, pk_div, pk_sub, zn_rem20, zn_rem2, zn_m1, zn_eqw, zn_weq, zn_weq2, zn_wlt0, zn_wltn, zn_win, zn_wcl, zn_wadd, Nat.not_lt_zero, Nat.one_ne_zero, Nat.zero_ne_one, Nat.le_refl, Nat.zero_le, zn_sel_r, zn_sel_l, e, c, fX9_hasWindow_B15]
theorem zk_cheapest_L (g : GX u S) (h99 : S 99 0 = 0) (hw : S 1 1 = 0) (hu : u + 24 ≤ 200000) {kx : Mem → Int32 → Option (Int32 × Mem)} {w : Int32} {Q : Mem → Prop} (hk : ∀ N, RK (N 1) S → ∃ z, kx N (wI (zs_cp S (S 14 0)).1) = some (w, z) ∧ Q z) : ∀ d r n N, r + d = S 14 0 → d < n → RK (N 1) S → ∃ z, fX9_cheapest_L6 K n kx N (wI (zs_cp S r).1) (nI (zs_cp S r).2) (nI r) = some (w, z) ∧ Q z := by
  have h8 := g.o8
  intro d
  induction d with
  | zero =>
    intro r n N hr hn h
    obtain ⟨m, rfl⟩ : ∃ m, n = m + 1 := ⟨n - 1, by omega⟩
    have c : S 14 0 ≤ r := by omega
    have e8 := h.2.2.2.2.1.2.2.2.2.2.2
    rw [fX9_cheapest_L6]
    simp (disch := omega) only [li0, li1, li2, li3, li4, li5, li6, li7, li8, li9, li10, li12, li13, li14, li15, li19, li20, li31, li33, li40, li42, li44, li48, li57, li60, li99, li100, li126, li150, li176, li177, li187, li197, li207, li208, li223, li304, li608, li1520, li1824, nI_add, pk_mul, nI_clamp, nI_leI, nI_ltI, nI_eq, zn_inb, zn_gd, zn_bs, zn_isb, not_true_eq_false, not_false_eq_true, ↓reduceIte, pk_div, pk_sub, zn_rem20, zn_rem2, zn_m1, zn_eqw, zn_weq, zn_weq2, zn_wlt0, zn_wltn, zn_win, zn_wcl, zn_wadd, Nat.not_lt_zero, Nat.one_ne_zero, Nat.zero_ne_one, Nat.le_refl, Nat.zero_le, zn_sel_r, zn_sel_l, e8, c]
    rw [show r = S 14 0 by omega]
    exact hk _ h
  | succ d ih =>
    intro r n N hr hn h
    obtain ⟨m, rfl⟩ : ∃ m, n = m + 1 := ⟨n - 1, by omega⟩
    have c : ¬ S 14 0 ≤ r := by omega
    have e8 := h.2.2.2.2.1.2.2.2.2.2.2
    have b := zs_cp_le g h99 hw hu r
    have bc := zo_cost_le g h99 hw hu r
    have e1 := zk_hasWindow (K := sr (sr (sr K 1 (N 1)) 2 (N 2)) 8 (N 8)) (S := S) h (by omega)
    rw [if_pos hw] at e1
    have e2 := zk_canBe (K := sr (sr (sr K 1 (N 1)) 2 (N 2)) 8 (N 8)) (S := S) h g (r := r) (by omega)
    have ih1 := fun N => ih (r + 1) m N (by omega) (by omega)
    have e : zs_cp S (r + 1) = if zs_can S r = true ∧ ((zs_cp S r).1 = 0 ∨ ¬ (zs_cp S r).2 ≤ zo_cost S r) then (r + 1, zo_cost S r) else zs_cp S r := rfl
    rw [e] at ih1
    rw [fX9_cheapest_L6]
    cases q : zs_can S r
    · rw [q, if_neg (fun a => by cases a.1)] at ih1
      rw [q, cond_false] at e2
      simp (disch := omega) only [li0, li1, li2, li3, li4, li5, li6, li7, li8, li9, li10, li12, li13, li14, li15, li19, li20, li31, li33, li40, li42, li44, li48, li57, li60, li99, li100, li126, li150, li176, li177, li187, li197, li207, li208, li223, li304, li608, li1520, li1824, nI_add, pk_mul, nI_clamp, nI_leI, nI_ltI, nI_eq, zn_inb, zn_gd, zn_bs, zn_isb, not_true_eq_false, not_false_eq_true, ↓reduceIte, pk_div, pk_sub, zn_rem20, zn_rem2, zn_m1, zn_eqw, zn_weq, zn_weq2, zn_wlt0, zn_wltn, zn_win, zn_wcl, zn_wadd, Nat.not_lt_zero, Nat.one_ne_zero, Nat.zero_ne_one, Nat.le_refl, Nat.zero_le, zn_sel_r, zn_sel_l, e8, c, e1, e2, fX9_cheapest_B41, fX9_cheapest_B64, fX9_cheapest_B65, fX9_cheapest_B77, fX9_cheapest_B89]
      exact ih1 _ h
    · rw [q] at ih1
      rw [q, cond_true] at e2
      simp (disch := omega) only [li0, li1, li2, li3, li4, li5, li6, li7, li8, li9, li10, li12, li13, li14, li15, li19, li20, li31, li33, li40, li42, li44, li48, li57, li60, li99, li100, li126, li150, li176, li177, li187, li197, li207, li208, li223, li304, li608, li1520, li1824, nI_add, pk_mul, nI_clamp, nI_leI, nI_ltI, nI_eq, zn_inb, zn_gd, zn_bs, zn_isb, not_true_eq_false, not_false_eq_true, ↓reduceIte, pk_div, pk_sub, zn_rem20, zn_rem2, zn_m1, zn_eqw, zn_weq, zn_weq2, zn_wlt0, zn_wltn, zn_win, zn_wcl, zn_wadd, Nat.not_lt_zero, Nat.one_ne_zero, Nat.zero_ne_one, Nat.le_refl, Nat.zero_le, zn_sel_r, zn_sel_l, e8, c, e1, e2]
      refine zn_bk2 (zk_servesAside (K := sr (sr (sr K 1 (N 1)) 2 (N 2)) 8 (N 8)) (S := S) h g h99 hw (r := r) (by omega) q hu) (fun z h1 => ?_)
      by_cases q1 : (zs_cp S r).1 = 0
      · rw [if_pos ⟨rfl, Or.inl q1⟩] at ih1
        simp only [wI_s] at ih1
        simp (disch := omega) only [li0, li1, li2, li3, li4, li5, li6, li7, li8, li9, li10, li12, li13, li14, li15, li19, li20, li31, li33, li40, li42, li44, li48, li57, li60, li99, li100, li126, li150, li176, li177, li187, li197, li207, li208, li223, li304, li608, li1520, li1824, nI_add, pk_mul, nI_clamp, nI_leI, nI_ltI, nI_eq, zn_inb, zn_gd, zn_bs, zn_isb, not_true_eq_false, not_false_eq_true, ↓reduceIte, pk_div, pk_sub, zn_rem20, zn_rem2, zn_m1, zn_eqw, zn_weq, zn_weq2, zn_wlt0, zn_wltn, zn_win, zn_wcl, zn_wadd, Nat.not_lt_zero, Nat.one_ne_zero, Nat.zero_ne_one, Nat.le_refl, Nat.zero_le, zn_sel_r, zn_sel_l, eq_true q1, fX9_cheapest_B41, fX9_cheapest_B60, fX9_cheapest_B65, fX9_cheapest_B77, fX9_cheapest_B89]
        exact ih1 _ h1
      · by_cases q2 : (zs_cp S r).2 ≤ zo_cost S r
        · rw [if_neg (fun a => by
            rcases a.2 with b1 | b1
            · exact q1 b1
            · exact b1 q2)] at ih1
          simp (disch := omega) only [li0, li1, li2, li3, li4, li5, li6, li7, li8, li9, li10, li12, li13, li14, li15, li19, li20, li31, li33, li40, li42, li44, li48, li57, li60, li99, li100, li126, li150, li176, li177, li187, li197, li207, li208, li223, li304, li608, li1520, li1824, nI_add, pk_mul, nI_clamp, nI_leI, nI_ltI, nI_eq, zn_inb, zn_gd, zn_bs, zn_isb, not_true_eq_false, not_false_eq_true, ↓reduceIte, pk_div, pk_sub, zn_rem20, zn_rem2, zn_m1, zn_eqw, zn_weq, zn_weq2, zn_wlt0, zn_wltn, zn_win, zn_wcl, zn_wadd, Nat.not_lt_zero, Nat.one_ne_zero, Nat.zero_ne_one, Nat.le_refl, Nat.zero_le, zn_sel_r, zn_sel_l, q1, q2, fX9_cheapest_B41, fX9_cheapest_B64, fX9_cheapest_B65, fX9_cheapest_B77, fX9_cheapest_B89]
          exact ih1 _ h1
        · rw [if_pos ⟨rfl, Or.inr q2⟩] at ih1
          simp only [wI_s] at ih1
          simp (disch := omega) only [li0, li1, li2, li3, li4, li5, li6, li7, li8, li9, li10, li12, li13, li14, li15, li19, li20, li31, li33, li40, li42, li44, li48, li57, li60, li99, li100, li126, li150, li176, li177, li187, li197, li207, li208, li223, li304, li608, li1520, li1824, nI_add, pk_mul, nI_clamp, nI_leI, nI_ltI, nI_eq, zn_inb, zn_gd, zn_bs, zn_isb, not_true_eq_false, not_false_eq_true, ↓reduceIte, pk_div, pk_sub, zn_rem20, zn_rem2, zn_m1, zn_eqw, zn_weq, zn_weq2, zn_wlt0, zn_wltn, zn_win, zn_wcl, zn_wadd, Nat.not_lt_zero, Nat.one_ne_zero, Nat.zero_ne_one, Nat.le_refl, Nat.zero_le, zn_sel_r, zn_sel_l, q1, q2, fX9_cheapest_B41, fX9_cheapest_B60, fX9_cheapest_B65, fX9_cheapest_B77, fX9_cheapest_B89]
          exact ih1 _ h1
/-- the cheapest order, and 1; 0 if there is none, or a shelf is at the window -/
noncomputable def zs_ch (S : SM) : Nat := if S 1 1 = 0 then (zs_cp S (S 14 0)).1 else 0
theorem zk_cheapest (h : RK (K 1) S) (g : GX u S) (h99 : S 99 0 = 0) (hu : u + 24 ≤ 200000) : ∃ z, fX9_cheapest K = some (wI (zs_ch S), z) ∧ RK (z 1) S := by
  unfold fX9_cheapest zs_ch
  by_cases hw : S 1 1 = 0
  · rw [if_pos hw]
    exact zk_cheapest_L (K := K) g h99 hw hu (w := wI (zs_cp S (S 14 0)).1) (fun N hN => ⟨_, rfl, hN⟩) (S 14 0) 0 5000 K (by omega) (by have := g.o8; omega) h
  · rw [if_neg hw]
    have e8 := h.2.2.2.2.1.2.2.2.2.2.2
    have h8 := g.o8
    have hc := g.c12
    have hw2 := g.1.2.1
    have e1 := zk_hasWindow (K := sr (sr (sr K 1 (K 1)) 2 (K 2)) 8 (K 8)) (S := S) h (by omega)
    rw [if_neg hw] at e1
    rw [show (5000 : Nat) = 4999 + 1 from rfl, fX9_cheapest_L6]
    by_cases c : S 14 0 ≤ 0
    · simp (disch := omega) only [li0, li1, li2, li3, li4, li5, li6, li7, li8, li9, li10, li12, li13, li14, li15, li19, li20, li31, li33, li40, li42, li44, li48, li57, li60, li99, li100, li126, li150, li176, li177, li187, li197, li207, li208, li223, li304, li608, li1520, li1824, nI_add, pk_mul, nI_clamp, nI_leI, nI_ltI, nI_eq, zn_inb, zn_gd, zn_bs, zn_isb, not_true_eq_false, not_false_eq_true, ↓reduceIte, pk_div, pk_sub, zn_rem20, zn_rem2, zn_m1, zn_eqw, zn_weq, zn_weq2, zn_wlt0, zn_wltn, zn_win, zn_wcl, zn_wadd, Nat.not_lt_zero, Nat.one_ne_zero, Nat.zero_ne_one, Nat.le_refl, Nat.zero_le, zn_sel_r, zn_sel_l, e8, c]
      exact ⟨_, rfl, h⟩
    · simp (disch := omega) only [li0, li1, li2, li3, li4, li5, li6, li7, li8, li9, li10, li12, li13, li14, li15, li19, li20, li31, li33, li40, li42, li44, li48, li57, li60, li99, li100, li126, li150, li176, li177, li187, li197, li207, li208, li223, li304, li608, li1520, li1824, nI_add, pk_mul, nI_clamp, nI_leI, nI_ltI, nI_eq, zn_inb, zn_gd, zn_bs, zn_isb, not_true_eq_false, not_false_eq_true, ↓reduceIte, pk_div, pk_sub, zn_rem20, zn_rem2, zn_m1, zn_eqw, zn_weq, zn_weq2, zn_wlt0, zn_wltn, zn_win, zn_wcl, zn_wadd, Nat.not_lt_zero, Nat.one_ne_zero, Nat.zero_ne_one, Nat.le_refl, Nat.zero_le, zn_sel_r, zn_sel_l, e8, c, e1]
      exact ⟨_, rfl, h⟩
end
