/-! the reference: its row of ints as numbers; what its reading methods answer -/
def RK (s : Nat → Int32) (S : SM) : Prop := s 0 = nI (S 1 0) ∧ s 1 = wI (S 1 1) ∧ (∀ f, f < S 1 0 → s (9 + 14 * f) = nI (S 2 f) ∧ s (9 + 14 * f + 1) = nI (S 3 f / 20) ∧ s (9 + 14 * f + 2) = nI (S 3 f % 20) ∧ s (9 + 14 * f + 3) = nI (S 4 f)) ∧ (∀ f k, f < S 1 0 → k < 10 → s (9 + 14 * f + (4 + k)) = nI (S 5 (f * 10 + k))) ∧ (s 2 = nI (S 6 0) ∧ s 3 = nI (S 6 1) ∧ s 4 = nI (S 6 2) ∧ s 5 = nI (S 6 3) ∧ s 6 = nI (S 0 4) ∧ s 7 = nI (S 6 4) ∧ s 8 = nI (S 14 0)) ∧ (∀ k, k < 10 → s (177 + k) = nI (S 10 k) ∧ s (187 + k) = nI (S 11 k) ∧ s (197 + k) = nI (S 12 k) - nI (S 13 k)) ∧ (∀ i, i < 8 → s (207 + 2 * i) = nI (S 7 i) ∧ s (207 + 2 * i + 1) = nI (S 8 i)) ∧ (∀ r k, r < S 14 0 → k < 10 → s (223 + 10 * r + k) = nI (S 15 (r * 10 + k)))
/-- a tower while it is packed: places from 40 on are none -/
def GK (S : SM) : Prop := S 1 0 ≤ 12 ∧ S 1 1 ≤ S 1 0 ∧ (∀ f, f < S 1 0 → 1 ≤ S 2 f ∧ S 2 f ≤ 4 ∧ S 3 f < 60 ∧ S 3 f % 20 + S 2 f ≤ 20) ∧ (∀ f g, f < g → g < S 1 0 → S 3 f < 40 → S 3 g < 40 → S 3 f + S 2 f ≤ S 3 g ∨ S 3 g + S 2 g ≤ S 3 f)
theorem GT.k {S : SM} (g : GT S) : GK S := ⟨g.1, g.2.1, fun f hf => by have := g.2.2.1 f hf; omega, fun f k h1 h2 _ _ => g.2.2.2.2.2 f k h1 h2⟩
theorem zs_oc_one {S : SM} (g : GK S) {p f k : Nat} (hp : p < 40) (hf : f < S 1 0) (hk : k < S 1 0) (h1 : zs_oc S p f = true) (h2 : zs_oc S p k = true) : f = k := by
  unfold zs_oc at h1 h2
  rw [decide_eq_true_eq] at h1 h2
  rcases Nat.lt_trichotomy f k with q | q | q
  · have := g.2.2.2 f k q hk (by omega) (by omega)
    omega
  · exact q
  · have := g.2.2.2 k f q hf (by omega) (by omega)
    omega
def zs_on (S : SM) (p : Nat) : Nat → Nat := zs_it (fun f w => bif zs_oc S p f then f + 1 else w) 0
theorem zs_on_n {S : SM} {p : Nat} : ∀ {n : Nat}, (∀ f, f < n → zs_oc S p f = false) → zs_on S p n = 0
  | 0, _ => rfl
  | n + 1, h => by
    show (bif zs_oc S p n then n + 1 else zs_on S p n) = 0
    rw [h n (by omega), cond_false]
    exact zs_on_n (fun f hf => h f (by omega))
theorem zs_on_s {S : SM} {p v : Nat} : ∀ {n : Nat}, v < n → zs_oc S p v = true → (∀ f, f < n → zs_oc S p f = true → f = v) → zs_on S p n = v + 1
  | 0, h, _, _ => absurd h (Nat.not_lt_zero v)
  | n + 1, h, hv, hu => by
    show (bif zs_oc S p n then n + 1 else zs_on S p n) = v + 1
    by_cases e : n = v
    · subst e
      rw [hv, cond_true]
    · have : zs_oc S p n = false := by
        cases q : zs_oc S p n
        · rfl
        · exact absurd (hu n (by omega) q) e
      rw [this, cond_false]
      exact zs_on_s (by omega) hv (fun f hf hq => hu f (by omega) hq)
theorem zs_on_ho {S : SM} (g : GK S) {p : Nat} (hp : p < 40) : zs_on S p (S 1 0) = zs_ho S p := by
  unfold zs_ho
  cases e : zs_any (zs_oc S p) (S 1 0) 0
  · exact zs_on_n (zs_none0.mp e)
  · obtain ⟨-, b, c, d⟩ := zs_first_s _ _ _ e
    exact zs_on_s (by omega) c (fun f hf hq => zs_oc_one g hp hf (by omega) hq c)
section
variable {K : Mem} {S : SM}
theorem zk_of0 (h : RK (K 1) S) (hc : S 1 0 ≤ 12) {f : Nat} (hf : f < S 1 0) : fX9_of K (nI f) (nI 0) = some (nI (S 2 f)) := by
  have e := (h.2.2.1 f hf).1
  unfold fX9_of
  simp (disch := omega) only [li0, li1, li2, li3, li4, li5, li6, li7, li8, li9, li10, li12, li13, li14, li15, li19, li20, li31, li33, li40, li42, li44, li48, li57, li60, li99, li100, li126, li150, li176, li177, li187, li197, li207, li208, li223, li304, li608, li1520, li1824, nI_add, pk_mul, nI_clamp, nI_leI, nI_ltI, nI_eq, zn_inb, zn_gd, zn_bs, zn_isb, not_true_eq_false, not_false_eq_true, ↓reduceIte, pk_div, pk_sub, zn_rem20, zn_rem2, zn_m1, zn_eqw, zn_weq, zn_weq2, zn_wlt0, zn_wltn, zn_win, zn_wcl, zn_wadd, Nat.not_lt_zero, Nat.one_ne_zero, Nat.zero_ne_one, Nat.le_refl, Nat.zero_le, zn_sel_r, zn_sel_l, e, Nat.add_zero]
theorem zk_of1 (h : RK (K 1) S) (hc : S 1 0 ≤ 12) {f : Nat} (hf : f < S 1 0) : fX9_of K (nI f) (nI 1) = some (nI (S 3 f / 20)) := by
  have e := (h.2.2.1 f hf).2.1
  unfold fX9_of
  simp (disch := omega) only [li0, li1, li2, li3, li4, li5, li6, li7, li8, li9, li10, li12, li13, li14, li15, li19, li20, li31, li33, li40, li42, li44, li48, li57, li60, li99, li100, li126, li150, li176, li177, li187, li197, li207, li208, li223, li304, li608, li1520, li1824, nI_add, pk_mul, nI_clamp, nI_leI, nI_ltI, nI_eq, zn_inb, zn_gd, zn_bs, zn_isb, not_true_eq_false, not_false_eq_true, ↓reduceIte, pk_div, pk_sub, zn_rem20, zn_rem2, zn_m1, zn_eqw, zn_weq, zn_weq2, zn_wlt0, zn_wltn, zn_win, zn_wcl, zn_wadd, Nat.not_lt_zero, Nat.one_ne_zero, Nat.zero_ne_one, Nat.le_refl, Nat.zero_le, zn_sel_r, zn_sel_l, e]
theorem zk_of2 (h : RK (K 1) S) (hc : S 1 0 ≤ 12) {f : Nat} (hf : f < S 1 0) : fX9_of K (nI f) (nI 2) = some (nI (S 3 f % 20)) := by
  have e := (h.2.2.1 f hf).2.2.1
  unfold fX9_of
  simp (disch := omega) only [li0, li1, li2, li3, li4, li5, li6, li7, li8, li9, li10, li12, li13, li14, li15, li19, li20, li31, li33, li40, li42, li44, li48, li57, li60, li99, li100, li126, li150, li176, li177, li187, li197, li207, li208, li223, li304, li608, li1520, li1824, nI_add, pk_mul, nI_clamp, nI_leI, nI_ltI, nI_eq, zn_inb, zn_gd, zn_bs, zn_isb, not_true_eq_false, not_false_eq_true, ↓reduceIte, pk_div, pk_sub, zn_rem20, zn_rem2, zn_m1, zn_eqw, zn_weq, zn_weq2, zn_wlt0, zn_wltn, zn_win, zn_wcl, zn_wadd, Nat.not_lt_zero, Nat.one_ne_zero, Nat.zero_ne_one, Nat.le_refl, Nat.zero_le, zn_sel_r, zn_sel_l, e]
theorem zk_of3 (h : RK (K 1) S) (hc : S 1 0 ≤ 12) {f : Nat} (hf : f < S 1 0) : fX9_of K (nI f) (nI 3) = some (nI (S 4 f)) := by
  have e := (h.2.2.1 f hf).2.2.2
  unfold fX9_of
  simp (disch := omega) only [li0, li1, li2, li3, li4, li5, li6, li7, li8, li9, li10, li12, li13, li14, li15, li19, li20, li31, li33, li40, li42, li44, li48, li57, li60, li99, li100, li126, li150, li176, li177, li187, li197, li207, li208, li223, li304, li608, li1520, li1824, nI_add, pk_mul, nI_clamp, nI_leI, nI_ltI, nI_eq, zn_inb, zn_gd, zn_bs, zn_isb, not_true_eq_false, not_false_eq_true, ↓reduceIte, pk_div, pk_sub, zn_rem20, zn_rem2, zn_m1, zn_eqw, zn_weq, zn_weq2, zn_wlt0, zn_wltn, zn_win, zn_wcl, zn_wadd, Nat.not_lt_zero, Nat.one_ne_zero, Nat.zero_ne_one, Nat.le_refl, Nat.zero_le, zn_sel_r, zn_sel_l, e]
theorem zk_of4 (h : RK (K 1) S) (hc : S 1 0 ≤ 12) {f k : Nat} (hf : f < S 1 0) (hk : k < 10) : fX9_of K (nI f) (nI (4 + k)) = some (nI (S 5 (f * 10 + k))) := by
  have e := h.2.2.2.1 f k hf hk
  unfold fX9_of
  simp (disch := omega) only [li0, li1, li2, li3, li4, li5, li6, li7, li8, li9, li10, li12, li13, li14, li15, li19, li20, li31, li33, li40, li42, li44, li48, li57, li60, li99, li100, li126, li150, li176, li177, li187, li197, li207, li208, li223, li304, li608, li1520, li1824, nI_add, pk_mul, nI_clamp, nI_leI, nI_ltI, nI_eq, zn_inb, zn_gd, zn_bs, zn_isb, not_true_eq_false, not_false_eq_true, ↓reduceIte, pk_div, pk_sub, zn_rem20, zn_rem2, zn_m1, zn_eqw, zn_weq, zn_weq2, zn_wlt0, zn_wltn, zn_win, zn_wcl, zn_wadd, Nat.not_lt_zero, Nat.one_ne_zero, Nat.zero_ne_one, Nat.le_refl, Nat.zero_le, zn_sel_r, zn_sel_l, e]
theorem zk_in {a b c : Nat} (ha : a < 2 ^ 30) (hb : b < 2 ^ 30) (hc : c < 2 ^ 30) : fX9_in (nI a) (nI b) (nI c) = some (nI (bif decide (b ≤ a ∧ a ≤ c) then 1 else 0)) := by
  unfold fX9_in
  by_cases q : a < b
  · rw [decide_eq_false (by omega)]
    simp (disch := omega) only [li0, li1, li2, li3, li4, li5, li6, li7, li8, li9, li10, li12, li13, li14, li15, li19, li20, li31, li33, li40, li42, li44, li48, li57, li60, li99, li100, li126, li150, li176, li177, li187, li197, li207, li208, li223, li304, li608, li1520, li1824, nI_add, pk_mul, nI_clamp, nI_leI, nI_ltI, nI_eq, zn_inb, zn_gd, zn_bs, zn_isb, not_true_eq_false, not_false_eq_true, ↓reduceIte, pk_div, pk_sub, zn_rem20, zn_rem2, zn_m1, zn_eqw, zn_weq, zn_weq2, zn_wlt0, zn_wltn, zn_win, zn_wcl, zn_wadd, Nat.not_lt_zero, Nat.one_ne_zero, Nat.zero_ne_one, Nat.le_refl, Nat.zero_le, zn_sel_r, zn_sel_l, q, fX9_in_B14, fX9_in_B15, cond_false]
  · by_cases q2 : c < a
    · rw [decide_eq_false (by omega)]
      simp (disch := omega) only [li0, li1, li2, li3, li4, li5, li6, li7, li8, li9, li10, li12, li13, li14, li15, li19, li20, li31, li33, li40, li42, li44, li48, li57, li60, li99, li100, li126, li150, li176, li177, li187, li197, li207, li208, li223, li304, li608, li1520, li1824, nI_add, pk_mul, nI_clamp, nI_leI, nI_ltI, nI_eq, zn_inb, zn_gd, zn_bs, zn_isb, not_true_eq_false, not_false_eq_true, ↓reduceIte, pk_div, pk_sub, zn_rem20, zn_rem2, zn_m1, zn_eqw, zn_weq, zn_weq2, zn_wlt0, zn_wltn, zn_win, zn_wcl, zn_wadd, Nat.not_lt_zero, Nat.one_ne_zero, Nat.zero_ne_one, Nat.le_refl, Nat.zero_le, zn_sel_r, zn_sel_l, q, q2, fX9_in_B14, fX9_in_B15, cond_false]
    · rw [decide_eq_true (by omega)]
      simp (disch := omega) only [li0, li1, li2, li3, li4, li5, li6, li7, li8, li9, li10, li12, li13, li14, li15, li19, li20, li31, li33, li40, li42, li44, li48, li57, li60, li99, li100, li126, li150, li176, li177, li187, li197, li207, li208, li223, li304, li608, li1520, li1824, nI_add, pk_mul, nI_clamp, nI_leI, nI_ltI, nI_eq, zn_inb, zn_gd, zn_bs, zn_isb, not_true_eq_false, not_false_eq_true, ↓reduceIte, pk_div, pk_sub, zn_rem20, zn_rem2, zn_m1, zn_eqw, zn_weq, zn_weq2, zn_wlt0, zn_wltn, zn_win, zn_wcl, zn_wadd, Nat.not_lt_zero, Nat.one_ne_zero, Nat.zero_ne_one, Nat.le_refl, Nat.zero_le, zn_sel_r, zn_sel_l, q, q2, fX9_in_B14, fX9_in_B15, cond_true]
theorem zk_in_neg {a b c : Nat} {x : Int32} (hb : b < 2 ^ 30) (h : a < b) : fX9_in (nI a - nI b) (nI 0) x = some (nI 0) := by
  have e : nI a - nI b < nI 0 := pk_sneg hb h
  unfold fX9_in
  simp (disch := omega) only [li0, li1, li2, li3, li4, li5, li6, li7, li8, li9, li10, li12, li13, li14, li15, li19, li20, li31, li33, li40, li42, li44, li48, li57, li60, li99, li100, li126, li150, li176, li177, li187, li197, li207, li208, li223, li304, li608, li1520, li1824, nI_add, pk_mul, nI_clamp, nI_leI, nI_ltI, nI_eq, zn_inb, zn_gd, zn_bs, zn_isb, not_true_eq_false, not_false_eq_true, ↓reduceIte, pk_div, pk_sub, zn_rem20, zn_rem2, zn_m1, zn_eqw, zn_weq, zn_weq2, zn_wlt0, zn_wltn, zn_win, zn_wcl, zn_wadd, Nat.not_lt_zero, Nat.one_ne_zero, Nat.zero_ne_one, Nat.le_refl, Nat.zero_le, zn_sel_r, zn_sel_l, e, fX9_in_B14, fX9_in_B15]
theorem zk_on_L (h : RK (K 1) S) (g : GK S) {side slot : Nat} (hd : side < 2) (hs : slot < 20) (kx : Int32 → Option Int32) : ∀ d f n, f + d = S 1 0 → d < n → fX9_on_L5 K n kx (nI side) (nI slot) (wI (zs_on S (20 * side + slot) f)) (nI f) = kx (wI (zs_on S (20 * side + slot) (S 1 0))) := by
  have hc := g.1
  have hw := g.2.1
  have h0 := h.1
  have h1 := h.2.1
  intro d
  induction d with
  | zero =>
    intro f n hf hn
    obtain ⟨m, rfl⟩ : ∃ m, n = m + 1 := ⟨n - 1, by omega⟩
    have c : S 1 0 ≤ f := by omega
    rw [fX9_on_L5]
    simp (disch := omega) only [li0, li1, li2, li3, li4, li5, li6, li7, li8, li9, li10, li12, li13, li14, li15, li19, li20, li31, li33, li40, li42, li44, li48, li57, li60, li99, li100, li126, li150, li176, li177, li187, li197, li207, li208, li223, li304, li608, li1520, li1824, nI_add, pk_mul, nI_clamp, nI_leI, nI_ltI, nI_eq, zn_inb, zn_gd, zn_bs, zn_isb, not_true_eq_false, not_false_eq_true, ↓reduceIte, pk_div, pk_sub, zn_rem20, zn_rem2, zn_m1, zn_eqw, zn_weq, zn_weq2, zn_wlt0, zn_wltn, zn_win, zn_wcl, zn_wadd, Nat.not_lt_zero, Nat.one_ne_zero, Nat.zero_ne_one, Nat.le_refl, Nat.zero_le, zn_sel_r, zn_sel_l, h0, c]
    rw [show f = S 1 0 by omega]
  | succ d ih =>
    intro f n hf hn
    obtain ⟨m, rfl⟩ : ∃ m, n = m + 1 := ⟨n - 1, by omega⟩
    have c : ¬ S 1 0 ≤ f := by omega
    have b := g.2.2.1 f (by omega)
    have e0 := zk_of0 h hc (f := f) (by omega)
    have e1 := zk_of1 h hc (f := f) (by omega)
    have e2 := zk_of2 h hc (f := f) (by omega)
    have ih1 := ih (f + 1) m (by omega) (by omega)
    rw [show zs_on S (20 * side + slot) (f + 1) = bif zs_oc S (20 * side + slot) f then f + 1 else zs_on S (20 * side + slot) f from rfl] at ih1
    rw [fX9_on_L5]
    by_cases c1 : S 1 1 = f + 1
    · rw [show zs_oc S (20 * side + slot) f = false from decide_eq_false (by omega), cond_false] at ih1
      simp (disch := omega) only [li0, li1, li2, li3, li4, li5, li6, li7, li8, li9, li10, li12, li13, li14, li15, li19, li20, li31, li33, li40, li42, li44, li48, li57, li60, li99, li100, li126, li150, li176, li177, li187, li197, li207, li208, li223, li304, li608, li1520, li1824, nI_add, pk_mul, nI_clamp, nI_leI, nI_ltI, nI_eq, zn_inb, zn_gd, zn_bs, zn_isb, not_true_eq_false, not_false_eq_true, ↓reduceIte, pk_div, pk_sub, zn_rem20, zn_rem2, zn_m1, zn_eqw, zn_weq, zn_weq2, zn_wlt0, zn_wltn, zn_win, zn_wcl, zn_wadd, Nat.not_lt_zero, Nat.one_ne_zero, Nat.zero_ne_one, Nat.le_refl, Nat.zero_le, zn_sel_r, zn_sel_l, h0, h1, c, c1, fX9_on_B67, fX9_on_B68, fX9_on_B81]
      exact ih1
    · by_cases c2 : S 3 f / 20 = side
      · by_cases c3 : slot < S 3 f % 20
        · rw [show zs_oc S (20 * side + slot) f = false from decide_eq_false (by omega), cond_false] at ih1
          have e3 := zk_in_neg (x := nI (S 2 f - 1)) (c := 0) (by omega) c3
          simp (disch := omega) only [li0, li1, li2, li3, li4, li5, li6, li7, li8, li9, li10, li12, li13, li14, li15, li19, li20, li31, li33, li40, li42, li44, li48, li57, li60, li99, li100, li126, li150, li176, li177, li187, li197, li207, li208, li223, li304, li608, li1520, li1824, nI_add, pk_mul, nI_clamp, nI_leI, nI_ltI, nI_eq, zn_inb, zn_gd, zn_bs, zn_isb, not_true_eq_false, not_false_eq_true, ↓reduceIte, pk_div, pk_sub, zn_rem20, zn_rem2, zn_m1, zn_eqw, zn_weq, zn_weq2, zn_wlt0, zn_wltn, zn_win, zn_wcl, zn_wadd, Nat.not_lt_zero, Nat.one_ne_zero, Nat.zero_ne_one, Nat.le_refl, Nat.zero_le, zn_sel_r, zn_sel_l, h0, h1, c, c1, eq_true c2, e0, e1, e2, e3, fX9_on_B67, fX9_on_B68, fX9_on_B81]
          exact ih1
        · have e3 := zk_in (a := slot - S 3 f % 20) (b := 0) (c := S 2 f - 1) (by omega) (by omega) (by omega)
          by_cases c4 : slot < S 3 f % 20 + S 2 f
          · rw [show zs_oc S (20 * side + slot) f = true from decide_eq_true (by omega), cond_true, wI_s] at ih1
            rw [decide_eq_true (by omega), cond_true] at e3
            simp (disch := omega) only [li0, li1, li2, li3, li4, li5, li6, li7, li8, li9, li10, li12, li13, li14, li15, li19, li20, li31, li33, li40, li42, li44, li48, li57, li60, li99, li100, li126, li150, li176, li177, li187, li197, li207, li208, li223, li304, li608, li1520, li1824, nI_add, pk_mul, nI_clamp, nI_leI, nI_ltI, nI_eq, zn_inb, zn_gd, zn_bs, zn_isb, not_true_eq_false, not_false_eq_true, ↓reduceIte, pk_div, pk_sub, zn_rem20, zn_rem2, zn_m1, zn_eqw, zn_weq, zn_weq2, zn_wlt0, zn_wltn, zn_win, zn_wcl, zn_wadd, Nat.not_lt_zero, Nat.one_ne_zero, Nat.zero_ne_one, Nat.le_refl, Nat.zero_le, zn_sel_r, zn_sel_l, h0, h1, c, c1, eq_true c2, e0, e1, e2, e3, fX9_on_B67, fX9_on_B68, fX9_on_B81]
            exact ih1
          · rw [show zs_oc S (20 * side + slot) f = false from decide_eq_false (by omega), cond_false] at ih1
            rw [decide_eq_false (by omega), cond_false] at e3
            simp (disch := omega) only [li0, li1, li2, li3, li4, li5, li6, li7, li8, li9, li10, li12, li13, li14, li15, li19, li20, li31, li33, li40, li42, li44, li48, li57, li60, li99, li100, li126, li150, li176, li177, li187, li197, li207, li208, li223, li304, li608, li1520, li1824, nI_add, pk_mul, nI_clamp, nI_leI, nI_ltI, nI_eq, zn_inb, zn_gd, zn_bs, zn_isb, not_true_eq_false, not_false_eq_true, ↓reduceIte, pk_div, pk_sub, zn_rem20, zn_rem2, zn_m1, zn_eqw, zn_weq, zn_weq2, zn_wlt0, zn_wltn, zn_win, zn_wcl, zn_wadd, Nat.not_lt_zero, Nat.one_ne_zero, Nat.zero_ne_one, Nat.le_refl, Nat.zero_le, zn_sel_r, zn_sel_l, h0, h1, c, c1, eq_true c2, e0, e1, e2, e3, fX9_on_B67, fX9_on_B68, fX9_on_B81]
            exact ih1
      · rw [show zs_oc S (20 * side + slot) f = false from decide_eq_false (by omega), cond_false] at ih1
        simp (disch := omega) only [li0, li1, li2, li3, li4, li5, li6, li7, li8, li9, li10, li12, li13, li14, li15, li19, li20, li31, li33, li40, li42, li44, li48, li57, li60, li99, li100, li126, li150, li176, li177, li187, li197, li207, li208, li223, li304, li608, li1520, li1824, nI_add, pk_mul, nI_clamp, nI_leI, nI_ltI, nI_eq, zn_inb, zn_gd, zn_bs, zn_isb, not_true_eq_false, not_false_eq_true, ↓reduceIte, pk_div, pk_sub, zn_rem20, zn_rem2, zn_m1, zn_eqw, zn_weq, zn_weq2, zn_wlt0, zn_wltn, zn_win, zn_wcl, zn_wadd, Nat.not_lt_zero, Nat.one_ne_zero, Nat.zero_ne_one, Nat.le_refl, Nat.zero_le, zn_sel_r, zn_sel_l, h0, h1, c, c1, c2, e0, e1, e2, fX9_on_B67, fX9_on_B68, fX9_on_B81]
        exact ih1
theorem zk_on (h : RK (K 1) S) (g : GK S) {side slot : Nat} (hd : side < 2) (hs : slot < 20) : fX9_on K (nI side) (nI slot) = some (wI (zs_ho S (20 * side + slot))) := by
  rw [← zs_on_ho g (by omega)]
  unfold fX9_on
  exact zk_on_L h g hd hs (fun (l3 : Int32) => some l3) (S 1 0) 0 5000 (by omega) (by have := g.1; omega)
def zs_nf (q : Nat → Bool) (p : Nat) : Nat → Nat → Bool := zs_any (fun k => q (p + k))
theorem zk_fits_L (h : RK (K 1) S) (g : GK S) {w side slot : Nat} (hd : side < 2) (hs : slot + w ≤ 20) (hw : w ≤ 4) : ∀ d i n, i + d = w → d < n → fX9_fits_L18 K n (fun (l4 : Int32) => gd (isb l4) (some l4)) (nI w) (nI side) (nI slot) (nI 1) (nI (slot + i)) = some (nI (bif zs_any (fun i => zs_tq S (20 * side + slot + i)) d i then 0 else 1)) := by
  have hc := g.1
  intro d
  induction d with
  | zero =>
    intro i n hi hn
    obtain ⟨m, rfl⟩ : ∃ m, n = m + 1 := ⟨n - 1, by omega⟩
    have c : slot + w ≤ slot + i := by omega
    rw [fX9_fits_L18]
    simp (disch := omega) only [li0, li1, li2, li3, li4, li5, li6, li7, li8, li9, li10, li12, li13, li14, li15, li19, li20, li31, li33, li40, li42, li44, li48, li57, li60, li99, li100, li126, li150, li176, li177, li187, li197, li207, li208, li223, li304, li608, li1520, li1824, nI_add, pk_mul, nI_clamp, nI_leI, nI_ltI, nI_eq, zn_inb, zn_gd, zn_bs, zn_isb, not_true_eq_false, not_false_eq_true, ↓reduceIte, pk_div, pk_sub, zn_rem20, zn_rem2, zn_m1, zn_eqw, zn_weq, zn_weq2, zn_wlt0, zn_wltn, zn_win, zn_wcl, zn_wadd, Nat.not_lt_zero, Nat.one_ne_zero, Nat.zero_ne_one, Nat.le_refl, Nat.zero_le, zn_sel_r, zn_sel_l, c]
    rfl
  | succ d ih =>
    intro i n hi hn
    obtain ⟨m, rfl⟩ : ∃ m, n = m + 1 := ⟨n - 1, by omega⟩
    have c : ¬ slot + w ≤ slot + i := by omega
    have e := zk_on h g hd (slot := slot + i) (by omega)
    have hl := zs_ho_le S (20 * side + (slot + i))
    have z := zs_ho0 S (20 * side + (slot + i))
    have ih1 := ih (i + 1) m (by omega) (by omega)
    rw [zs_any, show 20 * side + slot + i = 20 * side + (slot + i) by omega]
    rw [fX9_fits_L18]
    cases q : zs_tq S (20 * side + (slot + i))
    · have z1 := z.mpr q
      simp (disch := omega) only [li0, li1, li2, li3, li4, li5, li6, li7, li8, li9, li10, li12, li13, li14, li15, li19, li20, li31, li33, li40, li42, li44, li48, li57, li60, li99, li100, li126, li150, li176, li177, li187, li197, li207, li208, li223, li304, li608, li1520, li1824, nI_add, pk_mul, nI_clamp, nI_leI, nI_ltI, nI_eq, zn_inb, zn_gd, zn_bs, zn_isb, not_true_eq_false, not_false_eq_true, ↓reduceIte, pk_div, pk_sub, zn_rem20, zn_rem2, zn_m1, zn_eqw, zn_weq, zn_weq2, zn_wlt0, zn_wltn, zn_win, zn_wcl, zn_wadd, Nat.not_lt_zero, Nat.one_ne_zero, Nat.zero_ne_one, Nat.le_refl, Nat.zero_le, zn_sel_r, zn_sel_l, c, e, z1, fX9_fits_B47, Bool.false_or]
      exact ih1
    · have z1 : ¬ zs_ho S (20 * side + (slot + i)) = 0 := by
        intro a
        rw [z.mp a] at q
        cases q
      simp (disch := omega) only [li0, li1, li2, li3, li4, li5, li6, li7, li8, li9, li10, li12, li13, li14, li15, li19, li20, li31, li33, li40, li42, li44, li48, li57, li60, li99, li100, li126, li150, li176, li177, li187, li197, li207, li208, li223, li304, li608, li1520, li1824, nI_add, pk_mul, nI_clamp, nI_leI, nI_ltI, nI_eq, zn_inb, zn_gd, zn_bs, zn_isb, not_true_eq_false, not_false_eq_true, ↓reduceIte, pk_div, pk_sub, zn_rem20, zn_rem2, zn_m1, zn_eqw, zn_weq, zn_weq2, zn_wlt0, zn_wltn, zn_win, zn_wcl, zn_wadd, Nat.not_lt_zero, Nat.one_ne_zero, Nat.zero_ne_one, Nat.le_refl, Nat.zero_le, zn_sel_r, zn_sel_l, c, e, z1, fX9_fits_B47, Bool.true_or, cond_true]
      obtain ⟨m2, rfl⟩ : ∃ m2, m = m2 + 1 := ⟨m - 1, by omega⟩
      rw [fX9_fits_L18]
      by_cases c2 : slot + w ≤ slot + i + 1
      · simp (disch := omega) only [li0, li1, li2, li3, li4, li5, li6, li7, li8, li9, li10, li12, li13, li14, li15, li19, li20, li31, li33, li40, li42, li44, li48, li57, li60, li99, li100, li126, li150, li176, li177, li187, li197, li207, li208, li223, li304, li608, li1520, li1824, nI_add, pk_mul, nI_clamp, nI_leI, nI_ltI, nI_eq, zn_inb, zn_gd, zn_bs, zn_isb, not_true_eq_false, not_false_eq_true, ↓reduceIte, pk_div, pk_sub, zn_rem20, zn_rem2, zn_m1, zn_eqw, zn_weq, zn_weq2, zn_wlt0, zn_wltn, zn_win, zn_wcl, zn_wadd, Nat.not_lt_zero, Nat.one_ne_zero, Nat.zero_ne_one, Nat.le_refl, Nat.zero_le, zn_sel_r, zn_sel_l, c2]
      · simp (disch := omega) only [li0, li1, li2, li3, li4, li5, li6, li7, li8, li9, li10, li12, li13, li14, li15, li19, li20, li31, li33, li40, li42, li44, li48, li57, li60, li99, li100, li126, li150, li176, li177, li187, li197, li207, li208, li223, li304, li608, li1520, li1824, nI_add, pk_mul, nI_clamp, nI_leI, nI_ltI, nI_eq, zn_inb, zn_gd, zn_bs, zn_isb, not_true_eq_false, not_false_eq_true, ↓reduceIte, pk_div, pk_sub, zn_rem20, zn_rem2, zn_m1, zn_eqw, zn_weq, zn_weq2, zn_wlt0, zn_wltn, zn_win, zn_wcl, zn_wadd, Nat.not_lt_zero, Nat.one_ne_zero, Nat.zero_ne_one, Nat.le_refl, Nat.zero_le, zn_sel_r, zn_sel_l, c2]
theorem zk_fits (h : RK (K 1) S) (g : GK S) {w side slot : Nat} (hd : side < 2) (hs : slot < 20) (hw : w ≤ 4) : fX9_fits K (nI w) (nI side) (nI slot) = some (nI (bif zs_fq (zs_tq S) w (20 * side + slot) then 1 else 0)) := by
  unfold fX9_fits
  by_cases c : 20 < slot + w
  · rw [show zs_fq (zs_tq S) w (20 * side + slot) = false from decide_eq_false (by omega), cond_false]
    simp (disch := omega) only [li0, li1, li2, li3, li4, li5, li6, li7, li8, li9, li10, li12, li13, li14, li15, li19, li20, li31, li33, li40, li42, li44, li48, li57, li60, li99, li100, li126, li150, li176, li177, li187, li197, li207, li208, li223, li304, li608, li1520, li1824, nI_add, pk_mul, nI_clamp, nI_leI, nI_ltI, nI_eq, zn_inb, zn_gd, zn_bs, zn_isb, not_true_eq_false, not_false_eq_true, ↓reduceIte, pk_div, pk_sub, zn_rem20, zn_rem2, zn_m1, zn_eqw, zn_weq, zn_weq2, zn_wlt0, zn_wltn, zn_win, zn_wcl, zn_wadd, Nat.not_lt_zero, Nat.one_ne_zero, Nat.zero_ne_one, Nat.le_refl, Nat.zero_le, zn_sel_r, zn_sel_l, c, fX9_fits_B13]
    rw [fX9_fits_L18]
    by_cases c2 : slot + w ≤ slot
    · simp (disch := omega) only [li0, li1, li2, li3, li4, li5, li6, li7, li8, li9, li10, li12, li13, li14, li15, li19, li20, li31, li33, li40, li42, li44, li48, li57, li60, li99, li100, li126, li150, li176, li177, li187, li197, li207, li208, li223, li304, li608, li1520, li1824, nI_add, pk_mul, nI_clamp, nI_leI, nI_ltI, nI_eq, zn_inb, zn_gd, zn_bs, zn_isb, not_true_eq_false, not_false_eq_true, ↓reduceIte, pk_div, pk_sub, zn_rem20, zn_rem2, zn_m1, zn_eqw, zn_weq, zn_weq2, zn_wlt0, zn_wltn, zn_win, zn_wcl, zn_wadd, Nat.not_lt_zero, Nat.one_ne_zero, Nat.zero_ne_one, Nat.le_refl, Nat.zero_le, zn_sel_r, zn_sel_l, c2]
    · simp (disch := omega) only [li0, li1, li2, li3, li4, li5, li6, li7, li8, li9, li10, li12, li13, li14, li15, li19, li20, li31, li33, li40, li42, li44, li48, li57, li60, li99, li100, li126, li150, li176, li177, li187, li197, li207, li208, li223, li304, li608, li1520, li1824, nI_add, pk_mul, nI_clamp, nI_leI, nI_ltI, nI_eq, zn_inb, zn_gd, zn_bs, zn_isb, not_true_eq_false, not_false_eq_true, ↓reduceIte, pk_div, pk_sub, zn_rem20, zn_rem2, zn_m1, zn_eqw, zn_weq, zn_weq2, zn_wlt0, zn_wltn, zn_win, zn_wcl, zn_wadd, Nat.not_lt_zero, Nat.one_ne_zero, Nat.zero_ne_one, Nat.le_refl, Nat.zero_le, zn_sel_r, zn_sel_l, c2]
  · have e := zk_fits_L h g hd (w := w) (slot := slot) (by omega) hw w 0 5000 (by omega) (by omega)
    simp (disch := omega) only [li0, li1, li2, li3, li4, li5, li6, li7, li8, li9, li10, li12, li13, li14, li15, li19, li20, li31, li33, li40, li42, li44, li48, li57, li60, li99, li100, li126, li150, li176, li177, li187, li197, li207, li208, li223, li304, li608, li1520, li1824, nI_add, pk_mul, nI_clamp, nI_leI, nI_ltI, nI_eq, zn_inb, zn_gd, zn_bs, zn_isb, not_true_eq_false, not_false_eq_true, ↓reduceIte, pk_div, pk_sub, zn_rem20, zn_rem2, zn_m1, zn_eqw, zn_weq, zn_weq2, zn_wlt0, zn_wltn, zn_win, zn_wcl, zn_wadd, Nat.not_lt_zero, Nat.one_ne_zero, Nat.zero_ne_one, Nat.le_refl, Nat.zero_le, zn_sel_r, zn_sel_l, c, fX9_fits_B13]
    refine e.trans ?_
    cases q : zs_any (fun i => zs_tq S (20 * side + slot + i)) w 0
    · rw [show zs_fq (zs_tq S) w (20 * side + slot) = true from decide_eq_true ⟨by omega, fun i hi => zs_none0.mp q i hi⟩]
      rfl
    · obtain ⟨j, hj, hq⟩ := zs_any0.mp q
      rw [show zs_fq (zs_tq S) w (20 * side + slot) = false from decide_eq_false (fun a => by rw [a.2 j hj] at hq; cases hq)]
      rfl
theorem zk_place_L (h : RK (K 1) S) (g : GK S) {w : Nat} (hw : w ≤ 4) (k1 : Int32 → Option Int32) (k2 : Unit → Option Int32) : ∀ d k n, k + d = 40 → d < n → fX9_place_L2 K n k1 k2 (nI w) (nI k) = bif zs_any (fun k => zs_fq (zs_tq S) w (zs_pk k)) d k then k1 (nI (zs_first (fun k => zs_fq (zs_tq S) w (zs_pk k)) d k)) else k2 () := by
  intro d
  induction d with
  | zero =>
    intro k n hk hn
    obtain ⟨m, rfl⟩ : ∃ m, n = m + 1 := ⟨n - 1, by omega⟩
    have c : 40 ≤ k := by omega
    rw [fX9_place_L2]
    simp (disch := omega) only [li0, li1, li2, li3, li4, li5, li6, li7, li8, li9, li10, li12, li13, li14, li15, li19, li20, li31, li33, li40, li42, li44, li48, li57, li60, li99, li100, li126, li150, li176, li177, li187, li197, li207, li208, li223, li304, li608, li1520, li1824, nI_add, pk_mul, nI_clamp, nI_leI, nI_ltI, nI_eq, zn_inb, zn_gd, zn_bs, zn_isb, not_true_eq_false, not_false_eq_true, ↓reduceIte, pk_div, pk_sub, zn_rem20, zn_rem2, zn_m1, zn_eqw, zn_weq, zn_weq2, zn_wlt0, zn_wltn, zn_win, zn_wcl, zn_wadd, Nat.not_lt_zero, Nat.one_ne_zero, Nat.zero_ne_one, Nat.le_refl, Nat.zero_le, zn_sel_r, zn_sel_l, c]
    rfl
  | succ d ih =>
    intro k n hk hn
    obtain ⟨m, rfl⟩ : ∃ m, n = m + 1 := ⟨n - 1, by omega⟩
    have c : ¬ 40 ≤ k := by omega
    have e := zk_fits h g (side := k % 2) (slot := k / 2) (by omega) (by omega) hw
    have ih1 := ih (k + 1) m (by omega) (by omega)
    rw [zs_any, zs_first, show zs_pk k = 20 * (k % 2) + k / 2 from rfl]
    rw [fX9_place_L2]
    cases q : zs_fq (zs_tq S) w (20 * (k % 2) + k / 2)
    · rw [q, cond_false] at e
      simp (disch := omega) only [li0, li1, li2, li3, li4, li5, li6, li7, li8, li9, li10, li12, li13, li14, li15, li19, li20, li31, li33, li40, li42, li44, li48, li57, li60, li99, li100, li126, li150, li176, li177, li187, li197, li207, li208, li223, li304, li608, li1520, li1824, nI_add, pk_mul, nI_clamp, nI_leI, nI_ltI, nI_eq, zn_inb, zn_gd, zn_bs, zn_isb, not_true_eq_false, not_false_eq_true, ↓reduceIte, pk_div, pk_sub, zn_rem20, zn_rem2, zn_m1, zn_eqw, zn_weq, zn_weq2, zn_wlt0, zn_wltn, zn_win, zn_wcl, zn_wadd, Nat.not_lt_zero, Nat.one_ne_zero, Nat.zero_ne_one, Nat.le_refl, Nat.zero_le, zn_sel_r, zn_sel_l, c, e, Bool.false_or, cond_false]
      exact ih1
    · rw [q, cond_true] at e
      simp (disch := omega) only [li0, li1, li2, li3, li4, li5, li6, li7, li8, li9, li10, li12, li13, li14, li15, li19, li20, li31, li33, li40, li42, li44, li48, li57, li60, li99, li100, li126, li150, li176, li177, li187, li197, li207, li208, li223, li304, li608, li1520, li1824, nI_add, pk_mul, nI_clamp, nI_leI, nI_ltI, nI_eq, zn_inb, zn_gd, zn_bs, zn_isb, not_true_eq_false, not_false_eq_true, ↓reduceIte, pk_div, pk_sub, zn_rem20, zn_rem2, zn_m1, zn_eqw, zn_weq, zn_weq2, zn_wlt0, zn_wltn, zn_win, zn_wcl, zn_wadd, Nat.not_lt_zero, Nat.one_ne_zero, Nat.zero_ne_one, Nat.le_refl, Nat.zero_le, zn_sel_r, zn_sel_l, c, e, Bool.true_or, cond_true]
theorem zk_place (h : RK (K 1) S) (g : GK S) {w : Nat} (hw : w ≤ 4) : fX9_place K (nI w) = some (wI (zs_fp (zs_tq S) w)) := by
  unfold fX9_place zs_fp
  refine (zk_place_L h g hw _ _ 40 0 5000 (by omega) (by omega)).trans ?_
  cases q : zs_any (fun k => zs_fq (zs_tq S) w (zs_pk k)) 40 0
  · rfl
  · have b := (zs_first_s _ _ _ q).2.1
    simp only [cond_true]
    simp (disch := omega) only [li0, li1, li2, li3, li4, li5, li6, li7, li8, li9, li10, li12, li13, li14, li15, li19, li20, li31, li33, li40, li42, li44, li48, li57, li60, li99, li100, li126, li150, li176, li177, li187, li197, li207, li208, li223, li304, li608, li1520, li1824, nI_add, pk_mul, nI_clamp, nI_leI, nI_ltI, nI_eq, zn_inb, zn_gd, zn_bs, zn_isb, not_true_eq_false, not_false_eq_true, ↓reduceIte, pk_div, pk_sub, zn_rem20, zn_rem2, zn_m1, zn_eqw, zn_weq, zn_weq2, zn_wlt0, zn_wltn, zn_win, zn_wcl, zn_wadd, Nat.not_lt_zero, Nat.one_ne_zero, Nat.zero_ne_one, Nat.le_refl, Nat.zero_le, zn_sel_r, zn_sel_l]
    rw [wI_s]
    rfl
theorem zk_way (h : RK (K 1) S) (hc : S 1 0 ≤ 12) {f : Nat} (hf : f < S 1 0) : fX9_way K (nI f) = some (nI (zs_way (S 3 f))) := by
  have e1 := zk_of1 h hc hf
  have e2 := zk_of2 h hc hf
  unfold fX9_way
  simp (disch := omega) only [li0, li1, li2, li3, li4, li5, li6, li7, li8, li9, li10, li12, li13, li14, li15, li19, li20, li31, li33, li40, li42, li44, li48, li57, li60, li99, li100, li126, li150, li176, li177, li187, li197, li207, li208, li223, li304, li608, li1520, li1824, nI_add, pk_mul, nI_clamp, nI_leI, nI_ltI, nI_eq, zn_inb, zn_gd, zn_bs, zn_isb, not_true_eq_false, not_false_eq_true, ↓reduceIte, pk_div, pk_sub, zn_rem20, zn_rem2, zn_m1, zn_eqw, zn_weq, zn_weq2, zn_wlt0, zn_wltn, zn_win, zn_wcl, zn_wadd, Nat.not_lt_zero, Nat.one_ne_zero, Nat.zero_ne_one, Nat.le_refl, Nat.zero_le, zn_sel_r, zn_sel_l, e1, e2]
  rfl
def zs_fm (S : SM) : Nat → Nat := fb_sm (fun p => bif zs_tq S p then 0 else 1)
theorem zk_freeMany_L (h : RK (K 1) S) (g : GK S) (kx : Int32 → Option Int32) : ∀ d p n, p + d = 40 → d < n → fX9_freeMany_L4 K n kx (nI (zs_fm S p)) (nI p) = kx (nI (zs_fm S 40)) := by
  intro d
  induction d with
  | zero =>
    intro p n hp hn
    obtain ⟨m, rfl⟩ : ∃ m, n = m + 1 := ⟨n - 1, by omega⟩
    obtain rfl : p = 40 := by omega
    rw [fX9_freeMany_L4]
    simp (disch := omega) only [li0, li1, li2, li3, li4, li5, li6, li7, li8, li9, li10, li12, li13, li14, li15, li19, li20, li31, li33, li40, li42, li44, li48, li57, li60, li99, li100, li126, li150, li176, li177, li187, li197, li207, li208, li223, li304, li608, li1520, li1824, nI_add, pk_mul, nI_clamp, nI_leI, nI_ltI, nI_eq, zn_inb, zn_gd, zn_bs, zn_isb, not_true_eq_false, not_false_eq_true, ↓reduceIte, pk_div, pk_sub, zn_rem20, zn_rem2, zn_m1, zn_eqw, zn_weq, zn_weq2, zn_wlt0, zn_wltn, zn_win, zn_wcl, zn_wadd, Nat.not_lt_zero, Nat.one_ne_zero, Nat.zero_ne_one, Nat.le_refl, Nat.zero_le, zn_sel_r, zn_sel_l]
  | succ d ih =>
    intro p n hp hn
    obtain ⟨m, rfl⟩ : ∃ m, n = m + 1 := ⟨n - 1, by omega⟩
    have c : ¬ 40 ≤ p := by omega
    have hc := g.1
    have e := zk_on h g (side := p / 20) (slot := p % 20) (by omega) (by omega)
    rw [show 20 * (p / 20) + p % 20 = p by omega] at e
    have hl := zs_ho_le S p
    have z := zs_ho0 S p
    have ih1 := ih (p + 1) m (by omega) (by omega)
    rw [show zs_fm S (p + 1) = zs_fm S p + (bif zs_tq S p then 0 else 1) from rfl] at ih1
    rw [fX9_freeMany_L4]
    cases q : zs_tq S p
    · have z1 := z.mpr q
      rw [q, cond_false] at ih1
      simp (disch := omega) only [li0, li1, li2, li3, li4, li5, li6, li7, li8, li9, li10, li12, li13, li14, li15, li19, li20, li31, li33, li40, li42, li44, li48, li57, li60, li99, li100, li126, li150, li176, li177, li187, li197, li207, li208, li223, li304, li608, li1520, li1824, nI_add, pk_mul, nI_clamp, nI_leI, nI_ltI, nI_eq, zn_inb, zn_gd, zn_bs, zn_isb, not_true_eq_false, not_false_eq_true, ↓reduceIte, pk_div, pk_sub, zn_rem20, zn_rem2, zn_m1, zn_eqw, zn_weq, zn_weq2, zn_wlt0, zn_wltn, zn_win, zn_wcl, zn_wadd, Nat.not_lt_zero, Nat.one_ne_zero, Nat.zero_ne_one, Nat.le_refl, Nat.zero_le, zn_sel_r, zn_sel_l, c, e, z1, fX9_freeMany_B32]
      exact ih1
    · have z1 : ¬ zs_ho S p = 0 := by
        intro a
        rw [z.mp a] at q
        cases q
      rw [q, cond_true] at ih1
      simp (disch := omega) only [li0, li1, li2, li3, li4, li5, li6, li7, li8, li9, li10, li12, li13, li14, li15, li19, li20, li31, li33, li40, li42, li44, li48, li57, li60, li99, li100, li126, li150, li176, li177, li187, li197, li207, li208, li223, li304, li608, li1520, li1824, nI_add, pk_mul, nI_clamp, nI_leI, nI_ltI, nI_eq, zn_inb, zn_gd, zn_bs, zn_isb, not_true_eq_false, not_false_eq_true, ↓reduceIte, pk_div, pk_sub, zn_rem20, zn_rem2, zn_m1, zn_eqw, zn_weq, zn_weq2, zn_wlt0, zn_wltn, zn_win, zn_wcl, zn_wadd, Nat.not_lt_zero, Nat.one_ne_zero, Nat.zero_ne_one, Nat.le_refl, Nat.zero_le, zn_sel_r, zn_sel_l, c, e, z1, fX9_freeMany_B32]
      exact ih1
theorem zk_freeMany (h : RK (K 1) S) (g : GK S) : fX9_freeMany K = some (nI (zs_fm S 40)) := by
  unfold fX9_freeMany
  exact zk_freeMany_L h g (fun (l1 : Int32) => some l1) 40 0 5000 (by omega) (by omega)
theorem zk_gap_L (h : RK (K 1) S) (g : GK S) {side : Nat} (hd : side < 2) (kx : Int32 → Option Int32) : ∀ d s n, s + d = 20 → d < n → fX9_gap_L7 K n kx (nI side) (nI (zs_gp (zs_tq S) side s).1) (nI (zs_gp (zs_tq S) side s).2) (nI s) = kx (nI (zs_gp (zs_tq S) side 20).1) := by
  intro d
  induction d with
  | zero =>
    intro s n hs hn
    obtain ⟨m, rfl⟩ : ∃ m, n = m + 1 := ⟨n - 1, by omega⟩
    obtain rfl : s = 20 := by omega
    rw [fX9_gap_L7]
    simp (disch := omega) only [li0, li1, li2, li3, li4, li5, li6, li7, li8, li9, li10, li12, li13, li14, li15, li19, li20, li31, li33, li40, li42, li44, li48, li57, li60, li99, li100, li126, li150, li176, li177, li187, li197, li207, li208, li223, li304, li608, li1520, li1824, nI_add, pk_mul, nI_clamp, nI_leI, nI_ltI, nI_eq, zn_inb, zn_gd, zn_bs, zn_isb, not_true_eq_false, not_false_eq_true, ↓reduceIte, pk_div, pk_sub, zn_rem20, zn_rem2, zn_m1, zn_eqw, zn_weq, zn_weq2, zn_wlt0, zn_wltn, zn_win, zn_wcl, zn_wadd, Nat.not_lt_zero, Nat.one_ne_zero, Nat.zero_ne_one, Nat.le_refl, Nat.zero_le, zn_sel_r, zn_sel_l]
  | succ d ih =>
    intro s n hs hn
    obtain ⟨m, rfl⟩ : ∃ m, n = m + 1 := ⟨n - 1, by omega⟩
    have c : ¬ 20 ≤ s := by omega
    have hc := g.1
    have b := zs_gp_le (zs_tq S) side s
    have e := zk_on h g hd (slot := s) (by omega)
    have hl := zs_ho_le S (20 * side + s)
    have z := zs_ho0 S (20 * side + s)
    have ih1 := ih (s + 1) m (by omega) (by omega)
    have e1 : zs_gp (zs_tq S) side (s + 1) = (if (zs_gp (zs_tq S) side s).1 < (bif zs_tq S (20 * side + s) then 0 else (zs_gp (zs_tq S) side s).2 + 1) then (bif zs_tq S (20 * side + s) then 0 else (zs_gp (zs_tq S) side s).2 + 1) else (zs_gp (zs_tq S) side s).1, bif zs_tq S (20 * side + s) then 0 else (zs_gp (zs_tq S) side s).2 + 1) := rfl
    rw [e1] at ih1
    rw [fX9_gap_L7]
    cases q : zs_tq S (20 * side + s)
    · have z1 := z.mpr q
      rw [q] at ih1
      simp only [cond_false] at ih1
      by_cases c2 : (zs_gp (zs_tq S) side s).1 < (zs_gp (zs_tq S) side s).2 + 1
      · have c3 : ¬ (zs_gp (zs_tq S) side s).2 + 1 ≤ (zs_gp (zs_tq S) side s).1 := by omega
        simp only [if_pos c2] at ih1
        simp (disch := omega) only [li0, li1, li2, li3, li4, li5, li6, li7, li8, li9, li10, li12, li13, li14, li15, li19, li20, li31, li33, li40, li42, li44, li48, li57, li60, li99, li100, li126, li150, li176, li177, li187, li197, li207, li208, li223, li304, li608, li1520, li1824, nI_add, pk_mul, nI_clamp, nI_leI, nI_ltI, nI_eq, zn_inb, zn_gd, zn_bs, zn_isb, not_true_eq_false, not_false_eq_true, ↓reduceIte, pk_div, pk_sub, zn_rem20, zn_rem2, zn_m1, zn_eqw, zn_weq, zn_weq2, zn_wlt0, zn_wltn, zn_win, zn_wcl, zn_wadd, Nat.not_lt_zero, Nat.one_ne_zero, Nat.zero_ne_one, Nat.le_refl, Nat.zero_le, zn_sel_r, zn_sel_l, c, c3, e, z1, fX9_gap_B32, fX9_gap_B43]
        exact ih1
      · have c3 : (zs_gp (zs_tq S) side s).2 + 1 ≤ (zs_gp (zs_tq S) side s).1 := by omega
        simp only [if_neg c2] at ih1
        simp (disch := omega) only [li0, li1, li2, li3, li4, li5, li6, li7, li8, li9, li10, li12, li13, li14, li15, li19, li20, li31, li33, li40, li42, li44, li48, li57, li60, li99, li100, li126, li150, li176, li177, li187, li197, li207, li208, li223, li304, li608, li1520, li1824, nI_add, pk_mul, nI_clamp, nI_leI, nI_ltI, nI_eq, zn_inb, zn_gd, zn_bs, zn_isb, not_true_eq_false, not_false_eq_true, ↓reduceIte, pk_div, pk_sub, zn_rem20, zn_rem2, zn_m1, zn_eqw, zn_weq, zn_weq2, zn_wlt0, zn_wltn, zn_win, zn_wcl, zn_wadd, Nat.not_lt_zero, Nat.one_ne_zero, Nat.zero_ne_one, Nat.le_refl, Nat.zero_le, zn_sel_r, zn_sel_l, c, c3, e, z1, fX9_gap_B32, fX9_gap_B43]
        exact ih1
    · have z1 : ¬ zs_ho S (20 * side + s) = 0 := by
        intro a
        rw [z.mp a] at q
        cases q
      rw [q] at ih1
      simp only [cond_true, Nat.not_lt_zero, if_false] at ih1
      simp (disch := omega) only [li0, li1, li2, li3, li4, li5, li6, li7, li8, li9, li10, li12, li13, li14, li15, li19, li20, li31, li33, li40, li42, li44, li48, li57, li60, li99, li100, li126, li150, li176, li177, li187, li197, li207, li208, li223, li304, li608, li1520, li1824, nI_add, pk_mul, nI_clamp, nI_leI, nI_ltI, nI_eq, zn_inb, zn_gd, zn_bs, zn_isb, not_true_eq_false, not_false_eq_true, ↓reduceIte, pk_div, pk_sub, zn_rem20, zn_rem2, zn_m1, zn_eqw, zn_weq, zn_weq2, zn_wlt0, zn_wltn, zn_win, zn_wcl, zn_wadd, Nat.not_lt_zero, Nat.one_ne_zero, Nat.zero_ne_one, Nat.le_refl, Nat.zero_le, zn_sel_r, zn_sel_l, c, e, z1, fX9_gap_B32, fX9_gap_B43]
      exact ih1
theorem zk_gap (h : RK (K 1) S) (g : GK S) {side : Nat} (hd : side < 2) : fX9_gap K (nI side) = some (nI (zs_gp (zs_tq S) side 20).1) := by
  unfold fX9_gap
  exact zk_gap_L h g hd (fun (l2 : Int32) => some l2) 20 0 5000 (by omega) (by omega)
end
