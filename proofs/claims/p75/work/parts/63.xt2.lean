/-! the class's tower: counts, gaps, sums, the most used -/
section
variable {T : Mem} {S : SM}
theorem zs_tk_fit {S : SM} (g : GT S) {side s : Nat} (hs : s < 20) (hd : side < 2) : zs_fitB (zs_tk S side (S 1 0)) s 1 = !(zs_tq S (20 * side + s)) := by
  have e := zs_tk_bit g (side := side) (i := s) hs (S 1 0) (Nat.le_refl _)
  have e2 : (zs_tk S side (S 1 0)).testBit s = zs_tq S (20 * side + s) := by
    have e : ∀ a b : Bool, (a = true ↔ b = true) → a = b := by decide
    apply e
    unfold zs_tq
    rw [zs_any0]
    assumption
  unfold zs_fitB
  cases q : zs_tq S (20 * side + s)
  · rw [q] at e2
    exact decide_eq_true ⟨by omega, fun i hi => by rw [show s + i = s by omega]; exact e2⟩
  · rw [q] at e2
    refine decide_eq_false (fun a => ?_)
    have := a.2 0 (by omega)
    rw [Nat.add_zero, e2] at this
    cases this
def zs_cf (q : Nat → Bool) (side : Nat) : Nat → Nat := fb_sm (fun s => bif q (20 * side + s) then 0 else 1)
theorem zx_countFree_L (g : GT S) {side : Nat} (hd : side < 2) : ∀ d s n, s + d = 20 → d < n → fX7_countFree_L11 T n (fun (l3 : Int32) => some l3) (nI (zs_tk S side (S 1 0))) (nI (zs_cf (zs_tq S) side s)) (nI s) = some (nI (zs_cf (zs_tq S) side 20)) := by
  have ht := zs_tk_lt g side (S 1 0) (Nat.le_refl _)
  intro d
  induction d with
  | zero =>
    intro s n hs hn
    obtain ⟨m, rfl⟩ : ∃ m, n = m + 1 := ⟨n - 1, by omega⟩
    obtain rfl : s = 20 := by omega
    rw [fX7_countFree_L11]
    simp (disch := omega) only [li0, li1, li2, li3, li4, li5, li6, li7, li8, li9, li10, li12, li13, li14, li15, li19, li20, li31, li33, li40, li42, li44, li48, li57, li60, li99, li100, li126, li150, li176, li177, li187, li197, li207, li208, li223, li304, li608, li1520, li1824, nI_add, pk_mul, nI_clamp, nI_leI, nI_ltI, nI_eq, zn_inb, zn_gd, zn_bs, zn_isb, not_true_eq_false, not_false_eq_true, ↓reduceIte, pk_div, pk_sub, zn_rem20, zn_rem2, zn_m1, zn_eqw, zn_weq, zn_weq2, zn_wlt0, zn_wltn, zn_win, zn_wcl, zn_wadd, Nat.not_lt_zero, Nat.one_ne_zero, Nat.zero_ne_one, Nat.le_refl, Nat.zero_le, zn_sel_r, zn_sel_l]
  | succ d ih =>
    intro s n hs hn
    obtain ⟨m, rfl⟩ : ∃ m, n = m + 1 := ⟨n - 1, by omega⟩
    have c : ¬ 20 ≤ s := by omega
    have e := zx_fits ht (s := s) (w := 1) (by omega) (by omega)
    rw [zs_tk_fit g (by omega) hd] at e
    have ih1 := ih (s + 1) m (by omega) (by omega)
    rw [show zs_cf (zs_tq S) side (s + 1) = zs_cf (zs_tq S) side s + (bif zs_tq S (20 * side + s) then 0 else 1) from rfl] at ih1
    rw [fX7_countFree_L11]
    cases q : zs_tq S (20 * side + s)
    · rw [q] at e ih1
      simp (disch := omega) only [li0, li1, li2, li3, li4, li5, li6, li7, li8, li9, li10, li12, li13, li14, li15, li19, li20, li31, li33, li40, li42, li44, li48, li57, li60, li99, li100, li126, li150, li176, li177, li187, li197, li207, li208, li223, li304, li608, li1520, li1824, nI_add, pk_mul, nI_clamp, nI_leI, nI_ltI, nI_eq, zn_inb, zn_gd, zn_bs, zn_isb, not_true_eq_false, not_false_eq_true, ↓reduceIte, pk_div, pk_sub, zn_rem20, zn_rem2, zn_m1, zn_eqw, zn_weq, zn_weq2, zn_wlt0, zn_wltn, zn_win, zn_wcl, zn_wadd, Nat.not_lt_zero, Nat.one_ne_zero, Nat.zero_ne_one, Nat.le_refl, Nat.zero_le, zn_sel_r, zn_sel_l, c, e, fX7_countFree_B31, Bool.not_false, cond_true]
      exact ih1
    · rw [q] at e ih1
      simp (disch := omega) only [li0, li1, li2, li3, li4, li5, li6, li7, li8, li9, li10, li12, li13, li14, li15, li19, li20, li31, li33, li40, li42, li44, li48, li57, li60, li99, li100, li126, li150, li176, li177, li187, li197, li207, li208, li223, li304, li608, li1520, li1824, nI_add, pk_mul, nI_clamp, nI_leI, nI_ltI, nI_eq, zn_inb, zn_gd, zn_bs, zn_isb, not_true_eq_false, not_false_eq_true, ↓reduceIte, pk_div, pk_sub, zn_rem20, zn_rem2, zn_m1, zn_eqw, zn_weq, zn_weq2, zn_wlt0, zn_wltn, zn_win, zn_wcl, zn_wadd, Nat.not_lt_zero, Nat.one_ne_zero, Nat.zero_ne_one, Nat.le_refl, Nat.zero_le, zn_sel_r, zn_sel_l, c, e, fX7_countFree_B31, Bool.not_true, cond_false]
      exact ih1
theorem zx_countFree (h : RT T S) (g : GT S) {side : Nat} (hd : side < 2) : fX7_countFree T (nI side) = some (nI (zs_cf (zs_tq S) side 20)) := by
  have e := zx_takenOn h g hd
  unfold fX7_countFree
  simp (disch := omega) only [li0, li1, li2, li3, li4, li5, li6, li7, li8, li9, li10, li12, li13, li14, li15, li19, li20, li31, li33, li40, li42, li44, li48, li57, li60, li99, li100, li126, li150, li176, li177, li187, li197, li207, li208, li223, li304, li608, li1520, li1824, nI_add, pk_mul, nI_clamp, nI_leI, nI_ltI, nI_eq, zn_inb, zn_gd, zn_bs, zn_isb, not_true_eq_false, not_false_eq_true, ↓reduceIte, pk_div, pk_sub, zn_rem20, zn_rem2, zn_m1, zn_eqw, zn_weq, zn_weq2, zn_wlt0, zn_wltn, zn_win, zn_wcl, zn_wadd, Nat.not_lt_zero, Nat.one_ne_zero, Nat.zero_ne_one, Nat.le_refl, Nat.zero_le, zn_sel_r, zn_sel_l, e]
  exact zx_countFree_L g hd 20 0 5000 (by omega) (by omega)
/-- the longest row of free slots so far, and the one that ends here -/
def zs_gp (q : Nat → Bool) (side : Nat) : Nat → Nat × Nat := zs_it (fun s x => let n := bif q (20 * side + s) then 0 else x.2 + 1; (if x.1 < n then n else x.1, n)) (0, 0)
theorem zs_gp_le (q : Nat → Bool) (side : Nat) : ∀ n, (zs_gp q side n).1 ≤ n ∧ (zs_gp q side n).2 ≤ n
  | 0 => ⟨Nat.le_refl _, Nat.le_refl _⟩
  | n + 1 => by
    have ih := zs_gp_le q side n
    have e : zs_gp q side (n + 1) = (if (zs_gp q side n).1 < (bif q (20 * side + n) then 0 else (zs_gp q side n).2 + 1) then (bif q (20 * side + n) then 0 else (zs_gp q side n).2 + 1) else (zs_gp q side n).1, bif q (20 * side + n) then 0 else (zs_gp q side n).2 + 1) := rfl
    rw [e]
    cases q (20 * side + n)
    · simp only [cond_false]
      split <;> omega
    · simp only [cond_true]
      split <;> omega
theorem zx_longestFree_L (g : GT S) {side : Nat} (hd : side < 2) : ∀ d s n, s + d = 20 → d < n → fX7_longestFree_L14 T n (fun (l3 : Int32) => some l3) (nI (zs_tk S side (S 1 0))) (nI (zs_gp (zs_tq S) side s).1) (nI (zs_gp (zs_tq S) side s).2) (nI s) = some (nI (zs_gp (zs_tq S) side 20).1) := by
  have ht := zs_tk_lt g side (S 1 0) (Nat.le_refl _)
  intro d
  induction d with
  | zero =>
    intro s n hs hn
    obtain ⟨m, rfl⟩ : ∃ m, n = m + 1 := ⟨n - 1, by omega⟩
    obtain rfl : s = 20 := by omega
    rw [fX7_longestFree_L14]
    simp (disch := omega) only [li0, li1, li2, li3, li4, li5, li6, li7, li8, li9, li10, li12, li13, li14, li15, li19, li20, li31, li33, li40, li42, li44, li48, li57, li60, li99, li100, li126, li150, li176, li177, li187, li197, li207, li208, li223, li304, li608, li1520, li1824, nI_add, pk_mul, nI_clamp, nI_leI, nI_ltI, nI_eq, zn_inb, zn_gd, zn_bs, zn_isb, not_true_eq_false, not_false_eq_true, ↓reduceIte, pk_div, pk_sub, zn_rem20, zn_rem2, zn_m1, zn_eqw, zn_weq, zn_weq2, zn_wlt0, zn_wltn, zn_win, zn_wcl, zn_wadd, Nat.not_lt_zero, Nat.one_ne_zero, Nat.zero_ne_one, Nat.le_refl, Nat.zero_le, zn_sel_r, zn_sel_l]
  | succ d ih =>
    intro s n hs hn
    obtain ⟨m, rfl⟩ : ∃ m, n = m + 1 := ⟨n - 1, by omega⟩
    have c : ¬ 20 ≤ s := by omega
    have b := zs_gp_le (zs_tq S) side s
    have e := zx_fits ht (s := s) (w := 1) (by omega) (by omega)
    rw [zs_tk_fit g (by omega) hd] at e
    have ih1 := ih (s + 1) m (by omega) (by omega)
    have e1 : zs_gp (zs_tq S) side (s + 1) = (if (zs_gp (zs_tq S) side s).1 < (bif zs_tq S (20 * side + s) then 0 else (zs_gp (zs_tq S) side s).2 + 1) then (bif zs_tq S (20 * side + s) then 0 else (zs_gp (zs_tq S) side s).2 + 1) else (zs_gp (zs_tq S) side s).1, bif zs_tq S (20 * side + s) then 0 else (zs_gp (zs_tq S) side s).2 + 1) := rfl
    rw [e1] at ih1
    rw [fX7_longestFree_L14]
    cases q : zs_tq S (20 * side + s)
    · rw [q] at e ih1
      simp only [cond_false] at ih1
      by_cases c2 : (zs_gp (zs_tq S) side s).1 < (zs_gp (zs_tq S) side s).2 + 1
      · simp only [if_pos c2] at ih1
        simp (disch := omega) only [li0, li1, li2, li3, li4, li5, li6, li7, li8, li9, li10, li12, li13, li14, li15, li19, li20, li31, li33, li40, li42, li44, li48, li57, li60, li99, li100, li126, li150, li176, li177, li187, li197, li207, li208, li223, li304, li608, li1520, li1824, nI_add, pk_mul, nI_clamp, nI_leI, nI_ltI, nI_eq, zn_inb, zn_gd, zn_bs, zn_isb, not_true_eq_false, not_false_eq_true, ↓reduceIte, pk_div, pk_sub, zn_rem20, zn_rem2, zn_m1, zn_eqw, zn_weq, zn_weq2, zn_wlt0, zn_wltn, zn_win, zn_wcl, zn_wadd, Nat.not_lt_zero, Nat.one_ne_zero, Nat.zero_ne_one, Nat.le_refl, Nat.zero_le, zn_sel_r, zn_sel_l, c, c2, e, fX7_longestFree_B39, Bool.not_false, cond_true]
        exact ih1
      · simp only [if_neg c2] at ih1
        simp (disch := omega) only [li0, li1, li2, li3, li4, li5, li6, li7, li8, li9, li10, li12, li13, li14, li15, li19, li20, li31, li33, li40, li42, li44, li48, li57, li60, li99, li100, li126, li150, li176, li177, li187, li197, li207, li208, li223, li304, li608, li1520, li1824, nI_add, pk_mul, nI_clamp, nI_leI, nI_ltI, nI_eq, zn_inb, zn_gd, zn_bs, zn_isb, not_true_eq_false, not_false_eq_true, ↓reduceIte, pk_div, pk_sub, zn_rem20, zn_rem2, zn_m1, zn_eqw, zn_weq, zn_weq2, zn_wlt0, zn_wltn, zn_win, zn_wcl, zn_wadd, Nat.not_lt_zero, Nat.one_ne_zero, Nat.zero_ne_one, Nat.le_refl, Nat.zero_le, zn_sel_r, zn_sel_l, c, c2, e, fX7_longestFree_B39, Bool.not_false, cond_true]
        exact ih1
    · rw [q] at e ih1
      simp only [cond_true, Nat.not_lt_zero, if_false] at ih1
      simp (disch := omega) only [li0, li1, li2, li3, li4, li5, li6, li7, li8, li9, li10, li12, li13, li14, li15, li19, li20, li31, li33, li40, li42, li44, li48, li57, li60, li99, li100, li126, li150, li176, li177, li187, li197, li207, li208, li223, li304, li608, li1520, li1824, nI_add, pk_mul, nI_clamp, nI_leI, nI_ltI, nI_eq, zn_inb, zn_gd, zn_bs, zn_isb, not_true_eq_false, not_false_eq_true, ↓reduceIte, pk_div, pk_sub, zn_rem20, zn_rem2, zn_m1, zn_eqw, zn_weq, zn_weq2, zn_wlt0, zn_wltn, zn_win, zn_wcl, zn_wadd, Nat.not_lt_zero, Nat.one_ne_zero, Nat.zero_ne_one, Nat.le_refl, Nat.zero_le, zn_sel_r, zn_sel_l, c, e, fX7_longestFree_B39, Bool.not_true, cond_false]
      exact ih1
theorem zx_longestFree (h : RT T S) (g : GT S) {side : Nat} (hd : side < 2) : fX7_longestFree T (nI side) = some (nI (zs_gp (zs_tq S) side 20).1) := by
  have e := zx_takenOn h g hd
  unfold fX7_longestFree
  simp (disch := omega) only [li0, li1, li2, li3, li4, li5, li6, li7, li8, li9, li10, li12, li13, li14, li15, li19, li20, li31, li33, li40, li42, li44, li48, li57, li60, li99, li100, li126, li150, li176, li177, li187, li197, li207, li208, li223, li304, li608, li1520, li1824, nI_add, pk_mul, nI_clamp, nI_leI, nI_ltI, nI_eq, zn_inb, zn_gd, zn_bs, zn_isb, not_true_eq_false, not_false_eq_true, ↓reduceIte, pk_div, pk_sub, zn_rem20, zn_rem2, zn_m1, zn_eqw, zn_weq, zn_weq2, zn_wlt0, zn_wltn, zn_win, zn_wcl, zn_wadd, Nat.not_lt_zero, Nat.one_ne_zero, Nat.zero_ne_one, Nat.le_refl, Nat.zero_le, zn_sel_r, zn_sel_l, e]
  exact zx_longestFree_L g hd 20 0 5000 (by omega) (by omega)
def zs_hs (S : SM) : Nat → Nat := fb_sm (fun f => if S 1 1 = f + 1 then 0 else S 2 f)
theorem zx_sumOfHeights_L (h : RT T S) (g : GT S) (kx : Int32 → Option Int32) : ∀ d f n, f + d = S 1 0 → d < n → fX7_sumOfHeights_L4 T n kx (nI (zs_hs S f)) (nI f) = kx (nI (zs_hs S (S 1 0))) := by
  have hc := g.1
  have hw := g.2.1
  intro d
  induction d with
  | zero =>
    intro f n hf hn
    obtain ⟨m, rfl⟩ : ∃ m, n = m + 1 := ⟨n - 1, by omega⟩
    have c : S 1 0 ≤ f := by omega
    rw [fX7_sumOfHeights_L4]
    simp (disch := omega) only [li0, li1, li2, li3, li4, li5, li6, li7, li8, li9, li10, li12, li13, li14, li15, li19, li20, li31, li33, li40, li42, li44, li48, li57, li60, li99, li100, li126, li150, li176, li177, li187, li197, li207, li208, li223, li304, li608, li1520, li1824, nI_add, pk_mul, nI_clamp, nI_leI, nI_ltI, nI_eq, zn_inb, zn_gd, zn_bs, zn_isb, not_true_eq_false, not_false_eq_true, ↓reduceIte, pk_div, pk_sub, zn_rem20, zn_rem2, zn_m1, zn_eqw, zn_weq, zn_weq2, zn_wlt0, zn_wltn, zn_win, zn_wcl, zn_wadd, Nat.not_lt_zero, Nat.one_ne_zero, Nat.zero_ne_one, Nat.le_refl, Nat.zero_le, zn_sel_r, zn_sel_l, h.1, c]
    rw [show f = S 1 0 by omega]
  | succ d ih =>
    intro f n hf hn
    obtain ⟨m, rfl⟩ : ∃ m, n = m + 1 := ⟨n - 1, by omega⟩
    have c : ¬ S 1 0 ≤ f := by omega
    have e1 := h.2.2.1 f (by omega)
    have ih1 := ih (f + 1) m (by omega) (by omega)
    rw [show zs_hs S (f + 1) = zs_hs S f + (if S 1 1 = f + 1 then 0 else S 2 f) from rfl] at ih1
    rw [fX7_sumOfHeights_L4]
    by_cases c1 : S 1 1 = f + 1
    · rw [if_pos c1] at ih1
      simp (disch := omega) only [li0, li1, li2, li3, li4, li5, li6, li7, li8, li9, li10, li12, li13, li14, li15, li19, li20, li31, li33, li40, li42, li44, li48, li57, li60, li99, li100, li126, li150, li176, li177, li187, li197, li207, li208, li223, li304, li608, li1520, li1824, nI_add, pk_mul, nI_clamp, nI_leI, nI_ltI, nI_eq, zn_inb, zn_gd, zn_bs, zn_isb, not_true_eq_false, not_false_eq_true, ↓reduceIte, pk_div, pk_sub, zn_rem20, zn_rem2, zn_m1, zn_eqw, zn_weq, zn_weq2, zn_wlt0, zn_wltn, zn_win, zn_wcl, zn_wadd, Nat.not_lt_zero, Nat.one_ne_zero, Nat.zero_ne_one, Nat.le_refl, Nat.zero_le, zn_sel_r, zn_sel_l, h.1, h.2.1, c, c1, fX7_sumOfHeights_B29]
      exact ih1
    · rw [if_neg c1] at ih1
      simp (disch := omega) only [li0, li1, li2, li3, li4, li5, li6, li7, li8, li9, li10, li12, li13, li14, li15, li19, li20, li31, li33, li40, li42, li44, li48, li57, li60, li99, li100, li126, li150, li176, li177, li187, li197, li207, li208, li223, li304, li608, li1520, li1824, nI_add, pk_mul, nI_clamp, nI_leI, nI_ltI, nI_eq, zn_inb, zn_gd, zn_bs, zn_isb, not_true_eq_false, not_false_eq_true, ↓reduceIte, pk_div, pk_sub, zn_rem20, zn_rem2, zn_m1, zn_eqw, zn_weq, zn_weq2, zn_wlt0, zn_wltn, zn_win, zn_wcl, zn_wadd, Nat.not_lt_zero, Nat.one_ne_zero, Nat.zero_ne_one, Nat.le_refl, Nat.zero_le, zn_sel_r, zn_sel_l, h.1, h.2.1, c, c1, e1, fX7_sumOfHeights_B29]
      exact ih1
theorem zx_sumOfHeights (h : RT T S) (g : GT S) : fX7_sumOfHeights T = some (nI (zs_hs S (S 1 0))) := by
  unfold fX7_sumOfHeights
  exact zx_sumOfHeights_L h g (fun (l1 : Int32) => some l1) (S 1 0) 0 5000 (by omega) (by have := g.1; omega)
def zs_way (p : Nat) : Nat := p % 20 + 2 * (p / 20)
/-- the most used shelf, and 1, of those whose bit isn't set; 0 if none -/
def zs_mu (S : SM) (lo : Nat) : Nat → Nat := zs_it (fun f w => if lo.testBit f = false ∧ (w = 0 ∨ ¬ S 4 f ≤ S 4 (w - 1)) then f + 1 else w) 0
theorem zs_mu_le (S : SM) (lo : Nat) : ∀ n, zs_mu S lo n ≤ n
  | 0 => Nat.le_refl _
  | n + 1 => by
    have ih := zs_mu_le S lo n
    show (if _ then _ else _) ≤ _
    split
    · exact Nat.le_refl _
    · exact Nat.le_succ_of_le ih
theorem zx_mostUsed_L (h : RT T S) (g : GT S) {lo : Nat} (hl : lo < 2 ^ 31) (kx : Int32 → Option Int32) : ∀ d f n, f + d = S 1 0 → d < n → fX7_mostUsed_L4 T n kx (nI lo) (wI (zs_mu S lo f)) (nI f) = kx (wI (zs_mu S lo (S 1 0))) := by
  have hc := g.1
  intro d
  induction d with
  | zero =>
    intro f n hf hn
    obtain ⟨m, rfl⟩ : ∃ m, n = m + 1 := ⟨n - 1, by omega⟩
    have c : S 1 0 ≤ f := by omega
    rw [fX7_mostUsed_L4]
    simp (disch := omega) only [li0, li1, li2, li3, li4, li5, li6, li7, li8, li9, li10, li12, li13, li14, li15, li19, li20, li31, li33, li40, li42, li44, li48, li57, li60, li99, li100, li126, li150, li176, li177, li187, li197, li207, li208, li223, li304, li608, li1520, li1824, nI_add, pk_mul, nI_clamp, nI_leI, nI_ltI, nI_eq, zn_inb, zn_gd, zn_bs, zn_isb, not_true_eq_false, not_false_eq_true, ↓reduceIte, pk_div, pk_sub, zn_rem20, zn_rem2, zn_m1, zn_eqw, zn_weq, zn_weq2, zn_wlt0, zn_wltn, zn_win, zn_wcl, zn_wadd, Nat.not_lt_zero, Nat.one_ne_zero, Nat.zero_ne_one, Nat.le_refl, Nat.zero_le, zn_sel_r, zn_sel_l, h.1, c]
    rw [show f = S 1 0 by omega]
  | succ d ih =>
    intro f n hf hn
    obtain ⟨m, rfl⟩ : ∃ m, n = m + 1 := ⟨n - 1, by omega⟩
    have c : ¬ S 1 0 ≤ f := by omega
    have e1 := h.2.2.2.2.1 f (by omega)
    have b := g.2.2.2.1 f (by omega)
    have bw := zs_mu_le S lo f
    have ih1 := ih (f + 1) m (by omega) (by omega)
    rw [show zs_mu S lo (f + 1) = if lo.testBit f = false ∧ (zs_mu S lo f = 0 ∨ ¬ S 4 f ≤ S 4 (zs_mu S lo f - 1)) then f + 1 else zs_mu S lo f from rfl] at ih1
    have zb := zn_bit0 (n := lo) (f := f) hl (by omega)
    rw [fX7_mostUsed_L4]
    cases c1 : lo.testBit f
    · rw [c1] at ih1 zb
      have zb1 := zb.mpr rfl
      by_cases c2 : zs_mu S lo f = 0
      · rw [if_pos ⟨rfl, Or.inl c2⟩] at ih1
        rw [wI_s] at ih1
        rw [c2]
        simp (disch := omega) only [li0, li1, li2, li3, li4, li5, li6, li7, li8, li9, li10, li12, li13, li14, li15, li19, li20, li31, li33, li40, li42, li44, li48, li57, li60, li99, li100, li126, li150, li176, li177, li187, li197, li207, li208, li223, li304, li608, li1520, li1824, nI_add, pk_mul, nI_clamp, nI_leI, nI_ltI, nI_eq, zn_inb, zn_gd, zn_bs, zn_isb, not_true_eq_false, not_false_eq_true, ↓reduceIte, pk_div, pk_sub, zn_rem20, zn_rem2, zn_m1, zn_eqw, zn_weq, zn_weq2, zn_wlt0, zn_wltn, zn_win, zn_wcl, zn_wadd, Nat.not_lt_zero, Nat.one_ne_zero, Nat.zero_ne_one, Nat.le_refl, Nat.zero_le, zn_sel_r, zn_sel_l, h.1, c, zb1, fX7_mostUsed_B25, fX7_mostUsed_B54, fX7_mostUsed_B52]
        exact ih1
      · have e2 := h.2.2.2.2.1 (zs_mu S lo f - 1) (by omega)
        have b2 := g.2.2.2.1 (zs_mu S lo f - 1) (by omega)
        by_cases c3 : S 4 f ≤ S 4 (zs_mu S lo f - 1)
        · rw [if_neg (by omega)] at ih1
          simp (disch := omega) only [li0, li1, li2, li3, li4, li5, li6, li7, li8, li9, li10, li12, li13, li14, li15, li19, li20, li31, li33, li40, li42, li44, li48, li57, li60, li99, li100, li126, li150, li176, li177, li187, li197, li207, li208, li223, li304, li608, li1520, li1824, nI_add, pk_mul, nI_clamp, nI_leI, nI_ltI, nI_eq, zn_inb, zn_gd, zn_bs, zn_isb, not_true_eq_false, not_false_eq_true, ↓reduceIte, pk_div, pk_sub, zn_rem20, zn_rem2, zn_m1, zn_eqw, zn_weq, zn_weq2, zn_wlt0, zn_wltn, zn_win, zn_wcl, zn_wadd, Nat.not_lt_zero, Nat.one_ne_zero, Nat.zero_ne_one, Nat.le_refl, Nat.zero_le, zn_sel_r, zn_sel_l, h.1, c, c2, c3, zb1, e1, e2, fX7_mostUsed_B25, fX7_mostUsed_B54, fX7_mostUsed_B52]
          exact ih1
        · rw [if_pos ⟨rfl, Or.inr c3⟩, wI_s] at ih1
          simp (disch := omega) only [li0, li1, li2, li3, li4, li5, li6, li7, li8, li9, li10, li12, li13, li14, li15, li19, li20, li31, li33, li40, li42, li44, li48, li57, li60, li99, li100, li126, li150, li176, li177, li187, li197, li207, li208, li223, li304, li608, li1520, li1824, nI_add, pk_mul, nI_clamp, nI_leI, nI_ltI, nI_eq, zn_inb, zn_gd, zn_bs, zn_isb, not_true_eq_false, not_false_eq_true, ↓reduceIte, pk_div, pk_sub, zn_rem20, zn_rem2, zn_m1, zn_eqw, zn_weq, zn_weq2, zn_wlt0, zn_wltn, zn_win, zn_wcl, zn_wadd, Nat.not_lt_zero, Nat.one_ne_zero, Nat.zero_ne_one, Nat.le_refl, Nat.zero_le, zn_sel_r, zn_sel_l, h.1, c, c2, c3, zb1, e1, e2, fX7_mostUsed_B25, fX7_mostUsed_B54, fX7_mostUsed_B52]
          exact ih1
    · have zb1 : ¬ ((nI lo >>> (nI f &&& nI 31)) &&& nI 1 = nI 0) := by
        rw [zb, c1]
        decide
      rw [c1, if_neg (fun a => by cases a.1)] at ih1
      simp (disch := omega) only [li0, li1, li2, li3, li4, li5, li6, li7, li8, li9, li10, li12, li13, li14, li15, li19, li20, li31, li33, li40, li42, li44, li48, li57, li60, li99, li100, li126, li150, li176, li177, li187, li197, li207, li208, li223, li304, li608, li1520, li1824, nI_add, pk_mul, nI_clamp, nI_leI, nI_ltI, nI_eq, zn_inb, zn_gd, zn_bs, zn_isb, not_true_eq_false, not_false_eq_true, ↓reduceIte, pk_div, pk_sub, zn_rem20, zn_rem2, zn_m1, zn_eqw, zn_weq, zn_weq2, zn_wlt0, zn_wltn, zn_win, zn_wcl, zn_wadd, Nat.not_lt_zero, Nat.one_ne_zero, Nat.zero_ne_one, Nat.le_refl, Nat.zero_le, zn_sel_r, zn_sel_l, h.1, c, zb1, fX7_mostUsed_B25, fX7_mostUsed_B54]
      exact ih1
theorem zx_mostUsed (h : RT T S) (g : GT S) {lo : Nat} (hl : lo < 2 ^ 31) : fX7_mostUsed T (nI lo) = some (wI (zs_mu S lo (S 1 0))) := by
  unfold fX7_mostUsed
  exact zx_mostUsed_L h g hl (fun (l2 : Int32) => some l2) (S 1 0) 0 5000 (by omega) (by have := g.1; omega)
end

