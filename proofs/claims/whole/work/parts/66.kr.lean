/-! the reference: weights, stocks, orders, accounts read -/
section
variable {K : Mem} {S : SM} {u : Nat}
theorem zk_weight_L (h : RK (K 1) S) (hc : S 1 0 ≤ 12) {f : Nat} (hf : f < S 1 0) (kx : Int32 → Option Int32) : ∀ d k n, k + d = 10 → d < n → fX9_weight_L4 K n kx (nI f) (nI (fb_sm (fun k => S 5 (f * 10 + k) * S 10 k) k)) (nI k) = kx (nI (zs_wt S f)) := by
  intro d
  induction d with
  | zero =>
    intro k n hk_ hn
    obtain ⟨m, rfl⟩ : ∃ m, n = m + 1 := ⟨n - 1, by omega⟩
    have c : 10 ≤ k := by omega
    have ef : k = 10 := by omega
    rw [fX9_weight_L4]
    simp (disch := omega) only [li0, li1, li2, li3, li4, li5, li6, li7, li8, li9, li10, li12, li13, li14, li15, li19, li20, li31, li33, li40, li42, li44, li48, li57, li60, li99, li100, li126, li150, li176, li177, li187, li197, li207, li208, li223, li304, li608, li1520, li1824, nI_add, pk_mul, nI_clamp, nI_leI, nI_ltI, nI_eq, zn_inb, zn_gd, zn_bs, zn_isb, not_true_eq_false, not_false_eq_true, ↓reduceIte, pk_div, pk_sub, zn_rem20, zn_rem2, zn_m1, zn_eqw, zn_weq, zn_weq2, zn_wlt0, zn_wltn, zn_win, zn_wcl, zn_wadd, Nat.not_lt_zero, Nat.one_ne_zero, Nat.zero_ne_one, Nat.le_refl, Nat.zero_le, zn_sel_r, zn_sel_l, c]
    try rw [ef]
    try rfl
  | succ d ih =>
    intro k n hk_ hn
    obtain ⟨m, rfl⟩ : ∃ m, n = m + 1 := ⟨n - 1, by omega⟩
    have c : ¬ 10 ≤ k := by omega
    have ih1 := ih (k + 1) m (by omega) (by omega)
    have e := zk_of4 h hc hf (k := k) (by omega)
    have e2 := (h.2.2.2.2.2.1 k (by omega)).1
    rw [fX9_weight_L4]
    simp (disch := omega) only [li0, li1, li2, li3, li4, li5, li6, li7, li8, li9, li10, li12, li13, li14, li15, li19, li20, li31, li33, li40, li42, li44, li48, li57, li60, li99, li100, li126, li150, li176, li177, li187, li197, li207, li208, li223, li304, li608, li1520, li1824, nI_add, pk_mul, nI_clamp, nI_leI, nI_ltI, nI_eq, zn_inb, zn_gd, zn_bs, zn_isb, not_true_eq_false, not_false_eq_true, ↓reduceIte, pk_div, pk_sub, zn_rem20, zn_rem2, zn_m1, zn_eqw, zn_weq, zn_weq2, zn_wlt0, zn_wltn, zn_win, zn_wcl, zn_wadd, Nat.not_lt_zero, Nat.one_ne_zero, Nat.zero_ne_one, Nat.le_refl, Nat.zero_le, zn_sel_r, zn_sel_l, c, e, e2]
    exact ih1
theorem zk_weight (h : RK (K 1) S) (hc : S 1 0 ≤ 12) {f : Nat} (hf : f < S 1 0) : fX9_weight K (nI f) = some (nI (zs_wt S f)) := by
  unfold fX9_weight
  exact zk_weight_L h hc hf (fun (l2 : Int32) => some l2) 10 0 5000 (by omega) (by omega)
theorem zk_stock_L (h : RK (K 1) S) (hc : S 1 0 ≤ 12) {k : Nat} (hk : k < 10) (kx : Int32 → Option Int32) : ∀ d f n, f + d = S 1 0 → d < n → fX9_stock_L4 K n kx (nI k) (nI (fb_sm (fun f => S 5 (f * 10 + k)) f)) (nI f) = kx (nI (zs_stock S k)) := by
  intro d
  induction d with
  | zero =>
    intro f n hf_ hn
    obtain ⟨m, rfl⟩ : ∃ m, n = m + 1 := ⟨n - 1, by omega⟩
    have c : S 1 0 ≤ f := by omega
    have ef : f = S 1 0 := by omega
    rw [fX9_stock_L4]
    simp (disch := omega) only [li0, li1, li2, li3, li4, li5, li6, li7, li8, li9, li10, li12, li13, li14, li15, li19, li20, li31, li33, li40, li42, li44, li48, li57, li60, li99, li100, li126, li150, li176, li177, li187, li197, li207, li208, li223, li304, li608, li1520, li1824, nI_add, pk_mul, nI_clamp, nI_leI, nI_ltI, nI_eq, zn_inb, zn_gd, zn_bs, zn_isb, not_true_eq_false, not_false_eq_true, ↓reduceIte, pk_div, pk_sub, zn_rem20, zn_rem2, zn_m1, zn_eqw, zn_weq, zn_weq2, zn_wlt0, zn_wltn, zn_win, zn_wcl, zn_wadd, Nat.not_lt_zero, Nat.one_ne_zero, Nat.zero_ne_one, Nat.le_refl, Nat.zero_le, zn_sel_r, zn_sel_l, h.1, c]
    try rw [ef]
    try rfl
  | succ d ih =>
    intro f n hf_ hn
    obtain ⟨m, rfl⟩ : ∃ m, n = m + 1 := ⟨n - 1, by omega⟩
    have c : ¬ S 1 0 ≤ f := by omega
    have ih1 := ih (f + 1) m (by omega) (by omega)
    have e := zk_of4 h hc (f := f) (by omega) hk
    rw [fX9_stock_L4]
    simp (disch := omega) only [li0, li1, li2, li3, li4, li5, li6, li7, li8, li9, li10, li12, li13, li14, li15, li19, li20, li31, li33, li40, li42, li44, li48, li57, li60, li99, li100, li126, li150, li176, li177, li187, li197, li207, li208, li223, li304, li608, li1520, li1824, nI_add, pk_mul, nI_clamp, nI_leI, nI_ltI, nI_eq, zn_inb, zn_gd, zn_bs, zn_isb, not_true_eq_false, not_false_eq_true, ↓reduceIte, pk_div, pk_sub, zn_rem20, zn_rem2, zn_m1, zn_eqw, zn_weq, zn_weq2, zn_wlt0, zn_wltn, zn_win, zn_wcl, zn_wadd, Nat.not_lt_zero, Nat.one_ne_zero, Nat.zero_ne_one, Nat.le_refl, Nat.zero_le, zn_sel_r, zn_sel_l, h.1, c, e]
    exact ih1
theorem zk_stock (h : RK (K 1) S) (hc : S 1 0 ≤ 12) {k : Nat} (hk : k < 10) : fX9_stock K (nI k) = some (nI (zs_stock S k)) := by
  unfold fX9_stock
  exact zk_stock_L h hc hk (fun (l2 : Int32) => some l2) (S 1 0) 0 5000 (by omega) (by omega)
theorem zk_missing (h : RK (K 1) S) (g : GX u S) {k : Nat} (hk : k < 10) : fX9_missing K (nI k) = some (nI (zs_miss S k)) := by
  have e := zk_stock h g.c12 hk
  have e2 := (h.2.2.2.2.2.1 k hk).2.1
  have b := g.2.1 k hk
  have b2 := zs_stock_le g.1 hk
  unfold fX9_missing zs_miss
  by_cases c : zs_stock S k ≤ S 11 k
  · by_cases c2 : S 11 k - zs_stock S k ≤ 0
    · have : S 11 k - zs_stock S k = 0 := by omega
      simp (disch := omega) only [li0, li1, li2, li3, li4, li5, li6, li7, li8, li9, li10, li12, li13, li14, li15, li19, li20, li31, li33, li40, li42, li44, li48, li57, li60, li99, li100, li126, li150, li176, li177, li187, li197, li207, li208, li223, li304, li608, li1520, li1824, nI_add, pk_mul, nI_clamp, nI_leI, nI_ltI, nI_eq, zn_inb, zn_gd, zn_bs, zn_isb, not_true_eq_false, not_false_eq_true, ↓reduceIte, pk_div, pk_sub, zn_rem20, zn_rem2, zn_m1, zn_eqw, zn_weq, zn_weq2, zn_wlt0, zn_wltn, zn_win, zn_wcl, zn_wadd, Nat.not_lt_zero, Nat.one_ne_zero, Nat.zero_ne_one, Nat.le_refl, Nat.zero_le, zn_sel_r, zn_sel_l, e, e2, c2, this, fX9_missing_B26]
    · simp (disch := omega) only [li0, li1, li2, li3, li4, li5, li6, li7, li8, li9, li10, li12, li13, li14, li15, li19, li20, li31, li33, li40, li42, li44, li48, li57, li60, li99, li100, li126, li150, li176, li177, li187, li197, li207, li208, li223, li304, li608, li1520, li1824, nI_add, pk_mul, nI_clamp, nI_leI, nI_ltI, nI_eq, zn_inb, zn_gd, zn_bs, zn_isb, not_true_eq_false, not_false_eq_true, ↓reduceIte, pk_div, pk_sub, zn_rem20, zn_rem2, zn_m1, zn_eqw, zn_weq, zn_weq2, zn_wlt0, zn_wltn, zn_win, zn_wcl, zn_wadd, Nat.not_lt_zero, Nat.one_ne_zero, Nat.zero_ne_one, Nat.le_refl, Nat.zero_le, zn_sel_r, zn_sel_l, e, e2, c2, fX9_missing_B26]
  · have c3 : nI (S 11 k) - nI (zs_stock S k) ≤ nI 0 := Int32.le_of_lt (pk_sneg (by omega) (by omega))
    have c4 : S 11 k - zs_stock S k = 0 := by omega
    simp (disch := omega) only [li0, li1, li2, li3, li4, li5, li6, li7, li8, li9, li10, li12, li13, li14, li15, li19, li20, li31, li33, li40, li42, li44, li48, li57, li60, li99, li100, li126, li150, li176, li177, li187, li197, li207, li208, li223, li304, li608, li1520, li1824, nI_add, pk_mul, nI_clamp, nI_leI, nI_ltI, nI_eq, zn_inb, zn_gd, zn_bs, zn_isb, not_true_eq_false, not_false_eq_true, ↓reduceIte, pk_div, pk_sub, zn_rem20, zn_rem2, zn_m1, zn_eqw, zn_weq, zn_weq2, zn_wlt0, zn_wltn, zn_win, zn_wcl, zn_wadd, Nat.not_lt_zero, Nat.one_ne_zero, Nat.zero_ne_one, Nat.le_refl, Nat.zero_le, zn_sel_r, zn_sel_l, e, e2, c3, c4, fX9_missing_B26]
theorem zk_wants (h : RK (K 1) S) (g : GX u S) {r k : Nat} (hr : r < S 14 0) (hk : k < 10) : fX9_wants K (nI r) (nI k) = some (nI (S 15 (r * 10 + k))) := by
  have e := h.2.2.2.2.2.2.2 r k hr hk
  have h8 := g.o8
  unfold fX9_wants
  simp (disch := omega) only [li0, li1, li2, li3, li4, li5, li6, li7, li8, li9, li10, li12, li13, li14, li15, li19, li20, li31, li33, li40, li42, li44, li48, li57, li60, li99, li100, li126, li150, li176, li177, li187, li197, li207, li208, li223, li304, li608, li1520, li1824, nI_add, pk_mul, nI_clamp, nI_leI, nI_ltI, nI_eq, zn_inb, zn_gd, zn_bs, zn_isb, not_true_eq_false, not_false_eq_true, ↓reduceIte, pk_div, pk_sub, zn_rem20, zn_rem2, zn_m1, zn_eqw, zn_weq, zn_weq2, zn_wlt0, zn_wltn, zn_win, zn_wcl, zn_wadd, Nat.not_lt_zero, Nat.one_ne_zero, Nat.zero_ne_one, Nat.le_refl, Nat.zero_le, zn_sel_r, zn_sel_l, e]
theorem zk_canBe_L0 (r : Nat) (kx : Int32 → Option Int32) : ∀ d k n, k + d = 10 → d < n → fX9_canBe_L4 K n kx (nI r) (nI 0) (nI k) = kx (nI 0) := by
  intro d
  induction d with
  | zero =>
    intro k n hk_ hn
    obtain ⟨m, rfl⟩ : ∃ m, n = m + 1 := ⟨n - 1, by omega⟩
    have c : 10 ≤ k := by omega
    have ef : k = 10 := by omega
    rw [fX9_canBe_L4]
    simp (disch := omega) only [li0, li1, li2, li3, li4, li5, li6, li7, li8, li9, li10, li12, li13, li14, li15, li19, li20, li31, li33, li40, li42, li44, li48, li57, li60, li99, li100, li126, li150, li176, li177, li187, li197, li207, li208, li223, li304, li608, li1520, li1824, nI_add, pk_mul, nI_clamp, nI_leI, nI_ltI, nI_eq, zn_inb, zn_gd, zn_bs, zn_isb, not_true_eq_false, not_false_eq_true, ↓reduceIte, pk_div, pk_sub, zn_rem20, zn_rem2, zn_m1, zn_eqw, zn_weq, zn_weq2, zn_wlt0, zn_wltn, zn_win, zn_wcl, zn_wadd, Nat.not_lt_zero, Nat.one_ne_zero, Nat.zero_ne_one, Nat.le_refl, Nat.zero_le, zn_sel_r, zn_sel_l, c]
    try rw [ef]
    try rfl
  | succ d ih =>
    intro k n hk_ hn
    obtain ⟨m, rfl⟩ : ∃ m, n = m + 1 := ⟨n - 1, by omega⟩
    have c : ¬ 10 ≤ k := by omega
    have ih1 := ih (k + 1) m (by omega) (by omega)
    rw [fX9_canBe_L4]
    simp (disch := omega) only [li0, li1, li2, li3, li4, li5, li6, li7, li8, li9, li10, li12, li13, li14, li15, li19, li20, li31, li33, li40, li42, li44, li48, li57, li60, li99, li100, li126, li150, li176, li177, li187, li197, li207, li208, li223, li304, li608, li1520, li1824, nI_add, pk_mul, nI_clamp, nI_leI, nI_ltI, nI_eq, zn_inb, zn_gd, zn_bs, zn_isb, not_true_eq_false, not_false_eq_true, ↓reduceIte, pk_div, pk_sub, zn_rem20, zn_rem2, zn_m1, zn_eqw, zn_weq, zn_weq2, zn_wlt0, zn_wltn, zn_win, zn_wcl, zn_wadd, Nat.not_lt_zero, Nat.one_ne_zero, Nat.zero_ne_one, Nat.le_refl, Nat.zero_le, zn_sel_r, zn_sel_l, c, fX9_canBe_B32, fX9_canBe_B33]
    exact ih1
theorem zk_canBe_L (h : RK (K 1) S) (g : GX u S) {r : Nat} (hr : r < S 14 0) (kx : Int32 → Option Int32) : ∀ d k n, k + d = 10 → d < n → fX9_canBe_L4 K n kx (nI r) (nI 1) (nI k) = kx (nI (bif zs_any (zs_lack S r) d k then 0 else 1)) := by
  intro d
  induction d with
  | zero =>
    intro k n hk_ hn
    obtain ⟨m, rfl⟩ : ∃ m, n = m + 1 := ⟨n - 1, by omega⟩
    have c : 10 ≤ k := by omega
    have ef : k = 10 := by omega
    rw [fX9_canBe_L4]
    simp (disch := omega) only [li0, li1, li2, li3, li4, li5, li6, li7, li8, li9, li10, li12, li13, li14, li15, li19, li20, li31, li33, li40, li42, li44, li48, li57, li60, li99, li100, li126, li150, li176, li177, li187, li197, li207, li208, li223, li304, li608, li1520, li1824, nI_add, pk_mul, nI_clamp, nI_leI, nI_ltI, nI_eq, zn_inb, zn_gd, zn_bs, zn_isb, not_true_eq_false, not_false_eq_true, ↓reduceIte, pk_div, pk_sub, zn_rem20, zn_rem2, zn_m1, zn_eqw, zn_weq, zn_weq2, zn_wlt0, zn_wltn, zn_win, zn_wcl, zn_wadd, Nat.not_lt_zero, Nat.one_ne_zero, Nat.zero_ne_one, Nat.le_refl, Nat.zero_le, zn_sel_r, zn_sel_l, c]
    try rw [ef]
    try rfl
  | succ d ih =>
    intro k n hk_ hn
    obtain ⟨m, rfl⟩ : ∃ m, n = m + 1 := ⟨n - 1, by omega⟩
    have c : ¬ 10 ≤ k := by omega
    have ih1 := ih (k + 1) m (by omega) (by omega)
    have e := zk_wants h g hr (k := k) (by omega)
    have e2 := zk_stock h g.c12 (k := k) (by omega)
    have b := g.wn r k hr (by omega)
    have b2 := zs_stock_le g.1 (k := k) (by omega)
    rw [zs_any, fX9_canBe_L4]
    by_cases q : zs_stock S k < S 15 (r * 10 + k)
    · rw [show zs_lack S r k = true from decide_eq_true q]
      simp (disch := omega) only [li0, li1, li2, li3, li4, li5, li6, li7, li8, li9, li10, li12, li13, li14, li15, li19, li20, li31, li33, li40, li42, li44, li48, li57, li60, li99, li100, li126, li150, li176, li177, li187, li197, li207, li208, li223, li304, li608, li1520, li1824, nI_add, pk_mul, nI_clamp, nI_leI, nI_ltI, nI_eq, zn_inb, zn_gd, zn_bs, zn_isb, not_true_eq_false, not_false_eq_true, ↓reduceIte, pk_div, pk_sub, zn_rem20, zn_rem2, zn_m1, zn_eqw, zn_weq, zn_weq2, zn_wlt0, zn_wltn, zn_win, zn_wcl, zn_wadd, Nat.not_lt_zero, Nat.one_ne_zero, Nat.zero_ne_one, Nat.le_refl, Nat.zero_le, zn_sel_r, zn_sel_l, c, e, e2, q, fX9_canBe_B32, fX9_canBe_B33, Bool.true_or, cond_true]
      exact zk_canBe_L0 r kx d (k + 1) m (by omega) (by omega)
    · rw [show zs_lack S r k = false from decide_eq_false q]
      simp (disch := omega) only [li0, li1, li2, li3, li4, li5, li6, li7, li8, li9, li10, li12, li13, li14, li15, li19, li20, li31, li33, li40, li42, li44, li48, li57, li60, li99, li100, li126, li150, li176, li177, li187, li197, li207, li208, li223, li304, li608, li1520, li1824, nI_add, pk_mul, nI_clamp, nI_leI, nI_ltI, nI_eq, zn_inb, zn_gd, zn_bs, zn_isb, not_true_eq_false, not_false_eq_true, ↓reduceIte, pk_div, pk_sub, zn_rem20, zn_rem2, zn_m1, zn_eqw, zn_weq, zn_weq2, zn_wlt0, zn_wltn, zn_win, zn_wcl, zn_wadd, Nat.not_lt_zero, Nat.one_ne_zero, Nat.zero_ne_one, Nat.le_refl, Nat.zero_le, zn_sel_r, zn_sel_l, c, e, e2, q, fX9_canBe_B32, fX9_canBe_B33, Bool.false_or]
      exact ih1
theorem zk_canBe (h : RK (K 1) S) (g : GX u S) {r : Nat} (hr : r < S 14 0) : fX9_canBe K (nI r) = some (nI (bif zs_can S r then 1 else 0)) := by
  unfold fX9_canBe zs_can
  refine (zk_canBe_L h g hr _ 10 0 5000 (by omega) (by omega)).trans ?_
  cases zs_any (zs_lack S r) 10 0 <;> rfl
def zs_bits (v : Nat) : Nat := fb_sm (fun j => v / 2 ^ j % 2) 12
theorem zk_bits_L {v : Nat} (hv : v < 2 ^ 31) (kx : Int32 → Option Int32) : ∀ d j n, j + d = 12 → d < n → fX9_bits_L4 n kx (nI v) (nI (fb_sm (fun j => v / 2 ^ j % 2) j)) (nI j) = kx (nI (zs_bits v)) := by
  intro d
  induction d with
  | zero =>
    intro j n hj_ hn
    obtain ⟨m, rfl⟩ : ∃ m, n = m + 1 := ⟨n - 1, by omega⟩
    have c : 12 ≤ j := by omega
    have ef : j = 12 := by omega
    rw [fX9_bits_L4]
    simp (disch := omega) only [li0, li1, li2, li3, li4, li5, li6, li7, li8, li9, li10, li12, li13, li14, li15, li19, li20, li31, li33, li40, li42, li44, li48, li57, li60, li99, li100, li126, li150, li176, li177, li187, li197, li207, li208, li223, li304, li608, li1520, li1824, nI_add, pk_mul, nI_clamp, nI_leI, nI_ltI, nI_eq, zn_inb, zn_gd, zn_bs, zn_isb, not_true_eq_false, not_false_eq_true, ↓reduceIte, pk_div, pk_sub, zn_rem20, zn_rem2, zn_m1, zn_eqw, zn_weq, zn_weq2, zn_wlt0, zn_wltn, zn_win, zn_wcl, zn_wadd, Nat.not_lt_zero, Nat.one_ne_zero, Nat.zero_ne_one, Nat.le_refl, Nat.zero_le, zn_sel_r, zn_sel_l, c]
    try rw [ef]
    try rfl
  | succ d ih =>
    intro j n hj_ hn
    obtain ⟨m, rfl⟩ : ∃ m, n = m + 1 := ⟨n - 1, by omega⟩
    have c : ¬ 12 ≤ j := by omega
    have ih1 := ih (j + 1) m (by omega) (by omega)
    have e := zn_bit (n := v) (f := j) hv (by omega)
    rw [fX9_bits_L4]
    simp (disch := omega) only [li0, li1, li2, li3, li4, li5, li6, li7, li8, li9, li10, li12, li13, li14, li15, li19, li20, li31, li33, li40, li42, li44, li48, li57, li60, li99, li100, li126, li150, li176, li177, li187, li197, li207, li208, li223, li304, li608, li1520, li1824, nI_add, pk_mul, nI_clamp, nI_leI, nI_ltI, nI_eq, zn_inb, zn_gd, zn_bs, zn_isb, not_true_eq_false, not_false_eq_true, ↓reduceIte, pk_div, pk_sub, zn_rem20, zn_rem2, zn_m1, zn_eqw, zn_weq, zn_weq2, zn_wlt0, zn_wltn, zn_win, zn_wcl, zn_wadd, Nat.not_lt_zero, Nat.one_ne_zero, Nat.zero_ne_one, Nat.le_refl, Nat.zero_le, zn_sel_r, zn_sel_l, c, e]
    exact ih1
theorem zk_bits {v : Nat} (hv : v < 2 ^ 31) : fX9_bits (nI v) = some (nI (zs_bits v)) := by
  unfold fX9_bits
  exact zk_bits_L hv (fun (l1 : Int32) => some l1) 12 0 5000 (by omega) (by omega)
theorem zk_canSet_L1 (h : RK (K 1) S) (g : GX u S) (r : Nat) {set k : Nat} (hs : set < 2 ^ 12) (hk : k < 10) (kx : Int32 → Int32 → Int32 → Int32 → Option Int32) : ∀ d f n, f + d = S 1 0 → d < n → fX9_canSet_L22 K n kx (nI r) (nI set) (nI k) (nI (zs_sum S set k f)) (nI f) = kx (nI r) (nI set) (nI k) (nI (zs_sum S set k (S 1 0))) := by
  have hc := g.c12
  intro d
  induction d with
  | zero =>
    intro f n hf_ hn
    obtain ⟨m, rfl⟩ : ∃ m, n = m + 1 := ⟨n - 1, by omega⟩
    have c : S 1 0 ≤ f := by omega
    have ef : f = S 1 0 := by omega
    rw [fX9_canSet_L22]
    simp (disch := omega) only [li0, li1, li2, li3, li4, li5, li6, li7, li8, li9, li10, li12, li13, li14, li15, li19, li20, li31, li33, li40, li42, li44, li48, li57, li60, li99, li100, li126, li150, li176, li177, li187, li197, li207, li208, li223, li304, li608, li1520, li1824, nI_add, pk_mul, nI_clamp, nI_leI, nI_ltI, nI_eq, zn_inb, zn_gd, zn_bs, zn_isb, not_true_eq_false, not_false_eq_true, ↓reduceIte, pk_div, pk_sub, zn_rem20, zn_rem2, zn_m1, zn_eqw, zn_weq, zn_weq2, zn_wlt0, zn_wltn, zn_win, zn_wcl, zn_wadd, Nat.not_lt_zero, Nat.one_ne_zero, Nat.zero_ne_one, Nat.le_refl, Nat.zero_le, zn_sel_r, zn_sel_l, h.1, c]
    try rw [ef]
    try rfl
  | succ d ih =>
    intro f n hf_ hn
    obtain ⟨m, rfl⟩ : ∃ m, n = m + 1 := ⟨n - 1, by omega⟩
    have c : ¬ S 1 0 ≤ f := by omega
    have ih1 := ih (f + 1) m (by omega) (by omega)
    have e := zk_of4 h hc (f := f) (by omega) hk
    have zb := zn_bit1 (n := set) (f := f) (by omega) (by omega)
    rw [show zs_sum S set k (f + 1) = zs_sum S set k f + (if set.testBit f then S 5 (f * 10 + k) else 0) from rfl] at ih1
    rw [fX9_canSet_L22]
    cases q : set.testBit f
    · rw [q] at zb ih1
      have zb1 : ¬ ((nI set >>> (nI f &&& nI 31)) &&& nI 1 = nI 1) := fun a => absurd (zb.mp a) (by decide)
      simp (disch := omega) only [li0, li1, li2, li3, li4, li5, li6, li7, li8, li9, li10, li12, li13, li14, li15, li19, li20, li31, li33, li40, li42, li44, li48, li57, li60, li99, li100, li126, li150, li176, li177, li187, li197, li207, li208, li223, li304, li608, li1520, li1824, nI_add, pk_mul, nI_clamp, nI_leI, nI_ltI, nI_eq, zn_inb, zn_gd, zn_bs, zn_isb, not_true_eq_false, not_false_eq_true, ↓reduceIte, pk_div, pk_sub, zn_rem20, zn_rem2, zn_m1, zn_eqw, zn_weq, zn_weq2, zn_wlt0, zn_wltn, zn_win, zn_wcl, zn_wadd, Nat.not_lt_zero, Nat.one_ne_zero, Nat.zero_ne_one, Nat.le_refl, Nat.zero_le, zn_sel_r, zn_sel_l, h.1, c, zb1, fX9_canSet_B59]
      exact ih1
    · rw [q] at zb ih1
      have zb1 := zb.mpr rfl
      simp (disch := omega) only [li0, li1, li2, li3, li4, li5, li6, li7, li8, li9, li10, li12, li13, li14, li15, li19, li20, li31, li33, li40, li42, li44, li48, li57, li60, li99, li100, li126, li150, li176, li177, li187, li197, li207, li208, li223, li304, li608, li1520, li1824, nI_add, pk_mul, nI_clamp, nI_leI, nI_ltI, nI_eq, zn_inb, zn_gd, zn_bs, zn_isb, not_true_eq_false, not_false_eq_true, ↓reduceIte, pk_div, pk_sub, zn_rem20, zn_rem2, zn_m1, zn_eqw, zn_weq, zn_weq2, zn_wlt0, zn_wltn, zn_win, zn_wcl, zn_wadd, Nat.not_lt_zero, Nat.one_ne_zero, Nat.zero_ne_one, Nat.le_refl, Nat.zero_le, zn_sel_r, zn_sel_l, h.1, c, zb1, e, fX9_canSet_B59]
      exact ih1
theorem zk_canSet_L0 (r set : Nat) : ∀ d k n, k + d = 10 → d < n → fX9_canSet_L5 K n (fun (l3 : Int32) => gd (isb l3) (some l3)) (nI r) (nI set) (nI 0) (nI k) = some (nI 0) := by
  intro d k n hk hn
  obtain ⟨m, rfl⟩ : ∃ m, n = m + 1 := ⟨n - 1, by omega⟩
  rw [fX9_canSet_L5]
  by_cases c : 10 ≤ k
  · simp (disch := omega) only [li0, li1, li2, li3, li4, li5, li6, li7, li8, li9, li10, li12, li13, li14, li15, li19, li20, li31, li33, li40, li42, li44, li48, li57, li60, li99, li100, li126, li150, li176, li177, li187, li197, li207, li208, li223, li304, li608, li1520, li1824, nI_add, pk_mul, nI_clamp, nI_leI, nI_ltI, nI_eq, zn_inb, zn_gd, zn_bs, zn_isb, not_true_eq_false, not_false_eq_true, ↓reduceIte, pk_div, pk_sub, zn_rem20, zn_rem2, zn_m1, zn_eqw, zn_weq, zn_weq2, zn_wlt0, zn_wltn, zn_win, zn_wcl, zn_wadd, Nat.not_lt_zero, Nat.one_ne_zero, Nat.zero_ne_one, Nat.le_refl, Nat.zero_le, zn_sel_r, zn_sel_l, c]
  · simp (disch := omega) only [li0, li1, li2, li3, li4, li5, li6, li7, li8, li9, li10, li12, li13, li14, li15, li19, li20, li31, li33, li40, li42, li44, li48, li57, li60, li99, li100, li126, li150, li176, li177, li187, li197, li207, li208, li223, li304, li608, li1520, li1824, nI_add, pk_mul, nI_clamp, nI_leI, nI_ltI, nI_eq, zn_inb, zn_gd, zn_bs, zn_isb, not_true_eq_false, not_false_eq_true, ↓reduceIte, pk_div, pk_sub, zn_rem20, zn_rem2, zn_m1, zn_eqw, zn_weq, zn_weq2, zn_wlt0, zn_wltn, zn_win, zn_wcl, zn_wadd, Nat.not_lt_zero, Nat.one_ne_zero, Nat.zero_ne_one, Nat.le_refl, Nat.zero_le, zn_sel_r, zn_sel_l, c]
theorem zk_canSet_L (h : RK (K 1) S) (g : GX u S) {r set : Nat} (hr : r < S 14 0) (hs : set < 2 ^ 12) : ∀ d k n, k + d = 10 → d < n → fX9_canSet_L5 K n (fun (l3 : Int32) => gd (isb l3) (some l3)) (nI r) (nI set) (nI 1) (nI k) = some (nI (bif zs_any (zs_less S r set) d k then 0 else 1)) := by
  have hc := g.c12
  intro d
  induction d with
  | zero =>
    intro k n hk_ hn
    obtain ⟨m, rfl⟩ : ∃ m, n = m + 1 := ⟨n - 1, by omega⟩
    have c : 10 ≤ k := by omega
    have ef : k = 10 := by omega
    rw [fX9_canSet_L5]
    simp (disch := omega) only [li0, li1, li2, li3, li4, li5, li6, li7, li8, li9, li10, li12, li13, li14, li15, li19, li20, li31, li33, li40, li42, li44, li48, li57, li60, li99, li100, li126, li150, li176, li177, li187, li197, li207, li208, li223, li304, li608, li1520, li1824, nI_add, pk_mul, nI_clamp, nI_leI, nI_ltI, nI_eq, zn_inb, zn_gd, zn_bs, zn_isb, not_true_eq_false, not_false_eq_true, ↓reduceIte, pk_div, pk_sub, zn_rem20, zn_rem2, zn_m1, zn_eqw, zn_weq, zn_weq2, zn_wlt0, zn_wltn, zn_win, zn_wcl, zn_wadd, Nat.not_lt_zero, Nat.one_ne_zero, Nat.zero_ne_one, Nat.le_refl, Nat.zero_le, zn_sel_r, zn_sel_l, c]
    try rw [ef]
    try rfl
  | succ d ih =>
    intro k n hk_ hn
    obtain ⟨m, rfl⟩ : ∃ m, n = m + 1 := ⟨n - 1, by omega⟩
    have c : ¬ 10 ≤ k := by omega
    have ih1 := ih (k + 1) m (by omega) (by omega)
    have e := zk_wants h g hr (k := k) (by omega)
    have b := g.wn r k hr (by omega)
    have b2 := zs_sum_le g set (k := k) (by omega) (Nat.le_refl _)
    have e2 := zk_canSet_L1 h g r hs (show k < 10 by omega) (fun (l1 : Int32) (l2 : Int32) (l4 : Int32) (l5 : Int32) => (fX9_wants K l1 l4).bind fun r72 => if l5 < r72 then (fX9_canSet_B85 K (fun (l1 : Int32) (l2 : Int32) (l3 : Int32) (l4 : Int32) => fX9_canSet_L5 K m (fun (l3 : Int32) => gd (isb l3) (some l3)) l1 l2 l3 l4) (fun (l3 : Int32) => gd (isb l3) (some l3)) l1 l2 l4 (0 : Int32)) else (fX9_canSet_B85 K (fun (l1 : Int32) (l2 : Int32) (l3 : Int32) (l4 : Int32) => fX9_canSet_L5 K m (fun (l3 : Int32) => gd (isb l3) (some l3)) l1 l2 l3 l4) (fun (l3 : Int32) => gd (isb l3) (some l3)) l1 l2 l4 (1 : Int32))) (S 1 0) 0 5000 (by omega) (by omega)
    rw [show zs_sum S set k 0 = 0 from rfl] at e2
    rw [zs_any, fX9_canSet_L5, show (10 : Int32) = nI 10 from rfl, if_neg (nI_ge (show _ < _ by omega) (by omega)), if_neg (nI_ne0 (n := 1) (by omega) (by omega))]
    refine e2.trans ?_
    by_cases q : zs_sum S set k (S 1 0) < S 15 (r * 10 + k)
    · rw [show zs_less S r set k = true from decide_eq_true q]
      simp (disch := omega) only [li0, li1, li2, li3, li4, li5, li6, li7, li8, li9, li10, li12, li13, li14, li15, li19, li20, li31, li33, li40, li42, li44, li48, li57, li60, li99, li100, li126, li150, li176, li177, li187, li197, li207, li208, li223, li304, li608, li1520, li1824, nI_add, pk_mul, nI_clamp, nI_leI, nI_ltI, nI_eq, zn_inb, zn_gd, zn_bs, zn_isb, not_true_eq_false, not_false_eq_true, ↓reduceIte, pk_div, pk_sub, zn_rem20, zn_rem2, zn_m1, zn_eqw, zn_weq, zn_weq2, zn_wlt0, zn_wltn, zn_win, zn_wcl, zn_wadd, Nat.not_lt_zero, Nat.one_ne_zero, Nat.zero_ne_one, Nat.le_refl, Nat.zero_le, zn_sel_r, zn_sel_l, e, q, fX9_canSet_B85, Bool.true_or, cond_true]
      exact zk_canSet_L0 r set d (k + 1) m (by omega) (by omega)
    · rw [show zs_less S r set k = false from decide_eq_false q]
      simp (disch := omega) only [li0, li1, li2, li3, li4, li5, li6, li7, li8, li9, li10, li12, li13, li14, li15, li19, li20, li31, li33, li40, li42, li44, li48, li57, li60, li99, li100, li126, li150, li176, li177, li187, li197, li207, li208, li223, li304, li608, li1520, li1824, nI_add, pk_mul, nI_clamp, nI_leI, nI_ltI, nI_eq, zn_inb, zn_gd, zn_bs, zn_isb, not_true_eq_false, not_false_eq_true, ↓reduceIte, pk_div, pk_sub, zn_rem20, zn_rem2, zn_m1, zn_eqw, zn_weq, zn_weq2, zn_wlt0, zn_wltn, zn_win, zn_wcl, zn_wadd, Nat.not_lt_zero, Nat.one_ne_zero, Nat.zero_ne_one, Nat.le_refl, Nat.zero_le, zn_sel_r, zn_sel_l, e, q, fX9_canSet_B85, Bool.false_or]
      exact ih1
theorem zk_canSet (h : RK (K 1) S) (g : GX u S) {r set : Nat} (hr : r < S 14 0) (hs : set < 2 ^ 12) : fX9_canSet K (nI r) (nI set) = some (nI (bif zs_en S r set then 1 else 0)) := by
  unfold fX9_canSet zs_en
  refine (zk_canSet_L h g hr hs 10 0 5000 (by omega) (by omega)).trans ?_
  cases zs_any (zs_less S r set) 10 0 <;> rfl
theorem zk_wantedMany_L (h : RK (K 1) S) (g : GX u S) {r : Nat} (hr : r < S 14 0) (kx : Int32 → Option Int32) : ∀ d k n, k + d = 10 → d < n → fX9_wantedMany_L4 K n kx (nI r) (nI (fb_sm (fun k => S 15 (r * 10 + k)) k)) (nI k) = kx (nI (zs_wm S r)) := by
  intro d
  induction d with
  | zero =>
    intro k n hk_ hn
    obtain ⟨m, rfl⟩ : ∃ m, n = m + 1 := ⟨n - 1, by omega⟩
    have c : 10 ≤ k := by omega
    have ef : k = 10 := by omega
    rw [fX9_wantedMany_L4]
    simp (disch := omega) only [li0, li1, li2, li3, li4, li5, li6, li7, li8, li9, li10, li12, li13, li14, li15, li19, li20, li31, li33, li40, li42, li44, li48, li57, li60, li99, li100, li126, li150, li176, li177, li187, li197, li207, li208, li223, li304, li608, li1520, li1824, nI_add, pk_mul, nI_clamp, nI_leI, nI_ltI, nI_eq, zn_inb, zn_gd, zn_bs, zn_isb, not_true_eq_false, not_false_eq_true, ↓reduceIte, pk_div, pk_sub, zn_rem20, zn_rem2, zn_m1, zn_eqw, zn_weq, zn_weq2, zn_wlt0, zn_wltn, zn_win, zn_wcl, zn_wadd, Nat.not_lt_zero, Nat.one_ne_zero, Nat.zero_ne_one, Nat.le_refl, Nat.zero_le, zn_sel_r, zn_sel_l, c]
    try rw [ef]
    try rfl
  | succ d ih =>
    intro k n hk_ hn
    obtain ⟨m, rfl⟩ : ∃ m, n = m + 1 := ⟨n - 1, by omega⟩
    have c : ¬ 10 ≤ k := by omega
    have ih1 := ih (k + 1) m (by omega) (by omega)
    have e := zk_wants h g hr (k := k) (by omega)
    rw [fX9_wantedMany_L4]
    simp (disch := omega) only [li0, li1, li2, li3, li4, li5, li6, li7, li8, li9, li10, li12, li13, li14, li15, li19, li20, li31, li33, li40, li42, li44, li48, li57, li60, li99, li100, li126, li150, li176, li177, li187, li197, li207, li208, li223, li304, li608, li1520, li1824, nI_add, pk_mul, nI_clamp, nI_leI, nI_ltI, nI_eq, zn_inb, zn_gd, zn_bs, zn_isb, not_true_eq_false, not_false_eq_true, ↓reduceIte, pk_div, pk_sub, zn_rem20, zn_rem2, zn_m1, zn_eqw, zn_weq, zn_weq2, zn_wlt0, zn_wltn, zn_win, zn_wcl, zn_wadd, Nat.not_lt_zero, Nat.one_ne_zero, Nat.zero_ne_one, Nat.le_refl, Nat.zero_le, zn_sel_r, zn_sel_l, c, e]
    exact ih1
theorem zk_wantedMany (h : RK (K 1) S) (g : GX u S) {r : Nat} (hr : r < S 14 0) : fX9_wantedMany K (nI r) = some (nI (zs_wm S r)) := by
  unfold fX9_wantedMany
  exact zk_wantedMany_L h g hr (fun (l2 : Int32) => some l2) 10 0 5000 (by omega) (by omega)
theorem zk_wayTo (h : RK (K 1) S) (g : GX u S) {f : Nat} (hf : f < S 1 0) : fX9_wayTo K (nI f) = some (nI (zs_to S f)) := by
  have hc := g.c12
  have b := g.1.2.2.1 f hf
  have lo := g.lo
  have e1 := zk_of2 h hc hf
  have e2 := zk_way h hc hf
  have e3 := h.2.2.2.2.1.1
  unfold fX9_wayTo zs_to zs_dif
  by_cases c : S 6 0 < S 3 f % 20
  · have h1 : ¬ nI 0 ≤ nI (S 6 0) - nI (S 3 f % 20) := by
      intro z
      have h2 : nI (S 6 0) - nI (S 3 f % 20) < 0 := pk_sneg (by omega) c
      exact Int32.lt_irrefl (Int32.lt_of_lt_of_le h2 z)
    have h3 : -(nI (S 6 0) - nI (S 3 f % 20)) = nI (S 3 f % 20 - S 6 0) := by
      rw [← pk_sub (by omega), Int32.neg_sub]
    simp (disch := omega) only [li0, li1, li2, li3, li4, li5, li6, li7, li8, li9, li10, li12, li13, li14, li15, li19, li20, li31, li33, li40, li42, li44, li48, li57, li60, li99, li100, li126, li150, li176, li177, li187, li197, li207, li208, li223, li304, li608, li1520, li1824, nI_add, pk_mul, nI_clamp, nI_leI, nI_ltI, nI_eq, zn_inb, zn_gd, zn_bs, zn_isb, not_true_eq_false, not_false_eq_true, ↓reduceIte, pk_div, pk_sub, zn_rem20, zn_rem2, zn_m1, zn_eqw, zn_weq, zn_weq2, zn_wlt0, zn_wltn, zn_win, zn_wcl, zn_wadd, Nat.not_lt_zero, Nat.one_ne_zero, Nat.zero_ne_one, Nat.le_refl, Nat.zero_le, zn_sel_r, zn_sel_l, e1, e2, e3, h1, h3, c, fX9_wayTo_B24]
  · simp (disch := omega) only [li0, li1, li2, li3, li4, li5, li6, li7, li8, li9, li10, li12, li13, li14, li15, li19, li20, li31, li33, li40, li42, li44, li48, li57, li60, li99, li100, li126, li150, li176, li177, li187, li197, li207, li208, li223, li304, li608, li1520, li1824, nI_add, pk_mul, nI_clamp, nI_leI, nI_ltI, nI_eq, zn_inb, zn_gd, zn_bs, zn_isb, not_true_eq_false, not_false_eq_true, ↓reduceIte, pk_div, pk_sub, zn_rem20, zn_rem2, zn_m1, zn_eqw, zn_weq, zn_weq2, zn_wlt0, zn_wltn, zn_win, zn_wcl, zn_wadd, Nat.not_lt_zero, Nat.one_ne_zero, Nat.zero_ne_one, Nat.le_refl, Nat.zero_le, zn_sel_r, zn_sel_l, e1, e2, e3, c, fX9_wayTo_B24]
theorem zk_having_L (h : RK (K 1) S) (g : GX u S) {k : Nat} (hk : k < 10) (kx : Int32 → Option Int32) : ∀ d f n, f + d = S 1 0 → d < n → fX9_having_L4 K n kx (nI k) (nI (fb_sm (fun f => if S 5 (f * 10 + k) ≤ 0 then 0 else 1) f)) (nI f) = kx (nI (zs_having S k)) := by
  have hc := g.c12
  intro d
  induction d with
  | zero =>
    intro f n hf_ hn
    obtain ⟨m, rfl⟩ : ∃ m, n = m + 1 := ⟨n - 1, by omega⟩
    have c : S 1 0 ≤ f := by omega
    have ef : f = S 1 0 := by omega
    rw [fX9_having_L4]
    simp (disch := omega) only [li0, li1, li2, li3, li4, li5, li6, li7, li8, li9, li10, li12, li13, li14, li15, li19, li20, li31, li33, li40, li42, li44, li48, li57, li60, li99, li100, li126, li150, li176, li177, li187, li197, li207, li208, li223, li304, li608, li1520, li1824, nI_add, pk_mul, nI_clamp, nI_leI, nI_ltI, nI_eq, zn_inb, zn_gd, zn_bs, zn_isb, not_true_eq_false, not_false_eq_true, ↓reduceIte, pk_div, pk_sub, zn_rem20, zn_rem2, zn_m1, zn_eqw, zn_weq, zn_weq2, zn_wlt0, zn_wltn, zn_win, zn_wcl, zn_wadd, Nat.not_lt_zero, Nat.one_ne_zero, Nat.zero_ne_one, Nat.le_refl, Nat.zero_le, zn_sel_r, zn_sel_l, h.1, c]
    try rw [ef]
    try rfl
  | succ d ih =>
    intro f n hf_ hn
    obtain ⟨m, rfl⟩ : ∃ m, n = m + 1 := ⟨n - 1, by omega⟩
    have c : ¬ S 1 0 ≤ f := by omega
    have ih1 := ih (f + 1) m (by omega) (by omega)
    have e := zk_of4 h hc (f := f) (by omega) hk
    have b := g.th f k (by omega) hk
    rw [fb_sm_succ] at ih1
    rw [fX9_having_L4]
    by_cases z : S 5 (f * 10 + k) ≤ 0
    · simp only [if_pos z] at ih1
      simp (disch := omega) only [li0, li1, li2, li3, li4, li5, li6, li7, li8, li9, li10, li12, li13, li14, li15, li19, li20, li31, li33, li40, li42, li44, li48, li57, li60, li99, li100, li126, li150, li176, li177, li187, li197, li207, li208, li223, li304, li608, li1520, li1824, nI_add, pk_mul, nI_clamp, nI_leI, nI_ltI, nI_eq, zn_inb, zn_gd, zn_bs, zn_isb, not_true_eq_false, not_false_eq_true, ↓reduceIte, pk_div, pk_sub, zn_rem20, zn_rem2, zn_m1, zn_eqw, zn_weq, zn_weq2, zn_wlt0, zn_wltn, zn_win, zn_wcl, zn_wadd, Nat.not_lt_zero, Nat.one_ne_zero, Nat.zero_ne_one, Nat.le_refl, Nat.zero_le, zn_sel_r, zn_sel_l, h.1, c, e, z, fX9_having_B31]
      exact ih1
    · simp only [if_neg z] at ih1
      simp (disch := omega) only [li0, li1, li2, li3, li4, li5, li6, li7, li8, li9, li10, li12, li13, li14, li15, li19, li20, li31, li33, li40, li42, li44, li48, li57, li60, li99, li100, li126, li150, li176, li177, li187, li197, li207, li208, li223, li304, li608, li1520, li1824, nI_add, pk_mul, nI_clamp, nI_leI, nI_ltI, nI_eq, zn_inb, zn_gd, zn_bs, zn_isb, not_true_eq_false, not_false_eq_true, ↓reduceIte, pk_div, pk_sub, zn_rem20, zn_rem2, zn_m1, zn_eqw, zn_weq, zn_weq2, zn_wlt0, zn_wltn, zn_win, zn_wcl, zn_wadd, Nat.not_lt_zero, Nat.one_ne_zero, Nat.zero_ne_one, Nat.le_refl, Nat.zero_le, zn_sel_r, zn_sel_l, h.1, c, e, z, fX9_having_B31]
      exact ih1
theorem zk_having (h : RK (K 1) S) (g : GX u S) {k : Nat} (hk : k < 10) : fX9_having K (nI k) = some (nI (zs_having S k)) := by
  unfold fX9_having
  exact zk_having_L h g hk (fun (l2 : Int32) => some l2) (S 1 0) 0 5000 (by omega) (by have := g.c12; omega)
theorem zk_isBare_L0 (f : Nat) (kx : Int32 → Option Int32) : ∀ d k n, k + d = 10 → d < n → fX9_isBare_L4 K n kx (nI f) (nI 0) (nI k) = kx (nI 0) := by
  intro d
  induction d with
  | zero =>
    intro k n hk_ hn
    obtain ⟨m, rfl⟩ : ∃ m, n = m + 1 := ⟨n - 1, by omega⟩
    have c : 10 ≤ k := by omega
    have ef : k = 10 := by omega
    rw [fX9_isBare_L4]
    simp (disch := omega) only [li0, li1, li2, li3, li4, li5, li6, li7, li8, li9, li10, li12, li13, li14, li15, li19, li20, li31, li33, li40, li42, li44, li48, li57, li60, li99, li100, li126, li150, li176, li177, li187, li197, li207, li208, li223, li304, li608, li1520, li1824, nI_add, pk_mul, nI_clamp, nI_leI, nI_ltI, nI_eq, zn_inb, zn_gd, zn_bs, zn_isb, not_true_eq_false, not_false_eq_true, ↓reduceIte, pk_div, pk_sub, zn_rem20, zn_rem2, zn_m1, zn_eqw, zn_weq, zn_weq2, zn_wlt0, zn_wltn, zn_win, zn_wcl, zn_wadd, Nat.not_lt_zero, Nat.one_ne_zero, Nat.zero_ne_one, Nat.le_refl, Nat.zero_le, zn_sel_r, zn_sel_l, c]
    try rw [ef]
    try rfl
  | succ d ih =>
    intro k n hk_ hn
    obtain ⟨m, rfl⟩ : ∃ m, n = m + 1 := ⟨n - 1, by omega⟩
    have c : ¬ 10 ≤ k := by omega
    have ih1 := ih (k + 1) m (by omega) (by omega)
    rw [fX9_isBare_L4]
    simp (disch := omega) only [li0, li1, li2, li3, li4, li5, li6, li7, li8, li9, li10, li12, li13, li14, li15, li19, li20, li31, li33, li40, li42, li44, li48, li57, li60, li99, li100, li126, li150, li176, li177, li187, li197, li207, li208, li223, li304, li608, li1520, li1824, nI_add, pk_mul, nI_clamp, nI_leI, nI_ltI, nI_eq, zn_inb, zn_gd, zn_bs, zn_isb, not_true_eq_false, not_false_eq_true, ↓reduceIte, pk_div, pk_sub, zn_rem20, zn_rem2, zn_m1, zn_eqw, zn_weq, zn_weq2, zn_wlt0, zn_wltn, zn_win, zn_wcl, zn_wadd, Nat.not_lt_zero, Nat.one_ne_zero, Nat.zero_ne_one, Nat.le_refl, Nat.zero_le, zn_sel_r, zn_sel_l, c, fX9_isBare_B29, fX9_isBare_B30]
    exact ih1
theorem zk_isBare_L (h : RK (K 1) S) (g : GX u S) {f : Nat} (hf : f < S 1 0) (kx : Int32 → Option Int32) : ∀ d k n, k + d = 10 → d < n → fX9_isBare_L4 K n kx (nI f) (nI 1) (nI k) = kx (nI (bif zs_any (fun k => decide (0 < S 5 (f * 10 + k))) d k then 0 else 1)) := by
  have hc := g.c12
  intro d
  induction d with
  | zero =>
    intro k n hk_ hn
    obtain ⟨m, rfl⟩ : ∃ m, n = m + 1 := ⟨n - 1, by omega⟩
    have c : 10 ≤ k := by omega
    have ef : k = 10 := by omega
    rw [fX9_isBare_L4]
    simp (disch := omega) only [li0, li1, li2, li3, li4, li5, li6, li7, li8, li9, li10, li12, li13, li14, li15, li19, li20, li31, li33, li40, li42, li44, li48, li57, li60, li99, li100, li126, li150, li176, li177, li187, li197, li207, li208, li223, li304, li608, li1520, li1824, nI_add, pk_mul, nI_clamp, nI_leI, nI_ltI, nI_eq, zn_inb, zn_gd, zn_bs, zn_isb, not_true_eq_false, not_false_eq_true, ↓reduceIte, pk_div, pk_sub, zn_rem20, zn_rem2, zn_m1, zn_eqw, zn_weq, zn_weq2, zn_wlt0, zn_wltn, zn_win, zn_wcl, zn_wadd, Nat.not_lt_zero, Nat.one_ne_zero, Nat.zero_ne_one, Nat.le_refl, Nat.zero_le, zn_sel_r, zn_sel_l, c]
    try rw [ef]
    try rfl
  | succ d ih =>
    intro k n hk_ hn
    obtain ⟨m, rfl⟩ : ∃ m, n = m + 1 := ⟨n - 1, by omega⟩
    have c : ¬ 10 ≤ k := by omega
    have ih1 := ih (k + 1) m (by omega) (by omega)
    have e := zk_of4 h hc hf (k := k) (by omega)
    have b := g.th f k hf (by omega)
    rw [zs_any, fX9_isBare_L4]
    by_cases z : S 5 (f * 10 + k) = 0
    · rw [show decide (0 < S 5 (f * 10 + k)) = false from decide_eq_false (by omega)]
      simp (disch := omega) only [li0, li1, li2, li3, li4, li5, li6, li7, li8, li9, li10, li12, li13, li14, li15, li19, li20, li31, li33, li40, li42, li44, li48, li57, li60, li99, li100, li126, li150, li176, li177, li187, li197, li207, li208, li223, li304, li608, li1520, li1824, nI_add, pk_mul, nI_clamp, nI_leI, nI_ltI, nI_eq, zn_inb, zn_gd, zn_bs, zn_isb, not_true_eq_false, not_false_eq_true, ↓reduceIte, pk_div, pk_sub, zn_rem20, zn_rem2, zn_m1, zn_eqw, zn_weq, zn_weq2, zn_wlt0, zn_wltn, zn_win, zn_wcl, zn_wadd, Nat.not_lt_zero, Nat.one_ne_zero, Nat.zero_ne_one, Nat.le_refl, Nat.zero_le, zn_sel_r, zn_sel_l, c, e, eq_true z, fX9_isBare_B29, fX9_isBare_B30, Bool.false_or]
      exact ih1
    · rw [show decide (0 < S 5 (f * 10 + k)) = true from decide_eq_true (by omega)]
      simp (disch := omega) only [li0, li1, li2, li3, li4, li5, li6, li7, li8, li9, li10, li12, li13, li14, li15, li19, li20, li31, li33, li40, li42, li44, li48, li57, li60, li99, li100, li126, li150, li176, li177, li187, li197, li207, li208, li223, li304, li608, li1520, li1824, nI_add, pk_mul, nI_clamp, nI_leI, nI_ltI, nI_eq, zn_inb, zn_gd, zn_bs, zn_isb, not_true_eq_false, not_false_eq_true, ↓reduceIte, pk_div, pk_sub, zn_rem20, zn_rem2, zn_m1, zn_eqw, zn_weq, zn_weq2, zn_wlt0, zn_wltn, zn_win, zn_wcl, zn_wadd, Nat.not_lt_zero, Nat.one_ne_zero, Nat.zero_ne_one, Nat.le_refl, Nat.zero_le, zn_sel_r, zn_sel_l, c, e, z, fX9_isBare_B29, fX9_isBare_B30, Bool.true_or, cond_true]
      exact zk_isBare_L0 f kx d (k + 1) m (by omega) (by omega)
theorem zk_isBare (h : RK (K 1) S) (g : GX u S) {f : Nat} (hf : f < S 1 0) : fX9_isBare K (nI f) = some (nI (bif zs_bare S f then 1 else 0)) := by
  unfold fX9_isBare zs_bare
  refine (zk_isBare_L h g hf _ 10 0 5000 (by omega) (by omega)).trans ?_
  cases zs_any (fun k => decide (0 < S 5 (f * 10 + k))) 10 0 <;> rfl
theorem zk_canWeigh_L0 (h : RK (K 1) S) (hc : S 1 0 ≤ 12) (x y : Int32) (kx : Int32 → Option Int32) : ∀ d f n, f + d = S 1 0 → d < n → fX9_canWeigh_L5 K n kx x y (nI 0) (nI f) = kx (nI 0) := by
  intro d
  induction d with
  | zero =>
    intro f n hf_ hn
    obtain ⟨m, rfl⟩ : ∃ m, n = m + 1 := ⟨n - 1, by omega⟩
    have c : S 1 0 ≤ f := by omega
    have ef : f = S 1 0 := by omega
    rw [fX9_canWeigh_L5]
    simp (disch := omega) only [li0, li1, li2, li3, li4, li5, li6, li7, li8, li9, li10, li12, li13, li14, li15, li19, li20, li31, li33, li40, li42, li44, li48, li57, li60, li99, li100, li126, li150, li176, li177, li187, li197, li207, li208, li223, li304, li608, li1520, li1824, nI_add, pk_mul, nI_clamp, nI_leI, nI_ltI, nI_eq, zn_inb, zn_gd, zn_bs, zn_isb, not_true_eq_false, not_false_eq_true, ↓reduceIte, pk_div, pk_sub, zn_rem20, zn_rem2, zn_m1, zn_eqw, zn_weq, zn_weq2, zn_wlt0, zn_wltn, zn_win, zn_wcl, zn_wadd, Nat.not_lt_zero, Nat.one_ne_zero, Nat.zero_ne_one, Nat.le_refl, Nat.zero_le, zn_sel_r, zn_sel_l, h.1, c]
    try rw [ef]
    try rfl
  | succ d ih =>
    intro f n hf_ hn
    obtain ⟨m, rfl⟩ : ∃ m, n = m + 1 := ⟨n - 1, by omega⟩
    have c : ¬ S 1 0 ≤ f := by omega
    have ih1 := ih (f + 1) m (by omega) (by omega)
    rw [fX9_canWeigh_L5]
    simp (disch := omega) only [li0, li1, li2, li3, li4, li5, li6, li7, li8, li9, li10, li12, li13, li14, li15, li19, li20, li31, li33, li40, li42, li44, li48, li57, li60, li99, li100, li126, li150, li176, li177, li187, li197, li207, li208, li223, li304, li608, li1520, li1824, nI_add, pk_mul, nI_clamp, nI_leI, nI_ltI, nI_eq, zn_inb, zn_gd, zn_bs, zn_isb, not_true_eq_false, not_false_eq_true, ↓reduceIte, pk_div, pk_sub, zn_rem20, zn_rem2, zn_m1, zn_eqw, zn_weq, zn_weq2, zn_wlt0, zn_wltn, zn_win, zn_wcl, zn_wadd, Nat.not_lt_zero, Nat.one_ne_zero, Nat.zero_ne_one, Nat.le_refl, Nat.zero_le, zn_sel_r, zn_sel_l, h.1, c, fX9_canWeigh_B59, fX9_canWeigh_B60]
    exact ih1
theorem zn_too2 {a t o w : Nat} (ha : a ≤ 150) (ht : t ≤ 150) (ho : o ≤ 9) (hw : w ≤ 9) : nI 150 < nI a + nI t * (nI w - nI o) ↔ 150 + t * o < a + t * w := by
  have := zn_too ha ht ho hw
  rw [Int32.mul_comm (nI t)]
  constructor
  · intro q
    refine Classical.byContradiction fun z => ?_
    exact Int32.lt_irrefl (Int32.lt_of_lt_of_le q (this.mpr (by omega)))
  · intro q
    rcases Int32.lt_or_le (nI 150) (nI a + (nI w - nI o) * nI t) with z | z
    · exact z
    · have := this.mp z
      omega
theorem zk_canWeigh_L (h : RK (K 1) S) (g : GX u S) {kind w : Nat} (hk : kind < 10) (hw : w ≤ 9) (kx : Int32 → Option Int32) : ∀ d f n, f + d = S 1 0 → d < n → fX9_canWeigh_L5 K n kx (nI kind) (nI w) (nI 1) (nI f) = kx (nI (bif zs_any (zs_heavier S kind w) d f then 0 else 1)) := by
  have hc := g.c12
  intro d
  induction d with
  | zero =>
    intro f n hf_ hn
    obtain ⟨m, rfl⟩ : ∃ m, n = m + 1 := ⟨n - 1, by omega⟩
    have c : S 1 0 ≤ f := by omega
    have ef : f = S 1 0 := by omega
    rw [fX9_canWeigh_L5]
    simp (disch := omega) only [li0, li1, li2, li3, li4, li5, li6, li7, li8, li9, li10, li12, li13, li14, li15, li19, li20, li31, li33, li40, li42, li44, li48, li57, li60, li99, li100, li126, li150, li176, li177, li187, li197, li207, li208, li223, li304, li608, li1520, li1824, nI_add, pk_mul, nI_clamp, nI_leI, nI_ltI, nI_eq, zn_inb, zn_gd, zn_bs, zn_isb, not_true_eq_false, not_false_eq_true, ↓reduceIte, pk_div, pk_sub, zn_rem20, zn_rem2, zn_m1, zn_eqw, zn_weq, zn_weq2, zn_wlt0, zn_wltn, zn_win, zn_wcl, zn_wadd, Nat.not_lt_zero, Nat.one_ne_zero, Nat.zero_ne_one, Nat.le_refl, Nat.zero_le, zn_sel_r, zn_sel_l, h.1, c]
    try rw [ef]
    try rfl
  | succ d ih =>
    intro f n hf_ hn
    obtain ⟨m, rfl⟩ : ∃ m, n = m + 1 := ⟨n - 1, by omega⟩
    have c : ¬ S 1 0 ≤ f := by omega
    have ih1 := ih (f + 1) m (by omega) (by omega)
    have e1 := zk_weight h hc (f := f) (by omega)
    have e2 := zk_of4 h hc (f := f) (by omega) hk
    have e3 := (h.2.2.2.2.2.1 kind hk).1
    have b1 := g.2.2.1 f (by omega)
    have b2 := g.th f kind (by omega) hk
    have b3 := g.2.1 kind hk
    have z := zn_too2 b1 b2 b3.2.1 hw
    rw [zs_any, fX9_canWeigh_L5]
    simp (disch := omega) only [li0, li1, li4, li150, li177, zn_inb, zn_gd, nI_clamp, nI_add, h.1, nI_leI, nI_eq, c, ↓reduceIte, e1, e2, zn_bs, e3, fX9_canWeigh_B59, fX9_canWeigh_B60, Nat.one_ne_zero]
    by_cases c2 : 150 + S 5 (f * 10 + kind) * S 10 kind < zs_wt S f + S 5 (f * 10 + kind) * w
    · rw [if_pos (z.mpr c2), show zs_heavier S kind w f = true from decide_eq_true c2, Bool.true_or, cond_true]
      exact zk_canWeigh_L0 h hc _ _ kx d (f + 1) m (by omega) (by omega)
    · rw [if_neg (fun a => c2 (z.mp a)), show zs_heavier S kind w f = false from decide_eq_false c2, Bool.false_or]
      exact ih1
theorem zk_canWeigh (h : RK (K 1) S) (g : GX u S) {kind w : Nat} (hk : kind < 10) (hw : w ≤ 9) : fX9_canWeigh K (nI kind) (nI w) = some (nI (bif zs_any (zs_heavier S kind w) (S 1 0) 0 then 0 else 1)) := by
  unfold fX9_canWeigh
  refine (zk_canWeigh_L h g hk hw _ (S 1 0) 0 5000 (by omega) (by have := g.c12; omega)).trans ?_
  cases zs_any (zs_heavier S kind w) (S 1 0) 0 <;> rfl
theorem zk_heavy_L (h : RK (K 1) S) (g : GX u S) {side : Nat} (hs : side < 2) (kx : Int32 → Option Int32) : ∀ d f n, f + d = S 1 0 → d < n → fX9_heavy_L4 K n kx (nI side) (nI (zs_heavy S side f)) (nI f) = kx (nI (zs_heavy S side (S 1 0))) := by
  have hc := g.c12
  have hw := g.1.2.1
  intro d
  induction d with
  | zero =>
    intro f n hf_ hn
    obtain ⟨m, rfl⟩ : ∃ m, n = m + 1 := ⟨n - 1, by omega⟩
    have c : S 1 0 ≤ f := by omega
    have ef : f = S 1 0 := by omega
    rw [fX9_heavy_L4]
    simp (disch := omega) only [li0, li1, li2, li3, li4, li5, li6, li7, li8, li9, li10, li12, li13, li14, li15, li19, li20, li31, li33, li40, li42, li44, li48, li57, li60, li99, li100, li126, li150, li176, li177, li187, li197, li207, li208, li223, li304, li608, li1520, li1824, nI_add, pk_mul, nI_clamp, nI_leI, nI_ltI, nI_eq, zn_inb, zn_gd, zn_bs, zn_isb, not_true_eq_false, not_false_eq_true, ↓reduceIte, pk_div, pk_sub, zn_rem20, zn_rem2, zn_m1, zn_eqw, zn_weq, zn_weq2, zn_wlt0, zn_wltn, zn_win, zn_wcl, zn_wadd, Nat.not_lt_zero, Nat.one_ne_zero, Nat.zero_ne_one, Nat.le_refl, Nat.zero_le, zn_sel_r, zn_sel_l, h.1, c]
    try rw [ef]
    try rfl
  | succ d ih =>
    intro f n hf_ hn
    obtain ⟨m, rfl⟩ : ∃ m, n = m + 1 := ⟨n - 1, by omega⟩
    have c : ¬ S 1 0 ≤ f := by omega
    have ih1 := ih (f + 1) m (by omega) (by omega)
    have b := g.1.2.2.1 f (by omega)
    have e1 := zk_of1 h hc (f := f) (by omega)
    have e2 := zk_weight h hc (f := f) (by omega)
    rw [show zs_heavy S side (f + 1) = zs_heavy S side f + (if ¬ S 1 1 = f + 1 ∧ S 3 f / 20 = side then zs_wt S f else 0) from rfl] at ih1
    rw [fX9_heavy_L4]
    by_cases c1 : S 1 1 = f + 1
    · rw [if_neg (fun a => a.1 c1)] at ih1
      by_cases c2 : S 3 f / 20 = side
      · simp (disch := omega) only [li0, li1, li2, li3, li4, li5, li6, li7, li8, li9, li10, li12, li13, li14, li15, li19, li20, li31, li33, li40, li42, li44, li48, li57, li60, li99, li100, li126, li150, li176, li177, li187, li197, li207, li208, li223, li304, li608, li1520, li1824, nI_add, pk_mul, nI_clamp, nI_leI, nI_ltI, nI_eq, zn_inb, zn_gd, zn_bs, zn_isb, not_true_eq_false, not_false_eq_true, ↓reduceIte, pk_div, pk_sub, zn_rem20, zn_rem2, zn_m1, zn_eqw, zn_weq, zn_weq2, zn_wlt0, zn_wltn, zn_win, zn_wcl, zn_wadd, Nat.not_lt_zero, Nat.one_ne_zero, Nat.zero_ne_one, Nat.le_refl, Nat.zero_le, zn_sel_r, zn_sel_l, h.1, h.2.1, c, eq_true c1, eq_true c2, e1, e2, fX9_heavy_B43, fX9_heavy_B44, Nat.add_zero]
        exact ih1
      · simp (disch := omega) only [li0, li1, li2, li3, li4, li5, li6, li7, li8, li9, li10, li12, li13, li14, li15, li19, li20, li31, li33, li40, li42, li44, li48, li57, li60, li99, li100, li126, li150, li176, li177, li187, li197, li207, li208, li223, li304, li608, li1520, li1824, nI_add, pk_mul, nI_clamp, nI_leI, nI_ltI, nI_eq, zn_inb, zn_gd, zn_bs, zn_isb, not_true_eq_false, not_false_eq_true, ↓reduceIte, pk_div, pk_sub, zn_rem20, zn_rem2, zn_m1, zn_eqw, zn_weq, zn_weq2, zn_wlt0, zn_wltn, zn_win, zn_wcl, zn_wadd, Nat.not_lt_zero, Nat.one_ne_zero, Nat.zero_ne_one, Nat.le_refl, Nat.zero_le, zn_sel_r, zn_sel_l, h.1, h.2.1, c, eq_true c1, c2, e1, e2, fX9_heavy_B43, fX9_heavy_B44, Nat.add_zero]
        exact ih1
    · by_cases c2 : S 3 f / 20 = side
      · rw [if_pos ⟨c1, c2⟩] at ih1
        simp (disch := omega) only [li0, li1, li2, li3, li4, li5, li6, li7, li8, li9, li10, li12, li13, li14, li15, li19, li20, li31, li33, li40, li42, li44, li48, li57, li60, li99, li100, li126, li150, li176, li177, li187, li197, li207, li208, li223, li304, li608, li1520, li1824, nI_add, pk_mul, nI_clamp, nI_leI, nI_ltI, nI_eq, zn_inb, zn_gd, zn_bs, zn_isb, not_true_eq_false, not_false_eq_true, ↓reduceIte, pk_div, pk_sub, zn_rem20, zn_rem2, zn_m1, zn_eqw, zn_weq, zn_weq2, zn_wlt0, zn_wltn, zn_win, zn_wcl, zn_wadd, Nat.not_lt_zero, Nat.one_ne_zero, Nat.zero_ne_one, Nat.le_refl, Nat.zero_le, zn_sel_r, zn_sel_l, h.1, h.2.1, c, c1, eq_true c2, e1, e2, fX9_heavy_B43, fX9_heavy_B44]
        exact ih1
      · rw [if_neg (fun a => c2 a.2)] at ih1
        simp (disch := omega) only [li0, li1, li2, li3, li4, li5, li6, li7, li8, li9, li10, li12, li13, li14, li15, li19, li20, li31, li33, li40, li42, li44, li48, li57, li60, li99, li100, li126, li150, li176, li177, li187, li197, li207, li208, li223, li304, li608, li1520, li1824, nI_add, pk_mul, nI_clamp, nI_leI, nI_ltI, nI_eq, zn_inb, zn_gd, zn_bs, zn_isb, not_true_eq_false, not_false_eq_true, ↓reduceIte, pk_div, pk_sub, zn_rem20, zn_rem2, zn_m1, zn_eqw, zn_weq, zn_weq2, zn_wlt0, zn_wltn, zn_win, zn_wcl, zn_wadd, Nat.not_lt_zero, Nat.one_ne_zero, Nat.zero_ne_one, Nat.le_refl, Nat.zero_le, zn_sel_r, zn_sel_l, h.1, h.2.1, c, c1, c2, e1, e2, fX9_heavy_B43, fX9_heavy_B44, Nat.add_zero]
        exact ih1
theorem zk_heavy (h : RK (K 1) S) (g : GX u S) {side : Nat} (hs : side < 2) : fX9_heavy K (nI side) = some (nI (zs_heavy S side (S 1 0))) := by
  unfold fX9_heavy
  exact zk_heavy_L h g hs (fun (l2 : Int32) => some l2) (S 1 0) 0 5000 (by omega) (by have := g.c12; omega)
def zs_short (S : SM) : Nat → Nat := zs_it (fun k v => if zs_miss S k ≤ 0 then v else v ||| 2 ^ k) 0
theorem zs_miss_le (g : GX u S) {k : Nat} (hk : k < 10) : zs_miss S k ≤ 99 := by
  have := g.2.1 k hk
  unfold zs_miss
  omega
theorem zn_1shl {k : Nat} (h : k < 20) : nI 1 <<< (nI k &&& nI 31) = nI (2 ^ k) := by
  have := zn_p20 (h := k) (by omega)
  rw [zn_shl (by omega) (by omega), Nat.one_mul]
theorem zk_lacking_L (h : RK (K 1) S) (g : GX u S) (kx : Int32 → Option Int32) : ∀ d k n, k + d = 10 → d < n → fX9_lacking_L4 K n kx (nI (zs_short S k)) (nI k) = kx (nI (zs_short S 10)) := by
  intro d
  induction d with
  | zero =>
    intro k n hk_ hn
    obtain ⟨m, rfl⟩ : ∃ m, n = m + 1 := ⟨n - 1, by omega⟩
    have c : 10 ≤ k := by omega
    have ef : k = 10 := by omega
    rw [fX9_lacking_L4]
    simp (disch := omega) only [li0, li1, li2, li3, li4, li5, li6, li7, li8, li9, li10, li12, li13, li14, li15, li19, li20, li31, li33, li40, li42, li44, li48, li57, li60, li99, li100, li126, li150, li176, li177, li187, li197, li207, li208, li223, li304, li608, li1520, li1824, nI_add, pk_mul, nI_clamp, nI_leI, nI_ltI, nI_eq, zn_inb, zn_gd, zn_bs, zn_isb, not_true_eq_false, not_false_eq_true, ↓reduceIte, pk_div, pk_sub, zn_rem20, zn_rem2, zn_m1, zn_eqw, zn_weq, zn_weq2, zn_wlt0, zn_wltn, zn_win, zn_wcl, zn_wadd, Nat.not_lt_zero, Nat.one_ne_zero, Nat.zero_ne_one, Nat.le_refl, Nat.zero_le, zn_sel_r, zn_sel_l, c]
    try rw [ef]
    try rfl
  | succ d ih =>
    intro k n hk_ hn
    obtain ⟨m, rfl⟩ : ∃ m, n = m + 1 := ⟨n - 1, by omega⟩
    have c : ¬ 10 ≤ k := by omega
    have ih1 := ih (k + 1) m (by omega) (by omega)
    have e := zk_missing h g (k := k) (by omega)
    have b := zs_miss_le g (k := k) (by omega)
    have e2 := zn_1shl (k := k) (by omega)
    rw [show zs_short S (k + 1) = if zs_miss S k ≤ 0 then zs_short S k else zs_short S k ||| 2 ^ k from rfl] at ih1
    rw [fX9_lacking_L4]
    by_cases z : zs_miss S k ≤ 0
    · rw [if_pos z] at ih1
      simp (disch := omega) only [li0, li1, li2, li3, li4, li5, li6, li7, li8, li9, li10, li12, li13, li14, li15, li19, li20, li31, li33, li40, li42, li44, li48, li57, li60, li99, li100, li126, li150, li176, li177, li187, li197, li207, li208, li223, li304, li608, li1520, li1824, nI_add, pk_mul, nI_clamp, nI_leI, nI_ltI, nI_eq, zn_inb, zn_gd, zn_bs, zn_isb, not_true_eq_false, not_false_eq_true, ↓reduceIte, pk_div, pk_sub, zn_rem20, zn_rem2, zn_m1, zn_eqw, zn_weq, zn_weq2, zn_wlt0, zn_wltn, zn_win, zn_wcl, zn_wadd, Nat.not_lt_zero, Nat.one_ne_zero, Nat.zero_ne_one, Nat.le_refl, Nat.zero_le, zn_sel_r, zn_sel_l, c, e, z, fX9_lacking_B26, zn_or, Nat.or_zero]
      exact ih1
    · rw [if_neg z] at ih1
      simp (disch := omega) only [li0, li1, li2, li3, li4, li5, li6, li7, li8, li9, li10, li12, li13, li14, li15, li19, li20, li31, li33, li40, li42, li44, li48, li57, li60, li99, li100, li126, li150, li176, li177, li187, li197, li207, li208, li223, li304, li608, li1520, li1824, nI_add, pk_mul, nI_clamp, nI_leI, nI_ltI, nI_eq, zn_inb, zn_gd, zn_bs, zn_isb, not_true_eq_false, not_false_eq_true, ↓reduceIte, pk_div, pk_sub, zn_rem20, zn_rem2, zn_m1, zn_eqw, zn_weq, zn_weq2, zn_wlt0, zn_wltn, zn_win, zn_wcl, zn_wadd, Nat.not_lt_zero, Nat.one_ne_zero, Nat.zero_ne_one, Nat.le_refl, Nat.zero_le, zn_sel_r, zn_sel_l, c, e, z, e2, fX9_lacking_B26, zn_or]
      exact ih1
theorem zk_lacking (h : RK (K 1) S) (g : GX u S) : fX9_lacking K = some (nI (zs_short S 10)) := by
  unfold fX9_lacking
  exact zk_lacking_L h g (fun (l1 : Int32) => some l1) 10 0 5000 (by omega) (by omega)
theorem zs_hv_1 (hc : 0 < S 1 0) : zs_hv S 1 = 1 := rfl
theorem zs_hv_p : ∀ n, 0 < n → 0 < zs_hv S n
  | 0, h => absurd h (Nat.lt_irrefl 0)
  | n + 1, _ => by
    show 0 < (if _ then _ else _ : Nat)
    split
    · omega
    · rename_i q
      have : ¬ zs_hv S n = 0 := fun a => q (Or.inl a)
      show 0 < zs_hv S n
      omega
theorem zk_dearest_L (h : RK (K 1) S) (g : GX u S) (kx : Int32 → Option Int32) : ∀ d f n, f + d = S 1 0 → 0 < f → d < n → fX9_dearest_L4 K n kx (nI (zs_hv S f - 1)) (nI f) = kx (nI (zs_hv S (S 1 0) - 1)) := by
  have hc := g.c12
  intro d
  induction d with
  | zero =>
    intro f n hf hp hn
    obtain ⟨m, rfl⟩ : ∃ m, n = m + 1 := ⟨n - 1, by omega⟩
    have c : S 1 0 ≤ f := by omega
    rw [fX9_dearest_L4]
    simp (disch := omega) only [li0, li1, li2, li3, li4, li5, li6, li7, li8, li9, li10, li12, li13, li14, li15, li19, li20, li31, li33, li40, li42, li44, li48, li57, li60, li99, li100, li126, li150, li176, li177, li187, li197, li207, li208, li223, li304, li608, li1520, li1824, nI_add, pk_mul, nI_clamp, nI_leI, nI_ltI, nI_eq, zn_inb, zn_gd, zn_bs, zn_isb, not_true_eq_false, not_false_eq_true, ↓reduceIte, pk_div, pk_sub, zn_rem20, zn_rem2, zn_m1, zn_eqw, zn_weq, zn_weq2, zn_wlt0, zn_wltn, zn_win, zn_wcl, zn_wadd, Nat.not_lt_zero, Nat.one_ne_zero, Nat.zero_ne_one, Nat.le_refl, Nat.zero_le, zn_sel_r, zn_sel_l, h.1, c]
    rw [show f = S 1 0 by omega]
  | succ d ih =>
    intro f n hf hp hn
    obtain ⟨m, rfl⟩ : ∃ m, n = m + 1 := ⟨n - 1, by omega⟩
    have c : ¬ S 1 0 ≤ f := by omega
    have ih1 := ih (f + 1) m (by omega) (by omega) (by omega)
    have bw := zs_hv_le S f
    have bp := zs_hv_p (S := S) f hp
    have e1 := zk_weight h hc (f := f) (by omega)
    have e2 := zk_weight h hc (f := zs_hv S f - 1) (by omega)
    have b1 := g.2.2.1 f (by omega)
    have b2 := g.2.2.1 (zs_hv S f - 1) (by omega)
    have eh : zs_hv S (f + 1) = if zs_hv S f = 0 ∨ ¬ zs_wt S f ≤ zs_wt S (zs_hv S f - 1) then f + 1 else zs_hv S f := rfl
    rw [eh] at ih1
    rw [fX9_dearest_L4]
    by_cases z : zs_wt S f ≤ zs_wt S (zs_hv S f - 1)
    · rw [if_neg (by omega)] at ih1
      simp (disch := omega) only [li0, li1, li2, li3, li4, li5, li6, li7, li8, li9, li10, li12, li13, li14, li15, li19, li20, li31, li33, li40, li42, li44, li48, li57, li60, li99, li100, li126, li150, li176, li177, li187, li197, li207, li208, li223, li304, li608, li1520, li1824, nI_add, pk_mul, nI_clamp, nI_leI, nI_ltI, nI_eq, zn_inb, zn_gd, zn_bs, zn_isb, not_true_eq_false, not_false_eq_true, ↓reduceIte, pk_div, pk_sub, zn_rem20, zn_rem2, zn_m1, zn_eqw, zn_weq, zn_weq2, zn_wlt0, zn_wltn, zn_win, zn_wcl, zn_wadd, Nat.not_lt_zero, Nat.one_ne_zero, Nat.zero_ne_one, Nat.le_refl, Nat.zero_le, zn_sel_r, zn_sel_l, h.1, c, e1, e2, z, fX9_dearest_B32]
      exact ih1
    · rw [if_pos (Or.inr z), Nat.add_sub_cancel] at ih1
      simp (disch := omega) only [li0, li1, li2, li3, li4, li5, li6, li7, li8, li9, li10, li12, li13, li14, li15, li19, li20, li31, li33, li40, li42, li44, li48, li57, li60, li99, li100, li126, li150, li176, li177, li187, li197, li207, li208, li223, li304, li608, li1520, li1824, nI_add, pk_mul, nI_clamp, nI_leI, nI_ltI, nI_eq, zn_inb, zn_gd, zn_bs, zn_isb, not_true_eq_false, not_false_eq_true, ↓reduceIte, pk_div, pk_sub, zn_rem20, zn_rem2, zn_m1, zn_eqw, zn_weq, zn_weq2, zn_wlt0, zn_wltn, zn_win, zn_wcl, zn_wadd, Nat.not_lt_zero, Nat.one_ne_zero, Nat.zero_ne_one, Nat.le_refl, Nat.zero_le, zn_sel_r, zn_sel_l, h.1, c, e1, e2, z, fX9_dearest_B32]
      exact ih1
theorem zk_dearest (h : RK (K 1) S) (g : GX u S) (hp : 0 < S 1 0) : fX9_dearest K = some (nI (zs_hv S (S 1 0) - 1)) := by
  have e := zk_dearest_L h g (fun (l1 : Int32) => some l1) (S 1 0 - 1) 1 5000 (by omega) (by omega) (by have := g.c12; omega)
  unfold fX9_dearest
  exact e
theorem zs_mu_p : ∀ n, 0 < n → 0 < zs_mu S 0 n
  | 0, h => absurd h (Nat.lt_irrefl 0)
  | n + 1, _ => by
    show 0 < (if _ then _ else _ : Nat)
    split
    · omega
    · rename_i q
      have : ¬ zs_mu S 0 n = 0 := fun a => q ⟨Nat.zero_testBit n, Or.inl a⟩
      show 0 < zs_mu S 0 n
      omega
theorem zk_favourite_L (h : RK (K 1) S) (g : GX u S) (kx : Int32 → Option Int32) : ∀ d f n, f + d = S 1 0 → 0 < f → d < n → fX9_favourite_L4 K n kx (nI (zs_mu S 0 f - 1)) (nI f) = kx (nI (zs_mu S 0 (S 1 0) - 1)) := by
  have hc := g.c12
  intro d
  induction d with
  | zero =>
    intro f n hf hp hn
    obtain ⟨m, rfl⟩ : ∃ m, n = m + 1 := ⟨n - 1, by omega⟩
    have c : S 1 0 ≤ f := by omega
    rw [fX9_favourite_L4]
    simp (disch := omega) only [li0, li1, li2, li3, li4, li5, li6, li7, li8, li9, li10, li12, li13, li14, li15, li19, li20, li31, li33, li40, li42, li44, li48, li57, li60, li99, li100, li126, li150, li176, li177, li187, li197, li207, li208, li223, li304, li608, li1520, li1824, nI_add, pk_mul, nI_clamp, nI_leI, nI_ltI, nI_eq, zn_inb, zn_gd, zn_bs, zn_isb, not_true_eq_false, not_false_eq_true, ↓reduceIte, pk_div, pk_sub, zn_rem20, zn_rem2, zn_m1, zn_eqw, zn_weq, zn_weq2, zn_wlt0, zn_wltn, zn_win, zn_wcl, zn_wadd, Nat.not_lt_zero, Nat.one_ne_zero, Nat.zero_ne_one, Nat.le_refl, Nat.zero_le, zn_sel_r, zn_sel_l, h.1, c]
    rw [show f = S 1 0 by omega]
  | succ d ih =>
    intro f n hf hp hn
    obtain ⟨m, rfl⟩ : ∃ m, n = m + 1 := ⟨n - 1, by omega⟩
    have c : ¬ S 1 0 ≤ f := by omega
    have ih1 := ih (f + 1) m (by omega) (by omega) (by omega)
    have bw := zs_mu_le S 0 f
    have bp := zs_mu_p (S := S) f hp
    have e1 := zk_of3 h hc (f := f) (by omega)
    have e2 := zk_of3 h hc (f := zs_mu S 0 f - 1) (by omega)
    have b1 := g.1.2.2.2.1 f (by omega)
    have b2 := g.1.2.2.2.1 (zs_mu S 0 f - 1) (by omega)
    have eh : zs_mu S 0 (f + 1) = if (0 : Nat).testBit f = false ∧ (zs_mu S 0 f = 0 ∨ ¬ S 4 f ≤ S 4 (zs_mu S 0 f - 1)) then f + 1 else zs_mu S 0 f := rfl
    rw [eh] at ih1
    rw [fX9_favourite_L4]
    by_cases z : S 4 f ≤ S 4 (zs_mu S 0 f - 1)
    · rw [if_neg (by omega)] at ih1
      simp (disch := omega) only [li0, li1, li2, li3, li4, li5, li6, li7, li8, li9, li10, li12, li13, li14, li15, li19, li20, li31, li33, li40, li42, li44, li48, li57, li60, li99, li100, li126, li150, li176, li177, li187, li197, li207, li208, li223, li304, li608, li1520, li1824, nI_add, pk_mul, nI_clamp, nI_leI, nI_ltI, nI_eq, zn_inb, zn_gd, zn_bs, zn_isb, not_true_eq_false, not_false_eq_true, ↓reduceIte, pk_div, pk_sub, zn_rem20, zn_rem2, zn_m1, zn_eqw, zn_weq, zn_weq2, zn_wlt0, zn_wltn, zn_win, zn_wcl, zn_wadd, Nat.not_lt_zero, Nat.one_ne_zero, Nat.zero_ne_one, Nat.le_refl, Nat.zero_le, zn_sel_r, zn_sel_l, h.1, c, e1, e2, z, fX9_favourite_B34]
      exact ih1
    · rw [if_pos ⟨Nat.zero_testBit f, Or.inr z⟩, Nat.add_sub_cancel] at ih1
      simp (disch := omega) only [li0, li1, li2, li3, li4, li5, li6, li7, li8, li9, li10, li12, li13, li14, li15, li19, li20, li31, li33, li40, li42, li44, li48, li57, li60, li99, li100, li126, li150, li176, li177, li187, li197, li207, li208, li223, li304, li608, li1520, li1824, nI_add, pk_mul, nI_clamp, nI_leI, nI_ltI, nI_eq, zn_inb, zn_gd, zn_bs, zn_isb, not_true_eq_false, not_false_eq_true, ↓reduceIte, pk_div, pk_sub, zn_rem20, zn_rem2, zn_m1, zn_eqw, zn_weq, zn_weq2, zn_wlt0, zn_wltn, zn_win, zn_wcl, zn_wadd, Nat.not_lt_zero, Nat.one_ne_zero, Nat.zero_ne_one, Nat.le_refl, Nat.zero_le, zn_sel_r, zn_sel_l, h.1, c, e1, e2, z, fX9_favourite_B34]
      exact ih1
theorem zk_favourite (h : RK (K 1) S) (g : GX u S) (hp : 0 < S 1 0) : fX9_favourite K = some (nI (zs_mu S 0 (S 1 0) - 1)) := by
  have e := zk_favourite_L h g (fun (l1 : Int32) => some l1) (S 1 0 - 1) 1 5000 (by omega) (by omega) (by have := g.c12; omega)
  unfold fX9_favourite
  exact e
theorem zk_waysSum_L (h : RK (K 1) S) (hc : S 1 0 ≤ 12) (kx : Int32 → Option Int32) : ∀ d f n, f + d = S 1 0 → d < n → fX9_waysSum_L4 K n kx (nI (zs_uw S f)) (nI f) = kx (nI (zs_uw S (S 1 0))) := by
  intro d
  induction d with
  | zero =>
    intro f n hf_ hn
    obtain ⟨m, rfl⟩ : ∃ m, n = m + 1 := ⟨n - 1, by omega⟩
    have c : S 1 0 ≤ f := by omega
    have ef : f = S 1 0 := by omega
    rw [fX9_waysSum_L4]
    simp (disch := omega) only [li0, li1, li2, li3, li4, li5, li6, li7, li8, li9, li10, li12, li13, li14, li15, li19, li20, li31, li33, li40, li42, li44, li48, li57, li60, li99, li100, li126, li150, li176, li177, li187, li197, li207, li208, li223, li304, li608, li1520, li1824, nI_add, pk_mul, nI_clamp, nI_leI, nI_ltI, nI_eq, zn_inb, zn_gd, zn_bs, zn_isb, not_true_eq_false, not_false_eq_true, ↓reduceIte, pk_div, pk_sub, zn_rem20, zn_rem2, zn_m1, zn_eqw, zn_weq, zn_weq2, zn_wlt0, zn_wltn, zn_win, zn_wcl, zn_wadd, Nat.not_lt_zero, Nat.one_ne_zero, Nat.zero_ne_one, Nat.le_refl, Nat.zero_le, zn_sel_r, zn_sel_l, h.1, c]
    try rw [ef]
    try rfl
  | succ d ih =>
    intro f n hf_ hn
    obtain ⟨m, rfl⟩ : ∃ m, n = m + 1 := ⟨n - 1, by omega⟩
    have c : ¬ S 1 0 ≤ f := by omega
    have ih1 := ih (f + 1) m (by omega) (by omega)
    have e1 := zk_of3 h hc (f := f) (by omega)
    have e2 := zk_way h hc (f := f) (by omega)
    rw [show zs_uw S (f + 1) = zs_uw S f + zs_way (S 3 f) * S 4 f from rfl, Nat.mul_comm] at ih1
    rw [fX9_waysSum_L4]
    simp (disch := omega) only [li0, li1, li2, li3, li4, li5, li6, li7, li8, li9, li10, li12, li13, li14, li15, li19, li20, li31, li33, li40, li42, li44, li48, li57, li60, li99, li100, li126, li150, li176, li177, li187, li197, li207, li208, li223, li304, li608, li1520, li1824, nI_add, pk_mul, nI_clamp, nI_leI, nI_ltI, nI_eq, zn_inb, zn_gd, zn_bs, zn_isb, not_true_eq_false, not_false_eq_true, ↓reduceIte, pk_div, pk_sub, zn_rem20, zn_rem2, zn_m1, zn_eqw, zn_weq, zn_weq2, zn_wlt0, zn_wltn, zn_win, zn_wcl, zn_wadd, Nat.not_lt_zero, Nat.one_ne_zero, Nat.zero_ne_one, Nat.le_refl, Nat.zero_le, zn_sel_r, zn_sel_l, h.1, c, e1, e2]
    exact ih1
theorem zk_waysSum (h : RK (K 1) S) (hc : S 1 0 ≤ 12) : fX9_waysSum K = some (nI (zs_uw S (S 1 0))) := by
  unfold fX9_waysSum
  exact zk_waysSum_L h hc (fun (l1 : Int32) => some l1) (S 1 0) 0 5000 (by omega) (by omega)
theorem zk_meanByUse_L (h : RK (K 1) S) (hc : S 1 0 ≤ 12) (kx : Int32 → Option UInt64) : ∀ d f n, f + d = S 1 0 → d < n → fX9_meanByUse_L4 K n kx (nI (zs_us S f)) (nI f) = kx (nI (zs_us S (S 1 0))) := by
  intro d
  induction d with
  | zero =>
    intro f n hf_ hn
    obtain ⟨m, rfl⟩ : ∃ m, n = m + 1 := ⟨n - 1, by omega⟩
    have c : S 1 0 ≤ f := by omega
    have ef : f = S 1 0 := by omega
    rw [fX9_meanByUse_L4]
    simp (disch := omega) only [li0, li1, li2, li3, li4, li5, li6, li7, li8, li9, li10, li12, li13, li14, li15, li19, li20, li31, li33, li40, li42, li44, li48, li57, li60, li99, li100, li126, li150, li176, li177, li187, li197, li207, li208, li223, li304, li608, li1520, li1824, nI_add, pk_mul, nI_clamp, nI_leI, nI_ltI, nI_eq, zn_inb, zn_gd, zn_bs, zn_isb, not_true_eq_false, not_false_eq_true, ↓reduceIte, pk_div, pk_sub, zn_rem20, zn_rem2, zn_m1, zn_eqw, zn_weq, zn_weq2, zn_wlt0, zn_wltn, zn_win, zn_wcl, zn_wadd, Nat.not_lt_zero, Nat.one_ne_zero, Nat.zero_ne_one, Nat.le_refl, Nat.zero_le, zn_sel_r, zn_sel_l, h.1, c]
    try rw [ef]
    try rfl
  | succ d ih =>
    intro f n hf_ hn
    obtain ⟨m, rfl⟩ : ∃ m, n = m + 1 := ⟨n - 1, by omega⟩
    have c : ¬ S 1 0 ≤ f := by omega
    have ih1 := ih (f + 1) m (by omega) (by omega)
    have e1 := zk_of3 h hc (f := f) (by omega)
    rw [fX9_meanByUse_L4]
    simp (disch := omega) only [li0, li1, li2, li3, li4, li5, li6, li7, li8, li9, li10, li12, li13, li14, li15, li19, li20, li31, li33, li40, li42, li44, li48, li57, li60, li99, li100, li126, li150, li176, li177, li187, li197, li207, li208, li223, li304, li608, li1520, li1824, nI_add, pk_mul, nI_clamp, nI_leI, nI_ltI, nI_eq, zn_inb, zn_gd, zn_bs, zn_isb, not_true_eq_false, not_false_eq_true, ↓reduceIte, pk_div, pk_sub, zn_rem20, zn_rem2, zn_m1, zn_eqw, zn_weq, zn_weq2, zn_wlt0, zn_wltn, zn_win, zn_wcl, zn_wadd, Nat.not_lt_zero, Nat.one_ne_zero, Nat.zero_ne_one, Nat.le_refl, Nat.zero_le, zn_sel_r, zn_sel_l, h.1, c, e1]
    exact ih1
end
