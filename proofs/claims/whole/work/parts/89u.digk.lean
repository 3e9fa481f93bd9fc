set_option maxHeartbeats 400000
/-! the reference's digest -/
section
variable {K : Mem} {S : SM} {u : Nat}
theorem zk_digestShelf_L67 (h : RK (K 1) S) (hc : S 1 0 ≤ 12) {f : Nat} (hf : f < S 1 0) (x : Int64) (kx : Int32 → Int64 → Option Int64) : ∀ d k n, k + d = 10 → d < n → fX9_digestShelf_L67 K n kx (nI f) (zd_th S f x k) (nI k) = kx (nI f) (zd_th S f x 10) := by
  intro d
  induction d with
  | zero =>
    intro k n hk_ hn
    obtain ⟨m, rfl⟩ : ∃ m, n = m + 1 := ⟨n - 1, by omega⟩
    have c : 10 ≤ k := by omega
    have ef : k = 10 := by omega
    rw [fX9_digestShelf_L67]
    simp (disch := omega) only [li0, li1, li2, li3, li4, li5, li6, li7, li8, li9, li10, li12, li13, li14, li15, li19, li20, li31, li33, li40, li42, li44, li48, li57, li60, li99, li100, li126, li150, li176, li177, li187, li197, li207, li208, li223, li304, li608, li1520, li1824, nI_add, pk_mul, nI_clamp, nI_leI, nI_ltI, nI_eq, zn_inb, zn_gd, zn_bs, zn_isb, not_true_eq_false, not_false_eq_true, ↓reduceIte, pk_div, pk_sub, zn_rem20, zn_rem2, zn_m1, zn_eqw, zn_weq, zn_weq2, zn_wlt0, zn_wltn, zn_win, zn_wcl, zn_wadd, Nat.not_lt_zero, Nat.one_ne_zero, Nat.zero_ne_one, Nat.le_refl, Nat.zero_le, zn_sel_r, zn_sel_l, c]
    try rw [ef]
    try rfl
  | succ d ih =>
    intro k n hk_ hn
    obtain ⟨m, rfl⟩ : ∃ m, n = m + 1 := ⟨n - 1, by omega⟩
    have c : ¬ 10 ≤ k := by omega
    have ih1 := ih (k + 1) m (by omega) (by omega)
    have e := zk_of4 h hc hf (k := k) (by omega)
    rw [fX9_digestShelf_L67]
    simp (disch := omega) only [li0, li1, li2, li3, li4, li5, li6, li7, li8, li9, li10, li12, li13, li14, li15, li19, li20, li31, li33, li40, li42, li44, li48, li57, li60, li99, li100, li126, li150, li176, li177, li187, li197, li207, li208, li223, li304, li608, li1520, li1824, nI_add, pk_mul, nI_clamp, nI_leI, nI_ltI, nI_eq, zn_inb, zn_gd, zn_bs, zn_isb, not_true_eq_false, not_false_eq_true, ↓reduceIte, pk_div, pk_sub, zn_rem20, zn_rem2, zn_m1, zn_eqw, zn_weq, zn_weq2, zn_wlt0, zn_wltn, zn_win, zn_wcl, zn_wadd, Nat.not_lt_zero, Nat.one_ne_zero, Nat.zero_ne_one, Nat.le_refl, Nat.zero_le, zn_sel_r, zn_sel_l, c, e, zd_f]
    exact ih1
theorem zk_digestShelf (h : RK (K 1) S) (hc : S 1 0 ≤ 12) (hw : S 1 1 ≤ 12) {f : Nat} (hf : f < S 1 0) (x : Int64) : fX9_digestShelf K x (nI f) = some (zd_sf S f x) := by
  have k1 := h.2.1
  have e0 := zk_of0 h hc hf
  have e1 := zk_of1 h hc hf
  have e2 := zk_of2 h hc hf
  have e3 := zk_of3 h hc hf
  have e4 := zk_weight h hc hf
  unfold fX9_digestShelf zd_sf
  by_cases c1 : S 1 1 = f + 1
  · rw [show zd_fl S f = 1 from if_pos c1]
    simp (disch := omega) only [li0, li1, li2, li3, li4, li5, li6, li7, li8, li9, li10, li12, li13, li14, li15, li19, li20, li31, li33, li40, li42, li44, li48, li57, li60, li99, li100, li126, li150, li176, li177, li187, li197, li207, li208, li223, li304, li608, li1520, li1824, nI_add, pk_mul, nI_clamp, nI_leI, nI_ltI, nI_eq, zn_inb, zn_gd, zn_bs, zn_isb, not_true_eq_false, not_false_eq_true, ↓reduceIte, pk_div, pk_sub, zn_rem20, zn_rem2, zn_m1, zn_eqw, zn_weq, zn_weq2, zn_wlt0, zn_wltn, zn_win, zn_wcl, zn_wadd, Nat.not_lt_zero, Nat.one_ne_zero, Nat.zero_ne_one, Nat.le_refl, Nat.zero_le, zn_sel_r, zn_sel_l, e0, e1, e2, k1, eq_true c1, fX9_digestShelf_B60, zd_f]
    refine (zk_digestShelf_L67 h hc hf _ _ 10 0 5000 (by omega) (by omega)).trans ?_
    simp (disch := omega) only [li0, li1, li2, li3, li4, li5, li6, li7, li8, li9, li10, li12, li13, li14, li15, li19, li20, li31, li33, li40, li42, li44, li48, li57, li60, li99, li100, li126, li150, li176, li177, li187, li197, li207, li208, li223, li304, li608, li1520, li1824, nI_add, pk_mul, nI_clamp, nI_leI, nI_ltI, nI_eq, zn_inb, zn_gd, zn_bs, zn_isb, not_true_eq_false, not_false_eq_true, ↓reduceIte, pk_div, pk_sub, zn_rem20, zn_rem2, zn_m1, zn_eqw, zn_weq, zn_weq2, zn_wlt0, zn_wltn, zn_win, zn_wcl, zn_wadd, Nat.not_lt_zero, Nat.one_ne_zero, Nat.zero_ne_one, Nat.le_refl, Nat.zero_le, zn_sel_r, zn_sel_l, e4, e3, zd_f]
  · rw [show zd_fl S f = 0 from if_neg c1]
    simp (disch := omega) only [li0, li1, li2, li3, li4, li5, li6, li7, li8, li9, li10, li12, li13, li14, li15, li19, li20, li31, li33, li40, li42, li44, li48, li57, li60, li99, li100, li126, li150, li176, li177, li187, li197, li207, li208, li223, li304, li608, li1520, li1824, nI_add, pk_mul, nI_clamp, nI_leI, nI_ltI, nI_eq, zn_inb, zn_gd, zn_bs, zn_isb, not_true_eq_false, not_false_eq_true, ↓reduceIte, pk_div, pk_sub, zn_rem20, zn_rem2, zn_m1, zn_eqw, zn_weq, zn_weq2, zn_wlt0, zn_wltn, zn_win, zn_wcl, zn_wadd, Nat.not_lt_zero, Nat.one_ne_zero, Nat.zero_ne_one, Nat.le_refl, Nat.zero_le, zn_sel_r, zn_sel_l, e0, e1, e2, k1, c1, fX9_digestShelf_B60, zd_f]
    refine (zk_digestShelf_L67 h hc hf _ _ 10 0 5000 (by omega) (by omega)).trans ?_
    simp (disch := omega) only [li0, li1, li2, li3, li4, li5, li6, li7, li8, li9, li10, li12, li13, li14, li15, li19, li20, li31, li33, li40, li42, li44, li48, li57, li60, li99, li100, li126, li150, li176, li177, li187, li197, li207, li208, li223, li304, li608, li1520, li1824, nI_add, pk_mul, nI_clamp, nI_leI, nI_ltI, nI_eq, zn_inb, zn_gd, zn_bs, zn_isb, not_true_eq_false, not_false_eq_true, ↓reduceIte, pk_div, pk_sub, zn_rem20, zn_rem2, zn_m1, zn_eqw, zn_weq, zn_weq2, zn_wlt0, zn_wltn, zn_win, zn_wcl, zn_wadd, Nat.not_lt_zero, Nat.one_ne_zero, Nat.zero_ne_one, Nat.le_refl, Nat.zero_le, zn_sel_r, zn_sel_l, e4, e3, zd_f]
theorem zk_digestTower_L5 (h : RK (K 1) S) (g : GX u S) (x : Int64) (kx : Int64 → Option Int64) : ∀ d p n, p + d = 40 → d < n → fX9_digestTower_L5 K n kx (zd_tw1 S x p) (nI p) = kx (zd_tw1 S x 40) := by
  have hc := g.c12
  intro d
  induction d with
  | zero =>
    intro p n hp_ hn
    obtain ⟨m, rfl⟩ : ∃ m, n = m + 1 := ⟨n - 1, by omega⟩
    have c : 40 ≤ p := by omega
    have ef : p = 40 := by omega
    rw [fX9_digestTower_L5]
    simp (disch := omega) only [li0, li1, li2, li3, li4, li5, li6, li7, li8, li9, li10, li12, li13, li14, li15, li19, li20, li31, li33, li40, li42, li44, li48, li57, li60, li99, li100, li126, li150, li176, li177, li187, li197, li207, li208, li223, li304, li608, li1520, li1824, nI_add, pk_mul, nI_clamp, nI_leI, nI_ltI, nI_eq, zn_inb, zn_gd, zn_bs, zn_isb, not_true_eq_false, not_false_eq_true, ↓reduceIte, pk_div, pk_sub, zn_rem20, zn_rem2, zn_m1, zn_eqw, zn_weq, zn_weq2, zn_wlt0, zn_wltn, zn_win, zn_wcl, zn_wadd, Nat.not_lt_zero, Nat.one_ne_zero, Nat.zero_ne_one, Nat.le_refl, Nat.zero_le, zn_sel_r, zn_sel_l, c]
    try rw [ef]
    try rfl
  | succ d ih =>
    intro p n hp_ hn
    obtain ⟨m, rfl⟩ : ∃ m, n = m + 1 := ⟨n - 1, by omega⟩
    have c : ¬ 40 ≤ p := by omega
    have ih1 := ih (p + 1) m (by omega) (by omega)
    have e := zk_on h g.1.k (side := p / 20) (slot := p % 20) (by omega) (by omega)
    rw [show 20 * (p / 20) + p % 20 = p by omega] at e
    have hl := zs_ho_le S p
    have w := zd_w1 (h := zd_tw1 S x p) (w := zs_ho S p) (by omega)
    rw [fX9_digestTower_L5]
    simp (disch := omega) only [li0, li1, li2, li3, li4, li5, li6, li7, li8, li9, li10, li12, li13, li14, li15, li19, li20, li31, li33, li40, li42, li44, li48, li57, li60, li99, li100, li126, li150, li176, li177, li187, li197, li207, li208, li223, li304, li608, li1520, li1824, nI_add, pk_mul, nI_clamp, nI_leI, nI_ltI, nI_eq, zn_inb, zn_gd, zn_bs, zn_isb, not_true_eq_false, not_false_eq_true, ↓reduceIte, pk_div, pk_sub, zn_rem20, zn_rem2, zn_m1, zn_eqw, zn_weq, zn_weq2, zn_wlt0, zn_wltn, zn_win, zn_wcl, zn_wadd, Nat.not_lt_zero, Nat.one_ne_zero, Nat.zero_ne_one, Nat.le_refl, Nat.zero_le, zn_sel_r, zn_sel_l, c, e, zd_f, w]
    exact ih1
theorem zk_digestTower_L67 (h : RK (K 1) S) (g : GX u S) (x : Int64) (kx : Int64 → Option Int64) : ∀ d w n, w + d = 4 → d < n → fX9_digestTower_L67 K n kx (zd_tw2 S x w) (nI (w + 1)) = kx (zd_tw2 S x 4) := by
  intro d
  induction d with
  | zero =>
    intro w n hw hn
    obtain ⟨m, rfl⟩ : ∃ m, n = m + 1 := ⟨n - 1, by omega⟩
    have c : 5 ≤ w + 1 := by omega
    rw [fX9_digestTower_L67, show (5 : Int32) = nI 5 from rfl, if_pos (nI_le c (by omega))]
    rw [show w = 4 by omega]
  | succ d ih =>
    intro w n hw hn
    obtain ⟨m, rfl⟩ : ∃ m, n = m + 1 := ⟨n - 1, by omega⟩
    have e := zk_place h g.1.k (w := w + 1) (by omega)
    have hl := zs_fp_le (zs_tq S) (w + 1)
    have z := zd_w1 (h := zd_tw2 S x w) (w := zs_fp (zs_tq S) (w + 1)) (by omega)
    rw [fX9_digestTower_L67, show (5 : Int32) = nI 5 from rfl, if_neg (nI_ge (show w + 1 < 5 by omega) (by omega)), e, zn_bs, zd_f, z, show (1 : Int32) = nI 1 from rfl, nI_add]
    exact ih (w + 1) m (by omega) (by omega)
theorem zk_digestTower (h : RK (K 1) S) (g : GX u S) (x : Int64) : fX9_digestTower K x = some (zd_tw S x) := by
  have k2 := h.2.2.2.2.1.1
  have k3 := h.2.2.2.2.1.2.1
  have e1 := zk_freeMany h g.1.k
  have e2 := zk_gap h g.1.k (side := 0) (by omega)
  have e3 := zk_gap h g.1.k (side := 1) (by omega)
  unfold fX9_digestTower
  refine (zk_digestTower_L5 h g x _ 40 0 5000 (by omega) (by omega)).trans ?_
  simp (disch := omega) only [li0, li1, li2, li3, li4, li5, li6, li7, li8, li9, li10, li12, li13, li14, li15, li19, li20, li31, li33, li40, li42, li44, li48, li57, li60, li99, li100, li126, li150, li176, li177, li187, li197, li207, li208, li223, li304, li608, li1520, li1824, nI_add, pk_mul, nI_clamp, nI_leI, nI_ltI, nI_eq, zn_inb, zn_gd, zn_bs, zn_isb, not_true_eq_false, not_false_eq_true, ↓reduceIte, pk_div, pk_sub, zn_rem20, zn_rem2, zn_m1, zn_eqw, zn_weq, zn_weq2, zn_wlt0, zn_wltn, zn_win, zn_wcl, zn_wadd, Nat.not_lt_zero, Nat.one_ne_zero, Nat.zero_ne_one, Nat.le_refl, Nat.zero_le, zn_sel_r, zn_sel_l, e1, zd_f]
  refine (zk_digestTower_L67 h g _ _ 4 0 5000 (by omega) (by omega)).trans ?_
  simp (disch := omega) only [li0, li1, li2, li3, li4, li5, li6, li7, li8, li9, li10, li12, li13, li14, li15, li19, li20, li31, li33, li40, li42, li44, li48, li57, li60, li99, li100, li126, li150, li176, li177, li187, li197, li207, li208, li223, li304, li608, li1520, li1824, nI_add, pk_mul, nI_clamp, nI_leI, nI_ltI, nI_eq, zn_inb, zn_gd, zn_bs, zn_isb, not_true_eq_false, not_false_eq_true, ↓reduceIte, pk_div, pk_sub, zn_rem20, zn_rem2, zn_m1, zn_eqw, zn_weq, zn_weq2, zn_wlt0, zn_wltn, zn_win, zn_wcl, zn_wadd, Nat.not_lt_zero, Nat.one_ne_zero, Nat.zero_ne_one, Nat.le_refl, Nat.zero_le, zn_sel_r, zn_sel_l, e2, e3, k2, k3, zd_f]
  rfl
theorem zk_digestKinds_L5 (h : RK (K 1) S) (g : GX u S) (x : Int64) (kx : Int64 → Option Int64) : ∀ d k n, k + d = 10 → d < n → fX9_digestKinds_L5 K n kx (zs_it (zd_k1 S) x k) (nI k) = kx (zs_it (zd_k1 S) x 10) := by
  have hc := g.c12
  intro d
  induction d with
  | zero =>
    intro k n hk_ hn
    obtain ⟨m, rfl⟩ : ∃ m, n = m + 1 := ⟨n - 1, by omega⟩
    have c : 10 ≤ k := by omega
    have ef : k = 10 := by omega
    rw [fX9_digestKinds_L5]
    simp (disch := omega) only [li0, li1, li2, li3, li4, li5, li6, li7, li8, li9, li10, li12, li13, li14, li15, li19, li20, li31, li33, li40, li42, li44, li48, li57, li60, li99, li100, li126, li150, li176, li177, li187, li197, li207, li208, li223, li304, li608, li1520, li1824, nI_add, pk_mul, nI_clamp, nI_leI, nI_ltI, nI_eq, zn_inb, zn_gd, zn_bs, zn_isb, not_true_eq_false, not_false_eq_true, ↓reduceIte, pk_div, pk_sub, zn_rem20, zn_rem2, zn_m1, zn_eqw, zn_weq, zn_weq2, zn_wlt0, zn_wltn, zn_win, zn_wcl, zn_wadd, Nat.not_lt_zero, Nat.one_ne_zero, Nat.zero_ne_one, Nat.le_refl, Nat.zero_le, zn_sel_r, zn_sel_l, c]
    try rw [ef]
    try rfl
  | succ d ih =>
    intro k n hk_ hn
    obtain ⟨m, rfl⟩ : ∃ m, n = m + 1 := ⟨n - 1, by omega⟩
    have c : ¬ 10 ≤ k := by omega
    have ih1 := ih (k + 1) m (by omega) (by omega)
    have hk : k < 10 := by omega
    have kk := h.2.2.2.2.2.1 k hk
    have e1 := zk_stock h hc hk
    have e2 := zk_having h g hk
    have e3 := zk_missing h g hk
    rw [fX9_digestKinds_L5]
    simp (disch := omega) only [li0, li1, li2, li3, li4, li5, li6, li7, li8, li9, li10, li12, li13, li14, li15, li19, li20, li31, li33, li40, li42, li44, li48, li57, li60, li99, li100, li126, li150, li176, li177, li187, li197, li207, li208, li223, li304, li608, li1520, li1824, nI_add, pk_mul, nI_clamp, nI_leI, nI_ltI, nI_eq, zn_inb, zn_gd, zn_bs, zn_isb, not_true_eq_false, not_false_eq_true, ↓reduceIte, pk_div, pk_sub, zn_rem20, zn_rem2, zn_m1, zn_eqw, zn_weq, zn_weq2, zn_wlt0, zn_wltn, zn_win, zn_wcl, zn_wadd, Nat.not_lt_zero, Nat.one_ne_zero, Nat.zero_ne_one, Nat.le_refl, Nat.zero_le, zn_sel_r, zn_sel_l, c, kk.1, kk.2.1, kk.2.2, e1, e2, e3, zd_f]
    exact ih1
theorem zk_digestKinds (h : RK (K 1) S) (g : GX u S) (x : Int64) : fX9_digestKinds K x = some (zd_ks S x) := by
  have e1 := zk_lacking h g
  have e2 := zk_heavy h g (side := 0) (by omega)
  have e3 := zk_heavy h g (side := 1) (by omega)
  unfold fX9_digestKinds
  refine (zk_digestKinds_L5 h g x _ 10 0 5000 (by omega) (by omega)).trans ?_
  simp (disch := omega) only [li0, li1, li2, li3, li4, li5, li6, li7, li8, li9, li10, li12, li13, li14, li15, li19, li20, li31, li33, li40, li42, li44, li48, li57, li60, li99, li100, li126, li150, li176, li177, li187, li197, li207, li208, li223, li304, li608, li1520, li1824, nI_add, pk_mul, nI_clamp, nI_leI, nI_ltI, nI_eq, zn_inb, zn_gd, zn_bs, zn_isb, not_true_eq_false, not_false_eq_true, ↓reduceIte, pk_div, pk_sub, zn_rem20, zn_rem2, zn_m1, zn_eqw, zn_weq, zn_weq2, zn_wlt0, zn_wltn, zn_win, zn_wcl, zn_wadd, Nat.not_lt_zero, Nat.one_ne_zero, Nat.zero_ne_one, Nat.le_refl, Nat.zero_le, zn_sel_r, zn_sel_l, e1, e2, e3, zd_f]
  rfl
theorem zk_digestOrders_L33 (g : GX u S) {r : Nat} (hr : r < S 14 0) (x : Int64) {kx : Mem → Int64 → Int32 → Option (Int64 × Mem)} {Q : Int64 × Mem → Prop} (hk : ∀ N : Mem, RK (N 1) S → ∃ z, kx N (zd_wn S r x 10) (nI r) = some z ∧ Q z) : ∀ d k n (N : Mem), k + d = 10 → d < n → RK (N 1) S → ∃ z, fX9_digestOrders_L33 K n kx N (zd_wn S r x k) (nI r) (nI k) = some z ∧ Q z := by
  intro d
  induction d with
  | zero =>
    intro k n N hkd hn hN
    obtain ⟨m, rfl⟩ : ∃ m, n = m + 1 := ⟨n - 1, by omega⟩
    obtain rfl : k = 10 := by omega
    rw [fX9_digestOrders_L33]
    simp (disch := omega) only [li0, li1, li2, li3, li4, li5, li6, li7, li8, li9, li10, li12, li13, li14, li15, li19, li20, li31, li33, li40, li42, li44, li48, li57, li60, li99, li100, li126, li150, li176, li177, li187, li197, li207, li208, li223, li304, li608, li1520, li1824, nI_add, pk_mul, nI_clamp, nI_leI, nI_ltI, nI_eq, zn_inb, zn_gd, zn_bs, zn_isb, not_true_eq_false, not_false_eq_true, ↓reduceIte, pk_div, pk_sub, zn_rem20, zn_rem2, zn_m1, zn_eqw, zn_weq, zn_weq2, zn_wlt0, zn_wltn, zn_win, zn_wcl, zn_wadd, Nat.not_lt_zero, Nat.one_ne_zero, Nat.zero_ne_one, Nat.le_refl, Nat.zero_le, zn_sel_r, zn_sel_l]
    exact hk _ hN
  | succ d ih =>
    intro k n N hkd hn hN
    obtain ⟨m, rfl⟩ : ∃ m, n = m + 1 := ⟨n - 1, by omega⟩
    have c : ¬ 10 ≤ k := by omega
    have e := zk_wants (K := sr (sr (sr K 1 (N 1)) 2 (N 2)) 8 (N 8)) (S := S) hN g hr (k := k) (by omega)
    rw [fX9_digestOrders_L33]
    simp (disch := omega) only [li0, li1, li2, li3, li4, li5, li6, li7, li8, li9, li10, li12, li13, li14, li15, li19, li20, li31, li33, li40, li42, li44, li48, li57, li60, li99, li100, li126, li150, li176, li177, li187, li197, li207, li208, li223, li304, li608, li1520, li1824, nI_add, pk_mul, nI_clamp, nI_leI, nI_ltI, nI_eq, zn_inb, zn_gd, zn_bs, zn_isb, not_true_eq_false, not_false_eq_true, ↓reduceIte, pk_div, pk_sub, zn_rem20, zn_rem2, zn_m1, zn_eqw, zn_weq, zn_weq2, zn_wlt0, zn_wltn, zn_win, zn_wcl, zn_wadd, Nat.not_lt_zero, Nat.one_ne_zero, Nat.zero_ne_one, Nat.le_refl, Nat.zero_le, zn_sel_r, zn_sel_l, c, e, zd_f]
    exact ih (k + 1) m _ (by omega) (by omega) hN
theorem zk_digestOrders_L18 (g : GX u S) (h99 : S 99 0 = 0) (x : Int64) {kx : Mem → Int64 → Option (Int64 × Mem)} {Q : Int64 × Mem → Prop} (hk : ∀ N : Mem, RK (N 1) S → ∃ z, kx N (zd_ors S x (S 14 0)) = some z ∧ Q z) : ∀ d r n (N : Mem), r + d = S 14 0 → d < n → RK (N 1) S → ∃ z, fX9_digestOrders_L18 K n kx N (zd_ors S x r) (nI r) = some z ∧ Q z := by
  have h8 := g.o8
  intro d
  induction d with
  | zero =>
    intro r n N hr hn hN
    obtain ⟨m, rfl⟩ : ∃ m, n = m + 1 := ⟨n - 1, by omega⟩
    have c : S 14 0 ≤ r := by omega
    have m0 : N 1 8 = nI (S 14 0) := hN.2.2.2.2.1.2.2.2.2.2.2
    rw [fX9_digestOrders_L18]
    simp (disch := omega) only [li0, li1, li2, li3, li4, li5, li6, li7, li8, li9, li10, li12, li13, li14, li15, li19, li20, li31, li33, li40, li42, li44, li48, li57, li60, li99, li100, li126, li150, li176, li177, li187, li197, li207, li208, li223, li304, li608, li1520, li1824, nI_add, pk_mul, nI_clamp, nI_leI, nI_ltI, nI_eq, zn_inb, zn_gd, zn_bs, zn_isb, not_true_eq_false, not_false_eq_true, ↓reduceIte, pk_div, pk_sub, zn_rem20, zn_rem2, zn_m1, zn_eqw, zn_weq, zn_weq2, zn_wlt0, zn_wltn, zn_win, zn_wcl, zn_wadd, Nat.not_lt_zero, Nat.one_ne_zero, Nat.zero_ne_one, Nat.le_refl, Nat.zero_le, zn_sel_r, zn_sel_l, m0, c]
    rw [show r = S 14 0 by omega]
    exact hk _ hN
  | succ d ih =>
    intro r n N hr hn hN
    obtain ⟨m, rfl⟩ : ∃ m, n = m + 1 := ⟨n - 1, by omega⟩
    have c : ¬ S 14 0 ≤ r := by omega
    have m0 : N 1 8 = nI (S 14 0) := hN.2.2.2.2.1.2.2.2.2.2.2
    have hr8 : r < S 14 0 := by omega
    have ih1 := fun N => ih (r + 1) m N (by omega) (by omega)
    rw [show zd_ors S x (r + 1) = zd_or S r (zd_ors S x r) from rfl] at ih1
    unfold zd_or at ih1
    rw [fX9_digestOrders_L18]
    simp (disch := omega) only [li0, li1, li2, li3, li4, li5, li6, li7, li8, li9, li10, li12, li13, li14, li15, li19, li20, li31, li33, li40, li42, li44, li48, li57, li60, li99, li100, li126, li150, li176, li177, li187, li197, li207, li208, li223, li304, li608, li1520, li1824, nI_add, pk_mul, nI_clamp, nI_leI, nI_ltI, nI_eq, zn_inb, zn_gd, zn_bs, zn_isb, not_true_eq_false, not_false_eq_true, ↓reduceIte, pk_div, pk_sub, zn_rem20, zn_rem2, zn_m1, zn_eqw, zn_weq, zn_weq2, zn_wlt0, zn_wltn, zn_win, zn_wcl, zn_wadd, Nat.not_lt_zero, Nat.one_ne_zero, Nat.zero_ne_one, Nat.le_refl, Nat.zero_le, zn_sel_r, zn_sel_l, m0, c]
    refine zk_digestOrders_L33 g hr8 (zd_ors S x r) (fun N hN => ?_) 10 0 5000 _ (by omega) (by omega) hN
    have e1 := zk_canBe (K := sr (sr (sr K 1 (N 1)) 2 (N 2)) 8 (N 8)) (S := S) hN g hr8
    have e1' := zk_canBe (K := sr (sr (sr K 1 (sr (sr (sr K 1 (N 1)) 2 (N 2)) 8 (N 8) 1)) 2 (sr (sr (sr K 1 (N 1)) 2 (N 2)) 8 (N 8) 2)) 8 (sr (sr (sr K 1 (N 1)) 2 (N 2)) 8 (N 8) 8)) (S := S) hN g hr8
    cases q : zs_can S r
    · rw [q, cond_false] at e1 e1' ih1
      simp (disch := omega) only [li0, li1, li2, li3, li4, li5, li6, li7, li8, li9, li10, li12, li13, li14, li15, li19, li20, li31, li33, li40, li42, li44, li48, li57, li60, li99, li100, li126, li150, li176, li177, li187, li197, li207, li208, li223, li304, li608, li1520, li1824, nI_add, pk_mul, nI_clamp, nI_leI, nI_ltI, nI_eq, zn_inb, zn_gd, zn_bs, zn_isb, not_true_eq_false, not_false_eq_true, ↓reduceIte, pk_div, pk_sub, zn_rem20, zn_rem2, zn_m1, zn_eqw, zn_weq, zn_weq2, zn_wlt0, zn_wltn, zn_win, zn_wcl, zn_wadd, Nat.not_lt_zero, Nat.one_ne_zero, Nat.zero_ne_one, Nat.le_refl, Nat.zero_le, zn_sel_r, zn_sel_l, e1, e1', zd_f, fX9_digestOrders_B81, fX9_digestOrders_B133]
      exact ih1 _ hN
    · rw [q, cond_true] at e1 e1' ih1
      obtain ⟨v, e2, hv⟩ := zk_chosen (K := sr (sr (sr K 1 (sr (sr (sr K 1 (N 1)) 2 (N 2)) 8 (N 8) 1)) 2 (sr (sr (sr K 1 (N 1)) 2 (N 2)) 8 (N 8) 2)) 8 (sr (sr (sr K 1 (N 1)) 2 (N 2)) 8 (N 8) 8)) (S := S) hN g h99 hr8 q
      have ev := zs_set_of hv
      have v12 := zs_best_lt g hv
      have e3 := zk_bits (v := v) (by omega)
      rw [ev] at ih1
      simp (disch := omega) only [li0, li1, li2, li3, li4, li5, li6, li7, li8, li9, li10, li12, li13, li14, li15, li19, li20, li31, li33, li40, li42, li44, li48, li57, li60, li99, li100, li126, li150, li176, li177, li187, li197, li207, li208, li223, li304, li608, li1520, li1824, nI_add, pk_mul, nI_clamp, nI_leI, nI_ltI, nI_eq, zn_inb, zn_gd, zn_bs, zn_isb, not_true_eq_false, not_false_eq_true, ↓reduceIte, pk_div, pk_sub, zn_rem20, zn_rem2, zn_m1, zn_eqw, zn_weq, zn_weq2, zn_wlt0, zn_wltn, zn_win, zn_wcl, zn_wadd, Nat.not_lt_zero, Nat.one_ne_zero, Nat.zero_ne_one, Nat.le_refl, Nat.zero_le, zn_sel_r, zn_sel_l, e1, e1', e2, e3, zd_f, fX9_digestOrders_B81, fX9_digestOrders_B133]
      exact ih1 _ hN
theorem zs_ch_le (g : GX u S) (h99 : S 99 0 = 0) (hu : u + 24 ≤ 200000) : zs_ch S ≤ 8 := by
  have h8 := g.o8
  unfold zs_ch
  split
  · rename_i hw
    have := (zs_cp_le g h99 hw hu (S 14 0)).1
    omega
  · omega
theorem zk_digestOrders (h : RK (K 1) S) (g : GX u S) (h99 : S 99 0 = 0) (hu : u + 24 ≤ 200000) (x : Int64) : ∃ z, fX9_digestOrders K x = some (zd (zd_ors S x (S 14 0)) (nI (zs_ch S)), z) ∧ RK (z 1) S := by
  have h8 := g.o8
  have m0 : K 1 8 = nI (S 14 0) := h.2.2.2.2.1.2.2.2.2.2.2
  have cl := zs_ch_le g h99 hu
  have w := zd_w1 (h := zd_ors S x (S 14 0)) (w := zs_ch S) (by omega)
  obtain ⟨z, e1, e2, e3⟩ := zk_digestOrders_L18 (K := K) g h99 x (kx := (fun (N : Mem) (l3 : Int64) => (fX9_cheapest (sr (sr (sr K 1 (N 1)) 2 (N 2)) 8 (N 8)) ).bind fun r145 => some (((((31 : Int64) * l3) + (r145.1.toInt64)) + (1 : Int64)), (sr (sr (sr K 1 (r145.2 1)) 2 (r145.2 2)) 8 (r145.2 8))))) (Q := fun z => z.1 = zd (zd_ors S x (S 14 0)) (nI (zs_ch S)) ∧ RK (z.2 1) S) (fun N hN => by
    obtain ⟨y, a1, a2⟩ := zk_cheapest (K := sr (sr (sr K 1 (N 1)) 2 (N 2)) 8 (N 8)) (S := S) hN g h99 hu
    refine ⟨_, congrArg (fun o => Option.bind o _) a1, ?_, a2⟩
    show ((31 : Int64) * zd_ors S x (S 14 0) + (wI (zs_ch S)).toInt64) + 1 = _
    rw [zd_f, w]) (S 14 0) 0 5000 K (by omega) (by omega) h
  obtain ⟨z1, z2⟩ := z
  have e2' : z1 = zd (zd_ors S x (S 14 0)) (nI (zs_ch S)) := e2
  subst e2'
  refine ⟨z2, ?_, e3⟩
  unfold fX9_digestOrders
  simp (disch := omega) only [li0, li1, li2, li3, li4, li5, li6, li7, li8, li9, li10, li12, li13, li14, li15, li19, li20, li31, li33, li40, li42, li44, li48, li57, li60, li99, li100, li126, li150, li176, li177, li187, li197, li207, li208, li223, li304, li608, li1520, li1824, nI_add, pk_mul, nI_clamp, nI_leI, nI_ltI, nI_eq, zn_inb, zn_gd, zn_bs, zn_isb, not_true_eq_false, not_false_eq_true, ↓reduceIte, pk_div, pk_sub, zn_rem20, zn_rem2, zn_m1, zn_eqw, zn_weq, zn_weq2, zn_wlt0, zn_wltn, zn_win, zn_wcl, zn_wadd, Nat.not_lt_zero, Nat.one_ne_zero, Nat.zero_ne_one, Nat.le_refl, Nat.zero_le, zn_sel_r, zn_sel_l, m0, zd_f]
  exact e1
theorem zk_digest_L41 (g : GX u S) {l1 : Int32} {c0 : Nat → Int32} (x : Int64) {kx : Mem → Int32 → Int64 → Option (Int64 × Mem)} {Q : Int64 × Mem → Prop} (hk : ∀ N : Mem, N 0 = c0 → RK (N 1) S → ∃ z, kx N l1 (zd_shs S x (S 1 0)) = some z ∧ Q z) : ∀ d f n (N : Mem), f + d = S 1 0 → d < n → N 0 = c0 → RK (N 1) S → ∃ z, fX9_digest_L41 K n kx N l1 (zd_shs S x f) (nI f) = some z ∧ Q z := by
  have hc := g.c12
  have hw := g.1.2.1
  intro d
  induction d with
  | zero =>
    intro f n N hf hn n0 hN
    obtain ⟨m, rfl⟩ : ∃ m, n = m + 1 := ⟨n - 1, by omega⟩
    have c : S 1 0 ≤ f := by omega
    have m0 : N 1 0 = nI (S 1 0) := hN.1
    rw [fX9_digest_L41]
    simp (disch := omega) only [li0, li1, li2, li3, li4, li5, li6, li7, li8, li9, li10, li12, li13, li14, li15, li19, li20, li31, li33, li40, li42, li44, li48, li57, li60, li99, li100, li126, li150, li176, li177, li187, li197, li207, li208, li223, li304, li608, li1520, li1824, nI_add, pk_mul, nI_clamp, nI_leI, nI_ltI, nI_eq, zn_inb, zn_gd, zn_bs, zn_isb, not_true_eq_false, not_false_eq_true, ↓reduceIte, pk_div, pk_sub, zn_rem20, zn_rem2, zn_m1, zn_eqw, zn_weq, zn_weq2, zn_wlt0, zn_wltn, zn_win, zn_wcl, zn_wadd, Nat.not_lt_zero, Nat.one_ne_zero, Nat.zero_ne_one, Nat.le_refl, Nat.zero_le, zn_sel_r, zn_sel_l, m0, c]
    rw [show f = S 1 0 by omega]
    exact hk _ n0 hN
  | succ d ih =>
    intro f n N hf hn n0 hN
    obtain ⟨m, rfl⟩ : ∃ m, n = m + 1 := ⟨n - 1, by omega⟩
    have c : ¬ S 1 0 ≤ f := by omega
    have m0 : N 1 0 = nI (S 1 0) := hN.1
    have e := zk_digestShelf (K := sr (sr (sr (sr K 0 (N 0)) 1 (N 1)) 2 (N 2)) 8 (N 8)) (S := S) hN hc (by omega) (f := f) (by omega) (zd_shs S x f)
    rw [fX9_digest_L41]
    simp (disch := omega) only [li0, li1, li2, li3, li4, li5, li6, li7, li8, li9, li10, li12, li13, li14, li15, li19, li20, li31, li33, li40, li42, li44, li48, li57, li60, li99, li100, li126, li150, li176, li177, li187, li197, li207, li208, li223, li304, li608, li1520, li1824, nI_add, pk_mul, nI_clamp, nI_leI, nI_ltI, nI_eq, zn_inb, zn_gd, zn_bs, zn_isb, not_true_eq_false, not_false_eq_true, ↓reduceIte, pk_div, pk_sub, zn_rem20, zn_rem2, zn_m1, zn_eqw, zn_weq, zn_weq2, zn_wlt0, zn_wltn, zn_win, zn_wcl, zn_wadd, Nat.not_lt_zero, Nat.one_ne_zero, Nat.zero_ne_one, Nat.le_refl, Nat.zero_le, zn_sel_r, zn_sel_l, m0, c, e]
    exact ih (f + 1) m _ (by omega) (by omega) n0 hN
theorem zk_digest_L94 (g : GX u S) {l1 : Int32} {c0 : Nat → Int32} (x : Int64) {kx : Mem → Int32 → Int64 → Option (Int64 × Mem)} {Q : Int64 × Mem → Prop} (hk : ∀ N : Mem, N 0 = c0 → RK (N 1) S → ∃ z, kx N l1 (zd_tr S x (S 6 4)) = some z ∧ Q z) : ∀ d i n (N : Mem), i + d = S 6 4 → 2 * d < n → N 0 = c0 → RK (N 1) S → ∃ z, fX9_digest_L94 K n kx N l1 (zd_tr S x i) (nI (2 * i)) = some z ∧ Q z := by
  have lo := g.lo.2.2.1
  intro d
  induction d with
  | zero =>
    intro i n N hi hn n0 hN
    obtain ⟨m, rfl⟩ : ∃ m, n = m + 1 := ⟨n - 1, by omega⟩
    have c : 2 * S 6 4 ≤ 2 * i := by omega
    have m0 : N 1 7 = nI (S 6 4) := hN.2.2.2.2.1.2.2.2.2.2.1
    rw [fX9_digest_L94]
    simp (disch := omega) only [li0, li1, li2, li3, li4, li5, li6, li7, li8, li9, li10, li12, li13, li14, li15, li19, li20, li31, li33, li40, li42, li44, li48, li57, li60, li99, li100, li126, li150, li176, li177, li187, li197, li207, li208, li223, li304, li608, li1520, li1824, nI_add, pk_mul, nI_clamp, nI_leI, nI_ltI, nI_eq, zn_inb, zn_gd, zn_bs, zn_isb, not_true_eq_false, not_false_eq_true, ↓reduceIte, pk_div, pk_sub, zn_rem20, zn_rem2, zn_m1, zn_eqw, zn_weq, zn_weq2, zn_wlt0, zn_wltn, zn_win, zn_wcl, zn_wadd, Nat.not_lt_zero, Nat.one_ne_zero, Nat.zero_ne_one, Nat.le_refl, Nat.zero_le, zn_sel_r, zn_sel_l, m0, c]
    rw [show i = S 6 4 by omega]
    exact hk _ n0 hN
  | succ d ih =>
    intro i n N hi hn n0 hN
    obtain ⟨m, rfl⟩ : ∃ m, n = m + 1 + 1 := ⟨n - 2, by omega⟩
    have c : ¬ 2 * S 6 4 ≤ 2 * i := by omega
    have c2 : ¬ 2 * S 6 4 ≤ 2 * i + 1 := by omega
    have m0 : N 1 7 = nI (S 6 4) := hN.2.2.2.2.1.2.2.2.2.2.1
    have t := hN.2.2.2.2.2.2.1 i (by omega)
    have t2 : N 1 (207 + (2 * i + 1)) = nI (S 8 i) := t.2
    rw [fX9_digest_L94]
    simp (disch := omega) only [li0, li1, li2, li3, li4, li5, li6, li7, li8, li9, li10, li12, li13, li14, li15, li19, li20, li31, li33, li40, li42, li44, li48, li57, li60, li99, li100, li126, li150, li176, li177, li187, li197, li207, li208, li223, li304, li608, li1520, li1824, nI_add, pk_mul, nI_clamp, nI_leI, nI_ltI, nI_eq, zn_inb, zn_gd, zn_bs, zn_isb, not_true_eq_false, not_false_eq_true, ↓reduceIte, pk_div, pk_sub, zn_rem20, zn_rem2, zn_m1, zn_eqw, zn_weq, zn_weq2, zn_wlt0, zn_wltn, zn_win, zn_wcl, zn_wadd, Nat.not_lt_zero, Nat.one_ne_zero, Nat.zero_ne_one, Nat.le_refl, Nat.zero_le, zn_sel_r, zn_sel_l, m0, c, t.1, zd_f]
    rw [fX9_digest_L94]
    have m0' : sr (sr (sr (sr K 0 (N 0)) 1 (N 1)) 2 (N 2)) 8 (N 8) 1 7 = nI (S 6 4) := m0
    have t2' : sr (sr (sr (sr K 0 (N 0)) 1 (N 1)) 2 (N 2)) 8 (N 8) 1 (207 + (2 * i + 1)) = nI (S 8 i) := t2
    simp (disch := omega) only [li0, li1, li2, li3, li4, li5, li6, li7, li8, li9, li10, li12, li13, li14, li15, li19, li20, li31, li33, li40, li42, li44, li48, li57, li60, li99, li100, li126, li150, li176, li177, li187, li197, li207, li208, li223, li304, li608, li1520, li1824, nI_add, pk_mul, nI_clamp, nI_leI, nI_ltI, nI_eq, zn_inb, zn_gd, zn_bs, zn_isb, not_true_eq_false, not_false_eq_true, ↓reduceIte, pk_div, pk_sub, zn_rem20, zn_rem2, zn_m1, zn_eqw, zn_weq, zn_weq2, zn_wlt0, zn_wltn, zn_win, zn_wcl, zn_wadd, Nat.not_lt_zero, Nat.one_ne_zero, Nat.zero_ne_one, Nat.le_refl, Nat.zero_le, zn_sel_r, zn_sel_l, m0', c2, t2', zd_f]
    rw [show 2 * i + 1 + 1 = 2 * (i + 1) by omega]
    exact ih (i + 1) m _ (by omega) (by omega) n0 hN
theorem zk_digest_L327 {len : Nat} (hl : len ≤ 60) {c0 : Nat → Int32} (c8 : c0 8 = nI len) (x : Int64) {kx : Mem → Int64 → Option (Int64 × Mem)} {Q : Int64 × Mem → Prop} (hk : ∀ N : Mem, N 0 = c0 → RK (N 1) S → ∃ z, kx N (zs_it (fun i x => zd x (K 6 i)) x len) = some z ∧ Q z) : ∀ d i n (N : Mem), i + d = len → d < n → N 0 = c0 → RK (N 1) S → ∃ z, fX9_digest_L327 K n kx N (zs_it (fun i x => zd x (K 6 i)) x i) (nI i) = some z ∧ Q z := by
  intro d
  induction d with
  | zero =>
    intro i n N hi hn n0 hN
    obtain ⟨m, rfl⟩ : ∃ m, n = m + 1 := ⟨n - 1, by omega⟩
    have c : len ≤ i := by omega
    have m0 : N 0 8 = nI len := by rw [n0]; exact c8
    rw [fX9_digest_L327]
    simp (disch := omega) only [li0, li1, li2, li3, li4, li5, li6, li7, li8, li9, li10, li12, li13, li14, li15, li19, li20, li31, li33, li40, li42, li44, li48, li57, li60, li99, li100, li126, li150, li176, li177, li187, li197, li207, li208, li223, li304, li608, li1520, li1824, nI_add, pk_mul, nI_clamp, nI_leI, nI_ltI, nI_eq, zn_inb, zn_gd, zn_bs, zn_isb, not_true_eq_false, not_false_eq_true, ↓reduceIte, pk_div, pk_sub, zn_rem20, zn_rem2, zn_m1, zn_eqw, zn_weq, zn_weq2, zn_wlt0, zn_wltn, zn_win, zn_wcl, zn_wadd, Nat.not_lt_zero, Nat.one_ne_zero, Nat.zero_ne_one, Nat.le_refl, Nat.zero_le, zn_sel_r, zn_sel_l, m0, c]
    rw [show i = len by omega]
    exact hk _ n0 hN
  | succ d ih =>
    intro i n N hi hn n0 hN
    obtain ⟨m, rfl⟩ : ∃ m, n = m + 1 := ⟨n - 1, by omega⟩
    have c : ¬ len ≤ i := by omega
    have m0 : N 0 8 = nI len := by rw [n0]; exact c8
    rw [fX9_digest_L327]
    simp (disch := omega) only [li0, li1, li2, li3, li4, li5, li6, li7, li8, li9, li10, li12, li13, li14, li15, li19, li20, li31, li33, li40, li42, li44, li48, li57, li60, li99, li100, li126, li150, li176, li177, li187, li197, li207, li208, li223, li304, li608, li1520, li1824, nI_add, pk_mul, nI_clamp, nI_leI, nI_ltI, nI_eq, zn_inb, zn_gd, zn_bs, zn_isb, not_true_eq_false, not_false_eq_true, ↓reduceIte, pk_div, pk_sub, zn_rem20, zn_rem2, zn_m1, zn_eqw, zn_weq, zn_weq2, zn_wlt0, zn_wltn, zn_win, zn_wcl, zn_wadd, Nat.not_lt_zero, Nat.one_ne_zero, Nat.zero_ne_one, Nat.le_refl, Nat.zero_le, zn_sel_r, zn_sel_l, m0, c, zd_f]
    exact ih (i + 1) m _ (by omega) (by omega) n0 hN
end
