set_option maxHeartbeats 400000
/-! told: a function of the state alone -/
def xt_sf (S : SM) (f : Nat) (h : Int64) : Int64 := zd (zd (zd (zd (zd h (nI (S 3 f / 20))) (nI (S 3 f % 20))) (nI (S 4 f))) (nI (zd_fl S f))) (nI (zs_wt S f))
def xt_kf (S : SM) (k : Nat) (h : Int64) : Int64 := zd (zd (zd h (nI (S 12 k) - nI (S 13 k))) (nI (S 10 k))) (nI (S 11 k))
def xt_of (S : SM) (r : Nat) (h : Int64) : Int64 := zd h (nI (zs_wm S r))
def xt_tf (S : SM) (i : Nat) (h : Int64) : Int64 := zd (zd h (nI (S 7 i))) (nI (S 8 i))
def xt_h0 (S : SM) : Int64 := zd (zd (zd (zd (zd (zd (3 : Int64) (nI (S 1 0))) (nI (S 6 0))) (nI (S 6 2))) (nI (S 6 3))) (nI (S 0 4))) (nI (S 14 0))
def xt (S : SM) : Int64 := zd (zs_it (xt_tf S) (zs_it (xt_of S) (zs_it (xt_kf S) (zs_it (xt_sf S) (xt_h0 S) (S 1 0)) 10) (S 14 0)) (S 6 4)) (nI (S 6 1))
section
variable {M : Mem} {S : SM} {u : Nat}
theorem xg_thingsOf (hX : RX (ofs 1 M) S) (g : GX u S) {r : Nat} (hr : r < S 14 0) : fX8_thingsOf M (nI r) = some (.inr (nI (zs_wm S r))) := by
  have e1 := zd_ro hX g.o8 hr
  have h8 := g.o8
  unfold fX8_thingsOf
  simp (disch := omega) only [li0, li1, li2, li3, li4, li5, li6, li7, li8, li9, li10, li12, li13, li14, li15, li19, li20, li31, li33, li40, li42, li44, li48, li57, li60, li99, li100, li126, li150, li176, li177, li187, li197, li207, li208, li223, li304, li608, li1520, li1824, nI_add, pk_mul, nI_clamp, nI_leI, nI_ltI, nI_eq, zn_inb, zn_gd, zn_bs, zn_isb, not_true_eq_false, not_false_eq_true, ↓reduceIte, pk_div, pk_sub, zn_rem20, zn_rem2, zn_m1, zn_eqw, zn_weq, zn_weq2, zn_wlt0, zn_wltn, zn_win, zn_wcl, zn_wadd, Nat.not_lt_zero, Nat.one_ne_zero, Nat.zero_ne_one, Nat.le_refl, Nat.zero_le, zn_sel_r, zn_sel_l, e1, zx_sumG (O := ofs 15 M) hX.r15 (r := r) (by omega)]
theorem xt_L70 (hX : RX (ofs 1 M) S) (g : GX u S) (h : Int64) (kx : Int64 → Option Int64) : ∀ d f n, f + d = S 1 0 → d < n → fL_told_L70 M n kx (zs_it (xt_sf S) h f) (nI f) = kx (zs_it (xt_sf S) h (S 1 0)) := by
  have hc := g.c12
  have m0 : fX8_shelves M = some (nI (S 1 0)) := congrArg some hX.c
  intro d
  induction d with
  | zero =>
    intro f n hf_ hn
    obtain ⟨m, rfl⟩ : ∃ m, n = m + 1 := ⟨n - 1, by omega⟩
    have c : S 1 0 ≤ f := by omega
    have ef : f = S 1 0 := by omega
    rw [fL_told_L70]
    simp (disch := omega) only [li0, li1, li2, li3, li4, li5, li6, li7, li8, li9, li10, li12, li13, li14, li15, li19, li20, li31, li33, li40, li42, li44, li48, li57, li60, li99, li100, li126, li150, li176, li177, li187, li197, li207, li208, li223, li304, li608, li1520, li1824, nI_add, pk_mul, nI_clamp, nI_leI, nI_ltI, nI_eq, zn_inb, zn_gd, zn_bs, zn_isb, not_true_eq_false, not_false_eq_true, ↓reduceIte, pk_div, pk_sub, zn_rem20, zn_rem2, zn_m1, zn_eqw, zn_weq, zn_weq2, zn_wlt0, zn_wltn, zn_win, zn_wcl, zn_wadd, Nat.not_lt_zero, Nat.one_ne_zero, Nat.zero_ne_one, Nat.le_refl, Nat.zero_le, zn_sel_r, zn_sel_l, m0, c]
    try rw [ef]
    try rfl
  | succ d ih =>
    intro f n hf_ hn
    obtain ⟨m, rfl⟩ : ∃ m, n = m + 1 := ⟨n - 1, by omega⟩
    have c : ¬ S 1 0 ≤ f := by omega
    have ih1 := ih (f + 1) m (by omega) (by omega)
    have hf : f < S 1 0 := by omega
    have b := zd_fl_lt S f
    rw [fL_told_L70]
    simp (disch := omega) only [li0, li1, li2, li3, li4, li5, li6, li7, li8, li9, li10, li12, li13, li14, li15, li19, li20, li31, li33, li40, li42, li44, li48, li57, li60, li99, li100, li126, li150, li176, li177, li187, li197, li207, li208, li223, li304, li608, li1520, li1824, nI_add, pk_mul, nI_clamp, nI_leI, nI_ltI, nI_eq, zn_inb, zn_gd, zn_bs, zn_isb, not_true_eq_false, not_false_eq_true, ↓reduceIte, pk_div, pk_sub, zn_rem20, zn_rem2, zn_m1, zn_eqw, zn_weq, zn_weq2, zn_wlt0, zn_wltn, zn_win, zn_wcl, zn_wadd, Nat.not_lt_zero, Nat.one_ne_zero, Nat.zero_ne_one, Nat.le_refl, Nat.zero_le, zn_sel_r, zn_sel_l, m0, c, zd_side hX g hf, zd_slot hX g hf, zd_fetches hX hc hf, zd_win hX g hf, fL_told_B134, zd_weight hX hc hf]
    rcases (show zd_fl S f = 0 ∨ zd_fl S f = 1 by omega) with q | q
    · rw [show zs_it (xt_sf S) h (f + 1) = xt_sf S f (zs_it (xt_sf S) h f) from rfl] at ih1
      unfold xt_sf at ih1
      rw [q] at ih1
      simp (disch := omega) only [li0, li1, li2, li3, li4, li5, li6, li7, li8, li9, li10, li12, li13, li14, li15, li19, li20, li31, li33, li40, li42, li44, li48, li57, li60, li99, li100, li126, li150, li176, li177, li187, li197, li207, li208, li223, li304, li608, li1520, li1824, nI_add, pk_mul, nI_clamp, nI_leI, nI_ltI, nI_eq, zn_inb, zn_gd, zn_bs, zn_isb, not_true_eq_false, not_false_eq_true, ↓reduceIte, pk_div, pk_sub, zn_rem20, zn_rem2, zn_m1, zn_eqw, zn_weq, zn_weq2, zn_wlt0, zn_wltn, zn_win, zn_wcl, zn_wadd, Nat.not_lt_zero, Nat.one_ne_zero, Nat.zero_ne_one, Nat.le_refl, Nat.zero_le, zn_sel_r, zn_sel_l, q]
      exact ih1
    · rw [show zs_it (xt_sf S) h (f + 1) = xt_sf S f (zs_it (xt_sf S) h f) from rfl] at ih1
      unfold xt_sf at ih1
      rw [q] at ih1
      simp (disch := omega) only [li0, li1, li2, li3, li4, li5, li6, li7, li8, li9, li10, li12, li13, li14, li15, li19, li20, li31, li33, li40, li42, li44, li48, li57, li60, li99, li100, li126, li150, li176, li177, li187, li197, li207, li208, li223, li304, li608, li1520, li1824, nI_add, pk_mul, nI_clamp, nI_leI, nI_ltI, nI_eq, zn_inb, zn_gd, zn_bs, zn_isb, not_true_eq_false, not_false_eq_true, ↓reduceIte, pk_div, pk_sub, zn_rem20, zn_rem2, zn_m1, zn_eqw, zn_weq, zn_weq2, zn_wlt0, zn_wltn, zn_win, zn_wcl, zn_wadd, Nat.not_lt_zero, Nat.one_ne_zero, Nat.zero_ne_one, Nat.le_refl, Nat.zero_le, zn_sel_r, zn_sel_l, q]
      exact ih1
theorem xt_L153 (hX : RX (ofs 1 M) S) (g : GX u S) (h : Int64) (kx : Int64 → Option Int64) : ∀ d k n, k + d = 10 → d < n → fL_told_L153 M n kx (zs_it (xt_kf S) h k) (nI k) = kx (zs_it (xt_kf S) h 10) := by
  intro d
  induction d with
  | zero =>
    intro k n hk_ hn
    obtain ⟨m, rfl⟩ : ∃ m, n = m + 1 := ⟨n - 1, by omega⟩
    have c : 10 ≤ k := by omega
    have ef : k = 10 := by omega
    rw [fL_told_L153]
    simp (disch := omega) only [li0, li1, li2, li3, li4, li5, li6, li7, li8, li9, li10, li12, li13, li14, li15, li19, li20, li31, li33, li40, li42, li44, li48, li57, li60, li99, li100, li126, li150, li176, li177, li187, li197, li207, li208, li223, li304, li608, li1520, li1824, nI_add, pk_mul, nI_clamp, nI_leI, nI_ltI, nI_eq, zn_inb, zn_gd, zn_bs, zn_isb, not_true_eq_false, not_false_eq_true, ↓reduceIte, pk_div, pk_sub, zn_rem20, zn_rem2, zn_m1, zn_eqw, zn_weq, zn_weq2, zn_wlt0, zn_wltn, zn_win, zn_wcl, zn_wadd, Nat.not_lt_zero, Nat.one_ne_zero, Nat.zero_ne_one, Nat.le_refl, Nat.zero_le, zn_sel_r, zn_sel_l, c]
    try rw [ef]
    try rfl
  | succ d ih =>
    intro k n hk_ hn
    obtain ⟨m, rfl⟩ : ∃ m, n = m + 1 := ⟨n - 1, by omega⟩
    have c : ¬ 10 ≤ k := by omega
    have ih1 := ih (k + 1) m (by omega) (by omega)
    have hk : k < 10 := by omega
    rw [fL_told_L153]
    simp (disch := omega) only [li0, li1, li2, li3, li4, li5, li6, li7, li8, li9, li10, li12, li13, li14, li15, li19, li20, li31, li33, li40, li42, li44, li48, li57, li60, li99, li100, li126, li150, li176, li177, li187, li197, li207, li208, li223, li304, li608, li1520, li1824, nI_add, pk_mul, nI_clamp, nI_leI, nI_ltI, nI_eq, zn_inb, zn_gd, zn_bs, zn_isb, not_true_eq_false, not_false_eq_true, ↓reduceIte, pk_div, pk_sub, zn_rem20, zn_rem2, zn_m1, zn_eqw, zn_weq, zn_weq2, zn_wlt0, zn_wltn, zn_win, zn_wcl, zn_wadd, Nat.not_lt_zero, Nat.one_ne_zero, Nat.zero_ne_one, Nat.le_refl, Nat.zero_le, zn_sel_r, zn_sel_l, c, zd_acc hX hk, zd_wk hX hk, zd_least hX hk]
    exact ih1
theorem xt_L202 (hX : RX (ofs 1 M) S) (g : GX u S) (h : Int64) (kx : Int64 → Option Int64) : ∀ d r n, r + d = S 14 0 → d < n → fL_told_L202 M n kx (zs_it (xt_of S) h r) (nI r) = kx (zs_it (xt_of S) h (S 14 0)) := by
  have h8 := g.o8
  have m0 : fX8_orders M = some (nI (S 14 0)) := congrArg some hX.2.1.2.2.2.2.2.2
  intro d
  induction d with
  | zero =>
    intro r n hr_ hn
    obtain ⟨m, rfl⟩ : ∃ m, n = m + 1 := ⟨n - 1, by omega⟩
    have c : S 14 0 ≤ r := by omega
    have ef : r = S 14 0 := by omega
    rw [fL_told_L202]
    simp (disch := omega) only [li0, li1, li2, li3, li4, li5, li6, li7, li8, li9, li10, li12, li13, li14, li15, li19, li20, li31, li33, li40, li42, li44, li48, li57, li60, li99, li100, li126, li150, li176, li177, li187, li197, li207, li208, li223, li304, li608, li1520, li1824, nI_add, pk_mul, nI_clamp, nI_leI, nI_ltI, nI_eq, zn_inb, zn_gd, zn_bs, zn_isb, not_true_eq_false, not_false_eq_true, ↓reduceIte, pk_div, pk_sub, zn_rem20, zn_rem2, zn_m1, zn_eqw, zn_weq, zn_weq2, zn_wlt0, zn_wltn, zn_win, zn_wcl, zn_wadd, Nat.not_lt_zero, Nat.one_ne_zero, Nat.zero_ne_one, Nat.le_refl, Nat.zero_le, zn_sel_r, zn_sel_l, m0, c]
    try rw [ef]
    try rfl
  | succ d ih =>
    intro r n hr_ hn
    obtain ⟨m, rfl⟩ : ∃ m, n = m + 1 := ⟨n - 1, by omega⟩
    have c : ¬ S 14 0 ≤ r := by omega
    have ih1 := ih (r + 1) m (by omega) (by omega)
    have hr : r < S 14 0 := by omega
    rw [fL_told_L202]
    simp (disch := omega) only [li0, li1, li2, li3, li4, li5, li6, li7, li8, li9, li10, li12, li13, li14, li15, li19, li20, li31, li33, li40, li42, li44, li48, li57, li60, li99, li100, li126, li150, li176, li177, li187, li197, li207, li208, li223, li304, li608, li1520, li1824, nI_add, pk_mul, nI_clamp, nI_leI, nI_ltI, nI_eq, zn_inb, zn_gd, zn_bs, zn_isb, not_true_eq_false, not_false_eq_true, ↓reduceIte, pk_div, pk_sub, zn_rem20, zn_rem2, zn_m1, zn_eqw, zn_weq, zn_weq2, zn_wlt0, zn_wltn, zn_win, zn_wcl, zn_wadd, Nat.not_lt_zero, Nat.one_ne_zero, Nat.zero_ne_one, Nat.le_refl, Nat.zero_le, zn_sel_r, zn_sel_l, m0, c, xg_thingsOf hX g hr]
    exact ih1
theorem xt_L231 (hX : RX (ofs 1 M) S) (g : GX u S) (h : Int64) (kx : Int64 → Option Int64) : ∀ d i n, i + d = S 6 4 → d < n → fL_told_L231 M n kx (zs_it (xt_tf S) h i) (nI i) = kx (zs_it (xt_tf S) h (S 6 4)) := by
  have lo := g.lo.2.2.1
  have m0 : fX8_trips M = some (nI (S 6 4)) := congrArg some hX.2.1.2.2.2.2.1
  intro d
  induction d with
  | zero =>
    intro i n hi_ hn
    obtain ⟨m, rfl⟩ : ∃ m, n = m + 1 := ⟨n - 1, by omega⟩
    have c : S 6 4 ≤ i := by omega
    have ef : i = S 6 4 := by omega
    rw [fL_told_L231]
    simp (disch := omega) only [li0, li1, li2, li3, li4, li5, li6, li7, li8, li9, li10, li12, li13, li14, li15, li19, li20, li31, li33, li40, li42, li44, li48, li57, li60, li99, li100, li126, li150, li176, li177, li187, li197, li207, li208, li223, li304, li608, li1520, li1824, nI_add, pk_mul, nI_clamp, nI_leI, nI_ltI, nI_eq, zn_inb, zn_gd, zn_bs, zn_isb, not_true_eq_false, not_false_eq_true, ↓reduceIte, pk_div, pk_sub, zn_rem20, zn_rem2, zn_m1, zn_eqw, zn_weq, zn_weq2, zn_wlt0, zn_wltn, zn_win, zn_wcl, zn_wadd, Nat.not_lt_zero, Nat.one_ne_zero, Nat.zero_ne_one, Nat.le_refl, Nat.zero_le, zn_sel_r, zn_sel_l, m0, c]
    try rw [ef]
    try rfl
  | succ d ih =>
    intro i n hi_ hn
    obtain ⟨m, rfl⟩ : ∃ m, n = m + 1 := ⟨n - 1, by omega⟩
    have c : ¬ S 6 4 ≤ i := by omega
    have ih1 := ih (i + 1) m (by omega) (by omega)
    have hi : i < S 6 4 := by omega
    have b := g.lo.2.2.2 i (by omega)
    rw [fL_told_L231]
    simp (disch := omega) only [li0, li1, li2, li3, li4, li5, li6, li7, li8, li9, li10, li12, li13, li14, li15, li19, li20, li31, li33, li40, li42, li44, li48, li57, li60, li99, li100, li126, li150, li176, li177, li187, li197, li207, li208, li223, li304, li608, li1520, li1824, nI_add, pk_mul, nI_clamp, nI_leI, nI_ltI, nI_eq, zn_inb, zn_gd, zn_bs, zn_isb, not_true_eq_false, not_false_eq_true, ↓reduceIte, pk_div, pk_sub, zn_rem20, zn_rem2, zn_m1, zn_eqw, zn_weq, zn_weq2, zn_wlt0, zn_wltn, zn_win, zn_wcl, zn_wadd, Nat.not_lt_zero, Nat.one_ne_zero, Nat.zero_ne_one, Nat.le_refl, Nat.zero_le, zn_sel_r, zn_sel_l, m0, c, zd_ticks hX g hi, zd_was hX g hi, fL_told_B268]
    rw [show zs_it (xt_tf S) h (i + 1) = xt_tf S i (zs_it (xt_tf S) h i) from rfl] at ih1
    unfold xt_tf at ih1
    rcases (show S 8 i = 0 ∨ S 8 i = 1 by omega) with q | q
    · rw [q] at ih1
      simp (disch := omega) only [li0, li1, li2, li3, li4, li5, li6, li7, li8, li9, li10, li12, li13, li14, li15, li19, li20, li31, li33, li40, li42, li44, li48, li57, li60, li99, li100, li126, li150, li176, li177, li187, li197, li207, li208, li223, li304, li608, li1520, li1824, nI_add, pk_mul, nI_clamp, nI_leI, nI_ltI, nI_eq, zn_inb, zn_gd, zn_bs, zn_isb, not_true_eq_false, not_false_eq_true, ↓reduceIte, pk_div, pk_sub, zn_rem20, zn_rem2, zn_m1, zn_eqw, zn_weq, zn_weq2, zn_wlt0, zn_wltn, zn_win, zn_wcl, zn_wadd, Nat.not_lt_zero, Nat.one_ne_zero, Nat.zero_ne_one, Nat.le_refl, Nat.zero_le, zn_sel_r, zn_sel_l, q]
      exact ih1
    · rw [q] at ih1
      simp (disch := omega) only [li0, li1, li2, li3, li4, li5, li6, li7, li8, li9, li10, li12, li13, li14, li15, li19, li20, li31, li33, li40, li42, li44, li48, li57, li60, li99, li100, li126, li150, li176, li177, li187, li197, li207, li208, li223, li304, li608, li1520, li1824, nI_add, pk_mul, nI_clamp, nI_leI, nI_ltI, nI_eq, zn_inb, zn_gd, zn_bs, zn_isb, not_true_eq_false, not_false_eq_true, ↓reduceIte, pk_div, pk_sub, zn_rem20, zn_rem2, zn_m1, zn_eqw, zn_weq, zn_weq2, zn_wlt0, zn_wltn, zn_win, zn_wcl, zn_wadd, Nat.not_lt_zero, Nat.one_ne_zero, Nat.zero_ne_one, Nat.le_refl, Nat.zero_le, zn_sel_r, zn_sel_l, q]
      exact ih1
theorem xt_told (hX : RX (ofs 1 M) S) (g : GX u S) : fL_told M = some (xt S) := by
  have hc := g.c12
  have lo := g.lo
  have e1 : fX8_shelves M = some (nI (S 1 0)) := congrArg some hX.c
  have e2 : fX8_lift M = some (nI (S 6 0)) := congrArg some hX.2.1.1
  have e3 : fX8_ticks M = some (nI (S 6 2)) := congrArg some hX.2.1.2.2.1
  have e4 : fX8_fetches M = some (nI (S 6 3)) := congrArg some hX.2.1.2.2.2.1
  have e5 : fX8_served M = some (nI (S 0 4)) := congrArg some hX.2.1.2.2.2.2.2.1
  have e6 : fX8_orders M = some (nI (S 14 0)) := congrArg some hX.2.1.2.2.2.2.2.2
  have m1 : M 7 1 = nI (S 6 1) := hX.2.1.2.1
  have m2 := zn_isb lo.2.1
  have e7 : fX8_isKeptPlace M = some (nI (S 6 1)) := by
    unfold fX8_isKeptPlace
    rw [m1, m2, zn_gd]
  unfold fL_told
  rw [e1, zn_bs, e2, zn_bs, e3, zn_bs, e4, zn_bs, e5, zn_bs, e6, zn_bs]
  refine (xt_L70 hX g (xt_h0 S) _ (S 1 0) 0 5000 (by omega) (by omega)).trans ?_
  refine (xt_L153 hX g (zs_it (xt_sf S) (xt_h0 S) (S 1 0)) _ 10 0 5000 (by omega) (by omega)).trans ?_
  refine (xt_L202 hX g (zs_it (xt_kf S) (zs_it (xt_sf S) (xt_h0 S) (S 1 0)) 10) _ (S 14 0) 0 5000 (by omega) (by have := g.o8; omega)).trans ?_
  refine (xt_L231 hX g (zs_it (xt_of S) (zs_it (xt_kf S) (zs_it (xt_sf S) (xt_h0 S) (S 1 0)) 10) (S 14 0)) _ (S 6 4) 0 5000 (by omega) (by omega)).trans ?_
  rw [e7, zn_bs]
  unfold xt
  rcases (show S 6 1 = 0 ∨ S 6 1 = 1 by omega) with q | q
  · rw [q]
    rfl
  · rw [q]
    rfl
end
