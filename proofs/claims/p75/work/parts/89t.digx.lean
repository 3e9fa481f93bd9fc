set_option maxHeartbeats 400000
/-! the digest: one step, and what is told, in the same words for both sides -/
def zd (h : Int64) (x : Int32) : Int64 := (31 : Int64) * h + x.toInt64
def zd_fl (S : SM) (f : Nat) : Nat := if S 1 1 = f + 1 then 1 else 0
theorem zd_fl_lt (S : SM) (f : Nat) : zd_fl S f < 2 := by
  unfold zd_fl
  split <;> omega
/-! the class's calls within their ranges -/
section
variable {M : Mem} {S : SM} {u : Nat}
theorem zd_rs (hX : RX (ofs 1 M) S) (hc : S 1 0 ≤ 12) {f : Nat} (hf : f < S 1 0) : fX8_requireShelf M (nI f) = some (.inr ()) := by
  have e1 : M 2 0 = nI (S 1 0) := hX.c
  unfold fX8_requireShelf
  rw [if_neg (nI_pos (by omega)), e1, if_pos (nI_lt hf (by omega))]
theorem zd_ro (hX : RX (ofs 1 M) S) (hc : S 14 0 ≤ 8) {f : Nat} (hf : f < S 14 0) : fX8_requireOrder M (nI f) = some (.inr ()) := by
  have e1 : M 15 0 = nI (S 14 0) := hX.2.1.2.2.2.2.2.2
  unfold fX8_requireOrder
  rw [if_neg (nI_pos (by omega)), e1, if_pos (nI_lt hf (by omega))]
theorem zd_rk (M : Mem) {f : Nat} (hf : f < 10) : fX8_requireKind M (nI f) = some (.inr ()) := by
  unfold fX8_requireKind
  rw [if_neg (nI_pos (by omega)), show (10 : Int32) = nI 10 from rfl, if_pos (nI_lt hf (by omega))]
theorem zd_rd (M : Mem) {f : Nat} (hf : f < 2) : fX8_requireSide M (nI f) = some (.inr ()) := by
  unfold fX8_requireSide
  rw [if_neg (nI_pos (by omega)), show (2 : Int32) = nI 2 from rfl, if_pos (nI_lt hf (by omega))]
theorem zd_rt (hX : RX (ofs 1 M) S) (hc : S 6 4 ≤ 8) {f : Nat} (hf : f < S 6 4) : fX8_requireTrip M (nI f) = some (.inr ()) := by
  have e1 : M 7 4 = nI (S 6 4) := hX.2.1.2.2.2.2.1
  unfold fX8_requireTrip
  rw [if_neg (nI_pos (by omega)), e1, if_pos (nI_lt hf (by omega))]
theorem zd_height (hX : RX (ofs 1 M) S) (hc : S 1 0 ≤ 12) {f : Nat} (hf : f < S 1 0) : fX8_heightOf M (nI f) = some (.inr (nI (S 2 f))) := by
  have e1 := zd_rs hX hc hf
  have m1 : M 3 f = nI (S 2 f) := hX.r2 f (by omega)
  unfold fX8_heightOf
  simp (disch := omega) only [li0, li1, li2, li3, li4, li5, li6, li7, li8, li9, li10, li12, li13, li14, li15, li19, li20, li31, li33, li40, li42, li44, li48, li57, li60, li99, li100, li126, li150, li176, li177, li187, li197, li207, li208, li223, li304, li608, li1520, li1824, nI_add, pk_mul, nI_clamp, nI_leI, nI_ltI, nI_eq, zn_inb, zn_gd, zn_bs, zn_isb, not_true_eq_false, not_false_eq_true, ↓reduceIte, pk_div, pk_sub, zn_rem20, zn_rem2, zn_m1, zn_eqw, zn_weq, zn_weq2, zn_wlt0, zn_wltn, zn_win, zn_wcl, zn_wadd, Nat.not_lt_zero, Nat.one_ne_zero, Nat.zero_ne_one, Nat.le_refl, Nat.zero_le, zn_sel_r, zn_sel_l, e1, m1]
theorem zd_side (hX : RX (ofs 1 M) S) (g : GX u S) {f : Nat} (hf : f < S 1 0) : fX8_sideOf M (nI f) = some (.inr (nI (S 3 f / 20))) := by
  have hc := g.c12
  have e1 := zd_rs hX hc hf
  have b := g.1.2.2.1 f hf
  have m1 : M 4 f = nI (S 3 f) := hX.r3 f (by omega)
  unfold fX8_sideOf
  simp (disch := omega) only [li0, li1, li2, li3, li4, li5, li6, li7, li8, li9, li10, li12, li13, li14, li15, li19, li20, li31, li33, li40, li42, li44, li48, li57, li60, li99, li100, li126, li150, li176, li177, li187, li197, li207, li208, li223, li304, li608, li1520, li1824, nI_add, pk_mul, nI_clamp, nI_leI, nI_ltI, nI_eq, zn_inb, zn_gd, zn_bs, zn_isb, not_true_eq_false, not_false_eq_true, ↓reduceIte, pk_div, pk_sub, zn_rem20, zn_rem2, zn_m1, zn_eqw, zn_weq, zn_weq2, zn_wlt0, zn_wltn, zn_win, zn_wcl, zn_wadd, Nat.not_lt_zero, Nat.one_ne_zero, Nat.zero_ne_one, Nat.le_refl, Nat.zero_le, zn_sel_r, zn_sel_l, e1, m1]
theorem zd_slot (hX : RX (ofs 1 M) S) (g : GX u S) {f : Nat} (hf : f < S 1 0) : fX8_slotOf M (nI f) = some (.inr (nI (S 3 f % 20))) := by
  have hc := g.c12
  have e1 := zd_rs hX hc hf
  have b := g.1.2.2.1 f hf
  have m1 : M 4 f = nI (S 3 f) := hX.r3 f (by omega)
  unfold fX8_slotOf
  simp (disch := omega) only [li0, li1, li2, li3, li4, li5, li6, li7, li8, li9, li10, li12, li13, li14, li15, li19, li20, li31, li33, li40, li42, li44, li48, li57, li60, li99, li100, li126, li150, li176, li177, li187, li197, li207, li208, li223, li304, li608, li1520, li1824, nI_add, pk_mul, nI_clamp, nI_leI, nI_ltI, nI_eq, zn_inb, zn_gd, zn_bs, zn_isb, not_true_eq_false, not_false_eq_true, ↓reduceIte, pk_div, pk_sub, zn_rem20, zn_rem2, zn_m1, zn_eqw, zn_weq, zn_weq2, zn_wlt0, zn_wltn, zn_win, zn_wcl, zn_wadd, Nat.not_lt_zero, Nat.one_ne_zero, Nat.zero_ne_one, Nat.le_refl, Nat.zero_le, zn_sel_r, zn_sel_l, e1, m1]
theorem zd_win (hX : RX (ofs 1 M) S) (g : GX u S) {f : Nat} (hf : f < S 1 0) : fX8_isAtWindow M (nI f) = some (.inr (nI (zd_fl S f))) := by
  have hc := g.c12
  have hw := g.1.2.1
  have e1 := zd_rs hX hc hf
  have m1 : M 2 1 = wI (S 1 1) := hX.w
  unfold fX8_isAtWindow zd_fl
  by_cases c1 : S 1 1 = f + 1
  · simp (disch := omega) only [li0, li1, li2, li3, li4, li5, li6, li7, li8, li9, li10, li12, li13, li14, li15, li19, li20, li31, li33, li40, li42, li44, li48, li57, li60, li99, li100, li126, li150, li176, li177, li187, li197, li207, li208, li223, li304, li608, li1520, li1824, nI_add, pk_mul, nI_clamp, nI_leI, nI_ltI, nI_eq, zn_inb, zn_gd, zn_bs, zn_isb, not_true_eq_false, not_false_eq_true, ↓reduceIte, pk_div, pk_sub, zn_rem20, zn_rem2, zn_m1, zn_eqw, zn_weq, zn_weq2, zn_wlt0, zn_wltn, zn_win, zn_wcl, zn_wadd, Nat.not_lt_zero, Nat.one_ne_zero, Nat.zero_ne_one, Nat.le_refl, Nat.zero_le, zn_sel_r, zn_sel_l, e1, m1, eq_true c1, fX8_isAtWindow_B24]
  · simp (disch := omega) only [li0, li1, li2, li3, li4, li5, li6, li7, li8, li9, li10, li12, li13, li14, li15, li19, li20, li31, li33, li40, li42, li44, li48, li57, li60, li99, li100, li126, li150, li176, li177, li187, li197, li207, li208, li223, li304, li608, li1520, li1824, nI_add, pk_mul, nI_clamp, nI_leI, nI_ltI, nI_eq, zn_inb, zn_gd, zn_bs, zn_isb, not_true_eq_false, not_false_eq_true, ↓reduceIte, pk_div, pk_sub, zn_rem20, zn_rem2, zn_m1, zn_eqw, zn_weq, zn_weq2, zn_wlt0, zn_wltn, zn_win, zn_wcl, zn_wadd, Nat.not_lt_zero, Nat.one_ne_zero, Nat.zero_ne_one, Nat.le_refl, Nat.zero_le, zn_sel_r, zn_sel_l, e1, m1, c1, fX8_isAtWindow_B24]
theorem zd_things (hX : RX (ofs 1 M) S) (hc : S 1 0 ≤ 12) {f k : Nat} (hf : f < S 1 0) (hk : k < 10) : fX8_thingsIn M (nI f) (nI k) = some (.inr (nI (S 5 (f * 10 + k)))) := by
  have e1 := zd_rs hX hc hf
  have e2 := zd_rk M hk
  have e3 := zx_countIn (T := ofs 2 M) (S := S) hX.t (f := f) (by omega) hk
  unfold fX8_thingsIn
  simp (disch := omega) only [li0, li1, li2, li3, li4, li5, li6, li7, li8, li9, li10, li12, li13, li14, li15, li19, li20, li31, li33, li40, li42, li44, li48, li57, li60, li99, li100, li126, li150, li176, li177, li187, li197, li207, li208, li223, li304, li608, li1520, li1824, nI_add, pk_mul, nI_clamp, nI_leI, nI_ltI, nI_eq, zn_inb, zn_gd, zn_bs, zn_isb, not_true_eq_false, not_false_eq_true, ↓reduceIte, pk_div, pk_sub, zn_rem20, zn_rem2, zn_m1, zn_eqw, zn_weq, zn_weq2, zn_wlt0, zn_wltn, zn_win, zn_wcl, zn_wadd, Nat.not_lt_zero, Nat.one_ne_zero, Nat.zero_ne_one, Nat.le_refl, Nat.zero_le, zn_sel_r, zn_sel_l, e1, e2, e3]
theorem zd_weight (hX : RX (ofs 1 M) S) (hc : S 1 0 ≤ 12) {f : Nat} (hf : f < S 1 0) : fX8_weightOf M (nI f) = some (.inr (nI (zs_wt S f))) := by
  have e1 := zd_rs hX hc hf
  have e3 := zx_weighShelf hX (f := f) (by omega)
  unfold fX8_weightOf
  simp (disch := omega) only [li0, li1, li2, li3, li4, li5, li6, li7, li8, li9, li10, li12, li13, li14, li15, li19, li20, li31, li33, li40, li42, li44, li48, li57, li60, li99, li100, li126, li150, li176, li177, li187, li197, li207, li208, li223, li304, li608, li1520, li1824, nI_add, pk_mul, nI_clamp, nI_leI, nI_ltI, nI_eq, zn_inb, zn_gd, zn_bs, zn_isb, not_true_eq_false, not_false_eq_true, ↓reduceIte, pk_div, pk_sub, zn_rem20, zn_rem2, zn_m1, zn_eqw, zn_weq, zn_weq2, zn_wlt0, zn_wltn, zn_win, zn_wcl, zn_wadd, Nat.not_lt_zero, Nat.one_ne_zero, Nat.zero_ne_one, Nat.le_refl, Nat.zero_le, zn_sel_r, zn_sel_l, e1, e3]
theorem zd_fetches (hX : RX (ofs 1 M) S) (hc : S 1 0 ≤ 12) {f : Nat} (hf : f < S 1 0) : fX8_fetchesOf M (nI f) = some (.inr (nI (S 4 f))) := by
  have e1 := zd_rs hX hc hf
  have m1 : M 5 f = nI (S 4 f) := hX.r4 f (by omega)
  unfold fX8_fetchesOf
  simp (disch := omega) only [li0, li1, li2, li3, li4, li5, li6, li7, li8, li9, li10, li12, li13, li14, li15, li19, li20, li31, li33, li40, li42, li44, li48, li57, li60, li99, li100, li126, li150, li176, li177, li187, li197, li207, li208, li223, li304, li608, li1520, li1824, nI_add, pk_mul, nI_clamp, nI_leI, nI_ltI, nI_eq, zn_inb, zn_gd, zn_bs, zn_isb, not_true_eq_false, not_false_eq_true, ↓reduceIte, pk_div, pk_sub, zn_rem20, zn_rem2, zn_m1, zn_eqw, zn_weq, zn_weq2, zn_wlt0, zn_wltn, zn_win, zn_wcl, zn_wadd, Nat.not_lt_zero, Nat.one_ne_zero, Nat.zero_ne_one, Nat.le_refl, Nat.zero_le, zn_sel_r, zn_sel_l, e1, m1]
theorem zd_gap (hX : RX (ofs 1 M) S) (g : GX u S) {s : Nat} (hs : s < 2) : fX8_longestGap M (nI s) = some (.inr (nI (zs_gp (zs_tq S) s 20).1)) := by
  have e1 := zd_rd M hs
  have e3 := zx_longestFree (T := ofs 2 M) (S := S) hX.t g.1 hs
  unfold fX8_longestGap
  simp (disch := omega) only [li0, li1, li2, li3, li4, li5, li6, li7, li8, li9, li10, li12, li13, li14, li15, li19, li20, li31, li33, li40, li42, li44, li48, li57, li60, li99, li100, li126, li150, li176, li177, li187, li197, li207, li208, li223, li304, li608, li1520, li1824, nI_add, pk_mul, nI_clamp, nI_leI, nI_ltI, nI_eq, zn_inb, zn_gd, zn_bs, zn_isb, not_true_eq_false, not_false_eq_true, ↓reduceIte, pk_div, pk_sub, zn_rem20, zn_rem2, zn_m1, zn_eqw, zn_weq, zn_weq2, zn_wlt0, zn_wltn, zn_win, zn_wcl, zn_wadd, Nat.not_lt_zero, Nat.one_ne_zero, Nat.zero_ne_one, Nat.le_refl, Nat.zero_le, zn_sel_r, zn_sel_l, e1, e3]
theorem zd_slots (hX : RX (ofs 1 M) S) (g : GX u S) : fX8_freeBySlots M = some (nI (zs_fm S 40)) := by
  have hT : RT (ofs 2 M) S := hX.t
  unfold fX8_freeBySlots
  simp (disch := omega) only [li0, li1, li2, li3, li4, li5, li6, li7, li8, li9, li10, li12, li13, li14, li15, li19, li20, li31, li33, li40, li42, li44, li48, li57, li60, li99, li100, li126, li150, li176, li177, li187, li197, li207, li208, li223, li304, li608, li1520, li1824, nI_add, pk_mul, nI_clamp, nI_leI, nI_ltI, nI_eq, zn_inb, zn_gd, zn_bs, zn_isb, not_true_eq_false, not_false_eq_true, ↓reduceIte, pk_div, pk_sub, zn_rem20, zn_rem2, zn_m1, zn_eqw, zn_weq, zn_weq2, zn_wlt0, zn_wltn, zn_win, zn_wcl, zn_wadd, Nat.not_lt_zero, Nat.one_ne_zero, Nat.zero_ne_one, Nat.le_refl, Nat.zero_le, zn_sel_r, zn_sel_l, zx_countFree hT g.1 (side := 0) (by omega), zx_countFree hT g.1 (side := 1) (by omega), zs_free_sides S]
theorem zd_heights (hX : RX (ofs 1 M) S) (g : GX u S) : fX8_freeByHeights M = some (nI (zs_fm S 40)) := by
  have hT : RT (ofs 2 M) S := hX.t
  have hfh0 := zs_free_heights g.1
  have hfh : 40 - zs_hs S (S 1 0) = zs_fm S 40 := by omega
  unfold fX8_freeByHeights
  simp (disch := omega) only [li0, li1, li2, li3, li4, li5, li6, li7, li8, li9, li10, li12, li13, li14, li15, li19, li20, li31, li33, li40, li42, li44, li48, li57, li60, li99, li100, li126, li150, li176, li177, li187, li197, li207, li208, li223, li304, li608, li1520, li1824, nI_add, pk_mul, nI_clamp, nI_leI, nI_ltI, nI_eq, zn_inb, zn_gd, zn_bs, zn_isb, not_true_eq_false, not_false_eq_true, ↓reduceIte, pk_div, pk_sub, zn_rem20, zn_rem2, zn_m1, zn_eqw, zn_weq, zn_weq2, zn_wlt0, zn_wltn, zn_win, zn_wcl, zn_wadd, Nat.not_lt_zero, Nat.one_ne_zero, Nat.zero_ne_one, Nat.le_refl, Nat.zero_le, zn_sel_r, zn_sel_l, zx_sumOfHeights hT g.1, hfh]
theorem zd_wk (hX : RX (ofs 1 M) S) {k : Nat} (hk : k < 10) : fX8_weightOfKind M (nI k) = some (.inr (nI (S 10 k))) := by
  have e1 := zd_rk M hk
  have m1 : M 11 k = nI (S 10 k) := hX.r10 k hk
  unfold fX8_weightOfKind
  simp (disch := omega) only [li0, li1, li2, li3, li4, li5, li6, li7, li8, li9, li10, li12, li13, li14, li15, li19, li20, li31, li33, li40, li42, li44, li48, li57, li60, li99, li100, li126, li150, li176, li177, li187, li197, li207, li208, li223, li304, li608, li1520, li1824, nI_add, pk_mul, nI_clamp, nI_leI, nI_ltI, nI_eq, zn_inb, zn_gd, zn_bs, zn_isb, not_true_eq_false, not_false_eq_true, ↓reduceIte, pk_div, pk_sub, zn_rem20, zn_rem2, zn_m1, zn_eqw, zn_weq, zn_weq2, zn_wlt0, zn_wltn, zn_win, zn_wcl, zn_wadd, Nat.not_lt_zero, Nat.one_ne_zero, Nat.zero_ne_one, Nat.le_refl, Nat.zero_le, zn_sel_r, zn_sel_l, e1, m1]
theorem zd_stock (hX : RX (ofs 1 M) S) (hc : S 1 0 ≤ 12) {k : Nat} (hk : k < 10) : fX8_stockByShelves M (nI k) = some (.inr (nI (zs_stock S k))) := by
  have e1 := zd_rk M hk
  have e3 := zx_stockOf (T := ofs 2 M) (S := S) hX.t hc hk
  unfold fX8_stockByShelves
  simp (disch := omega) only [li0, li1, li2, li3, li4, li5, li6, li7, li8, li9, li10, li12, li13, li14, li15, li19, li20, li31, li33, li40, li42, li44, li48, li57, li60, li99, li100, li126, li150, li176, li177, li187, li197, li207, li208, li223, li304, li608, li1520, li1824, nI_add, pk_mul, nI_clamp, nI_leI, nI_ltI, nI_eq, zn_inb, zn_gd, zn_bs, zn_isb, not_true_eq_false, not_false_eq_true, ↓reduceIte, pk_div, pk_sub, zn_rem20, zn_rem2, zn_m1, zn_eqw, zn_weq, zn_weq2, zn_wlt0, zn_wltn, zn_win, zn_wcl, zn_wadd, Nat.not_lt_zero, Nat.one_ne_zero, Nat.zero_ne_one, Nat.le_refl, Nat.zero_le, zn_sel_r, zn_sel_l, e1, e3]
theorem zd_acc (hX : RX (ofs 1 M) S) {k : Nat} (hk : k < 10) : fX8_stockByAccount M (nI k) = some (.inr (nI (S 12 k) - nI (S 13 k))) := by
  have e1 := zd_rk M hk
  unfold fX8_stockByAccount
  simp (disch := omega) only [li0, li1, li2, li3, li4, li5, li6, li7, li8, li9, li10, li12, li13, li14, li15, li19, li20, li31, li33, li40, li42, li44, li48, li57, li60, li99, li100, li126, li150, li176, li177, li187, li197, li207, li208, li223, li304, li608, li1520, li1824, nI_add, pk_mul, nI_clamp, nI_leI, nI_ltI, nI_eq, zn_inb, zn_gd, zn_bs, zn_isb, not_true_eq_false, not_false_eq_true, ↓reduceIte, pk_div, pk_sub, zn_rem20, zn_rem2, zn_m1, zn_eqw, zn_weq, zn_weq2, zn_wlt0, zn_wltn, zn_win, zn_wcl, zn_wadd, Nat.not_lt_zero, Nat.one_ne_zero, Nat.zero_ne_one, Nat.le_refl, Nat.zero_le, zn_sel_r, zn_sel_l, e1, show M 13 k = _ from hX.r12 k hk, show M 14 k = _ from hX.r13 k hk]
theorem zd_least (hX : RX (ofs 1 M) S) {k : Nat} (hk : k < 10) : fX8_leastOf M (nI k) = some (.inr (nI (S 11 k))) := by
  have e1 := zd_rk M hk
  have m1 : M 12 k = nI (S 11 k) := hX.r11 k hk
  unfold fX8_leastOf
  simp (disch := omega) only [li0, li1, li2, li3, li4, li5, li6, li7, li8, li9, li10, li12, li13, li14, li15, li19, li20, li31, li33, li40, li42, li44, li48, li57, li60, li99, li100, li126, li150, li176, li177, li187, li197, li207, li208, li223, li304, li608, li1520, li1824, nI_add, pk_mul, nI_clamp, nI_leI, nI_ltI, nI_eq, zn_inb, zn_gd, zn_bs, zn_isb, not_true_eq_false, not_false_eq_true, ↓reduceIte, pk_div, pk_sub, zn_rem20, zn_rem2, zn_m1, zn_eqw, zn_weq, zn_weq2, zn_wlt0, zn_wltn, zn_win, zn_wcl, zn_wadd, Nat.not_lt_zero, Nat.one_ne_zero, Nat.zero_ne_one, Nat.le_refl, Nat.zero_le, zn_sel_r, zn_sel_l, e1, m1]
theorem zd_miss (hX : RX (ofs 1 M) S) (g : GX u S) {k : Nat} (hk : k < 10) : fX8_missingOf M (nI k) = some (.inr (nI (zs_miss S k))) := by
  have e1 := zd_rk M hk
  have e3 := zx_missing hX g hk
  unfold fX8_missingOf
  simp (disch := omega) only [li0, li1, li2, li3, li4, li5, li6, li7, li8, li9, li10, li12, li13, li14, li15, li19, li20, li31, li33, li40, li42, li44, li48, li57, li60, li99, li100, li126, li150, li176, li177, li187, li197, li207, li208, li223, li304, li608, li1520, li1824, nI_add, pk_mul, nI_clamp, nI_leI, nI_ltI, nI_eq, zn_inb, zn_gd, zn_bs, zn_isb, not_true_eq_false, not_false_eq_true, ↓reduceIte, pk_div, pk_sub, zn_rem20, zn_rem2, zn_m1, zn_eqw, zn_weq, zn_weq2, zn_wlt0, zn_wltn, zn_win, zn_wcl, zn_wadd, Nat.not_lt_zero, Nat.one_ne_zero, Nat.zero_ne_one, Nat.le_refl, Nat.zero_le, zn_sel_r, zn_sel_l, e1, e3]
theorem zd_ticks (hX : RX (ofs 1 M) S) (g : GX u S) {i : Nat} (hi : i < S 6 4) : fX8_tripTicks M (nI i) = some (.inr (nI (S 7 i))) := by
  have lo := g.lo.2.2.1
  have e1 := zd_rt hX lo hi
  have m1 : M 8 i = nI (S 7 i) := hX.r7 i (by omega)
  unfold fX8_tripTicks
  simp (disch := omega) only [li0, li1, li2, li3, li4, li5, li6, li7, li8, li9, li10, li12, li13, li14, li15, li19, li20, li31, li33, li40, li42, li44, li48, li57, li60, li99, li100, li126, li150, li176, li177, li187, li197, li207, li208, li223, li304, li608, li1520, li1824, nI_add, pk_mul, nI_clamp, nI_leI, nI_ltI, nI_eq, zn_inb, zn_gd, zn_bs, zn_isb, not_true_eq_false, not_false_eq_true, ↓reduceIte, pk_div, pk_sub, zn_rem20, zn_rem2, zn_m1, zn_eqw, zn_weq, zn_weq2, zn_wlt0, zn_wltn, zn_win, zn_wcl, zn_wadd, Nat.not_lt_zero, Nat.one_ne_zero, Nat.zero_ne_one, Nat.le_refl, Nat.zero_le, zn_sel_r, zn_sel_l, e1, m1]
theorem zd_was (hX : RX (ofs 1 M) S) (g : GX u S) {i : Nat} (hi : i < S 6 4) : fX8_wasFetch M (nI i) = some (.inr (nI (S 8 i))) := by
  have lo := g.lo.2.2.1
  have e1 := zd_rt hX lo hi
  have m1 : M 9 i = nI (S 8 i) := hX.r8 i (by omega)
  have m2 := zn_isb (g.lo.2.2.2 i (by omega))
  unfold fX8_wasFetch
  simp (disch := omega) only [li0, li1, li2, li3, li4, li5, li6, li7, li8, li9, li10, li12, li13, li14, li15, li19, li20, li31, li33, li40, li42, li44, li48, li57, li60, li99, li100, li126, li150, li176, li177, li187, li197, li207, li208, li223, li304, li608, li1520, li1824, nI_add, pk_mul, nI_clamp, nI_leI, nI_ltI, nI_eq, zn_inb, zn_gd, zn_bs, zn_isb, not_true_eq_false, not_false_eq_true, ↓reduceIte, pk_div, pk_sub, zn_rem20, zn_rem2, zn_m1, zn_eqw, zn_weq, zn_weq2, zn_wlt0, zn_wltn, zn_win, zn_wcl, zn_wadd, Nat.not_lt_zero, Nat.one_ne_zero, Nat.zero_ne_one, Nat.le_refl, Nat.zero_le, zn_sel_r, zn_sel_l, e1, m1, m2]
theorem zd_wanted (hX : RX (ofs 1 M) S) (h8 : S 14 0 ≤ 8) {r k : Nat} (hr : r < S 14 0) (hk : k < 10) : fX8_wanted M (nI r) (nI k) = some (.inr (nI (S 15 (r * 10 + k)))) := by
  have e1 := zd_ro hX h8 hr
  have e2 := zd_rk M hk
  have e3 : fX3_wantedOf (ofs 15 M) (nI r) (nI k) = some (nI (S 15 (r * 10 + k))) := zx_wantedOf hX (r := r) (by omega) hk
  unfold fX8_wanted
  simp (disch := omega) only [li0, li1, li2, li3, li4, li5, li6, li7, li8, li9, li10, li12, li13, li14, li15, li19, li20, li31, li33, li40, li42, li44, li48, li57, li60, li99, li100, li126, li150, li176, li177, li187, li197, li207, li208, li223, li304, li608, li1520, li1824, nI_add, pk_mul, nI_clamp, nI_leI, nI_ltI, nI_eq, zn_inb, zn_gd, zn_bs, zn_isb, not_true_eq_false, not_false_eq_true, ↓reduceIte, pk_div, pk_sub, zn_rem20, zn_rem2, zn_m1, zn_eqw, zn_weq, zn_weq2, zn_wlt0, zn_wltn, zn_win, zn_wcl, zn_wadd, Nat.not_lt_zero, Nat.one_ne_zero, Nat.zero_ne_one, Nat.le_refl, Nat.zero_le, zn_sel_r, zn_sel_l, e1, e2, e3]
/-! the class's digest -/
theorem RX.r41 {x : Nat → Int32} (h : RX (ofs 1 M) S) : RX (ofs 1 (sr M 41 x)) S := h.of rfl rfl rfl rfl rfl rfl rfl rfl rfl rfl rfl rfl rfl rfl rfl
end

