set_option maxHeartbeats 400000
/-! the digest: one step, and what is told, in the same words for both sides -/
def zd (h : Int64) (x : Int32) : Int64 := (31 : Int64) * h + x.toInt64
theorem zd_f (h : Int64) (x : Int32) : (31 : Int64) * h + x.toInt64 = zd h x := rfl
theorem zd_on (h : Int64) (x : Int32) : fX8_hashOn h (x.toInt64) = some (zd h x) := rfl
theorem zd_onb {h : Int64} {b : Nat} (hb : b < 2) : fX8_hashOn_ h (nI b) = some (zd h (nI b)) := by
  rcases (show b = 0 ∨ b = 1 by omega) with rfl | rfl <;> rfl
theorem zd_wI {w : Nat} (hw : w < 2 ^ 30) : (wI w).toInt64 + 1 = (nI w).toInt64 := by
  rcases Nat.eq_zero_or_pos w with rfl | h
  · decide
  · obtain ⟨k, rfl⟩ : ∃ k, w = k + 1 := ⟨w - 1, by omega⟩
    rw [wI_s, nI_l (by omega), nI_l (by omega)]
    exact lN_1 k
theorem zd_w1 {h : Int64} {w : Nat} (hw : w < 2 ^ 30) : zd h (wI w) + 1 = zd h (nI w) := by
  unfold zd
  rw [Int64.add_assoc, zd_wI hw]
def zd_fl (S : SM) (f : Nat) : Nat := if S 1 1 = f + 1 then 1 else 0
theorem zd_fl_lt (S : SM) (f : Nat) : zd_fl S f < 2 := by
  unfold zd_fl
  split <;> omega
def zd_th (S : SM) (f : Nat) (h : Int64) : Nat → Int64 := zs_it (fun k x => zd x (nI (S 5 (f * 10 + k)))) h
def zd_sf (S : SM) (f : Nat) (h : Int64) : Int64 := zd (zd (zd_th S f (zd (zd (zd (zd h (nI (S 2 f))) (nI (S 3 f / 20))) (nI (S 3 f % 20))) (nI (zd_fl S f))) 10) (nI (zs_wt S f))) (nI (S 4 f))
def zd_shs (S : SM) (h : Int64) : Nat → Int64 := zs_it (zd_sf S) (zd h (nI (S 1 0)))
def zd_tw1 (S : SM) (h : Int64) : Nat → Int64 := zs_it (fun p x => zd x (nI (zs_ho S p))) h
def zd_tw2 (S : SM) (h : Int64) : Nat → Int64 := zs_it (fun w x => zd x (nI (zs_fp (zs_tq S) (w + 1)))) h
def zd_tw (S : SM) (h : Int64) : Int64 := zd (zd (zd (zd (zd_tw2 S (zd (zd (zd_tw1 S h 40) (nI (zs_fm S 40))) (nI (zs_fm S 40))) 4) (nI (zs_gp (zs_tq S) 0 20).1)) (nI (zs_gp (zs_tq S) 1 20).1)) (nI (S 6 0))) (nI (S 6 1))
def zd_k1 (S : SM) (k : Nat) (h : Int64) : Int64 := zd (zd (zd (zd (zd (zd h (nI (S 10 k))) (nI (zs_stock S k))) (nI (S 12 k) - nI (S 13 k))) (nI (zs_having S k))) (nI (S 11 k))) (nI (zs_miss S k))
def zd_ks (S : SM) (h : Int64) : Int64 := zd (zd (zd (zs_it (zd_k1 S) h 10) (nI (zs_short S 10))) (nI (zs_heavy S 0 (S 1 0)))) (nI (zs_heavy S 1 (S 1 0)))
def zd_tr (S : SM) (h : Int64) : Nat → Int64 := zs_it (fun i x => zd (zd x (nI (S 7 i))) (nI (S 8 i))) (zd h (nI (S 6 4)))
def zd_wn (S : SM) (r : Nat) (h : Int64) : Nat → Int64 := zs_it (fun k x => zd x (nI (S 15 (r * 10 + k)))) h
noncomputable def zd_or (S : SM) (r : Nat) (h : Int64) : Int64 := bif zs_can S r then zd (zd (zd (zd (zd_wn S r h 10) (nI 1)) (nI (zs_bits (zs_set S r)))) (nI (zs_bits (zs_set S r)))) (nI (zs_set S r)) else zd (zd_wn S r h 10) (nI 0)
noncomputable def zd_ors (S : SM) (h : Int64) : Nat → Int64 := zs_it (zd_or S) (zd h (nI (S 14 0)))
/-! the class's calls within their ranges -/
section
variable {M : Mem} {S : SM} {u : Nat}
theorem zd_rs (hX : RX (ofs 1 M) S) (hc : S 1 0 ≤ 12) {f : Nat} (hf : f < S 1 0) : fX8_requireShelf M (nI f) = some (.inr ()) := by
  have e1 : M 2 0 = nI (S 1 0) := hX.c
  unfold fX8_requireShelf
  rw [if_neg (nI_pos (by omega)), e1, if_pos (nI_lt hf (by omega))]
theorem zd_ro (hX : RX (ofs 1 M) S) (hc : S 14 0 ≤ 8) {f : Nat} (hf : f < S 14 0) : fX8_requireOrder M (nI f) = some (.inr ()) := by
  have e1 : M 15 0 = nI (S 14 0) := hX.2.1.2.2.2.2.2.2
  unfold fX8_requireOrder
  rw [if_neg (nI_pos (by omega)), e1, if_pos (nI_lt hf (by omega))]
theorem zd_rk (M : Mem) {f : Nat} (hf : f < 10) : fX8_requireKind M (nI f) = some (.inr ()) := by
  unfold fX8_requireKind
  rw [if_neg (nI_pos (by omega)), show (10 : Int32) = nI 10 from rfl, if_pos (nI_lt hf (by omega))]
theorem zd_rd (M : Mem) {f : Nat} (hf : f < 2) : fX8_requireSide M (nI f) = some (.inr ()) := by
  unfold fX8_requireSide
  rw [if_neg (nI_pos (by omega)), show (2 : Int32) = nI 2 from rfl, if_pos (nI_lt hf (by omega))]
theorem zd_rt (hX : RX (ofs 1 M) S) (hc : S 6 4 ≤ 8) {f : Nat} (hf : f < S 6 4) : fX8_requireTrip M (nI f) = some (.inr ()) := by
  have e1 : M 7 4 = nI (S 6 4) := hX.2.1.2.2.2.2.1
  unfold fX8_requireTrip
  rw [if_neg (nI_pos (by omega)), e1, if_pos (nI_lt hf (by omega))]
theorem zd_height (hX : RX (ofs 1 M) S) (hc : S 1 0 ≤ 12) {f : Nat} (hf : f < S 1 0) : fX8_heightOf M (nI f) = some (.inr (nI (S 2 f))) := by
  have e1 := zd_rs hX hc hf
  have m1 : M 3 f = nI (S 2 f) := hX.r2 f (by omega)
  unfold fX8_heightOf
  simp (disch := omega) only [li0, li1, li2, li3, li4, li5, li6, li7, li8, li9, li10, li12, li13, li14, li15, li19, li20, li31, li33, li40, li42, li44, li48, li57, li60, li99, li100, li126, li150, li176, li177, li187, li197, li207, li208, li223, li304, li608, li1520, li1824, nI_add, pk_mul, nI_clamp, nI_leI, nI_ltI, nI_eq, zn_inb, zn_gd, zn_bs, zn_isb, not_true_eq_false, not_false_eq_true, ↓reduceIte, pk_div, pk_sub, zn_rem20, zn_rem2, zn_m1, zn_eqw, zn_weq, zn_weq2, zn_wlt0, zn_wltn, zn_win, zn_wcl, zn_wadd, Nat.not_lt_zero, Nat.one_ne_zero, Nat.zero_ne_one, Nat.le_refl, Nat.zero_le, zn_sel_r, zn_sel_l, e1, m1]
theorem zd_side (hX : RX (ofs 1 M) S) (g : GX u S) {f : Nat} (hf : f < S 1 0) : fX8_sideOf M (nI f) = some (.inr (nI (S 3 f / 20))) := by
  have hc := g.c12
  have e1 := zd_rs hX hc hf
  have b := g.1.2.2.1 f hf
  have m1 : M 4 f = nI (S 3 f) := hX.r3 f (by omega)
  unfold fX8_sideOf
  simp (disch := omega) only [li0, li1, li2, li3, li4, li5, li6, li7, li8, li9, li10, li12, li13, li14, li15, li19, li20, li31, li33, li40, li42, li44, li48, li57, li60, li99, li100, li126, li150, li176, li177, li187, li197, li207, li208, li223, li304, li608, li1520, li1824, nI_add, pk_mul, nI_clamp, nI_leI, nI_ltI, nI_eq, zn_inb, zn_gd, zn_bs, zn_isb, not_true_eq_false, not_false_eq_true, ↓reduceIte, pk_div, pk_sub, zn_rem20, zn_rem2, zn_m1, zn_eqw, zn_weq, zn_weq2, zn_wlt0, zn_wltn, zn_win, zn_wcl, zn_wadd, Nat.not_lt_zero, Nat.one_ne_zero, Nat.zero_ne_one, Nat.le_refl, Nat.zero_le, zn_sel_r, zn_sel_l, e1, m1]
theorem zd_slot (hX : RX (ofs 1 M) S) (g : GX u S) {f : Nat} (hf : f < S 1 0) : fX8_slotOf M (nI f) = some (.inr (nI (S 3 f % 20))) := by
  have hc := g.c12
  have e1 := zd_rs hX hc hf
  have b := g.1.2.2.1 f hf
  have m1 : M 4 f = nI (S 3 f) := hX.r3 f (by omega)
  unfold fX8_slotOf
  simp (disch := omega) only [li0, li1, li2, li3, li4, li5, li6, li7, li8, li9, li10, li12, li13, li14, li15, li19, li20, li31, li33, li40, li42, li44, li48, li57, li60, li99, li100, li126, li150, li176, li177, li187, li197, li207, li208, li223, li304, li608, li1520, li1824, nI_add, pk_mul, nI_clamp, nI_leI, nI_ltI, nI_eq, zn_inb, zn_gd, zn_bs, zn_isb, not_true_eq_false, not_false_eq_true, ↓reduceIte, pk_div, pk_sub, zn_rem20, zn_rem2, zn_m1, zn_eqw, zn_weq, zn_weq2, zn_wlt0, zn_wltn, zn_win, zn_wcl, zn_wadd, Nat.not_lt_zero, Nat.one_ne_zero, Nat.zero_ne_one, Nat.le_refl, Nat.zero_le, zn_sel_r, zn_sel_l, e1, m1]
theorem zd_win (hX : RX (ofs 1 M) S) (g : GX u S) {f : Nat} (hf : f < S 1 0) : fX8_isAtWindow M (nI f) = some (.inr (nI (zd_fl S f))) := by
  have hc := g.c12
  have hw := g.1.2.1
  have e1 := zd_rs hX hc hf
  have m1 : M 2 1 = wI (S 1 1) := hX.w
  unfold fX8_isAtWindow zd_fl
  by_cases c1 : S 1 1 = f + 1
  · simp (disch := omega) only [li0, li1, li2, li3, li4, li5, li6, li7, li8, li9, li10, li12, li13, li14, li15, li19, li20, li31, li33, li40, li42, li44, li48, li57, li60, li99, li100, li126, li150, li176, li177, li187, li197, li207, li208, li223, li304, li608, li1520, li1824, nI_add, pk_mul, nI_clamp, nI_leI, nI_ltI, nI_eq, zn_inb, zn_gd, zn_bs, zn_isb, not_true_eq_false, not_false_eq_true, ↓reduceIte, pk_div, pk_sub, zn_rem20, zn_rem2, zn_m1, zn_eqw, zn_weq, zn_weq2, zn_wlt0, zn_wltn, zn_win, zn_wcl, zn_wadd, Nat.not_lt_zero, Nat.one_ne_zero, Nat.zero_ne_one, Nat.le_refl, Nat.zero_le, zn_sel_r, zn_sel_l, e1, m1, eq_true c1, fX8_isAtWindow_B24]
  · simp (disch := omega) only [li0, li1, li2, li3, li4, li5, li6, li7, li8, li9, li10, li12, li13, li14, li15, li19, li20, li31, li33, li40, li42, li44, li48, li57, li60, li99, li100, li126, li150, li176, li177, li187, li197, li207, li208, li223, li304, li608, li1520, li1824, nI_add, pk_mul, nI_clamp, nI_leI, nI_ltI, nI_eq, zn_inb, zn_gd, zn_bs, zn_isb, not_true_eq_false, not_false_eq_true, ↓reduceIte, pk_div, pk_sub, zn_rem20, zn_rem2, zn_m1, zn_eqw, zn_weq, zn_weq2, zn_wlt0, zn_wltn, zn_win, zn_wcl, zn_wadd, Nat.not_lt_zero, Nat.one_ne_zero, Nat.zero_ne_one, Nat.le_refl, Nat.zero_le, zn_sel_r, zn_sel_l, e1, m1, c1, fX8_isAtWindow_B24]
theorem zd_things (hX : RX (ofs 1 M) S) (hc : S 1 0 ≤ 12) {f k : Nat} (hf : f < S 1 0) (hk : k < 10) : fX8_thingsIn M (nI f) (nI k) = some (.inr (nI (S 5 (f * 10 + k)))) := by
  have e1 := zd_rs hX hc hf
  have e2 := zd_rk M hk
  have e3 := zx_countIn (T := ofs 2 M) (S := S) hX.t (f := f) (by omega) hk
  unfold fX8_thingsIn
  simp (disch := omega) only [li0, li1, li2, li3, li4, li5, li6, li7, li8, li9, li10, li12, li13, li14, li15, li19, li20, li31, li33, li40, li42, li44, li48, li57, li60, li99, li100, li126, li150, li176, li177, li187, li197, li207, li208, li223, li304, li608, li1520, li1824, nI_add, pk_mul, nI_clamp, nI_leI, nI_ltI, nI_eq, zn_inb, zn_gd, zn_bs, zn_isb, not_true_eq_false, not_false_eq_true, ↓reduceIte, pk_div, pk_sub, zn_rem20, zn_rem2, zn_m1, zn_eqw, zn_weq, zn_weq2, zn_wlt0, zn_wltn, zn_win, zn_wcl, zn_wadd, Nat.not_lt_zero, Nat.one_ne_zero, Nat.zero_ne_one, Nat.le_refl, Nat.zero_le, zn_sel_r, zn_sel_l, e1, e2, e3]
theorem zd_weight (hX : RX (ofs 1 M) S) (hc : S 1 0 ≤ 12) {f : Nat} (hf : f < S 1 0) : fX8_weightOf M (nI f) = some (.inr (nI (zs_wt S f))) := by
  have e1 := zd_rs hX hc hf
  have e3 := zx_weighShelf hX (f := f) (by omega)
  unfold fX8_weightOf
  simp (disch := omega) only [li0, li1, li2, li3, li4, li5, li6, li7, li8, li9, li10, li12, li13, li14, li15, li19, li20, li31, li33, li40, li42, li44, li48, li57, li60, li99, li100, li126, li150, li176, li177, li187, li197, li207, li208, li223, li304, li608, li1520, li1824, nI_add, pk_mul, nI_clamp, nI_leI, nI_ltI, nI_eq, zn_inb, zn_gd, zn_bs, zn_isb, not_true_eq_false, not_false_eq_true, ↓reduceIte, pk_div, pk_sub, zn_rem20, zn_rem2, zn_m1, zn_eqw, zn_weq, zn_weq2, zn_wlt0, zn_wltn, zn_win, zn_wcl, zn_wadd, Nat.not_lt_zero, Nat.one_ne_zero, Nat.zero_ne_one, Nat.le_refl, Nat.zero_le, zn_sel_r, zn_sel_l, e1, e3]
theorem zd_fetches (hX : RX (ofs 1 M) S) (hc : S 1 0 ≤ 12) {f : Nat} (hf : f < S 1 0) : fX8_fetchesOf M (nI f) = some (.inr (nI (S 4 f))) := by
  have e1 := zd_rs hX hc hf
  have m1 : M 5 f = nI (S 4 f) := hX.r4 f (by omega)
  unfold fX8_fetchesOf
  simp (disch := omega) only [li0, li1, li2, li3, li4, li5, li6, li7, li8, li9, li10, li12, li13, li14, li15, li19, li20, li31, li33, li40, li42, li44, li48, li57, li60, li99, li100, li126, li150, li176, li177, li187, li197, li207, li208, li223, li304, li608, li1520, li1824, nI_add, pk_mul, nI_clamp, nI_leI, nI_ltI, nI_eq, zn_inb, zn_gd, zn_bs, zn_isb, not_true_eq_false, not_false_eq_true, ↓reduceIte, pk_div, pk_sub, zn_rem20, zn_rem2, zn_m1, zn_eqw, zn_weq, zn_weq2, zn_wlt0, zn_wltn, zn_win, zn_wcl, zn_wadd, Nat.not_lt_zero, Nat.one_ne_zero, Nat.zero_ne_one, Nat.le_refl, Nat.zero_le, zn_sel_r, zn_sel_l, e1, m1]
theorem zd_gap (hX : RX (ofs 1 M) S) (g : GX u S) {s : Nat} (hs : s < 2) : fX8_longestGap M (nI s) = some (.inr (nI (zs_gp (zs_tq S) s 20).1)) := by
  have e1 := zd_rd M hs
  have e3 := zx_longestFree (T := ofs 2 M) (S := S) hX.t g.1 hs
  unfold fX8_longestGap
  simp (disch := omega) only [li0, li1, li2, li3, li4, li5, li6, li7, li8, li9, li10, li12, li13, li14, li15, li19, li20, li31, li33, li40, li42, li44, li48, li57, li60, li99, li100, li126, li150, li176, li177, li187, li197, li207, li208, li223, li304, li608, li1520, li1824, nI_add, pk_mul, nI_clamp, nI_leI, nI_ltI, nI_eq, zn_inb, zn_gd, zn_bs, zn_isb, not_true_eq_false, not_false_eq_true, ↓reduceIte, pk_div, pk_sub, zn_rem20, zn_rem2, zn_m1, zn_eqw, zn_weq, zn_weq2, zn_wlt0, zn_wltn, zn_win, zn_wcl, zn_wadd, Nat.not_lt_zero, Nat.one_ne_zero, Nat.zero_ne_one, Nat.le_refl, Nat.zero_le, zn_sel_r, zn_sel_l, e1, e3]
theorem zd_slots (hX : RX (ofs 1 M) S) (g : GX u S) : fX8_freeBySlots M = some (nI (zs_fm S 40)) := by
  have hT : RT (ofs 2 M) S := hX.t
  unfold fX8_freeBySlots
  simp (disch := omega) only [li0, li1, li2, li3, li4, li5, li6, li7, li8, li9, li10, li12, li13, li14, li15, li19, li20, li31, li33, li40, li42, li44, li48, li57, li60, li99, li100, li126, li150, li176, li177, li187, li197, li207, li208, li223, li304, li608, li1520, li1824, nI_add, pk_mul, nI_clamp, nI_leI, nI_ltI, nI_eq, zn_inb, zn_gd, zn_bs, zn_isb, not_true_eq_false, not_false_eq_true, ↓reduceIte, pk_div, pk_sub, zn_rem20, zn_rem2, zn_m1, zn_eqw, zn_weq, zn_weq2, zn_wlt0, zn_wltn, zn_win, zn_wcl, zn_wadd, Nat.not_lt_zero, Nat.one_ne_zero, Nat.zero_ne_one, Nat.le_refl, Nat.zero_le, zn_sel_r, zn_sel_l, zx_countFree hT g.1 (side := 0) (by omega), zx_countFree hT g.1 (side := 1) (by omega), zs_free_sides S]
theorem zd_heights (hX : RX (ofs 1 M) S) (g : GX u S) : fX8_freeByHeights M = some (nI (zs_fm S 40)) := by
  have hT : RT (ofs 2 M) S := hX.t
  have hfh0 := zs_free_heights g.1
  have hfh : 40 - zs_hs S (S 1 0) = zs_fm S 40 := by omega
  unfold fX8_freeByHeights
  simp (disch := omega) only [li0, li1, li2, li3, li4, li5, li6, li7, li8, li9, li10, li12, li13, li14, li15, li19, li20, li31, li33, li40, li42, li44, li48, li57, li60, li99, li100, li126, li150, li176, li177, li187, li197, li207, li208, li223, li304, li608, li1520, li1824, nI_add, pk_mul, nI_clamp, nI_leI, nI_ltI, nI_eq, zn_inb, zn_gd, zn_bs, zn_isb, not_true_eq_false, not_false_eq_true, ↓reduceIte, pk_div, pk_sub, zn_rem20, zn_rem2, zn_m1, zn_eqw, zn_weq, zn_weq2, zn_wlt0, zn_wltn, zn_win, zn_wcl, zn_wadd, Nat.not_lt_zero, Nat.one_ne_zero, Nat.zero_ne_one, Nat.le_refl, Nat.zero_le, zn_sel_r, zn_sel_l, zx_sumOfHeights hT g.1, hfh]
theorem zd_wk (hX : RX (ofs 1 M) S) {k : Nat} (hk : k < 10) : fX8_weightOfKind M (nI k) = some (.inr (nI (S 10 k))) := by
  have e1 := zd_rk M hk
  have m1 : M 11 k = nI (S 10 k) := hX.r10 k hk
  unfold fX8_weightOfKind
  simp (disch := omega) only [li0, li1, li2, li3, li4, li5, li6, li7, li8, li9, li10, li12, li13, li14, li15, li19, li20, li31, li33, li40, li42, li44, li48, li57, li60, li99, li100, li126, li150, li176, li177, li187, li197, li207, li208, li223, li304, li608, li1520, li1824, nI_add, pk_mul, nI_clamp, nI_leI, nI_ltI, nI_eq, zn_inb, zn_gd, zn_bs, zn_isb, not_true_eq_false, not_false_eq_true, ↓reduceIte, pk_div, pk_sub, zn_rem20, zn_rem2, zn_m1, zn_eqw, zn_weq, zn_weq2, zn_wlt0, zn_wltn, zn_win, zn_wcl, zn_wadd, Nat.not_lt_zero, Nat.one_ne_zero, Nat.zero_ne_one, Nat.le_refl, Nat.zero_le, zn_sel_r, zn_sel_l, e1, m1]
theorem zd_stock (hX : RX (ofs 1 M) S) (hc : S 1 0 ≤ 12) {k : Nat} (hk : k < 10) : fX8_stockByShelves M (nI k) = some (.inr (nI (zs_stock S k))) := by
  have e1 := zd_rk M hk
  have e3 := zx_stockOf (T := ofs 2 M) (S := S) hX.t hc hk
  unfold fX8_stockByShelves
  simp (disch := omega) only [li0, li1, li2, li3, li4, li5, li6, li7, li8, li9, li10, li12, li13, li14, li15, li19, li20, li31, li33, li40, li42, li44, li48, li57, li60, li99, li100, li126, li150, li176, li177, li187, li197, li207, li208, li223, li304, li608, li1520, li1824, nI_add, pk_mul, nI_clamp, nI_leI, nI_ltI, nI_eq, zn_inb, zn_gd, zn_bs, zn_isb, not_true_eq_false, not_false_eq_true, ↓reduceIte, pk_div, pk_sub, zn_rem20, zn_rem2, zn_m1, zn_eqw, zn_weq, zn_weq2, zn_wlt0, zn_wltn, zn_win, zn_wcl, zn_wadd, Nat.not_lt_zero, Nat.one_ne_zero, Nat.zero_ne_one, Nat.le_refl, Nat.zero_le, zn_sel_r, zn_sel_l, e1, e3]
theorem zd_acc (hX : RX (ofs 1 M) S) {k : Nat} (hk : k < 10) : fX8_stockByAccount M (nI k) = some (.inr (nI (S 12 k) - nI (S 13 k))) := by
  have e1 := zd_rk M hk
  unfold fX8_stockByAccount
  simp (disch := omega) only [li0, li1, li2, li3, li4, li5, li6, li7, li8, li9, li10, li12, li13, li14, li15, li19, li20, li31, li33, li40, li42, li44, li48, li57, li60, li99, li100, li126, li150, li176, li177, li187, li197, li207, li208, li223, li304, li608, li1520, li1824, nI_add, pk_mul, nI_clamp, nI_leI, nI_ltI, nI_eq, zn_inb, zn_gd, zn_bs, zn_isb, not_true_eq_false, not_false_eq_true, ↓reduceIte, pk_div, pk_sub, zn_rem20, zn_rem2, zn_m1, zn_eqw, zn_weq, zn_weq2, zn_wlt0, zn_wltn, zn_win, zn_wcl, zn_wadd, Nat.not_lt_zero, Nat.one_ne_zero, Nat.zero_ne_one, Nat.le_refl, Nat.zero_le, zn_sel_r, zn_sel_l, e1, show M 13 k = _ from hX.r12 k hk, show M 14 k = _ from hX.r13 k hk]
theorem zd_having (hX : RX (ofs 1 M) S) (g : GX u S) {k : Nat} (hk : k < 10) : fX8_shelvesWith M (nI k) = some (.inr (nI (zs_having S k))) := by
  have e1 := zd_rk M hk
  have e3 := zx_countHolding (T := ofs 2 M) (S := S) hX.t g.1 hk
  unfold fX8_shelvesWith
  simp (disch := omega) only [li0, li1, li2, li3, li4, li5, li6, li7, li8, li9, li10, li12, li13, li14, li15, li19, li20, li31, li33, li40, li42, li44, li48, li57, li60, li99, li100, li126, li150, li176, li177, li187, li197, li207, li208, li223, li304, li608, li1520, li1824, nI_add, pk_mul, nI_clamp, nI_leI, nI_ltI, nI_eq, zn_inb, zn_gd, zn_bs, zn_isb, not_true_eq_false, not_false_eq_true, ↓reduceIte, pk_div, pk_sub, zn_rem20, zn_rem2, zn_m1, zn_eqw, zn_weq, zn_weq2, zn_wlt0, zn_wltn, zn_win, zn_wcl, zn_wadd, Nat.not_lt_zero, Nat.one_ne_zero, Nat.zero_ne_one, Nat.le_refl, Nat.zero_le, zn_sel_r, zn_sel_l, e1, e3]
theorem zd_least (hX : RX (ofs 1 M) S) {k : Nat} (hk : k < 10) : fX8_leastOf M (nI k) = some (.inr (nI (S 11 k))) := by
  have e1 := zd_rk M hk
  have m1 : M 12 k = nI (S 11 k) := hX.r11 k hk
  unfold fX8_leastOf
  simp (disch := omega) only [li0, li1, li2, li3, li4, li5, li6, li7, li8, li9, li10, li12, li13, li14, li15, li19, li20, li31, li33, li40, li42, li44, li48, li57, li60, li99, li100, li126, li150, li176, li177, li187, li197, li207, li208, li223, li304, li608, li1520, li1824, nI_add, pk_mul, nI_clamp, nI_leI, nI_ltI, nI_eq, zn_inb, zn_gd, zn_bs, zn_isb, not_true_eq_false, not_false_eq_true, ↓reduceIte, pk_div, pk_sub, zn_rem20, zn_rem2, zn_m1, zn_eqw, zn_weq, zn_weq2, zn_wlt0, zn_wltn, zn_win, zn_wcl, zn_wadd, Nat.not_lt_zero, Nat.one_ne_zero, Nat.zero_ne_one, Nat.le_refl, Nat.zero_le, zn_sel_r, zn_sel_l, e1, m1]
theorem zd_miss (hX : RX (ofs 1 M) S) (g : GX u S) {k : Nat} (hk : k < 10) : fX8_missingOf M (nI k) = some (.inr (nI (zs_miss S k))) := by
  have e1 := zd_rk M hk
  have e3 := zx_missing hX g hk
  unfold fX8_missingOf
  simp (disch := omega) only [li0, li1, li2, li3, li4, li5, li6, li7, li8, li9, li10, li12, li13, li14, li15, li19, li20, li31, li33, li40, li42, li44, li48, li57, li60, li99, li100, li126, li150, li176, li177, li187, li197, li207, li208, li223, li304, li608, li1520, li1824, nI_add, pk_mul, nI_clamp, nI_leI, nI_ltI, nI_eq, zn_inb, zn_gd, zn_bs, zn_isb, not_true_eq_false, not_false_eq_true, ↓reduceIte, pk_div, pk_sub, zn_rem20, zn_rem2, zn_m1, zn_eqw, zn_weq, zn_weq2, zn_wlt0, zn_wltn, zn_win, zn_wcl, zn_wadd, Nat.not_lt_zero, Nat.one_ne_zero, Nat.zero_ne_one, Nat.le_refl, Nat.zero_le, zn_sel_r, zn_sel_l, e1, e3]
theorem zd_heavy (hX : RX (ofs 1 M) S) (g : GX u S) {s : Nat} (hs : s < 2) : fX8_sideWeight M (nI s) = some (.inr (nI (zs_heavy S s (S 1 0)))) := by
  have e1 := zd_rd M hs
  have e3 := zx_weighSide hX g hs
  unfold fX8_sideWeight
  simp (disch := omega) only [li0, li1, li2, li3, li4, li5, li6, li7, li8, li9, li10, li12, li13, li14, li15, li19, li20, li31, li33, li40, li42, li44, li48, li57, li60, li99, li100, li126, li150, li176, li177, li187, li197, li207, li208, li223, li304, li608, li1520, li1824, nI_add, pk_mul, nI_clamp, nI_leI, nI_ltI, nI_eq, zn_inb, zn_gd, zn_bs, zn_isb, not_true_eq_false, not_false_eq_true, ↓reduceIte, pk_div, pk_sub, zn_rem20, zn_rem2, zn_m1, zn_eqw, zn_weq, zn_weq2, zn_wlt0, zn_wltn, zn_win, zn_wcl, zn_wadd, Nat.not_lt_zero, Nat.one_ne_zero, Nat.zero_ne_one, Nat.le_refl, Nat.zero_le, zn_sel_r, zn_sel_l, e1, e3]
theorem zd_ticks (hX : RX (ofs 1 M) S) (g : GX u S) {i : Nat} (hi : i < S 6 4) : fX8_tripTicks M (nI i) = some (.inr (nI (S 7 i))) := by
  have lo := g.lo.2.2.1
  have e1 := zd_rt hX lo hi
  have m1 : M 8 i = nI (S 7 i) := hX.r7 i (by omega)
  unfold fX8_tripTicks
  simp (disch := omega) only [li0, li1, li2, li3, li4, li5, li6, li7, li8, li9, li10, li12, li13, li14, li15, li19, li20, li31, li33, li40, li42, li44, li48, li57, li60, li99, li100, li126, li150, li176, li177, li187, li197, li207, li208, li223, li304, li608, li1520, li1824, nI_add, pk_mul, nI_clamp, nI_leI, nI_ltI, nI_eq, zn_inb, zn_gd, zn_bs, zn_isb, not_true_eq_false, not_false_eq_true, ↓reduceIte, pk_div, pk_sub, zn_rem20, zn_rem2, zn_m1, zn_eqw, zn_weq, zn_weq2, zn_wlt0, zn_wltn, zn_win, zn_wcl, zn_wadd, Nat.not_lt_zero, Nat.one_ne_zero, Nat.zero_ne_one, Nat.le_refl, Nat.zero_le, zn_sel_r, zn_sel_l, e1, m1]
theorem zd_was (hX : RX (ofs 1 M) S) (g : GX u S) {i : Nat} (hi : i < S 6 4) : fX8_wasFetch M (nI i) = some (.inr (nI (S 8 i))) := by
  have lo := g.lo.2.2.1
  have e1 := zd_rt hX lo hi
  have m1 : M 9 i = nI (S 8 i) := hX.r8 i (by omega)
  have m2 := zn_isb (g.lo.2.2.2 i (by omega))
  unfold fX8_wasFetch
  simp (disch := omega) only [li0, li1, li2, li3, li4, li5, li6, li7, li8, li9, li10, li12, li13, li14, li15, li19, li20, li31, li33, li40, li42, li44, li48, li57, li60, li99, li100, li126, li150, li176, li177, li187, li197, li207, li208, li223, li304, li608, li1520, li1824, nI_add, pk_mul, nI_clamp, nI_leI, nI_ltI, nI_eq, zn_inb, zn_gd, zn_bs, zn_isb, not_true_eq_false, not_false_eq_true, ↓reduceIte, pk_div, pk_sub, zn_rem20, zn_rem2, zn_m1, zn_eqw, zn_weq, zn_weq2, zn_wlt0, zn_wltn, zn_win, zn_wcl, zn_wadd, Nat.not_lt_zero, Nat.one_ne_zero, Nat.zero_ne_one, Nat.le_refl, Nat.zero_le, zn_sel_r, zn_sel_l, e1, m1, m2]
theorem zd_wanted (hX : RX (ofs 1 M) S) (h8 : S 14 0 ≤ 8) {r k : Nat} (hr : r < S 14 0) (hk : k < 10) : fX8_wanted M (nI r) (nI k) = some (.inr (nI (S 15 (r * 10 + k)))) := by
  have e1 := zd_ro hX h8 hr
  have e2 := zd_rk M hk
  have e3 : fX3_wantedOf (ofs 15 M) (nI r) (nI k) = some (nI (S 15 (r * 10 + k))) := zx_wantedOf hX (r := r) (by omega) hk
  unfold fX8_wanted
  simp (disch := omega) only [li0, li1, li2, li3, li4, li5, li6, li7, li8, li9, li10, li12, li13, li14, li15, li19, li20, li31, li33, li40, li42, li44, li48, li57, li60, li99, li100, li126, li150, li176, li177, li187, li197, li207, li208, li223, li304, li608, li1520, li1824, nI_add, pk_mul, nI_clamp, nI_leI, nI_ltI, nI_eq, zn_inb, zn_gd, zn_bs, zn_isb, not_true_eq_false, not_false_eq_true, ↓reduceIte, pk_div, pk_sub, zn_rem20, zn_rem2, zn_m1, zn_eqw, zn_weq, zn_weq2, zn_wlt0, zn_wltn, zn_win, zn_wcl, zn_wadd, Nat.not_lt_zero, Nat.one_ne_zero, Nat.zero_ne_one, Nat.le_refl, Nat.zero_le, zn_sel_r, zn_sel_l, e1, e2, e3]
/-! the class's digest -/
theorem zx_hashShelves_L78 (hX : RX (ofs 1 M) S) (hc : S 1 0 ≤ 12) {f : Nat} (hf : f < S 1 0) (h : Int64) (kx : Int64 → Int32 → Option Int64) : ∀ d k n, k + d = 10 → d < n → fX8_hashShelves_L78 M n kx (zd_th S f h k) (nI f) (nI k) = kx (zd_th S f h 10) (nI f) := by
  intro d
  induction d with
  | zero =>
    intro k n hk_ hn
    obtain ⟨m, rfl⟩ : ∃ m, n = m + 1 := ⟨n - 1, by omega⟩
    have c : 10 ≤ k := by omega
    have ef : k = 10 := by omega
    rw [fX8_hashShelves_L78]
    simp (disch := omega) only [li0, li1, li2, li3, li4, li5, li6, li7, li8, li9, li10, li12, li13, li14, li15, li19, li20, li31, li33, li40, li42, li44, li48, li57, li60, li99, li100, li126, li150, li176, li177, li187, li197, li207, li208, li223, li304, li608, li1520, li1824, nI_add, pk_mul, nI_clamp, nI_leI, nI_ltI, nI_eq, zn_inb, zn_gd, zn_bs, zn_isb, not_true_eq_false, not_false_eq_true, ↓reduceIte, pk_div, pk_sub, zn_rem20, zn_rem2, zn_m1, zn_eqw, zn_weq, zn_weq2, zn_wlt0, zn_wltn, zn_win, zn_wcl, zn_wadd, Nat.not_lt_zero, Nat.one_ne_zero, Nat.zero_ne_one, Nat.le_refl, Nat.zero_le, zn_sel_r, zn_sel_l, c]
    try rw [ef]
    try rfl
  | succ d ih =>
    intro k n hk_ hn
    obtain ⟨m, rfl⟩ : ∃ m, n = m + 1 := ⟨n - 1, by omega⟩
    have c : ¬ 10 ≤ k := by omega
    have ih1 := ih (k + 1) m (by omega) (by omega)
    have e := zd_things hX hc hf (k := k) (by omega)
    rw [fX8_hashShelves_L78]
    simp (disch := omega) only [li0, li1, li2, li3, li4, li5, li6, li7, li8, li9, li10, li12, li13, li14, li15, li19, li20, li31, li33, li40, li42, li44, li48, li57, li60, li99, li100, li126, li150, li176, li177, li187, li197, li207, li208, li223, li304, li608, li1520, li1824, nI_add, pk_mul, nI_clamp, nI_leI, nI_ltI, nI_eq, zn_inb, zn_gd, zn_bs, zn_isb, not_true_eq_false, not_false_eq_true, ↓reduceIte, pk_div, pk_sub, zn_rem20, zn_rem2, zn_m1, zn_eqw, zn_weq, zn_weq2, zn_wlt0, zn_wltn, zn_win, zn_wcl, zn_wadd, Nat.not_lt_zero, Nat.one_ne_zero, Nat.zero_ne_one, Nat.le_refl, Nat.zero_le, zn_sel_r, zn_sel_l, c, e, zd_on]
    exact ih1
theorem zx_hashShelves_L13 (hX : RX (ofs 1 M) S) (g : GX u S) (h : Int64) (kx : Int64 → Option Int64) : ∀ d f n, f + d = S 1 0 → d < n → fX8_hashShelves_L13 M n kx (zd_shs S h f) (nI f) = kx (zd_shs S h (S 1 0)) := by
  have hc := g.c12
  have m0 : M 2 0 = nI (S 1 0) := hX.c
  intro d
  induction d with
  | zero =>
    intro f n hf_ hn
    obtain ⟨m, rfl⟩ : ∃ m, n = m + 1 := ⟨n - 1, by omega⟩
    have c : S 1 0 ≤ f := by omega
    have ef : f = S 1 0 := by omega
    rw [fX8_hashShelves_L13]
    simp (disch := omega) only [li0, li1, li2, li3, li4, li5, li6, li7, li8, li9, li10, li12, li13, li14, li15, li19, li20, li31, li33, li40, li42, li44, li48, li57, li60, li99, li100, li126, li150, li176, li177, li187, li197, li207, li208, li223, li304, li608, li1520, li1824, nI_add, pk_mul, nI_clamp, nI_leI, nI_ltI, nI_eq, zn_inb, zn_gd, zn_bs, zn_isb, not_true_eq_false, not_false_eq_true, ↓reduceIte, pk_div, pk_sub, zn_rem20, zn_rem2, zn_m1, zn_eqw, zn_weq, zn_weq2, zn_wlt0, zn_wltn, zn_win, zn_wcl, zn_wadd, Nat.not_lt_zero, Nat.one_ne_zero, Nat.zero_ne_one, Nat.le_refl, Nat.zero_le, zn_sel_r, zn_sel_l, m0, c]
    try rw [ef]
    try rfl
  | succ d ih =>
    intro f n hf_ hn
    obtain ⟨m, rfl⟩ : ∃ m, n = m + 1 := ⟨n - 1, by omega⟩
    have c : ¬ S 1 0 ≤ f := by omega
    have ih1 := ih (f + 1) m (by omega) (by omega)
    have hf : f < S 1 0 := by omega
    have b := zd_fl_lt S f
    rw [fX8_hashShelves_L13]
    simp (disch := omega) only [li0, li1, li2, li3, li4, li5, li6, li7, li8, li9, li10, li12, li13, li14, li15, li19, li20, li31, li33, li40, li42, li44, li48, li57, li60, li99, li100, li126, li150, li176, li177, li187, li197, li207, li208, li223, li304, li608, li1520, li1824, nI_add, pk_mul, nI_clamp, nI_leI, nI_ltI, nI_eq, zn_inb, zn_gd, zn_bs, zn_isb, not_true_eq_false, not_false_eq_true, ↓reduceIte, pk_div, pk_sub, zn_rem20, zn_rem2, zn_m1, zn_eqw, zn_weq, zn_weq2, zn_wlt0, zn_wltn, zn_win, zn_wcl, zn_wadd, Nat.not_lt_zero, Nat.one_ne_zero, Nat.zero_ne_one, Nat.le_refl, Nat.zero_le, zn_sel_r, zn_sel_l, m0, c, zd_height hX hc hf, zd_side hX g hf, zd_slot hX g hf, zd_win hX g hf, zd_on, zd_onb b]
    refine (zx_hashShelves_L78 hX hc hf (zd (zd (zd (zd (zd_shs S h f) (nI (S 2 f))) (nI (S 3 f / 20))) (nI (S 3 f % 20))) (nI (zd_fl S f))) _ 10 0 5000 (by omega) (by omega)).trans ?_
    simp (disch := omega) only [li0, li1, li2, li3, li4, li5, li6, li7, li8, li9, li10, li12, li13, li14, li15, li19, li20, li31, li33, li40, li42, li44, li48, li57, li60, li99, li100, li126, li150, li176, li177, li187, li197, li207, li208, li223, li304, li608, li1520, li1824, nI_add, pk_mul, nI_clamp, nI_leI, nI_ltI, nI_eq, zn_inb, zn_gd, zn_bs, zn_isb, not_true_eq_false, not_false_eq_true, ↓reduceIte, pk_div, pk_sub, zn_rem20, zn_rem2, zn_m1, zn_eqw, zn_weq, zn_weq2, zn_wlt0, zn_wltn, zn_win, zn_wcl, zn_wadd, Nat.not_lt_zero, Nat.one_ne_zero, Nat.zero_ne_one, Nat.le_refl, Nat.zero_le, zn_sel_r, zn_sel_l, zd_weight hX hc hf, zd_fetches hX hc hf, zd_on]
    exact ih1
theorem zx_hashShelves (hX : RX (ofs 1 M) S) (g : GX u S) (h : Int64) : fX8_hashShelves M h = some (zd_shs S h (S 1 0)) := by
  have hc := g.c12
  have e : fX8_shelves M = some (nI (S 1 0)) := congrArg some hX.c
  unfold fX8_hashShelves
  rw [e, zn_bs, zd_on, zn_bs]
  exact zx_hashShelves_L13 hX g h (fun (l3 : Int64) => some l3) (S 1 0) 0 5000 (by omega) (by omega)
theorem zx_hashSlots_L5 (hX : RX (ofs 1 M) S) (g : GX u S) (h : Int64) (kx : Int64 → Option Int64) : ∀ d p n, p + d = 40 → d < n → fX8_hashSlots_L5 M n kx (zd_tw1 S h p) (nI p) = kx (zd_tw1 S h 40) := by
  intro d
  induction d with
  | zero =>
    intro p n hp_ hn
    obtain ⟨m, rfl⟩ : ∃ m, n = m + 1 := ⟨n - 1, by omega⟩
    have c : 40 ≤ p := by omega
    have ef : p = 40 := by omega
    rw [fX8_hashSlots_L5]
    simp (disch := omega) only [li0, li1, li2, li3, li4, li5, li6, li7, li8, li9, li10, li12, li13, li14, li15, li19, li20, li31, li33, li40, li42, li44, li48, li57, li60, li99, li100, li126, li150, li176, li177, li187, li197, li207, li208, li223, li304, li608, li1520, li1824, nI_add, pk_mul, nI_clamp, nI_leI, nI_ltI, nI_eq, zn_inb, zn_gd, zn_bs, zn_isb, not_true_eq_false, not_false_eq_true, ↓reduceIte, pk_div, pk_sub, zn_rem20, zn_rem2, zn_m1, zn_eqw, zn_weq, zn_weq2, zn_wlt0, zn_wltn, zn_win, zn_wcl, zn_wadd, Nat.not_lt_zero, Nat.one_ne_zero, Nat.zero_ne_one, Nat.le_refl, Nat.zero_le, zn_sel_r, zn_sel_l, c]
    try rw [ef]
    try rfl
  | succ d ih =>
    intro p n hp_ hn
    obtain ⟨m, rfl⟩ : ∃ m, n = m + 1 := ⟨n - 1, by omega⟩
    have c : ¬ 40 ≤ p := by omega
    have ih1 := ih (p + 1) m (by omega) (by omega)
    have e := zx_holderOf (T := ofs 2 M) (S := S) hX.t g.1 (p := p) (by omega)
    rw [fX8_hashSlots_L5]
    simp (disch := omega) only [li0, li1, li2, li3, li4, li5, li6, li7, li8, li9, li10, li12, li13, li14, li15, li19, li20, li31, li33, li40, li42, li44, li48, li57, li60, li99, li100, li126, li150, li176, li177, li187, li197, li207, li208, li223, li304, li608, li1520, li1824, nI_add, pk_mul, nI_clamp, nI_leI, nI_ltI, nI_eq, zn_inb, zn_gd, zn_bs, zn_isb, not_true_eq_false, not_false_eq_true, ↓reduceIte, pk_div, pk_sub, zn_rem20, zn_rem2, zn_m1, zn_eqw, zn_weq, zn_weq2, zn_wlt0, zn_wltn, zn_win, zn_wcl, zn_wadd, Nat.not_lt_zero, Nat.one_ne_zero, Nat.zero_ne_one, Nat.le_refl, Nat.zero_le, zn_sel_r, zn_sel_l, c, e, zd_on]
    exact ih1
theorem zx_hashSlots_L61 (hX : RX (ofs 1 M) S) (g : GX u S) (h : Int64) (kx : Int64 → Option Int64) : ∀ d w n, w + d = 4 → d < n → fX8_hashSlots_L61 M n kx (zd_tw2 S h w) (nI (w + 1)) = kx (zd_tw2 S h 4) := by
  intro d
  induction d with
  | zero =>
    intro w n hw hn
    obtain ⟨m, rfl⟩ : ∃ m, n = m + 1 := ⟨n - 1, by omega⟩
    have c : 4 < w + 1 := by omega
    rw [fX8_hashSlots_L61]
    simp (disch := omega) only [li0, li1, li2, li3, li4, li5, li6, li7, li8, li9, li10, li12, li13, li14, li15, li19, li20, li31, li33, li40, li42, li44, li48, li57, li60, li99, li100, li126, li150, li176, li177, li187, li197, li207, li208, li223, li304, li608, li1520, li1824, nI_add, pk_mul, nI_clamp, nI_leI, nI_ltI, nI_eq, zn_inb, zn_gd, zn_bs, zn_isb, not_true_eq_false, not_false_eq_true, ↓reduceIte, pk_div, pk_sub, zn_rem20, zn_rem2, zn_m1, zn_eqw, zn_weq, zn_weq2, zn_wlt0, zn_wltn, zn_win, zn_wcl, zn_wadd, Nat.not_lt_zero, Nat.one_ne_zero, Nat.zero_ne_one, Nat.le_refl, Nat.zero_le, zn_sel_r, zn_sel_l, c]
    rw [show w = 4 by omega]
  | succ d ih =>
    intro w n hw hn
    obtain ⟨m, rfl⟩ : ∃ m, n = m + 1 := ⟨n - 1, by omega⟩
    have c : ¬ 4 < w + 1 := by omega
    have e := zx_firstFree (T := ofs 2 M) (S := S) hX.t g.1 (w := w + 1) (by omega)
    rw [fX8_hashSlots_L61]
    simp (disch := omega) only [li0, li1, li2, li3, li4, li5, li6, li7, li8, li9, li10, li12, li13, li14, li15, li19, li20, li31, li33, li40, li42, li44, li48, li57, li60, li99, li100, li126, li150, li176, li177, li187, li197, li207, li208, li223, li304, li608, li1520, li1824, nI_add, pk_mul, nI_clamp, nI_leI, nI_ltI, nI_eq, zn_inb, zn_gd, zn_bs, zn_isb, not_true_eq_false, not_false_eq_true, ↓reduceIte, pk_div, pk_sub, zn_rem20, zn_rem2, zn_m1, zn_eqw, zn_weq, zn_weq2, zn_wlt0, zn_wltn, zn_win, zn_wcl, zn_wadd, Nat.not_lt_zero, Nat.one_ne_zero, Nat.zero_ne_one, Nat.le_refl, Nat.zero_le, zn_sel_r, zn_sel_l, c, e, zd_on]
    exact ih (w + 1) m (by omega) (by omega)
theorem zx_hashSlots (hX : RX (ofs 1 M) S) (g : GX u S) (h : Int64) : fX8_hashSlots M h = some (zd_tw S h) := by
  have m0 : fX8_lift M = some (nI (S 6 0)) := congrArg some hX.2.1.1
  have m1 : M 7 1 = nI (S 6 1) := hX.2.1.2.1
  have m2 := zn_isb g.lo.2.1
  have e1 : fX8_isKeptPlace M = some (nI (S 6 1)) := by
    unfold fX8_isKeptPlace
    rw [m1, m2, zn_gd]
  unfold fX8_hashSlots
  refine (zx_hashSlots_L5 hX g h _ 40 0 5000 (by omega) (by omega)).trans ?_
  simp (disch := omega) only [li0, li1, li2, li3, li4, li5, li6, li7, li8, li9, li10, li12, li13, li14, li15, li19, li20, li31, li33, li40, li42, li44, li48, li57, li60, li99, li100, li126, li150, li176, li177, li187, li197, li207, li208, li223, li304, li608, li1520, li1824, nI_add, pk_mul, nI_clamp, nI_leI, nI_ltI, nI_eq, zn_inb, zn_gd, zn_bs, zn_isb, not_true_eq_false, not_false_eq_true, ↓reduceIte, pk_div, pk_sub, zn_rem20, zn_rem2, zn_m1, zn_eqw, zn_weq, zn_weq2, zn_wlt0, zn_wltn, zn_win, zn_wcl, zn_wadd, Nat.not_lt_zero, Nat.one_ne_zero, Nat.zero_ne_one, Nat.le_refl, Nat.zero_le, zn_sel_r, zn_sel_l, zd_slots hX g, zd_heights hX g, zd_on]
  refine (zx_hashSlots_L61 hX g _ _ 4 0 5000 (by omega) (by omega)).trans ?_
  simp (disch := omega) only [li0, li1, li2, li3, li4, li5, li6, li7, li8, li9, li10, li12, li13, li14, li15, li19, li20, li31, li33, li40, li42, li44, li48, li57, li60, li99, li100, li126, li150, li176, li177, li187, li197, li207, li208, li223, li304, li608, li1520, li1824, nI_add, pk_mul, nI_clamp, nI_leI, nI_ltI, nI_eq, zn_inb, zn_gd, zn_bs, zn_isb, not_true_eq_false, not_false_eq_true, ↓reduceIte, pk_div, pk_sub, zn_rem20, zn_rem2, zn_m1, zn_eqw, zn_weq, zn_weq2, zn_wlt0, zn_wltn, zn_win, zn_wcl, zn_wadd, Nat.not_lt_zero, Nat.one_ne_zero, Nat.zero_ne_one, Nat.le_refl, Nat.zero_le, zn_sel_r, zn_sel_l, zd_gap hX g (s := 0) (by omega), zd_gap hX g (s := 1) (by omega), zd_on, m0, e1, zd_onb g.lo.2.1]
  rfl
theorem zx_hashKinds_L5 (hX : RX (ofs 1 M) S) (g : GX u S) (h : Int64) (kx : Int64 → Option Int64) : ∀ d k n, k + d = 10 → d < n → fX8_hashKinds_L5 M n kx (zs_it (zd_k1 S) h k) (nI k) = kx (zs_it (zd_k1 S) h 10) := by
  have hc := g.c12
  intro d
  induction d with
  | zero =>
    intro k n hk_ hn
    obtain ⟨m, rfl⟩ : ∃ m, n = m + 1 := ⟨n - 1, by omega⟩
    have c : 10 ≤ k := by omega
    have ef : k = 10 := by omega
    rw [fX8_hashKinds_L5]
    simp (disch := omega) only [li0, li1, li2, li3, li4, li5, li6, li7, li8, li9, li10, li12, li13, li14, li15, li19, li20, li31, li33, li40, li42, li44, li48, li57, li60, li99, li100, li126, li150, li176, li177, li187, li197, li207, li208, li223, li304, li608, li1520, li1824, nI_add, pk_mul, nI_clamp, nI_leI, nI_ltI, nI_eq, zn_inb, zn_gd, zn_bs, zn_isb, not_true_eq_false, not_false_eq_true, ↓reduceIte, pk_div, pk_sub, zn_rem20, zn_rem2, zn_m1, zn_eqw, zn_weq, zn_weq2, zn_wlt0, zn_wltn, zn_win, zn_wcl, zn_wadd, Nat.not_lt_zero, Nat.one_ne_zero, Nat.zero_ne_one, Nat.le_refl, Nat.zero_le, zn_sel_r, zn_sel_l, c]
    try rw [ef]
    try rfl
  | succ d ih =>
    intro k n hk_ hn
    obtain ⟨m, rfl⟩ : ∃ m, n = m + 1 := ⟨n - 1, by omega⟩
    have c : ¬ 10 ≤ k := by omega
    have ih1 := ih (k + 1) m (by omega) (by omega)
    have hk : k < 10 := by omega
    rw [fX8_hashKinds_L5]
    simp (disch := omega) only [li0, li1, li2, li3, li4, li5, li6, li7, li8, li9, li10, li12, li13, li14, li15, li19, li20, li31, li33, li40, li42, li44, li48, li57, li60, li99, li100, li126, li150, li176, li177, li187, li197, li207, li208, li223, li304, li608, li1520, li1824, nI_add, pk_mul, nI_clamp, nI_leI, nI_ltI, nI_eq, zn_inb, zn_gd, zn_bs, zn_isb, not_true_eq_false, not_false_eq_true, ↓reduceIte, pk_div, pk_sub, zn_rem20, zn_rem2, zn_m1, zn_eqw, zn_weq, zn_weq2, zn_wlt0, zn_wltn, zn_win, zn_wcl, zn_wadd, Nat.not_lt_zero, Nat.one_ne_zero, Nat.zero_ne_one, Nat.le_refl, Nat.zero_le, zn_sel_r, zn_sel_l, c, zd_wk hX hk, zd_stock hX hc hk, zd_acc hX hk, zd_having hX g hk, zd_least hX hk, zd_miss hX g hk, zd_on]
    exact ih1
theorem zx_hashKinds (hX : RX (ofs 1 M) S) (g : GX u S) (h : Int64) : fX8_hashKinds M h = some (zd_ks S h) := by
  unfold fX8_hashKinds
  refine (zx_hashKinds_L5 hX g h _ 10 0 5000 (by omega) (by omega)).trans ?_
  simp (disch := omega) only [li0, li1, li2, li3, li4, li5, li6, li7, li8, li9, li10, li12, li13, li14, li15, li19, li20, li31, li33, li40, li42, li44, li48, li57, li60, li99, li100, li126, li150, li176, li177, li187, li197, li207, li208, li223, li304, li608, li1520, li1824, nI_add, pk_mul, nI_clamp, nI_leI, nI_ltI, nI_eq, zn_inb, zn_gd, zn_bs, zn_isb, not_true_eq_false, not_false_eq_true, ↓reduceIte, pk_div, pk_sub, zn_rem20, zn_rem2, zn_m1, zn_eqw, zn_weq, zn_weq2, zn_wlt0, zn_wltn, zn_win, zn_wcl, zn_wadd, Nat.not_lt_zero, Nat.one_ne_zero, Nat.zero_ne_one, Nat.le_refl, Nat.zero_le, zn_sel_r, zn_sel_l, zx_shortKinds hX g, zd_heavy hX g (s := 0) (by omega), zd_heavy hX g (s := 1) (by omega), zd_on]
  rfl
theorem zx_hashTrips_L13 (hX : RX (ofs 1 M) S) (g : GX u S) (h : Int64) (kx : Int64 → Option Int64) : ∀ d i n, i + d = S 6 4 → d < n → fX8_hashTrips_L13 M n kx (zd_tr S h i) (nI i) = kx (zd_tr S h (S 6 4)) := by
  have lo := g.lo.2.2.1
  have m0 : M 7 4 = nI (S 6 4) := hX.2.1.2.2.2.2.1
  intro d
  induction d with
  | zero =>
    intro i n hi_ hn
    obtain ⟨m, rfl⟩ : ∃ m, n = m + 1 := ⟨n - 1, by omega⟩
    have c : S 6 4 ≤ i := by omega
    have ef : i = S 6 4 := by omega
    rw [fX8_hashTrips_L13]
    simp (disch := omega) only [li0, li1, li2, li3, li4, li5, li6, li7, li8, li9, li10, li12, li13, li14, li15, li19, li20, li31, li33, li40, li42, li44, li48, li57, li60, li99, li100, li126, li150, li176, li177, li187, li197, li207, li208, li223, li304, li608, li1520, li1824, nI_add, pk_mul, nI_clamp, nI_leI, nI_ltI, nI_eq, zn_inb, zn_gd, zn_bs, zn_isb, not_true_eq_false, not_false_eq_true, ↓reduceIte, pk_div, pk_sub, zn_rem20, zn_rem2, zn_m1, zn_eqw, zn_weq, zn_weq2, zn_wlt0, zn_wltn, zn_win, zn_wcl, zn_wadd, Nat.not_lt_zero, Nat.one_ne_zero, Nat.zero_ne_one, Nat.le_refl, Nat.zero_le, zn_sel_r, zn_sel_l, m0, c]
    try rw [ef]
    try rfl
  | succ d ih =>
    intro i n hi_ hn
    obtain ⟨m, rfl⟩ : ∃ m, n = m + 1 := ⟨n - 1, by omega⟩
    have c : ¬ S 6 4 ≤ i := by omega
    have ih1 := ih (i + 1) m (by omega) (by omega)
    have hi : i < S 6 4 := by omega
    have b := g.lo.2.2.2 i (by omega)
    rw [fX8_hashTrips_L13]
    simp (disch := omega) only [li0, li1, li2, li3, li4, li5, li6, li7, li8, li9, li10, li12, li13, li14, li15, li19, li20, li31, li33, li40, li42, li44, li48, li57, li60, li99, li100, li126, li150, li176, li177, li187, li197, li207, li208, li223, li304, li608, li1520, li1824, nI_add, pk_mul, nI_clamp, nI_leI, nI_ltI, nI_eq, zn_inb, zn_gd, zn_bs, zn_isb, not_true_eq_false, not_false_eq_true, ↓reduceIte, pk_div, pk_sub, zn_rem20, zn_rem2, zn_m1, zn_eqw, zn_weq, zn_weq2, zn_wlt0, zn_wltn, zn_win, zn_wcl, zn_wadd, Nat.not_lt_zero, Nat.one_ne_zero, Nat.zero_ne_one, Nat.le_refl, Nat.zero_le, zn_sel_r, zn_sel_l, m0, c, zd_ticks hX g hi, zd_was hX g hi, zd_on, zd_onb b]
    exact ih1
theorem zx_hashTrips (hX : RX (ofs 1 M) S) (g : GX u S) (h : Int64) : fX8_hashTrips M h = some (zd_tr S h (S 6 4)) := by
  have lo := g.lo.2.2.1
  have e : fX8_trips M = some (nI (S 6 4)) := congrArg some hX.2.1.2.2.2.2.1
  unfold fX8_hashTrips
  rw [e, zn_bs, zd_on, zn_bs]
  exact zx_hashTrips_L13 hX g h (fun (l3 : Int64) => some l3) (S 6 4) 0 5000 (by omega) (by omega)
theorem RX.r41 {x : Nat → Int32} (h : RX (ofs 1 M) S) : RX (ofs 1 (sr M 41 x)) S := h.of rfl rfl rfl rfl rfl rfl rfl rfl rfl rfl rfl rfl rfl rfl rfl
theorem zx_hashOrders_L31 (hX : RX (ofs 1 M) S) (g : GX u S) {r : Nat} (hr : r < S 14 0) (h : Int64) {kx : Mem → Int64 → Int32 → Option (Int64 × Mem)} {Q : Int64 × Mem → Prop} (hk : ∀ N : Mem, ∃ z, kx (sr M 41 (N 41)) (zd_wn S r h 10) (nI r) = some z ∧ Q z) : ∀ d k n (N : Mem), k + d = 10 → d < n → ∃ z, fX8_hashOrders_L31 M n kx N (zd_wn S r h k) (nI r) (nI k) = some z ∧ Q z := by
  intro d
  induction d with
  | zero =>
    intro k n N hkd hn
    obtain ⟨m, rfl⟩ : ∃ m, n = m + 1 := ⟨n - 1, by omega⟩
    obtain rfl : k = 10 := by omega
    rw [fX8_hashOrders_L31]
    simp (disch := omega) only [li0, li1, li2, li3, li4, li5, li6, li7, li8, li9, li10, li12, li13, li14, li15, li19, li20, li31, li33, li40, li42, li44, li48, li57, li60, li99, li100, li126, li150, li176, li177, li187, li197, li207, li208, li223, li304, li608, li1520, li1824, nI_add, pk_mul, nI_clamp, nI_leI, nI_ltI, nI_eq, zn_inb, zn_gd, zn_bs, zn_isb, not_true_eq_false, not_false_eq_true, ↓reduceIte, pk_div, pk_sub, zn_rem20, zn_rem2, zn_m1, zn_eqw, zn_weq, zn_weq2, zn_wlt0, zn_wltn, zn_win, zn_wcl, zn_wadd, Nat.not_lt_zero, Nat.one_ne_zero, Nat.zero_ne_one, Nat.le_refl, Nat.zero_le, zn_sel_r, zn_sel_l]
    exact hk N
  | succ d ih =>
    intro k n N hkd hn
    obtain ⟨m, rfl⟩ : ∃ m, n = m + 1 := ⟨n - 1, by omega⟩
    have c : ¬ 10 ≤ k := by omega
    have e := zd_wanted (M := sr M 41 (N 41)) hX.r41 g.o8 hr (k := k) (by omega)
    rw [fX8_hashOrders_L31]
    simp (disch := omega) only [li0, li1, li2, li3, li4, li5, li6, li7, li8, li9, li10, li12, li13, li14, li15, li19, li20, li31, li33, li40, li42, li44, li48, li57, li60, li99, li100, li126, li150, li176, li177, li187, li197, li207, li208, li223, li304, li608, li1520, li1824, nI_add, pk_mul, nI_clamp, nI_leI, nI_ltI, nI_eq, zn_inb, zn_gd, zn_bs, zn_isb, not_true_eq_false, not_false_eq_true, ↓reduceIte, pk_div, pk_sub, zn_rem20, zn_rem2, zn_m1, zn_eqw, zn_weq, zn_weq2, zn_wlt0, zn_wltn, zn_win, zn_wcl, zn_wadd, Nat.not_lt_zero, Nat.one_ne_zero, Nat.zero_ne_one, Nat.le_refl, Nat.zero_le, zn_sel_r, zn_sel_l, c, e, zd_on]
    exact ih (k + 1) m _ (by omega) (by omega)
theorem zx_hashOrders_L13 (hX : RX (ofs 1 M) S) (g : GX u S) (h : Int64) {kx : Mem → Int64 → Option (Int64 × Mem)} {Q : Int64 × Mem → Prop} (hk : ∀ N : Mem, ∃ z, kx (sr M 41 (N 41)) (zd_ors S h (S 14 0)) = some z ∧ Q z) : ∀ d r n (N : Mem), r + d = S 14 0 → d < n → ∃ z, fX8_hashOrders_L13 M n kx N (zd_ors S h r) (nI r) = some z ∧ Q z := by
  have h8 := g.o8
  have m0 : M 15 0 = nI (S 14 0) := hX.2.1.2.2.2.2.2.2
  intro d
  induction d with
  | zero =>
    intro r n N hr hn
    obtain ⟨m, rfl⟩ : ∃ m, n = m + 1 := ⟨n - 1, by omega⟩
    have c : S 14 0 ≤ r := by omega
    rw [fX8_hashOrders_L13]
    simp (disch := omega) only [li0, li1, li2, li3, li4, li5, li6, li7, li8, li9, li10, li12, li13, li14, li15, li19, li20, li31, li33, li40, li42, li44, li48, li57, li60, li99, li100, li126, li150, li176, li177, li187, li197, li207, li208, li223, li304, li608, li1520, li1824, nI_add, pk_mul, nI_clamp, nI_leI, nI_ltI, nI_eq, zn_inb, zn_gd, zn_bs, zn_isb, not_true_eq_false, not_false_eq_true, ↓reduceIte, pk_div, pk_sub, zn_rem20, zn_rem2, zn_m1, zn_eqw, zn_weq, zn_weq2, zn_wlt0, zn_wltn, zn_win, zn_wcl, zn_wadd, Nat.not_lt_zero, Nat.one_ne_zero, Nat.zero_ne_one, Nat.le_refl, Nat.zero_le, zn_sel_r, zn_sel_l, m0, c]
    rw [show r = S 14 0 by omega]
    exact hk N
  | succ d ih =>
    intro r n N hr hn
    obtain ⟨m, rfl⟩ : ∃ m, n = m + 1 := ⟨n - 1, by omega⟩
    have c : ¬ S 14 0 ≤ r := by omega
    have hr8 : r < S 14 0 := by omega
    have ih1 := fun N => ih (r + 1) m N (by omega) (by omega)
    rw [show zd_ors S h (r + 1) = zd_or S r (zd_ors S h r) from rfl] at ih1
    unfold zd_or at ih1
    rw [fX8_hashOrders_L13]
    simp (disch := omega) only [li0, li1, li2, li3, li4, li5, li6, li7, li8, li9, li10, li12, li13, li14, li15, li19, li20, li31, li33, li40, li42, li44, li48, li57, li60, li99, li100, li126, li150, li176, li177, li187, li197, li207, li208, li223, li304, li608, li1520, li1824, nI_add, pk_mul, nI_clamp, nI_leI, nI_ltI, nI_eq, zn_inb, zn_gd, zn_bs, zn_isb, not_true_eq_false, not_false_eq_true, ↓reduceIte, pk_div, pk_sub, zn_rem20, zn_rem2, zn_m1, zn_eqw, zn_weq, zn_weq2, zn_wlt0, zn_wltn, zn_win, zn_wcl, zn_wadd, Nat.not_lt_zero, Nat.one_ne_zero, Nat.zero_ne_one, Nat.le_refl, Nat.zero_le, zn_sel_r, zn_sel_l, m0, c]
    refine zx_hashOrders_L31 hX g hr8 (zd_ors S h r) (fun N => ?_) 10 0 5000 _ (by omega) (by omega)
    have e1 := zx_isServable (M := ofs 1 (sr M 41 (sr M 41 (N 41) 41))) (S := S) hX.r41 g hr8
    cases q : zs_can S r
    · rw [q, cond_false] at e1 ih1
      simp (disch := omega) only [li0, li1, li2, li3, li4, li5, li6, li7, li8, li9, li10, li12, li13, li14, li15, li19, li20, li31, li33, li40, li42, li44, li48, li57, li60, li99, li100, li126, li150, li176, li177, li187, li197, li207, li208, li223, li304, li608, li1520, li1824, nI_add, pk_mul, nI_clamp, nI_leI, nI_ltI, nI_eq, zn_inb, zn_gd, zn_bs, zn_isb, not_true_eq_false, not_false_eq_true, ↓reduceIte, pk_div, pk_sub, zn_rem20, zn_rem2, zn_m1, zn_eqw, zn_weq, zn_weq2, zn_wlt0, zn_wltn, zn_win, zn_wcl, zn_wadd, Nat.not_lt_zero, Nat.one_ne_zero, Nat.zero_ne_one, Nat.le_refl, Nat.zero_le, zn_sel_r, zn_sel_l, e1, zd_onb (show 0 < 2 by omega), fX8_hashOrders_B123]
      exact ih1 _
    · rw [q, cond_true] at e1 ih1
      obtain ⟨v, e2, hv⟩ := zx_choice (M := ofs 1 (sr M 41 (sr M 41 (N 41) 41))) (S := S) hX.r41 g hr8 q
      have ev := zs_set_of hv
      have v12 := zs_best_lt g hv
      obtain ⟨z, e3⟩ := zx_fewestFound (M := sr M 41 (sr M 41 (N 41) 41)) (S := S) hX.r41 g hr8 hv
      rw [ev] at ih1
      simp (disch := omega) only [li0, li1, li2, li3, li4, li5, li6, li7, li8, li9, li10, li12, li13, li14, li15, li19, li20, li31, li33, li40, li42, li44, li48, li57, li60, li99, li100, li126, li150, li176, li177, li187, li197, li207, li208, li223, li304, li608, li1520, li1824, nI_add, pk_mul, nI_clamp, nI_leI, nI_ltI, nI_eq, zn_inb, zn_gd, zn_bs, zn_isb, not_true_eq_false, not_false_eq_true, ↓reduceIte, pk_div, pk_sub, zn_rem20, zn_rem2, zn_m1, zn_eqw, zn_weq, zn_weq2, zn_wlt0, zn_wltn, zn_win, zn_wcl, zn_wadd, Nat.not_lt_zero, Nat.one_ne_zero, Nat.zero_ne_one, Nat.le_refl, Nat.zero_le, zn_sel_r, zn_sel_l, e1, e2, e3, zx_bitCount v12, zd_onb (show 1 < 2 by omega), zd_on, fX8_hashOrders_B123]
      exact ih1 _
theorem zx_hashOrders (hX : RX (ofs 1 M) S) (g : GX u S) (h : Int64) : ∃ z, fX8_hashOrders M h = some z ∧ z.1 = zd_ors S h (S 14 0) := by
  have h8 := g.o8
  have e : fX8_orders M = some (nI (S 14 0)) := congrArg some hX.2.1.2.2.2.2.2.2
  unfold fX8_hashOrders
  rw [e, zn_bs, zd_on, zn_bs]
  refine zx_hashOrders_L13 hX g h (Q := fun z => z.1 = zd_ors S h (S 14 0)) (fun N => ?_) (S 14 0) 0 5000 M (by omega) (by omega)
  exact ⟨_, rfl, rfl⟩
end
