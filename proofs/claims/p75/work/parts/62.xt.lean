/-! the class's tower: what its reading methods answer -/
section
variable {T : Mem} {S : SM}
theorem zx_countIn (h : RT T S) {f k : Nat} (hf : f < 12) (hk : k < 10) : fX7_countIn T (nI f) (nI k) = some (nI (S 5 (f * 10 + k))) := by
  have e := h.2.2.2.2.2 (f * 10 + k) (by omega)
  unfold fX7_countIn
  simp (disch := omega) only [li0, li1, li2, li3, li4, li5, li6, li7, li8, li9, li10, li12, li13, li14, li15, li19, li20, li31, li33, li40, li42, li44, li48, li57, li60, li99, li100, li126, li150, li176, li177, li187, li197, li207, li208, li223, li304, li608, li1520, li1824, nI_add, pk_mul, nI_clamp, nI_leI, nI_ltI, nI_eq, zn_inb, zn_gd, zn_bs, zn_isb, not_true_eq_false, not_false_eq_true, ↓reduceIte, pk_div, pk_sub, zn_rem20, zn_rem2, zn_m1, zn_eqw, zn_weq, zn_weq2, zn_wlt0, zn_wltn, zn_win, zn_wcl, zn_wadd, Nat.not_lt_zero, Nat.one_ne_zero, Nat.zero_ne_one, Nat.le_refl, Nat.zero_le, zn_sel_r, zn_sel_l, e]
theorem zx_isEmpty_L (h : RT T S) {f : Nat} (hf : f < 12) (b : ∀ k, k < 10 → S 5 (f * 10 + k) ≤ 150) (k1 k2 : Unit → Option Int32) : ∀ d k n, k + d = 10 → d < n → fX7_isEmpty_L2 T n k1 k2 (nI f) (nI k) = bif zs_any (fun k => decide (0 < S 5 (f * 10 + k))) d k then k1 () else k2 () := by
  intro d
  induction d with
  | zero =>
    intro k n hk hn
    obtain ⟨m, rfl⟩ : ∃ m, n = m + 1 := ⟨n - 1, by omega⟩
    obtain rfl : k = 10 := by omega
    rw [fX7_isEmpty_L2]
    simp (disch := omega) only [li0, li1, li2, li3, li4, li5, li6, li7, li8, li9, li10, li12, li13, li14, li15, li19, li20, li31, li33, li40, li42, li44, li48, li57, li60, li99, li100, li126, li150, li176, li177, li187, li197, li207, li208, li223, li304, li608, li1520, li1824, nI_add, pk_mul, nI_clamp, nI_leI, nI_ltI, nI_eq, zn_inb, zn_gd, zn_bs, zn_isb, not_true_eq_false, not_false_eq_true, ↓reduceIte, pk_div, pk_sub, zn_rem20, zn_rem2, zn_m1, zn_eqw, zn_weq, zn_weq2, zn_wlt0, zn_wltn, zn_win, zn_wcl, zn_wadd, Nat.not_lt_zero, Nat.one_ne_zero, Nat.zero_ne_one, Nat.le_refl, Nat.zero_le, zn_sel_r, zn_sel_l]
    rfl
  | succ d ih =>
    intro k n hk hn
    obtain ⟨m, rfl⟩ : ∃ m, n = m + 1 := ⟨n - 1, by omega⟩
    have c : ¬ 10 ≤ k := by omega
    have e := zx_countIn h hf (k := k) (by omega)
    have b1 := b k (by omega)
    rw [fX7_isEmpty_L2]
    by_cases z : S 5 (f * 10 + k) = 0
    · have z1 : S 5 (f * 10 + k) ≤ 0 := by omega
      simp (disch := omega) only [li0, li1, li2, li3, li4, li5, li6, li7, li8, li9, li10, li12, li13, li14, li15, li19, li20, li31, li33, li40, li42, li44, li48, li57, li60, li99, li100, li126, li150, li176, li177, li187, li197, li207, li208, li223, li304, li608, li1520, li1824, nI_add, pk_mul, nI_clamp, nI_leI, nI_ltI, nI_eq, zn_inb, zn_gd, zn_bs, zn_isb, not_true_eq_false, not_false_eq_true, ↓reduceIte, pk_div, pk_sub, zn_rem20, zn_rem2, zn_m1, zn_eqw, zn_weq, zn_weq2, zn_wlt0, zn_wltn, zn_win, zn_wcl, zn_wadd, Nat.not_lt_zero, Nat.one_ne_zero, Nat.zero_ne_one, Nat.le_refl, Nat.zero_le, zn_sel_r, zn_sel_l, c, e, z1]
      rw [ih (k + 1) m (by omega) (by omega)]
      show _ = bif (decide (0 < S 5 (f * 10 + k)) || _) then _ else _
      rw [show decide (0 < S 5 (f * 10 + k)) = false from decide_eq_false (by omega), Bool.false_or]
    · have z1 : ¬ S 5 (f * 10 + k) ≤ 0 := by omega
      simp (disch := omega) only [li0, li1, li2, li3, li4, li5, li6, li7, li8, li9, li10, li12, li13, li14, li15, li19, li20, li31, li33, li40, li42, li44, li48, li57, li60, li99, li100, li126, li150, li176, li177, li187, li197, li207, li208, li223, li304, li608, li1520, li1824, nI_add, pk_mul, nI_clamp, nI_leI, nI_ltI, nI_eq, zn_inb, zn_gd, zn_bs, zn_isb, not_true_eq_false, not_false_eq_true, ↓reduceIte, pk_div, pk_sub, zn_rem20, zn_rem2, zn_m1, zn_eqw, zn_weq, zn_weq2, zn_wlt0, zn_wltn, zn_win, zn_wcl, zn_wadd, Nat.not_lt_zero, Nat.one_ne_zero, Nat.zero_ne_one, Nat.le_refl, Nat.zero_le, zn_sel_r, zn_sel_l, c, e, z1]
      show _ = bif (decide (0 < S 5 (f * 10 + k)) || _) then _ else _
      rw [show decide (0 < S 5 (f * 10 + k)) = true from decide_eq_true (by omega), Bool.true_or]
      rfl
def zs_bare (S : SM) (f : Nat) : Bool := !(zs_any (fun k => decide (0 < S 5 (f * 10 + k))) 10 0)
theorem zx_isEmpty (h : RT T S) {f : Nat} (hf : f < 12) (b : ∀ k, k < 10 → S 5 (f * 10 + k) ≤ 150) : fX7_isEmpty T (nI f) = some (nI (bif zs_bare S f then 1 else 0)) := by
  unfold fX7_isEmpty zs_bare
  have e := zx_isEmpty_L h hf b (fun (_ : Unit) => gd (isb (0 : Int32)) (some (0 : Int32))) (fun (_ : Unit) => gd (isb (1 : Int32)) (some (1 : Int32))) 10 0 5000 (by omega) (by omega)
  refine e.trans ?_
  cases zs_any (fun k => decide (0 < S 5 (f * 10 + k))) 10 0 <;> rfl
def zs_stock (S : SM) (k : Nat) : Nat := fb_sm (fun f => S 5 (f * 10 + k)) (S 1 0)
theorem zx_stockOf_L (h : RT T S) (hc : S 1 0 ≤ 12) {k : Nat} (hk : k < 10) (kx : Int32 → Option Int32) : ∀ d f n, f + d = S 1 0 → d < n → fX7_stockOf_L4 T n kx (nI k) (nI (fb_sm (fun f => S 5 (f * 10 + k)) f)) (nI f) = kx (nI (zs_stock S k)) := by
  intro d
  induction d with
  | zero =>
    intro f n hf hn
    obtain ⟨m, rfl⟩ : ∃ m, n = m + 1 := ⟨n - 1, by omega⟩
    have c : S 1 0 ≤ f := by omega
    rw [fX7_stockOf_L4]
    simp (disch := omega) only [li0, li1, li2, li3, li4, li5, li6, li7, li8, li9, li10, li12, li13, li14, li15, li19, li20, li31, li33, li40, li42, li44, li48, li57, li60, li99, li100, li126, li150, li176, li177, li187, li197, li207, li208, li223, li304, li608, li1520, li1824, nI_add, pk_mul, nI_clamp, nI_leI, nI_ltI, nI_eq, zn_inb, zn_gd, zn_bs, zn_isb, not_true_eq_false, not_false_eq_true, ↓reduceIte, pk_div, pk_sub, zn_rem20, zn_rem2, zn_m1, zn_eqw, zn_weq, zn_weq2, zn_wlt0, zn_wltn, zn_win, zn_wcl, zn_wadd, Nat.not_lt_zero, Nat.one_ne_zero, Nat.zero_ne_one, Nat.le_refl, Nat.zero_le, zn_sel_r, zn_sel_l, h.1, c]
    rw [show f = S 1 0 by omega]
    rfl
  | succ d ih =>
    intro f n hf hn
    obtain ⟨m, rfl⟩ : ∃ m, n = m + 1 := ⟨n - 1, by omega⟩
    have c : ¬ S 1 0 ≤ f := by omega
    have e := zx_countIn h (f := f) (by omega) hk
    rw [fX7_stockOf_L4]
    simp (disch := omega) only [li0, li1, li2, li3, li4, li5, li6, li7, li8, li9, li10, li12, li13, li14, li15, li19, li20, li31, li33, li40, li42, li44, li48, li57, li60, li99, li100, li126, li150, li176, li177, li187, li197, li207, li208, li223, li304, li608, li1520, li1824, nI_add, pk_mul, nI_clamp, nI_leI, nI_ltI, nI_eq, zn_inb, zn_gd, zn_bs, zn_isb, not_true_eq_false, not_false_eq_true, ↓reduceIte, pk_div, pk_sub, zn_rem20, zn_rem2, zn_m1, zn_eqw, zn_weq, zn_weq2, zn_wlt0, zn_wltn, zn_win, zn_wcl, zn_wadd, Nat.not_lt_zero, Nat.one_ne_zero, Nat.zero_ne_one, Nat.le_refl, Nat.zero_le, zn_sel_r, zn_sel_l, h.1, c, e]
    exact ih (f + 1) m (by omega) (by omega)
theorem zx_stockOf (h : RT T S) (hc : S 1 0 ≤ 12) {k : Nat} (hk : k < 10) : fX7_stockOf T (nI k) = some (nI (zs_stock S k)) := by
  unfold fX7_stockOf
  exact zx_stockOf_L h hc hk (fun (l2 : Int32) => some l2) (S 1 0) 0 5000 (by omega) (by omega)
theorem zx_wayOf {p : Nat} (hp : p < 40) : fX7_wayOf (nI p) = some (nI (p % 20 + 2 * (p / 20))) := by
  unfold fX7_wayOf
  simp (disch := omega) only [li0, li1, li2, li3, li4, li5, li6, li7, li8, li9, li10, li12, li13, li14, li15, li19, li20, li31, li33, li40, li42, li44, li48, li57, li60, li99, li100, li126, li150, li176, li177, li187, li197, li207, li208, li223, li304, li608, li1520, li1824, nI_add, pk_mul, nI_clamp, nI_leI, nI_ltI, nI_eq, zn_inb, zn_gd, zn_bs, zn_isb, not_true_eq_false, not_false_eq_true, ↓reduceIte, pk_div, pk_sub, zn_rem20, zn_rem2, zn_m1, zn_eqw, zn_weq, zn_weq2, zn_wlt0, zn_wltn, zn_win, zn_wcl, zn_wadd, Nat.not_lt_zero, Nat.one_ne_zero, Nat.zero_ne_one, Nat.le_refl, Nat.zero_le, zn_sel_r, zn_sel_l]
theorem zx_rowOf {s w : Nat} (hh : w ≤ 4) (hs : s + w ≤ 20) : fX7_rowOf (nI s) (nI w) = some (nI ((2 ^ w - 1) * 2 ^ s)) := by
  unfold fX7_rowOf
  rw [show (1 : Int32) = nI 1 from rfl, show (31 : Int32) = nI 31 from rfl, zn_mask (by omega), zn_row (by omega) hs]
def zs_fitB (t s w : Nat) : Bool := decide (s + w ≤ 20 ∧ ∀ i, i < w → t.testBit (s + i) = false)
theorem zx_fits {t s w : Nat} (ht : t < 2 ^ 20) (hs : s < 20) (hw : w ≤ 4) : fX7_fits (nI t) (nI s) (nI w) = some (nI (bif zs_fitB t s w then 1 else 0)) := by
  have key : (nI t >>> (nI s &&& nI 31)) &&& ((nI 1 <<< (nI w &&& nI 31)) - nI 1) = nI (t / 2 ^ s % 2 ^ w) := by
    rw [zn_mask (by omega), zn_shr (by omega) (by omega), zn_and, Nat.and_two_pow_sub_one_eq_mod]
  have hb : t / 2 ^ s % 2 ^ w < 2 ^ 31 := by
    have h1 : t / 2 ^ s % 2 ^ w < 2 ^ w := Nat.mod_lt _ (Nat.two_pow_pos w)
    have h2 := zn_p20 (h := w) (by omega)
    omega
  have z := zn_win0 t s w
  unfold fX7_fits
  rw [show (1 : Int32) = nI 1 from rfl, show (31 : Int32) = nI 31 from rfl, key]
  unfold zs_fitB
  by_cases c : 20 < s + w
  · simp (disch := omega) only [li0, li1, li2, li3, li4, li5, li6, li7, li8, li9, li10, li12, li13, li14, li15, li19, li20, li31, li33, li40, li42, li44, li48, li57, li60, li99, li100, li126, li150, li176, li177, li187, li197, li207, li208, li223, li304, li608, li1520, li1824, nI_add, pk_mul, nI_clamp, nI_leI, nI_ltI, nI_eq, zn_inb, zn_gd, zn_bs, zn_isb, not_true_eq_false, not_false_eq_true, ↓reduceIte, pk_div, pk_sub, zn_rem20, zn_rem2, zn_m1, zn_eqw, zn_weq, zn_weq2, zn_wlt0, zn_wltn, zn_win, zn_wcl, zn_wadd, Nat.not_lt_zero, Nat.one_ne_zero, Nat.zero_ne_one, Nat.le_refl, Nat.zero_le, zn_sel_r, zn_sel_l, c, fX7_fits_B24, fX7_fits_B25]
    rw [decide_eq_false (by omega)]
    rfl
  · by_cases c2 : t / 2 ^ s % 2 ^ w = 0
    · simp (disch := omega) only [li0, li1, li2, li3, li4, li5, li6, li7, li8, li9, li10, li12, li13, li14, li15, li19, li20, li31, li33, li40, li42, li44, li48, li57, li60, li99, li100, li126, li150, li176, li177, li187, li197, li207, li208, li223, li304, li608, li1520, li1824, nI_add, pk_mul, nI_clamp, nI_leI, nI_ltI, nI_eq, zn_inb, zn_gd, zn_bs, zn_isb, not_true_eq_false, not_false_eq_true, ↓reduceIte, pk_div, pk_sub, zn_rem20, zn_rem2, zn_m1, zn_eqw, zn_weq, zn_weq2, zn_wlt0, zn_wltn, zn_win, zn_wcl, zn_wadd, Nat.not_lt_zero, Nat.one_ne_zero, Nat.zero_ne_one, Nat.le_refl, Nat.zero_le, zn_sel_r, zn_sel_l, c, c2, fX7_fits_B24, fX7_fits_B25]
      rw [decide_eq_true ⟨by omega, z.mp c2⟩]
      rfl
    · simp (disch := omega) only [li0, li1, li2, li3, li4, li5, li6, li7, li8, li9, li10, li12, li13, li14, li15, li19, li20, li31, li33, li40, li42, li44, li48, li57, li60, li99, li100, li126, li150, li176, li177, li187, li197, li207, li208, li223, li304, li608, li1520, li1824, nI_add, pk_mul, nI_clamp, nI_leI, nI_ltI, nI_eq, zn_inb, zn_gd, zn_bs, zn_isb, not_true_eq_false, not_false_eq_true, ↓reduceIte, pk_div, pk_sub, zn_rem20, zn_rem2, zn_m1, zn_eqw, zn_weq, zn_weq2, zn_wlt0, zn_wltn, zn_win, zn_wcl, zn_wadd, Nat.not_lt_zero, Nat.one_ne_zero, Nat.zero_ne_one, Nat.le_refl, Nat.zero_le, zn_sel_r, zn_sel_l, c, c2, fX7_fits_B24, fX7_fits_B25]
      rw [decide_eq_false (fun a => c2 (z.mpr a.2))]
      rfl
theorem zs_fitB0 (t0 t1 : Nat) {s w : Nat} (hs : s < 20) : zs_fitB t0 s w = zs_fq (zs_q t0 t1) w s := by
  unfold zs_fitB zs_fq zs_q
  congr 1
  apply propext
  constructor
  · rintro ⟨a, b⟩
    refine ⟨by omega, fun i hi => ?_⟩
    rw [if_pos (by omega)]
    exact b i hi
  · rintro ⟨a, b⟩
    refine ⟨by omega, fun i hi => ?_⟩
    have := b i hi
    rwa [if_pos (by omega)] at this
theorem zs_fitB1 (t0 t1 : Nat) {s w : Nat} (hs : s < 20) : zs_fitB t1 s w = zs_fq (zs_q t0 t1) w (20 + s) := by
  unfold zs_fitB zs_fq zs_q
  congr 1
  apply propext
  constructor
  · rintro ⟨a, b⟩
    refine ⟨by omega, fun i hi => ?_⟩
    rw [if_neg (by omega), show 20 + s + i - 20 = s + i by omega]
    exact b i hi
  · rintro ⟨a, b⟩
    refine ⟨by omega, fun i hi => ?_⟩
    have := b i hi
    rwa [if_neg (by omega), show 20 + s + i - 20 = s + i by omega] at this
theorem zx_firstFit_L {t0 t1 w : Nat} (h0 : t0 < 2 ^ 20) (h1 : t1 < 2 ^ 20) (hw : w ≤ 4) : ∀ d s n, s + d = 20 → d < n → fX7_firstFit_L2 n (fun (l3 : Int32) => some l3) (fun (l3 : Int32) => some ((20 : Int32) + l3)) (fun (_ : Unit) => some (-1 : Int32)) (nI t0) (nI t1) (nI w) (nI s) = some (wI (bif zs_any (fun k => zs_fq (zs_q t0 t1) w (zs_pk k)) (2 * d) (2 * s) then zs_pk (zs_first (fun k => zs_fq (zs_q t0 t1) w (zs_pk k)) (2 * d) (2 * s)) + 1 else 0)) := by
  intro d
  induction d with
  | zero =>
    intro s n hs hn
    obtain ⟨m, rfl⟩ : ∃ m, n = m + 1 := ⟨n - 1, by omega⟩
    obtain rfl : s = 20 := by omega
    rw [fX7_firstFit_L2]
    simp (disch := omega) only [li0, li1, li2, li3, li4, li5, li6, li7, li8, li9, li10, li12, li13, li14, li15, li19, li20, li31, li33, li40, li42, li44, li48, li57, li60, li99, li100, li126, li150, li176, li177, li187, li197, li207, li208, li223, li304, li608, li1520, li1824, nI_add, pk_mul, nI_clamp, nI_leI, nI_ltI, nI_eq, zn_inb, zn_gd, zn_bs, zn_isb, not_true_eq_false, not_false_eq_true, ↓reduceIte, pk_div, pk_sub, zn_rem20, zn_rem2, zn_m1, zn_eqw, zn_weq, zn_weq2, zn_wlt0, zn_wltn, zn_win, zn_wcl, zn_wadd, Nat.not_lt_zero, Nat.one_ne_zero, Nat.zero_ne_one, Nat.le_refl, Nat.zero_le, zn_sel_r, zn_sel_l]
    rfl
  | succ d ih =>
    intro s n hs hn
    obtain ⟨m, rfl⟩ : ∃ m, n = m + 1 := ⟨n - 1, by omega⟩
    have c : ¬ 20 ≤ s := by omega
    have e0 := zx_fits h0 (s := s) (by omega) hw
    have e1 := zx_fits h1 (s := s) (by omega) hw
    have p0 : zs_pk (2 * s) = s := by unfold zs_pk; omega
    have p1 : zs_pk (2 * s + 1) = 20 + s := by unfold zs_pk; omega
    have ih1 := ih (s + 1) m (by omega) (by omega)
    rw [show 2 * (d + 1) = 2 * d + 1 + 1 by omega]
    rw [show 2 * (s + 1) = 2 * s + 1 + 1 by omega] at ih1
    rw [zs_any, zs_any, zs_first, zs_first, p0, p1, ← zs_fitB0 t0 t1 (by omega), ← zs_fitB1 t0 t1 (by omega)]
    rw [fX7_firstFit_L2]
    cases q0 : zs_fitB t0 s w
    · rw [q0] at e0
      cases q1 : zs_fitB t1 s w
      · rw [q1] at e1
        simp (disch := omega) only [li0, li1, li2, li3, li4, li5, li6, li7, li8, li9, li10, li12, li13, li14, li15, li19, li20, li31, li33, li40, li42, li44, li48, li57, li60, li99, li100, li126, li150, li176, li177, li187, li197, li207, li208, li223, li304, li608, li1520, li1824, nI_add, pk_mul, nI_clamp, nI_leI, nI_ltI, nI_eq, zn_inb, zn_gd, zn_bs, zn_isb, not_true_eq_false, not_false_eq_true, ↓reduceIte, pk_div, pk_sub, zn_rem20, zn_rem2, zn_m1, zn_eqw, zn_weq, zn_weq2, zn_wlt0, zn_wltn, zn_win, zn_wcl, zn_wadd, Nat.not_lt_zero, Nat.one_ne_zero, Nat.zero_ne_one, Nat.le_refl, Nat.zero_le, zn_sel_r, zn_sel_l, c, e0, e1, cond_false]
        simp only [Bool.false_or]
        exact ih1
      · rw [q1] at e1
        simp (disch := omega) only [li0, li1, li2, li3, li4, li5, li6, li7, li8, li9, li10, li12, li13, li14, li15, li19, li20, li31, li33, li40, li42, li44, li48, li57, li60, li99, li100, li126, li150, li176, li177, li187, li197, li207, li208, li223, li304, li608, li1520, li1824, nI_add, pk_mul, nI_clamp, nI_leI, nI_ltI, nI_eq, zn_inb, zn_gd, zn_bs, zn_isb, not_true_eq_false, not_false_eq_true, ↓reduceIte, pk_div, pk_sub, zn_rem20, zn_rem2, zn_m1, zn_eqw, zn_weq, zn_weq2, zn_wlt0, zn_wltn, zn_win, zn_wcl, zn_wadd, Nat.not_lt_zero, Nat.one_ne_zero, Nat.zero_ne_one, Nat.le_refl, Nat.zero_le, zn_sel_r, zn_sel_l, c, e0, e1, cond_false, cond_true]
        simp only [Bool.false_or, Bool.true_or, cond_true, p1, wI_s]
    · rw [q0] at e0
      simp (disch := omega) only [li0, li1, li2, li3, li4, li5, li6, li7, li8, li9, li10, li12, li13, li14, li15, li19, li20, li31, li33, li40, li42, li44, li48, li57, li60, li99, li100, li126, li150, li176, li177, li187, li197, li207, li208, li223, li304, li608, li1520, li1824, nI_add, pk_mul, nI_clamp, nI_leI, nI_ltI, nI_eq, zn_inb, zn_gd, zn_bs, zn_isb, not_true_eq_false, not_false_eq_true, ↓reduceIte, pk_div, pk_sub, zn_rem20, zn_rem2, zn_m1, zn_eqw, zn_weq, zn_weq2, zn_wlt0, zn_wltn, zn_win, zn_wcl, zn_wadd, Nat.not_lt_zero, Nat.one_ne_zero, Nat.zero_ne_one, Nat.le_refl, Nat.zero_le, zn_sel_r, zn_sel_l, c, e0, cond_true]
      simp only [Bool.true_or, cond_true, p0, wI_s]
theorem zx_firstFit {t0 t1 w : Nat} (h0 : t0 < 2 ^ 20) (h1 : t1 < 2 ^ 20) (hw : w ≤ 4) : fX7_firstFit (nI t0) (nI t1) (nI w) = some (wI (zs_fp (zs_q t0 t1) w)) := by
  unfold fX7_firstFit
  exact zx_firstFit_L h0 h1 hw 20 0 5000 (by omega) (by omega)
theorem zx_takenOn_L (h : RT T S) (g : GT S) {side : Nat} (hs : side < 2) (kx : Int32 → Option Int32) : ∀ d f n, f + d = S 1 0 → d < n → fX7_takenOn_L4 T n kx (nI side) (nI (zs_tk S side f)) (nI f) = kx (nI (zs_tk S side (S 1 0))) := by
  have hc := g.1
  have hw := g.2.1
  intro d
  induction d with
  | zero =>
    intro f n hf hn
    obtain ⟨m, rfl⟩ : ∃ m, n = m + 1 := ⟨n - 1, by omega⟩
    have c : S 1 0 ≤ f := by omega
    rw [fX7_takenOn_L4]
    simp (disch := omega) only [li0, li1, li2, li3, li4, li5, li6, li7, li8, li9, li10, li12, li13, li14, li15, li19, li20, li31, li33, li40, li42, li44, li48, li57, li60, li99, li100, li126, li150, li176, li177, li187, li197, li207, li208, li223, li304, li608, li1520, li1824, nI_add, pk_mul, nI_clamp, nI_leI, nI_ltI, nI_eq, zn_inb, zn_gd, zn_bs, zn_isb, not_true_eq_false, not_false_eq_true, ↓reduceIte, pk_div, pk_sub, zn_rem20, zn_rem2, zn_m1, zn_eqw, zn_weq, zn_weq2, zn_wlt0, zn_wltn, zn_win, zn_wcl, zn_wadd, Nat.not_lt_zero, Nat.one_ne_zero, Nat.zero_ne_one, Nat.le_refl, Nat.zero_le, zn_sel_r, zn_sel_l, h.1, c]
    rw [show f = S 1 0 by omega]
  | succ d ih =>
    intro f n hf hn
    obtain ⟨m, rfl⟩ : ∃ m, n = m + 1 := ⟨n - 1, by omega⟩
    have c : ¬ S 1 0 ≤ f := by omega
    have b := g.2.2.1 f (by omega)
    have e1 := h.2.2.1 f (by omega)
    have e2 := h.2.2.2.1 f (by omega)
    have ih1 := ih (f + 1) m (by omega) (by omega)
    have er := zx_rowOf (s := S 3 f % 20) (w := S 2 f) (by omega) (by omega)
    rw [show zs_tk S side (f + 1) = if ¬ S 1 1 = f + 1 ∧ S 3 f / 20 = side then zs_tk S side f ||| ((2 ^ S 2 f - 1) * 2 ^ (S 3 f % 20)) else zs_tk S side f from rfl] at ih1
    rw [fX7_takenOn_L4]
    by_cases c1 : S 1 1 = f + 1
    · rw [if_neg (fun a => a.1 c1)] at ih1
      simp (disch := omega) only [li0, li1, li2, li3, li4, li5, li6, li7, li8, li9, li10, li12, li13, li14, li15, li19, li20, li31, li33, li40, li42, li44, li48, li57, li60, li99, li100, li126, li150, li176, li177, li187, li197, li207, li208, li223, li304, li608, li1520, li1824, nI_add, pk_mul, nI_clamp, nI_leI, nI_ltI, nI_eq, zn_inb, zn_gd, zn_bs, zn_isb, not_true_eq_false, not_false_eq_true, ↓reduceIte, pk_div, pk_sub, zn_rem20, zn_rem2, zn_m1, zn_eqw, zn_weq, zn_weq2, zn_wlt0, zn_wltn, zn_win, zn_wcl, zn_wadd, Nat.not_lt_zero, Nat.one_ne_zero, Nat.zero_ne_one, Nat.le_refl, Nat.zero_le, zn_sel_r, zn_sel_l, h.1, h.2.1, c, c1, fX7_takenOn_B54]
      exact ih1
    · by_cases c2 : S 3 f / 20 = side
      · rw [if_pos ⟨c1, c2⟩] at ih1
        simp (disch := omega) only [li0, li1, li2, li3, li4, li5, li6, li7, li8, li9, li10, li12, li13, li14, li15, li19, li20, li31, li33, li40, li42, li44, li48, li57, li60, li99, li100, li126, li150, li176, li177, li187, li197, li207, li208, li223, li304, li608, li1520, li1824, nI_add, pk_mul, nI_clamp, nI_leI, nI_ltI, nI_eq, zn_inb, zn_gd, zn_bs, zn_isb, not_true_eq_false, not_false_eq_true, ↓reduceIte, pk_div, pk_sub, zn_rem20, zn_rem2, zn_m1, zn_eqw, zn_weq, zn_weq2, zn_wlt0, zn_wltn, zn_win, zn_wcl, zn_wadd, Nat.not_lt_zero, Nat.one_ne_zero, Nat.zero_ne_one, Nat.le_refl, Nat.zero_le, zn_sel_r, zn_sel_l, h.1, h.2.1, c, c1, eq_true c2, e1, e2, er, zn_or, fX7_takenOn_B54]
        exact ih1
      · rw [if_neg (fun a => c2 a.2)] at ih1
        simp (disch := omega) only [li0, li1, li2, li3, li4, li5, li6, li7, li8, li9, li10, li12, li13, li14, li15, li19, li20, li31, li33, li40, li42, li44, li48, li57, li60, li99, li100, li126, li150, li176, li177, li187, li197, li207, li208, li223, li304, li608, li1520, li1824, nI_add, pk_mul, nI_clamp, nI_leI, nI_ltI, nI_eq, zn_inb, zn_gd, zn_bs, zn_isb, not_true_eq_false, not_false_eq_true, ↓reduceIte, pk_div, pk_sub, zn_rem20, zn_rem2, zn_m1, zn_eqw, zn_weq, zn_weq2, zn_wlt0, zn_wltn, zn_win, zn_wcl, zn_wadd, Nat.not_lt_zero, Nat.one_ne_zero, Nat.zero_ne_one, Nat.le_refl, Nat.zero_le, zn_sel_r, zn_sel_l, h.1, h.2.1, c, c1, c2, e1, e2, er, fX7_takenOn_B54]
        exact ih1
theorem zx_takenOn (h : RT T S) (g : GT S) {side : Nat} (hs : side < 2) : fX7_takenOn T (nI side) = some (nI (zs_tk S side (S 1 0))) := by
  unfold fX7_takenOn
  exact zx_takenOn_L h g hs (fun (l2 : Int32) => some l2) (S 1 0) 0 5000 (by omega) (by have := g.1; omega)
theorem zx_firstFree (h : RT T S) (g : GT S) {w : Nat} (hw : w ≤ 4) : fX7_firstFree T (nI w) = some (wI (zs_fp (zs_tq S) w)) := by
  have e0 := zx_takenOn h g (side := 0) (by omega)
  have e1 := zx_takenOn h g (side := 1) (by omega)
  have e2 := zx_firstFit (zs_tk_lt g 0 (S 1 0) (Nat.le_refl _)) (zs_tk_lt g 1 (S 1 0) (Nat.le_refl _)) hw
  rw [zs_fp_c (fun p hp => zs_q_tk g hp) w] at e2
  unfold fX7_firstFree
  simp (disch := omega) only [li0, li1, li2, li3, li4, li5, li6, li7, li8, li9, li10, li12, li13, li14, li15, li19, li20, li31, li33, li40, li42, li44, li48, li57, li60, li99, li100, li126, li150, li176, li177, li187, li197, li207, li208, li223, li304, li608, li1520, li1824, nI_add, pk_mul, nI_clamp, nI_leI, nI_ltI, nI_eq, zn_inb, zn_gd, zn_bs, zn_isb, not_true_eq_false, not_false_eq_true, ↓reduceIte, pk_div, pk_sub, zn_rem20, zn_rem2, zn_m1, zn_eqw, zn_weq, zn_weq2, zn_wlt0, zn_wltn, zn_win, zn_wcl, zn_wadd, Nat.not_lt_zero, Nat.one_ne_zero, Nat.zero_ne_one, Nat.le_refl, Nat.zero_le, zn_sel_r, zn_sel_l, e0, e1, e2]
theorem zx_holderOf_L (h : RT T S) (g : GT S) {p : Nat} (hp : p < 40) (k1 : Int32 → Option Int32) (k2 : Unit → Option Int32) : ∀ d f n, f + d = S 1 0 → d < n → fX7_holderOf_L2 T n k1 k2 (nI p) (nI f) = bif zs_any (zs_oc S p) d f then k1 (nI (zs_first (zs_oc S p) d f)) else k2 () := by
  have hc := g.1
  have hw := g.2.1
  intro d
  induction d with
  | zero =>
    intro f n hf hn
    obtain ⟨m, rfl⟩ : ∃ m, n = m + 1 := ⟨n - 1, by omega⟩
    have c : S 1 0 ≤ f := by omega
    rw [fX7_holderOf_L2]
    simp (disch := omega) only [li0, li1, li2, li3, li4, li5, li6, li7, li8, li9, li10, li12, li13, li14, li15, li19, li20, li31, li33, li40, li42, li44, li48, li57, li60, li99, li100, li126, li150, li176, li177, li187, li197, li207, li208, li223, li304, li608, li1520, li1824, nI_add, pk_mul, nI_clamp, nI_leI, nI_ltI, nI_eq, zn_inb, zn_gd, zn_bs, zn_isb, not_true_eq_false, not_false_eq_true, ↓reduceIte, pk_div, pk_sub, zn_rem20, zn_rem2, zn_m1, zn_eqw, zn_weq, zn_weq2, zn_wlt0, zn_wltn, zn_win, zn_wcl, zn_wadd, Nat.not_lt_zero, Nat.one_ne_zero, Nat.zero_ne_one, Nat.le_refl, Nat.zero_le, zn_sel_r, zn_sel_l, h.1, c]
    rfl
  | succ d ih =>
    intro f n hf hn
    obtain ⟨m, rfl⟩ : ∃ m, n = m + 1 := ⟨n - 1, by omega⟩
    have c : ¬ S 1 0 ≤ f := by omega
    have b := g.2.2.1 f (by omega)
    have e1 := h.2.2.1 f (by omega)
    have e2 := h.2.2.2.1 f (by omega)
    have ih1 := ih (f + 1) m (by omega) (by omega)
    rw [zs_any, zs_first]
    rw [fX7_holderOf_L2]
    by_cases c1 : S 1 1 = f + 1
    · rw [show zs_oc S p f = false from decide_eq_false (fun a => a.1 c1)]
      simp (disch := omega) only [li0, li1, li2, li3, li4, li5, li6, li7, li8, li9, li10, li12, li13, li14, li15, li19, li20, li31, li33, li40, li42, li44, li48, li57, li60, li99, li100, li126, li150, li176, li177, li187, li197, li207, li208, li223, li304, li608, li1520, li1824, nI_add, pk_mul, nI_clamp, nI_leI, nI_ltI, nI_eq, zn_inb, zn_gd, zn_bs, zn_isb, not_true_eq_false, not_false_eq_true, ↓reduceIte, pk_div, pk_sub, zn_rem20, zn_rem2, zn_m1, zn_eqw, zn_weq, zn_weq2, zn_wlt0, zn_wltn, zn_win, zn_wcl, zn_wadd, Nat.not_lt_zero, Nat.one_ne_zero, Nat.zero_ne_one, Nat.le_refl, Nat.zero_le, zn_sel_r, zn_sel_l, h.1, h.2.1, c, c1, fX7_holderOf_B47, Bool.false_or, cond_false]
      exact ih1
    · by_cases c2 : p < S 3 f
      · rw [show zs_oc S p f = false from decide_eq_false (by omega)]
        simp (disch := omega) only [li0, li1, li2, li3, li4, li5, li6, li7, li8, li9, li10, li12, li13, li14, li15, li19, li20, li31, li33, li40, li42, li44, li48, li57, li60, li99, li100, li126, li150, li176, li177, li187, li197, li207, li208, li223, li304, li608, li1520, li1824, nI_add, pk_mul, nI_clamp, nI_leI, nI_ltI, nI_eq, zn_inb, zn_gd, zn_bs, zn_isb, not_true_eq_false, not_false_eq_true, ↓reduceIte, pk_div, pk_sub, zn_rem20, zn_rem2, zn_m1, zn_eqw, zn_weq, zn_weq2, zn_wlt0, zn_wltn, zn_win, zn_wcl, zn_wadd, Nat.not_lt_zero, Nat.one_ne_zero, Nat.zero_ne_one, Nat.le_refl, Nat.zero_le, zn_sel_r, zn_sel_l, h.1, h.2.1, c, c1, c2, e1, e2, fX7_holderOf_B47, Bool.false_or, cond_false]
        exact ih1
      · by_cases c3 : S 3 f + S 2 f ≤ p
        · rw [show zs_oc S p f = false from decide_eq_false (by omega)]
          simp (disch := omega) only [li0, li1, li2, li3, li4, li5, li6, li7, li8, li9, li10, li12, li13, li14, li15, li19, li20, li31, li33, li40, li42, li44, li48, li57, li60, li99, li100, li126, li150, li176, li177, li187, li197, li207, li208, li223, li304, li608, li1520, li1824, nI_add, pk_mul, nI_clamp, nI_leI, nI_ltI, nI_eq, zn_inb, zn_gd, zn_bs, zn_isb, not_true_eq_false, not_false_eq_true, ↓reduceIte, pk_div, pk_sub, zn_rem20, zn_rem2, zn_m1, zn_eqw, zn_weq, zn_weq2, zn_wlt0, zn_wltn, zn_win, zn_wcl, zn_wadd, Nat.not_lt_zero, Nat.one_ne_zero, Nat.zero_ne_one, Nat.le_refl, Nat.zero_le, zn_sel_r, zn_sel_l, h.1, h.2.1, c, c1, c2, c3, e1, e2, fX7_holderOf_B47, Bool.false_or, cond_false]
          exact ih1
        · rw [show zs_oc S p f = true from decide_eq_true (by omega)]
          simp (disch := omega) only [li0, li1, li2, li3, li4, li5, li6, li7, li8, li9, li10, li12, li13, li14, li15, li19, li20, li31, li33, li40, li42, li44, li48, li57, li60, li99, li100, li126, li150, li176, li177, li187, li197, li207, li208, li223, li304, li608, li1520, li1824, nI_add, pk_mul, nI_clamp, nI_leI, nI_ltI, nI_eq, zn_inb, zn_gd, zn_bs, zn_isb, not_true_eq_false, not_false_eq_true, ↓reduceIte, pk_div, pk_sub, zn_rem20, zn_rem2, zn_m1, zn_eqw, zn_weq, zn_weq2, zn_wlt0, zn_wltn, zn_win, zn_wcl, zn_wadd, Nat.not_lt_zero, Nat.one_ne_zero, Nat.zero_ne_one, Nat.le_refl, Nat.zero_le, zn_sel_r, zn_sel_l, h.1, h.2.1, c, c1, c2, c3, e1, e2, Bool.true_or, cond_true]
theorem zx_holderOf (h : RT T S) (g : GT S) {p : Nat} (hp : p < 40) : fX7_holderOf T (nI p) = some (wI (zs_ho S p)) := by
  unfold fX7_holderOf zs_ho
  refine (zx_holderOf_L h g hp _ _ (S 1 0) 0 5000 (by omega) (by have := g.1; omega)).trans ?_
  cases zs_any (zs_oc S p) (S 1 0) 0
  · rfl
  · show some (nI _) = some (wI (_ + 1))
    rw [wI_s]
end

