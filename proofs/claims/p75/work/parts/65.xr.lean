/-! the class's state: what its reading methods answer -/
def RX (M : Mem) (S : SM) : Prop := RT (ofs 1 M) S ∧ (M 6 0 = nI (S 6 0) ∧ M 6 1 = nI (S 6 1) ∧ M 6 2 = nI (S 6 2) ∧ M 6 3 = nI (S 6 3) ∧ M 6 4 = nI (S 6 4) ∧ M 0 4 = nI (S 0 4) ∧ M 14 0 = nI (S 14 0)) ∧ rn 8 (M 7) (S 7) ∧ rn 8 (M 8) (S 8) ∧ rn 10 (M 10) (S 10) ∧ rn 10 (M 11) (S 11) ∧ rn 10 (M 12) (S 12) ∧ rn 10 (M 13) (S 13) ∧ rn 80 (M 15) (S 15)
theorem RX.t {M : Mem} {S : SM} (h : RX M S) : RT (ofs 1 M) S := h.1
theorem RX.r7 {M : Mem} {S : SM} (h : RX M S) : rn 8 (M 7) (S 7) := h.2.2.1
theorem RX.r8 {M : Mem} {S : SM} (h : RX M S) : rn 8 (M 8) (S 8) := h.2.2.2.1
theorem RX.r10 {M : Mem} {S : SM} (h : RX M S) : rn 10 (M 10) (S 10) := h.2.2.2.2.1
theorem RX.r11 {M : Mem} {S : SM} (h : RX M S) : rn 10 (M 11) (S 11) := h.2.2.2.2.2.1
theorem RX.r12 {M : Mem} {S : SM} (h : RX M S) : rn 10 (M 12) (S 12) := h.2.2.2.2.2.2.1
theorem RX.r13 {M : Mem} {S : SM} (h : RX M S) : rn 10 (M 13) (S 13) := h.2.2.2.2.2.2.2.1
theorem RX.r15 {M : Mem} {S : SM} (h : RX M S) : rn 80 (M 15) (S 15) := h.2.2.2.2.2.2.2.2
theorem RX.c {M : Mem} {S : SM} (h : RX M S) : M 1 0 = nI (S 1 0) := h.1.1
theorem RX.w {M : Mem} {S : SM} (h : RX M S) : M 1 1 = wI (S 1 1) := h.1.2.1
theorem RX.r2 {M : Mem} {S : SM} (h : RX M S) : rn 12 (M 2) (S 2) := h.1.2.2.1
theorem RX.r3 {M : Mem} {S : SM} (h : RX M S) : rn 12 (M 3) (S 3) := h.1.2.2.2.1
theorem RX.r4 {M : Mem} {S : SM} (h : RX M S) : rn 12 (M 4) (S 4) := h.1.2.2.2.2.1
theorem RX.r5 {M : Mem} {S : SM} (h : RX M S) : rn 120 (M 5) (S 5) := h.1.2.2.2.2.2
def zs_wt (S : SM) (f : Nat) : Nat := fb_sm (fun k => S 5 (f * 10 + k) * S 10 k) 10
def GX (u : Nat) (S : SM) : Prop := GT S ∧ (∀ k, k < 10 → 1 ≤ S 10 k ∧ S 10 k ≤ 9 ∧ S 11 k ≤ 99) ∧ (∀ f, f < S 1 0 → zs_wt S f ≤ 150) ∧ S 14 0 ≤ 8 ∧ (∀ r k, r < S 14 0 → k < 10 → S 15 (r * 10 + k) ≤ 20) ∧ (S 99 0 = 0 → ∀ r, r < S 14 0 → ∃ k, k < 10 ∧ 1 ≤ S 15 (r * 10 + k)) ∧ (S 6 0 < 20 ∧ S 6 1 < 2 ∧ S 6 4 ≤ 8 ∧ ∀ i, i < 8 → S 8 i < 2) ∧ (∀ f, f < S 1 0 → S 4 f ≤ u) ∧ S 6 2 ≤ 40 * u ∧ S 6 3 ≤ u ∧ u ≤ 200000
theorem GX.lo {u : Nat} {S : SM} (g : GX u S) : S 6 0 < 20 ∧ S 6 1 < 2 ∧ S 6 4 ≤ 8 ∧ ∀ i, i < 8 → S 8 i < 2 := g.2.2.2.2.2.2.1
theorem GX.wn {u : Nat} {S : SM} (g : GX u S) : ∀ r k, r < S 14 0 → k < 10 → S 15 (r * 10 + k) ≤ 20 := g.2.2.2.2.1
theorem GX.w1 {u : Nat} {S : SM} (g : GX u S) (h0 : S 99 0 = 0) : ∀ r, r < S 14 0 → ∃ k, k < 10 ∧ 1 ≤ S 15 (r * 10 + k) := g.2.2.2.2.2.1 h0
theorem GX.o8 {u : Nat} {S : SM} (g : GX u S) : S 14 0 ≤ 8 := g.2.2.2.1
theorem GX.c12 {u : Nat} {S : SM} (g : GX u S) : S 1 0 ≤ 12 := g.1.1
theorem GX.th {u : Nat} {S : SM} (g : GX u S) : ∀ f k, f < S 1 0 → k < 10 → S 5 (f * 10 + k) ≤ 150 := g.1.2.2.2.2.1
theorem zs_stock_le {S : SM} (g : GT S) {k : Nat} (hk : k < 10) : zs_stock S k ≤ 1800 := by
  have h := fb_sm_bound (f := fun f => S 5 (f * 10 + k)) (c := 150) (n := S 1 0) (fun f hf => g.2.2.2.2.1 f k hf hk)
  have := g.1
  unfold zs_stock
  omega
theorem zn_sub_add (a b c : Int32) : a - (b + c) = a - b - c := by
  rw [Int32.sub_eq_add_neg a (b + c), Int32.neg_add, Int32.sub_eq_add_neg (-b) c, ← Int32.add_assoc, ← Int32.sub_eq_add_neg a b, ← Int32.sub_eq_add_neg]
section
variable {M : Mem} {S : SM} {u : Nat}
theorem zx_weighShelf_L (h : RX M S) {f : Nat} (hf : f < 12) (kx : Int32 → Option Int32) : ∀ d k n, k + d = 10 → d < n → fX6_weighShelf_L4 M n kx (nI f) (nI (fb_sm (fun k => S 5 (f * 10 + k) * S 10 k) k)) (nI k) = kx (nI (zs_wt S f)) := by
  intro d
  induction d with
  | zero =>
    intro k n hk hn
    obtain ⟨m, rfl⟩ : ∃ m, n = m + 1 := ⟨n - 1, by omega⟩
    obtain rfl : k = 10 := by omega
    rw [fX6_weighShelf_L4]
    simp (disch := omega) only [li0, li1, li2, li3, li4, li5, li6, li7, li8, li9, li10, li12, li13, li14, li15, li19, li20, li31, li33, li40, li42, li44, li48, li57, li60, li99, li100, li126, li150, li176, li177, li187, li197, li207, li208, li223, li304, li608, li1520, li1824, nI_add, pk_mul, nI_clamp, nI_leI, nI_ltI, nI_eq, zn_inb, zn_gd, zn_bs, zn_isb, not_true_eq_false, not_false_eq_true, ↓reduceIte, pk_div, pk_sub, zn_rem20, zn_rem2, zn_m1, zn_eqw, zn_weq, zn_weq2, zn_wlt0, zn_wltn, zn_win, zn_wcl, zn_wadd, Nat.not_lt_zero, Nat.one_ne_zero, Nat.zero_ne_one, Nat.le_refl, Nat.zero_le, zn_sel_r, zn_sel_l]
    rfl
  | succ d ih =>
    intro k n hk hn
    obtain ⟨m, rfl⟩ : ∃ m, n = m + 1 := ⟨n - 1, by omega⟩
    have c : ¬ 10 ≤ k := by omega
    have e := zx_countIn h.t hf (k := k) (by omega)
    have e2 := h.r10 k (by omega)
    rw [fX6_weighShelf_L4]
    simp (disch := omega) only [li0, li1, li2, li3, li4, li5, li6, li7, li8, li9, li10, li12, li13, li14, li15, li19, li20, li31, li33, li40, li42, li44, li48, li57, li60, li99, li100, li126, li150, li176, li177, li187, li197, li207, li208, li223, li304, li608, li1520, li1824, nI_add, pk_mul, nI_clamp, nI_leI, nI_ltI, nI_eq, zn_inb, zn_gd, zn_bs, zn_isb, not_true_eq_false, not_false_eq_true, ↓reduceIte, pk_div, pk_sub, zn_rem20, zn_rem2, zn_m1, zn_eqw, zn_weq, zn_weq2, zn_wlt0, zn_wltn, zn_win, zn_wcl, zn_wadd, Nat.not_lt_zero, Nat.one_ne_zero, Nat.zero_ne_one, Nat.le_refl, Nat.zero_le, zn_sel_r, zn_sel_l, c, e, e2]
    exact ih (k + 1) m (by omega) (by omega)
theorem zx_weighShelf (h : RX M S) {f : Nat} (hf : f < 12) : fX6_weighShelf M (nI f) = some (nI (zs_wt S f)) := by
  unfold fX6_weighShelf
  exact zx_weighShelf_L h hf (fun (l2 : Int32) => some l2) 10 0 5000 (by omega) (by omega)
/-- the heaviest shelf, and 1; 0 if there is none -/
def zs_hv (S : SM) : Nat → Nat := zs_it (fun f w => if w = 0 ∨ ¬ zs_wt S f ≤ zs_wt S (w - 1) then f + 1 else w) 0
theorem zs_hv_le (S : SM) : ∀ n, zs_hv S n ≤ n
  | 0 => Nat.le_refl _
  | n + 1 => by
    have ih := zs_hv_le S n
    show (if _ then _ else _) ≤ _
    split
    · exact Nat.le_refl _
    · exact Nat.le_succ_of_le ih
theorem zx_findHeaviest_L (h : RX M S) (g : GX u S) (kx : Int32 → Option Int32) : ∀ d f n most, f + d = S 1 0 → d < n → (0 < zs_hv S f → most = nI (zs_wt S (zs_hv S f - 1))) → fX6_findHeaviest_L6 M n kx (wI (zs_hv S f)) most (nI f) = kx (wI (zs_hv S (S 1 0))) := by
  have hc := g.c12
  intro d
  induction d with
  | zero =>
    intro f n most hf hn _
    obtain ⟨m, rfl⟩ : ∃ m, n = m + 1 := ⟨n - 1, by omega⟩
    have c : S 1 0 ≤ f := by omega
    rw [fX6_findHeaviest_L6]
    simp (disch := omega) only [li0, li1, li2, li3, li4, li5, li6, li7, li8, li9, li10, li12, li13, li14, li15, li19, li20, li31, li33, li40, li42, li44, li48, li57, li60, li99, li100, li126, li150, li176, li177, li187, li197, li207, li208, li223, li304, li608, li1520, li1824, nI_add, pk_mul, nI_clamp, nI_leI, nI_ltI, nI_eq, zn_inb, zn_gd, zn_bs, zn_isb, not_true_eq_false, not_false_eq_true, ↓reduceIte, pk_div, pk_sub, zn_rem20, zn_rem2, zn_m1, zn_eqw, zn_weq, zn_weq2, zn_wlt0, zn_wltn, zn_win, zn_wcl, zn_wadd, Nat.not_lt_zero, Nat.one_ne_zero, Nat.zero_ne_one, Nat.le_refl, Nat.zero_le, zn_sel_r, zn_sel_l, h.c, c]
    rw [show f = S 1 0 by omega]
  | succ d ih =>
    intro f n most hf hn hm
    obtain ⟨m, rfl⟩ : ∃ m, n = m + 1 := ⟨n - 1, by omega⟩
    have c : ¬ S 1 0 ≤ f := by omega
    have e1 := zx_weighShelf h (f := f) (by omega)
    have b1 := g.2.2.1 f (by omega)
    have bw := zs_hv_le S f
    have eh : zs_hv S (f + 1) = if zs_hv S f = 0 ∨ ¬ zs_wt S f ≤ zs_wt S (zs_hv S f - 1) then f + 1 else zs_hv S f := rfl
    have ih1 := ih (f + 1) m
    rw [eh] at ih1
    rw [fX6_findHeaviest_L6]
    by_cases c2 : zs_hv S f = 0
    · rw [if_pos (Or.inl c2)] at ih1
      simp (disch := omega) only [li0, li1, li2, li3, li4, li5, li6, li7, li8, li9, li10, li12, li13, li14, li15, li19, li20, li31, li33, li40, li42, li44, li48, li57, li60, li99, li100, li126, li150, li176, li177, li187, li197, li207, li208, li223, li304, li608, li1520, li1824, nI_add, pk_mul, nI_clamp, nI_leI, nI_ltI, nI_eq, zn_inb, zn_gd, zn_bs, zn_isb, not_true_eq_false, not_false_eq_true, ↓reduceIte, pk_div, pk_sub, zn_rem20, zn_rem2, zn_m1, zn_eqw, zn_weq, zn_weq2, zn_wlt0, zn_wltn, zn_win, zn_wcl, zn_wadd, Nat.not_lt_zero, Nat.one_ne_zero, Nat.zero_ne_one, Nat.le_refl, Nat.zero_le, zn_sel_r, zn_sel_l, h.c, c, e1, c2, fX6_findHeaviest_B40, fX6_findHeaviest_B35]
      rw [← wI_s f]
      exact ih1 _ (by omega) (by omega) (fun _ => rfl)
    · rw [hm (by omega)]
      have b2 := g.2.2.1 (zs_hv S f - 1) (by omega)
      by_cases c3 : zs_wt S f ≤ zs_wt S (zs_hv S f - 1)
      · rw [if_neg (by omega)] at ih1
        simp (disch := omega) only [li0, li1, li2, li3, li4, li5, li6, li7, li8, li9, li10, li12, li13, li14, li15, li19, li20, li31, li33, li40, li42, li44, li48, li57, li60, li99, li100, li126, li150, li176, li177, li187, li197, li207, li208, li223, li304, li608, li1520, li1824, nI_add, pk_mul, nI_clamp, nI_leI, nI_ltI, nI_eq, zn_inb, zn_gd, zn_bs, zn_isb, not_true_eq_false, not_false_eq_true, ↓reduceIte, pk_div, pk_sub, zn_rem20, zn_rem2, zn_m1, zn_eqw, zn_weq, zn_weq2, zn_wlt0, zn_wltn, zn_win, zn_wcl, zn_wadd, Nat.not_lt_zero, Nat.one_ne_zero, Nat.zero_ne_one, Nat.le_refl, Nat.zero_le, zn_sel_r, zn_sel_l, h.c, c, e1, c2, c3, fX6_findHeaviest_B40, fX6_findHeaviest_B35]
        exact ih1 _ (by omega) (by omega) (fun _ => rfl)
      · rw [if_pos (Or.inr c3)] at ih1
        simp (disch := omega) only [li0, li1, li2, li3, li4, li5, li6, li7, li8, li9, li10, li12, li13, li14, li15, li19, li20, li31, li33, li40, li42, li44, li48, li57, li60, li99, li100, li126, li150, li176, li177, li187, li197, li207, li208, li223, li304, li608, li1520, li1824, nI_add, pk_mul, nI_clamp, nI_leI, nI_ltI, nI_eq, zn_inb, zn_gd, zn_bs, zn_isb, not_true_eq_false, not_false_eq_true, ↓reduceIte, pk_div, pk_sub, zn_rem20, zn_rem2, zn_m1, zn_eqw, zn_weq, zn_weq2, zn_wlt0, zn_wltn, zn_win, zn_wcl, zn_wadd, Nat.not_lt_zero, Nat.one_ne_zero, Nat.zero_ne_one, Nat.le_refl, Nat.zero_le, zn_sel_r, zn_sel_l, h.c, c, e1, c2, c3, fX6_findHeaviest_B40, fX6_findHeaviest_B35]
        rw [← wI_s f]
        exact ih1 _ (by omega) (by omega) (fun _ => rfl)
theorem zx_findHeaviest (h : RX M S) (g : GX u S) : fX6_findHeaviest M = some (wI (zs_hv S (S 1 0))) := by
  unfold fX6_findHeaviest
  have e := zx_findHeaviest_L h g (fun (l1 : Int32) => some l1) (S 1 0) 0 5000 (0 : Int32) (by omega) (by have := g.c12; omega) (fun a => absurd a (Nat.lt_irrefl 0))
  rw [show zs_hv S 0 = 0 from rfl, wI_0] at e
  exact e
def zs_miss (S : SM) (k : Nat) : Nat := S 11 k - zs_stock S k
theorem zx_missing (h : RX M S) (g : GX u S) {k : Nat} (hk : k < 10) : fX6_missing M (nI k) = some (nI (zs_miss S k)) := by
  have e := zx_stockOf h.t g.c12 hk
  have e2 := h.r11 k hk
  have b := g.2.1 k hk
  have b2 := zs_stock_le g.1 hk
  unfold fX6_missing zs_miss
  by_cases c : zs_stock S k ≤ S 11 k
  · simp (disch := omega) only [li0, li1, li2, li3, li4, li5, li6, li7, li8, li9, li10, li12, li13, li14, li15, li19, li20, li31, li33, li40, li42, li44, li48, li57, li60, li99, li100, li126, li150, li176, li177, li187, li197, li207, li208, li223, li304, li608, li1520, li1824, nI_add, pk_mul, nI_clamp, nI_leI, nI_ltI, nI_eq, zn_inb, zn_gd, zn_bs, zn_isb, not_true_eq_false, not_false_eq_true, ↓reduceIte, pk_div, pk_sub, zn_rem20, zn_rem2, zn_m1, zn_eqw, zn_weq, zn_weq2, zn_wlt0, zn_wltn, zn_win, zn_wcl, zn_wadd, Nat.not_lt_zero, Nat.one_ne_zero, Nat.zero_ne_one, Nat.le_refl, Nat.zero_le, zn_sel_r, zn_sel_l, e, e2]
    by_cases c2 : 0 < S 11 k - zs_stock S k
    · simp only [c2, ↓reduceIte]
    · have : S 11 k - zs_stock S k = 0 := by omega
      rw [this]
      simp only [ite_self]
  · have c3 : ¬ nI 0 < nI (S 11 k) - nI (zs_stock S k) := by
      intro a
      have h1 : nI (S 11 k) - nI (zs_stock S k) < 0 := pk_sneg (by omega) (by omega)
      have h2 := Int32.lt_trans a h1
      exact absurd h2 (by decide)
    have c4 : S 11 k - zs_stock S k = 0 := by omega
    simp (disch := omega) only [li0, li1, li2, li3, li4, li5, li6, li7, li8, li9, li10, li12, li13, li14, li15, li19, li20, li31, li33, li40, li42, li44, li48, li57, li60, li99, li100, li126, li150, li176, li177, li187, li197, li207, li208, li223, li304, li608, li1520, li1824, nI_add, pk_mul, nI_clamp, nI_leI, nI_ltI, nI_eq, zn_inb, zn_gd, zn_bs, zn_isb, not_true_eq_false, not_false_eq_true, ↓reduceIte, pk_div, pk_sub, zn_rem20, zn_rem2, zn_m1, zn_eqw, zn_weq, zn_weq2, zn_wlt0, zn_wltn, zn_win, zn_wcl, zn_wadd, Nat.not_lt_zero, Nat.one_ne_zero, Nat.zero_ne_one, Nat.le_refl, Nat.zero_le, zn_sel_r, zn_sel_l, e, e2, c3, c4]
def zs_dif (a b : Nat) : Nat := if a < b then b - a else a - b
def zs_to (S : SM) (f : Nat) : Nat := zs_dif (S 6 0) (S 3 f % 20) + zs_way (S 3 f)
theorem zn_abs {a b : Nat} (ha : a < 2 ^ 30) (hb : b < 2 ^ 30) : (if nI 0 ≤ nI a - nI b then nI a - nI b else nI 0 - (nI a - nI b)) = nI (zs_dif a b) := by
  unfold zs_dif
  by_cases c : a < b
  · have h1 : ¬ nI 0 ≤ nI a - nI b := by
      intro z
      have h2 : nI a - nI b < 0 := pk_sneg (by omega) c
      exact Int32.lt_irrefl (Int32.lt_of_lt_of_le h2 z)
    rw [if_neg h1, if_pos c, ← pk_sub (by omega)]
    rw [show nI 0 = 0 from rfl, Int32.zero_sub, Int32.neg_sub]
  · rw [pk_sub (by omega), if_pos (nI_le (Nat.zero_le _) (by omega)), if_neg c]
theorem zx_ticksToBring (h : RX M S) (g : GX u S) {f : Nat} (hf : f < S 1 0) : fX6_ticksToBring M (nI f) = some (nI (zs_to S f)) := by
  have hc := g.c12
  have b := g.1.2.2.1 f hf
  have lo := g.lo
  have e1 := h.r3 f (by omega)
  have e2 := zx_wayOf (p := S 3 f) (by omega)
  have e3 := zn_abs (a := S 6 0) (b := S 3 f % 20) (by omega) (by omega)
  unfold fX6_ticksToBring zs_to
  rw [zn_inb (by omega) (by omega), zn_gd, nI_clamp (by omega), e1, e2, zn_bs, h.2.1.1, show (20 : Int32) = nI 20 from rfl, show (0 : Int32) = nI 0 from rfl, pk_rem (by omega) (by omega) (by omega), e3, nI_add]
  rfl
/-! the orders -/
theorem zx_wantedOf (h : RX M S) {r k : Nat} (hr : r < 8) (hk : k < 10) : fX3_wantedOf (ofs 14 M) (nI r) (nI k) = some (nI (S 15 (r * 10 + k))) := by
  have e := h.r15 (r * 10 + k) (by omega)
  have e2 : ofs 14 M 1 (r * 10 + k) = nI (S 15 (r * 10 + k)) := e
  unfold fX3_wantedOf
  simp (disch := omega) only [li0, li1, li2, li3, li4, li5, li6, li7, li8, li9, li10, li12, li13, li14, li15, li19, li20, li31, li33, li40, li42, li44, li48, li57, li60, li99, li100, li126, li150, li176, li177, li187, li197, li207, li208, li223, li304, li608, li1520, li1824, nI_add, pk_mul, nI_clamp, nI_leI, nI_ltI, nI_eq, zn_inb, zn_gd, zn_bs, zn_isb, not_true_eq_false, not_false_eq_true, ↓reduceIte, pk_div, pk_sub, zn_rem20, zn_rem2, zn_m1, zn_eqw, zn_weq, zn_weq2, zn_wlt0, zn_wltn, zn_win, zn_wcl, zn_wadd, Nat.not_lt_zero, Nat.one_ne_zero, Nat.zero_ne_one, Nat.le_refl, Nat.zero_le, zn_sel_r, zn_sel_l, e2]
def zs_wm (S : SM) (r : Nat) : Nat := fb_sm (fun k => S 15 (r * 10 + k)) 10
/-- the things of a kind in the shelves of a set -/
def zs_sum (S : SM) (set k : Nat) : Nat → Nat := fb_sm (fun f => if set.testBit f then S 5 (f * 10 + k) else 0)
theorem zs_sum_step (S : SM) (set k : Nat) {a b : Nat} (h : a ≤ b) : zs_sum S set k a ≤ zs_sum S set k b := by
  have := fb_sm_mono (fun f => if set.testBit f then S 5 (f * 10 + k) else 0) a (b - a)
  rwa [show a + (b - a) = b by omega] at this
theorem zs_sum_le {S : SM} (g : GX u S) (set : Nat) {k : Nat} (hk : k < 10) {n : Nat} (hn : n ≤ S 1 0) : zs_sum S set k n ≤ 1800 := by
  have h := fb_sm_bound (f := fun f => if set.testBit f then S 5 (f * 10 + k) else 0) (c := 150) (n := n) (fun f hf => by
    have := g.th f k (by omega) hk
    split <;> omega)
  have := g.c12
  unfold zs_sum
  omega
theorem zx_isEnough_L1 (h : RX M S) (g : GX u S) {r set k : Nat} (hs : set < 2 ^ 12) (hk : k < 10) (w : Nat) (hw : w ≤ 20) (kx : Int32 → Int32 → Int32 → Int32 → Option Int32) : ∀ d f n, f + d = S 1 0 → d < n → ∃ z : Int32, fX6_isEnough_L22 M n kx (nI r) (nI set) (nI k) (nI w - nI (zs_sum S set k f)) (nI f) = kx (nI r) (nI set) (nI k) z ∧ (z ≤ nI 0 ↔ w ≤ zs_sum S set k (S 1 0)) := by
  have hc := g.c12
  have neg : ∀ {a b : Nat}, a < 2 ^ 30 → b < 2 ^ 30 → (nI a - nI b ≤ nI 0 ↔ a ≤ b) := by
    intro a b ha hb
    constructor
    · intro q
      refine Classical.byContradiction fun z => ?_
      rw [pk_sub (by omega), nI_leI (by omega) (by omega)] at q
      omega
    · intro q
      rcases Nat.lt_or_ge a b with z | z
      · exact Int32.le_of_lt (pk_sneg (by omega) z)
      · rw [pk_sub z, show a - b = 0 by omega]
        decide
  intro d
  induction d with
  | zero =>
    intro f n hf hn
    obtain ⟨m, rfl⟩ : ∃ m, n = m + 1 := ⟨n - 1, by omega⟩
    have c : S 1 0 ≤ f := by omega
    have b := zs_sum_le g set hk (n := f) (by omega)
    refine ⟨nI w - nI (zs_sum S set k f), ?_, ?_⟩
    · rw [fX6_isEnough_L22, h.c, if_pos (nI_le (show _ ≤ _ by omega) (by omega))]
    · rw [neg (by omega) (by omega), show f = S 1 0 by omega]
  | succ d ih =>
    intro f n hf hn
    obtain ⟨m, rfl⟩ : ∃ m, n = m + 1 := ⟨n - 1, by omega⟩
    have c : ¬ S 1 0 ≤ f := by omega
    have b := zs_sum_le g set hk (n := f) (by omega)
    have b2 := zs_sum_le g set hk (n := f + 1) (by omega)
    have mono := zs_sum_step S set k (show f ≤ S 1 0 by omega)
    have ih1 := ih (f + 1) m (by omega) (by omega)
    have e : zs_sum S set k (f + 1) = zs_sum S set k f + (if set.testBit f then S 5 (f * 10 + k) else 0) := rfl
    have e1 := zx_countIn h.t (f := f) (by omega) hk
    have zb := zn_bit0 (n := set) (f := f) (by omega) (by omega)
    by_cases c2 : w ≤ zs_sum S set k f
    · refine ⟨nI w - nI (zs_sum S set k f), ?_, ?_⟩
      · rw [fX6_isEnough_L22, h.c, if_neg (nI_ge (show _ < _ by omega) (by omega)), show (0 : Int32) = nI 0 from rfl, if_pos ((neg (by omega) (by omega)).mpr c2)]
      · rw [neg (by omega) (by omega)]
        omega
    · obtain ⟨z, h1, h2⟩ := ih1
      refine ⟨z, ?_, h2⟩
      rw [e] at h1
      rw [fX6_isEnough_L22, h.c, if_neg (nI_ge (show _ < _ by omega) (by omega)), show (0 : Int32) = nI 0 from rfl, if_neg (fun a => c2 ((neg (by omega) (by omega)).mp a)), show (31 : Int32) = nI 31 from rfl, show (1 : Int32) = nI 1 from rfl]
      cases q : set.testBit f
      · rw [q] at h1 zb
        rw [if_pos (zb.mpr rfl)]
        rw [show (if false = true then S 5 (f * 10 + k) else 0) = 0 from rfl, Nat.add_zero] at h1
        show fX6_isEnough_L22 M m kx (nI r) (nI set) (nI k) _ (nI f + nI 1) = _
        rw [nI_add]
        exact h1
      · rw [q] at h1 zb
        rw [if_neg (fun a => absurd (zb.mp a) (by decide)), e1, zn_bs]
        rw [show (if true = true then S 5 (f * 10 + k) else 0) = S 5 (f * 10 + k) from rfl, ← nI_add, zn_sub_add] at h1
        show fX6_isEnough_L22 M m kx (nI r) (nI set) (nI k) _ (nI f + nI 1) = _
        rw [nI_add]
        exact h1
def zs_less (S : SM) (r set k : Nat) : Bool := decide (zs_sum S set k (S 1 0) < S 15 (r * 10 + k))
/-- the set can serve the order -/
def zs_en (S : SM) (r set : Nat) : Bool := !(zs_any (zs_less S r set) 10 0)
theorem zx_isEnough_L (h : RX M S) (g : GX u S) {r set : Nat} (hr : r < S 14 0) (hs : set < 2 ^ 12) (k1 k2 : Unit → Option Int32) : ∀ d k n, k + d = 10 → d < n → fX6_isEnough_L2 M n k1 k2 (nI r) (nI set) (nI k) = bif zs_any (zs_less S r set) d k then k1 () else k2 () := by
  have h8 := g.o8
  intro d
  induction d with
  | zero =>
    intro k n hk hn
    obtain ⟨m, rfl⟩ : ∃ m, n = m + 1 := ⟨n - 1, by omega⟩
    obtain rfl : k = 10 := by omega
    rw [fX6_isEnough_L2]
    simp (disch := omega) only [li0, li1, li2, li3, li4, li5, li6, li7, li8, li9, li10, li12, li13, li14, li15, li19, li20, li31, li33, li40, li42, li44, li48, li57, li60, li99, li100, li126, li150, li176, li177, li187, li197, li207, li208, li223, li304, li608, li1520, li1824, nI_add, pk_mul, nI_clamp, nI_leI, nI_ltI, nI_eq, zn_inb, zn_gd, zn_bs, zn_isb, not_true_eq_false, not_false_eq_true, ↓reduceIte, pk_div, pk_sub, zn_rem20, zn_rem2, zn_m1, zn_eqw, zn_weq, zn_weq2, zn_wlt0, zn_wltn, zn_win, zn_wcl, zn_wadd, Nat.not_lt_zero, Nat.one_ne_zero, Nat.zero_ne_one, Nat.le_refl, Nat.zero_le, zn_sel_r, zn_sel_l]
    rfl
  | succ d ih =>
    intro k n hk hn
    obtain ⟨m, rfl⟩ : ∃ m, n = m + 1 := ⟨n - 1, by omega⟩
    have c : ¬ 10 ≤ k := by omega
    have e := zx_wantedOf h (r := r) (k := k) (by omega) (by omega)
    have b := g.wn r k hr (by omega)
    obtain ⟨z, h1, h2⟩ := zx_isEnough_L1 h g (r := r) hs (show k < 10 by omega) _ b (fun (l1 : Int32) (l2 : Int32) (l3 : Int32) (l4 : Int32) => if l4 ≤ 0 then (fX6_isEnough_L2 M m k1 k2 l1 l2 (l3 + (1 : Int32))) else (k1 ())) (S 1 0) 0 5000 (by omega) (by have := g.c12; omega)
    rw [show zs_sum S set k 0 = 0 from rfl, show ∀ x : Int32, x - nI 0 = x from fun x => Int32.sub_zero x] at h1
    rw [zs_any, fX6_isEnough_L2, show (10 : Int32) = nI 10 from rfl, if_neg (nI_ge (show _ < _ by omega) (by omega)), e, zn_bs]
    refine h1.trans ?_
    by_cases q : S 15 (r * 10 + k) ≤ zs_sum S set k (S 1 0)
    · rw [show zs_less S r set k = false from decide_eq_false (by omega), Bool.false_or]
      show (if z ≤ nI 0 then _ else _) = _
      rw [if_pos (h2.mpr q), show (1 : Int32) = nI 1 from rfl, nI_add]
      exact ih (k + 1) m (by omega) (by omega)
    · rw [show zs_less S r set k = true from decide_eq_true (by omega), Bool.true_or, cond_true]
      show (if z ≤ nI 0 then _ else _) = _
      rw [if_neg (fun a => q (h2.mp a))]
theorem zx_isEnough (h : RX M S) (g : GX u S) {r set : Nat} (hr : r < S 14 0) (hs : set < 2 ^ 12) : fX6_isEnough M (nI r) (nI set) = some (nI (bif zs_en S r set then 1 else 0)) := by
  unfold fX6_isEnough zs_en
  refine (zx_isEnough_L h g hr hs _ _ 10 0 5000 (by omega) (by omega)).trans ?_
  cases zs_any (zs_less S r set) 10 0 <;> rfl
theorem zn_full {n : Nat} (hn : n ≤ 12) : (nI 1 <<< (nI n &&& nI 31)) - nI 1 = nI (2 ^ n - 1) := zn_mask (by omega)
theorem zn_fullt (n : Nat) {f : Nat} (h : f < n) : (2 ^ n - 1).testBit f = true := by
  rw [Nat.testBit_two_pow_sub_one]
  exact decide_eq_true h
theorem zn_full12 {n : Nat} (hn : n ≤ 12) : 2 ^ n ≤ 2 ^ 12 := Nat.pow_le_pow_right (by decide) hn
def zs_lack (S : SM) (r k : Nat) : Bool := decide (zs_stock S k < S 15 (r * 10 + k))
/-- the order can be served -/
def zs_can (S : SM) (r : Nat) : Bool := !(zs_any (zs_lack S r) 10 0)
theorem zs_sum_full (S : SM) (k : Nat) : zs_sum S (2 ^ S 1 0 - 1) k (S 1 0) = zs_stock S k := by
  unfold zs_sum zs_stock
  exact fb_sm_cong (fun f hf => by rw [zn_fullt _ hf]; rfl)
theorem zs_en_full (S : SM) (r : Nat) : zs_en S r (2 ^ S 1 0 - 1) = zs_can S r := by
  unfold zs_en zs_can
  congr 1
  refine zs_any_c (fun k _ _ => ?_)
  unfold zs_less zs_lack
  rw [zs_sum_full]
theorem zx_isServable (h : RX M S) (g : GX u S) {r : Nat} (hr : r < S 14 0) : fX6_isServable M (nI r) = some (nI (bif zs_can S r then 1 else 0)) := by
  have hc := g.c12
  have p := zn_full12 hc
  have p0 := Nat.two_pow_pos (S 1 0)
  have e := zx_isEnough h g hr (set := 2 ^ S 1 0 - 1) (by omega)
  rw [zs_en_full] at e
  unfold fX6_isServable
  rw [h.c, show (31 : Int32) = nI 31 from rfl, show (1 : Int32) = nI 1 from rfl, zn_full hc, e, zn_bs]
  cases zs_can S r <;> rfl
end

