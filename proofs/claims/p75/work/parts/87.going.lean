set_option maxHeartbeats 400000
/-! the fewest shelves, by going -/
theorem zn_sub_le0 {a b : Nat} (ha : a < 2 ^ 30) (hb : b < 2 ^ 30) : nI a - nI b ≤ nI 0 ↔ a ≤ b := by
  constructor
  · intro q
    refine Classical.byContradiction fun z => ?_
    rw [pk_sub (by omega), nI_leI (by omega) (by omega)] at q
    omega
  · intro q
    rcases Nat.lt_or_ge a b with z | z
    · exact Int32.le_of_lt (pk_sneg (by omega) z)
    · rw [pk_sub z, show a - b = 0 by omega]
      decide
theorem zg_bit (T s j : Nat) : (T ||| 2 ^ s).testBit j = (T.testBit j || decide (s = j)) := by
  rw [Nat.testBit_or, Nat.testBit_two_pow]
theorem zg_bits {T s : Nat} (hs : s < 12) (h : T.testBit s = false) : zs_bits (T ||| 2 ^ s) = zs_bits T + 1 := by
  have u : fb_sm (fun k => if k = s then 1 else T / 2 ^ k % 2) 12 + T / 2 ^ s % 2 = zs_bits T + 1 := fb_sm_upd (fun j => T / 2 ^ j % 2) 1 hs
  have e : zs_bits (T ||| 2 ^ s) = fb_sm (fun k => if k = s then 1 else T / 2 ^ k % 2) 12 := fb_sm_cong (fun j hj => by
    have b := zg_bit T s j
    rw [zn_tb, zn_tb, ← Bool.decide_or, decide_eq_decide] at b
    have q1 : (T ||| 2 ^ s) / 2 ^ j % 2 < 2 := Nat.mod_lt _ (by decide)
    have q2 : T / 2 ^ j % 2 < 2 := Nat.mod_lt _ (by decide)
    show (T ||| 2 ^ s) / 2 ^ j % 2 = if j = s then 1 else T / 2 ^ j % 2
    generalize (T ||| 2 ^ s) / 2 ^ j % 2 = x at *
    generalize T / 2 ^ j % 2 = y at *
    by_cases e : j = s
    · rw [if_pos e]
      exact b.mpr (Or.inr e.symm)
    · rw [if_neg e]
      omega)
  rw [zn_tb] at h
  have h0 := of_decide_eq_false h
  have q2 : T / 2 ^ s % 2 < 2 := Nat.mod_lt _ (by decide)
  omega
theorem zg_sum (S : SM) {T s k n : Nat} (hs : s < n) (h : T.testBit s = false) : zs_sum S (T ||| 2 ^ s) k n = zs_sum S T k n + S 5 (s * 10 + k) := by
  have u : fb_sm (fun j => if j = s then S 5 (s * 10 + k) else if T.testBit j then S 5 (j * 10 + k) else 0) n + (if T.testBit s then S 5 (s * 10 + k) else 0) = zs_sum S T k n + S 5 (s * 10 + k) := fb_sm_upd (fun f => if T.testBit f then S 5 (f * 10 + k) else 0) (S 5 (s * 10 + k)) hs
  have e : zs_sum S (T ||| 2 ^ s) k n = fb_sm (fun j => if j = s then S 5 (s * 10 + k) else if T.testBit j then S 5 (j * 10 + k) else 0) n := fb_sm_cong (fun j hj => by
    show (if (T ||| 2 ^ s).testBit j then S 5 (j * 10 + k) else 0) = _
    rw [zg_bit]
    by_cases e : j = s
    · rw [if_pos e, e, decide_eq_true (rfl : s = s), Bool.or_true, if_pos rfl]
    · rw [if_neg e, decide_eq_false (fun a => e a.symm), Bool.or_false])
  rw [h, if_neg (by decide)] at u
  omega
theorem zg_mono (S : SM) {T T' k n : Nat} (h : ∀ j, j < n → T.testBit j = true → T'.testBit j = true) : zs_sum S T k n ≤ zs_sum S T' k n := fb_sm_le (fun j hj => by
  show (if T.testBit j then S 5 (j * 10 + k) else 0) ≤ (if T'.testBit j then S 5 (j * 10 + k) else 0)
  cases b : T.testBit j
  · rw [if_neg (by decide)]
    exact Nat.zero_le _
  · rw [h j hj b]
    exact Nat.le_refl _)
theorem zg_m1 (x : Int32) : wI 0 * x = -x := by
  rw [wI_0, Int32.neg_mul, Int32.one_mul]
theorem zg_isLacking_L {L : Mem} {p : Nat → Bool} (h : ∀ k, k < 10 → (L 0 k ≤ nI 0 ↔ p k = false)) (k1 k2 : Unit → Option Int32) : ∀ d k n, k + d = 10 → d < n → fX8_isLacking_L2 L n k1 k2 (nI k) = bif zs_any p d k then k1 () else k2 () := by
  intro d
  induction d with
  | zero =>
    intro k n hk hn
    obtain ⟨m, rfl⟩ : ∃ m, n = m + 1 := ⟨n - 1, by omega⟩
    obtain rfl : k = 10 := by omega
    rw [fX8_isLacking_L2]
    simp (disch := omega) only [li0, li1, li2, li3, li4, li5, li6, li7, li8, li9, li10, li12, li13, li14, li15, li19, li20, li31, li33, li40, li42, li44, li48, li57, li60, li99, li100, li126, li150, li176, li177, li187, li197, li207, li208, li223, li304, li608, li1520, li1824, nI_add, pk_mul, nI_clamp, nI_leI, nI_ltI, nI_eq, zn_inb, zn_gd, zn_bs, zn_isb, not_true_eq_false, not_false_eq_true, ↓reduceIte, pk_div, pk_sub, zn_rem20, zn_rem2, zn_m1, zn_eqw, zn_weq, zn_weq2, zn_wlt0, zn_wltn, zn_win, zn_wcl, zn_wadd, Nat.not_lt_zero, Nat.one_ne_zero, Nat.zero_ne_one, Nat.le_refl, Nat.zero_le, zn_sel_r, zn_sel_l]
    rfl
  | succ d ih =>
    intro k n hk hn
    obtain ⟨m, rfl⟩ : ∃ m, n = m + 1 := ⟨n - 1, by omega⟩
    have c : ¬ 10 ≤ k := by omega
    have e := h k (by omega)
    have ih1 := ih (k + 1) m (by omega) (by omega)
    rw [fX8_isLacking_L2, zs_any]
    cases q : p k
    · have e1 := eq_true (e.mpr q)
      simp (disch := omega) only [li0, li1, li2, li3, li4, li5, li6, li7, li8, li9, li10, li12, li13, li14, li15, li19, li20, li31, li33, li40, li42, li44, li48, li57, li60, li99, li100, li126, li150, li176, li177, li187, li197, li207, li208, li223, li304, li608, li1520, li1824, nI_add, pk_mul, nI_clamp, nI_leI, nI_ltI, nI_eq, zn_inb, zn_gd, zn_bs, zn_isb, not_true_eq_false, not_false_eq_true, ↓reduceIte, pk_div, pk_sub, zn_rem20, zn_rem2, zn_m1, zn_eqw, zn_weq, zn_weq2, zn_wlt0, zn_wltn, zn_win, zn_wcl, zn_wadd, Nat.not_lt_zero, Nat.one_ne_zero, Nat.zero_ne_one, Nat.le_refl, Nat.zero_le, zn_sel_r, zn_sel_l, c, e1, Bool.false_or]
      exact ih1
    · have e1 := eq_false (fun a => Bool.noConfusion (q.symm.trans (e.mp a)))
      simp (disch := omega) only [li0, li1, li2, li3, li4, li5, li6, li7, li8, li9, li10, li12, li13, li14, li15, li19, li20, li31, li33, li40, li42, li44, li48, li57, li60, li99, li100, li126, li150, li176, li177, li187, li197, li207, li208, li223, li304, li608, li1520, li1824, nI_add, pk_mul, nI_clamp, nI_leI, nI_ltI, nI_eq, zn_inb, zn_gd, zn_bs, zn_isb, not_true_eq_false, not_false_eq_true, ↓reduceIte, pk_div, pk_sub, zn_rem20, zn_rem2, zn_m1, zn_eqw, zn_weq, zn_weq2, zn_wlt0, zn_wltn, zn_win, zn_wcl, zn_wadd, Nat.not_lt_zero, Nat.one_ne_zero, Nat.zero_ne_one, Nat.le_refl, Nat.zero_le, zn_sel_r, zn_sel_l, c, e1, Bool.true_or, cond_true]
theorem zg_isLacking {L : Mem} {p : Nat → Bool} (h : ∀ k, k < 10 → (L 0 k ≤ nI 0 ↔ p k = false)) : fX8_isLacking L = some (nI (bif zs_any p 10 0 then 1 else 0)) := by
  unfold fX8_isLacking
  refine (zg_isLacking_L h _ _ 10 0 5000 (by omega) (by omega)).trans ?_
  cases zs_any p 10 0 <;> rfl
section
variable {T0 M : Mem} {S : SM} {u : Nat}
theorem zx_helps_L (h : RT M S) {s : Nat} (hs : s < 12) (b : ∀ k, k < 10 → S 5 (s * 10 + k) ≤ 150) {p : Nat → Bool} (hp : ∀ k, k < 10 → (M 5 k ≤ nI 0 ↔ p k = false)) (k1 k2 : Unit → Option Int32) : ∀ d k n, k + d = 10 → d < n → fX7_helps_L2 M n k1 k2 (nI s) (nI k) = bif zs_any (fun k => p k && decide (0 < S 5 (s * 10 + k))) d k then k1 () else k2 () := by
  intro d
  induction d with
  | zero =>
    intro k n hk hn
    obtain ⟨m, rfl⟩ : ∃ m, n = m + 1 := ⟨n - 1, by omega⟩
    obtain rfl : k = 10 := by omega
    rw [fX7_helps_L2]
    simp (disch := omega) only [li0, li1, li2, li3, li4, li5, li6, li7, li8, li9, li10, li12, li13, li14, li15, li19, li20, li31, li33, li40, li42, li44, li48, li57, li60, li99, li100, li126, li150, li176, li177, li187, li197, li207, li208, li223, li304, li608, li1520, li1824, nI_add, pk_mul, nI_clamp, nI_leI, nI_ltI, nI_eq, zn_inb, zn_gd, zn_bs, zn_isb, not_true_eq_false, not_false_eq_true, ↓reduceIte, pk_div, pk_sub, zn_rem20, zn_rem2, zn_m1, zn_eqw, zn_weq, zn_weq2, zn_wlt0, zn_wltn, zn_win, zn_wcl, zn_wadd, Nat.not_lt_zero, Nat.one_ne_zero, Nat.zero_ne_one, Nat.le_refl, Nat.zero_le, zn_sel_r, zn_sel_l]
    rfl
  | succ d ih =>
    intro k n hk hn
    obtain ⟨m, rfl⟩ : ∃ m, n = m + 1 := ⟨n - 1, by omega⟩
    have c : ¬ 10 ≤ k := by omega
    have e := hp k (by omega)
    have e2 := zx_countIn h hs (k := k) (by omega)
    have b1 := b k (by omega)
    have ih1 := ih (k + 1) m (by omega) (by omega)
    rw [fX7_helps_L2, zs_any]
    cases q : p k
    · have e1 := eq_true (e.mpr q)
      simp (disch := omega) only [li0, li1, li2, li3, li4, li5, li6, li7, li8, li9, li10, li12, li13, li14, li15, li19, li20, li31, li33, li40, li42, li44, li48, li57, li60, li99, li100, li126, li150, li176, li177, li187, li197, li207, li208, li223, li304, li608, li1520, li1824, nI_add, pk_mul, nI_clamp, nI_leI, nI_ltI, nI_eq, zn_inb, zn_gd, zn_bs, zn_isb, not_true_eq_false, not_false_eq_true, ↓reduceIte, pk_div, pk_sub, zn_rem20, zn_rem2, zn_m1, zn_eqw, zn_weq, zn_weq2, zn_wlt0, zn_wltn, zn_win, zn_wcl, zn_wadd, Nat.not_lt_zero, Nat.one_ne_zero, Nat.zero_ne_one, Nat.le_refl, Nat.zero_le, zn_sel_r, zn_sel_l, c, e1, fX7_helps_B31, Bool.false_and, Bool.false_or]
      exact ih1
    · have e1 := eq_false (fun a => Bool.noConfusion (q.symm.trans (e.mp a)))
      by_cases z : S 5 (s * 10 + k) ≤ 0
      · have z2 : ¬ 0 < S 5 (s * 10 + k) := by omega
        simp (disch := omega) only [li0, li1, li2, li3, li4, li5, li6, li7, li8, li9, li10, li12, li13, li14, li15, li19, li20, li31, li33, li40, li42, li44, li48, li57, li60, li99, li100, li126, li150, li176, li177, li187, li197, li207, li208, li223, li304, li608, li1520, li1824, nI_add, pk_mul, nI_clamp, nI_leI, nI_ltI, nI_eq, zn_inb, zn_gd, zn_bs, zn_isb, not_true_eq_false, not_false_eq_true, ↓reduceIte, pk_div, pk_sub, zn_rem20, zn_rem2, zn_m1, zn_eqw, zn_weq, zn_weq2, zn_wlt0, zn_wltn, zn_win, zn_wcl, zn_wadd, Nat.not_lt_zero, Nat.one_ne_zero, Nat.zero_ne_one, Nat.le_refl, Nat.zero_le, zn_sel_r, zn_sel_l, c, e1, e2, z, z2, fX7_helps_B31, Bool.true_and, decide_false, Bool.false_or]
        exact ih1
      · have z2 : 0 < S 5 (s * 10 + k) := by omega
        simp (disch := omega) only [li0, li1, li2, li3, li4, li5, li6, li7, li8, li9, li10, li12, li13, li14, li15, li19, li20, li31, li33, li40, li42, li44, li48, li57, li60, li99, li100, li126, li150, li176, li177, li187, li197, li207, li208, li223, li304, li608, li1520, li1824, nI_add, pk_mul, nI_clamp, nI_leI, nI_ltI, nI_eq, zn_inb, zn_gd, zn_bs, zn_isb, not_true_eq_false, not_false_eq_true, ↓reduceIte, pk_div, pk_sub, zn_rem20, zn_rem2, zn_m1, zn_eqw, zn_weq, zn_weq2, zn_wlt0, zn_wltn, zn_win, zn_wcl, zn_wadd, Nat.not_lt_zero, Nat.one_ne_zero, Nat.zero_ne_one, Nat.le_refl, Nat.zero_le, zn_sel_r, zn_sel_l, c, e1, e2, z, z2, fX7_helps_B31, Bool.true_and, decide_true, Bool.true_or, cond_true]
theorem zx_helps (h : RT M S) {s : Nat} (hs : s < 12) (b : ∀ k, k < 10 → S 5 (s * 10 + k) ≤ 150) {p : Nat → Bool} (hp : ∀ k, k < 10 → (M 5 k ≤ nI 0 ↔ p k = false)) : fX7_helps M (nI s) = some (nI (bif zs_any (fun k => p k && decide (0 < S 5 (s * 10 + k))) 10 0 then 1 else 0)) := by
  unfold fX7_helps
  refine (zx_helps_L h hs b hp _ _ 10 0 5000 (by omega) (by omega)).trans ?_
  cases zs_any (fun k => p k && decide (0 < S 5 (s * 10 + k))) 10 0 <;> rfl
theorem zx_lend_L (h : RT M S) {s : Nat} (hs : s < 12) (v : Int32) {kx : Mem → Option Mem} {Q : Mem → Prop} {row : Nat → Int32} (hk : ∀ N, (∀ k, k < 10 → N 5 k = row k + v * nI (S 5 (s * 10 + k))) → ∃ z, kx N = some z ∧ Q z) : ∀ d j n N, j + d = 10 → d < n → (∀ k, k < 10 → N 5 k = if k < j then row k + v * nI (S 5 (s * 10 + k)) else row k) → ∃ z, fX7_lend_L3 M n kx N (nI s) v (nI j) = some z ∧ Q z := by
  intro d
  induction d with
  | zero =>
    intro j n N hj hn hr
    obtain ⟨m, rfl⟩ : ∃ m, n = m + 1 := ⟨n - 1, by omega⟩
    obtain rfl : j = 10 := by omega
    rw [fX7_lend_L3]
    simp (disch := omega) only [li0, li1, li2, li3, li4, li5, li6, li7, li8, li9, li10, li12, li13, li14, li15, li19, li20, li31, li33, li40, li42, li44, li48, li57, li60, li99, li100, li126, li150, li176, li177, li187, li197, li207, li208, li223, li304, li608, li1520, li1824, nI_add, pk_mul, nI_clamp, nI_leI, nI_ltI, nI_eq, zn_inb, zn_gd, zn_bs, zn_isb, not_true_eq_false, not_false_eq_true, ↓reduceIte, pk_div, pk_sub, zn_rem20, zn_rem2, zn_m1, zn_eqw, zn_weq, zn_weq2, zn_wlt0, zn_wltn, zn_win, zn_wcl, zn_wadd, Nat.not_lt_zero, Nat.one_ne_zero, Nat.zero_ne_one, Nat.le_refl, Nat.zero_le, zn_sel_r, zn_sel_l]
    exact hk _ (fun k hk => (hr k hk).trans (if_pos hk))
  | succ d ih =>
    intro j n N hj hn hr
    obtain ⟨m, rfl⟩ : ∃ m, n = m + 1 := ⟨n - 1, by omega⟩
    have c : ¬ 10 ≤ j := by omega
    have e2 := zx_countIn (T := sr M 5 (N 5)) (S := S) h hs (k := j) (by omega)
    rw [fX7_lend_L3]
    simp (disch := omega) only [li0, li1, li2, li3, li4, li5, li6, li7, li8, li9, li10, li12, li13, li14, li15, li19, li20, li31, li33, li40, li42, li44, li48, li57, li60, li99, li100, li126, li150, li176, li177, li187, li197, li207, li208, li223, li304, li608, li1520, li1824, nI_add, pk_mul, nI_clamp, nI_leI, nI_ltI, nI_eq, zn_inb, zn_gd, zn_bs, zn_isb, not_true_eq_false, not_false_eq_true, ↓reduceIte, pk_div, pk_sub, zn_rem20, zn_rem2, zn_m1, zn_eqw, zn_weq, zn_weq2, zn_wlt0, zn_wltn, zn_win, zn_wcl, zn_wadd, Nat.not_lt_zero, Nat.one_ne_zero, Nat.zero_ne_one, Nat.le_refl, Nat.zero_le, zn_sel_r, zn_sel_l, c, e2]
    refine ih (j + 1) m _ (by omega) (by omega) (fun k hk => ?_)
    show upd (N 5) j (N 5 j + v * nI (S 5 (s * 10 + j))) k = _
    by_cases e : k = j
    · rw [e, up_s, if_pos (by omega), hr j (by omega), if_neg (by omega)]
    · rw [up_n e, hr k hk]
      by_cases b : k < j
      · rw [if_pos b, if_pos (by omega)]
      · rw [if_neg b, if_neg (by omega)]
theorem zx_lend (h : RT M S) {s : Nat} (hs : s < 12) (v : Int32) : ∃ z, fX7_lend M (nI s) v = some z ∧ ∀ k, k < 10 → z 5 k = M 5 k + v * nI (S 5 (s * 10 + k)) := by
  unfold fX7_lend
  simp (disch := omega) only [li0, li1, li2, li3, li4, li5, li6, li7, li8, li9, li10, li12, li13, li14, li15, li19, li20, li31, li33, li40, li42, li44, li48, li57, li60, li99, li100, li126, li150, li176, li177, li187, li197, li207, li208, li223, li304, li608, li1520, li1824, nI_add, pk_mul, nI_clamp, nI_leI, nI_ltI, nI_eq, zn_inb, zn_gd, zn_bs, zn_isb, not_true_eq_false, not_false_eq_true, ↓reduceIte, pk_div, pk_sub, zn_rem20, zn_rem2, zn_m1, zn_eqw, zn_weq, zn_weq2, zn_wlt0, zn_wltn, zn_win, zn_wcl, zn_wadd, Nat.not_lt_zero, Nat.one_ne_zero, Nat.zero_ne_one, Nat.le_refl, Nat.zero_le, zn_sel_r, zn_sel_l]
  refine zx_lend_L (M := M) h hs v (Q := fun z => ∀ k, k < 10 → z 5 k = M 5 k + v * nI (S 5 (s * 10 + k))) (row := M 5) (fun N hN => ?_) 10 0 5000 M (by omega) (by omega) (fun k hk => (if_neg (by omega)).symm)
  exact ⟨_, rfl, hN⟩
def zg_ext (S : SM) (T s T' : Nat) : Prop := T' < 2 ^ S 1 0 ∧ ∀ j, j < s → T'.testBit j = T.testBit j
theorem zg_from (g : GX u S) {r : Nat} (hr : r < S 14 0) : ∀ n s T w M, RT M S → S 1 0 < s + n → s ≤ S 1 0 → T < 2 ^ s → zs_bits T < w → w ≤ 13 → (∀ k, k < 10 → M 5 k = nI (S 15 (r * 10 + k)) - nI (zs_sum S T k (S 1 0))) → ∃ res z, fX8_fewestFrom n M (nI s) (nI (zs_bits T)) (nI w) = some (nI res, z) ∧ (∀ k, k < 10 → z 5 k = M 5 k) ∧ res ≤ w ∧ (∀ T', zg_ext S T s T' → zs_en S r T' = true → res ≤ zs_bits T') ∧ (res = w ∨ ∃ T', zg_ext S T s T' ∧ zs_en S r T' = true ∧ res = zs_bits T') := by
  have hc := g.c12
  have p12 := zn_full12 hc
  intro n
  induction n with
  | zero =>
    intro s T w M h hn hs
    omega
  | succ n ih =>
    intro s T w M h hn hs hT hb hw hrow
    have ps : 2 ^ s ≤ 2 ^ S 1 0 := Nat.pow_le_pow_right (by decide) hs
    have nT : ∀ j, s ≤ j → T.testBit j = false := fun j hj => Nat.testBit_lt_two_pow (Nat.lt_of_lt_of_le hT (Nat.pow_le_pow_right (by decide) hj))
    have lk : ∀ k, k < 10 → (M 5 k ≤ nI 0 ↔ zs_less S r T k = false) := fun k hk => by
      have b1 := zs_sum_le g T hk (Nat.le_refl (S 1 0))
      have b2 := g.wn r k hr hk
      rw [hrow k hk, zn_sub_le0 (by omega) (by omega)]
      unfold zs_less
      constructor
      · intro a
        exact decide_eq_false (by omega)
      · intro a
        have := of_decide_eq_false a
        omega
    have sub : ∀ T', zg_ext S T s T' → ∀ j, T.testBit j = true → T'.testBit j = true := fun T' x j tb => by
      by_cases js : j < s
      · rw [x.2 j js]
        exact tb
      · rw [nT j (by omega)] at tb
        cases tb
    have el := zg_isLacking (L := ofs 5 M) (p := zs_less S r T) lk
    have e0 := h.1
    rw [fX8_fewestFrom]
    cases q : zs_any (zs_less S r T) 10 0
    · rw [q, cond_false] at el
      have en : zs_en S r T = true := by
        unfold zs_en
        rw [q]
        rfl
      refine ⟨zs_bits T, M, ?_, fun _ _ => rfl, by omega, fun T' e1 _ => zs_bits_mono (fun j _ tb => sub T' e1 j tb), Or.inr ⟨T, ⟨by omega, fun _ _ => rfl⟩, en, rfl⟩⟩
      simp (disch := omega) only [li0, li1, li2, li3, li4, li5, li6, li7, li8, li9, li10, li12, li13, li14, li15, li19, li20, li31, li33, li40, li42, li44, li48, li57, li60, li99, li100, li126, li150, li176, li177, li187, li197, li207, li208, li223, li304, li608, li1520, li1824, nI_add, pk_mul, nI_clamp, nI_leI, nI_ltI, nI_eq, zn_inb, zn_gd, zn_bs, zn_isb, not_true_eq_false, not_false_eq_true, ↓reduceIte, pk_div, pk_sub, zn_rem20, zn_rem2, zn_m1, zn_eqw, zn_weq, zn_weq2, zn_wlt0, zn_wltn, zn_win, zn_wcl, zn_wadd, Nat.not_lt_zero, Nat.one_ne_zero, Nat.zero_ne_one, Nat.le_refl, Nat.zero_le, zn_sel_r, zn_sel_l, el]
    · rw [q, cond_true] at el
      have ne : zs_en S r T = false := by
        unfold zs_en
        rw [q]
        rfl
      by_cases c : S 1 0 ≤ s
      · refine ⟨w, sr M 5 (M 5), ?_, fun _ _ => rfl, Nat.le_refl _, fun T' e1 e2 => ?_, Or.inl rfl⟩
        · simp (disch := omega) only [li0, li1, li2, li3, li4, li5, li6, li7, li8, li9, li10, li12, li13, li14, li15, li19, li20, li31, li33, li40, li42, li44, li48, li57, li60, li99, li100, li126, li150, li176, li177, li187, li197, li207, li208, li223, li304, li608, li1520, li1824, nI_add, pk_mul, nI_clamp, nI_leI, nI_ltI, nI_eq, zn_inb, zn_gd, zn_bs, zn_isb, not_true_eq_false, not_false_eq_true, ↓reduceIte, pk_div, pk_sub, zn_rem20, zn_rem2, zn_m1, zn_eqw, zn_weq, zn_weq2, zn_wlt0, zn_wltn, zn_win, zn_wcl, zn_wadd, Nat.not_lt_zero, Nat.one_ne_zero, Nat.zero_ne_one, Nat.le_refl, Nat.zero_le, zn_sel_r, zn_sel_l, el, e0, c, fX8_fewestFrom_B31]
        · exfalso
          have : T' = T := by
            apply Nat.eq_of_testBit_eq
            intro j
            by_cases js : j < s
            · exact e1.2 j js
            · rw [nT j (by omega)]
              exact Nat.testBit_lt_two_pow (Nat.lt_of_lt_of_le e1.1 (Nat.pow_le_pow_right (by decide) (by omega)))
          rw [this, ne] at e2
          cases e2
      · have c12 : ¬ 12 ≤ s := by omega
        have s12 : s < 12 := by omega
        have T1 : T < 2 ^ (s + 1) := by
          rw [Nat.pow_succ]
          omega
        by_cases cw : zs_bits T + 1 < w
        · have eh := zx_helps h s12 (fun k hk => g.1.2.2.2.2.1 s k (by omega) hk) lk
          cases qh : zs_any (fun k => zs_less S r T k && decide (0 < S 5 (s * 10 + k))) 10 0
          · rw [qh, cond_false] at eh
            obtain ⟨res, z, e1, e2, e3, e4, e5⟩ := ih (s + 1) T w (sr M 5 (M 5)) h (by omega) (by omega) T1 hb hw hrow
            refine ⟨res, sr M 5 (z 5), ?_, e2, e3, fun T' x1 x2 => ?_, e5.imp id (fun ⟨T', y1, y2, y3⟩ => ⟨T', ⟨y1.1, fun j hj => y1.2 j (by omega)⟩, y2, y3⟩)⟩
            · simp (disch := omega) only [li0, li1, li2, li3, li4, li5, li6, li7, li8, li9, li10, li12, li13, li14, li15, li19, li20, li31, li33, li40, li42, li44, li48, li57, li60, li99, li100, li126, li150, li176, li177, li187, li197, li207, li208, li223, li304, li608, li1520, li1824, nI_add, pk_mul, nI_clamp, nI_leI, nI_ltI, nI_eq, zn_inb, zn_gd, zn_bs, zn_isb, not_true_eq_false, not_false_eq_true, ↓reduceIte, pk_div, pk_sub, zn_rem20, zn_rem2, zn_m1, zn_eqw, zn_weq, zn_weq2, zn_wlt0, zn_wltn, zn_win, zn_wcl, zn_wadd, Nat.not_lt_zero, Nat.one_ne_zero, Nat.zero_ne_one, Nat.le_refl, Nat.zero_le, zn_sel_r, zn_sel_l, el, e0, c, c12, cw, eh, fX8_fewestFrom_B76, e1]
            · cases tb : T'.testBit s
              · exact e4 T' ⟨x1.1, fun j hj => by
                  rcases (show j < s ∨ j = s by omega) with a | rfl
                  · exact x1.2 j a
                  · rw [tb, nT _ (Nat.le_refl _)]⟩ x2
              · have b2 : ∀ j, (T' ^^^ 2 ^ s).testBit j = (T'.testBit j ^^ decide (s = j)) := fun j => by
                  rw [Nat.testBit_xor, Nat.testBit_two_pow]
                have b3 : (T' ^^^ 2 ^ s).testBit s = false := by
                  rw [b2, tb, decide_eq_true (rfl : s = s)]
                  rfl
                have b4 : ∀ j, j ≠ s → (T' ^^^ 2 ^ s).testBit j = T'.testBit j := fun j hj => by
                  rw [b2, decide_eq_false (fun a => hj a.symm), Bool.xor_false]
                have b5 : T' = (T' ^^^ 2 ^ s) ||| 2 ^ s := by
                  apply Nat.eq_of_testBit_eq
                  intro j
                  rw [zg_bit]
                  by_cases e : j = s
                  · rw [e, tb, decide_eq_true (rfl : s = s), Bool.or_true]
                  · rw [b4 j e, decide_eq_false (fun a => e a.symm), Bool.or_false]
                have b6 := zg_bits s12 b3
                rw [← b5] at b6
                have b7 := e4 (T' ^^^ 2 ^ s) ⟨Nat.xor_lt_two_pow x1.1 (Nat.pow_lt_pow_right (by decide) (by omega)), fun j hj => by
                  rcases (show j < s ∨ j = s by omega) with a | a
                  · rw [b4 j (by omega)]
                    exact x1.2 j a
                  · rw [a, b3, nT _ (Nat.le_refl _)]⟩ (zs_en_iff.mpr (fun k hk => by
                  have a := zs_en_iff.mp x2 k hk
                  rw [b5, zg_sum S (show s < S 1 0 by omega) b3] at a
                  have pk := zs_none0.mp qh k hk
                  cases l : zs_less S r T k
                  · have l2 : ¬ zs_sum S T k (S 1 0) < S 15 (r * 10 + k) := of_decide_eq_false l
                    have l3 := zg_mono S (T := T) (T' := T' ^^^ 2 ^ s) (k := k) (n := S 1 0) (fun j _ tj => by
                      by_cases e : j = s
                      · rw [e, nT _ (Nat.le_refl _)] at tj
                        cases tj
                      · rw [b4 j e]
                        exact sub T' x1 j tj)
                    omega
                  · rw [l, Bool.true_and] at pk
                    have := of_decide_eq_false pk
                    omega))
                omega
          · rw [qh, cond_true] at eh
            have nTs := nT s (Nat.le_refl _)
            have bT := zg_bits s12 nTs
            obtain ⟨z0, l1, l2⟩ := zx_lend h s12 (wI 0)
            obtain ⟨r1, z1, e1, e2, e3, e4, e5⟩ := ih (s + 1) (T ||| 2 ^ s) w (sr M 5 (z0 5)) h (by omega) (by omega) (Nat.or_lt_two_pow T1 (Nat.pow_lt_pow_right (by decide) (by omega))) (by omega) hw (fun k hk => by
              show z0 5 k = _
              rw [l2 k hk, zg_m1, hrow k hk, zn_sub_minus, zg_sum S (show s < S 1 0 by omega) nTs])
            rw [bT] at e1
            obtain ⟨z2, l3, l4⟩ := zx_lend (M := sr M 5 (z1 5)) (S := S) h s12 (nI 1)
            have r2 : ∀ k, k < 10 → z2 5 k = M 5 k := fun k hk => by
              rw [l4 k hk]
              show z1 5 k + _ = _
              rw [e2 k hk]
              show z0 5 k + _ = _
              rw [l2 k hk, zg_m1, show (nI 1 : Int32) = 1 from rfl, Int32.one_mul, Int32.add_assoc, Int32.add_left_neg, Int32.add_zero]
            have tr : zs_bits T < r1 := by
              rcases e5 with a | ⟨T', y1, y2, y3⟩
              · omega
              · have : zs_bits (T ||| 2 ^ s) ≤ zs_bits T' := zs_bits_mono (fun j _ tb => by
                  by_cases js : j < s + 1
                  · rw [y1.2 j js]
                    exact tb
                  · rw [zg_bit, nT j (by omega), decide_eq_false (by omega)] at tb
                    cases tb)
                omega
            obtain ⟨res, z3, f1, f2, f3, f4, f5⟩ := ih (s + 1) T r1 (sr M 5 (sr M 5 (z2 5) 5)) h (by omega) (by omega) T1 tr (by omega) (fun k hk => (r2 k hk).trans (hrow k hk))
            refine ⟨res, sr M 5 (z3 5), ?_, fun k hk => (f2 k hk).trans (r2 k hk), by omega, fun T' x1 x2 => ?_, ?_⟩
            · simp (disch := omega) only [li0, li1, li2, li3, li4, li5, li6, li7, li8, li9, li10, li12, li13, li14, li15, li19, li20, li31, li33, li40, li42, li44, li48, li57, li60, li99, li100, li126, li150, li176, li177, li187, li197, li207, li208, li223, li304, li608, li1520, li1824, nI_add, pk_mul, nI_clamp, nI_leI, nI_ltI, nI_eq, zn_inb, zn_gd, zn_bs, zn_isb, not_true_eq_false, not_false_eq_true, ↓reduceIte, pk_div, pk_sub, zn_rem20, zn_rem2, zn_m1, zn_eqw, zn_weq, zn_weq2, zn_wlt0, zn_wltn, zn_win, zn_wcl, zn_wadd, Nat.not_lt_zero, Nat.one_ne_zero, Nat.zero_ne_one, Nat.le_refl, Nat.zero_le, zn_sel_r, zn_sel_l, el, e0, c, c12, cw, eh, l1, e1, l3, fX8_fewestFrom_B76, f1]
            · cases tb : T'.testBit s
              · exact f4 T' ⟨x1.1, fun j hj => by
                  rcases (show j < s ∨ j = s by omega) with a | rfl
                  · exact x1.2 j a
                  · rw [tb, nT _ (Nat.le_refl _)]⟩ x2
              · have := e4 T' ⟨x1.1, fun j hj => by
                  rw [zg_bit]
                  rcases (show j < s ∨ j = s by omega) with a | rfl
                  · rw [x1.2 j a, decide_eq_false (by omega), Bool.or_false]
                  · rw [tb, decide_eq_true (rfl : j = j), Bool.or_true]⟩ x2
                omega
            · rcases f5 with a | ⟨T', y1, y2, y3⟩
              · rcases e5 with b | ⟨T', y1, y2, y3⟩
                · exact Or.inl (by omega)
                · refine Or.inr ⟨T', ⟨y1.1, fun j hj => ?_⟩, y2, by omega⟩
                  rw [y1.2 j (by omega), zg_bit, decide_eq_false (by omega), Bool.or_false]
              · exact Or.inr ⟨T', ⟨y1.1, fun j hj => y1.2 j (by omega)⟩, y2, y3⟩
        · refine ⟨w, sr M 5 (M 5), ?_, fun _ _ => rfl, Nat.le_refl _, fun T' e1 e2 => ?_, Or.inl rfl⟩
          · simp (disch := omega) only [li0, li1, li2, li3, li4, li5, li6, li7, li8, li9, li10, li12, li13, li14, li15, li19, li20, li31, li33, li40, li42, li44, li48, li57, li60, li99, li100, li126, li150, li176, li177, li187, li197, li207, li208, li223, li304, li608, li1520, li1824, nI_add, pk_mul, nI_clamp, nI_leI, nI_ltI, nI_eq, zn_inb, zn_gd, zn_bs, zn_isb, not_true_eq_false, not_false_eq_true, ↓reduceIte, pk_div, pk_sub, zn_rem20, zn_rem2, zn_m1, zn_eqw, zn_weq, zn_weq2, zn_wlt0, zn_wltn, zn_win, zn_wcl, zn_wadd, Nat.not_lt_zero, Nat.one_ne_zero, Nat.zero_ne_one, Nat.le_refl, Nat.zero_le, zn_sel_r, zn_sel_l, el, e0, c, c12, cw, fX8_fewestFrom_B31]
          · have T2 : T' < 2 ^ S 1 0 := e1.1
            have := zs_bits_strict (v := T) (w := T') (by omega) (by omega) (fun j _ tb => sub T' e1 j tb) (fun e => by
              rw [← e, ne] at e2
              cases e2)
            omega
end

