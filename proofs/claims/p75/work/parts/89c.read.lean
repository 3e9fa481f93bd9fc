set_option maxHeartbeats 400000
/-! the order's text, read by the class -/
def zp_put (W : Nat → Nat) (k c : Nat) : Bool × (Nat → Nat) := if 48 ≤ c ∧ c ≤ 57 then (decide (W k * 10 + (c - 48) ≤ 20), uw W k (W k * 10 + (c - 48))) else (false, W)
/-- one sign: state, the last kind + 1, the wants -/
def zp_step (st k : Nat) (W : Nat → Nat) (c : Nat) : Bool × Nat × Nat × (Nat → Nat) := if st = 0 then (if 48 + k ≤ c ∧ c < 58 then (true, 1, c - 47, W) else (false, 0, k, W)) else if st = 1 then (decide (c = 42), 2, k, W) else if st = 2 then (if c = 48 then (false, 3, k, W) else ((zp_put W (k - 1) c).1, 3, k, (zp_put W (k - 1) c).2)) else (if c = 44 then (decide (k < 10), 0, k, W) else ((zp_put W (k - 1) c).1, 3, k, (zp_put W (k - 1) c).2))
def zp_run (t : Nat → Nat) : Nat → Nat → Nat → Nat → (Nat → Nat) → Nat × Nat × (Nat → Nat)
  | 0, p, st, _, W => (p, st, W)
  | d + 1, p, st, k, W => bif (zp_step st k W (t p)).1 then zp_run t d (p + 1) (zp_step st k W (t p)).2.1 (zp_step st k W (t p)).2.2.1 (zp_step st k W (t p)).2.2.2 else (p, (zp_step st k W (t p)).2.1, (zp_step st k W (t p)).2.2.2)
def zp_ok (st k : Nat) (W : Nat → Nat) : Prop := st ≤ 3 ∧ k ≤ 10 ∧ (1 ≤ st → 1 ≤ k) ∧ ∀ i, i < 10 → W i ≤ 20
section
variable {T : Mem} {W : Nat → Nat}
theorem zx_readDigit {k c : Nat} (hk : k < 10) (hc : c ≤ 126) (h1 : T 0 1 = nI k) (hW : rn 10 (T 1) W) (hv : W k ≤ 20) : ∃ z, fX4_readDigit T (nI c) = some (nI (bif (zp_put W k c).1 then 1 else 0), z) ∧ z 0 = T 0 ∧ rn 10 (z 1) (zp_put W k c).2 := by
  have hw := hW k hk
  unfold fX4_readDigit zp_put
  by_cases a : c < 48
  · have n1 : nI c - nI 48 < nI 0 := pk_sneg (by omega) a
    have n2 := eq_true n1
    have q : ¬ (48 ≤ c ∧ c ≤ 57) := by omega
    rw [if_neg q]
    simp (disch := omega) only [li0, li1, li2, li3, li4, li5, li6, li7, li8, li9, li10, li12, li13, li14, li15, li19, li20, li31, li33, li40, li42, li44, li48, li57, li60, li99, li100, li126, li150, li176, li177, li187, li197, li207, li208, li223, li304, li608, li1520, li1824, nI_add, pk_mul, nI_clamp, nI_leI, nI_ltI, nI_eq, zn_inb, zn_gd, zn_bs, zn_isb, not_true_eq_false, not_false_eq_true, ↓reduceIte, pk_div, pk_sub, zn_rem20, zn_rem2, zn_m1, zn_eqw, zn_weq, zn_weq2, zn_wlt0, zn_wltn, zn_win, zn_wcl, zn_wadd, Nat.not_lt_zero, Nat.one_ne_zero, Nat.zero_ne_one, Nat.le_refl, Nat.zero_le, zn_sel_r, zn_sel_l, n2, fX4_readDigit_B31]
    exact ⟨_, rfl, rfl, hW⟩
  · by_cases b : c ≤ 57
    · rw [if_pos (show 48 ≤ c ∧ c ≤ 57 from ⟨by omega, b⟩)]
      have n3 : ¬ 9 < c - 48 := by omega
      have n4 : W k * 10 + (c - 48) ≤ 209 := by omega
      by_cases v : W k * 10 + (c - 48) ≤ 20
      · have v2 : ¬ 20 < W k * 10 + (c - 48) := by omega
        simp (disch := omega) only [li0, li1, li2, li3, li4, li5, li6, li7, li8, li9, li10, li12, li13, li14, li15, li19, li20, li31, li33, li40, li42, li44, li48, li57, li60, li99, li100, li126, li150, li176, li177, li187, li197, li207, li208, li223, li304, li608, li1520, li1824, nI_add, pk_mul, nI_clamp, nI_leI, nI_ltI, nI_eq, zn_inb, zn_gd, zn_bs, zn_isb, not_true_eq_false, not_false_eq_true, ↓reduceIte, pk_div, pk_sub, zn_rem20, zn_rem2, zn_m1, zn_eqw, zn_weq, zn_weq2, zn_wlt0, zn_wltn, zn_win, zn_wcl, zn_wadd, Nat.not_lt_zero, Nat.one_ne_zero, Nat.zero_ne_one, Nat.le_refl, Nat.zero_le, zn_sel_r, zn_sel_l, n3, h1, hk, hw, v, v2, up_s, fX4_readDigit_B75, decide_true, cond_true]
        exact ⟨_, rfl, rfl, rn_up hW _ _⟩
      · have v2 : 20 < W k * 10 + (c - 48) := by omega
        simp (disch := omega) only [li0, li1, li2, li3, li4, li5, li6, li7, li8, li9, li10, li12, li13, li14, li15, li19, li20, li31, li33, li40, li42, li44, li48, li57, li60, li99, li100, li126, li150, li176, li177, li187, li197, li207, li208, li223, li304, li608, li1520, li1824, nI_add, pk_mul, nI_clamp, nI_leI, nI_ltI, nI_eq, zn_inb, zn_gd, zn_bs, zn_isb, not_true_eq_false, not_false_eq_true, ↓reduceIte, pk_div, pk_sub, zn_rem20, zn_rem2, zn_m1, zn_eqw, zn_weq, zn_weq2, zn_wlt0, zn_wltn, zn_win, zn_wcl, zn_wadd, Nat.not_lt_zero, Nat.one_ne_zero, Nat.zero_ne_one, Nat.le_refl, Nat.zero_le, zn_sel_r, zn_sel_l, n3, h1, hk, hw, v, v2, up_s, fX4_readDigit_B75, decide_false, cond_false]
        exact ⟨_, rfl, rfl, rn_up hW _ _⟩
    · have q : ¬ (48 ≤ c ∧ c ≤ 57) := by omega
      have n3 : 9 < c - 48 := by omega
      rw [if_neg q]
      simp (disch := omega) only [li0, li1, li2, li3, li4, li5, li6, li7, li8, li9, li10, li12, li13, li14, li15, li19, li20, li31, li33, li40, li42, li44, li48, li57, li60, li99, li100, li126, li150, li176, li177, li187, li197, li207, li208, li223, li304, li608, li1520, li1824, nI_add, pk_mul, nI_clamp, nI_leI, nI_ltI, nI_eq, zn_inb, zn_gd, zn_bs, zn_isb, not_true_eq_false, not_false_eq_true, ↓reduceIte, pk_div, pk_sub, zn_rem20, zn_rem2, zn_m1, zn_eqw, zn_weq, zn_weq2, zn_wlt0, zn_wltn, zn_win, zn_wcl, zn_wadd, Nat.not_lt_zero, Nat.one_ne_zero, Nat.zero_ne_one, Nat.le_refl, Nat.zero_le, zn_sel_r, zn_sel_l, n3, fX4_readDigit_B31]
      exact ⟨_, rfl, rfl, hW⟩
theorem zn_lew {a k : Nat} (ha : a < 2 ^ 30) (hk : k < 2 ^ 30) : nI a ≤ wI k ↔ a + 1 ≤ k := by
  by_cases c : k = 0
  · subst c
    constructor
    · intro h
      have h2 : nI a < nI 0 := Int32.lt_of_le_of_lt h (by decide)
      exact absurd h2 (by rw [nI_ltI (by omega) (by omega)]; omega)
    · intro h
      omega
  · rw [wI_p (by omega), nI_leI (by omega) (by omega)]
    omega
theorem zx_readKind {k c : Nat} (hk : k ≤ 10) (hc : c ≤ 126) (h0 : T 0 0 = nI 0) (h1 : T 0 1 = wI k) : ∃ z, fX4_readKind T (nI c) = some (nI (bif (zp_step 0 k W c).1 then 1 else 0), z) ∧ z 0 0 = nI (zp_step 0 k W c).2.1 ∧ z 0 1 = wI (zp_step 0 k W c).2.2.1 := by
  unfold fX4_readKind zp_step
  rw [if_pos rfl]
  by_cases a : c < 48
  · have q : ¬ (48 + k ≤ c ∧ c < 58) := by omega
    have n2 := eq_true (show nI c - nI 48 < nI 0 from pk_sneg (by omega) a)
    rw [if_neg q]
    by_cases x : nI c - nI 48 ≤ wI k
    · have x2 := eq_true x
      simp (disch := omega) only [li0, li1, li2, li3, li4, li5, li6, li7, li8, li9, li10, li12, li13, li14, li15, li19, li20, li31, li33, li40, li42, li44, li48, li57, li60, li99, li100, li126, li150, li176, li177, li187, li197, li207, li208, li223, li304, li608, li1520, li1824, nI_add, pk_mul, nI_clamp, nI_leI, nI_ltI, nI_eq, zn_inb, zn_gd, zn_bs, zn_isb, not_true_eq_false, not_false_eq_true, ↓reduceIte, pk_div, pk_sub, zn_rem20, zn_rem2, zn_m1, zn_eqw, zn_weq, zn_weq2, zn_wlt0, zn_wltn, zn_win, zn_wcl, zn_wadd, Nat.not_lt_zero, Nat.one_ne_zero, Nat.zero_ne_one, Nat.le_refl, Nat.zero_le, zn_sel_r, zn_sel_l, h1, x2, fX4_readKind_B23]
      exact ⟨_, rfl, h0, h1⟩
    · have x2 := eq_false x
      simp (disch := omega) only [li0, li1, li2, li3, li4, li5, li6, li7, li8, li9, li10, li12, li13, li14, li15, li19, li20, li31, li33, li40, li42, li44, li48, li57, li60, li99, li100, li126, li150, li176, li177, li187, li197, li207, li208, li223, li304, li608, li1520, li1824, nI_add, pk_mul, nI_clamp, nI_leI, nI_ltI, nI_eq, zn_inb, zn_gd, zn_bs, zn_isb, not_true_eq_false, not_false_eq_true, ↓reduceIte, pk_div, pk_sub, zn_rem20, zn_rem2, zn_m1, zn_eqw, zn_weq, zn_weq2, zn_wlt0, zn_wltn, zn_win, zn_wcl, zn_wadd, Nat.not_lt_zero, Nat.one_ne_zero, Nat.zero_ne_one, Nat.le_refl, Nat.zero_le, zn_sel_r, zn_sel_l, h1, x2, n2, fX4_readKind_B23]
      exact ⟨_, rfl, h0, h1⟩
  · have lw := zn_lew (a := c - 48) (k := k) (by omega) (by omega)
    have es : nI c - nI 48 = nI (c - 48) := pk_sub (by omega)
    by_cases b : c - 48 + 1 ≤ k
    · have q : ¬ (48 + k ≤ c ∧ c < 58) := by omega
      have x2 := eq_true (lw.mpr b)
      rw [if_neg q]
      simp (disch := omega) only [li0, li1, li2, li3, li4, li5, li6, li7, li8, li9, li10, li12, li13, li14, li15, li19, li20, li31, li33, li40, li42, li44, li48, li57, li60, li99, li100, li126, li150, li176, li177, li187, li197, li207, li208, li223, li304, li608, li1520, li1824, nI_add, pk_mul, nI_clamp, nI_leI, nI_ltI, nI_eq, zn_inb, zn_gd, zn_bs, zn_isb, not_true_eq_false, not_false_eq_true, ↓reduceIte, pk_div, pk_sub, zn_rem20, zn_rem2, zn_m1, zn_eqw, zn_weq, zn_weq2, zn_wlt0, zn_wltn, zn_win, zn_wcl, zn_wadd, Nat.not_lt_zero, Nat.one_ne_zero, Nat.zero_ne_one, Nat.le_refl, Nat.zero_le, zn_sel_r, zn_sel_l, h1, x2, fX4_readKind_B23]
      exact ⟨_, rfl, h0, h1⟩
    · have x2 := eq_false (fun y => b (lw.mp y))
      by_cases d : c < 58
      · have q : 48 + k ≤ c ∧ c < 58 := by omega
        have n3 : c - 48 < 10 := by omega
        rw [if_pos q]
        simp (disch := omega) only [li0, li1, li2, li3, li4, li5, li6, li7, li8, li9, li10, li12, li13, li14, li15, li19, li20, li31, li33, li40, li42, li44, li48, li57, li60, li99, li100, li126, li150, li176, li177, li187, li197, li207, li208, li223, li304, li608, li1520, li1824, nI_add, pk_mul, nI_clamp, nI_leI, nI_ltI, nI_eq, zn_inb, zn_gd, zn_bs, zn_isb, not_true_eq_false, not_false_eq_true, ↓reduceIte, pk_div, pk_sub, zn_rem20, zn_rem2, zn_m1, zn_eqw, zn_weq, zn_weq2, zn_wlt0, zn_wltn, zn_win, zn_wcl, zn_wadd, Nat.not_lt_zero, Nat.one_ne_zero, Nat.zero_ne_one, Nat.le_refl, Nat.zero_le, zn_sel_r, zn_sel_l, h1, x2, n3]
        refine ⟨_, rfl, rfl, ?_⟩
        show nI (c - 48) = wI (c - 47)
        rw [wI_p (by omega)]
        congr 1
      · have q : ¬ (48 + k ≤ c ∧ c < 58) := by omega
        have n3 : ¬ c - 48 < 10 := by omega
        rw [if_neg q]
        simp (disch := omega) only [li0, li1, li2, li3, li4, li5, li6, li7, li8, li9, li10, li12, li13, li14, li15, li19, li20, li31, li33, li40, li42, li44, li48, li57, li60, li99, li100, li126, li150, li176, li177, li187, li197, li207, li208, li223, li304, li608, li1520, li1824, nI_add, pk_mul, nI_clamp, nI_leI, nI_ltI, nI_eq, zn_inb, zn_gd, zn_bs, zn_isb, not_true_eq_false, not_false_eq_true, ↓reduceIte, pk_div, pk_sub, zn_rem20, zn_rem2, zn_m1, zn_eqw, zn_weq, zn_weq2, zn_wlt0, zn_wltn, zn_win, zn_wcl, zn_wadd, Nat.not_lt_zero, Nat.one_ne_zero, Nat.zero_ne_one, Nat.le_refl, Nat.zero_le, zn_sel_r, zn_sel_l, h1, x2, n3, fX4_readKind_B23]
        exact ⟨_, rfl, h0, h1⟩
theorem zp_put_le {k c : Nat} (hv : ∀ i, i < 10 → W i ≤ 20) (h : (zp_put W k c).1 = true) : ∀ i, i < 10 → (zp_put W k c).2 i ≤ 20 := by
  unfold zp_put at h ⊢
  intro i hi
  split at h
  · rename_i q
    have h := of_decide_eq_true h
    rw [if_pos q]
    show uw W k _ i ≤ 20
    unfold uw
    split
    · exact h
    · exact hv i hi
  · cases h
theorem zp_step_ok {st k c : Nat} (h : zp_ok st k W) (hs : (zp_step st k W c).1 = true) : zp_ok (zp_step st k W c).2.1 (zp_step st k W c).2.2.1 (zp_step st k W c).2.2.2 := by
  obtain ⟨a1, a2, a3, a4⟩ := h
  unfold zp_step at hs ⊢
  by_cases s0 : st = 0
  · rw [if_pos s0] at hs ⊢
    by_cases q : 48 + k ≤ c ∧ c < 58
    · rw [if_pos q]
      exact ⟨by show 1 ≤ 3; omega, by show c - 47 ≤ 10; omega, fun _ => by show 1 ≤ c - 47; omega, a4⟩
    · rw [if_neg q] at hs
      cases hs
  · rw [if_neg s0] at hs ⊢
    have k1 := a3 (by omega)
    by_cases s1 : st = 1
    · rw [if_pos s1] at hs ⊢
      exact ⟨by show 2 ≤ 3; omega, a2, fun _ => k1, a4⟩
    · rw [if_neg s1] at hs ⊢
      by_cases s2 : st = 2
      · rw [if_pos s2] at hs ⊢
        by_cases q : c = 48
        · rw [if_pos q] at hs
          cases hs
        · rw [if_neg q] at hs ⊢
          exact ⟨Nat.le_refl 3, a2, fun _ => k1, zp_put_le a4 hs⟩
      · rw [if_neg s2] at hs ⊢
        by_cases q : c = 44
        · rw [if_pos q]
          exact ⟨Nat.zero_le _, a2, fun x => absurd x (by show ¬ 1 ≤ 0; omega), a4⟩
        · rw [if_neg q] at hs ⊢
          exact ⟨Nat.le_refl 3, a2, fun _ => k1, zp_put_le a4 hs⟩
theorem zx_read {st k c : Nat} (h : zp_ok st k W) (hc : c ≤ 126) (h0 : T 0 0 = nI st) (h1 : T 0 1 = wI k) (hW : rn 10 (T 1) W) : ∃ z, fX4_read T (nI c) = some (nI (bif (zp_step st k W c).1 then 1 else 0), z) ∧ z 0 0 = nI (zp_step st k W c).2.1 ∧ z 0 1 = wI (zp_step st k W c).2.2.1 ∧ rn 10 (z 1) (zp_step st k W c).2.2.2 := by
  obtain ⟨a1, a2, a3, a4⟩ := h
  unfold fX4_read
  rcases (show st = 0 ∨ st = 1 ∨ st = 2 ∨ st = 3 by omega) with rfl | rfl | rfl | rfl
  · obtain ⟨z, e1, e2, e3⟩ := zx_readKind (T := T) (W := W) a2 hc h0 h1
    have e4 : (zp_step 0 k W c).2.2.2 = W := by
      unfold zp_step
      rw [if_pos rfl]
      split <;> rfl
    rw [e4]
    have b : isb (nI (bif (zp_step 0 k W c).1 then 1 else 0)) = true := by cases (zp_step 0 k W c).1 <;> rfl
    simp (disch := omega) only [li0, li1, li2, li3, li4, li5, li6, li7, li8, li9, li10, li12, li13, li14, li15, li19, li20, li31, li33, li40, li42, li44, li48, li57, li60, li99, li100, li126, li150, li176, li177, li187, li197, li207, li208, li223, li304, li608, li1520, li1824, nI_add, pk_mul, nI_clamp, nI_leI, nI_ltI, nI_eq, zn_inb, zn_gd, zn_bs, zn_isb, not_true_eq_false, not_false_eq_true, ↓reduceIte, pk_div, pk_sub, zn_rem20, zn_rem2, zn_m1, zn_eqw, zn_weq, zn_weq2, zn_wlt0, zn_wltn, zn_win, zn_wcl, zn_wadd, Nat.not_lt_zero, Nat.one_ne_zero, Nat.zero_ne_one, Nat.le_refl, Nat.zero_le, zn_sel_r, zn_sel_l, h0, e1, b]
    exact ⟨_, rfl, e2, e3, hW⟩
  · unfold zp_step
    rw [if_neg (show ¬ (1 : Nat) = 0 by decide), if_pos (show (1 : Nat) = 1 from rfl)]
    by_cases q : c = 42
    · simp (disch := omega) only [li0, li1, li2, li3, li4, li5, li6, li7, li8, li9, li10, li12, li13, li14, li15, li19, li20, li31, li33, li40, li42, li44, li48, li57, li60, li99, li100, li126, li150, li176, li177, li187, li197, li207, li208, li223, li304, li608, li1520, li1824, nI_add, pk_mul, nI_clamp, nI_leI, nI_ltI, nI_eq, zn_inb, zn_gd, zn_bs, zn_isb, not_true_eq_false, not_false_eq_true, ↓reduceIte, pk_div, pk_sub, zn_rem20, zn_rem2, zn_m1, zn_eqw, zn_weq, zn_weq2, zn_wlt0, zn_wltn, zn_win, zn_wcl, zn_wadd, Nat.not_lt_zero, Nat.one_ne_zero, Nat.zero_ne_one, Nat.le_refl, Nat.zero_le, zn_sel_r, zn_sel_l, h0, q, fX4_read_B54, decide_true, cond_true]
      exact ⟨_, rfl, rfl, h1, hW⟩
    · simp (disch := omega) only [li0, li1, li2, li3, li4, li5, li6, li7, li8, li9, li10, li12, li13, li14, li15, li19, li20, li31, li33, li40, li42, li44, li48, li57, li60, li99, li100, li126, li150, li176, li177, li187, li197, li207, li208, li223, li304, li608, li1520, li1824, nI_add, pk_mul, nI_clamp, nI_leI, nI_ltI, nI_eq, zn_inb, zn_gd, zn_bs, zn_isb, not_true_eq_false, not_false_eq_true, ↓reduceIte, pk_div, pk_sub, zn_rem20, zn_rem2, zn_m1, zn_eqw, zn_weq, zn_weq2, zn_wlt0, zn_wltn, zn_win, zn_wcl, zn_wadd, Nat.not_lt_zero, Nat.one_ne_zero, Nat.zero_ne_one, Nat.le_refl, Nat.zero_le, zn_sel_r, zn_sel_l, h0, q, fX4_read_B54, decide_false, cond_false]
      exact ⟨_, rfl, rfl, h1, hW⟩
  · have k1 := a3 (by omega)
    have h2 : T 0 1 = nI (k - 1) := h1.trans (wI_p (by omega))
    obtain ⟨z, e1, e2, e3⟩ := zx_readDigit (T := sr T 0 (upd (T 0) 0 (nI 3))) (W := W) (k := k - 1) (c := c) (by omega) hc h2 hW (a4 _ (by omega))
    unfold zp_step
    rw [if_neg (show ¬ (2 : Nat) = 0 by decide), if_neg (show ¬ (2 : Nat) = 1 by decide), if_pos (show (2 : Nat) = 2 from rfl)]
    by_cases q : c = 48
    · rw [if_pos q]
      simp (disch := omega) only [li0, li1, li2, li3, li4, li5, li6, li7, li8, li9, li10, li12, li13, li14, li15, li19, li20, li31, li33, li40, li42, li44, li48, li57, li60, li99, li100, li126, li150, li176, li177, li187, li197, li207, li208, li223, li304, li608, li1520, li1824, nI_add, pk_mul, nI_clamp, nI_leI, nI_ltI, nI_eq, zn_inb, zn_gd, zn_bs, zn_isb, not_true_eq_false, not_false_eq_true, ↓reduceIte, pk_div, pk_sub, zn_rem20, zn_rem2, zn_m1, zn_eqw, zn_weq, zn_weq2, zn_wlt0, zn_wltn, zn_win, zn_wcl, zn_wadd, Nat.not_lt_zero, Nat.one_ne_zero, Nat.zero_ne_one, Nat.le_refl, Nat.zero_le, zn_sel_r, zn_sel_l, h0, q, fX4_read_B78, fX4_read_B79]
      exact ⟨_, rfl, rfl, h1, hW⟩
    · rw [if_neg q]
      cases b : (zp_put W (k - 1) c).1
      · rw [b, cond_false] at e1
        simp (disch := omega) only [li0, li1, li2, li3, li4, li5, li6, li7, li8, li9, li10, li12, li13, li14, li15, li19, li20, li31, li33, li40, li42, li44, li48, li57, li60, li99, li100, li126, li150, li176, li177, li187, li197, li207, li208, li223, li304, li608, li1520, li1824, nI_add, pk_mul, nI_clamp, nI_leI, nI_ltI, nI_eq, zn_inb, zn_gd, zn_bs, zn_isb, not_true_eq_false, not_false_eq_true, ↓reduceIte, pk_div, pk_sub, zn_rem20, zn_rem2, zn_m1, zn_eqw, zn_weq, zn_weq2, zn_wlt0, zn_wltn, zn_win, zn_wcl, zn_wadd, Nat.not_lt_zero, Nat.one_ne_zero, Nat.zero_ne_one, Nat.le_refl, Nat.zero_le, zn_sel_r, zn_sel_l, h0, q, e1, fX4_read_B78, fX4_read_B79]
        exact ⟨_, rfl, rfl, h1, e3⟩
      · rw [b, cond_true] at e1
        simp (disch := omega) only [li0, li1, li2, li3, li4, li5, li6, li7, li8, li9, li10, li12, li13, li14, li15, li19, li20, li31, li33, li40, li42, li44, li48, li57, li60, li99, li100, li126, li150, li176, li177, li187, li197, li207, li208, li223, li304, li608, li1520, li1824, nI_add, pk_mul, nI_clamp, nI_leI, nI_ltI, nI_eq, zn_inb, zn_gd, zn_bs, zn_isb, not_true_eq_false, not_false_eq_true, ↓reduceIte, pk_div, pk_sub, zn_rem20, zn_rem2, zn_m1, zn_eqw, zn_weq, zn_weq2, zn_wlt0, zn_wltn, zn_win, zn_wcl, zn_wadd, Nat.not_lt_zero, Nat.one_ne_zero, Nat.zero_ne_one, Nat.le_refl, Nat.zero_le, zn_sel_r, zn_sel_l, h0, q, e1, fX4_read_B78, fX4_read_B79]
        exact ⟨_, rfl, rfl, h1, e3⟩
  · have k1 := a3 (by omega)
    have h2 : T 0 1 = nI (k - 1) := h1.trans (wI_p (by omega))
    obtain ⟨z, e1, e2, e3⟩ := zx_readDigit (T := T) (W := W) (k := k - 1) (c := c) (by omega) hc h2 hW (a4 _ (by omega))
    unfold zp_step
    rw [if_neg (show ¬ (3 : Nat) = 0 by decide), if_neg (show ¬ (3 : Nat) = 1 by decide), if_neg (show ¬ (3 : Nat) = 2 by decide)]
    by_cases q : c = 44
    · rw [if_pos q]
      by_cases v : k < 10
      · have v2 : ¬ 9 ≤ k - 1 := by omega
        have cm : ∃ z, fX4_readComma T = some (nI 1, z) ∧ z 0 0 = nI 0 ∧ z 0 1 = wI k := by
          unfold fX4_readComma
          simp (disch := omega) only [li0, li1, li2, li3, li4, li5, li6, li7, li8, li9, li10, li12, li13, li14, li15, li19, li20, li31, li33, li40, li42, li44, li48, li57, li60, li99, li100, li126, li150, li176, li177, li187, li197, li207, li208, li223, li304, li608, li1520, li1824, nI_add, pk_mul, nI_clamp, nI_leI, nI_ltI, nI_eq, zn_inb, zn_gd, zn_bs, zn_isb, not_true_eq_false, not_false_eq_true, ↓reduceIte, pk_div, pk_sub, zn_rem20, zn_rem2, zn_m1, zn_eqw, zn_weq, zn_weq2, zn_wlt0, zn_wltn, zn_win, zn_wcl, zn_wadd, Nat.not_lt_zero, Nat.one_ne_zero, Nat.zero_ne_one, Nat.le_refl, Nat.zero_le, zn_sel_r, zn_sel_l, h2, v2, fX4_readComma_B19]
          exact ⟨_, rfl, rfl, h1⟩
        obtain ⟨z, f1, f2, f3⟩ := cm
        simp (disch := omega) only [li0, li1, li2, li3, li4, li5, li6, li7, li8, li9, li10, li12, li13, li14, li15, li19, li20, li31, li33, li40, li42, li44, li48, li57, li60, li99, li100, li126, li150, li176, li177, li187, li197, li207, li208, li223, li304, li608, li1520, li1824, nI_add, pk_mul, nI_clamp, nI_leI, nI_ltI, nI_eq, zn_inb, zn_gd, zn_bs, zn_isb, not_true_eq_false, not_false_eq_true, ↓reduceIte, pk_div, pk_sub, zn_rem20, zn_rem2, zn_m1, zn_eqw, zn_weq, zn_weq2, zn_wlt0, zn_wltn, zn_win, zn_wcl, zn_wadd, Nat.not_lt_zero, Nat.one_ne_zero, Nat.zero_ne_one, Nat.le_refl, Nat.zero_le, zn_sel_r, zn_sel_l, h0, q, f1, v, fX4_read_B98, decide_true, cond_true]
        exact ⟨_, rfl, f2, f3, hW⟩
      · have v2 : 9 ≤ k - 1 := by omega
        have cm : ∃ z, fX4_readComma T = some (nI 0, z) ∧ z 0 0 = nI 0 ∧ z 0 1 = wI k := by
          unfold fX4_readComma
          simp (disch := omega) only [li0, li1, li2, li3, li4, li5, li6, li7, li8, li9, li10, li12, li13, li14, li15, li19, li20, li31, li33, li40, li42, li44, li48, li57, li60, li99, li100, li126, li150, li176, li177, li187, li197, li207, li208, li223, li304, li608, li1520, li1824, nI_add, pk_mul, nI_clamp, nI_leI, nI_ltI, nI_eq, zn_inb, zn_gd, zn_bs, zn_isb, not_true_eq_false, not_false_eq_true, ↓reduceIte, pk_div, pk_sub, zn_rem20, zn_rem2, zn_m1, zn_eqw, zn_weq, zn_weq2, zn_wlt0, zn_wltn, zn_win, zn_wcl, zn_wadd, Nat.not_lt_zero, Nat.one_ne_zero, Nat.zero_ne_one, Nat.le_refl, Nat.zero_le, zn_sel_r, zn_sel_l, h2, v2, fX4_readComma_B19]
          exact ⟨_, rfl, rfl, h1⟩
        obtain ⟨z, f1, f2, f3⟩ := cm
        simp (disch := omega) only [li0, li1, li2, li3, li4, li5, li6, li7, li8, li9, li10, li12, li13, li14, li15, li19, li20, li31, li33, li40, li42, li44, li48, li57, li60, li99, li100, li126, li150, li176, li177, li187, li197, li207, li208, li223, li304, li608, li1520, li1824, nI_add, pk_mul, nI_clamp, nI_leI, nI_ltI, nI_eq, zn_inb, zn_gd, zn_bs, zn_isb, not_true_eq_false, not_false_eq_true, ↓reduceIte, pk_div, pk_sub, zn_rem20, zn_rem2, zn_m1, zn_eqw, zn_weq, zn_weq2, zn_wlt0, zn_wltn, zn_win, zn_wcl, zn_wadd, Nat.not_lt_zero, Nat.one_ne_zero, Nat.zero_ne_one, Nat.le_refl, Nat.zero_le, zn_sel_r, zn_sel_l, h0, q, f1, v, fX4_read_B98, decide_false, cond_false]
        exact ⟨_, rfl, f2, f3, hW⟩
    · rw [if_neg q]
      have b : isb (nI (bif (zp_put W (k - 1) c).1 then 1 else 0)) = true := by cases (zp_put W (k - 1) c).1 <;> rfl
      simp (disch := omega) only [li0, li1, li2, li3, li4, li5, li6, li7, li8, li9, li10, li12, li13, li14, li15, li19, li20, li31, li33, li40, li42, li44, li48, li57, li60, li99, li100, li126, li150, li176, li177, li187, li197, li207, li208, li223, li304, li608, li1520, li1824, nI_add, pk_mul, nI_clamp, nI_leI, nI_ltI, nI_eq, zn_inb, zn_gd, zn_bs, zn_isb, not_true_eq_false, not_false_eq_true, ↓reduceIte, pk_div, pk_sub, zn_rem20, zn_rem2, zn_m1, zn_eqw, zn_weq, zn_weq2, zn_wlt0, zn_wltn, zn_win, zn_wcl, zn_wadd, Nat.not_lt_zero, Nat.one_ne_zero, Nat.zero_ne_one, Nat.le_refl, Nat.zero_le, zn_sel_r, zn_sel_l, h0, q, e1, b, fX4_read_B98]
      exact ⟨_, rfl, h0, h1, e3⟩
theorem zx_begin_L {k0 : Nat → Int32} {kx : Mem → Option Mem} {Q : Mem → Prop} (hk : ∀ N : Mem, N 0 = k0 → (∀ i, i < 10 → N 1 i = nI 0) → ∃ z, kx N = some z ∧ Q z) : ∀ d j n (N : Mem), j + d = 10 → d < n → N 0 = k0 → (∀ i, i < j → N 1 i = nI 0) → ∃ z, fX4_begin_L12 T n kx N (nI j) = some z ∧ Q z := by
  intro d
  induction d with
  | zero =>
    intro j n N hj hn h0 h1
    obtain ⟨m, rfl⟩ : ∃ m, n = m + 1 := ⟨n - 1, by omega⟩
    obtain rfl : j = 10 := by omega
    rw [fX4_begin_L12]
    simp (disch := omega) only [li0, li1, li2, li3, li4, li5, li6, li7, li8, li9, li10, li12, li13, li14, li15, li19, li20, li31, li33, li40, li42, li44, li48, li57, li60, li99, li100, li126, li150, li176, li177, li187, li197, li207, li208, li223, li304, li608, li1520, li1824, nI_add, pk_mul, nI_clamp, nI_leI, nI_ltI, nI_eq, zn_inb, zn_gd, zn_bs, zn_isb, not_true_eq_false, not_false_eq_true, ↓reduceIte, pk_div, pk_sub, zn_rem20, zn_rem2, zn_m1, zn_eqw, zn_weq, zn_weq2, zn_wlt0, zn_wltn, zn_win, zn_wcl, zn_wadd, Nat.not_lt_zero, Nat.one_ne_zero, Nat.zero_ne_one, Nat.le_refl, Nat.zero_le, zn_sel_r, zn_sel_l]
    exact hk _ h0 h1
  | succ d ih =>
    intro j n N hj hn h0 h1
    obtain ⟨m, rfl⟩ : ∃ m, n = m + 1 := ⟨n - 1, by omega⟩
    have c : ¬ 10 ≤ j := by omega
    rw [fX4_begin_L12]
    simp (disch := omega) only [li0, li1, li2, li3, li4, li5, li6, li7, li8, li9, li10, li12, li13, li14, li15, li19, li20, li31, li33, li40, li42, li44, li48, li57, li60, li99, li100, li126, li150, li176, li177, li187, li197, li207, li208, li223, li304, li608, li1520, li1824, nI_add, pk_mul, nI_clamp, nI_leI, nI_ltI, nI_eq, zn_inb, zn_gd, zn_bs, zn_isb, not_true_eq_false, not_false_eq_true, ↓reduceIte, pk_div, pk_sub, zn_rem20, zn_rem2, zn_m1, zn_eqw, zn_weq, zn_weq2, zn_wlt0, zn_wltn, zn_win, zn_wcl, zn_wadd, Nat.not_lt_zero, Nat.one_ne_zero, Nat.zero_ne_one, Nat.le_refl, Nat.zero_le, zn_sel_r, zn_sel_l, c]
    refine ih (j + 1) m _ (by omega) (by omega) h0 (fun i hi => ?_)
    show upd (N 1) j (nI 0) i = nI 0
    by_cases e : i = j
    · rw [e, up_s]
    · rw [up_n e]
      exact h1 i (by omega)
theorem zx_begin (T : Mem) : ∃ z, fX4_begin T = some z ∧ z 0 0 = nI 0 ∧ z 0 1 = wI 0 ∧ ∀ i, i < 10 → z 1 i = nI 0 := by
  unfold fX4_begin
  simp (disch := omega) only [li0, li1, li2, li3, li4, li5, li6, li7, li8, li9, li10, li12, li13, li14, li15, li19, li20, li31, li33, li40, li42, li44, li48, li57, li60, li99, li100, li126, li150, li176, li177, li187, li197, li207, li208, li223, li304, li608, li1520, li1824, nI_add, pk_mul, nI_clamp, nI_leI, nI_ltI, nI_eq, zn_inb, zn_gd, zn_bs, zn_isb, not_true_eq_false, not_false_eq_true, ↓reduceIte, pk_div, pk_sub, zn_rem20, zn_rem2, zn_m1, zn_eqw, zn_weq, zn_weq2, zn_wlt0, zn_wltn, zn_win, zn_wcl, zn_wadd, Nat.not_lt_zero, Nat.one_ne_zero, Nat.zero_ne_one, Nat.le_refl, Nat.zero_le, zn_sel_r, zn_sel_l]
  refine zx_begin_L (T := T) (k0 := upd (upd (T 0) 0 (nI 0)) 1 (wI 0)) (Q := fun z => z 0 0 = nI 0 ∧ z 0 1 = wI 0 ∧ ∀ i, i < 10 → z 1 i = nI 0) (fun N h0 h1 => ?_) 10 0 5000 _ (by omega) (by omega) rfl (fun i hi => absurd hi (Nat.not_lt_zero _))
  refine ⟨_, rfl, ?_, ?_, h1⟩
  · show N 0 0 = _
    rw [h0]
    rfl
  · show N 0 1 = _
    rw [h0]
    rfl
end

