set_option maxHeartbeats 400000
/-! the order's text, read by the reference -/
def zq_s (t : Nat → Nat) (len p : Nat) : Nat := if p < len then t p else 0
/-- one part: ok, place, last kind + 1, wants -/
def zq_part (s : Nat → Nat) (p k : Nat) (W : Nat → Nat) : Bool × Nat × Nat × (Nat → Nat) := if 48 + k ≤ s p ∧ s p ≤ 57 then (if s (p + 1) = 42 then (if 49 ≤ s (p + 2) ∧ s (p + 2) ≤ 57 then (if 48 ≤ s (p + 3) ∧ s (p + 3) ≤ 57 ∧ 10 * (s (p + 2) - 48) + s (p + 3) ≤ 68 then (true, p + 4, s p - 47, uw W (s p - 48) (10 * (s (p + 2) - 48) + s (p + 3) - 48)) else (true, p + 3, s p - 47, uw W (s p - 48) (s (p + 2) - 48))) else (false, p + 2, k, W)) else (false, p + 1, k, W)) else (false, p, k, W)
def zq_loop (s : Nat → Nat) (len : Nat) : Nat → Nat → Nat → (Nat → Nat) → Bool × Nat × (Nat → Nat)
  | 0, p, _, W => (true, p, W)
  | d + 1, p, k, W => if len ≤ p then (true, p, W) else if s p = 44 ∧ k < 10 then (bif (zq_part s (p + 1) k W).1 then zq_loop s len d (zq_part s (p + 1) k W).2.1 (zq_part s (p + 1) k W).2.2.1 (zq_part s (p + 1) k W).2.2.2 else (false, (zq_part s (p + 1) k W).2.1, (zq_part s (p + 1) k W).2.2.2)) else (false, p, W)
/-- what the reference's reading looks at -/
def zq_at (K : Mem) (len p ok : Nat) (t : Nat → Nat) : Prop := K 0 8 = nI len ∧ K 0 9 = nI p ∧ K 0 10 = nI ok ∧ ∀ i, i < len → K 6 i = nI (t i)
section
variable {K : Mem} {t : Nat → Nat} {len p ok : Nat}
theorem zk_sign (hl : len ≤ 60) (hp : p < 2 ^ 20) (h : zq_at K len p ok t) : fX9_sign K = some (nI (zq_s t len p)) := by
  obtain ⟨h1, h2, h3, h4⟩ := h
  unfold fX9_sign zq_s
  by_cases c : len ≤ p
  · have c2 : ¬ p < len := by omega
    rw [if_neg c2]
    simp (disch := omega) only [li0, li1, li2, li3, li4, li5, li6, li7, li8, li9, li10, li12, li13, li14, li15, li19, li20, li31, li33, li40, li42, li44, li48, li57, li60, li99, li100, li126, li150, li176, li177, li187, li197, li207, li208, li223, li304, li608, li1520, li1824, nI_add, pk_mul, nI_clamp, nI_leI, nI_ltI, nI_eq, zn_inb, zn_gd, zn_bs, zn_isb, not_true_eq_false, not_false_eq_true, ↓reduceIte, pk_div, pk_sub, zn_rem20, zn_rem2, zn_m1, zn_eqw, zn_weq, zn_weq2, zn_wlt0, zn_wltn, zn_win, zn_wcl, zn_wadd, Nat.not_lt_zero, Nat.one_ne_zero, Nat.zero_ne_one, Nat.le_refl, Nat.zero_le, zn_sel_r, zn_sel_l, h1, h2, c, fX9_sign_B24]
  · have c2 : p < len := by omega
    have e := h4 p c2
    rw [if_pos c2]
    simp (disch := omega) only [li0, li1, li2, li3, li4, li5, li6, li7, li8, li9, li10, li12, li13, li14, li15, li19, li20, li31, li33, li40, li42, li44, li48, li57, li60, li99, li100, li126, li150, li176, li177, li187, li197, li207, li208, li223, li304, li608, li1520, li1824, nI_add, pk_mul, nI_clamp, nI_leI, nI_ltI, nI_eq, zn_inb, zn_gd, zn_bs, zn_isb, not_true_eq_false, not_false_eq_true, ↓reduceIte, pk_div, pk_sub, zn_rem20, zn_rem2, zn_m1, zn_eqw, zn_weq, zn_weq2, zn_wlt0, zn_wltn, zn_win, zn_wcl, zn_wadd, Nat.not_lt_zero, Nat.one_ne_zero, Nat.zero_ne_one, Nat.le_refl, Nat.zero_le, zn_sel_r, zn_sel_l, h1, h2, c, e, fX9_sign_B24]
theorem zk_takes0 (hl : len ≤ 60) (hp : p < 2 ^ 20) (h : zq_at K len p 0 t) (lo hi : Int32) : ∃ v z, fX9_takes K lo hi = some (v, z) ∧ zq_at z len p 0 t ∧ z = sr K 0 (z 0) ∧ z 0 0 = K 0 0 ∧ z 0 4 = K 0 4 := by
  obtain ⟨h1, h2, h3, h4⟩ := id h
  have e := zk_sign (K := sr K 0 (upd (K 0) 10 (nI 0))) (t := t) (ok := 0) hl hp ⟨h1, h2, rfl, h4⟩
  unfold fX9_takes fX9_takes_B24 fX9_takes_B25 fX9_takes_B53
  simp (disch := omega) only [li0, li1, li2, li3, li4, li5, li6, li7, li8, li9, li10, li12, li13, li14, li15, li19, li20, li31, li33, li40, li42, li44, li48, li57, li60, li99, li100, li126, li150, li176, li177, li187, li197, li207, li208, li223, li304, li608, li1520, li1824, nI_add, pk_mul, nI_clamp, nI_leI, nI_ltI, nI_eq, zn_inb, zn_gd, zn_bs, zn_isb, not_true_eq_false, not_false_eq_true, ↓reduceIte, pk_div, pk_sub, zn_rem20, zn_rem2, zn_m1, zn_eqw, zn_weq, zn_weq2, zn_wlt0, zn_wltn, zn_win, zn_wcl, zn_wadd, Nat.not_lt_zero, Nat.one_ne_zero, Nat.zero_ne_one, Nat.le_refl, Nat.zero_le, zn_sel_r, zn_sel_l, h3, e, h2]
  exact ⟨_, _, rfl, ⟨h1, congrArg nI (Nat.add_zero p), rfl, h4⟩, rfl, rfl, rfl⟩
theorem zk_takes1 (hl : len ≤ 60) (hp : p < 2 ^ 20) (h : zq_at K len p 1 t) {lo hi : Nat} (h1 : lo ≤ 300) (h2 : hi ≤ 300) (hs : zq_s t len p ≤ 126) : ∃ v z, fX9_takes K (nI lo) (nI hi) = some (v, z) ∧ zq_at z len (if lo ≤ zq_s t len p ∧ zq_s t len p ≤ hi then p + 1 else p) (if lo ≤ zq_s t len p ∧ zq_s t len p ≤ hi then 1 else 0) t ∧ v = nI (zq_s t len p) - nI 48 ∧ z = sr K 0 (z 0) ∧ z 0 0 = K 0 0 ∧ z 0 4 = K 0 4 := by
  obtain ⟨b1, b2, b3, b4⟩ := id h
  have e := zk_sign hl hp h
  have e0 := zk_sign (K := sr K 0 (upd (K 0) 10 (nI 0))) (t := t) (ok := 0) hl hp ⟨b1, b2, rfl, b4⟩
  have e1 := zk_sign (K := sr K 0 (upd (K 0) 10 (nI 1))) (t := t) (ok := 1) hl hp ⟨b1, b2, rfl, b4⟩
  generalize zq_s t len p = c at *
  unfold fX9_takes fX9_takes_B24 fX9_takes_B25 fX9_takes_B53 fX9_in fX9_in_B14 fX9_in_B15
  by_cases q1 : c < lo
  · have q : ¬ (lo ≤ c ∧ c ≤ hi) := by omega
    rw [if_neg q, if_neg q]
    simp (disch := omega) only [li0, li1, li2, li3, li4, li5, li6, li7, li8, li9, li10, li12, li13, li14, li15, li19, li20, li31, li33, li40, li42, li44, li48, li57, li60, li99, li100, li126, li150, li176, li177, li187, li197, li207, li208, li223, li304, li608, li1520, li1824, nI_add, pk_mul, nI_clamp, nI_leI, nI_ltI, nI_eq, zn_inb, zn_gd, zn_bs, zn_isb, not_true_eq_false, not_false_eq_true, ↓reduceIte, pk_div, pk_sub, zn_rem20, zn_rem2, zn_m1, zn_eqw, zn_weq, zn_weq2, zn_wlt0, zn_wltn, zn_win, zn_wcl, zn_wadd, Nat.not_lt_zero, Nat.one_ne_zero, Nat.zero_ne_one, Nat.le_refl, Nat.zero_le, zn_sel_r, zn_sel_l, b3, e, q1, e0, b2]
    exact ⟨_, _, rfl, ⟨b1, congrArg nI (Nat.add_zero p), rfl, b4⟩, rfl, rfl, rfl, rfl⟩
  · by_cases q2 : hi < c
    · have q : ¬ (lo ≤ c ∧ c ≤ hi) := by omega
      rw [if_neg q, if_neg q]
      simp (disch := omega) only [li0, li1, li2, li3, li4, li5, li6, li7, li8, li9, li10, li12, li13, li14, li15, li19, li20, li31, li33, li40, li42, li44, li48, li57, li60, li99, li100, li126, li150, li176, li177, li187, li197, li207, li208, li223, li304, li608, li1520, li1824, nI_add, pk_mul, nI_clamp, nI_leI, nI_ltI, nI_eq, zn_inb, zn_gd, zn_bs, zn_isb, not_true_eq_false, not_false_eq_true, ↓reduceIte, pk_div, pk_sub, zn_rem20, zn_rem2, zn_m1, zn_eqw, zn_weq, zn_weq2, zn_wlt0, zn_wltn, zn_win, zn_wcl, zn_wadd, Nat.not_lt_zero, Nat.one_ne_zero, Nat.zero_ne_one, Nat.le_refl, Nat.zero_le, zn_sel_r, zn_sel_l, b3, e, q1, q2, e0, b2]
      exact ⟨_, _, rfl, ⟨b1, congrArg nI (Nat.add_zero p), rfl, b4⟩, rfl, rfl, rfl, rfl⟩
    · have q : lo ≤ c ∧ c ≤ hi := by omega
      rw [if_pos q, if_pos q]
      simp (disch := omega) only [li0, li1, li2, li3, li4, li5, li6, li7, li8, li9, li10, li12, li13, li14, li15, li19, li20, li31, li33, li40, li42, li44, li48, li57, li60, li99, li100, li126, li150, li176, li177, li187, li197, li207, li208, li223, li304, li608, li1520, li1824, nI_add, pk_mul, nI_clamp, nI_leI, nI_ltI, nI_eq, zn_inb, zn_gd, zn_bs, zn_isb, not_true_eq_false, not_false_eq_true, ↓reduceIte, pk_div, pk_sub, zn_rem20, zn_rem2, zn_m1, zn_eqw, zn_weq, zn_weq2, zn_wlt0, zn_wltn, zn_win, zn_wcl, zn_wadd, Nat.not_lt_zero, Nat.one_ne_zero, Nat.zero_ne_one, Nat.le_refl, Nat.zero_le, zn_sel_r, zn_sel_l, b3, e, q1, q2, e1, b2]
      exact ⟨_, _, rfl, ⟨b1, rfl, rfl, b4⟩, rfl, rfl, rfl, rfl⟩
end
