set_option maxHeartbeats 400000
/-! the order's text, read by the reference -/
def zq_s (t : Nat → Nat) (len p : Nat) : Nat := if p < len then t p else 0
/-- one part: ok, place, last kind + 1, wants -/
def zq_part (s : Nat → Nat) (p k : Nat) (W : Nat → Nat) : Bool × Nat × Nat × (Nat → Nat) := if 48 + k ≤ s p ∧ s p ≤ 57 then (if s (p + 1) = 42 then (if 49 ≤ s (p + 2) ∧ s (p + 2) ≤ 57 then (if 48 ≤ s (p + 3) ∧ s (p + 3) ≤ 57 ∧ 10 * (s (p + 2) - 48) + s (p + 3) ≤ 68 then (true, p + 4, s p - 47, uw W (s p - 48) (10 * (s (p + 2) - 48) + s (p + 3) - 48)) else (true, p + 3, s p - 47, uw W (s p - 48) (s (p + 2) - 48))) else (false, p + 2, k, W)) else (false, p + 1, k, W)) else (false, p, k, W)
def zq_loop (s : Nat → Nat) (len : Nat) : Nat → Nat → Nat → (Nat → Nat) → Bool × Nat × (Nat → Nat)
  | 0, p, _, W => (true, p, W)
  | d + 1, p, k, W => if len ≤ p then (true, p, W) else if s p = 44 ∧ k < 10 then (bif (zq_part s (p + 1) k W).1 then zq_loop s len d (zq_part s (p + 1) k W).2.1 (zq_part s (p + 1) k W).2.2.1 (zq_part s (p + 1) k W).2.2.2 else (false, (zq_part s (p + 1) k W).2.1, (zq_part s (p + 1) k W).2.2.2)) else (false, p, W)
/-- what the reference's reading looks at -/
def zq_at (K : Mem) (len p ok : Nat) (t : Nat → Nat) : Prop := K 0 8 = nI len ∧ K 0 9 = nI p ∧ K 0 10 = nI ok ∧ ∀ i, i < len → K 6 i = nI (t i)
section
variable {K : Mem} {t : Nat → Nat} {len p ok : Nat}
theorem zk_sign (hl : len ≤ 60) (hp : p < 2 ^ 20) (h : zq_at K len p ok t) : fX9_sign K = some (nI (zq_s t len p)) := by
  obtain ⟨h1, h2, h3, h4⟩ := h
  unfold fX9_sign zq_s
  by_cases c : len ≤ p
  · have c2 : ¬ p < len := by omega
    rw [if_neg c2]
    simp (disch := omega) only [li0, li1, li2, li3, li4, li5, li6, li7, li8, li9, li10, li12, li13, li14, li15, li19, li20, li31, li33, li40, li42, li44, li48, li57, li60, li99, li100, li126, li150, li176, li177, li187, li197, li207, li208, li223, li304, li608, li1520, li1824, nI_add, pk_mul, nI_clamp, nI_leI, nI_ltI, nI_eq, zn_inb, zn_gd, zn_bs, zn_isb, not_true_eq_false, not_false_eq_true, ↓reduceIte, pk_div, pk_sub, zn_rem20, zn_rem2, zn_m1, zn_eqw, zn_weq, zn_weq2, zn_wlt0, zn_wltn, zn_win, zn_wcl, zn_wadd, Nat.not_lt_zero, Nat.one_ne_zero, Nat.zero_ne_one, Nat.le_refl, Nat.zero_le, zn_sel_r, zn_sel_l, h1, h2, c, fX9_sign_B24]
  · have c2 : p < len := by omega
    have e := h4 p c2
    rw [if_pos c2]
    simp (disch := omega) only [li0, li1, li2, li3, li4, li5, li6, li7, li8, li9, li10, li12, li13, li14, li15, li19, li20, li31, li33, li40, li42, li44, li48, li57, li60, li99, li100, li126, li150, li176, li177, li187, li197, li207, li208, li223, li304, li608, li1520, li1824, nI_add, pk_mul, nI_clamp, nI_leI, nI_ltI, nI_eq, zn_inb, zn_gd, zn_bs, zn_isb, not_true_eq_false, not_false_eq_true, ↓reduceIte, pk_div, pk_sub, zn_rem20, zn_rem2, zn_m1, zn_eqw, zn_weq, zn_weq2, zn_wlt0, zn_wltn, zn_win, zn_wcl, zn_wadd, Nat.not_lt_zero, Nat.one_ne_zero, Nat.zero_ne_one, Nat.le_refl, Nat.zero_le, zn_sel_r, zn_sel_l, h1, h2, c, e, fX9_sign_B24]
theorem zk_takes0 (hl : len ≤ 60) (hp : p < 2 ^ 20) (h : zq_at K len p 0 t) (lo hi : Int32) : ∃ v z, fX9_takes K lo hi = some (v, z) ∧ zq_at (sr K 0 (z 0)) len p 0 t ∧ z 0 0 = K 0 0 ∧ z 0 4 = K 0 4 := by
  obtain ⟨h1, h2, h3, h4⟩ := id h
  have e := zk_sign (K := sr K 0 (upd (sr K 0 (K 0) 0) 10 (nI 0))) (t := t) (ok := 0) hl hp ⟨h1, h2, rfl, h4⟩
  unfold fX9_takes fX9_takes_B24 fX9_takes_B25 fX9_takes_B53
  simp (disch := omega) only [li0, li1, li2, li3, li4, li5, li6, li7, li8, li9, li10, li12, li13, li14, li15, li19, li20, li31, li33, li40, li42, li44, li48, li57, li60, li99, li100, li126, li150, li176, li177, li187, li197, li207, li208, li223, li304, li608, li1520, li1824, nI_add, pk_mul, nI_clamp, nI_leI, nI_ltI, nI_eq, zn_inb, zn_gd, zn_bs, zn_isb, not_true_eq_false, not_false_eq_true, ↓reduceIte, pk_div, pk_sub, zn_rem20, zn_rem2, zn_m1, zn_eqw, zn_weq, zn_weq2, zn_wlt0, zn_wltn, zn_win, zn_wcl, zn_wadd, Nat.not_lt_zero, Nat.one_ne_zero, Nat.zero_ne_one, Nat.le_refl, Nat.zero_le, zn_sel_r, zn_sel_l, h3, e, h2]
  exact ⟨_, _, rfl, ⟨h1, (show K 0 9 + nI 0 = nI p from (Int32.add_zero _).trans h2), rfl, h4⟩, rfl, rfl⟩
theorem zk_takes1 (hl : len ≤ 60) (hp : p < 2 ^ 20) (h : zq_at K len p 1 t) {lo hi : Nat} (h1 : lo ≤ 300) (h2 : hi ≤ 300) (hs : zq_s t len p ≤ 126) : ∃ v z, fX9_takes K (nI lo) (nI hi) = some (v, z) ∧ zq_at (sr K 0 (z 0)) len (if lo ≤ zq_s t len p ∧ zq_s t len p ≤ hi then p + 1 else p) (if lo ≤ zq_s t len p ∧ zq_s t len p ≤ hi then 1 else 0) t ∧ v = nI (zq_s t len p) - nI 48 ∧ z 0 0 = K 0 0 ∧ z 0 4 = K 0 4 := by
  obtain ⟨b1, b2, b3, b4⟩ := id h
  have e := zk_sign hl hp h
  have e0 := zk_sign (K := sr K 0 (upd (sr K 0 (K 0) 0) 10 (nI 0))) (t := t) (ok := 0) hl hp ⟨b1, b2, rfl, b4⟩
  have e1 := zk_sign (K := sr K 0 (upd (K 0) 10 (nI 1))) (t := t) (ok := 1) hl hp ⟨b1, b2, rfl, b4⟩
  generalize zq_s t len p = c at *
  unfold fX9_takes fX9_takes_B24 fX9_takes_B25 fX9_takes_B53 fX9_in fX9_in_B14 fX9_in_B15
  by_cases q1 : c < lo
  · have q : ¬ (lo ≤ c ∧ c ≤ hi) := by omega
    rw [if_neg q, if_neg q]
    simp (disch := omega) only [li0, li1, li2, li3, li4, li5, li6, li7, li8, li9, li10, li12, li13, li14, li15, li19, li20, li31, li33, li40, li42, li44, li48, li57, li60, li99, li100, li126, li150, li176, li177, li187, li197, li207, li208, li223, li304, li608, li1520, li1824, nI_add, pk_mul, nI_clamp, nI_leI, nI_ltI, nI_eq, zn_inb, zn_gd, zn_bs, zn_isb, not_true_eq_false, not_false_eq_true, ↓reduceIte, pk_div, pk_sub, zn_rem20, zn_rem2, zn_m1, zn_eqw, zn_weq, zn_weq2, zn_wlt0, zn_wltn, zn_win, zn_wcl, zn_wadd, Nat.not_lt_zero, Nat.one_ne_zero, Nat.zero_ne_one, Nat.le_refl, Nat.zero_le, zn_sel_r, zn_sel_l, b3, e, q1, e0, b2]
    exact ⟨_, _, rfl, ⟨b1, (show K 0 9 + nI 0 = nI p from (Int32.add_zero _).trans b2), rfl, b4⟩, rfl, rfl, rfl⟩
  · by_cases q2 : hi < c
    · have q : ¬ (lo ≤ c ∧ c ≤ hi) := by omega
      rw [if_neg q, if_neg q]
      simp (disch := omega) only [li0, li1, li2, li3, li4, li5, li6, li7, li8, li9, li10, li12, li13, li14, li15, li19, li20, li31, li33, li40, li42, li44, li48, li57, li60, li99, li100, li126, li150, li176, li177, li187, li197, li207, li208, li223, li304, li608, li1520, li1824, nI_add, pk_mul, nI_clamp, nI_leI, nI_ltI, nI_eq, zn_inb, zn_gd, zn_bs, zn_isb, not_true_eq_false, not_false_eq_true, ↓reduceIte, pk_div, pk_sub, zn_rem20, zn_rem2, zn_m1, zn_eqw, zn_weq, zn_weq2, zn_wlt0, zn_wltn, zn_win, zn_wcl, zn_wadd, Nat.not_lt_zero, Nat.one_ne_zero, Nat.zero_ne_one, Nat.le_refl, Nat.zero_le, zn_sel_r, zn_sel_l, b3, e, q1, q2, e0, b2]
      exact ⟨_, _, rfl, ⟨b1, (show K 0 9 + nI 0 = nI p from (Int32.add_zero _).trans b2), rfl, b4⟩, rfl, rfl, rfl⟩
    · have q : lo ≤ c ∧ c ≤ hi := by omega
      rw [if_pos q, if_pos q]
      simp (disch := omega) only [li0, li1, li2, li3, li4, li5, li6, li7, li8, li9, li10, li12, li13, li14, li15, li19, li20, li31, li33, li40, li42, li44, li48, li57, li60, li99, li100, li126, li150, li176, li177, li187, li197, li207, li208, li223, li304, li608, li1520, li1824, nI_add, pk_mul, nI_clamp, nI_leI, nI_ltI, nI_eq, zn_inb, zn_gd, zn_bs, zn_isb, not_true_eq_false, not_false_eq_true, ↓reduceIte, pk_div, pk_sub, zn_rem20, zn_rem2, zn_m1, zn_eqw, zn_weq, zn_weq2, zn_wlt0, zn_wltn, zn_win, zn_wcl, zn_wadd, Nat.not_lt_zero, Nat.one_ne_zero, Nat.zero_ne_one, Nat.le_refl, Nat.zero_le, zn_sel_r, zn_sel_l, b3, e, q1, q2, e1, b2]
      exact ⟨_, _, rfl, ⟨b1, rfl, rfl, b4⟩, rfl, rfl, rfl⟩
theorem zq_s_le (ht : ∀ i, i < len → t i ≤ 126) (q : Nat) : zq_s t len q ≤ 126 := by
  unfold zq_s
  split
  · exact ht q (by assumption)
  · omega
theorem li49 : (49 : Int32) = nI 49 := by decide
theorem zk_readsPart (hl : len ≤ 60) (hp : p ≤ 60) (ht : ∀ i, i < len → t i ≤ 126) (h : zq_at K len p 1 t) {k : Nat} (hk : k ≤ 10) {W : Nat → Nat} (hW : rn 10 (K 7) W) : ∃ v z, fX9_readsPart K (wI k) = some (v, z) ∧ zq_at (sr K 0 (z 0)) len (zq_part (zq_s t len) p k W).2.1 (bif (zq_part (zq_s t len) p k W).1 then 1 else 0) t ∧ rn 10 (z 7) (zq_part (zq_s t len) p k W).2.2.2 ∧ ((zq_part (zq_s t len) p k W).1 = true → v = wI (zq_part (zq_s t len) p k W).2.2.1) ∧ z 0 0 = K 0 0 ∧ z 0 4 = K 0 4 := by
  have s0 := zq_s_le ht p
  have s1 := zq_s_le ht (p + 1)
  have s2 := zq_s_le ht (p + 1 + 1)
  have s3 := zq_s_le ht (p + 1 + 1 + 1)
  have b : ∀ q, q < 64 → q < 2 ^ 20 := fun q hq => by omega
  have lk : nI 48 + wI k + nI 1 = nI (48 + k) := by
    rw [Int32.add_assoc, zn_wadd, nI_add]
  obtain ⟨v1, z1, e1, a1, f1, c1, d1⟩ := zk_takes1 hl (b p (by omega)) h (lo := 48 + k) (hi := 57) (by omega) (by omega) s0
  unfold zq_part fX9_readsPart
  by_cases q0 : 48 + k ≤ zq_s t len p ∧ zq_s t len p ≤ 57
  · rw [if_pos q0, if_pos q0] at a1
    rw [if_pos q0]
    obtain ⟨v2, z2, e2, a2, f2, c2, d2⟩ := zk_takes1 hl (b (p + 1) (by omega)) a1 (lo := 42) (hi := 42) (by omega) (by omega) s1
    by_cases q1 : zq_s t len (p + 1) = 42
    · rw [if_pos (by omega), if_pos (by omega)] at a2
      rw [if_pos q1]
      have a2 : zq_at (sr K 0 (z2 0)) len (p + 1 + 1) 1 t := a2
      obtain ⟨v3, z3, e3, a3, f3, c3, d3⟩ := zk_takes1 hl (b (p + 1 + 1) (by omega)) a2 (lo := 49) (hi := 57) (by omega) (by omega) s2
      have fv1 : v1 = nI (zq_s t len p - 48) := f1.trans (pk_sub (by omega))
      by_cases q2 : 49 ≤ zq_s t len (p + 1 + 1) ∧ zq_s t len (p + 1 + 1) ≤ 57
      · rw [if_pos q2, if_pos q2] at a3
        rw [if_pos (show 49 ≤ zq_s t len (p + 2) ∧ zq_s t len (p + 2) ≤ 57 from q2)]
        have a3 : zq_at (sr K 0 (z3 0)) len (p + 1 + 1 + 1) 1 t := a3
        have fv3 : v3 = nI (zq_s t len (p + 1 + 1) - 48) := f3.trans (pk_sub (by omega))
        have o3 : z3 0 10 = nI 1 := a3.2.2.1
        have p3 : z3 0 9 = nI (p + 1 + 1 + 1) := a3.2.1
        have e4 := zk_sign hl (b (p + 1 + 1 + 1) (by omega)) a3
        have r3 : (zq_s t len (p + 3)) = zq_s t len (p + 1 + 1 + 1) := rfl
        have r2 : (zq_s t len (p + 2)) = zq_s t len (p + 1 + 1) := rfl
        rw [r3, r2]
        generalize zq_s t len (p + 1 + 1 + 1) = x3 at *
        generalize zq_s t len (p + 1 + 1) = x2 at *
        generalize zq_s t len p = x0 at *
        have k10 : x0 - 48 < 10 := by omega
        have w0 : nI (x0 - 48) = wI (x0 - 47) := by
          rw [wI_p (by omega)]
          congr 1
        have put : ∀ v, rn 10 (upd (K 7) (x0 - 48) (nI v)) (uw W (x0 - 48) v) := fun v => rn_up hW _ _
        subst fv1
        subst fv3
        have o4 : sr K 0 (z3 0) 0 10 = nI 1 := a3.2.2.1
        by_cases g1 : x3 < 48
        · rw [if_neg (by omega)]
          simp (disch := omega) only [li0, li1, li2, li3, li4, li5, li6, li7, li8, li9, li10, li12, li13, li14, li15, li19, li20, li31, li33, li40, li42, li44, li48, li57, li60, li99, li100, li126, li150, li176, li177, li187, li197, li207, li208, li223, li304, li608, li1520, li1824, nI_add, pk_mul, nI_clamp, nI_leI, nI_ltI, nI_eq, zn_inb, zn_gd, zn_bs, zn_isb, not_true_eq_false, not_false_eq_true, ↓reduceIte, pk_div, pk_sub, zn_rem20, zn_rem2, zn_m1, zn_eqw, zn_weq, zn_weq2, zn_wlt0, zn_wltn, zn_win, zn_wcl, zn_wadd, Nat.not_lt_zero, Nat.one_ne_zero, Nat.zero_ne_one, Nat.le_refl, Nat.zero_le, zn_sel_r, zn_sel_l, li49, lk, e1, e2, e3, o3, o4, e4, fX9_in, fX9_in_B14, fX9_in_B15, fX9_readsPart_B92, fX9_readsPart_B106, k10, g1]
          exact ⟨_, _, rfl, a3, put _, (fun _ => w0), c3.trans (c2.trans c1), d3.trans (d2.trans d1)⟩
        · by_cases g2 : 57 < x3
          · rw [if_neg (by omega)]
            simp (disch := omega) only [li0, li1, li2, li3, li4, li5, li6, li7, li8, li9, li10, li12, li13, li14, li15, li19, li20, li31, li33, li40, li42, li44, li48, li57, li60, li99, li100, li126, li150, li176, li177, li187, li197, li207, li208, li223, li304, li608, li1520, li1824, nI_add, pk_mul, nI_clamp, nI_leI, nI_ltI, nI_eq, zn_inb, zn_gd, zn_bs, zn_isb, not_true_eq_false, not_false_eq_true, ↓reduceIte, pk_div, pk_sub, zn_rem20, zn_rem2, zn_m1, zn_eqw, zn_weq, zn_weq2, zn_wlt0, zn_wltn, zn_win, zn_wcl, zn_wadd, Nat.not_lt_zero, Nat.one_ne_zero, Nat.zero_ne_one, Nat.le_refl, Nat.zero_le, zn_sel_r, zn_sel_l, li49, lk, e1, e2, e3, o3, o4, e4, fX9_in, fX9_in_B14, fX9_in_B15, fX9_readsPart_B92, fX9_readsPart_B106, k10, g1, g2]
            exact ⟨_, _, rfl, a3, put _, (fun _ => w0), c3.trans (c2.trans c1), d3.trans (d2.trans d1)⟩
          · have sm : 10 * (x2 - 48) + x3 - 48 = 10 * (x2 - 48) + x3 - 48 := rfl
            have l68 : 48 ≤ 10 * (x2 - 48) + x3 := by omega
            by_cases g3 : 10 * (x2 - 48) + x3 ≤ 68
            · have g4 : ¬ 20 < 10 * (x2 - 48) + x3 - 48 := by omega
              rw [if_pos (show 48 ≤ x3 ∧ x3 ≤ 57 ∧ 10 * (x2 - 48) + x3 ≤ 68 by omega)]
              have o5 : sr K 0 (upd (z3 0) 9 (z3 0 9 + nI 1)) 0 10 = nI 1 := a3.2.2.1
              simp (disch := omega) only [li0, li1, li2, li3, li4, li5, li6, li7, li8, li9, li10, li12, li13, li14, li15, li19, li20, li31, li33, li40, li42, li44, li48, li57, li60, li99, li100, li126, li150, li176, li177, li187, li197, li207, li208, li223, li304, li608, li1520, li1824, nI_add, pk_mul, nI_clamp, nI_leI, nI_ltI, nI_eq, zn_inb, zn_gd, zn_bs, zn_isb, not_true_eq_false, not_false_eq_true, ↓reduceIte, pk_div, pk_sub, zn_rem20, zn_rem2, zn_m1, zn_eqw, zn_weq, zn_weq2, zn_wlt0, zn_wltn, zn_win, zn_wcl, zn_wadd, Nat.not_lt_zero, Nat.one_ne_zero, Nat.zero_ne_one, Nat.le_refl, Nat.zero_le, zn_sel_r, zn_sel_l, li49, lk, e1, e2, e3, o3, o4, o5, e4, fX9_in, fX9_in_B14, fX9_in_B15, fX9_readsPart_B92, fX9_readsPart_B106, k10, g1, g2, g4]
              refine ⟨_, _, rfl, ⟨a3.1, ?_, a3.2.2.1, a3.2.2.2⟩, put _, (fun _ => w0), c3.trans (c2.trans c1), d3.trans (d2.trans d1)⟩
              show z3 0 9 + nI 1 = nI (p + 4)
              rw [p3, nI_add]
            · have g4 : 20 < 10 * (x2 - 48) + x3 - 48 := by omega
              rw [if_neg (by omega)]
              simp (disch := omega) only [li0, li1, li2, li3, li4, li5, li6, li7, li8, li9, li10, li12, li13, li14, li15, li19, li20, li31, li33, li40, li42, li44, li48, li57, li60, li99, li100, li126, li150, li176, li177, li187, li197, li207, li208, li223, li304, li608, li1520, li1824, nI_add, pk_mul, nI_clamp, nI_leI, nI_ltI, nI_eq, zn_inb, zn_gd, zn_bs, zn_isb, not_true_eq_false, not_false_eq_true, ↓reduceIte, pk_div, pk_sub, zn_rem20, zn_rem2, zn_m1, zn_eqw, zn_weq, zn_weq2, zn_wlt0, zn_wltn, zn_win, zn_wcl, zn_wadd, Nat.not_lt_zero, Nat.one_ne_zero, Nat.zero_ne_one, Nat.le_refl, Nat.zero_le, zn_sel_r, zn_sel_l, li49, lk, e1, e2, e3, o3, o4, e4, fX9_in, fX9_in_B14, fX9_in_B15, fX9_readsPart_B92, fX9_readsPart_B106, k10, g1, g2, g4]
              exact ⟨_, _, rfl, a3, put _, (fun _ => w0), c3.trans (c2.trans c1), d3.trans (d2.trans d1)⟩
      · rw [if_neg q2, if_neg q2] at a3
        rw [if_neg (show ¬ (49 ≤ zq_s t len (p + 2) ∧ zq_s t len (p + 2) ≤ 57) from q2)]
        have o3 : z3 0 10 = nI 0 := a3.2.2.1
        have o4 : sr K 0 (z3 0) 0 10 = nI 0 := a3.2.2.1
        simp (disch := omega) only [li0, li1, li2, li3, li4, li5, li6, li7, li8, li9, li10, li12, li13, li14, li15, li19, li20, li31, li33, li40, li42, li44, li48, li57, li60, li99, li100, li126, li150, li176, li177, li187, li197, li207, li208, li223, li304, li608, li1520, li1824, nI_add, pk_mul, nI_clamp, nI_leI, nI_ltI, nI_eq, zn_inb, zn_gd, zn_bs, zn_isb, not_true_eq_false, not_false_eq_true, ↓reduceIte, pk_div, pk_sub, zn_rem20, zn_rem2, zn_m1, zn_eqw, zn_weq, zn_weq2, zn_wlt0, zn_wltn, zn_win, zn_wcl, zn_wadd, Nat.not_lt_zero, Nat.one_ne_zero, Nat.zero_ne_one, Nat.le_refl, Nat.zero_le, zn_sel_r, zn_sel_l, li49, lk, e1, e2, e3, o3, o4, fX9_readsPart_B92, fX9_readsPart_B106]
        exact ⟨_, _, rfl, a3, hW, (fun x => by cases x), c3.trans (c2.trans c1), d3.trans (d2.trans d1)⟩
    · rw [if_neg (by omega), if_neg (by omega)] at a2
      rw [if_neg q1]
      have a2 : zq_at (sr K 0 (z2 0)) len (p + 1) 0 t := a2
      obtain ⟨v3, z3, e3, a3, c3, d3⟩ := zk_takes0 (t := t) hl (b (p + 1) (by omega)) a2 (nI 49) (nI 57)
      have o3 : z3 0 10 = nI 0 := a3.2.2.1
      have o4 : sr K 0 (z3 0) 0 10 = nI 0 := a3.2.2.1
      simp (disch := omega) only [li0, li1, li2, li3, li4, li5, li6, li7, li8, li9, li10, li12, li13, li14, li15, li19, li20, li31, li33, li40, li42, li44, li48, li57, li60, li99, li100, li126, li150, li176, li177, li187, li197, li207, li208, li223, li304, li608, li1520, li1824, nI_add, pk_mul, nI_clamp, nI_leI, nI_ltI, nI_eq, zn_inb, zn_gd, zn_bs, zn_isb, not_true_eq_false, not_false_eq_true, ↓reduceIte, pk_div, pk_sub, zn_rem20, zn_rem2, zn_m1, zn_eqw, zn_weq, zn_weq2, zn_wlt0, zn_wltn, zn_win, zn_wcl, zn_wadd, Nat.not_lt_zero, Nat.one_ne_zero, Nat.zero_ne_one, Nat.le_refl, Nat.zero_le, zn_sel_r, zn_sel_l, li49, lk, e1, e2, e3, o3, o4, fX9_readsPart_B92, fX9_readsPart_B106]
      exact ⟨_, _, rfl, a3, hW, (fun x => by cases x), c3.trans (c2.trans c1), d3.trans (d2.trans d1)⟩
  · rw [if_neg q0, if_neg q0] at a1
    rw [if_neg q0]
    obtain ⟨v2, z2, e2, a2, c2, d2⟩ := zk_takes0 (t := t) hl (b p (by omega)) a1 (nI 42) (nI 42)
    have a2 : zq_at (sr K 0 (z2 0)) len p 0 t := a2
    obtain ⟨v3, z3, e3, a3, c3, d3⟩ := zk_takes0 (t := t) hl (b p (by omega)) a2 (nI 49) (nI 57)
    have o3 : z3 0 10 = nI 0 := a3.2.2.1
    have o4 : sr K 0 (z3 0) 0 10 = nI 0 := a3.2.2.1
    simp (disch := omega) only [li0, li1, li2, li3, li4, li5, li6, li7, li8, li9, li10, li12, li13, li14, li15, li19, li20, li31, li33, li40, li42, li44, li48, li57, li60, li99, li100, li126, li150, li176, li177, li187, li197, li207, li208, li223, li304, li608, li1520, li1824, nI_add, pk_mul, nI_clamp, nI_leI, nI_ltI, nI_eq, zn_inb, zn_gd, zn_bs, zn_isb, not_true_eq_false, not_false_eq_true, ↓reduceIte, pk_div, pk_sub, zn_rem20, zn_rem2, zn_m1, zn_eqw, zn_weq, zn_weq2, zn_wlt0, zn_wltn, zn_win, zn_wcl, zn_wadd, Nat.not_lt_zero, Nat.one_ne_zero, Nat.zero_ne_one, Nat.le_refl, Nat.zero_le, zn_sel_r, zn_sel_l, li49, lk, e1, e2, e3, o3, o4, fX9_readsPart_B92, fX9_readsPart_B106]
    exact ⟨_, _, rfl, a3, hW, (fun x => by cases x), c3.trans (c2.trans c1), d3.trans (d2.trans d1)⟩
end
