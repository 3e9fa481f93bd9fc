set_option maxHeartbeats 400000
/-! packing: the class's side -/
section
variable {T : Mem} {S : SM}
theorem zx_findPacked_L (h : RT T S) (g : GT S) (hw : S 1 1 = 0) : ∀ d r lo pl t0 t1 N n, r + d = S 1 0 → d < n → zy_I S r lo pl → (∀ f, f < S 1 0 → lo.testBit f = true → N 5 f = nI (pl f)) → t0 < 2 ^ 20 → t1 < 2 ^ 20 → (∀ p, p < 40 → zs_q t0 t1 p = zs_tq (zy_P S pl) p) → ∃ b z, fX7_findPacked_L10 T n (fun (N : Mem) => gd (isb (0 : Int32)) (some ((0 : Int32), (sr T 5 (N 5))))) (fun (N : Mem) => gd (isb (0 : Int32)) (some ((0 : Int32), (sr T 5 (N 5))))) (fun (N : Mem) => gd (isb (1 : Int32)) (some ((1 : Int32), (sr T 5 (N 5))))) N (nI t0) (nI t1) (nI lo) (nI r) = some (b, z) ∧ ((zy_go S d lo pl = none ∧ b = nI 0) ∨ (∃ pl', zy_go S d lo pl = some pl' ∧ b = nI 1 ∧ ∀ f, f < S 1 0 → z 5 f = nI (pl' f))) := by
  have hc := g.1
  intro d
  induction d with
  | zero =>
    intro r lo pl t0 t1 N n hr hn hI hN h0 h1 hq
    obtain ⟨m, rfl⟩ : ∃ m, n = m + 1 := ⟨n - 1, by omega⟩
    have c : S 1 0 ≤ r := by omega
    have al := fb_ct_all.mp (hI.2.1.trans (show r = S 1 0 by omega))
    rw [fX7_findPacked_L10]
    simp (disch := omega) only [li0, li1, li2, li3, li4, li5, li6, li7, li8, li9, li10, li12, li13, li14, li15, li19, li20, li31, li33, li40, li42, li44, li48, li57, li60, li99, li100, li126, li150, li176, li177, li187, li197, li207, li208, li223, li304, li608, li1520, li1824, nI_add, pk_mul, nI_clamp, nI_leI, nI_ltI, nI_eq, zn_inb, zn_gd, zn_bs, zn_isb, not_true_eq_false, not_false_eq_true, ↓reduceIte, pk_div, pk_sub, zn_rem20, zn_rem2, zn_m1, zn_eqw, zn_weq, zn_weq2, zn_wlt0, zn_wltn, zn_win, zn_wcl, zn_wadd, Nat.not_lt_zero, Nat.one_ne_zero, Nat.zero_ne_one, Nat.le_refl, Nat.zero_le, zn_sel_r, zn_sel_l, h.1, c, zn_isb]
    exact ⟨_, _, rfl, Or.inr ⟨pl, rfl, rfl, fun f hf => hN f hf (al f hf)⟩⟩
  | succ d ih =>
    intro r lo pl t0 t1 N n hr hn hI hN h0 h1 hq
    obtain ⟨m, rfl⟩ : ∃ m, n = m + 1 := ⟨n - 1, by omega⟩
    have c : ¬ S 1 0 ≤ r := by omega
    obtain ⟨v, a1, a2, a3, a4, a5, a6⟩ := zy_next hw hI (by omega)
    have lo12 : 2 ^ S 1 0 ≤ 2 ^ 12 := Nat.pow_le_pow_right (by decide) hc
    have lol := hI.1
    have e1 := zx_mostUsed (T := sr T 5 (N 5)) (S := S) h g (lo := lo) (by omega)
    rw [a1, wI_s] at e1
    have e2 := h.2.2.1 v (by omega)
    have b := g.2.2.1 v a2
    have e3 := zx_firstFit h0 h1 (w := S 2 v) (by omega)
    rw [zs_fp_c hq] at e3
    have hpl : 40 ≤ pl v := by
      have := hI.2.2.2.2.1 v a2 a3
      omega
    have vm : ¬ nI v = wI 0 := fun e => by
      have := (zn_eqw (f := v) (w := 0) (by omega) (by omega)).mp e
      omega
    have v12 : nI v < nI 12 := nI_lt (by omega) (by omega)
    have vin : inb (nI v) 12 = true := zn_inb (by omega) (by omega)
    rw [fX7_findPacked_L10, h.1, if_neg (nI_ge (show r < S 1 0 by omega) (by omega)), e1, zn_bs, show (-1 : Int32) = wI 0 from rfl, if_neg vm, show (12 : Int32) = nI 12 from rfl, if_pos v12, vin, zn_gd, nI_clamp (show v < 2 ^ 31 by omega), e2, e3, zn_bs]
    unfold zy_go
    rw [a1, Nat.add_sub_cancel]
    by_cases q : zs_fp (zs_tq (zy_P S pl)) (S 2 v) = 0
    · rw [if_pos q, q, if_neg (fun e => e rfl)]
      exact ⟨_, _, rfl, Or.inl ⟨rfl, rfl⟩⟩
    · rw [if_neg q]
      obtain ⟨fit1, fit2⟩ := zs_fp_fit (Nat.pos_of_ne_zero q)
      rw [wI_p (Nat.pos_of_ne_zero q)]
      have I2 := a6 _ fit1 fit2
      generalize zs_fp (zs_tq (zy_P S pl)) (S 2 v) - 1 = p at fit1 fit2 I2
      have pm : ¬ nI p = wI 0 := fun e => by
        have := (zn_eqw (f := p) (w := 0) (by omega) (by omega)).mp e
        omega
      obtain ⟨f1, f2⟩ := of_decide_eq_true fit2
      have esh : nI 1 <<< (nI v &&& nI 31) = nI (2 ^ v) := by
        rw [zn_shl (by omega) ?_, Nat.one_mul]
        rw [Nat.one_mul]
        exact Nat.pow_lt_pow_right (by decide) (by omega)
      have hN2 : ∀ f, f < S 1 0 → (lo ||| 2 ^ v).testBit f = true → upd (N 5) v (nI p) f = nI (uw pl v p f) := fun f hf hb => by
        rw [zy_bit] at hb
        unfold upd uw
        by_cases z : f = v
        · rw [if_pos z, if_pos z]
        · rw [if_neg z] at hb
          rw [if_neg z, if_neg z]
          exact hN f hf hb
      rw [if_pos pm]
      by_cases q2 : 20 ≤ p
      · have er := zx_rowOf (s := p - 20) (w := S 2 v) (by omega) (by omega)
        rw [show (20 : Int32) = nI 20 from rfl, if_pos (nI_le q2 (by omega)), pk_sub q2, er, zn_bs, show (31 : Int32) = nI 31 from rfl, show (1 : Int32) = nI 1 from rfl, esh]
        unfold fX7_findPacked_B122
        rw [zn_or, zn_or, show (1 : Int32) = nI 1 from rfl, nI_add]
        simp only [zn_gd]
        refine ih (r + 1) (lo ||| 2 ^ v) (uw pl v p) t0 _ _ m (by omega) (by omega) I2 hN2 h0 (Nat.or_lt_two_pow h1 (zn_rowlt (by omega))) (fun x hx => ?_)
        rw [zs_q_or1 t0 t1 q2 f1 hx, zy_tq hw a2 hpl hx, hq x hx]
      · have er := zx_rowOf (s := p) (w := S 2 v) (by omega) (by omega)
        rw [show (20 : Int32) = nI 20 from rfl, if_neg (nI_ge (show p < 20 by omega) (by omega)), er, zn_bs, show (31 : Int32) = nI 31 from rfl, show (1 : Int32) = nI 1 from rfl, esh]
        unfold fX7_findPacked_B122
        rw [zn_or, zn_or, show (1 : Int32) = nI 1 from rfl, nI_add]
        simp only [zn_gd]
        refine ih (r + 1) (lo ||| 2 ^ v) (uw pl v p) _ t1 _ m (by omega) (by omega) I2 hN2 (Nat.or_lt_two_pow h0 (zn_rowlt (by omega))) h1 (fun x hx => ?_)
        rw [zs_q_or0 t0 t1 (show p + S 2 v ≤ 20 by omega), zy_tq hw a2 hpl hx, hq x hx]
theorem zx_findPacked (h : RT T S) (g : GT S) (hw : S 1 1 = 0) : ∃ b z, fX7_findPacked T = some (b, z) ∧ ((zy_all S = none ∧ b = nI 0) ∨ (∃ pl', zy_all S = some pl' ∧ b = nI 1 ∧ ∀ f, f < S 1 0 → z 5 f = nI (pl' f))) := by
  have hc := g.1
  unfold fX7_findPacked zy_all
  refine zx_findPacked_L h g hw (S 1 0) 0 0 (zy_pl0 S) 0 0 T 5000 (by omega) (by omega) (zy_I0 g) (fun f _ hb => ?_) (by decide) (by decide) (fun p hp => ?_)
  · rw [Nat.zero_testBit] at hb
    cases hb
  · unfold zs_q
    rw [Nat.zero_testBit, Nat.zero_testBit, ite_self]
    refine (zs_none0.mpr (fun f hf => ?_)).symm
    refine decide_eq_false (fun a => ?_)
    have a2 : zy_pl0 S f ≤ p := a.2.1
    have : zy_pl0 S f = 40 + S 3 f % 20 := if_pos hf
    omega
theorem zx_countMoved_L {pl : Nat → Nat} (h : RT T S) (g : GT S) (hp : ∀ f, f < S 1 0 → pl f < 40 ∧ T 5 f = nI (pl f)) (kx : Int32 → Option Int32) : ∀ d f n, f + d = S 1 0 → d < n → fX7_countMoved_L4 T n kx (nI (zy_mvd S pl f)) (nI f) = kx (nI (zy_mvd S pl (S 1 0))) := by
  have hc := g.1
  intro d
  induction d with
  | zero =>
    intro f n hf_ hn
    obtain ⟨m, rfl⟩ : ∃ m, n = m + 1 := ⟨n - 1, by omega⟩
    have c : S 1 0 ≤ f := by omega
    have ef : f = S 1 0 := by omega
    rw [fX7_countMoved_L4]
    simp (disch := omega) only [li0, li1, li2, li3, li4, li5, li6, li7, li8, li9, li10, li12, li13, li14, li15, li19, li20, li31, li33, li40, li42, li44, li48, li57, li60, li99, li100, li126, li150, li176, li177, li187, li197, li207, li208, li223, li304, li608, li1520, li1824, nI_add, pk_mul, nI_clamp, nI_leI, nI_ltI, nI_eq, zn_inb, zn_gd, zn_bs, zn_isb, not_true_eq_false, not_false_eq_true, ↓reduceIte, pk_div, pk_sub, zn_rem20, zn_rem2, zn_m1, zn_eqw, zn_weq, zn_weq2, zn_wlt0, zn_wltn, zn_win, zn_wcl, zn_wadd, Nat.not_lt_zero, Nat.one_ne_zero, Nat.zero_ne_one, Nat.le_refl, Nat.zero_le, zn_sel_r, zn_sel_l, h.1, c]
    try rw [ef]
    try rfl
  | succ d ih =>
    intro f n hf_ hn
    obtain ⟨m, rfl⟩ : ∃ m, n = m + 1 := ⟨n - 1, by omega⟩
    have c : ¬ S 1 0 ≤ f := by omega
    have ih1 := ih (f + 1) m (by omega) (by omega)
    have c2 : ¬ 12 ≤ f := by omega
    have e1 := (hp f (by omega)).2
    have e2 := h.2.2.2.1 f (by omega)
    have b1 := (hp f (by omega)).1
    have b2 := (g.2.2.1 f (by omega)).2.2.1
    rw [show zy_mvd S pl (f + 1) = zy_mvd S pl f + (if (!decide (pl f = S 3 f)) = true then 1 else 0) from rfl] at ih1
    rw [fX7_countMoved_L4]
    by_cases q : pl f = S 3 f
    · rw [decide_eq_true q, Bool.not_true, if_neg (by decide)] at ih1
      simp (disch := omega) only [li0, li1, li2, li3, li4, li5, li6, li7, li8, li9, li10, li12, li13, li14, li15, li19, li20, li31, li33, li40, li42, li44, li48, li57, li60, li99, li100, li126, li150, li176, li177, li187, li197, li207, li208, li223, li304, li608, li1520, li1824, nI_add, pk_mul, nI_clamp, nI_leI, nI_ltI, nI_eq, zn_inb, zn_gd, zn_bs, zn_isb, not_true_eq_false, not_false_eq_true, ↓reduceIte, pk_div, pk_sub, zn_rem20, zn_rem2, zn_m1, zn_eqw, zn_weq, zn_weq2, zn_wlt0, zn_wltn, zn_win, zn_wcl, zn_wadd, Nat.not_lt_zero, Nat.one_ne_zero, Nat.zero_ne_one, Nat.le_refl, Nat.zero_le, zn_sel_r, zn_sel_l, h.1, c, c2, e1, e2, eq_true q, fX7_countMoved_B33]
      exact ih1
    · rw [decide_eq_false q, Bool.not_false, if_pos rfl] at ih1
      simp (disch := omega) only [li0, li1, li2, li3, li4, li5, li6, li7, li8, li9, li10, li12, li13, li14, li15, li19, li20, li31, li33, li40, li42, li44, li48, li57, li60, li99, li100, li126, li150, li176, li177, li187, li197, li207, li208, li223, li304, li608, li1520, li1824, nI_add, pk_mul, nI_clamp, nI_leI, nI_ltI, nI_eq, zn_inb, zn_gd, zn_bs, zn_isb, not_true_eq_false, not_false_eq_true, ↓reduceIte, pk_div, pk_sub, zn_rem20, zn_rem2, zn_m1, zn_eqw, zn_weq, zn_weq2, zn_wlt0, zn_wltn, zn_win, zn_wcl, zn_wadd, Nat.not_lt_zero, Nat.one_ne_zero, Nat.zero_ne_one, Nat.le_refl, Nat.zero_le, zn_sel_r, zn_sel_l, h.1, c, c2, e1, e2, eq_false q, fX7_countMoved_B33]
      exact ih1
theorem zx_countMoved {pl : Nat → Nat} (h : RT T S) (g : GT S) (hp : ∀ f, f < S 1 0 → pl f < 40 ∧ T 5 f = nI (pl f)) : fX7_countMoved T = some (nI (zy_mvd S pl (S 1 0))) := by
  have hc := g.1
  unfold fX7_countMoved
  exact zx_countMoved_L h g hp (fun (l2 : Int32) => some l2) (S 1 0) 0 5000 (by omega) (by omega)
theorem zx_moveTo_L {pl : Nat → Nat} (h : RT T S) (hc : S 1 0 ≤ 12) (hp : ∀ f, f < S 1 0 → T 5 f = nI (pl f)) (ho : ∀ f, S 1 0 ≤ f → pl f = S 3 f) : ∀ d f n N, f + d = S 1 0 → d < n → (∀ i, i < 12 → N 2 i = nI (if i < f then pl i else S 3 i)) → ∃ z, fX7_moveTo_L2 T n (fun (N : Mem) => some (sr T 2 (N 2))) N (nI f) = some z ∧ rn 12 (z 2) pl := by
  intro d
  induction d with
  | zero =>
    intro f n N hf hn hN
    obtain ⟨m, rfl⟩ : ∃ m, n = m + 1 := ⟨n - 1, by omega⟩
    have c : S 1 0 ≤ f := by omega
    rw [fX7_moveTo_L2]
    simp (disch := omega) only [li0, li1, li2, li3, li4, li5, li6, li7, li8, li9, li10, li12, li13, li14, li15, li19, li20, li31, li33, li40, li42, li44, li48, li57, li60, li99, li100, li126, li150, li176, li177, li187, li197, li207, li208, li223, li304, li608, li1520, li1824, nI_add, pk_mul, nI_clamp, nI_leI, nI_ltI, nI_eq, zn_inb, zn_gd, zn_bs, zn_isb, not_true_eq_false, not_false_eq_true, ↓reduceIte, pk_div, pk_sub, zn_rem20, zn_rem2, zn_m1, zn_eqw, zn_weq, zn_weq2, zn_wlt0, zn_wltn, zn_win, zn_wcl, zn_wadd, Nat.not_lt_zero, Nat.one_ne_zero, Nat.zero_ne_one, Nat.le_refl, Nat.zero_le, zn_sel_r, zn_sel_l, h.1, c]
    refine ⟨_, rfl, fun i hi => ?_⟩
    refine (hN i hi).trans ?_
    by_cases q : i < f
    · rw [if_pos q]
    · rw [if_neg q, ho i (by omega)]
  | succ d ih =>
    intro f n N hf hn hN
    obtain ⟨m, rfl⟩ : ∃ m, n = m + 1 := ⟨n - 1, by omega⟩
    have c : ¬ S 1 0 ≤ f := by omega
    have c2 : ¬ 12 ≤ f := by omega
    have e1 := hp f (by omega)
    rw [fX7_moveTo_L2]
    simp (disch := omega) only [li0, li1, li2, li3, li4, li5, li6, li7, li8, li9, li10, li12, li13, li14, li15, li19, li20, li31, li33, li40, li42, li44, li48, li57, li60, li99, li100, li126, li150, li176, li177, li187, li197, li207, li208, li223, li304, li608, li1520, li1824, nI_add, pk_mul, nI_clamp, nI_leI, nI_ltI, nI_eq, zn_inb, zn_gd, zn_bs, zn_isb, not_true_eq_false, not_false_eq_true, ↓reduceIte, pk_div, pk_sub, zn_rem20, zn_rem2, zn_m1, zn_eqw, zn_weq, zn_weq2, zn_wlt0, zn_wltn, zn_win, zn_wcl, zn_wadd, Nat.not_lt_zero, Nat.one_ne_zero, Nat.zero_ne_one, Nat.le_refl, Nat.zero_le, zn_sel_r, zn_sel_l, h.1, c, c2, e1]
    refine ih (f + 1) m _ (by omega) (by omega) (fun i hi => ?_)
    show upd (N 2) f (nI (pl f)) i = _
    by_cases q : i = f
    · subst q
      rw [up_s, if_pos (by omega)]
    · rw [up_n q, hN i hi]
      by_cases q2 : i < f
      · rw [if_pos q2, if_pos (by omega)]
      · rw [if_neg q2, if_neg (by omega)]
theorem zx_moveTo {pl : Nat → Nat} (h : RT T S) (hc : S 1 0 ≤ 12) (hp : ∀ f, f < S 1 0 → T 5 f = nI (pl f)) (ho : ∀ f, S 1 0 ≤ f → pl f = S 3 f) : ∃ z, fX7_moveTo T = some z ∧ rn 12 (z 2) pl := by
  unfold fX7_moveTo
  exact zx_moveTo_L h hc hp ho (S 1 0) 0 5000 T (by omega) (by omega) (fun i hi => by
    rw [if_neg (Nat.not_lt_zero i)]
    exact h.2.2.2.1 i hi)
end
