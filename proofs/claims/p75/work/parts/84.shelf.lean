set_option maxHeartbeats 400000
/-! a shelf comes, a shelf goes -/
def zo_z (g : Nat → Nat) (c : Nat) : Nat → Nat := fun i => if c * 10 ≤ i ∧ i < c * 10 + 10 then 0 else g i
def zo_add (S : SM) (p w : Nat) : SM := sw (sw (sw (sw (sw S 1 (uw (S 1) 0 (S 1 0 + 1))) 2 (uw (S 2) (S 1 0) w)) 3 (uw (S 3) (S 1 0) p)) 4 (uw (S 4) (S 1 0) 0)) 5 (zo_z (S 5) (S 1 0))
def zo_s1 (g : Nat → Nat) (f j : Nat) : Nat → Nat := fun i => if f ≤ i ∧ i < j then g (i + 1) else g i
def zo_scrap (S : SM) (f : Nat) : SM := sw (sw (sw (sw (sw S 1 (uw (uw (S 1) 0 (S 1 0 - 1)) 1 (if S 1 1 ≤ f + 1 then S 1 1 else S 1 1 - 1))) 2 (zo_s1 (S 2) f (S 1 0 - 1))) 3 (zo_s1 (S 3) f (S 1 0 - 1))) 4 (zo_s1 (S 4) f (S 1 0 - 1))) 5 (zo_dm (S 5) f (S 1 0 - 1))
section
variable {T M K : Mem} {S : SM} {u : Nat}
theorem zs_fit_apart0 (g : GX u S) {w p : Nat} (hx : S 1 1 = 0) (w1 : 1 ≤ w) (h : zs_fq (zs_tq S) w p = true) {f : Nat} (hf : f < S 1 0) : p + w ≤ S 3 f ∨ S 3 f + S 2 f ≤ p := by
  have bf := g.1.2.2.1 f hf
  obtain ⟨h1, h2⟩ := of_decide_eq_true h
  rcases Nat.lt_or_ge (S 3 f) (p + w) with q | q
  · rcases Nat.lt_or_ge p (S 3 f + S 2 f) with q2 | q2
    · exfalso
      have h3 := zs_none0.mp (h2 (S 3 f - p) (by omega)) f hf
      exact of_decide_eq_false h3 (by omega)
    · exact Or.inr q2
  · exact Or.inl q
theorem zs_wt_z (S : SM) {S' : SM} (e : S' 5 = zo_z (S 5) (S 1 0)) (e2 : S' 10 = S 10) (f : Nat) : zs_wt S' f = if f = S 1 0 then 0 else zs_wt S f := by
  unfold zs_wt
  rw [e, e2]
  by_cases q : f = S 1 0
  · rw [if_pos q, q]
    have : fb_sm (fun k => zo_z (S 5) (S 1 0) (S 1 0 * 10 + k) * S 10 k) 10 = fb_sm (fun _ => 0) 10 := fb_sm_cong (fun k hk => by
      unfold zo_z
      rw [if_pos (by omega), Nat.zero_mul])
    rw [this, fb_sm_const]
  · rw [if_neg q]
    exact fb_sm_cong (fun k hk => by
      unfold zo_z
      rw [if_neg (by omega)])
theorem GX.add (g : GX u S) (hw : S 1 1 = 0) (hc : S 1 0 < 12) {w p : Nat} (w1 : 1 ≤ w) (w4 : w ≤ 4) (hp : p < 40) (h : zs_fq (zs_tq S) w p = true) : GX u (zo_add S p w) := by
  have ap := fun {f : Nat} => zs_fit_apart0 g hw w1 h (f := f)
  have h1 := (of_decide_eq_true h).1
  obtain ⟨⟨a1, a2, a3, a4, a5, a6⟩, b1, b2, b3, b4, b5, b6, b10, b11, b12, b13⟩ := id g
  have ct : zo_add S p w 1 0 = S 1 0 + 1 := rfl
  have r2 : zo_add S p w 2 = uw (S 2) (S 1 0) w := rfl
  have r3 : zo_add S p w 3 = uw (S 3) (S 1 0) p := rfl
  have r4 : zo_add S p w 4 = uw (S 4) (S 1 0) 0 := rfl
  have r5 : zo_add S p w 5 = zo_z (S 5) (S 1 0) := rfl
  refine ⟨⟨?_, ?_, fun f hf => ?_, fun f hf => ?_, fun f k hf hk => ?_, fun f k hfk hk => ?_⟩, b1, fun f hf => ?_, b3, b4, b5, b6, fun f hf => ?_, b11, b12, b13⟩
  · rw [ct]
    omega
  · rw [ct]
    show S 1 1 ≤ _
    omega
  · rw [ct] at hf
    rw [r2, r3]
    by_cases q : f = S 1 0
    · rw [q, uw_s, uw_s]
      omega
    · rw [uw_n q, uw_n q]
      exact a3 f (by omega)
  · rw [ct] at hf
    rw [r4]
    by_cases q : f = S 1 0
    · rw [q, uw_s]
      exact Nat.two_pow_pos _
    · rw [uw_n q]
      exact a4 f (by omega)
  · rw [ct] at hf
    rw [r5]
    unfold zo_z
    by_cases q : f = S 1 0
    · rw [if_pos (by omega)]
      omega
    · rw [if_neg (by omega)]
      exact a5 f k (by omega) hk
  · rw [ct] at hk
    rw [r2, r3]
    have qf : f ≠ S 1 0 := by omega
    rw [uw_n qf, uw_n qf]
    by_cases q : k = S 1 0
    · rw [q, uw_s, uw_s]
      have := ap (f := f) (by omega)
      omega
    · rw [uw_n q, uw_n q]
      exact a6 f k hfk (by omega)
  · rw [ct] at hf
    rw [zs_wt_z S r5 rfl]
    split
    · omega
    · exact b2 f (by omega)
  · rw [ct] at hf
    rw [r4]
    by_cases q : f = S 1 0
    · rw [q, uw_s]
      omega
    · rw [uw_n q]
      exact b10 f (by omega)
theorem zx_addAt_L {c : Nat} (hc : c < 12) (g : Nat → Nat) {c0 c1 c2 c3 : Nat → Int32} {kx : Mem → Int32 → Option (Int32 × Mem)} {v : Int32} {Q : Mem → Prop} (hk : ∀ N, N 0 = c0 → N 1 = c1 → N 2 = c2 → N 3 = c3 → rn 120 (N 4) (zo_z g c) → ∃ z, kx N (nI c) = some (v, z) ∧ Q z) : ∀ d j n N, j + d = 10 → d < n → N 0 = c0 → N 1 = c1 → N 2 = c2 → N 3 = c3 → (∀ i, i < 120 → N 4 i = nI (if c * 10 ≤ i ∧ i < c * 10 + j then 0 else g i)) → ∃ z, fX7_addAt_L29 T n kx N (nI c) (nI j) = some (v, z) ∧ Q z := by
  intro d
  induction d with
  | zero =>
    intro j n N hj hn h0 h1 h2 h3 h4
    obtain ⟨m, rfl⟩ : ∃ m, n = m + 1 := ⟨n - 1, by omega⟩
    obtain rfl : j = 10 := by omega
    rw [fX7_addAt_L29]
    simp (disch := omega) only [li0, li1, li2, li3, li4, li5, li6, li7, li8, li9, li10, li12, li13, li14, li15, li19, li20, li31, li33, li40, li42, li44, li48, li57, li60, li99, li100, li126, li150, li176, li177, li187, li197, li207, li208, li223, li304, li608, li1520, li1824, nI_add, pk_mul, nI_clamp, nI_leI, nI_ltI, nI_eq, zn_inb, zn_gd, zn_bs, zn_isb, not_true_eq_false, not_false_eq_true, ↓reduceIte, pk_div, pk_sub, zn_rem20, zn_rem2, zn_m1, zn_eqw, zn_weq, zn_weq2, zn_wlt0, zn_wltn, zn_win, zn_wcl, zn_wadd, Nat.not_lt_zero, Nat.one_ne_zero, Nat.zero_ne_one, Nat.le_refl, Nat.zero_le, zn_sel_r, zn_sel_l]
    exact hk _ h0 h1 h2 h3 h4
  | succ d ih =>
    intro j n N hj hn h0 h1 h2 h3 h4
    obtain ⟨m, rfl⟩ : ∃ m, n = m + 1 := ⟨n - 1, by omega⟩
    have q : ¬ 10 ≤ j := by omega
    rw [fX7_addAt_L29]
    simp (disch := omega) only [li0, li1, li2, li3, li4, li5, li6, li7, li8, li9, li10, li12, li13, li14, li15, li19, li20, li31, li33, li40, li42, li44, li48, li57, li60, li99, li100, li126, li150, li176, li177, li187, li197, li207, li208, li223, li304, li608, li1520, li1824, nI_add, pk_mul, nI_clamp, nI_leI, nI_ltI, nI_eq, zn_inb, zn_gd, zn_bs, zn_isb, not_true_eq_false, not_false_eq_true, ↓reduceIte, pk_div, pk_sub, zn_rem20, zn_rem2, zn_m1, zn_eqw, zn_weq, zn_weq2, zn_wlt0, zn_wltn, zn_win, zn_wcl, zn_wadd, Nat.not_lt_zero, Nat.one_ne_zero, Nat.zero_ne_one, Nat.le_refl, Nat.zero_le, zn_sel_r, zn_sel_l, q]
    refine ih (j + 1) m _ (by omega) (by omega) h0 h1 h2 h3 (fun i hi => ?_)
    show upd (N 4) (c * 10 + j) (nI 0) i = _
    by_cases e : i = c * 10 + j
    · rw [e, up_s, if_pos (by omega)]
    · rw [up_n e, h4 i hi]
      by_cases b : c * 10 ≤ i ∧ i < c * 10 + j
      · rw [if_pos b, if_pos (by omega)]
      · rw [if_neg b, if_neg (by omega)]
theorem zx_addAt (h : RT T S) (hc : S 1 0 < 12) (p w : Nat) : ∃ z, fX7_addAt T (nI p) (nI w) = some (nI (S 1 0), z) ∧ RT z (zo_add S p w) := by
  have e0 := h.1
  unfold fX7_addAt
  simp (disch := omega) only [li0, li1, li2, li3, li4, li5, li6, li7, li8, li9, li10, li12, li13, li14, li15, li19, li20, li31, li33, li40, li42, li44, li48, li57, li60, li99, li100, li126, li150, li176, li177, li187, li197, li207, li208, li223, li304, li608, li1520, li1824, nI_add, pk_mul, nI_clamp, nI_leI, nI_ltI, nI_eq, zn_inb, zn_gd, zn_bs, zn_isb, not_true_eq_false, not_false_eq_true, ↓reduceIte, pk_div, pk_sub, zn_rem20, zn_rem2, zn_m1, zn_eqw, zn_weq, zn_weq2, zn_wlt0, zn_wltn, zn_win, zn_wcl, zn_wadd, Nat.not_lt_zero, Nat.one_ne_zero, Nat.zero_ne_one, Nat.le_refl, Nat.zero_le, zn_sel_r, zn_sel_l, e0]
  refine zx_addAt_L (T := T) hc (S 5) (c0 := T 0) (c1 := upd (T 1) (S 1 0) (nI w)) (c2 := upd (T 2) (S 1 0) (nI p)) (c3 := upd (T 3) (S 1 0) (nI 0)) (Q := fun z => RT z (zo_add S p w)) (fun N h0 h1 h2 h3 h4 => ?_) 10 0 5000 _ (by omega) (by omega) rfl rfl rfl rfl (fun i hi => by rw [if_neg (by omega)]; exact h.2.2.2.2.2 i hi)
  refine ⟨_, rfl, ?_, ?_, ?_, ?_, ?_, h4⟩
  · show N 0 0 + nI 1 = nI (S 1 0 + 1)
    rw [h0, e0, nI_add]
  · show N 0 1 = _
    rw [h0]
    exact h.2.1
  · show rn 12 (N 1) _
    rw [h1]
    exact rn_up h.2.2.1 _ _
  · show rn 12 (N 2) _
    rw [h2]
    exact rn_up h.2.2.2.1 _ _
  · show rn 12 (N 3) _
    rw [h3]
    exact rn_up h.2.2.2.2.1 _ _
theorem zo_s1_r {g : Nat → Nat} {f j : Nat} {s : Nat → Int32} (h : rn 12 s (zo_s1 g f (j - 1))) (hf : f < j) (hj : j < 12) : rn 12 (upd s (j - 1) (s j)) (zo_s1 g f j) := by
  intro i hi
  unfold upd zo_s1
  by_cases e : i = j - 1
  · rw [if_pos e, if_pos (by omega), h j hj]
    unfold zo_s1
    rw [if_neg (by omega)]
    congr 2
    omega
  · rw [if_neg e, h i hi]
    unfold zo_s1
    by_cases b : f ≤ i ∧ i < j - 1
    · rw [if_pos b, if_pos (by omega)]
    · rw [if_neg b, if_neg (by omega)]
theorem zx_rem_L {c f : Nat} (hc : c ≤ 12) {c0 : Nat → Int32} (e0 : c0 0 = nI c) {kx : Mem → Int32 → Option Mem} {Q : Mem → Prop} (hk : ∀ N, N 0 = c0 → rn 12 (N 1) (zo_s1 (S 2) f (c - 1)) → rn 12 (N 2) (zo_s1 (S 3) f (c - 1)) → rn 12 (N 3) (zo_s1 (S 4) f (c - 1)) → rn 120 (N 4) (zo_dm (S 5) f (c - 1)) → ∃ z, kx N (nI f) = some z ∧ Q z) : ∀ d j n N, j + d = c → f < j → d < n → N 0 = c0 → rn 12 (N 1) (zo_s1 (S 2) f (j - 1)) → rn 12 (N 2) (zo_s1 (S 3) f (j - 1)) → rn 12 (N 3) (zo_s1 (S 4) f (j - 1)) → rn 120 (N 4) (zo_dm (S 5) f (j - 1)) → ∃ z, fX7_remove_L4 T n kx N (nI f) (nI j) = some z ∧ Q z := by
  intro d
  induction d with
  | zero =>
    intro j n N hj hf hn h0 h1 h2 h3 h4
    obtain ⟨m, rfl⟩ : ∃ m, n = m + 1 := ⟨n - 1, by omega⟩
    have q : c ≤ j := by omega
    have n0 : N 0 0 = nI c := by rw [h0]; exact e0
    rw [fX7_remove_L4]
    simp (disch := omega) only [li0, li1, li2, li3, li4, li5, li6, li7, li8, li9, li10, li12, li13, li14, li15, li19, li20, li31, li33, li40, li42, li44, li48, li57, li60, li99, li100, li126, li150, li176, li177, li187, li197, li207, li208, li223, li304, li608, li1520, li1824, nI_add, pk_mul, nI_clamp, nI_leI, nI_ltI, nI_eq, zn_inb, zn_gd, zn_bs, zn_isb, not_true_eq_false, not_false_eq_true, ↓reduceIte, pk_div, pk_sub, zn_rem20, zn_rem2, zn_m1, zn_eqw, zn_weq, zn_weq2, zn_wlt0, zn_wltn, zn_win, zn_wcl, zn_wadd, Nat.not_lt_zero, Nat.one_ne_zero, Nat.zero_ne_one, Nat.le_refl, Nat.zero_le, zn_sel_r, zn_sel_l, n0, q]
    rw [show j = c by omega] at h1 h2 h3 h4
    exact hk _ h0 h1 h2 h3 h4
  | succ d ih =>
    intro j n N hj hf hn h0 h1 h2 h3 h4
    obtain ⟨m, rfl⟩ : ∃ m, n = m + 1 := ⟨n - 1, by omega⟩
    have q : ¬ c ≤ j := by omega
    have n0 : N 0 0 = nI c := by rw [h0]; exact e0
    have e1 := zn_cpk (a := j * 10) (b := (j - 1) * 10) (c := 10) (n0 := 120) (n1 := 120) (by omega) (by omega) (by omega) (by omega)
    rw [fX7_remove_L4]
    simp (disch := omega) only [li0, li1, li2, li3, li4, li5, li6, li7, li8, li9, li10, li12, li13, li14, li15, li19, li20, li31, li33, li40, li42, li44, li48, li57, li60, li99, li100, li126, li150, li176, li177, li187, li197, li207, li208, li223, li304, li608, li1520, li1824, nI_add, pk_mul, nI_clamp, nI_leI, nI_ltI, nI_eq, zn_inb, zn_gd, zn_bs, zn_isb, not_true_eq_false, not_false_eq_true, ↓reduceIte, pk_div, pk_sub, zn_rem20, zn_rem2, zn_m1, zn_eqw, zn_weq, zn_weq2, zn_wlt0, zn_wltn, zn_win, zn_wcl, zn_wadd, Nat.not_lt_zero, Nat.one_ne_zero, Nat.zero_ne_one, Nat.le_refl, Nat.zero_le, zn_sel_r, zn_sel_l, n0, q, e1]
    refine ih (j + 1) m _ (by omega) (by omega) (by omega) h0 (zo_s1_r h1 hf (by omega)) (zo_s1_r h2 hf (by omega)) (zo_s1_r h3 hf (by omega)) ?_
    show rn 120 (va_cpy (N 4) (N 4) (j * 10) ((j - 1) * 10) 10) _
    intro i hi
    unfold va_cpy zo_dm
    by_cases a : (j - 1) * 10 ≤ i ∧ i < (j - 1) * 10 + 10
    · rw [if_pos a, if_pos (by omega), h4 _ (by omega)]
      unfold zo_dm
      rw [if_neg (by omega)]
      congr 2
      omega
    · rw [if_neg a, h4 i hi]
      unfold zo_dm
      by_cases b : f * 10 ≤ i ∧ i < (j - 1) * 10
      · rw [if_pos b, if_pos (by omega)]
      · rw [if_neg b, if_neg (by omega)]
theorem zx_rem (h : RT T S) (hc : S 1 0 ≤ 12) (hw : S 1 1 ≤ S 1 0) {f : Nat} (hf : f < S 1 0) : ∃ z, fX7_remove T (nI f) = some z ∧ RT z (zo_scrap S f) := by
  have sm : ∀ (g : Nat → Nat) (s : Nat → Int32), rn 12 s g → rn 12 s (zo_s1 g f (f + 1 - 1)) := fun g s q i hi => by
    unfold zo_s1
    rw [if_neg (by omega)]
    exact q i hi
  unfold fX7_remove
  rw [nI_1]
  refine zx_rem_L (T := T) (S := S) hc (c0 := T 0) h.1 (Q := fun z => RT z (zo_scrap S f)) (fun N h0 h1 h2 h3 h4 => ?_) (S 1 0 - (f + 1)) (f + 1) 5000 T (by omega) (by omega) (by omega) rfl (sm _ _ h.2.2.1) (sm _ _ h.2.2.2.1) (sm _ _ h.2.2.2.2.1) (fun i hi => by
    unfold zo_dm
    rw [if_neg (by omega)]
    exact h.2.2.2.2.2 i hi)
  have n0 : N 0 0 = nI (S 1 0) := by rw [h0]; exact h.1
  have n1 : N 0 1 = wI (S 1 1) := by rw [h0]; exact h.2.1
  have zl := zn_wle (w := S 1 1) (c := f) (by omega) (by omega)
  by_cases q : S 1 1 ≤ f + 1
  · have z1 := zl.mpr q
    rw [n1, if_pos z1]
    unfold fX7_remove_B111
    refine ⟨_, rfl, ?_, ?_, h1, h2, h3, h4⟩
    · show N 0 0 - (1 : Int32) = nI (S 1 0 - 1)
      rw [n0]
      exact pk_sub (show 1 ≤ S 1 0 by omega)
    · show N 0 1 = wI (if S 1 1 ≤ f + 1 then S 1 1 else S 1 1 - 1)
      rw [if_pos q]
      exact n1
  · have z1 : ¬ wI (S 1 1) ≤ nI f := fun a => q (zl.mp a)
    rw [n1, if_neg z1]
    unfold fX7_remove_B111
    refine ⟨_, rfl, ?_, ?_, h1, h2, h3, h4⟩
    · show N 0 0 - (1 : Int32) = nI (S 1 0 - 1)
      rw [n0]
      exact pk_sub (show 1 ≤ S 1 0 by omega)
    · show wI (S 1 1) - (1 : Int32) = wI (if S 1 1 ≤ f + 1 then S 1 1 else S 1 1 - 1)
      rw [if_neg q]
      exact zn_wsub (by omega)
theorem GX.scrap (g : GX u S) {f : Nat} (hf : f < S 1 0) (hw : ¬ S 1 1 = f + 1) : GX u (zo_scrap S f) := by
  obtain ⟨⟨a1, a2, a3, a4, a5, a6⟩, b1, b2, b3, b4, b5, b6, b10, b11, b12, b13⟩ := id g
  have ct : zo_scrap S f 1 0 = S 1 0 - 1 := rfl
  have r2 : zo_scrap S f 2 = zo_s1 (S 2) f (S 1 0 - 1) := rfl
  have r3 : zo_scrap S f 3 = zo_s1 (S 3) f (S 1 0 - 1) := rfl
  have r4 : zo_scrap S f 4 = zo_s1 (S 4) f (S 1 0 - 1) := rfl
  have r5 : zo_scrap S f 5 = zo_dm (S 5) f (S 1 0 - 1) := rfl
  have s1 : ∀ (v : Nat → Nat) i, i < S 1 0 - 1 → zo_s1 v f (S 1 0 - 1) i = v (if f ≤ i then i + 1 else i) := fun v i hi => by
    unfold zo_s1
    by_cases q : f ≤ i
    · rw [if_pos ⟨q, hi⟩, if_pos q]
    · rw [if_neg (fun a => q a.1), if_neg q]
  have s5 : ∀ (v : Nat → Nat) i k, i < S 1 0 - 1 → k < 10 → zo_dm v f (S 1 0 - 1) (i * 10 + k) = v ((if f ≤ i then i + 1 else i) * 10 + k) := fun v i k hi hk => by
    unfold zo_dm
    by_cases q : f ≤ i
    · rw [if_pos (by omega), if_pos q]
      congr 1
      omega
    · rw [if_neg (by omega), if_neg q]
  have sl : ∀ i, i < S 1 0 - 1 → (if f ≤ i then i + 1 else i) < S 1 0 := fun i hi => by split <;> omega
  refine ⟨⟨?_, ?_, fun i hi => ?_, fun i hi => ?_, fun i k hi hk => ?_, fun i k hik hk => ?_⟩, b1, fun i hi => ?_, b3, b4, b5, b6, fun i hi => ?_, b11, b12, b13⟩
  · rw [ct]
    omega
  · rw [ct]
    show (if S 1 1 ≤ f + 1 then S 1 1 else S 1 1 - 1) ≤ _
    split <;> omega
  · rw [ct] at hi
    rw [r2, r3, s1 _ i hi, s1 _ i hi]
    exact a3 _ (sl i hi)
  · rw [ct] at hi
    rw [r4, s1 _ i hi]
    exact a4 _ (sl i hi)
  · rw [ct] at hi
    rw [r5, s5 _ i k hi hk]
    exact a5 _ k (sl i hi) hk
  · rw [ct] at hk
    have hi : i < S 1 0 - 1 := by omega
    rw [r2, r3, s1 _ i hi, s1 _ i hi, s1 _ k hk, s1 _ k hk]
    exact a6 _ _ (by split <;> split <;> omega) (sl k hk)
  · rw [ct] at hi
    have : zs_wt (zo_scrap S f) i = zs_wt S (if f ≤ i then i + 1 else i) := by
      unfold zs_wt
      rw [r5]
      exact fb_sm_cong (fun k hk => by rw [s5 _ i k hi hk]; rfl)
    rw [this]
    exact b2 _ (sl i hi)
  · rw [ct] at hi
    rw [r4, s1 _ i hi]
    exact b10 _ (sl i hi)
theorem RK.scrap {s t : Nat → Int32} (h : RK s S) (hc : S 1 0 ≤ 12) (ho : S 14 0 ≤ 8) {x : Nat} (hx : x < S 1 0) {w : Int32} (hw : w = wI (if S 1 1 ≤ x + 1 then S 1 1 else S 1 1 - 1)) (e : ∀ i, i < 304 → i ≠ 1 → t i = if 9 + 14 * x ≤ i ∧ i < 9 + 14 * (S 1 0 - 1) then upd s 0 (nI (S 1 0 - 1)) (i + 14) else upd s 0 (nI (S 1 0 - 1)) i) (e1 : t 1 = w) : RK t (zo_scrap S x) := by
  have lo : ∀ i, i < 304 → i ≠ 0 → i ≠ 1 → ¬ (9 + 14 * x ≤ i ∧ i < 9 + 14 * (S 1 0 - 1)) → t i = s i := fun i h304 h0 h1 h2 => by
    rw [e i h304 h1, if_neg h2, up_n h0]
  have hi : ∀ i, i < 304 → (9 + 14 * x ≤ i ∧ i < 9 + 14 * (S 1 0 - 1)) → t i = s (i + 14) := fun i h304 h2 => by
    rw [e i h304 (by omega), if_pos h2, up_n (by omega)]
  exact ⟨((e 0 (by omega) (by omega)).trans (by rw [if_neg (by omega)]; exact up_s _ _ _)), (e1.trans hw), fun f hf => have hf : f < S 1 0 - 1 := hf; ⟨(by
  show _ = nI (if x ≤ f ∧ f < S 1 0 - 1 then S 2 (f + 1) else S 2 f)
  by_cases q : x ≤ f
  · rw [if_pos ⟨q, hf⟩, hi _ (by omega) (by omega)]
    exact (h.2.2.1 (f + 1) (by omega)).1
  · rw [if_neg (fun a => q a.1)]
    exact (lo _ (by omega) (by omega) (by omega) (by omega)).trans (h.2.2.1 f (by omega)).1), (by
  show _ = nI ((if x ≤ f ∧ f < S 1 0 - 1 then S 3 (f + 1) else S 3 f) / 20)
  by_cases q : x ≤ f
  · rw [if_pos ⟨q, hf⟩, hi _ (by omega) (by omega)]
    exact (h.2.2.1 (f + 1) (by omega)).2.1
  · rw [if_neg (fun a => q a.1)]
    exact (lo _ (by omega) (by omega) (by omega) (by omega)).trans (h.2.2.1 f (by omega)).2.1), (by
  show _ = nI ((if x ≤ f ∧ f < S 1 0 - 1 then S 3 (f + 1) else S 3 f) % 20)
  by_cases q : x ≤ f
  · rw [if_pos ⟨q, hf⟩, hi _ (by omega) (by omega)]
    exact (h.2.2.1 (f + 1) (by omega)).2.2.1
  · rw [if_neg (fun a => q a.1)]
    exact (lo _ (by omega) (by omega) (by omega) (by omega)).trans (h.2.2.1 f (by omega)).2.2.1), (by
  show _ = nI (if x ≤ f ∧ f < S 1 0 - 1 then S 4 (f + 1) else S 4 f)
  by_cases q : x ≤ f
  · rw [if_pos ⟨q, hf⟩, hi _ (by omega) (by omega)]
    exact (h.2.2.1 (f + 1) (by omega)).2.2.2
  · rw [if_neg (fun a => q a.1)]
    exact (lo _ (by omega) (by omega) (by omega) (by omega)).trans (h.2.2.1 f (by omega)).2.2.2)⟩, fun f k hf hk => have hf : f < S 1 0 - 1 := hf; (by
  show _ = nI (if x * 10 ≤ f * 10 + k ∧ f * 10 + k < (S 1 0 - 1) * 10 then S 5 (f * 10 + k + 10) else S 5 (f * 10 + k))
  by_cases q : x ≤ f
  · rw [if_pos (by omega), hi _ (by omega) (by omega)]
    have := h.2.2.2.1 (f + 1) k (by omega) hk
    rwa [show 9 + 14 * (f + 1) + (4 + k) = 9 + 14 * f + (4 + k) + 14 by omega, show (f + 1) * 10 + k = f * 10 + k + 10 by omega] at this
  · rw [if_neg (by omega)]
    exact (lo _ (by omega) (by omega) (by omega) (by omega)).trans (h.2.2.2.1 f k (by omega) hk)), ⟨((lo _ (by omega) (by omega) (by omega) (by omega)).trans h.2.2.2.2.1.1), ((lo _ (by omega) (by omega) (by omega) (by omega)).trans h.2.2.2.2.1.2.1), ((lo _ (by omega) (by omega) (by omega) (by omega)).trans h.2.2.2.2.1.2.2.1), ((lo _ (by omega) (by omega) (by omega) (by omega)).trans h.2.2.2.2.1.2.2.2.1), ((lo _ (by omega) (by omega) (by omega) (by omega)).trans h.2.2.2.2.1.2.2.2.2.1), ((lo _ (by omega) (by omega) (by omega) (by omega)).trans h.2.2.2.2.1.2.2.2.2.2.1), ((lo _ (by omega) (by omega) (by omega) (by omega)).trans h.2.2.2.2.1.2.2.2.2.2.2)⟩, fun k hk => ⟨((lo _ (by omega) (by omega) (by omega) (by omega)).trans (h.2.2.2.2.2.1 k hk).1), ((lo _ (by omega) (by omega) (by omega) (by omega)).trans (h.2.2.2.2.2.1 k hk).2.1), ((lo _ (by omega) (by omega) (by omega) (by omega)).trans (h.2.2.2.2.2.1 k hk).2.2)⟩, fun i hi => ⟨((lo _ (by omega) (by omega) (by omega) (by omega)).trans (h.2.2.2.2.2.2.1 i hi).1), ((lo _ (by omega) (by omega) (by omega) (by omega)).trans (h.2.2.2.2.2.2.1 i hi).2)⟩, fun r k hr hk => have hr : r < S 14 0 := hr; ((lo _ (by omega) (by omega) (by omega) (by omega)).trans (h.2.2.2.2.2.2.2 r k hr hk))⟩
end

