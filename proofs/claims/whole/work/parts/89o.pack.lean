set_option maxHeartbeats 400000
/-! packing: the order of the shelves, the state of it -/
def zy_B (S : SM) (e f : Nat) : Bool := decide (S 4 f < S 4 e ∨ (S 4 e = S 4 f ∧ e < f))
def zy_ah (S : SM) (f : Nat) : Nat := fb_ct (fun e => zy_B S e f) (S 1 0)
abbrev zy_P (S : SM) (pl : Nat → Nat) : SM := sw S 3 pl
def zy_I (S : SM) (r lo : Nat) (pl : Nat → Nat) : Prop := lo < 2 ^ S 1 0 ∧ fb_ct (fun e => lo.testBit e) (S 1 0) = r ∧ (∀ e f, e < S 1 0 → f < S 1 0 → lo.testBit e = true → lo.testBit f = false → zy_B S e f = true) ∧ (∀ f, f < S 1 0 → lo.testBit f = true → pl f < 40) ∧ (∀ f, f < S 1 0 → lo.testBit f = false → pl f = 40 + S 3 f % 20) ∧ (∀ f, S 1 0 ≤ f → pl f = S 3 f) ∧ GK (zy_P S pl)
theorem zy_B_irr (S : SM) (f : Nat) : zy_B S f f = false := decide_eq_false (by omega)
theorem zy_B_as {S : SM} {e f : Nat} (h : zy_B S e f = true) : zy_B S f e = false := by
  have := of_decide_eq_true h
  exact decide_eq_false (by omega)
theorem zy_B_tr {S : SM} {d e f : Nat} (h : zy_B S d e = true) (h2 : zy_B S e f = true) : zy_B S d f = true := by
  have a := of_decide_eq_true h
  have b := of_decide_eq_true h2
  exact decide_eq_true (by omega)
theorem zy_ah_lt {S : SM} {a b : Nat} (ha : a < S 1 0) (h : zy_B S a b = true) : zy_ah S a < zy_ah S b := by
  have e := fb_ct_upd (fun k => zy_B S k a) true ha
  have i := zy_B_irr S a
  simp only [i, if_true] at e
  have s := fb_ct_sub (p := fun k => if k = a then true else zy_B S k a) (q := fun k => zy_B S k b) (n := S 1 0) (fun k _ hk => by
    by_cases q : k = a
    · rw [q]
      exact h
    · simp only [q, if_false] at hk
      exact zy_B_tr hk h)
  unfold zy_ah
  simp only [Bool.false_eq_true, if_false] at e
  omega
theorem zs_mu_s (S : SM) (lo : Nat) : ∀ n, (zs_mu S lo n = 0 ∧ ∀ f, f < n → lo.testBit f = true) ∨ (∃ v, zs_mu S lo n = v + 1 ∧ v < n ∧ lo.testBit v = false ∧ ∀ f, f < n → lo.testBit f = false → f = v ∨ zy_B S v f = true)
  | 0 => Or.inl ⟨rfl, fun f hf => absurd hf (Nat.not_lt_zero f)⟩
  | n + 1 => by
    have ih := zs_mu_s S lo n
    have e : zs_mu S lo (n + 1) = if lo.testBit n = false ∧ (zs_mu S lo n = 0 ∨ ¬ S 4 n ≤ S 4 (zs_mu S lo n - 1)) then n + 1 else zs_mu S lo n := rfl
    rw [e]
    rcases ih with ⟨a, b⟩ | ⟨v, a, b, c, d⟩
    · cases q : lo.testBit n
      · rw [if_pos ⟨rfl, Or.inl a⟩]
        refine Or.inr ⟨n, rfl, by omega, q, fun f hf hq => ?_⟩
        by_cases z : f = n
        · exact Or.inl z
        · rw [b f (by omega)] at hq
          cases hq
      · rw [if_neg (fun h => by cases h.1)]
        refine Or.inl ⟨a, fun f hf => ?_⟩
        by_cases z : f = n
        · rw [z]
          exact q
        · exact b f (by omega)
    · rw [a, Nat.add_sub_cancel]
      by_cases k : lo.testBit n = false ∧ (v + 1 = 0 ∨ ¬ S 4 n ≤ S 4 v)
      · rw [if_pos k]
        have k2 : S 4 v < S 4 n := by omega
        refine Or.inr ⟨n, rfl, by omega, k.1, fun f hf hq => ?_⟩
        by_cases z : f = n
        · exact Or.inl z
        · right
          rcases d f (by omega) hq with w | w
          · rw [w]
            exact decide_eq_true (Or.inl k2)
          · exact zy_B_tr (decide_eq_true (Or.inl k2)) w
      · rw [if_neg k]
        refine Or.inr ⟨v, rfl, by omega, c, fun f hf hq => ?_⟩
        by_cases z : f = n
        · subst z
          right
          refine decide_eq_true ?_
          have : S 4 f ≤ S 4 v := Classical.byContradiction fun y => k ⟨hq, Or.inr y⟩
          omega
        · exact d f (by omega) hq
theorem zy_bit (lo v i : Nat) : (lo ||| 2 ^ v).testBit i = if i = v then true else lo.testBit i := by
  rw [Nat.testBit_or, Nat.testBit_two_pow]
  by_cases q : i = v
  · rw [if_pos q, q, decide_eq_true rfl, Bool.or_true]
  · rw [if_neg q, decide_eq_false (fun e => q e.symm), Bool.or_false]
theorem zy_tq {S : SM} (hw : S 1 1 = 0) {pl : Nat → Nat} {v p x : Nat} (hv : v < S 1 0) (hp : 40 ≤ pl v) (hx : x < 40) : zs_tq (zy_P S (uw pl v p)) x = (zs_tq (zy_P S pl) x || decide (p ≤ x ∧ x < p + S 2 v)) := by
  have e : ∀ a b : Bool, (a = true ↔ b = true) → a = b := by decide
  apply e
  rw [Bool.or_eq_true, decide_eq_true_eq]
  unfold zs_tq
  rw [zs_any0, zs_any0]
  have o1 : ∀ f, zs_oc (zy_P S (uw pl v p)) x f = true ↔ (uw pl v p f ≤ x ∧ x < uw pl v p f + S 2 f) := fun f => by
    unfold zs_oc
    rw [decide_eq_true_eq]
    show ¬ S 1 1 = f + 1 ∧ uw pl v p f ≤ x ∧ x < uw pl v p f + S 2 f ↔ _
    rw [hw]
    omega
  have o2 : ∀ f, zs_oc (zy_P S pl) x f = true ↔ (pl f ≤ x ∧ x < pl f + S 2 f) := fun f => by
    unfold zs_oc
    rw [decide_eq_true_eq]
    show ¬ S 1 1 = f + 1 ∧ pl f ≤ x ∧ x < pl f + S 2 f ↔ _
    rw [hw]
    omega
  constructor
  · rintro ⟨f, h1, h2⟩
    rw [o1] at h2
    by_cases q : f = v
    · subst q
      rw [uw_s] at h2
      exact Or.inr h2
    · rw [uw_n q] at h2
      exact Or.inl ⟨f, h1, (o2 f).mpr h2⟩
  · rintro (⟨f, h1, h2⟩ | h)
    · rw [o2] at h2
      have q : f ≠ v := fun q => by
        rw [q] at h2
        omega
      refine ⟨f, h1, (o1 f).mpr ?_⟩
      rw [uw_n q]
      exact h2
    · refine ⟨v, hv, (o1 v).mpr ?_⟩
      rw [uw_s]
      exact h
theorem zy_tq0 {S : SM} (hw : S 1 1 = 0) {pl : Nat → Nat} {x g : Nat} (hg : g < S 1 0) (h : zs_tq (zy_P S pl) x = false) : ¬ (pl g ≤ x ∧ x < pl g + S 2 g) := by
  have h1 := zs_none0.mp h g hg
  have h2 := of_decide_eq_false h1
  intro a
  refine h2 ⟨?_, a.1, a.2⟩
  show ¬ S 1 1 = g + 1
  omega
theorem zy_next {S : SM} (hw : S 1 1 = 0) {r lo : Nat} {pl : Nat → Nat} (h : zy_I S r lo pl) (hr : r < S 1 0) : ∃ v, zs_mu S lo (S 1 0) = v + 1 ∧ v < S 1 0 ∧ lo.testBit v = false ∧ zy_ah S v = r ∧ (∀ e, e < S 1 0 → e ≠ v → zy_ah S e ≠ r) ∧ (∀ p, p < 40 → zs_fq (zs_tq (zy_P S pl)) (S 2 v) p = true → zy_I S (r + 1) (lo ||| 2 ^ v) (uw pl v p)) := by
  obtain ⟨i1, i2, i3, i4, i5, i7, i6⟩ := h
  have i2' : fb_ct lo.testBit (S 1 0) = r := i2
  rcases zs_mu_s S lo (S 1 0) with ⟨a, b⟩ | ⟨v, a, b, c, d⟩
  · have := fb_ct_all.mpr b
    omega
  · have av : zy_ah S v = r := by
      rw [← i2]
      refine fb_ct_cong (fun k hk => ?_)
      show zy_B S k v = lo.testBit k
      cases q : lo.testBit k
      · rcases d k hk q with w | w
        · rw [w]
          exact zy_B_irr S v
        · exact zy_B_as w
      · exact i3 k v hk b q c
    refine ⟨v, a, b, c, av, fun e he hne => ?_, fun p hp hfq => ?_⟩
    · cases q : lo.testBit e
      · rcases d e he q with w | w
        · exact absurd w hne
        · have := zy_ah_lt b w
          omega
      · have := zy_ah_lt he (i3 e v he b q c)
        omega
    · obtain ⟨f1, f2⟩ := of_decide_eq_true hfq
      have hpl : 40 ≤ pl v := by
        have := i5 v b c
        omega
      obtain ⟨k1, k2, k3, k4⟩ := id i6
      have k3v := k3 v b
      have s2 : zy_P S pl 2 = S 2 := rfl
      have s1 : zy_P S pl 1 = S 1 := rfl
      have s3 : zy_P S pl 3 = pl := rfl
      rw [s2, s3] at k3v
      have ap : ∀ g, g < S 1 0 → g ≠ v → pl g < 40 → p + S 2 v ≤ pl g ∨ pl g + S 2 g ≤ p := fun g hg hn hlt => by
        have k3g := k3 g hg
        rw [s2, s3] at k3g
        refine Classical.byContradiction fun z => ?_
        rcases Nat.lt_or_ge p (pl g) with y | y
        · have := f2 (pl g - p) (by omega)
          rw [show p + (pl g - p) = pl g by omega] at this
          exact zy_tq0 hw hg this (by omega)
        · have := f2 0 (by omega)
          rw [Nat.add_zero] at this
          exact zy_tq0 hw hg this (by omega)
      refine ⟨Nat.or_lt_two_pow i1 (Nat.pow_lt_pow_right (by decide) b), ?_, fun e f he hf h1 h2 => ?_, fun f hf h1 => ?_, fun f hf h1 => ?_, fun f hf => ?_, ?_⟩
      · have e := fb_ct_upd (fun k => lo.testBit k) true b
        rw [c] at e
        rw [fb_ct_cong (q := fun k => if k = v then true else lo.testBit k) (fun k _ => zy_bit lo v k)]
        simp only [Bool.false_eq_true, if_false, if_true] at e
        omega
      · rw [zy_bit] at h1 h2
        have fv : f ≠ v := fun q => by
          rw [if_pos q] at h2
          cases h2
        rw [if_neg fv] at h2
        by_cases q : e = v
        · subst q
          rcases d f hf h2 with w | w
          · exact absurd w fv
          · exact w
        · rw [if_neg q] at h1
          exact i3 e f he hf h1 h2
      · rw [zy_bit] at h1
        by_cases q : f = v
        · rw [q, uw_s]
          exact hp
        · rw [if_neg q] at h1
          rw [uw_n q]
          exact i4 f hf h1
      · rw [zy_bit] at h1
        have fv : f ≠ v := fun q => by
          rw [if_pos q] at h1
          cases h1
        rw [if_neg fv] at h1
        rw [uw_n fv]
        exact i5 f hf h1
      · rw [uw_n (by omega)]
        exact i7 f hf
      · refine ⟨k1, k2, fun f hf => ?_, fun f g hfg hg h1 h2 => ?_⟩
        · have k3f := k3 f hf
          rw [s2, s3] at k3f
          show 1 ≤ S 2 f ∧ S 2 f ≤ 4 ∧ uw pl v p f < 60 ∧ uw pl v p f % 20 + S 2 f ≤ 20
          by_cases q : f = v
          · rw [q] at k3f ⊢
            rw [uw_s]
            omega
          · rw [uw_n q]
            exact k3f
        · show uw pl v p f + S 2 f ≤ uw pl v p g ∨ uw pl v p g + S 2 g ≤ uw pl v p f
          have h1' : uw pl v p f < 40 := h1
          have h2' : uw pl v p g < 40 := h2
          have hg' : g < S 1 0 := hg
          by_cases q : f = v
          · have gv : g ≠ v := by omega
            rw [uw_n gv] at h2' ⊢
            rw [q, uw_s]
            exact ap g hg' gv h2'
          · rw [uw_n q] at h1' ⊢
            by_cases q2 : g = v
            · rw [q2, uw_s]
              have := ap f (by omega) q h1'
              omega
            · rw [uw_n q2] at h2' ⊢
              exact k4 f g hfg hg h1' h2'
def zy_go (S : SM) : Nat → Nat → (Nat → Nat) → Option (Nat → Nat)
  | 0, _, pl => some pl
  | d + 1, lo, pl => if zs_fp (zs_tq (zy_P S pl)) (S 2 (zs_mu S lo (S 1 0) - 1)) = 0 then none else zy_go S d (lo ||| 2 ^ (zs_mu S lo (S 1 0) - 1)) (uw pl (zs_mu S lo (S 1 0) - 1) (zs_fp (zs_tq (zy_P S pl)) (S 2 (zs_mu S lo (S 1 0) - 1)) - 1))
def zy_pl0 (S : SM) : Nat → Nat := fun i => if i < S 1 0 then 40 + S 3 i % 20 else S 3 i
def zy_all (S : SM) : Option (Nat → Nat) := zy_go S (S 1 0) 0 (zy_pl0 S)
theorem zy_I0 {S : SM} (g : GT S) : zy_I S 0 0 (zy_pl0 S) := by
  have p0 : ∀ f, f < S 1 0 → zy_pl0 S f = 40 + S 3 f % 20 := fun f hf => if_pos hf
  refine ⟨Nat.two_pow_pos _, fb_ct_zero.mpr (fun k _ => Nat.zero_testBit k), fun e f _ _ h1 _ => ?_, fun f _ h1 => ?_, fun f hf _ => p0 f hf, fun f hf => if_neg (by omega), g.1, g.2.1, fun f hf => ?_, fun f k hfk hk h1 _ => ?_⟩
  · rw [Nat.zero_testBit] at h1
    cases h1
  · rw [Nat.zero_testBit] at h1
    cases h1
  · have b := g.2.2.1 f hf
    show 1 ≤ S 2 f ∧ S 2 f ≤ 4 ∧ zy_pl0 S f < 60 ∧ zy_pl0 S f % 20 + S 2 f ≤ 20
    rw [p0 f hf]
    omega
  · have hk' : k < S 1 0 := hk
    have h1' : zy_pl0 S f < 40 := h1
    rw [p0 f (by omega)] at h1'
    omega
theorem zy_fin {S : SM} (hw : S 1 1 = 0) : ∀ d r lo pl pl', r + d = S 1 0 → zy_I S r lo pl → zy_go S d lo pl = some pl' → ∃ lo', zy_I S (S 1 0) lo' pl'
  | 0, r, lo, pl, pl', hr, h, e => by
    have e1 : pl = pl' := Option.some.inj e
    subst e1
    refine ⟨lo, ?_⟩
    have : r = S 1 0 := by omega
    rw [← this]
    rw [this] at h ⊢
    exact h
  | d + 1, r, lo, pl, pl', hr, h, e => by
    obtain ⟨v, a1, a2, a3, a4, a5, a6⟩ := zy_next hw h (by omega)
    unfold zy_go at e
    rw [a1, Nat.add_sub_cancel] at e
    by_cases c : zs_fp (zs_tq (zy_P S pl)) (S 2 v) = 0
    · rw [if_pos c] at e
      cases e
    · rw [if_neg c] at e
      obtain ⟨fit1, fit2⟩ := zs_fp_fit (Nat.pos_of_ne_zero c)
      exact zy_fin hw d (r + 1) _ _ pl' (by omega) (a6 _ fit1 fit2) e
/-- what a packed tower is -/
theorem zy_done {S : SM} (hw : S 1 1 = 0) (g : GT S) {pl : Nat → Nat} (e : zy_all S = some pl) : (∀ f, f < S 1 0 → pl f < 40) ∧ (∀ f, S 1 0 ≤ f → pl f = S 3 f) ∧ GT (zy_P S pl) := by
  obtain ⟨lo, i1, i2, i3, i4, i5, i7, k1, k2, k3, k4⟩ := zy_fin hw (S 1 0) 0 0 (zy_pl0 S) pl (by omega) (zy_I0 g) e
  have al := fb_ct_all.mp i2
  have lt : ∀ f, f < S 1 0 → pl f < 40 := fun f hf => i4 f hf (al f hf)
  refine ⟨lt, i7, k1, k2, fun f hf => ?_, g.2.2.2.1, g.2.2.2.2.1, fun f k hfk hk => ?_⟩
  · have := k3 f hf
    have l := lt f hf
    exact ⟨this.1, this.2.1, l, this.2.2.2⟩
  · have hk' : k < S 1 0 := hk
    exact k4 f k hfk hk (lt f (by omega)) (lt k hk')
def zy_mv (S : SM) (lo : Nat) (pl : Nat → Nat) : Nat := fb_ct (fun f => lo.testBit f && !decide (pl f = S 3 f)) (S 1 0)
def zy_mvd (S : SM) (pl : Nat → Nat) : Nat → Nat := fb_ct (fun f => !decide (pl f = S 3 f))
theorem zy_mv_s (S : SM) {lo v : Nat} (pl : Nat → Nat) (p : Nat) (hv : v < S 1 0) (c : lo.testBit v = false) : zy_mv S (lo ||| 2 ^ v) (uw pl v p) = zy_mv S lo pl + (if p = S 3 v then 0 else 1) := by
  have e := fb_ct_upd (fun f => lo.testBit f && !decide (pl f = S 3 f)) (!decide (p = S 3 v)) hv
  unfold zy_mv
  rw [fb_ct_cong (q := fun k => if k = v then !decide (p = S 3 v) else (lo.testBit k && !decide (pl k = S 3 k))) (fun k _ => ?_)]
  · simp only [c, Bool.false_and, Bool.false_eq_true, if_false, Nat.add_zero] at e
    rw [e]
    by_cases q : p = S 3 v
    · simp [q]
    · simp [q]
  · show ((lo ||| 2 ^ v).testBit k && !decide (uw pl v p k = S 3 k)) = _
    rw [zy_bit]
    by_cases q : k = v
    · rw [if_pos q, if_pos q, q, uw_s, Bool.true_and]
    · rw [if_neg q, if_neg q, uw_n q]
theorem zy_mv_e {S : SM} {lo : Nat} {pl : Nat → Nat} (h : fb_ct (fun e => lo.testBit e) (S 1 0) = S 1 0) : zy_mv S lo pl = zy_mvd S pl (S 1 0) := by
  have al := fb_ct_all.mp h
  exact fb_ct_cong (fun k hk => by rw [al k hk, Bool.true_and])
/-! bits of the sides -/
theorem zs_q_or1 (t0 t1 : Nat) {h p x : Nat} (h1 : 20 ≤ p) (h2 : p % 20 + h ≤ 20) (hx : x < 40) : zs_q t0 (t1 ||| ((2 ^ h - 1) * 2 ^ (p - 20))) x = (zs_q t0 t1 x || decide (p ≤ x ∧ x < p + h)) := by
  unfold zs_q
  by_cases q : x < 20
  · rw [if_pos q, if_pos q, decide_eq_false (by omega), Bool.or_false]
  · rw [if_neg q, if_neg q, Nat.testBit_or, zn_rowbit]
    congr 1
    apply decide_eq_decide.mpr
    omega
theorem zs_q_or0 (t0 t1 : Nat) {h p x : Nat} (h2 : p + h ≤ 20) : zs_q (t0 ||| ((2 ^ h - 1) * 2 ^ p)) t1 x = (zs_q t0 t1 x || decide (p ≤ x ∧ x < p + h)) := by
  unfold zs_q
  by_cases q : x < 20
  · rw [if_pos q, if_pos q, Nat.testBit_or, zn_rowbit]
  · rw [if_neg q, if_neg q, decide_eq_false (by omega), Bool.or_false]
