/-! searches and folds over numbers -/
def zs_any (p : Nat → Bool) : Nat → Nat → Bool
  | 0, _ => false
  | d + 1, k => p k || zs_any p d (k + 1)
def zs_first (p : Nat → Bool) : Nat → Nat → Nat
  | 0, k => k
  | d + 1, k => bif p k then k else zs_first p d (k + 1)
theorem zs_any_iff (p : Nat → Bool) : ∀ d k, zs_any p d k = true ↔ ∃ j, k ≤ j ∧ j < k + d ∧ p j = true
  | 0, k => ⟨fun h => (by cases h), fun ⟨j, h1, h2, _⟩ => absurd h2 (by omega)⟩
  | d + 1, k => by
    have ih := zs_any_iff p d (k + 1)
    show (p k || zs_any p d (k + 1)) = true ↔ _
    rw [Bool.or_eq_true, ih]
    constructor
    · rintro (h | ⟨j, h1, h2, h3⟩)
      · exact ⟨k, Nat.le_refl _, by omega, h⟩
      · exact ⟨j, by omega, by omega, h3⟩
    · rintro ⟨j, h1, h2, h3⟩
      by_cases e : j = k
      · subst e
        exact Or.inl h3
      · exact Or.inr ⟨j, by omega, by omega, h3⟩
theorem zs_any0 {p : Nat → Bool} {n : Nat} : zs_any p n 0 = true ↔ ∃ j, j < n ∧ p j = true := by
  rw [zs_any_iff]
  constructor
  · rintro ⟨j, -, h2, h3⟩
    exact ⟨j, by omega, h3⟩
  · rintro ⟨j, h2, h3⟩
    exact ⟨j, by omega, by omega, h3⟩
theorem zs_none0 {p : Nat → Bool} {n : Nat} : zs_any p n 0 = false ↔ ∀ j, j < n → p j = false := by
  constructor
  · intro h j hj
    cases e : p j
    · rfl
    · rw [zs_any0.mpr ⟨j, hj, e⟩] at h
      cases h
  · intro h
    cases e : zs_any p n 0
    · rfl
    · obtain ⟨j, hj, hp⟩ := zs_any0.mp e
      rw [h j hj] at hp
      cases hp
theorem zs_first_s (p : Nat → Bool) : ∀ d k, zs_any p d k = true → k ≤ zs_first p d k ∧ zs_first p d k < k + d ∧ p (zs_first p d k) = true ∧ ∀ j, k ≤ j → j < zs_first p d k → p j = false
  | 0, k, h => by cases h
  | d + 1, k, h => by
    have ih := zs_first_s p d (k + 1)
    cases e : p k
    · have e1 : zs_first p (d + 1) k = zs_first p d (k + 1) := by
        show (bif p k then k else _) = _
        rw [e]
        rfl
      have e2 : zs_any p (d + 1) k = zs_any p d (k + 1) := by
        show (p k || _) = _
        rw [e]
        rfl
      rw [e2] at h
      obtain ⟨h1, h2, h3, h4⟩ := ih h
      rw [e1]
      refine ⟨by omega, by omega, h3, fun j h5 h6 => ?_⟩
      by_cases e : j = k
      · subst e
        assumption
      · exact h4 j (by omega) h6
    · have e1 : zs_first p (d + 1) k = k := by
        show (bif p k then k else _) = _
        rw [e]
        rfl
      rw [e1]
      exact ⟨Nat.le_refl _, by omega, e, fun j h5 h6 => absurd h6 (by omega)⟩
theorem zs_any_c {p q : Nat → Bool} : ∀ {d k : Nat}, (∀ j, k ≤ j → j < k + d → p j = q j) → zs_any p d k = zs_any q d k
  | 0, _, _ => rfl
  | d + 1, k, h => by
    show (p k || _) = (q k || _)
    rw [h k (by omega) (by omega), zs_any_c (d := d) (k := k + 1) (fun j h1 h2 => h j (by omega) (by omega))]
theorem zs_first_c {p q : Nat → Bool} : ∀ {d k : Nat}, (∀ j, k ≤ j → j < k + d → p j = q j) → zs_first p d k = zs_first q d k
  | 0, _, _ => rfl
  | d + 1, k, h => by
    show (bif p k then k else _) = (bif q k then k else _)
    rw [h k (by omega) (by omega), zs_first_c (d := d) (k := k + 1) (fun j h1 h2 => h j (by omega) (by omega))]
def zs_it {α : Type} (s : Nat → α → α) (a : α) : Nat → α
  | 0 => a
  | n + 1 => s n (zs_it s a n)
/-! the tower, told by numbers: S 1 0 shelves, S 1 1 the window (0 none, f + 1), S 2 heights, S 3 places, S 4 uses, S 5 things -/
def RT (T : Mem) (S : SM) : Prop := T 0 0 = nI (S 1 0) ∧ T 0 1 = wI (S 1 1) ∧ rn 12 (T 1) (S 2) ∧ rn 12 (T 2) (S 3) ∧ rn 12 (T 3) (S 4) ∧ rn 120 (T 4) (S 5)
def GT (S : SM) : Prop := S 1 0 ≤ 12 ∧ S 1 1 ≤ S 1 0 ∧ (∀ f, f < S 1 0 → 1 ≤ S 2 f ∧ S 2 f ≤ 4 ∧ S 3 f < 40 ∧ S 3 f % 20 + S 2 f ≤ 20) ∧ (∀ f, f < S 1 0 → S 4 f < 2 ^ 28) ∧ (∀ f k, f < S 1 0 → k < 10 → S 5 (f * 10 + k) ≤ 150) ∧ (∀ f g, f < g → g < S 1 0 → S 3 f + S 2 f ≤ S 3 g ∨ S 3 g + S 2 g ≤ S 3 f)
/-- the shelf takes the place -/
def zs_oc (S : SM) (p f : Nat) : Bool := decide (¬ S 1 1 = f + 1 ∧ S 3 f ≤ p ∧ p < S 3 f + S 2 f)
/-- some shelf takes the place -/
def zs_tq (S : SM) (p : Nat) : Bool := zs_any (zs_oc S p) (S 1 0) 0
/-- the shelf that takes it, and 1; 0 if none does -/
def zs_ho (S : SM) (p : Nat) : Nat := bif zs_any (zs_oc S p) (S 1 0) 0 then zs_first (zs_oc S p) (S 1 0) 0 + 1 else 0
def zs_pk (k : Nat) : Nat := 20 * (k % 2) + k / 2
def zs_fq (q : Nat → Bool) (h p : Nat) : Bool := decide (p % 20 + h ≤ 20 ∧ ∀ i, i < h → q (p + i) = false)
/-- the first place that fits, and 1; 0 if none does -/
def zs_fp (q : Nat → Bool) (h : Nat) : Nat := bif zs_any (fun k => zs_fq q h (zs_pk k)) 40 0 then zs_pk (zs_first (fun k => zs_fq q h (zs_pk k)) 40 0) + 1 else 0
theorem zs_fq_c {q q' : Nat → Bool} (e : ∀ p, p < 40 → q p = q' p) {h p : Nat} (hp : p < 40) : zs_fq q h p = zs_fq q' h p := by
  unfold zs_fq
  by_cases a : p % 20 + h ≤ 20
  · have : ∀ i, i < h → q (p + i) = q' (p + i) := fun i hi => e _ (by omega)
    congr 1
    apply propext
    constructor
    · rintro ⟨-, b⟩
      exact ⟨a, fun i hi => by rw [← this i hi]; exact b i hi⟩
    · rintro ⟨-, b⟩
      exact ⟨a, fun i hi => by rw [this i hi]; exact b i hi⟩
  · simp [a]
theorem zs_pk_lt {k : Nat} (h : k < 40) : zs_pk k < 40 := by
  unfold zs_pk
  omega
theorem zs_fp_c {q q' : Nat → Bool} (e : ∀ p, p < 40 → q p = q' p) (h : Nat) : zs_fp q h = zs_fp q' h := by
  have e1 : ∀ j, 0 ≤ j → j < 0 + 40 → zs_fq q h (zs_pk j) = zs_fq q' h (zs_pk j) := fun j _ hj => zs_fq_c e (zs_pk_lt (by omega))
  unfold zs_fp
  rw [zs_any_c e1, zs_first_c e1]
theorem zs_fp_le (q : Nat → Bool) (h : Nat) : zs_fp q h ≤ 40 := by
  unfold zs_fp
  cases e : zs_any (fun k => zs_fq q h (zs_pk k)) 40 0
  · exact Nat.zero_le _
  · have := zs_pk_lt (k := zs_first (fun k => zs_fq q h (zs_pk k)) 40 0) (by have := (zs_first_s _ _ _ e).2.1; omega)
    show zs_pk _ + 1 ≤ 40
    omega
theorem zs_ho_le (S : SM) (p : Nat) : zs_ho S p ≤ S 1 0 := by
  unfold zs_ho
  cases e : zs_any (zs_oc S p) (S 1 0) 0
  · exact Nat.zero_le _
  · have := (zs_first_s _ _ _ e).2.1
    show zs_first _ _ _ + 1 ≤ _
    omega
/-- the slots of a side that are taken, as bits -/
def zs_tk (S : SM) (side : Nat) : Nat → Nat := zs_it (fun f t => if ¬ S 1 1 = f + 1 ∧ S 3 f / 20 = side then t ||| ((2 ^ S 2 f - 1) * 2 ^ (S 3 f % 20)) else t) 0
theorem zs_tk_lt {S : SM} (g : GT S) (side : Nat) : ∀ n, n ≤ S 1 0 → zs_tk S side n < 2 ^ 20
  | 0, _ => by
    show 0 < 2 ^ 20
    decide
  | n + 1, h => by
    have ih := zs_tk_lt g side n (by omega)
    have b := g.2.2.1 n (by omega)
    show (if _ then _ else _) < _
    split
    · exact Nat.or_lt_two_pow ih (zn_rowlt (by omega))
    · exact ih
theorem zs_tk_bit {S : SM} (g : GT S) {side i : Nat} (hi : i < 20) : ∀ n, n ≤ S 1 0 → ((zs_tk S side n).testBit i = true ↔ ∃ f, f < n ∧ zs_oc S (20 * side + i) f = true)
  | 0, _ => by
    show (0 : Nat).testBit i = true ↔ _
    rw [Nat.zero_testBit]
    exact ⟨fun h => (by cases h), fun ⟨f, h, _⟩ => absurd h (Nat.not_lt_zero f)⟩
  | n + 1, h => by
    have ih := zs_tk_bit g hi (side := side) n (by omega)
    have b := g.2.2.1 n (by omega)
    have key : ((if ¬ S 1 1 = n + 1 ∧ S 3 n / 20 = side then zs_tk S side n ||| ((2 ^ S 2 n - 1) * 2 ^ (S 3 n % 20)) else zs_tk S side n).testBit i = true) ↔ ((zs_tk S side n).testBit i = true ∨ zs_oc S (20 * side + i) n = true) := by
      unfold zs_oc
      rw [decide_eq_true_eq]
      by_cases c : ¬ S 1 1 = n + 1 ∧ S 3 n / 20 = side
      · rw [if_pos c, Nat.testBit_or, Bool.or_eq_true, zn_rowbit, decide_eq_true_eq]
        constructor
        · rintro (a | a)
          · exact Or.inl a
          · exact Or.inr ⟨c.1, by omega, by omega⟩
        · rintro (a | a)
          · exact Or.inl a
          · exact Or.inr (by omega)
      · rw [if_neg c]
        constructor
        · exact Or.inl
        · rintro (a | a)
          · exact a
          · exact absurd ⟨a.1, by omega⟩ c
    show (if _ then _ else _ : Nat).testBit i = true ↔ _
    rw [show (zs_it _ 0 n : Nat) = zs_tk S side n from rfl, key, ih]
    constructor
    · rintro (⟨f, h1, h2⟩ | a)
      · exact ⟨f, by omega, h2⟩
      · exact ⟨n, by omega, a⟩
    · rintro ⟨f, h1, h2⟩
      by_cases e : f = n
      · subst e
        exact Or.inr h2
      · exact Or.inl ⟨f, by omega, h2⟩
/-- bits of the two sides as one row of places -/
def zs_q (t0 t1 : Nat) (p : Nat) : Bool := if p < 20 then t0.testBit p else t1.testBit (p - 20)
theorem zs_q_tk {S : SM} (g : GT S) {p : Nat} (hp : p < 40) : zs_q (zs_tk S 0 (S 1 0)) (zs_tk S 1 (S 1 0)) p = zs_tq S p := by
  have e : ∀ a b : Bool, (a = true ↔ b = true) → a = b := by decide
  apply e
  unfold zs_tq zs_q
  rw [zs_any0]
  split
  · have := zs_tk_bit g (side := 0) (i := p) (by omega) (S 1 0) (Nat.le_refl _)
    rw [this, show 20 * 0 + p = p by omega]
  · have := zs_tk_bit g (side := 1) (i := p - 20) (by omega) (S 1 0) (Nat.le_refl _)
    rw [this, show 20 * 1 + (p - 20) = p by omega]

