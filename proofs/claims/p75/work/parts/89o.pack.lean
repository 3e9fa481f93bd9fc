set_option maxHeartbeats 400000
/-! packing: the order of the shelves, the state of it -/
def zy_B (S : SM) (e f : Nat) : Bool := decide (S 4 f < S 4 e ∨ (S 4 e = S 4 f ∧ e < f))
theorem zy_B_tr {S : SM} {d e f : Nat} (h : zy_B S d e = true) (h2 : zy_B S e f = true) : zy_B S d f = true := by
  have a := of_decide_eq_true h
  have b := of_decide_eq_true h2
  exact decide_eq_true (by omega)
theorem zs_mu_s (S : SM) (lo : Nat) : ∀ n, (zs_mu S lo n = 0 ∧ ∀ f, f < n → lo.testBit f = true) ∨ (∃ v, zs_mu S lo n = v + 1 ∧ v < n ∧ lo.testBit v = false ∧ ∀ f, f < n → lo.testBit f = false → f = v ∨ zy_B S v f = true)
  | 0 => Or.inl ⟨rfl, fun f hf => absurd hf (Nat.not_lt_zero f)⟩
  | n + 1 => by
    have ih := zs_mu_s S lo n
    have e : zs_mu S lo (n + 1) = if lo.testBit n = false ∧ (zs_mu S lo n = 0 ∨ ¬ S 4 n ≤ S 4 (zs_mu S lo n - 1)) then n + 1 else zs_mu S lo n := rfl
    rw [e]
    rcases ih with ⟨a, b⟩ | ⟨v, a, b, c, d⟩
    · cases q : lo.testBit n
      · rw [if_pos ⟨rfl, Or.inl a⟩]
        refine Or.inr ⟨n, rfl, by omega, q, fun f hf hq => ?_⟩
        by_cases z : f = n
        · exact Or.inl z
        · rw [b f (by omega)] at hq
          cases hq
      · rw [if_neg (fun h => by cases h.1)]
        refine Or.inl ⟨a, fun f hf => ?_⟩
        by_cases z : f = n
        · rw [z]
          exact q
        · exact b f (by omega)
    · rw [a, Nat.add_sub_cancel]
      by_cases k : lo.testBit n = false ∧ (v + 1 = 0 ∨ ¬ S 4 n ≤ S 4 v)
      · rw [if_pos k]
        have k2 : S 4 v < S 4 n := by omega
        refine Or.inr ⟨n, rfl, by omega, k.1, fun f hf hq => ?_⟩
        by_cases z : f = n
        · exact Or.inl z
        · right
          rcases d f (by omega) hq with w | w
          · rw [w]
            exact decide_eq_true (Or.inl k2)
          · exact zy_B_tr (decide_eq_true (Or.inl k2)) w
      · rw [if_neg k]
        refine Or.inr ⟨v, rfl, by omega, c, fun f hf hq => ?_⟩
        by_cases z : f = n
        · subst z
          right
          refine decide_eq_true ?_
          have : S 4 f ≤ S 4 v := Classical.byContradiction fun y => k ⟨hq, Or.inr y⟩
          omega
        · exact d f (by omega) hq
theorem zy_bit (lo v i : Nat) : (lo ||| 2 ^ v).testBit i = if i = v then true else lo.testBit i := by
  rw [Nat.testBit_or, Nat.testBit_two_pow]
  by_cases q : i = v
  · rw [if_pos q, q, decide_eq_true rfl, Bool.or_true]
  · rw [if_neg q, decide_eq_false (fun e => q e.symm), Bool.or_false]
/-! bits of the sides -/
