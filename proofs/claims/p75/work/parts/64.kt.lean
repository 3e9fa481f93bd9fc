/-! the reference: its row of ints as numbers; what its reading methods answer -/
def RK (s : Nat → Int32) (S : SM) : Prop := s 0 = nI (S 1 0) ∧ s 1 = wI (S 1 1) ∧ (∀ f, f < S 1 0 → s (9 + 14 * f) = nI (S 2 f) ∧ s (9 + 14 * f + 1) = nI (S 3 f / 20) ∧ s (9 + 14 * f + 2) = nI (S 3 f % 20) ∧ s (9 + 14 * f + 3) = nI (S 4 f)) ∧ (∀ f k, f < S 1 0 → k < 10 → s (9 + 14 * f + (4 + k)) = nI (S 5 (f * 10 + k))) ∧ (s 2 = nI (S 6 0) ∧ s 3 = nI (S 6 1) ∧ s 4 = nI (S 6 2) ∧ s 5 = nI (S 6 3) ∧ s 6 = nI (S 0 4) ∧ s 7 = nI (S 6 4) ∧ s 8 = nI (S 14 0)) ∧ (∀ k, k < 10 → s (177 + k) = nI (S 10 k) ∧ s (187 + k) = nI (S 11 k) ∧ s (197 + k) = nI (S 12 k) - nI (S 13 k)) ∧ (∀ i, i < 8 → s (207 + 2 * i) = nI (S 7 i) ∧ s (207 + 2 * i + 1) = nI (S 8 i)) ∧ (∀ r k, r < S 14 0 → k < 10 → s (223 + 10 * r + k) = nI (S 15 (r * 10 + k)))
/-- a tower while it is packed: places from 40 on are none -/
def GK (S : SM) : Prop := S 1 0 ≤ 12 ∧ S 1 1 ≤ S 1 0 ∧ (∀ f, f < S 1 0 → 1 ≤ S 2 f ∧ S 2 f ≤ 4 ∧ S 3 f < 60 ∧ S 3 f % 20 + S 2 f ≤ 20) ∧ (∀ f g, f < g → g < S 1 0 → S 3 f < 40 → S 3 g < 40 → S 3 f + S 2 f ≤ S 3 g ∨ S 3 g + S 2 g ≤ S 3 f)
theorem GT.k {S : SM} (g : GT S) : GK S := ⟨g.1, g.2.1, fun f hf => by have := g.2.2.1 f hf; omega, fun f k h1 h2 _ _ => g.2.2.2.2.2 f k h1 h2⟩
theorem zs_oc_one {S : SM} (g : GK S) {p f k : Nat} (hp : p < 40) (hf : f < S 1 0) (hk : k < S 1 0) (h1 : zs_oc S p f = true) (h2 : zs_oc S p k = true) : f = k := by
  unfold zs_oc at h1 h2
  rw [decide_eq_true_eq] at h1 h2
  rcases Nat.lt_trichotomy f k with q | q | q
  · have := g.2.2.2 f k q hk (by omega) (by omega)
    omega
  · exact q
  · have := g.2.2.2 k f q hf (by omega) (by omega)
    omega
section
variable {K : Mem} {S : SM}
def zs_fm (S : SM) : Nat → Nat := fb_sm (fun p => bif zs_tq S p then 0 else 1)
end

