set_option maxHeartbeats 400000
/-! an order comes, the reference's side -/
section
variable {K : Mem} {S : SM} {W : Nat → Nat} {u : Nat}
theorem RK.ord {s t : Nat → Int32} (h : RK s S) (hc : S 1 0 ≤ 12) (h8 : S 14 0 < 8) (e : ∀ i, t i = if 223 + 10 * S 14 0 ≤ i ∧ i < 223 + 10 * S 14 0 + 10 then nI (W (i - (223 + 10 * S 14 0))) else upd s 8 (nI (S 14 0 + 1)) i) : RK t (zo_ord S W) := by
  have lo : ∀ i, i ≠ 8 → ¬ (223 + 10 * S 14 0 ≤ i ∧ i < 223 + 10 * S 14 0 + 10) → t i = s i := fun i h0 h1 => by
    rw [e, if_neg h1, up_n h0]
  exact ⟨((lo _ (by omega) (by omega)).trans h.1), ((lo _ (by omega) (by omega)).trans h.2.1), fun f hf => have hf : f < S 1 0 := hf; ⟨((lo _ (by omega) (by omega)).trans (h.2.2.1 f hf).1), ((lo _ (by omega) (by omega)).trans (h.2.2.1 f hf).2.1), ((lo _ (by omega) (by omega)).trans (h.2.2.1 f hf).2.2.1), ((lo _ (by omega) (by omega)).trans (h.2.2.1 f hf).2.2.2)⟩, fun f k hf hk => have hf : f < S 1 0 := hf; ((lo _ (by omega) (by omega)).trans (h.2.2.2.1 f k hf hk)), ⟨((lo _ (by omega) (by omega)).trans h.2.2.2.2.1.1), ((lo _ (by omega) (by omega)).trans h.2.2.2.2.1.2.1), ((lo _ (by omega) (by omega)).trans h.2.2.2.2.1.2.2.1), ((lo _ (by omega) (by omega)).trans h.2.2.2.2.1.2.2.2.1), ((lo _ (by omega) (by omega)).trans h.2.2.2.2.1.2.2.2.2.1), ((lo _ (by omega) (by omega)).trans h.2.2.2.2.1.2.2.2.2.2.1), ((e 8).trans (by rw [if_neg (by omega)]; exact up_s _ _ _))⟩, fun k hk => ⟨((lo _ (by omega) (by omega)).trans (h.2.2.2.2.2.1 k hk).1), ((lo _ (by omega) (by omega)).trans (h.2.2.2.2.2.1 k hk).2.1), ((lo _ (by omega) (by omega)).trans (h.2.2.2.2.2.1 k hk).2.2)⟩, fun i hi => ⟨((lo _ (by omega) (by omega)).trans (h.2.2.2.2.2.2.1 i hi).1), ((lo _ (by omega) (by omega)).trans (h.2.2.2.2.2.2.1 i hi).2)⟩, fun r k hr hk => have hr : r < S 14 0 + 1 := hr; (by
  show _ = nI (if S 14 0 * 10 ≤ r * 10 + k ∧ r * 10 + k < S 14 0 * 10 + 10 then W (r * 10 + k - S 14 0 * 10) else S 15 (r * 10 + k))
  by_cases q : r = S 14 0
  · rw [if_pos (by omega), e, if_pos (by omega)]
    congr 2
    omega
  · rw [if_neg (by omega)]
    exact (lo _ (by omega) (by omega)).trans (h.2.2.2.2.2.2.2 r k (by omega) hk))⟩
end

