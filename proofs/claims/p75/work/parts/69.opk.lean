set_option maxHeartbeats 400000
/-! the reference's lift and things -/
theorem RK.row {s : Nat → Int32} {S S' : SM} (h : RK s S) (e0 : S' 0 = S 0) (e1 : S' 1 = S 1) (e2 : S' 2 = S 2) (e3 : S' 3 = S 3) (e4 : S' 4 = S 4) (e5 : S' 5 = S 5) (e6 : S' 6 = S 6) (e7 : S' 7 = S 7) (e8 : S' 8 = S 8) (e10 : S' 10 = S 10) (e11 : S' 11 = S 11) (e12 : S' 12 = S 12) (e13 : S' 13 = S 13) (e14 : S' 14 = S 14) (e15 : S' 15 = S 15) : RK s S' := by
  unfold RK
  rw [e0, e1, e2, e3, e4, e5, e6, e7, e8, e10, e11, e12, e13, e14, e15]
  exact h
theorem RX.row {M : Mem} {S S' : SM} (h : RX M S) (e0 : S' 0 = S 0) (e1 : S' 1 = S 1) (e2 : S' 2 = S 2) (e3 : S' 3 = S 3) (e4 : S' 4 = S 4) (e5 : S' 5 = S 5) (e6 : S' 6 = S 6) (e7 : S' 7 = S 7) (e8 : S' 8 = S 8) (e10 : S' 10 = S 10) (e11 : S' 11 = S 11) (e12 : S' 12 = S 12) (e13 : S' 13 = S 13) (e14 : S' 14 = S 14) (e15 : S' 15 = S 15) : RX M S' := by
  unfold RX RT
  rw [e0, e1, e2, e3, e4, e5, e6, e7, e8, e10, e11, e12, e13, e14, e15]
  exact h
theorem RK.of {s s' : Nat → Int32} {S : SM} (h : RK s S) (hc : S 1 0 ≤ 12) (ho : S 14 0 ≤ 8) (e : ∀ i, i < 304 → s' i = s i) : RK s' S := ⟨((e _ (by omega)).trans h.1), ((e _ (by omega)).trans h.2.1), fun f hf => have hf : f < S 1 0 := hf; ⟨((e _ (by omega)).trans (h.2.2.1 f hf).1), ((e _ (by omega)).trans (h.2.2.1 f hf).2.1), ((e _ (by omega)).trans (h.2.2.1 f hf).2.2.1), ((e _ (by omega)).trans (h.2.2.1 f hf).2.2.2)⟩, fun f k hf hk => have hf : f < S 1 0 := hf; ((e _ (by omega)).trans (h.2.2.2.1 f k hf hk)), ⟨((e _ (by omega)).trans h.2.2.2.2.1.1), ((e _ (by omega)).trans h.2.2.2.2.1.2.1), ((e _ (by omega)).trans h.2.2.2.2.1.2.2.1), ((e _ (by omega)).trans h.2.2.2.2.1.2.2.2.1), ((e _ (by omega)).trans h.2.2.2.2.1.2.2.2.2.1), ((e _ (by omega)).trans h.2.2.2.2.1.2.2.2.2.2.1), ((e _ (by omega)).trans h.2.2.2.2.1.2.2.2.2.2.2)⟩, fun k hk => ⟨((e _ (by omega)).trans (h.2.2.2.2.2.1 k hk).1), ((e _ (by omega)).trans (h.2.2.2.2.2.1 k hk).2.1), ((e _ (by omega)).trans (h.2.2.2.2.2.1 k hk).2.2)⟩, fun i hi => ⟨((e _ (by omega)).trans (h.2.2.2.2.2.2.1 i hi).1), ((e _ (by omega)).trans (h.2.2.2.2.2.2.1 i hi).2)⟩, fun r k hr hk => have hr : r < S 14 0 := hr; ((e _ (by omega)).trans (h.2.2.2.2.2.2.2 r k hr hk))⟩
section
variable {s : Nat → Int32} {S : SM}
end
section
variable {K : Mem} {S : SM} {u : Nat}
end

