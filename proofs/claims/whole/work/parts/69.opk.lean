set_option maxHeartbeats 400000
/-! the reference's lift and things -/
theorem uw_id {g : Nat → Nat} {k v : Nat} (h : g k = v) : uw g k v = g := by
  funext i
  unfold uw
  by_cases e : i = k
  · rw [if_pos e, e, h]
  · rw [if_neg e]
theorem RK.row {s : Nat → Int32} {S S' : SM} (h : RK s S) (e0 : S' 0 = S 0) (e1 : S' 1 = S 1) (e2 : S' 2 = S 2) (e3 : S' 3 = S 3) (e4 : S' 4 = S 4) (e5 : S' 5 = S 5) (e6 : S' 6 = S 6) (e7 : S' 7 = S 7) (e8 : S' 8 = S 8) (e10 : S' 10 = S 10) (e11 : S' 11 = S 11) (e12 : S' 12 = S 12) (e13 : S' 13 = S 13) (e14 : S' 14 = S 14) (e15 : S' 15 = S 15) : RK s S' := by
  unfold RK
  rw [e0, e1, e2, e3, e4, e5, e6, e7, e8, e10, e11, e12, e13, e14, e15]
  exact h
theorem RX.row {M : Mem} {S S' : SM} (h : RX M S) (e0 : S' 0 = S 0) (e1 : S' 1 = S 1) (e2 : S' 2 = S 2) (e3 : S' 3 = S 3) (e4 : S' 4 = S 4) (e5 : S' 5 = S 5) (e6 : S' 6 = S 6) (e7 : S' 7 = S 7) (e8 : S' 8 = S 8) (e10 : S' 10 = S 10) (e11 : S' 11 = S 11) (e12 : S' 12 = S 12) (e13 : S' 13 = S 13) (e14 : S' 14 = S 14) (e15 : S' 15 = S 15) : RX M S' := by
  unfold RX RT
  rw [e0, e1, e2, e3, e4, e5, e6, e7, e8, e10, e11, e12, e13, e14, e15]
  exact h
theorem RK.of {s s' : Nat → Int32} {S : SM} (h : RK s S) (hc : S 1 0 ≤ 12) (ho : S 14 0 ≤ 8) (e : ∀ i, i < 304 → s' i = s i) : RK s' S := ⟨((e _ (by omega)).trans h.1), ((e _ (by omega)).trans h.2.1), fun f hf => have hf : f < S 1 0 := hf; ⟨((e _ (by omega)).trans (h.2.2.1 f hf).1), ((e _ (by omega)).trans (h.2.2.1 f hf).2.1), ((e _ (by omega)).trans (h.2.2.1 f hf).2.2.1), ((e _ (by omega)).trans (h.2.2.1 f hf).2.2.2)⟩, fun f k hf hk => have hf : f < S 1 0 := hf; ((e _ (by omega)).trans (h.2.2.2.1 f k hf hk)), ⟨((e _ (by omega)).trans h.2.2.2.2.1.1), ((e _ (by omega)).trans h.2.2.2.2.1.2.1), ((e _ (by omega)).trans h.2.2.2.2.1.2.2.1), ((e _ (by omega)).trans h.2.2.2.2.1.2.2.2.1), ((e _ (by omega)).trans h.2.2.2.2.1.2.2.2.2.1), ((e _ (by omega)).trans h.2.2.2.2.1.2.2.2.2.2.1), ((e _ (by omega)).trans h.2.2.2.2.1.2.2.2.2.2.2)⟩, fun k hk => ⟨((e _ (by omega)).trans (h.2.2.2.2.2.1 k hk).1), ((e _ (by omega)).trans (h.2.2.2.2.2.1 k hk).2.1), ((e _ (by omega)).trans (h.2.2.2.2.2.1 k hk).2.2)⟩, fun i hi => ⟨((e _ (by omega)).trans (h.2.2.2.2.2.2.1 i hi).1), ((e _ (by omega)).trans (h.2.2.2.2.2.2.1 i hi).2)⟩, fun r k hr hk => have hr : r < S 14 0 := hr; ((e _ (by omega)).trans (h.2.2.2.2.2.2.2 r k hr hk))⟩
section
variable {s : Nat → Int32} {S : SM}
theorem RK.u1 (h : RK s S) (w : Nat) : RK (upd s 1 (wI w)) (sw S 1 (uw (S 1) 1 w)) := ⟨((up_n (by omega)).trans h.1), up_s _ _ _, fun f hf => have hf : f < S 1 0 := hf; ⟨((up_n (by omega)).trans (h.2.2.1 f hf).1), ((up_n (by omega)).trans (h.2.2.1 f hf).2.1), ((up_n (by omega)).trans (h.2.2.1 f hf).2.2.1), ((up_n (by omega)).trans (h.2.2.1 f hf).2.2.2)⟩, fun f k hf hk => have hf : f < S 1 0 := hf; ((up_n (by omega)).trans (h.2.2.2.1 f k hf hk)), ⟨((up_n (by omega)).trans h.2.2.2.2.1.1), ((up_n (by omega)).trans h.2.2.2.2.1.2.1), ((up_n (by omega)).trans h.2.2.2.2.1.2.2.1), ((up_n (by omega)).trans h.2.2.2.2.1.2.2.2.1), ((up_n (by omega)).trans h.2.2.2.2.1.2.2.2.2.1), ((up_n (by omega)).trans h.2.2.2.2.1.2.2.2.2.2.1), ((up_n (by omega)).trans h.2.2.2.2.1.2.2.2.2.2.2)⟩, fun k hk => ⟨((up_n (by omega)).trans (h.2.2.2.2.2.1 k hk).1), ((up_n (by omega)).trans (h.2.2.2.2.2.1 k hk).2.1), ((up_n (by omega)).trans (h.2.2.2.2.2.1 k hk).2.2)⟩, fun i hi => ⟨((up_n (by omega)).trans (h.2.2.2.2.2.2.1 i hi).1), ((up_n (by omega)).trans (h.2.2.2.2.2.2.1 i hi).2)⟩, fun r k hr hk => have hr : r < S 14 0 := hr; ((up_n (by omega)).trans (h.2.2.2.2.2.2.2 r k hr hk))⟩
theorem RK.u2 (h : RK s S) (v : Nat) : RK (upd s 2 (nI v)) (sw S 6 (uw (S 6) 0 v)) := ⟨((up_n (by omega)).trans h.1), ((up_n (by omega)).trans h.2.1), fun f hf => have hf : f < S 1 0 := hf; ⟨((up_n (by omega)).trans (h.2.2.1 f hf).1), ((up_n (by omega)).trans (h.2.2.1 f hf).2.1), ((up_n (by omega)).trans (h.2.2.1 f hf).2.2.1), ((up_n (by omega)).trans (h.2.2.1 f hf).2.2.2)⟩, fun f k hf hk => have hf : f < S 1 0 := hf; ((up_n (by omega)).trans (h.2.2.2.1 f k hf hk)), ⟨up_s _ _ _, ((up_n (by omega)).trans h.2.2.2.2.1.2.1), ((up_n (by omega)).trans h.2.2.2.2.1.2.2.1), ((up_n (by omega)).trans h.2.2.2.2.1.2.2.2.1), ((up_n (by omega)).trans h.2.2.2.2.1.2.2.2.2.1), ((up_n (by omega)).trans h.2.2.2.2.1.2.2.2.2.2.1), ((up_n (by omega)).trans h.2.2.2.2.1.2.2.2.2.2.2)⟩, fun k hk => ⟨((up_n (by omega)).trans (h.2.2.2.2.2.1 k hk).1), ((up_n (by omega)).trans (h.2.2.2.2.2.1 k hk).2.1), ((up_n (by omega)).trans (h.2.2.2.2.2.1 k hk).2.2)⟩, fun i hi => ⟨((up_n (by omega)).trans (h.2.2.2.2.2.2.1 i hi).1), ((up_n (by omega)).trans (h.2.2.2.2.2.2.1 i hi).2)⟩, fun r k hr hk => have hr : r < S 14 0 := hr; ((up_n (by omega)).trans (h.2.2.2.2.2.2.2 r k hr hk))⟩
theorem RK.u3 (h : RK s S) (v : Nat) : RK (upd s 3 (nI v)) (sw S 6 (uw (S 6) 1 v)) := ⟨((up_n (by omega)).trans h.1), ((up_n (by omega)).trans h.2.1), fun f hf => have hf : f < S 1 0 := hf; ⟨((up_n (by omega)).trans (h.2.2.1 f hf).1), ((up_n (by omega)).trans (h.2.2.1 f hf).2.1), ((up_n (by omega)).trans (h.2.2.1 f hf).2.2.1), ((up_n (by omega)).trans (h.2.2.1 f hf).2.2.2)⟩, fun f k hf hk => have hf : f < S 1 0 := hf; ((up_n (by omega)).trans (h.2.2.2.1 f k hf hk)), ⟨((up_n (by omega)).trans h.2.2.2.2.1.1), up_s _ _ _, ((up_n (by omega)).trans h.2.2.2.2.1.2.2.1), ((up_n (by omega)).trans h.2.2.2.2.1.2.2.2.1), ((up_n (by omega)).trans h.2.2.2.2.1.2.2.2.2.1), ((up_n (by omega)).trans h.2.2.2.2.1.2.2.2.2.2.1), ((up_n (by omega)).trans h.2.2.2.2.1.2.2.2.2.2.2)⟩, fun k hk => ⟨((up_n (by omega)).trans (h.2.2.2.2.2.1 k hk).1), ((up_n (by omega)).trans (h.2.2.2.2.2.1 k hk).2.1), ((up_n (by omega)).trans (h.2.2.2.2.2.1 k hk).2.2)⟩, fun i hi => ⟨((up_n (by omega)).trans (h.2.2.2.2.2.2.1 i hi).1), ((up_n (by omega)).trans (h.2.2.2.2.2.2.1 i hi).2)⟩, fun r k hr hk => have hr : r < S 14 0 := hr; ((up_n (by omega)).trans (h.2.2.2.2.2.2.2 r k hr hk))⟩
theorem RK.u4 (h : RK s S) (v : Nat) : RK (upd s 4 (nI v)) (sw S 6 (uw (S 6) 2 v)) := ⟨((up_n (by omega)).trans h.1), ((up_n (by omega)).trans h.2.1), fun f hf => have hf : f < S 1 0 := hf; ⟨((up_n (by omega)).trans (h.2.2.1 f hf).1), ((up_n (by omega)).trans (h.2.2.1 f hf).2.1), ((up_n (by omega)).trans (h.2.2.1 f hf).2.2.1), ((up_n (by omega)).trans (h.2.2.1 f hf).2.2.2)⟩, fun f k hf hk => have hf : f < S 1 0 := hf; ((up_n (by omega)).trans (h.2.2.2.1 f k hf hk)), ⟨((up_n (by omega)).trans h.2.2.2.2.1.1), ((up_n (by omega)).trans h.2.2.2.2.1.2.1), up_s _ _ _, ((up_n (by omega)).trans h.2.2.2.2.1.2.2.2.1), ((up_n (by omega)).trans h.2.2.2.2.1.2.2.2.2.1), ((up_n (by omega)).trans h.2.2.2.2.1.2.2.2.2.2.1), ((up_n (by omega)).trans h.2.2.2.2.1.2.2.2.2.2.2)⟩, fun k hk => ⟨((up_n (by omega)).trans (h.2.2.2.2.2.1 k hk).1), ((up_n (by omega)).trans (h.2.2.2.2.2.1 k hk).2.1), ((up_n (by omega)).trans (h.2.2.2.2.2.1 k hk).2.2)⟩, fun i hi => ⟨((up_n (by omega)).trans (h.2.2.2.2.2.2.1 i hi).1), ((up_n (by omega)).trans (h.2.2.2.2.2.2.1 i hi).2)⟩, fun r k hr hk => have hr : r < S 14 0 := hr; ((up_n (by omega)).trans (h.2.2.2.2.2.2.2 r k hr hk))⟩
theorem RK.u5 (h : RK s S) (v : Nat) : RK (upd s 5 (nI v)) (sw S 6 (uw (S 6) 3 v)) := ⟨((up_n (by omega)).trans h.1), ((up_n (by omega)).trans h.2.1), fun f hf => have hf : f < S 1 0 := hf; ⟨((up_n (by omega)).trans (h.2.2.1 f hf).1), ((up_n (by omega)).trans (h.2.2.1 f hf).2.1), ((up_n (by omega)).trans (h.2.2.1 f hf).2.2.1), ((up_n (by omega)).trans (h.2.2.1 f hf).2.2.2)⟩, fun f k hf hk => have hf : f < S 1 0 := hf; ((up_n (by omega)).trans (h.2.2.2.1 f k hf hk)), ⟨((up_n (by omega)).trans h.2.2.2.2.1.1), ((up_n (by omega)).trans h.2.2.2.2.1.2.1), ((up_n (by omega)).trans h.2.2.2.2.1.2.2.1), up_s _ _ _, ((up_n (by omega)).trans h.2.2.2.2.1.2.2.2.2.1), ((up_n (by omega)).trans h.2.2.2.2.1.2.2.2.2.2.1), ((up_n (by omega)).trans h.2.2.2.2.1.2.2.2.2.2.2)⟩, fun k hk => ⟨((up_n (by omega)).trans (h.2.2.2.2.2.1 k hk).1), ((up_n (by omega)).trans (h.2.2.2.2.2.1 k hk).2.1), ((up_n (by omega)).trans (h.2.2.2.2.2.1 k hk).2.2)⟩, fun i hi => ⟨((up_n (by omega)).trans (h.2.2.2.2.2.2.1 i hi).1), ((up_n (by omega)).trans (h.2.2.2.2.2.2.1 i hi).2)⟩, fun r k hr hk => have hr : r < S 14 0 := hr; ((up_n (by omega)).trans (h.2.2.2.2.2.2.2 r k hr hk))⟩
theorem RK.u6 (h : RK s S) (v : Nat) : RK (upd s 6 (nI v)) (sw S 0 (uw (S 0) 4 v)) := ⟨((up_n (by omega)).trans h.1), ((up_n (by omega)).trans h.2.1), fun f hf => have hf : f < S 1 0 := hf; ⟨((up_n (by omega)).trans (h.2.2.1 f hf).1), ((up_n (by omega)).trans (h.2.2.1 f hf).2.1), ((up_n (by omega)).trans (h.2.2.1 f hf).2.2.1), ((up_n (by omega)).trans (h.2.2.1 f hf).2.2.2)⟩, fun f k hf hk => have hf : f < S 1 0 := hf; ((up_n (by omega)).trans (h.2.2.2.1 f k hf hk)), ⟨((up_n (by omega)).trans h.2.2.2.2.1.1), ((up_n (by omega)).trans h.2.2.2.2.1.2.1), ((up_n (by omega)).trans h.2.2.2.2.1.2.2.1), ((up_n (by omega)).trans h.2.2.2.2.1.2.2.2.1), up_s _ _ _, ((up_n (by omega)).trans h.2.2.2.2.1.2.2.2.2.2.1), ((up_n (by omega)).trans h.2.2.2.2.1.2.2.2.2.2.2)⟩, fun k hk => ⟨((up_n (by omega)).trans (h.2.2.2.2.2.1 k hk).1), ((up_n (by omega)).trans (h.2.2.2.2.2.1 k hk).2.1), ((up_n (by omega)).trans (h.2.2.2.2.2.1 k hk).2.2)⟩, fun i hi => ⟨((up_n (by omega)).trans (h.2.2.2.2.2.2.1 i hi).1), ((up_n (by omega)).trans (h.2.2.2.2.2.2.1 i hi).2)⟩, fun r k hr hk => have hr : r < S 14 0 := hr; ((up_n (by omega)).trans (h.2.2.2.2.2.2.2 r k hr hk))⟩
theorem RK.u7 (h : RK s S) (v : Nat) : RK (upd s 7 (nI v)) (sw S 6 (uw (S 6) 4 v)) := ⟨((up_n (by omega)).trans h.1), ((up_n (by omega)).trans h.2.1), fun f hf => have hf : f < S 1 0 := hf; ⟨((up_n (by omega)).trans (h.2.2.1 f hf).1), ((up_n (by omega)).trans (h.2.2.1 f hf).2.1), ((up_n (by omega)).trans (h.2.2.1 f hf).2.2.1), ((up_n (by omega)).trans (h.2.2.1 f hf).2.2.2)⟩, fun f k hf hk => have hf : f < S 1 0 := hf; ((up_n (by omega)).trans (h.2.2.2.1 f k hf hk)), ⟨((up_n (by omega)).trans h.2.2.2.2.1.1), ((up_n (by omega)).trans h.2.2.2.2.1.2.1), ((up_n (by omega)).trans h.2.2.2.2.1.2.2.1), ((up_n (by omega)).trans h.2.2.2.2.1.2.2.2.1), ((up_n (by omega)).trans h.2.2.2.2.1.2.2.2.2.1), up_s _ _ _, ((up_n (by omega)).trans h.2.2.2.2.1.2.2.2.2.2.2)⟩, fun k hk => ⟨((up_n (by omega)).trans (h.2.2.2.2.2.1 k hk).1), ((up_n (by omega)).trans (h.2.2.2.2.2.1 k hk).2.1), ((up_n (by omega)).trans (h.2.2.2.2.2.1 k hk).2.2)⟩, fun i hi => ⟨((up_n (by omega)).trans (h.2.2.2.2.2.2.1 i hi).1), ((up_n (by omega)).trans (h.2.2.2.2.2.2.1 i hi).2)⟩, fun r k hr hk => have hr : r < S 14 0 := hr; ((up_n (by omega)).trans (h.2.2.2.2.2.2.2 r k hr hk))⟩
theorem RK.uwt (h : RK s S) (hc : S 1 0 ≤ 12) {x : Nat} (hx : x < 10) (v : Nat) : RK (upd s (177 + x) (nI v)) (sw S 10 (uw (S 10) x v)) := ⟨((up_n (by omega)).trans h.1), ((up_n (by omega)).trans h.2.1), fun f hf => have hf : f < S 1 0 := hf; ⟨((up_n (by omega)).trans (h.2.2.1 f hf).1), ((up_n (by omega)).trans (h.2.2.1 f hf).2.1), ((up_n (by omega)).trans (h.2.2.1 f hf).2.2.1), ((up_n (by omega)).trans (h.2.2.1 f hf).2.2.2)⟩, fun f k hf hk => have hf : f < S 1 0 := hf; ((up_n (by omega)).trans (h.2.2.2.1 f k hf hk)), ⟨((up_n (by omega)).trans h.2.2.2.2.1.1), ((up_n (by omega)).trans h.2.2.2.2.1.2.1), ((up_n (by omega)).trans h.2.2.2.2.1.2.2.1), ((up_n (by omega)).trans h.2.2.2.2.1.2.2.2.1), ((up_n (by omega)).trans h.2.2.2.2.1.2.2.2.2.1), ((up_n (by omega)).trans h.2.2.2.2.1.2.2.2.2.2.1), ((up_n (by omega)).trans h.2.2.2.2.1.2.2.2.2.2.2)⟩, fun k hk => ⟨(by
  by_cases e : k = x
  · subst e
    exact (up_s _ _ _).trans (congrArg nI (uw_s _ _ _).symm)
  · exact ((up_n (by omega)).trans (h.2.2.2.2.2.1 k hk).1).trans (congrArg nI (uw_n e).symm)), ((up_n (by omega)).trans (h.2.2.2.2.2.1 k hk).2.1), ((up_n (by omega)).trans (h.2.2.2.2.2.1 k hk).2.2)⟩, fun i hi => ⟨((up_n (by omega)).trans (h.2.2.2.2.2.2.1 i hi).1), ((up_n (by omega)).trans (h.2.2.2.2.2.2.1 i hi).2)⟩, fun r k hr hk => have hr : r < S 14 0 := hr; ((up_n (by omega)).trans (h.2.2.2.2.2.2.2 r k hr hk))⟩
theorem RK.ul (h : RK s S) (hc : S 1 0 ≤ 12) {x : Nat} (hx : x < 10) (v : Nat) : RK (upd s (187 + x) (nI v)) (sw S 11 (uw (S 11) x v)) := ⟨((up_n (by omega)).trans h.1), ((up_n (by omega)).trans h.2.1), fun f hf => have hf : f < S 1 0 := hf; ⟨((up_n (by omega)).trans (h.2.2.1 f hf).1), ((up_n (by omega)).trans (h.2.2.1 f hf).2.1), ((up_n (by omega)).trans (h.2.2.1 f hf).2.2.1), ((up_n (by omega)).trans (h.2.2.1 f hf).2.2.2)⟩, fun f k hf hk => have hf : f < S 1 0 := hf; ((up_n (by omega)).trans (h.2.2.2.1 f k hf hk)), ⟨((up_n (by omega)).trans h.2.2.2.2.1.1), ((up_n (by omega)).trans h.2.2.2.2.1.2.1), ((up_n (by omega)).trans h.2.2.2.2.1.2.2.1), ((up_n (by omega)).trans h.2.2.2.2.1.2.2.2.1), ((up_n (by omega)).trans h.2.2.2.2.1.2.2.2.2.1), ((up_n (by omega)).trans h.2.2.2.2.1.2.2.2.2.2.1), ((up_n (by omega)).trans h.2.2.2.2.1.2.2.2.2.2.2)⟩, fun k hk => ⟨((up_n (by omega)).trans (h.2.2.2.2.2.1 k hk).1), (by
  by_cases e : k = x
  · subst e
    exact (up_s _ _ _).trans (congrArg nI (uw_s _ _ _).symm)
  · exact ((up_n (by omega)).trans (h.2.2.2.2.2.1 k hk).2.1).trans (congrArg nI (uw_n e).symm)), ((up_n (by omega)).trans (h.2.2.2.2.2.1 k hk).2.2)⟩, fun i hi => ⟨((up_n (by omega)).trans (h.2.2.2.2.2.2.1 i hi).1), ((up_n (by omega)).trans (h.2.2.2.2.2.2.1 i hi).2)⟩, fun r k hr hk => have hr : r < S 14 0 := hr; ((up_n (by omega)).trans (h.2.2.2.2.2.2.2 r k hr hk))⟩
theorem RK.un12 (h : RK s S) (hc : S 1 0 ≤ 12) {x : Nat} (hx : x < 10) (v : Nat) : RK (upd s (197 + x) (nI v - nI (S 13 x))) (sw S 12 (uw (S 12) x v)) := ⟨((up_n (by omega)).trans h.1), ((up_n (by omega)).trans h.2.1), fun f hf => have hf : f < S 1 0 := hf; ⟨((up_n (by omega)).trans (h.2.2.1 f hf).1), ((up_n (by omega)).trans (h.2.2.1 f hf).2.1), ((up_n (by omega)).trans (h.2.2.1 f hf).2.2.1), ((up_n (by omega)).trans (h.2.2.1 f hf).2.2.2)⟩, fun f k hf hk => have hf : f < S 1 0 := hf; ((up_n (by omega)).trans (h.2.2.2.1 f k hf hk)), ⟨((up_n (by omega)).trans h.2.2.2.2.1.1), ((up_n (by omega)).trans h.2.2.2.2.1.2.1), ((up_n (by omega)).trans h.2.2.2.2.1.2.2.1), ((up_n (by omega)).trans h.2.2.2.2.1.2.2.2.1), ((up_n (by omega)).trans h.2.2.2.2.1.2.2.2.2.1), ((up_n (by omega)).trans h.2.2.2.2.1.2.2.2.2.2.1), ((up_n (by omega)).trans h.2.2.2.2.1.2.2.2.2.2.2)⟩, fun k hk => ⟨((up_n (by omega)).trans (h.2.2.2.2.2.1 k hk).1), ((up_n (by omega)).trans (h.2.2.2.2.2.1 k hk).2.1), (by
  by_cases e : k = x
  · subst e
    refine (up_s _ _ _).trans ?_
    show _ = nI (uw (S 12) k v k) - nI (S 13 k)
    rw [uw_s]
  · refine ((up_n (by omega)).trans (h.2.2.2.2.2.1 k hk).2.2).trans ?_
    show _ = nI (uw (S 12) x v k) - nI (S 13 k)
    rw [uw_n e])⟩, fun i hi => ⟨((up_n (by omega)).trans (h.2.2.2.2.2.2.1 i hi).1), ((up_n (by omega)).trans (h.2.2.2.2.2.2.1 i hi).2)⟩, fun r k hr hk => have hr : r < S 14 0 := hr; ((up_n (by omega)).trans (h.2.2.2.2.2.2.2 r k hr hk))⟩
theorem RK.un13 (h : RK s S) (hc : S 1 0 ≤ 12) {x : Nat} (hx : x < 10) (v : Nat) : RK (upd s (197 + x) (nI (S 12 x) - nI v)) (sw S 13 (uw (S 13) x v)) := ⟨((up_n (by omega)).trans h.1), ((up_n (by omega)).trans h.2.1), fun f hf => have hf : f < S 1 0 := hf; ⟨((up_n (by omega)).trans (h.2.2.1 f hf).1), ((up_n (by omega)).trans (h.2.2.1 f hf).2.1), ((up_n (by omega)).trans (h.2.2.1 f hf).2.2.1), ((up_n (by omega)).trans (h.2.2.1 f hf).2.2.2)⟩, fun f k hf hk => have hf : f < S 1 0 := hf; ((up_n (by omega)).trans (h.2.2.2.1 f k hf hk)), ⟨((up_n (by omega)).trans h.2.2.2.2.1.1), ((up_n (by omega)).trans h.2.2.2.2.1.2.1), ((up_n (by omega)).trans h.2.2.2.2.1.2.2.1), ((up_n (by omega)).trans h.2.2.2.2.1.2.2.2.1), ((up_n (by omega)).trans h.2.2.2.2.1.2.2.2.2.1), ((up_n (by omega)).trans h.2.2.2.2.1.2.2.2.2.2.1), ((up_n (by omega)).trans h.2.2.2.2.1.2.2.2.2.2.2)⟩, fun k hk => ⟨((up_n (by omega)).trans (h.2.2.2.2.2.1 k hk).1), ((up_n (by omega)).trans (h.2.2.2.2.2.1 k hk).2.1), (by
  by_cases e : k = x
  · subst e
    refine (up_s _ _ _).trans ?_
    show _ = nI (S 12 k) - nI (uw (S 13) k v k)
    rw [uw_s]
  · refine ((up_n (by omega)).trans (h.2.2.2.2.2.1 k hk).2.2).trans ?_
    show _ = nI (S 12 k) - nI (uw (S 13) x v k)
    rw [uw_n e])⟩, fun i hi => ⟨((up_n (by omega)).trans (h.2.2.2.2.2.2.1 i hi).1), ((up_n (by omega)).trans (h.2.2.2.2.2.2.1 i hi).2)⟩, fun r k hr hk => have hr : r < S 14 0 := hr; ((up_n (by omega)).trans (h.2.2.2.2.2.2.2 r k hr hk))⟩
theorem RK.u9 (h : RK s S) (hc : S 1 0 ≤ 12) {x : Nat} (hx : x < S 1 0) (v : Nat) : RK (upd s (9 + 14 * x + 3) (nI v)) (sw S 4 (uw (S 4) x v)) := ⟨((up_n (by omega)).trans h.1), ((up_n (by omega)).trans h.2.1), fun f hf => have hf : f < S 1 0 := hf; ⟨((up_n (by omega)).trans (h.2.2.1 f hf).1), ((up_n (by omega)).trans (h.2.2.1 f hf).2.1), ((up_n (by omega)).trans (h.2.2.1 f hf).2.2.1), (by
  by_cases e : f = x
  · subst e
    exact (up_s _ _ _).trans (congrArg nI (uw_s _ _ _).symm)
  · exact ((up_n (by omega)).trans (h.2.2.1 f hf).2.2.2).trans (congrArg nI (uw_n e).symm))⟩, fun f k hf hk => have hf : f < S 1 0 := hf; ((up_n (by omega)).trans (h.2.2.2.1 f k hf hk)), ⟨((up_n (by omega)).trans h.2.2.2.2.1.1), ((up_n (by omega)).trans h.2.2.2.2.1.2.1), ((up_n (by omega)).trans h.2.2.2.2.1.2.2.1), ((up_n (by omega)).trans h.2.2.2.2.1.2.2.2.1), ((up_n (by omega)).trans h.2.2.2.2.1.2.2.2.2.1), ((up_n (by omega)).trans h.2.2.2.2.1.2.2.2.2.2.1), ((up_n (by omega)).trans h.2.2.2.2.1.2.2.2.2.2.2)⟩, fun k hk => ⟨((up_n (by omega)).trans (h.2.2.2.2.2.1 k hk).1), ((up_n (by omega)).trans (h.2.2.2.2.2.1 k hk).2.1), ((up_n (by omega)).trans (h.2.2.2.2.2.1 k hk).2.2)⟩, fun i hi => ⟨((up_n (by omega)).trans (h.2.2.2.2.2.2.1 i hi).1), ((up_n (by omega)).trans (h.2.2.2.2.2.2.1 i hi).2)⟩, fun r k hr hk => have hr : r < S 14 0 := hr; ((up_n (by omega)).trans (h.2.2.2.2.2.2.2 r k hr hk))⟩
theorem RK.ut (h : RK s S) (hc : S 1 0 ≤ 12) {x y : Nat} (hx : x < S 1 0) (hy : y < 10) (v : Nat) : RK (upd s (9 + 14 * x + (4 + y)) (nI v)) (sw S 5 (uw (S 5) (x * 10 + y) v)) := ⟨((up_n (by omega)).trans h.1), ((up_n (by omega)).trans h.2.1), fun f hf => have hf : f < S 1 0 := hf; ⟨((up_n (by omega)).trans (h.2.2.1 f hf).1), ((up_n (by omega)).trans (h.2.2.1 f hf).2.1), ((up_n (by omega)).trans (h.2.2.1 f hf).2.2.1), ((up_n (by omega)).trans (h.2.2.1 f hf).2.2.2)⟩, fun f k hf hk => have hf : f < S 1 0 := hf; (by
  by_cases e : f = x ∧ k = y
  · obtain ⟨rfl, rfl⟩ := e
    exact (up_s _ _ _).trans (congrArg nI (uw_s _ _ _).symm)
  · exact ((up_n (by omega)).trans (h.2.2.2.1 f k hf hk)).trans (congrArg nI (uw_n (by omega)).symm)), ⟨((up_n (by omega)).trans h.2.2.2.2.1.1), ((up_n (by omega)).trans h.2.2.2.2.1.2.1), ((up_n (by omega)).trans h.2.2.2.2.1.2.2.1), ((up_n (by omega)).trans h.2.2.2.2.1.2.2.2.1), ((up_n (by omega)).trans h.2.2.2.2.1.2.2.2.2.1), ((up_n (by omega)).trans h.2.2.2.2.1.2.2.2.2.2.1), ((up_n (by omega)).trans h.2.2.2.2.1.2.2.2.2.2.2)⟩, fun k hk => ⟨((up_n (by omega)).trans (h.2.2.2.2.2.1 k hk).1), ((up_n (by omega)).trans (h.2.2.2.2.2.1 k hk).2.1), ((up_n (by omega)).trans (h.2.2.2.2.2.1 k hk).2.2)⟩, fun i hi => ⟨((up_n (by omega)).trans (h.2.2.2.2.2.2.1 i hi).1), ((up_n (by omega)).trans (h.2.2.2.2.2.2.1 i hi).2)⟩, fun r k hr hk => have hr : r < S 14 0 := hr; ((up_n (by omega)).trans (h.2.2.2.2.2.2.2 r k hr hk))⟩
theorem RK.up (h : RK s S) (hc : S 1 0 ≤ 12) {x : Nat} (hx : x < S 1 0) (p : Nat) : RK (upd (upd s (9 + 14 * x + 1) (nI (p / 20))) (9 + 14 * x + 2) (nI (p % 20))) (sw S 3 (uw (S 3) x p)) := ⟨((up_n (by omega)).trans ((up_n (by omega)).trans h.1)), ((up_n (by omega)).trans ((up_n (by omega)).trans h.2.1)), fun f hf => have hf : f < S 1 0 := hf; ⟨((up_n (by omega)).trans ((up_n (by omega)).trans (h.2.2.1 f hf).1)), (by
  by_cases e : f = x
  · subst e
    refine ((up_n (by omega)).trans (up_s _ _ _)).trans ?_
    show _ = nI (uw (S 3) f p f / 20)
    rw [uw_s]
  · refine ((up_n (by omega)).trans ((up_n (by omega)).trans (h.2.2.1 f hf).2.1)).trans ?_
    show _ = nI (uw (S 3) x p f / 20)
    rw [uw_n e]), (by
  by_cases e : f = x
  · subst e
    refine (up_s _ _ _).trans ?_
    show _ = nI (uw (S 3) f p f % 20)
    rw [uw_s]
  · refine ((up_n (by omega)).trans ((up_n (by omega)).trans (h.2.2.1 f hf).2.2.1)).trans ?_
    show _ = nI (uw (S 3) x p f % 20)
    rw [uw_n e]), ((up_n (by omega)).trans ((up_n (by omega)).trans (h.2.2.1 f hf).2.2.2))⟩, fun f k hf hk => have hf : f < S 1 0 := hf; ((up_n (by omega)).trans ((up_n (by omega)).trans (h.2.2.2.1 f k hf hk))), ⟨((up_n (by omega)).trans ((up_n (by omega)).trans h.2.2.2.2.1.1)), ((up_n (by omega)).trans ((up_n (by omega)).trans h.2.2.2.2.1.2.1)), ((up_n (by omega)).trans ((up_n (by omega)).trans h.2.2.2.2.1.2.2.1)), ((up_n (by omega)).trans ((up_n (by omega)).trans h.2.2.2.2.1.2.2.2.1)), ((up_n (by omega)).trans ((up_n (by omega)).trans h.2.2.2.2.1.2.2.2.2.1)), ((up_n (by omega)).trans ((up_n (by omega)).trans h.2.2.2.2.1.2.2.2.2.2.1)), ((up_n (by omega)).trans ((up_n (by omega)).trans h.2.2.2.2.1.2.2.2.2.2.2))⟩, fun k hk => ⟨((up_n (by omega)).trans ((up_n (by omega)).trans (h.2.2.2.2.2.1 k hk).1)), ((up_n (by omega)).trans ((up_n (by omega)).trans (h.2.2.2.2.2.1 k hk).2.1)), ((up_n (by omega)).trans ((up_n (by omega)).trans (h.2.2.2.2.2.1 k hk).2.2))⟩, fun i hi => ⟨((up_n (by omega)).trans ((up_n (by omega)).trans (h.2.2.2.2.2.2.1 i hi).1)), ((up_n (by omega)).trans ((up_n (by omega)).trans (h.2.2.2.2.2.2.1 i hi).2))⟩, fun r k hr hk => have hr : r < S 14 0 := hr; ((up_n (by omega)).trans ((up_n (by omega)).trans (h.2.2.2.2.2.2.2 r k hr hk)))⟩
end
section
variable {K : Mem} {S : SM} {u : Nat}
theorem zk_lay3 (hc : S 1 0 ≤ 12) {f : Nat} (hf : f < S 1 0) (v : Nat) : fX9_lay K (nI f) (nI 3) (nI v) = some (sr K 1 (upd (K 1) (9 + 14 * f + 3) (nI v))) := by
  unfold fX9_lay
  simp (disch := omega) only [li0, li1, li2, li3, li4, li5, li6, li7, li8, li9, li10, li12, li13, li14, li15, li19, li20, li31, li33, li40, li42, li44, li48, li57, li60, li99, li100, li126, li150, li176, li177, li187, li197, li207, li208, li223, li304, li608, li1520, li1824, nI_add, pk_mul, nI_clamp, nI_leI, nI_ltI, nI_eq, zn_inb, zn_gd, zn_bs, zn_isb, not_true_eq_false, not_false_eq_true, ↓reduceIte, pk_div, pk_sub, zn_rem20, zn_rem2, zn_m1, zn_eqw, zn_weq, zn_weq2, zn_wlt0, zn_wltn, zn_win, zn_wcl, zn_wadd, Nat.not_lt_zero, Nat.one_ne_zero, Nat.zero_ne_one, Nat.le_refl, Nat.zero_le, zn_sel_r, zn_sel_l]
theorem zk_lay1 (hc : S 1 0 ≤ 12) {f : Nat} (hf : f < S 1 0) (v : Nat) : fX9_lay K (nI f) (nI 1) (nI v) = some (sr K 1 (upd (K 1) (9 + 14 * f + 1) (nI v))) := by
  unfold fX9_lay
  simp (disch := omega) only [li0, li1, li2, li3, li4, li5, li6, li7, li8, li9, li10, li12, li13, li14, li15, li19, li20, li31, li33, li40, li42, li44, li48, li57, li60, li99, li100, li126, li150, li176, li177, li187, li197, li207, li208, li223, li304, li608, li1520, li1824, nI_add, pk_mul, nI_clamp, nI_leI, nI_ltI, nI_eq, zn_inb, zn_gd, zn_bs, zn_isb, not_true_eq_false, not_false_eq_true, ↓reduceIte, pk_div, pk_sub, zn_rem20, zn_rem2, zn_m1, zn_eqw, zn_weq, zn_weq2, zn_wlt0, zn_wltn, zn_win, zn_wcl, zn_wadd, Nat.not_lt_zero, Nat.one_ne_zero, Nat.zero_ne_one, Nat.le_refl, Nat.zero_le, zn_sel_r, zn_sel_l]
theorem zk_lay2 (hc : S 1 0 ≤ 12) {f : Nat} (hf : f < S 1 0) (v : Nat) : fX9_lay K (nI f) (nI 2) (nI v) = some (sr K 1 (upd (K 1) (9 + 14 * f + 2) (nI v))) := by
  unfold fX9_lay
  simp (disch := omega) only [li0, li1, li2, li3, li4, li5, li6, li7, li8, li9, li10, li12, li13, li14, li15, li19, li20, li31, li33, li40, li42, li44, li48, li57, li60, li99, li100, li126, li150, li176, li177, li187, li197, li207, li208, li223, li304, li608, li1520, li1824, nI_add, pk_mul, nI_clamp, nI_leI, nI_ltI, nI_eq, zn_inb, zn_gd, zn_bs, zn_isb, not_true_eq_false, not_false_eq_true, ↓reduceIte, pk_div, pk_sub, zn_rem20, zn_rem2, zn_m1, zn_eqw, zn_weq, zn_weq2, zn_wlt0, zn_wltn, zn_win, zn_wcl, zn_wadd, Nat.not_lt_zero, Nat.one_ne_zero, Nat.zero_ne_one, Nat.le_refl, Nat.zero_le, zn_sel_r, zn_sel_l]
theorem zk_lay4 (hc : S 1 0 ≤ 12) {f k : Nat} (hf : f < S 1 0) (hk : k < 10) (v : Nat) : fX9_lay K (nI f) (nI (4 + k)) (nI v) = some (sr K 1 (upd (K 1) (9 + 14 * f + (4 + k)) (nI v))) := by
  unfold fX9_lay
  simp (disch := omega) only [li0, li1, li2, li3, li4, li5, li6, li7, li8, li9, li10, li12, li13, li14, li15, li19, li20, li31, li33, li40, li42, li44, li48, li57, li60, li99, li100, li126, li150, li176, li177, li187, li197, li207, li208, li223, li304, li608, li1520, li1824, nI_add, pk_mul, nI_clamp, nI_leI, nI_ltI, nI_eq, zn_inb, zn_gd, zn_bs, zn_isb, not_true_eq_false, not_false_eq_true, ↓reduceIte, pk_div, pk_sub, zn_rem20, zn_rem2, zn_m1, zn_eqw, zn_weq, zn_weq2, zn_wlt0, zn_wltn, zn_win, zn_wcl, zn_wadd, Nat.not_lt_zero, Nat.one_ne_zero, Nat.zero_ne_one, Nat.le_refl, Nat.zero_le, zn_sel_r, zn_sel_l]
theorem zk_puts (h : RK (K 1) S) (hc : S 1 0 ≤ 12) {f p : Nat} (hf : f < S 1 0) (hp : p < 60) : ∃ z, fX9_puts K (nI f) (nI p) = some z ∧ RK (z 1) (sw S 3 (uw (S 3) f p)) := by
  have e1 := zk_lay1 (K := K) hc hf (p / 20)
  unfold fX9_puts
  simp (disch := omega) only [li0, li1, li2, li3, li4, li5, li6, li7, li8, li9, li10, li12, li13, li14, li15, li19, li20, li31, li33, li40, li42, li44, li48, li57, li60, li99, li100, li126, li150, li176, li177, li187, li197, li207, li208, li223, li304, li608, li1520, li1824, nI_add, pk_mul, nI_clamp, nI_leI, nI_ltI, nI_eq, zn_inb, zn_gd, zn_bs, zn_isb, not_true_eq_false, not_false_eq_true, ↓reduceIte, pk_div, pk_sub, zn_rem20, zn_rem2, zn_m1, zn_eqw, zn_weq, zn_weq2, zn_wlt0, zn_wltn, zn_win, zn_wcl, zn_wadd, Nat.not_lt_zero, Nat.one_ne_zero, Nat.zero_ne_one, Nat.le_refl, Nat.zero_le, zn_sel_r, zn_sel_l, e1]
  have e2 := zk_lay2 (K := sr K 1 (upd (K 1) (9 + 14 * f + 1) (nI (p / 20)))) hc hf (p % 20)
  rw [show sr K 1 (sr K 1 (upd (K 1) (9 + 14 * f + 1) (nI (p / 20))) 1) = sr K 1 (upd (K 1) (9 + 14 * f + 1) (nI (p / 20))) from rfl, e2, zn_bs]
  exact ⟨_, rfl, h.up hc hf p⟩
theorem zk_note_L {a b : Int32} {kx : Mem → Int32 → Int32 → Option Mem} {Q : Mem → Prop} (hk : ∀ N, (∀ x, x < 209 ∨ 222 < x → N 1 x = K 1 x) → (∀ i, 2 ≤ i → i < 16 → N 1 (207 + i) = K 1 (207 + i - 2)) → ∃ z, kx N a b = some z ∧ Q z) : ∀ j n N, 1 ≤ j → j ≤ 15 → j < n → (∀ x, x < 209 ∨ 222 < x → N 1 x = K 1 x) → (∀ i, 2 ≤ i → i < 16 → N 1 (207 + i) = if j < i then K 1 (207 + i - 2) else K 1 (207 + i)) → ∃ z, fX9_notesTrip_L3 K n kx N a b (nI j) = some z ∧ Q z := by
  intro j
  induction j with
  | zero =>
    intro n N h1
    omega
  | succ j ih =>
    intro n N h1 h2 hn e1 e2
    obtain ⟨m, rfl⟩ : ∃ m, n = m + 1 := ⟨n - 1, by omega⟩
    rw [fX9_notesTrip_L3]
    by_cases c : j + 1 ≤ 1
    · simp (disch := omega) only [li0, li1, li2, li3, li4, li5, li6, li7, li8, li9, li10, li12, li13, li14, li15, li19, li20, li31, li33, li40, li42, li44, li48, li57, li60, li99, li100, li126, li150, li176, li177, li187, li197, li207, li208, li223, li304, li608, li1520, li1824, nI_add, pk_mul, nI_clamp, nI_leI, nI_ltI, nI_eq, zn_inb, zn_gd, zn_bs, zn_isb, not_true_eq_false, not_false_eq_true, ↓reduceIte, pk_div, pk_sub, zn_rem20, zn_rem2, zn_m1, zn_eqw, zn_weq, zn_weq2, zn_wlt0, zn_wltn, zn_win, zn_wcl, zn_wadd, Nat.not_lt_zero, Nat.one_ne_zero, Nat.zero_ne_one, Nat.le_refl, Nat.zero_le, zn_sel_r, zn_sel_l, c]
      exact hk _ e1 (fun i h3 h4 => by
        have := e2 i h3 h4
        rwa [if_pos (by omega)] at this)
    · simp (disch := omega) only [li0, li1, li2, li3, li4, li5, li6, li7, li8, li9, li10, li12, li13, li14, li15, li19, li20, li31, li33, li40, li42, li44, li48, li57, li60, li99, li100, li126, li150, li176, li177, li187, li197, li207, li208, li223, li304, li608, li1520, li1824, nI_add, pk_mul, nI_clamp, nI_leI, nI_ltI, nI_eq, zn_inb, zn_gd, zn_bs, zn_isb, not_true_eq_false, not_false_eq_true, ↓reduceIte, pk_div, pk_sub, zn_rem20, zn_rem2, zn_m1, zn_eqw, zn_weq, zn_weq2, zn_wlt0, zn_wltn, zn_win, zn_wcl, zn_wadd, Nat.not_lt_zero, Nat.one_ne_zero, Nat.zero_ne_one, Nat.le_refl, Nat.zero_le, zn_sel_r, zn_sel_l, c, zn_addw]
      refine ih m _ (by omega) (by omega) (by omega) (fun x hx => ?_) (fun i h3 h4 => ?_)
      · exact (up_n (by omega)).trans (e1 x hx)
      · show upd (N 1) (207 + (j + 1)) (N 1 (207 + (j + 1) - 2)) (207 + i) = _
        by_cases e : i = j + 1
        · subst e
          rw [up_s, if_pos (by omega)]
          by_cases q : j + 1 ≤ 3
          · exact e1 _ (by omega)
          · have := e2 (j + 1 - 2) (by omega) (by omega)
            rw [if_neg (by omega), show 207 + (j + 1 - 2) = 207 + (j + 1) - 2 by omega] at this
            exact this
        · rw [up_n (by omega), e2 i h3 h4]
          by_cases q : j + 1 < i
          · rw [if_pos q, if_pos (by omega)]
          · rw [if_neg q, if_neg (by omega)]
theorem zk_notesTrip (h : RK (K 1) S) (hc : S 1 0 ≤ 12) (hm : S 6 4 ≤ 8) (t b : Nat) : ∃ z, fX9_notesTrip K (nI t) (nI b) = some z ∧ RK (z 1) (zo_note S t b) := by
  unfold fX9_notesTrip
  refine zk_note_L ?_ 15 5000 K (by omega) (by omega) (by omega) (fun _ _ => rfl) (fun i _ hi => by rw [if_neg (by omega)])
  intro N e1 e2
  have a7 : N 1 7 = nI (S 6 4) := (e1 7 (by omega)).trans h.2.2.2.2.1.2.2.2.2.2.1
  have a4 : N 1 4 = nI (S 6 2) := (e1 4 (by omega)).trans h.2.2.2.2.1.2.2.1
  have fin : ∀ v, v = min (S 6 4 + 1) 8 → RK (upd (upd (upd (upd (N 1) 207 (nI t)) 208 (nI b)) 7 (nI v)) 4 (nI (S 6 2 + t))) (zo_note S t b) := by
    intro v hv
    subst hv
    exact ⟨((up_n (by omega)).trans ((up_n (by omega)).trans ((up_n (by omega)).trans ((up_n (by omega)).trans ((e1 _ (by omega)).trans h.1))))), ((up_n (by omega)).trans ((up_n (by omega)).trans ((up_n (by omega)).trans ((up_n (by omega)).trans ((e1 _ (by omega)).trans h.2.1))))), fun f hf => have hf : f < S 1 0 := hf; ⟨((up_n (by omega)).trans ((up_n (by omega)).trans ((up_n (by omega)).trans ((up_n (by omega)).trans ((e1 _ (by omega)).trans (h.2.2.1 f hf).1))))), ((up_n (by omega)).trans ((up_n (by omega)).trans ((up_n (by omega)).trans ((up_n (by omega)).trans ((e1 _ (by omega)).trans (h.2.2.1 f hf).2.1))))), ((up_n (by omega)).trans ((up_n (by omega)).trans ((up_n (by omega)).trans ((up_n (by omega)).trans ((e1 _ (by omega)).trans (h.2.2.1 f hf).2.2.1))))), ((up_n (by omega)).trans ((up_n (by omega)).trans ((up_n (by omega)).trans ((up_n (by omega)).trans ((e1 _ (by omega)).trans (h.2.2.1 f hf).2.2.2)))))⟩, fun f k hf hk => have hf : f < S 1 0 := hf; ((up_n (by omega)).trans ((up_n (by omega)).trans ((up_n (by omega)).trans ((up_n (by omega)).trans ((e1 _ (by omega)).trans (h.2.2.2.1 f k hf hk)))))), ⟨((up_n (by omega)).trans ((up_n (by omega)).trans ((up_n (by omega)).trans ((up_n (by omega)).trans ((e1 _ (by omega)).trans h.2.2.2.2.1.1))))), ((up_n (by omega)).trans ((up_n (by omega)).trans ((up_n (by omega)).trans ((up_n (by omega)).trans ((e1 _ (by omega)).trans h.2.2.2.2.1.2.1))))), (up_s _ _ _), ((up_n (by omega)).trans ((up_n (by omega)).trans ((up_n (by omega)).trans ((up_n (by omega)).trans ((e1 _ (by omega)).trans h.2.2.2.2.1.2.2.2.1))))), ((up_n (by omega)).trans ((up_n (by omega)).trans ((up_n (by omega)).trans ((up_n (by omega)).trans ((e1 _ (by omega)).trans h.2.2.2.2.1.2.2.2.2.1))))), ((up_n (by omega)).trans (up_s _ _ _)), ((up_n (by omega)).trans ((up_n (by omega)).trans ((up_n (by omega)).trans ((up_n (by omega)).trans ((e1 _ (by omega)).trans h.2.2.2.2.1.2.2.2.2.2.2)))))⟩, fun k hk => ⟨((up_n (by omega)).trans ((up_n (by omega)).trans ((up_n (by omega)).trans ((up_n (by omega)).trans ((e1 _ (by omega)).trans (h.2.2.2.2.2.1 k hk).1))))), ((up_n (by omega)).trans ((up_n (by omega)).trans ((up_n (by omega)).trans ((up_n (by omega)).trans ((e1 _ (by omega)).trans (h.2.2.2.2.2.1 k hk).2.1))))), ((up_n (by omega)).trans ((up_n (by omega)).trans ((up_n (by omega)).trans ((up_n (by omega)).trans ((e1 _ (by omega)).trans (h.2.2.2.2.2.1 k hk).2.2)))))⟩, fun i hi => ⟨(by
  refine (up_n (by omega)).trans ((up_n (by omega)).trans ((up_n (by omega)).trans ?_))
  show _ = nI (zo_sh t (S 7) i)
  unfold zo_sh
  by_cases e : i = 0
  · subst e
    exact up_s _ _ _
  · rw [if_neg e]
    refine (up_n (by omega)).trans ((e2 (2 * i) (by omega) (by omega)).trans ?_)
    have := (h.2.2.2.2.2.2.1 (i - 1) (by omega)).1
    rwa [show 207 + 2 * (i - 1) = 207 + 2 * i - 2 by omega] at this), (by
  refine (up_n (by omega)).trans ((up_n (by omega)).trans ?_)
  show _ = nI (zo_sh b (S 8) i)
  unfold zo_sh
  by_cases e : i = 0
  · subst e
    exact up_s _ _ _
  · rw [if_neg e]
    refine (up_n (by omega)).trans ((up_n (by omega)).trans ((e2 (2 * i + 1) (by omega) (by omega)).trans ?_))
    have := (h.2.2.2.2.2.2.1 (i - 1) (by omega)).2
    rwa [show 207 + 2 * (i - 1) + 1 = 207 + (2 * i + 1) - 2 by omega] at this)⟩, fun r k hr hk => have hr : r < S 14 0 := hr; ((up_n (by omega)).trans ((up_n (by omega)).trans ((up_n (by omega)).trans ((up_n (by omega)).trans ((e1 _ (by omega)).trans (h.2.2.2.2.2.2.2 r k hr hk))))))⟩
  have b7 : upd (upd (N 1) 207 (nI t)) 208 (nI b) 7 = nI (S 6 4) := (up_n (by omega)).trans ((up_n (by omega)).trans a7)
  have b4 : ∀ x, upd (upd (upd (N 1) 207 (nI t)) 208 (nI b)) 7 x 4 = nI (S 6 2) := fun x => (up_n (by omega)).trans ((up_n (by omega)).trans ((up_n (by omega)).trans a4))
  have r1 : sr K 1 (upd (upd (N 1) 207 (nI t)) 208 (nI b)) 1 = upd (upd (N 1) 207 (nI t)) 208 (nI b) := rfl
  by_cases c : 8 ≤ S 6 4
  · simp (disch := omega) only [li0, li1, li2, li3, li4, li5, li6, li7, li8, li9, li10, li12, li13, li14, li15, li19, li20, li31, li33, li40, li42, li44, li48, li57, li60, li99, li100, li126, li150, li176, li177, li187, li197, li207, li208, li223, li304, li608, li1520, li1824, nI_add, pk_mul, nI_clamp, nI_leI, nI_ltI, nI_eq, zn_inb, zn_gd, zn_bs, zn_isb, not_true_eq_false, not_false_eq_true, ↓reduceIte, pk_div, pk_sub, zn_rem20, zn_rem2, zn_m1, zn_eqw, zn_weq, zn_weq2, zn_wlt0, zn_wltn, zn_win, zn_wcl, zn_wadd, Nat.not_lt_zero, Nat.one_ne_zero, Nat.zero_ne_one, Nat.le_refl, Nat.zero_le, zn_sel_r, zn_sel_l, b7, c, fX9_notesTrip_B79, r1, b4]
    exact ⟨_, rfl, fin _ (by omega)⟩
  · simp (disch := omega) only [li0, li1, li2, li3, li4, li5, li6, li7, li8, li9, li10, li12, li13, li14, li15, li19, li20, li31, li33, li40, li42, li44, li48, li57, li60, li99, li100, li126, li150, li176, li177, li187, li197, li207, li208, li223, li304, li608, li1520, li1824, nI_add, pk_mul, nI_clamp, nI_leI, nI_ltI, nI_eq, zn_inb, zn_gd, zn_bs, zn_isb, not_true_eq_false, not_false_eq_true, ↓reduceIte, pk_div, pk_sub, zn_rem20, zn_rem2, zn_m1, zn_eqw, zn_weq, zn_weq2, zn_wlt0, zn_wltn, zn_win, zn_wcl, zn_wadd, Nat.not_lt_zero, Nat.one_ne_zero, Nat.zero_ne_one, Nat.le_refl, Nat.zero_le, zn_sel_r, zn_sel_l, b7, c, fX9_notesTrip_B79, r1, b4]
    exact ⟨_, rfl, fin _ (by omega)⟩
theorem zk_fetchesIt (h : RK (K 1) S) (g : GX u S) {f : Nat} (hf : f < S 1 0) : ∃ z, fX9_fetchesIt K (nI f) = some (nI (zs_to S f), z) ∧ RK (z 1) (zo_bring S f) := by
  have hc := g.c12
  have e1 := zk_wayTo h g hf
  have e5 : (upd (upd (K 1) 2 (nI 0)) 1 (nI f)) 5 = nI (S 6 3) := (up_n (by omega)).trans ((up_n (by omega)).trans h.2.2.2.2.1.2.2.2.1)
  have h1 := ((h.u2 0).u1 (f + 1)).u5 (S 6 3 + 1)
  rw [wI_s] at h1
  unfold fX9_fetchesIt
  simp (disch := omega) only [li0, li1, li2, li3, li4, li5, li6, li7, li8, li9, li10, li12, li13, li14, li15, li19, li20, li31, li33, li40, li42, li44, li48, li57, li60, li99, li100, li126, li150, li176, li177, li187, li197, li207, li208, li223, li304, li608, li1520, li1824, nI_add, pk_mul, nI_clamp, nI_leI, nI_ltI, nI_eq, zn_inb, zn_gd, zn_bs, zn_isb, not_true_eq_false, not_false_eq_true, ↓reduceIte, pk_div, pk_sub, zn_rem20, zn_rem2, zn_m1, zn_eqw, zn_weq, zn_weq2, zn_wlt0, zn_wltn, zn_win, zn_wcl, zn_wadd, Nat.not_lt_zero, Nat.one_ne_zero, Nat.zero_ne_one, Nat.le_refl, Nat.zero_le, zn_sel_r, zn_sel_l, e1, e5]
  have e3 := zk_of3 (K := sr K 1 (upd (upd (upd (K 1) 2 (nI 0)) 1 (nI f)) 5 (nI (S 6 3 + 1)))) h1 hc hf
  have e4 := zk_lay3 (S := S) (K := sr K 1 (upd (upd (upd (K 1) 2 (nI 0)) 1 (nI f)) 5 (nI (S 6 3 + 1)))) hc hf (S 4 f + 1)
  rw [e3, zn_bs]
  rw [show (sw (sw (sw S 6 (uw (S 6) 0 0)) 1 (uw (sw S 6 (uw (S 6) 0 0) 1) 1 (f + 1))) 6 (uw (sw (sw S 6 (uw (S 6) 0 0)) 1 (uw (sw S 6 (uw (S 6) 0 0) 1) 1 (f + 1)) 6) 3 (S 6 3 + 1)) 4 f) = S 4 f from rfl, nI_add, e4, zn_bs]
  have h2 := h1.u9 hc hf (S 4 f + 1)
  refine zn_bk1 (zk_notesTrip (K := sr K 1 _) h2 hc g.lo.2.2.1 _ _) (fun z hz => ?_)
  refine ⟨_, rfl, ?_⟩
  exact hz.row rfl rfl rfl rfl rfl rfl rfl rfl rfl rfl rfl rfl rfl rfl rfl
theorem zk_stows (h : RK (K 1) S) (g : GX u S) (hw : 0 < S 1 1) {p : Nat} (hp : p < 40) : ∃ z, fX9_stows K (nI p) = some (nI (zs_way p), z) ∧ RK (z 1) (zo_put S p) := by
  have hc := g.c12
  have hw2 := g.1.2.1
  have e1 : K 1 1 = nI (S 1 1 - 1) := h.2.1.trans (wI_p hw)
  obtain ⟨y, e2, h2⟩ := zk_puts h hc (f := S 1 1 - 1) (by omega) (show p < 60 by omega)
  have h3 := (h2.u1 0)
  have hx : S 1 1 - 1 < S 1 0 := by omega
  unfold fX9_stows
  simp (disch := omega) only [li0, li1, li2, li3, li4, li5, li6, li7, li8, li9, li10, li12, li13, li14, li15, li19, li20, li31, li33, li40, li42, li44, li48, li57, li60, li99, li100, li126, li150, li176, li177, li187, li197, li207, li208, li223, li304, li608, li1520, li1824, nI_add, pk_mul, nI_clamp, nI_leI, nI_ltI, nI_eq, zn_inb, zn_gd, zn_bs, zn_isb, not_true_eq_false, not_false_eq_true, ↓reduceIte, pk_div, pk_sub, zn_rem20, zn_rem2, zn_m1, zn_eqw, zn_weq, zn_weq2, zn_wlt0, zn_wltn, zn_win, zn_wcl, zn_wadd, Nat.not_lt_zero, Nat.one_ne_zero, Nat.zero_ne_one, Nat.le_refl, Nat.zero_le, zn_sel_r, zn_sel_l, e1, e2]
  have e3 := zk_of2 (K := sr K 1 (upd (y 1) 1 (wI 0))) h3 hc hx
  rw [e3, zn_bs]
  have hp3 : sw (sw S 3 (uw (S 3) (S 1 1 - 1) p)) 1 (uw (sw S 3 (uw (S 3) (S 1 1 - 1) p) 1) 1 0) 3 (S 1 1 - 1) = p := uw_s _ _ _
  rw [hp3]
  have h4 := h3.u2 (p % 20)
  have e4 := zk_way (K := sr K 1 (upd (upd (y 1) 1 (wI 0)) 2 (nI (p % 20)))) h4 hc hx
  rw [show (sw (sw (sw S 3 (uw (S 3) (S 1 1 - 1) p)) 1 (uw (sw S 3 (uw (S 3) (S 1 1 - 1) p) 1) 1 0)) 6 (uw (sw (sw S 3 (uw (S 3) (S 1 1 - 1) p)) 1 (uw (sw S 3 (uw (S 3) (S 1 1 - 1) p) 1) 1 0) 6) 0 (p % 20)) 3 (S 1 1 - 1)) = p from hp3] at e4
  rw [e4, zn_bs]
  refine zn_bk1 (zk_notesTrip (K := sr K 1 _) h4 hc g.lo.2.2.1 _ _) (fun z hz => ?_)
  have ew : uw (uw (S 6) 0 (p % 20)) 3 (S 6 3 + 0) = uw (S 6) 0 (p % 20) := uw_id rfl
  have hz2 : RK (z 1) (zo_put S p) := hz.row rfl rfl rfl rfl rfl rfl (congrArg (fun g => uw (uw g 2 (S 6 2 + zs_way p)) 4 (min (S 6 4 + 1) 8)) ew) rfl rfl rfl rfl rfl rfl rfl rfl
  have e5 := zk_way (K := sr K 1 (z 1)) hz2 hc hx
  rw [show zo_put S p 3 (S 1 1 - 1) = p from uw_s _ _ _] at e5
  rw [e5, zn_bs]
  exact ⟨_, rfl, hz2⟩
theorem zk_stowPlace (h : RK (K 1) S) (g : GX u S) (hw : 0 < S 1 1) : fX9_stowPlace K = some (nI (zs_sp S)) := by
  have hc := g.c12
  have hw2 := g.1.2.1
  have lo := g.lo
  have b := g.1.2.2.1 (S 1 1 - 1) (by omega)
  have e1 : K 1 1 = nI (S 1 1 - 1) := h.2.1.trans (wI_p hw)
  have e3 := h.2.2.2.2.1.2.1
  have hx : S 1 1 - 1 < S 1 0 := by omega
  have a0 := zk_of0 h hc hx
  have a1 := zk_of1 h hc hx
  have a2 := zk_of2 h hc hx
  unfold fX9_stowPlace zs_sp
  by_cases c : S 6 1 = 0
  · have e5 := zk_place h g.1.k (w := S 2 (S 1 1 - 1)) (by omega)
    have fp := zs_fp_s b.2.2.1 (zs_own g.1 hw)
    have c2 : ¬ S 6 1 = 1 := by omega
    rw [wI_p fp] at e5
    simp (disch := omega) only [li0, li1, li2, li3, li4, li5, li6, li7, li8, li9, li10, li12, li13, li14, li15, li19, li20, li31, li33, li40, li42, li44, li48, li57, li60, li99, li100, li126, li150, li176, li177, li187, li197, li207, li208, li223, li304, li608, li1520, li1824, nI_add, pk_mul, nI_clamp, nI_leI, nI_ltI, nI_eq, zn_inb, zn_gd, zn_bs, zn_isb, not_true_eq_false, not_false_eq_true, ↓reduceIte, pk_div, pk_sub, zn_rem20, zn_rem2, zn_m1, zn_eqw, zn_weq, zn_weq2, zn_wlt0, zn_wltn, zn_win, zn_wcl, zn_wadd, Nat.not_lt_zero, Nat.one_ne_zero, Nat.zero_ne_one, Nat.le_refl, Nat.zero_le, zn_sel_r, zn_sel_l, e1, e3, c2, a0, e5, fX9_stowPlace_B46, c]
  · have c2 : S 6 1 = 1 := by omega
    simp (disch := omega) only [li0, li1, li2, li3, li4, li5, li6, li7, li8, li9, li10, li12, li13, li14, li15, li19, li20, li31, li33, li40, li42, li44, li48, li57, li60, li99, li100, li126, li150, li176, li177, li187, li197, li207, li208, li223, li304, li608, li1520, li1824, nI_add, pk_mul, nI_clamp, nI_leI, nI_ltI, nI_eq, zn_inb, zn_gd, zn_bs, zn_isb, not_true_eq_false, not_false_eq_true, ↓reduceIte, pk_div, pk_sub, zn_rem20, zn_rem2, zn_m1, zn_eqw, zn_weq, zn_weq2, zn_wlt0, zn_wltn, zn_win, zn_wcl, zn_wadd, Nat.not_lt_zero, Nat.one_ne_zero, Nat.zero_ne_one, Nat.le_refl, Nat.zero_le, zn_sel_r, zn_sel_l, e1, e3, eq_true c2, a1, a2, fX9_stowPlace_B46, c]
    congr 2
    omega
end
