set_option maxHeartbeats 400000
/-! calls that change the state and can be undone -/
section
variable {n u : Nat} {C C2 : Nat → Option Mem} {M K M' K' : Mem} {S S' : SM} {T : Nat → SM} {hc : Nat}
/-! what single changes keep -/
theorem GX.least (g : GX u S) {k v : Nat} (hv : v ≤ 99) : GX u (sw S 11 (uw (S 11) k v)) := by
  obtain ⟨a, b1, b2, b3, b4, b5, b6, b10, b11, b12, b13⟩ := id g
  refine ⟨a, fun i hi => ?_, b2, b3, b4, b5, b6, b10, b11, b12, b13⟩
  have := b1 i hi
  refine ⟨this.1, this.2.1, ?_⟩
  show uw (S 11) k v i ≤ 99
  unfold uw
  split
  · exact hv
  · exact this.2.2
theorem GX.rule (g : GX u S) {v : Nat} (hv : v < 2) : GX u (sw S 6 (uw (S 6) 1 v)) := by
  obtain ⟨a, b1, b2, b3, b4, b5, ⟨c1, c2, c3, c4⟩, b10, b11, b12, b13⟩ := id g
  exact ⟨a, b1, b2, b3, b4, b5, ⟨c1, hv, c3, c4⟩, b10, b11, b12, b13⟩
theorem zs_wt_t (S : SM) {f k : Nat} (hk : k < 10) (v x : Nat) : zs_wt (sw S 5 (uw (S 5) (f * 10 + k) v)) x = if x = f then zs_wt S f + v * S 10 k - S 5 (f * 10 + k) * S 10 k else zs_wt S x := by
  by_cases q : x = f
  · rw [if_pos q, q]
    have h := fb_sm_upd (fun j => S 5 (f * 10 + j) * S 10 j) (v * S 10 k) hk
    have e : zs_wt (sw S 5 (uw (S 5) (f * 10 + k) v)) f = fb_sm (fun j => if j = k then v * S 10 k else S 5 (f * 10 + j) * S 10 j) 10 := fb_sm_cong (fun j _ => by
      show uw (S 5) (f * 10 + k) v (f * 10 + j) * S 10 j = _
      by_cases q : j = k
      · rw [if_pos q, q, uw_s]
      · rw [if_neg q, uw_n (by omega)])
    rw [e]
    have h2 : fb_sm (fun j => S 5 (f * 10 + j) * S 10 j) 10 = zs_wt S f := rfl
    omega
  · rw [if_neg q]
    exact fb_sm_cong (fun j hj => by
      show uw (S 5) (f * 10 + k) v (x * 10 + j) * S 10 j = _
      rw [uw_n (by omega)])
theorem GX.things (g : GX u S) {f k v : Nat} (hk : k < 10) (hv : zs_wt S f + v * S 10 k ≤ 150 + S 5 (f * 10 + k) * S 10 k) (hf : f < S 1 0) : GX u (sw S 5 (uw (S 5) (f * 10 + k) v)) := by
  obtain ⟨⟨a1, a2, a3, a4, a5, a6⟩, b1, b2, b3, b4, b5, b6, b10, b11, b12, b13⟩ := id g
  have wt : ∀ x, x < S 1 0 → zs_wt (sw S 5 (uw (S 5) (f * 10 + k) v)) x ≤ 150 := by
    intro x hx
    rw [zs_wt_t S hk]
    split
    · omega
    · exact b2 x hx
  refine ⟨⟨a1, a2, a3, a4, fun x j hx hj => ?_, a6⟩, b1, wt, b3, b4, b5, b6, b10, b11, b12, b13⟩
  have hw := wt x hx
  have hp := fb_sm_part (fun j => uw (S 5) (f * 10 + k) v (x * 10 + j) * S 10 j) hj
  have hw2 : fb_sm (fun j => uw (S 5) (f * 10 + k) v (x * 10 + j) * S 10 j) 10 ≤ 150 := hw
  have h1 := (b1 j hj).1
  have h2 : uw (S 5) (f * 10 + k) v (x * 10 + j) * 1 ≤ uw (S 5) (f * 10 + k) v (x * 10 + j) * S 10 j := Nat.mul_le_mul_left _ h1
  show uw (S 5) (f * 10 + k) v (x * 10 + j) ≤ 150
  have h3 : uw (S 5) (f * 10 + k) v (x * 10 + j) * S 10 j ≤ 150 := by omega
  omega
theorem GX.row12 (g : GX u S) (v : Nat → Nat) : GX u (sw S 12 v) := g
theorem GX.row13 (g : GX u S) (v : Nat → Nat) : GX u (sw S 13 v) := g
theorem zn_sub_minus (a b c : Nat) : nI a - nI b + -(nI c) = nI a - nI (b + c) := by
  rw [← nI_add, zn_sub_add, ← Int32.sub_eq_add_neg]
end
