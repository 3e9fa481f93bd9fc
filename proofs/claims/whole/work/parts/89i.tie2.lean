set_option maxHeartbeats 400000
/-! the two readings agree, a part and the whole -/
section
variable {t : Nat → Nat} {len : Nat}
theorem zp_partF {p k : Nat} {W : Nat → Nat} (hp : p ≤ len) (hz : ∀ i, k ≤ i → W i = 0) (h : (zq_part (zq_s t len) p k W).1 = false) : zr_nf len (zq_part (zq_s t len) p k W).2.1 (zp_run t (len - p) p 0 k W) := by
  have a0 := zq_s_pos (t := t) (len := len) (q := p)
  have a1 := zq_s_pos (t := t) (len := len) (q := p + 1)
  unfold zq_part at h ⊢
  by_cases q0 : 48 + k ≤ zq_s t len p ∧ zq_s t len p ≤ 57
  · rw [if_pos q0] at h ⊢
    rw [zp_R0 hp q0]
    by_cases q1 : zq_s t len (p + 1) = 42
    · rw [if_pos q1] at h ⊢
      rw [zp_R1 (by omega) q1]
      by_cases q2 : 49 ≤ zq_s t len (p + 2) ∧ zq_s t len (p + 2) ≤ 57
      · rw [if_pos q2] at h
        split at h <;> cases h
      · rw [if_neg q2]
        exact zp_R2n (show p + 2 ≤ len by omega) q2
    · rw [if_neg q1]
      exact zp_R1n (show p + 1 ≤ len by omega) q1
  · rw [if_neg q0]
    exact zp_R0n hp q0
theorem zp_partT {p k : Nat} {W : Nat → Nat} (hp : p ≤ len) (hz : ∀ i, k ≤ i → W i = 0) (h : (zq_part (zq_s t len) p k W).1 = true) : zp_run t (len - p) p 0 k W = zp_run t (len - (zq_part (zq_s t len) p k W).2.1) (zq_part (zq_s t len) p k W).2.1 3 (zq_part (zq_s t len) p k W).2.2.1 (zq_part (zq_s t len) p k W).2.2.2 ∧ (48 ≤ zq_s t len (zq_part (zq_s t len) p k W).2.1 → zq_s t len (zq_part (zq_s t len) p k W).2.1 ≤ 57 → 20 < (zq_part (zq_s t len) p k W).2.2.2 ((zq_part (zq_s t len) p k W).2.2.1 - 1) * 10 + (zq_s t len (zq_part (zq_s t len) p k W).2.1 - 48)) ∧ (∀ i, (zq_part (zq_s t len) p k W).2.2.1 ≤ i → (zq_part (zq_s t len) p k W).2.2.2 i = 0) ∧ 1 ≤ (zq_part (zq_s t len) p k W).2.2.1 ∧ 1 ≤ (zq_part (zq_s t len) p k W).2.2.2 ((zq_part (zq_s t len) p k W).2.2.1 - 1) := by
  have a0 := zq_s_pos (t := t) (len := len) (q := p)
  have a1 := zq_s_pos (t := t) (len := len) (q := p + 1)
  have a2 := zq_s_pos (t := t) (len := len) (q := p + 2)
  unfold zq_part at h ⊢
  by_cases q0 : 48 + k ≤ zq_s t len p ∧ zq_s t len p ≤ 57
  · rw [if_pos q0] at h ⊢
    rw [zp_R0 hp q0]
    by_cases q1 : zq_s t len (p + 1) = 42
    · rw [if_pos q1] at h ⊢
      rw [zp_R1 (by omega) q1]
      by_cases q2 : 49 ≤ zq_s t len (p + 2) ∧ zq_s t len (p + 2) ≤ 57
      · rw [if_pos q2] at h ⊢
        have ek : zq_s t len p - 47 - 1 = zq_s t len p - 48 := by omega
        have ew : W (zq_s t len p - 47 - 1) = 0 := hz _ (by omega)
        rw [zp_R2 (by omega) ew q2, ek]
        have zz : ∀ v i, zq_s t len p - 47 ≤ i → uw W (zq_s t len p - 48) v i = 0 := fun v i hi => by
          rw [uw_n (by omega)]
          exact hz i (by omega)
        by_cases q3 : 48 ≤ zq_s t len (p + 3) ∧ zq_s t len (p + 3) ≤ 57 ∧ 10 * (zq_s t len (p + 2) - 48) + zq_s t len (p + 3) ≤ 68
        · rw [if_pos q3]
          have a3 := zq_s_pos (t := t) (len := len) (q := p + 3) (by omega)
          have e := zp_R3d (t := t) (len := len) (p := p + 3) (k := zq_s t len p - 47) (W := uw W (zq_s t len p - 48) (zq_s t len (p + 2) - 48)) (by omega) ⟨q3.1, q3.2.1⟩ (by rw [ek, uw_s]; omega)
          rw [ek, uw_s, uw_uw] at e
          have ev : (zq_s t len (p + 2) - 48) * 10 + (zq_s t len (p + 3) - 48) = 10 * (zq_s t len (p + 2) - 48) + zq_s t len (p + 3) - 48 := by omega
          rw [ev] at e
          refine ⟨e, fun _ _ => ?_, zz _, by show 1 ≤ zq_s t len p - 47; omega, ?_⟩
          · show 20 < uw W (zq_s t len p - 48) _ (zq_s t len p - 47 - 1) * 10 + _
            rw [ek, uw_s]
            omega
          · show 1 ≤ uw W (zq_s t len p - 48) _ (zq_s t len p - 47 - 1)
            rw [ek, uw_s]
            omega
        · rw [if_neg q3]
          refine ⟨rfl, fun x y => ?_, zz _, by show 1 ≤ zq_s t len p - 47; omega, ?_⟩
          · have x : 48 ≤ zq_s t len (p + 3) := x
            have y : zq_s t len (p + 3) ≤ 57 := y
            show 20 < uw W (zq_s t len p - 48) _ (zq_s t len p - 47 - 1) * 10 + (zq_s t len (p + 3) - 48)
            rw [ek, uw_s]
            omega
          · show 1 ≤ uw W (zq_s t len p - 48) _ (zq_s t len p - 47 - 1)
            rw [ek, uw_s]
            omega
      · rw [if_neg q2] at h
        cases h
    · rw [if_neg q1] at h
      cases h
  · rw [if_neg q0] at h
    cases h
theorem zp_loop : ∀ d p k W, len ≤ p + d → p ≤ len → (∀ i, k ≤ i → W i = 0) → (48 ≤ zq_s t len p → zq_s t len p ≤ 57 → 20 < W (k - 1) * 10 + (zq_s t len p - 48)) → ((zq_loop (zq_s t len) len d p k W).1 = true → zp_run t (len - p) p 3 k W = (len, 3, (zq_loop (zq_s t len) len d p k W).2.2) ∧ (zq_loop (zq_s t len) len d p k W).2.1 = len) ∧ ((zq_loop (zq_s t len) len d p k W).1 = false → zr_nf len (zq_loop (zq_s t len) len d p k W).2.1 (zp_run t (len - p) p 3 k W)) := by
  intro d
  induction d with
  | zero =>
    intro p k W hd hp hz cl
    obtain rfl : p = len := by omega
    rw [zq_loop, Nat.sub_self]
    exact ⟨fun _ => ⟨rfl, rfl⟩, (fun x => by cases x)⟩
  | succ d ih =>
    intro p k W hd hp hz cl
    rw [zq_loop]
    by_cases c : len ≤ p
    · obtain rfl : p = len := by omega
      rw [if_pos c, Nat.sub_self]
      exact ⟨fun _ => ⟨rfl, rfl⟩, (fun x => by cases x)⟩
    · rw [if_neg c]
      by_cases q : zq_s t len p = 44 ∧ k < 10
      · rw [if_pos q, zp_R3c hp q.1 q.2]
        obtain ⟨l1, l2⟩ := zq_part_le (t := t) (len := len) (p := p + 1) (k := k) (W := W) (by omega)
        cases b : (zq_part (zq_s t len) (p + 1) k W).1
        · rw [cond_false]
          exact ⟨(fun x => by cases x), fun _ => zp_partF (by omega) hz b⟩
        · rw [cond_true]
          obtain ⟨e1, e2, e3, e4, e5⟩ := zp_partT (t := t) (len := len) (by omega) hz b
          rw [e1]
          have := (l2 b).1
          exact ih _ _ _ (by omega) l1 e3 e2
      · rw [if_neg q]
        exact ⟨(fun x => by cases x), fun _ => zp_R3n (show p < len by omega) q cl⟩
/-- the two readings agree -/
theorem zp_all (t : Nat → Nat) (len : Nat) : ((zq_all (zq_s t len) len).1 = true → zp_run t len 0 0 0 (fun _ => 0) = (len, 3, (zq_all (zq_s t len) len).2.2) ∧ (zq_all (zq_s t len) len).2.1 = len) ∧ ((zq_all (zq_s t len) len).1 = false → zr_nf len (zq_all (zq_s t len) len).2.1 (zp_run t len 0 0 0 (fun _ => 0))) := by
  unfold zq_all
  obtain ⟨l1, l2⟩ := zq_part_le (t := t) (len := len) (p := 0) (k := 0) (W := fun _ => 0) (Nat.zero_le _)
  cases b : (zq_part (zq_s t len) 0 0 (fun _ => 0)).1
  · rw [cond_false]
    exact ⟨(fun x => by cases x), fun _ => zp_partF (p := 0) (Nat.zero_le _) (fun _ _ => rfl) b⟩
  · rw [cond_true]
    obtain ⟨e1, e2, e3, e4, e5⟩ := zp_partT (t := t) (len := len) (p := 0) (k := 0) (W := fun _ => 0) (Nat.zero_le _) (fun _ _ => rfl) b
    rw [Nat.sub_zero] at e1
    rw [e1]
    exact zp_loop len _ _ _ (by omega) l1 e3 e2
end
