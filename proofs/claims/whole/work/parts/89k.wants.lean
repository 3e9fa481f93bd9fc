set_option maxHeartbeats 400000
/-! what a text that is an order wants -/
theorem zp_run_ok (t : Nat → Nat) : ∀ d p st k W, zp_ok st k W → (zp_run t d p st k W).1 = p + d → ∀ i, i < 10 → (zp_run t d p st k W).2.2 i ≤ 20
  | 0, p, st, k, W, h, _ => h.2.2.2
  | d + 1, p, st, k, W, h, e => by
    cases b : (zp_step st k W (t p)).1
    · rw [zp_run_f b] at e
      have e : p = p + (d + 1) := e
      omega
    · rw [zp_run_t b] at e ⊢
      exact zp_run_ok t d (p + 1) _ _ _ (zp_step_ok h b) (by omega)
theorem zq_part_keep {s : Nat → Nat} {p k : Nat} {W : Nat → Nat} (h : (zq_part s p k W).1 = true) : k ≤ (zq_part s p k W).2.2.1 ∧ ∀ i, i < k → (zq_part s p k W).2.2.2 i = W i := by
  unfold zq_part at h ⊢
  split at h
  · rename_i q0
    rw [if_pos q0]
    split at h
    · rename_i q1
      rw [if_pos q1]
      split at h
      · rename_i q2
        rw [if_pos q2]
        split
        · exact ⟨by show k ≤ s p - 47; omega, fun i hi => uw_n (by omega)⟩
        · exact ⟨by show k ≤ s p - 47; omega, fun i hi => uw_n (by omega)⟩
      · cases h
    · cases h
  · cases h
theorem zq_loop_w (s : Nat → Nat) (len : Nat) {i : Nat} : ∀ d p k W, i < k → 1 ≤ W i → (zq_loop s len d p k W).1 = true → 1 ≤ (zq_loop s len d p k W).2.2 i
  | 0, p, k, W, _, h, _ => h
  | d + 1, p, k, W, hk, h, e => by
    rw [zq_loop] at e ⊢
    by_cases c : len ≤ p
    · rw [if_pos c]
      exact h
    · rw [if_neg c] at e ⊢
      by_cases q : s p = 44 ∧ k < 10
      · rw [if_pos q] at e ⊢
        cases b : (zq_part s (p + 1) k W).1
        · rw [b, cond_false] at e
          cases e
        · rw [b, cond_true] at e
          rw [cond_true]
          obtain ⟨a1, a2⟩ := zq_part_keep b
          exact zq_loop_w s len d _ _ _ (by omega) (by rw [a2 i hk]; exact h) e
      · rw [if_neg q] at e
        cases e
theorem zq_wants {t : Nat → Nat} {len : Nat} (h : (zq_all (zq_s t len) len).1 = true) : (∀ i, i < 10 → (zq_all (zq_s t len) len).2.2 i ≤ 20) ∧ ∃ i, i < 10 ∧ 1 ≤ (zq_all (zq_s t len) len).2.2 i := by
  obtain ⟨e1, e2⟩ := (zp_all t len).1 h
  constructor
  · have z := zp_run_ok t len 0 0 0 (fun _ => 0) ⟨Nat.zero_le _, Nat.zero_le _, fun x => absurd x (by omega), fun _ _ => Nat.zero_le _⟩ (by rw [e1]; exact (Nat.zero_add len).symm)
    rw [e1] at z
    exact z
  · obtain ⟨l1, l2⟩ := zq_part_le (t := t) (len := len) (p := 0) (k := 0) (W := fun _ => 0) (Nat.zero_le _)
    unfold zq_all at h ⊢
    cases b : (zq_part (zq_s t len) 0 0 (fun _ => 0)).1
    · rw [b, cond_false] at h
      cases h
    · rw [b, cond_true] at h
      rw [cond_true]
      obtain ⟨f1, f2, f3, f4, f5⟩ := zp_partT (t := t) (len := len) (p := 0) (k := 0) (W := fun _ => 0) (Nat.zero_le _) (fun _ _ => rfl) b
      have k10 := (l2 b).2
      exact ⟨(zq_part (zq_s t len) 0 0 (fun _ => 0)).2.2.1 - 1, by omega, zq_loop_w _ len len _ _ _ (by omega) f5 h⟩
