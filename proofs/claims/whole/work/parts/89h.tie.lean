set_option maxHeartbeats 400000
/-! the two readings agree -/
def zr_nf (len p : Nat) (r : Nat × Nat × (Nat → Nat)) : Prop := r.1 = p ∧ ¬ (r.1 = len ∧ r.2.1 = 3)
section
variable {t : Nat → Nat} {len p k : Nat} {W : Nat → Nat}
theorem zq_s_in (h : p < len) : zq_s t len p = t p := if_pos h
theorem zq_s_out (h : ¬ p < len) : zq_s t len p = 0 := if_neg h
theorem zp_run_t {st d : Nat} (h : (zp_step st k W (t p)).1 = true) : zp_run t (d + 1) p st k W = zp_run t d (p + 1) (zp_step st k W (t p)).2.1 (zp_step st k W (t p)).2.2.1 (zp_step st k W (t p)).2.2.2 := by
  rw [zp_run, h, cond_true]
theorem zp_run_f {st d : Nat} (h : (zp_step st k W (t p)).1 = false) : zp_run t (d + 1) p st k W = (p, (zp_step st k W (t p)).2.1, (zp_step st k W (t p)).2.2.2) := by
  rw [zp_run, h, cond_false]
theorem zp_R0 (hp : p ≤ len) (q : 48 + k ≤ zq_s t len p ∧ zq_s t len p ≤ 57) : zp_run t (len - p) p 0 k W = zp_run t (len - (p + 1)) (p + 1) 1 (zq_s t len p - 47) W := by
  have hl := zq_s_pos (t := t) (len := len) (q := p) (by omega)
  rw [zq_s_in hl] at q ⊢
  have e : zp_step 0 k W (t p) = (true, 1, t p - 47, W) := by
    unfold zp_step
    rw [if_pos rfl, if_pos (by omega)]
  obtain ⟨d, hd⟩ : ∃ d, len - p = d + 1 := ⟨len - p - 1, by omega⟩
  rw [hd, zp_run_t (by rw [e]), e, show len - (p + 1) = d by omega]
theorem zp_R0n (hp : p ≤ len) (q : ¬ (48 + k ≤ zq_s t len p ∧ zq_s t len p ≤ 57)) : zr_nf len p (zp_run t (len - p) p 0 k W) := by
  by_cases hl : p < len
  · rw [zq_s_in hl] at q
    have e : zp_step 0 k W (t p) = (false, 0, k, W) := by
      unfold zp_step
      rw [if_pos rfl, if_neg (by omega)]
    obtain ⟨d, hd⟩ : ∃ d, len - p = d + 1 := ⟨len - p - 1, by omega⟩
    rw [hd, zp_run_f (by rw [e]), e]
    exact ⟨rfl, fun a => by have := a.2; cases this⟩
  · rw [show len - p = 0 by omega]
    exact ⟨rfl, fun a => by have := a.2; cases this⟩
theorem zp_R1 (hp : p ≤ len) (q : zq_s t len p = 42) : zp_run t (len - p) p 1 k W = zp_run t (len - (p + 1)) (p + 1) 2 k W := by
  have hl := zq_s_pos (t := t) (len := len) (q := p) (by omega)
  rw [zq_s_in hl] at q
  have e : zp_step 1 k W (t p) = (true, 2, k, W) := by
    unfold zp_step
    rw [if_neg (by decide), if_pos rfl, decide_eq_true q]
  obtain ⟨d, hd⟩ : ∃ d, len - p = d + 1 := ⟨len - p - 1, by omega⟩
  rw [hd, zp_run_t (by rw [e]), e, show len - (p + 1) = d by omega]
theorem zp_R1n (hp : p ≤ len) (q : ¬ zq_s t len p = 42) : zr_nf len p (zp_run t (len - p) p 1 k W) := by
  by_cases hl : p < len
  · rw [zq_s_in hl] at q
    have e : zp_step 1 k W (t p) = (false, 2, k, W) := by
      unfold zp_step
      rw [if_neg (by decide), if_pos rfl, decide_eq_false q]
    obtain ⟨d, hd⟩ : ∃ d, len - p = d + 1 := ⟨len - p - 1, by omega⟩
    rw [hd, zp_run_f (by rw [e]), e]
    exact ⟨rfl, fun a => by have := a.2; cases this⟩
  · rw [show len - p = 0 by omega]
    exact ⟨rfl, fun a => by have := a.2; cases this⟩
theorem zp_R2 (hp : p ≤ len) (hw : W (k - 1) = 0) (q : 49 ≤ zq_s t len p ∧ zq_s t len p ≤ 57) : zp_run t (len - p) p 2 k W = zp_run t (len - (p + 1)) (p + 1) 3 k (uw W (k - 1) (zq_s t len p - 48)) := by
  have hl := zq_s_pos (t := t) (len := len) (q := p) (by omega)
  rw [zq_s_in hl] at q ⊢
  have e : zp_step 2 k W (t p) = (true, 3, k, uw W (k - 1) (t p - 48)) := by
    unfold zp_step zp_put
    rw [if_neg (by decide), if_neg (by decide), if_pos rfl, if_neg (by omega), if_pos (by omega), hw, Nat.zero_mul, Nat.zero_add, decide_eq_true (by omega)]
  obtain ⟨d, hd⟩ : ∃ d, len - p = d + 1 := ⟨len - p - 1, by omega⟩
  rw [hd, zp_run_t (by rw [e]), e, show len - (p + 1) = d by omega]
theorem zp_R2n (hp : p ≤ len) (q : ¬ (49 ≤ zq_s t len p ∧ zq_s t len p ≤ 57)) : zr_nf len p (zp_run t (len - p) p 2 k W) := by
  by_cases hl : p < len
  · rw [zq_s_in hl] at q
    have e : (zp_step 2 k W (t p)).1 = false := by
      unfold zp_step zp_put
      rw [if_neg (by decide), if_neg (by decide), if_pos rfl]
      by_cases c : t p = 48
      · rw [if_pos c]
      · rw [if_neg c, if_neg (by omega)]
    obtain ⟨d, hd⟩ : ∃ d, len - p = d + 1 := ⟨len - p - 1, by omega⟩
    rw [hd, zp_run_f e]
    exact ⟨rfl, fun a => by have : p = len := a.1; omega⟩
  · rw [show len - p = 0 by omega]
    exact ⟨rfl, fun a => by have := a.2; cases this⟩
theorem zp_R3d (hp : p ≤ len) (q : 48 ≤ zq_s t len p ∧ zq_s t len p ≤ 57) (v : W (k - 1) * 10 + (zq_s t len p - 48) ≤ 20) : zp_run t (len - p) p 3 k W = zp_run t (len - (p + 1)) (p + 1) 3 k (uw W (k - 1) (W (k - 1) * 10 + (zq_s t len p - 48))) := by
  have hl := zq_s_pos (t := t) (len := len) (q := p) (by omega)
  rw [zq_s_in hl] at q v ⊢
  have e : zp_step 3 k W (t p) = (true, 3, k, uw W (k - 1) (W (k - 1) * 10 + (t p - 48))) := by
    unfold zp_step zp_put
    rw [if_neg (by decide), if_neg (by decide), if_neg (by decide), if_neg (by omega), if_pos q, decide_eq_true v]
  obtain ⟨d, hd⟩ : ∃ d, len - p = d + 1 := ⟨len - p - 1, by omega⟩
  rw [hd, zp_run_t (by rw [e]), e, show len - (p + 1) = d by omega]
theorem zp_R3c (hp : p ≤ len) (q : zq_s t len p = 44) (hk : k < 10) : zp_run t (len - p) p 3 k W = zp_run t (len - (p + 1)) (p + 1) 0 k W := by
  have hl := zq_s_pos (t := t) (len := len) (q := p) (by omega)
  rw [zq_s_in hl] at q
  have e : zp_step 3 k W (t p) = (true, 0, k, W) := by
    unfold zp_step
    rw [if_neg (by decide), if_neg (by decide), if_neg (by decide), if_pos q, decide_eq_true hk]
  obtain ⟨d, hd⟩ : ∃ d, len - p = d + 1 := ⟨len - p - 1, by omega⟩
  rw [hd, zp_run_t (by rw [e]), e, show len - (p + 1) = d by omega]
theorem zp_R3n (hp : p < len) (q : ¬ (zq_s t len p = 44 ∧ k < 10)) (cl : 48 ≤ zq_s t len p → zq_s t len p ≤ 57 → 20 < W (k - 1) * 10 + (zq_s t len p - 48)) : zr_nf len p (zp_run t (len - p) p 3 k W) := by
  rw [zq_s_in hp] at q cl
  have e : (zp_step 3 k W (t p)).1 = false := by
    unfold zp_step zp_put
    rw [if_neg (by decide), if_neg (by decide), if_neg (by decide)]
    by_cases c : t p = 44
    · rw [if_pos c]
      exact decide_eq_false (fun a => q ⟨c, a⟩)
    · rw [if_neg c]
      by_cases x : 48 ≤ t p ∧ t p ≤ 57
      · rw [if_pos x]
        have := cl x.1 x.2
        exact decide_eq_false (by omega)
      · rw [if_neg x]
  obtain ⟨d, hd⟩ : ∃ d, len - p = d + 1 := ⟨len - p - 1, by omega⟩
  rw [hd, zp_run_f e]
  exact ⟨rfl, fun a => by have : p = len := a.1; omega⟩
end
