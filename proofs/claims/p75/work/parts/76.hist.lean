set_option maxHeartbeats 400000
/-! the saved states, the snapshots, the beginning -/
def zs_0 : SM := fun j i => if j = 10 then 1 else if j = 6 ∧ i = 1 then 1 else 0
theorem zx_init0_L {kx : Mem → Option Mem} {Q : Mem → Prop} (hk : ∀ N, rn 10 (N 1) (fun _ => 1) → rn 10 (N 2) (fun _ => 0) → rn 10 (N 3) (fun _ => 0) → rn 10 (N 4) (fun _ => 0) → ∃ z, kx N = some z ∧ Q z) (M : Mem) : ∀ d j n N, j + d = 10 → d < n → (∀ i, i < j → N 1 i = nI 1) → rn 10 (N 2) (fun _ => 0) → rn 10 (N 3) (fun _ => 0) → rn 10 (N 4) (fun _ => 0) → ∃ z, fX0_init_L38 M n kx N (nI j) = some z ∧ Q z := by
  intro d
  induction d with
  | zero =>
    intro j n N hj hn h1 h2 h3 h4
    obtain ⟨m, rfl⟩ : ∃ m, n = m + 1 := ⟨n - 1, by omega⟩
    have c : 10 ≤ j := by omega
    rw [fX0_init_L38]
    simp (disch := omega) only [li0, li1, li2, li3, li4, li5, li6, li7, li8, li9, li10, li12, li13, li14, li15, li19, li20, li31, li33, li40, li42, li44, li48, li57, li60, li99, li100, li126, li150, li176, li177, li187, li197, li207, li208, li223, li304, li608, li1520, li1824, nI_add, pk_mul, nI_clamp, nI_leI, nI_ltI, nI_eq, zn_inb, zn_gd, zn_bs, zn_isb, not_true_eq_false, not_false_eq_true, ↓reduceIte, pk_div, pk_sub, zn_rem20, zn_rem2, zn_m1, zn_eqw, zn_weq, zn_weq2, zn_wlt0, zn_wltn, zn_win, zn_wcl, zn_wadd, Nat.not_lt_zero, Nat.one_ne_zero, Nat.zero_ne_one, Nat.le_refl, Nat.zero_le, zn_sel_r, zn_sel_l, c]
    exact hk _ (fun i hi => h1 i (by omega)) h2 h3 h4
  | succ d ih =>
    intro j n N hj hn h1 h2 h3 h4
    obtain ⟨m, rfl⟩ : ∃ m, n = m + 1 := ⟨n - 1, by omega⟩
    have c : ¬ 10 ≤ j := by omega
    rw [fX0_init_L38]
    simp (disch := omega) only [li0, li1, li2, li3, li4, li5, li6, li7, li8, li9, li10, li12, li13, li14, li15, li19, li20, li31, li33, li40, li42, li44, li48, li57, li60, li99, li100, li126, li150, li176, li177, li187, li197, li207, li208, li223, li304, li608, li1520, li1824, nI_add, pk_mul, nI_clamp, nI_leI, nI_ltI, nI_eq, zn_inb, zn_gd, zn_bs, zn_isb, not_true_eq_false, not_false_eq_true, ↓reduceIte, pk_div, pk_sub, zn_rem20, zn_rem2, zn_m1, zn_eqw, zn_weq, zn_weq2, zn_wlt0, zn_wltn, zn_win, zn_wcl, zn_wadd, Nat.not_lt_zero, Nat.one_ne_zero, Nat.zero_ne_one, Nat.le_refl, Nat.zero_le, zn_sel_r, zn_sel_l, c]
    refine ih (j + 1) m _ (by omega) (by omega) (fun i hi => ?_) h2 h3 h4
    show upd (N 1) j (nI 1) i = _
    by_cases e : i = j
    · rw [e]
      exact up_s _ _ _
    · rw [up_n e]
      exact h1 i (by omega)
theorem zx_init0 : ∃ z, fX0_init = some z ∧ rn 10 (z 1) (fun _ => 1) ∧ rn 10 (z 2) (fun _ => 0) ∧ rn 10 (z 3) (fun _ => 0) ∧ rn 10 (z 4) (fun _ => 0) := by
  unfold fX0_init
  exact zx_init0_L (fun N h1 h2 h3 h4 => ⟨_, rfl, h1, h2, h3, h4⟩) m00 10 0 5000 m00 (by omega) (by omega) (fun i hi => absurd hi (by omega)) (fun _ _ => rfl) (fun _ _ => rfl) (fun _ _ => rfl)
theorem zx_init6 : ∃ z, fX6_init = some z ∧ RX z zs_0 := by
  obtain ⟨y, e, h1, h2, h3, h4⟩ := zx_init0
  unfold fX6_init fX7_init fX2_init fX3_init
  simp only [zn_bs, e]
  refine ⟨_, rfl, ?_⟩
  exact ⟨⟨rfl, rfl, fun _ _ => rfl, fun _ _ => rfl, fun _ _ => rfl, fun _ _ => rfl⟩, ⟨rfl, rfl, rfl, rfl, rfl, rfl, rfl⟩, fun _ _ => rfl, fun _ _ => rfl, h1, h2, h3, h4, fun _ _ => rfl⟩
def zh_n (hc : Nat) : Nat := if hc < 6 then hc + 1 else 6
def zh_T (hc : Nat) (T : Nat → SM) (S : SM) : Nat → SM := if hc < 6 then fun i => if i = hc then S else T i else fun i => if i = 5 then S else T (i + 1)
section
variable {C : Nat → Option Mem} {P K : Mem} {S : SM} {T : Nat → SM} {hc u : Nat}
theorem zx_hold (o : Option Mem) : ∃ z, hold o = some z := by
  cases o with
  | none =>
    obtain ⟨z, e, -⟩ := zx_init6
    exact ⟨z, e⟩
  | some N => exact ⟨N, rfl⟩
theorem zx_put (hk : hc < 6) (h0 : P 0 0 = nI hc) (h : RX (ofs 3 P) S) (k2 : S 6 1 < 2) (b2 : ∀ i, i < 8 → S 8 i < 2) : ∃ q r, fX1_put C P = some q ∧ q = (sr P 0 (upd (P 0) 0 (nI (hc + 1))), va_up C hc (some r)) ∧ RX r S := by
  obtain ⟨N, e⟩ := zx_hold (C hc)
  obtain ⟨r, e2, hr⟩ := zx_copyFrom (M := jn16 N (ofs 3 P)) (S := S) h k2 b2
  refine ⟨_, r, ?_, rfl, hr⟩
  unfold fX1_put
  simp (disch := omega) only [li0, li1, li2, li3, li4, li5, li6, li7, li8, li9, li10, li12, li13, li14, li15, li19, li20, li31, li33, li40, li42, li44, li48, li57, li60, li99, li100, li126, li150, li176, li177, li187, li197, li207, li208, li223, li304, li608, li1520, li1824, nI_add, pk_mul, nI_clamp, nI_leI, nI_ltI, nI_eq, zn_inb, zn_gd, zn_bs, zn_isb, not_true_eq_false, not_false_eq_true, ↓reduceIte, pk_div, pk_sub, zn_rem20, zn_rem2, zn_m1, zn_eqw, zn_weq, zn_weq2, zn_wlt0, zn_wltn, zn_win, zn_wcl, zn_wadd, Nat.not_lt_zero, Nat.one_ne_zero, Nat.zero_ne_one, Nat.le_refl, Nat.zero_le, zn_sel_r, zn_sel_l, h0, e, e2]
theorem zx_save (h6 : hc ≤ 6) (h0 : P 0 0 = nI hc) (h : RX (ofs 3 P) S) (k2 : S 6 1 < 2) (b2 : ∀ i, i < 8 → S 8 i < 2) (hC : ∀ i, i < hc → ∃ N, C i = some N ∧ RX N (T i)) : ∃ q, fX1_save C P = some q ∧ q.1 0 0 = nI (zh_n hc) ∧ (∀ i, i < zh_n hc → ∃ N, q.2 i = some N ∧ RX N (zh_T hc T S i)) ∧ (∀ i, q.2 (6 + i) = C (6 + i)) := by
  unfold fX1_save zh_n zh_T
  rw [h0]
  by_cases c : hc < 6
  · obtain ⟨q, r, e, rfl, hr⟩ := zx_put (C := C) c h0 h k2 b2
    simp only [if_pos c]
    rw [if_pos (show nI hc < 6 from nI_lt (b := 6) c (by omega))]
    refine ⟨_, e, rfl, fun i hi => ?_, fun i => ?_⟩
    · by_cases q : i = hc
      · subst q
        refine ⟨r, ?_, ?_⟩
        · exact if_pos rfl
        · rw [if_pos rfl]
          exact hr
      · obtain ⟨N, h1, h2⟩ := hC i (by omega)
        refine ⟨N, ?_, ?_⟩
        · exact (if_neg q).trans h1
        · rw [if_neg q]
          exact h2
    · exact if_neg (by omega)
  · obtain ⟨q, r, e, rfl, hr⟩ := zx_put (C := rot C) (P := sr P 0 (upd (P 0) 0 5)) (hc := 5) (by omega) rfl (S := S) h k2 b2
    simp only [if_neg c]
    rw [if_neg (show ¬ nI hc < 6 from nI_nlt (show 6 ≤ hc by omega) (by omega))]
    refine ⟨_, e, rfl, fun i hi => ?_, fun i => ?_⟩
    · by_cases q : i = 5
      · subst q
        refine ⟨r, ?_, ?_⟩
        · exact (show va_up (rot C) 5 (some r) 5 = some r from if_pos rfl)
        · rw [if_pos rfl]
          exact hr
      · obtain ⟨N, h1, h2⟩ := hC (i + 1) (by omega)
        refine ⟨N, ?_, ?_⟩
        · refine (if_neg q).trans ?_
          unfold rot
          rw [if_pos (by omega)]
          exact h1
        · rw [if_neg q]
          exact h2
    · refine (if_neg (by omega)).trans ?_
      unfold rot
      rw [if_neg (by omega), if_neg (by omega)]
/-! back to a saved state, to a snapshot; a snapshot taken -/
end

