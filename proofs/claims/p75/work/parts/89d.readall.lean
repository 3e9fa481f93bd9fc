set_option maxHeartbeats 400000
/-! the order's text, all of it read by the class -/
section
variable {M : Mem}
theorem zx_readAll_L {len : Nat} (hl : len ≤ 60) {t : Nat → Nat} (h0 : M 0 0 = nI len) (ht : ∀ i, i < len → M 1 i = nI (t i) ∧ t i ≤ 126) : ∀ d p n (N : Mem) st k W, p + d = len → d < n → N 2 0 = nI st → N 2 1 = wI k → rn 10 (N 3) W → zp_ok st k W → ∃ z, fX5_readAll_L9 M n (fun (N : Mem) (l1 : Int32) => some (l1, (sr (sr M 2 (N 2)) 3 (N 3)))) (fun (N : Mem) => some ((M 0 0), (sr (sr M 2 (N 2)) 3 (N 3)))) N (nI p) = some (nI (zp_run t d p st k W).1, z) ∧ z 2 0 = nI (zp_run t d p st k W).2.1 ∧ rn 10 (z 3) (zp_run t d p st k W).2.2 := by
  intro d
  induction d with
  | zero =>
    intro p n N st k W hp hn n0 n1 n3 ok
    obtain ⟨m, rfl⟩ : ∃ m, n = m + 1 := ⟨n - 1, by omega⟩
    obtain rfl : p = len := by omega
    rw [fX5_readAll_L9]
    simp (disch := omega) only [li0, li1, li2, li3, li4, li5, li6, li7, li8, li9, li10, li12, li13, li14, li15, li19, li20, li31, li33, li40, li42, li44, li48, li57, li60, li99, li100, li126, li150, li176, li177, li187, li197, li207, li208, li223, li304, li608, li1520, li1824, nI_add, pk_mul, nI_clamp, nI_leI, nI_ltI, nI_eq, zn_inb, zn_gd, zn_bs, zn_isb, not_true_eq_false, not_false_eq_true, ↓reduceIte, pk_div, pk_sub, zn_rem20, zn_rem2, zn_m1, zn_eqw, zn_weq, zn_weq2, zn_wlt0, zn_wltn, zn_win, zn_wcl, zn_wadd, Nat.not_lt_zero, Nat.one_ne_zero, Nat.zero_ne_one, Nat.le_refl, Nat.zero_le, zn_sel_r, zn_sel_l, h0]
    exact ⟨_, rfl, n0, n3⟩
  | succ d ih =>
    intro p n N st k W hp hn n0 n1 n3 ok
    obtain ⟨m, rfl⟩ : ∃ m, n = m + 1 := ⟨n - 1, by omega⟩
    have c : ¬ len ≤ p := by omega
    obtain ⟨e1, e2⟩ := ht p (by omega)
    obtain ⟨z, e3, e4, e5, e6⟩ := zx_read (T := ofs 2 (sr (sr M 2 (N 2)) 3 (N 3))) (W := W) (st := st) (k := k) (c := t p) ok e2 n0 n1 n3
    rw [fX5_readAll_L9, zp_run]
    cases b : (zp_step st k W (t p)).1
    · rw [b, cond_false] at e3
      simp (disch := omega) only [li0, li1, li2, li3, li4, li5, li6, li7, li8, li9, li10, li12, li13, li14, li15, li19, li20, li31, li33, li40, li42, li44, li48, li57, li60, li99, li100, li126, li150, li176, li177, li187, li197, li207, li208, li223, li304, li608, li1520, li1824, nI_add, pk_mul, nI_clamp, nI_leI, nI_ltI, nI_eq, zn_inb, zn_gd, zn_bs, zn_isb, not_true_eq_false, not_false_eq_true, ↓reduceIte, pk_div, pk_sub, zn_rem20, zn_rem2, zn_m1, zn_eqw, zn_weq, zn_weq2, zn_wlt0, zn_wltn, zn_win, zn_wcl, zn_wadd, Nat.not_lt_zero, Nat.one_ne_zero, Nat.zero_ne_one, Nat.le_refl, Nat.zero_le, zn_sel_r, zn_sel_l, h0, c, e1, e3, cond_false]
      exact ⟨_, rfl, e4, e6⟩
    · rw [b, cond_true] at e3
      simp (disch := omega) only [li0, li1, li2, li3, li4, li5, li6, li7, li8, li9, li10, li12, li13, li14, li15, li19, li20, li31, li33, li40, li42, li44, li48, li57, li60, li99, li100, li126, li150, li176, li177, li187, li197, li207, li208, li223, li304, li608, li1520, li1824, nI_add, pk_mul, nI_clamp, nI_leI, nI_ltI, nI_eq, zn_inb, zn_gd, zn_bs, zn_isb, not_true_eq_false, not_false_eq_true, ↓reduceIte, pk_div, pk_sub, zn_rem20, zn_rem2, zn_m1, zn_eqw, zn_weq, zn_weq2, zn_wlt0, zn_wltn, zn_win, zn_wcl, zn_wadd, Nat.not_lt_zero, Nat.one_ne_zero, Nat.zero_ne_one, Nat.le_refl, Nat.zero_le, zn_sel_r, zn_sel_l, h0, c, e1, e3, cond_true]
      have ih1 := ih (p + 1) m (sr (sr M 2 (z 0)) 3 (z 1)) _ _ _ (by omega) (by omega) e4 e5 e6 (zp_step_ok ok b)
      simp only [h0] at ih1
      exact ih1
theorem zx_readAll {len : Nat} (hl : len ≤ 60) {t : Nat → Nat} (h0 : M 0 0 = nI len) (ht : ∀ i, i < len → M 1 i = nI (t i) ∧ t i ≤ 126) : ∃ z, fX5_readAll M = some (nI (zp_run t len 0 0 0 (fun _ => 0)).1, z) ∧ z 2 0 = nI (zp_run t len 0 0 0 (fun _ => 0)).2.1 ∧ rn 10 (z 3) (zp_run t len 0 0 0 (fun _ => 0)).2.2 := by
  obtain ⟨z, e1, e2, e3, e4⟩ := zx_begin (ofs 2 M)
  unfold fX5_readAll
  rw [e1, zn_bs]
  exact zx_readAll_L hl h0 ht len 0 5000 (sr (sr M 2 (z 0)) 3 (z 1)) 0 0 (fun _ => 0) (by omega) (by omega) e2 e3 (fun i hi => e4 i hi) ⟨Nat.zero_le _, Nat.zero_le _, fun x => absurd x (by omega), fun _ _ => Nat.zero_le _⟩
theorem zp_run_le (t : Nat → Nat) : ∀ d p st k W, (zp_run t d p st k W).1 ≤ p + d
  | 0, p, st, k, W => Nat.le_refl _
  | d + 1, p, st, k, W => by
    rw [zp_run]
    cases b : (zp_step st k W (t p)).1
    · rw [cond_false]
      show p ≤ _
      omega
    · rw [cond_true]
      have := zp_run_le t d (p + 1) (zp_step st k W (t p)).2.1 (zp_step st k W (t p)).2.2.1 (zp_step st k W (t p)).2.2.2
      omega
theorem zp_run_st (t : Nat → Nat) : ∀ d p st k W, st ≤ 3 → (zp_run t d p st k W).2.1 ≤ 3
  | 0, p, st, k, W, h => h
  | d + 1, p, st, k, W, h => by
    have h2 : (zp_step st k W (t p)).2.1 ≤ 3 := by
      unfold zp_step
      split
      · split
        · show 1 ≤ 3
          omega
        · exact Nat.zero_le _
      · split
        · show 2 ≤ 3
          omega
        · split
          · split
            · exact Nat.le_refl 3
            · exact Nat.le_refl 3
          · split
            · exact Nat.zero_le _
            · exact Nat.le_refl 3
    rw [zp_run]
    cases b : (zp_step st k W (t p)).1
    · rw [cond_false]
      exact h2
    · rw [cond_true]
      exact zp_run_st t d (p + 1) _ _ _ h2
/-- the class's answer: is it an order -/
theorem zx_isOrder {len : Nat} (hl : len ≤ 60) {t : Nat → Nat} (h0 : M 0 0 = nI len) (ht : ∀ i, i < len → M 1 i = nI (t i) ∧ t i ≤ 126) : ∃ z, fX5_isOrder M = some (nI (if (zp_run t len 0 0 0 (fun _ => 0)).1 = len ∧ (zp_run t len 0 0 0 (fun _ => 0)).2.1 = 3 then 1 else 0), z) ∧ rn 10 (z 3) (zp_run t len 0 0 0 (fun _ => 0)).2.2 := by
  obtain ⟨z, e1, e2, e3⟩ := zx_readAll hl h0 ht
  have b1 := zp_run_le t len 0 0 0 (fun _ => 0)
  have b2 := zp_run_st t len 0 0 0 (fun _ => 0) (by omega)
  revert e1 e2 e3 b1 b2
  generalize zp_run t len 0 0 0 (fun _ => 0) = r
  obtain ⟨p, st, W⟩ := r
  intro e1 e2 e3 b1 b2
  have e1 : fX5_readAll M = some (nI p, z) := e1
  have e2 : z 2 0 = nI st := e2
  have b1 : p ≤ 0 + len := b1
  have b2 : st ≤ 3 := b2
  unfold fX5_isOrder fX5_isOrder_B25 fX5_isOrder_B26
  show ∃ z : Mem, _ = some (nI (if p = len ∧ st = 3 then 1 else 0), z) ∧ rn 10 (z 3) W
  by_cases c : p = len
  · by_cases d : st = 3
    · have ea : fX4_isAtEnd (ofs 2 (sr (sr M 2 (z 2)) 3 (z 3))) = some (nI 1) := by
        have e0 : ofs 2 (sr (sr M 2 (z 2)) 3 (z 3)) 0 0 = nI 3 := (show z 2 0 = nI 3 from e2.trans (congrArg nI d))
        unfold fX4_isAtEnd fX4_isAtEnd_B13
        simp (disch := omega) only [li0, li1, li2, li3, li4, li5, li6, li7, li8, li9, li10, li12, li13, li14, li15, li19, li20, li31, li33, li40, li42, li44, li48, li57, li60, li99, li100, li126, li150, li176, li177, li187, li197, li207, li208, li223, li304, li608, li1520, li1824, nI_add, pk_mul, nI_clamp, nI_leI, nI_ltI, nI_eq, zn_inb, zn_gd, zn_bs, zn_isb, not_true_eq_false, not_false_eq_true, ↓reduceIte, pk_div, pk_sub, zn_rem20, zn_rem2, zn_m1, zn_eqw, zn_weq, zn_weq2, zn_wlt0, zn_wltn, zn_win, zn_wcl, zn_wadd, Nat.not_lt_zero, Nat.one_ne_zero, Nat.zero_ne_one, Nat.le_refl, Nat.zero_le, zn_sel_r, zn_sel_l, e0]
      rw [if_pos ⟨c, d⟩]
      simp (disch := omega) only [li0, li1, li2, li3, li4, li5, li6, li7, li8, li9, li10, li12, li13, li14, li15, li19, li20, li31, li33, li40, li42, li44, li48, li57, li60, li99, li100, li126, li150, li176, li177, li187, li197, li207, li208, li223, li304, li608, li1520, li1824, nI_add, pk_mul, nI_clamp, nI_leI, nI_ltI, nI_eq, zn_inb, zn_gd, zn_bs, zn_isb, not_true_eq_false, not_false_eq_true, ↓reduceIte, pk_div, pk_sub, zn_rem20, zn_rem2, zn_m1, zn_eqw, zn_weq, zn_weq2, zn_wlt0, zn_wltn, zn_win, zn_wcl, zn_wadd, Nat.not_lt_zero, Nat.one_ne_zero, Nat.zero_ne_one, Nat.le_refl, Nat.zero_le, zn_sel_r, zn_sel_l, e1, h0, c, ea]
      exact ⟨_, rfl, e3⟩
    · have ea : fX4_isAtEnd (ofs 2 (sr (sr M 2 (z 2)) 3 (z 3))) = some (nI 0) := by
        have e0 : ofs 2 (sr (sr M 2 (z 2)) 3 (z 3)) 0 0 = nI st := e2
        unfold fX4_isAtEnd fX4_isAtEnd_B13
        simp (disch := omega) only [li0, li1, li2, li3, li4, li5, li6, li7, li8, li9, li10, li12, li13, li14, li15, li19, li20, li31, li33, li40, li42, li44, li48, li57, li60, li99, li100, li126, li150, li176, li177, li187, li197, li207, li208, li223, li304, li608, li1520, li1824, nI_add, pk_mul, nI_clamp, nI_leI, nI_ltI, nI_eq, zn_inb, zn_gd, zn_bs, zn_isb, not_true_eq_false, not_false_eq_true, ↓reduceIte, pk_div, pk_sub, zn_rem20, zn_rem2, zn_m1, zn_eqw, zn_weq, zn_weq2, zn_wlt0, zn_wltn, zn_win, zn_wcl, zn_wadd, Nat.not_lt_zero, Nat.one_ne_zero, Nat.zero_ne_one, Nat.le_refl, Nat.zero_le, zn_sel_r, zn_sel_l, e0, d]
      rw [if_neg (fun a => d a.2)]
      simp (disch := omega) only [li0, li1, li2, li3, li4, li5, li6, li7, li8, li9, li10, li12, li13, li14, li15, li19, li20, li31, li33, li40, li42, li44, li48, li57, li60, li99, li100, li126, li150, li176, li177, li187, li197, li207, li208, li223, li304, li608, li1520, li1824, nI_add, pk_mul, nI_clamp, nI_leI, nI_ltI, nI_eq, zn_inb, zn_gd, zn_bs, zn_isb, not_true_eq_false, not_false_eq_true, ↓reduceIte, pk_div, pk_sub, zn_rem20, zn_rem2, zn_m1, zn_eqw, zn_weq, zn_weq2, zn_wlt0, zn_wltn, zn_win, zn_wcl, zn_wadd, Nat.not_lt_zero, Nat.one_ne_zero, Nat.zero_ne_one, Nat.le_refl, Nat.zero_le, zn_sel_r, zn_sel_l, e1, h0, c, ea]
      exact ⟨_, rfl, e3⟩
  · rw [if_neg (fun a => c a.1)]
    simp (disch := omega) only [li0, li1, li2, li3, li4, li5, li6, li7, li8, li9, li10, li12, li13, li14, li15, li19, li20, li31, li33, li40, li42, li44, li48, li57, li60, li99, li100, li126, li150, li176, li177, li187, li197, li207, li208, li223, li304, li608, li1520, li1824, nI_add, pk_mul, nI_clamp, nI_leI, nI_ltI, nI_eq, zn_inb, zn_gd, zn_bs, zn_isb, not_true_eq_false, not_false_eq_true, ↓reduceIte, pk_div, pk_sub, zn_rem20, zn_rem2, zn_m1, zn_eqw, zn_weq, zn_weq2, zn_wlt0, zn_wltn, zn_win, zn_wcl, zn_wadd, Nat.not_lt_zero, Nat.one_ne_zero, Nat.zero_ne_one, Nat.le_refl, Nat.zero_le, zn_sel_r, zn_sel_l, e1, h0, c]
    exact ⟨_, rfl, e3⟩
end

