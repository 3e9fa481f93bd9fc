set_option maxHeartbeats 400000
/-! the class: copies of a state, and what is told by doing on one -/
theorem rn_cpy0 {n : Nat} {f g : Nat → Int32} {v : Nat → Nat} (h : rn n f v) : rn n (va_cpy f g 0 0 n) v := fun i hi => by
  unfold va_cpy
  rw [if_pos (by omega), show 0 + (i - 0) = i by omega]
  exact h i hi
section
variable {T L M : Mem} {S : SM} {u : Nat}
theorem zx_copyT (h : T 5 0 = nI (S 1 0) ∧ T 5 1 = wI (S 1 1) ∧ rn 12 (T 6) (S 2) ∧ rn 12 (T 7) (S 3) ∧ rn 12 (T 8) (S 4) ∧ rn 120 (T 9) (S 5)) : ∃ z, fX7_copyFrom T = some z ∧ RT z S := by
  have e1 := zn_cpk (a := 0) (b := 0) (c := 12) (n0 := 12) (n1 := 12) (by omega) (by omega) (by omega) (by omega)
  have e2 := zn_cpk (a := 0) (b := 0) (c := 120) (n0 := 120) (n1 := 120) (by omega) (by omega) (by omega) (by omega)
  unfold fX7_copyFrom
  simp (disch := omega) only [li0, li1, li2, li3, li4, li5, li6, li7, li8, li9, li10, li12, li13, li14, li15, li19, li20, li31, li33, li40, li42, li44, li48, li57, li60, li99, li100, li126, li150, li176, li177, li187, li197, li207, li208, li223, li304, li608, li1520, li1824, nI_add, pk_mul, nI_clamp, nI_leI, nI_ltI, nI_eq, zn_inb, zn_gd, zn_bs, zn_isb, not_true_eq_false, not_false_eq_true, ↓reduceIte, pk_div, pk_sub, zn_rem20, zn_rem2, zn_m1, zn_eqw, zn_weq, zn_weq2, zn_wlt0, zn_wltn, zn_win, zn_wcl, zn_wadd, Nat.not_lt_zero, Nat.one_ne_zero, Nat.zero_ne_one, Nat.le_refl, Nat.zero_le, zn_sel_r, zn_sel_l, show (120 : Int32) = nI 120 from rfl, e1, e2]
  refine ⟨_, rfl, ?_⟩
  exact ⟨h.1, h.2.1, rn_cpy0 h.2.2.1, rn_cpy0 h.2.2.2.1, rn_cpy0 h.2.2.2.2.1, rn_cpy0 h.2.2.2.2.2⟩
theorem zx_copyL_L {a b : Nat → Nat} (ha : rn 8 (L 4) a) (hb : rn 8 (L 5) b) (b2 : ∀ i, i < 8 → b i < 2) {kx : Mem → Option Mem} {Q : Mem → Prop} {c0 : Nat → Int32} (hk : ∀ N, N 0 = c0 → rn 8 (N 1) a → rn 8 (N 2) b → ∃ z, kx N = some z ∧ Q z) : ∀ d j n N, j + d = 8 → d < n → N 0 = c0 → (∀ i, i < j → N 1 i = nI (a i)) → (∀ i, i < j → N 2 i = nI (b i)) → ∃ z, fX2_copyFrom_L42 L n kx N (nI j) = some z ∧ Q z := by
  intro d
  induction d with
  | zero =>
    intro j n N hj hn h0 h1 h2
    obtain ⟨m, rfl⟩ : ∃ m, n = m + 1 := ⟨n - 1, by omega⟩
    have c : 8 ≤ j := by omega
    rw [fX2_copyFrom_L42]
    simp (disch := omega) only [li0, li1, li2, li3, li4, li5, li6, li7, li8, li9, li10, li12, li13, li14, li15, li19, li20, li31, li33, li40, li42, li44, li48, li57, li60, li99, li100, li126, li150, li176, li177, li187, li197, li207, li208, li223, li304, li608, li1520, li1824, nI_add, pk_mul, nI_clamp, nI_leI, nI_ltI, nI_eq, zn_inb, zn_gd, zn_bs, zn_isb, not_true_eq_false, not_false_eq_true, ↓reduceIte, pk_div, pk_sub, zn_rem20, zn_rem2, zn_m1, zn_eqw, zn_weq, zn_weq2, zn_wlt0, zn_wltn, zn_win, zn_wcl, zn_wadd, Nat.not_lt_zero, Nat.one_ne_zero, Nat.zero_ne_one, Nat.le_refl, Nat.zero_le, zn_sel_r, zn_sel_l, c]
    exact hk _ h0 (fun i hi => h1 i (by omega)) (fun i hi => h2 i (by omega))
  | succ d ih =>
    intro j n N hj hn h0 h1 h2
    obtain ⟨m, rfl⟩ : ∃ m, n = m + 1 := ⟨n - 1, by omega⟩
    have c : ¬ 8 ≤ j := by omega
    have e1 := ha j (by omega)
    have e2 := hb j (by omega)
    have b3 := b2 j (by omega)
    rw [fX2_copyFrom_L42]
    simp (disch := omega) only [li0, li1, li2, li3, li4, li5, li6, li7, li8, li9, li10, li12, li13, li14, li15, li19, li20, li31, li33, li40, li42, li44, li48, li57, li60, li99, li100, li126, li150, li176, li177, li187, li197, li207, li208, li223, li304, li608, li1520, li1824, nI_add, pk_mul, nI_clamp, nI_leI, nI_ltI, nI_eq, zn_inb, zn_gd, zn_bs, zn_isb, not_true_eq_false, not_false_eq_true, ↓reduceIte, pk_div, pk_sub, zn_rem20, zn_rem2, zn_m1, zn_eqw, zn_weq, zn_weq2, zn_wlt0, zn_wltn, zn_win, zn_wcl, zn_wadd, Nat.not_lt_zero, Nat.one_ne_zero, Nat.zero_ne_one, Nat.le_refl, Nat.zero_le, zn_sel_r, zn_sel_l, c, e1, e2]
    refine ih (j + 1) m _ (by omega) (by omega) h0 (fun i hi => ?_) (fun i hi => ?_)
    · show upd (N 1) j (nI (a j)) i = _
      by_cases e : i = j
      · rw [e]
        exact up_s _ _ _
      · rw [up_n e]
        exact h1 i (by omega)
    · show upd (N 2) j (nI (b j)) i = _
      by_cases e : i = j
      · rw [e]
        exact up_s _ _ _
      · rw [up_n e]
        exact h2 i (by omega)
theorem zx_copyL (h : (L 3 0 = nI (S 6 0) ∧ L 3 1 = nI (S 6 1) ∧ L 3 2 = nI (S 6 2) ∧ L 3 3 = nI (S 6 3) ∧ L 3 4 = nI (S 6 4)) ∧ rn 8 (L 4) (S 7) ∧ rn 8 (L 5) (S 8)) (k2 : S 6 1 < 2) (b2 : ∀ i, i < 8 → S 8 i < 2) : ∃ z, fX2_copyFrom L = some z ∧ zRL z S := by
  obtain ⟨⟨h0, h1, h2, h3, h4⟩, h5, h6⟩ := h
  unfold fX2_copyFrom
  rw [show isb (L 3 1) = true by rw [h1]; exact zn_isb k2, zn_gd, show (0 : Int32) = nI 0 from rfl]
  refine zx_copyL_L h5 h6 b2 (c0 := upd (upd (upd (upd (upd (L 0) 0 (L 3 0)) 1 (L 3 1)) 2 (L 3 2)) 3 (L 3 3)) 4 (L 3 4)) (fun N e0 e1 e2 => ⟨_, rfl, ?_⟩) 8 0 5000 _ (by omega) (by omega) rfl (fun i hi => absurd hi (by omega)) (fun i hi => absurd hi (by omega))
  refine ⟨⟨?_, ?_, ?_, ?_, ?_⟩, e1, e2⟩
  · show N 0 0 = _
    rw [e0]
    exact h0
  · show N 0 1 = _
    rw [e0]
    exact h1
  · show N 0 2 = _
    rw [e0]
    exact h2
  · show N 0 3 = _
    rw [e0]
    exact h3
  · show N 0 4 = _
    rw [e0]
    exact h4
theorem zx_copyG (h : rn 10 (L 6) (S 10) ∧ rn 10 (L 7) (S 11) ∧ rn 10 (L 8) (S 12) ∧ rn 10 (L 9) (S 13)) : ∃ z, fX0_copyFrom L = some z ∧ rn 10 (z 1) (S 10) ∧ rn 10 (z 2) (S 11) ∧ rn 10 (z 3) (S 12) ∧ rn 10 (z 4) (S 13) := by
  have e1 := zn_cpk (a := 0) (b := 0) (c := 10) (n0 := 10) (n1 := 10) (by omega) (by omega) (by omega) (by omega)
  unfold fX0_copyFrom
  simp (disch := omega) only [li0, li1, li2, li3, li4, li5, li6, li7, li8, li9, li10, li12, li13, li14, li15, li19, li20, li31, li33, li40, li42, li44, li48, li57, li60, li99, li100, li126, li150, li176, li177, li187, li197, li207, li208, li223, li304, li608, li1520, li1824, nI_add, pk_mul, nI_clamp, nI_leI, nI_ltI, nI_eq, zn_inb, zn_gd, zn_bs, zn_isb, not_true_eq_false, not_false_eq_true, ↓reduceIte, pk_div, pk_sub, zn_rem20, zn_rem2, zn_m1, zn_eqw, zn_weq, zn_weq2, zn_wlt0, zn_wltn, zn_win, zn_wcl, zn_wadd, Nat.not_lt_zero, Nat.one_ne_zero, Nat.zero_ne_one, Nat.le_refl, Nat.zero_le, zn_sel_r, zn_sel_l, e1]
  refine ⟨_, rfl, ?_⟩
  exact ⟨rn_cpy0 h.1, rn_cpy0 h.2.1, rn_cpy0 h.2.2.1, rn_cpy0 h.2.2.2⟩
theorem zx_copyB (h : L 2 0 = nI (S 14 0) ∧ rn 80 (L 3) (S 15)) : ∃ z, fX3_copyFrom L = some z ∧ z 0 0 = nI (S 14 0) ∧ rn 80 (z 1) (S 15) := by
  have e1 := zn_cpk (a := 0) (b := 0) (c := 80) (n0 := 80) (n1 := 80) (by omega) (by omega) (by omega) (by omega)
  unfold fX3_copyFrom
  simp (disch := omega) only [li0, li1, li2, li3, li4, li5, li6, li7, li8, li9, li10, li12, li13, li14, li15, li19, li20, li31, li33, li40, li42, li44, li48, li57, li60, li99, li100, li126, li150, li176, li177, li187, li197, li207, li208, li223, li304, li608, li1520, li1824, nI_add, pk_mul, nI_clamp, nI_leI, nI_ltI, nI_eq, zn_inb, zn_gd, zn_bs, zn_isb, not_true_eq_false, not_false_eq_true, ↓reduceIte, pk_div, pk_sub, zn_rem20, zn_rem2, zn_m1, zn_eqw, zn_weq, zn_weq2, zn_wlt0, zn_wltn, zn_win, zn_wcl, zn_wadd, Nat.not_lt_zero, Nat.one_ne_zero, Nat.zero_ne_one, Nat.le_refl, Nat.zero_le, zn_sel_r, zn_sel_l, show (80 : Int32) = nI 80 from rfl, e1]
  refine ⟨_, rfl, ?_⟩
  exact ⟨h.1, rn_cpy0 h.2⟩
theorem zx_copyFrom (h : RX (ofs 16 M) S) (k2 : S 6 1 < 2) (b2 : ∀ i, i < 8 → S 8 i < 2) : ∃ z, fX6_copyFrom M = some z ∧ RX z S := by
  unfold fX6_copyFrom
  refine zn_bk0 (zx_copyT (S := S) h.1) (fun z1 h1 => ?_)
  refine zn_bk0 (zx_copyL (S := S) ⟨⟨h.2.1.1, h.2.1.2.1, h.2.1.2.2.1, h.2.1.2.2.2.1, h.2.1.2.2.2.2.1⟩, h.r7, h.r8⟩ k2 b2) (fun z2 h2 => ?_)
  refine zn_bk0 (zx_copyG (S := S) ⟨h.r10, h.r11, h.r12, h.r13⟩) (fun z3 h3 => ?_)
  refine zn_bk0 (zx_copyB (S := S) ⟨h.2.1.2.2.2.2.2.2, h.r15⟩) (fun z4 h4 => ?_)
  refine ⟨_, rfl, ?_⟩
  exact ⟨h1, ⟨h2.1.1, h2.1.2.1, h2.1.2.2.1, h2.1.2.2.2.1, h2.1.2.2.2.2, h.2.1.2.2.2.2.2.1, h4.1⟩, h2.2.1, h2.2.2, h3.1, h3.2.1, h3.2.2.1, h3.2.2.2, h4.2⟩
/-! what is told by serving a copy -/
end

