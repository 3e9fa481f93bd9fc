set_option maxHeartbeats 400000
/-! the class: copies of a state, and what is told by doing on one -/
theorem rn_cpy0 {n : Nat} {f g : Nat → Int32} {v : Nat → Nat} (h : rn n f v) : rn n (va_cpy f g 0 0 n) v := fun i hi => by
  unfold va_cpy
  rw [if_pos (by omega), show 0 + (i - 0) = i by omega]
  exact h i hi
section
variable {T L M : Mem} {S : SM} {u : Nat}
theorem zx_copyT (h : T 5 0 = nI (S 1 0) ∧ T 5 1 = wI (S 1 1) ∧ rn 12 (T 6) (S 2) ∧ rn 12 (T 7) (S 3) ∧ rn 12 (T 8) (S 4) ∧ rn 120 (T 9) (S 5)) : ∃ z, fX7_copyFrom T = some z ∧ RT z S := by
  have e1 := zn_cpk (a := 0) (b := 0) (c := 12) (n0 := 12) (n1 := 12) (by omega) (by omega) (by omega) (by omega)
  have e2 := zn_cpk (a := 0) (b := 0) (c := 120) (n0 := 120) (n1 := 120) (by omega) (by omega) (by omega) (by omega)
  unfold fX7_copyFrom
  simp (disch := omega) only [li0, li1, li2, li3, li4, li5, li6, li7, li8, li9, li10, li12, li13, li14, li15, li19, li20, li31, li33, li40, li42, li44, li48, li57, li60, li99, li100, li126, li150, li176, li177, li187, li197, li207, li208, li223, li304, li608, li1520, li1824, nI_add, pk_mul, nI_clamp, nI_leI, nI_ltI, nI_eq, zn_inb, zn_gd, zn_bs, zn_isb, not_true_eq_false, not_false_eq_true, ↓reduceIte, pk_div, pk_sub, zn_rem20, zn_rem2, zn_m1, zn_eqw, zn_weq, zn_weq2, zn_wlt0, zn_wltn, zn_win, zn_wcl, zn_wadd, Nat.not_lt_zero, Nat.one_ne_zero, Nat.zero_ne_one, Nat.le_refl, Nat.zero_le, zn_sel_r, zn_sel_l, show (120 : Int32) = nI 120 from rfl, e1, e2]
  refine ⟨_, rfl, ?_⟩
  exact ⟨h.1, h.2.1, rn_cpy0 h.2.2.1, rn_cpy0 h.2.2.2.1, rn_cpy0 h.2.2.2.2.1, rn_cpy0 h.2.2.2.2.2⟩
theorem zx_copyL_L {a b : Nat → Nat} (ha : rn 8 (L 4) a) (hb : rn 8 (L 5) b) (b2 : ∀ i, i < 8 → b i < 2) {kx : Mem → Option Mem} {Q : Mem → Prop} {c0 : Nat → Int32} (hk : ∀ N, N 0 = c0 → rn 8 (N 1) a → rn 8 (N 2) b → ∃ z, kx N = some z ∧ Q z) : ∀ d j n N, j + d = 8 → d < n → N 0 = c0 → (∀ i, i < j → N 1 i = nI (a i)) → (∀ i, i < j → N 2 i = nI (b i)) → ∃ z, fX2_copyFrom_L42 L n kx N (nI j) = some z ∧ Q z := by
  intro d
  induction d with
  | zero =>
    intro j n N hj hn h0 h1 h2
    obtain ⟨m, rfl⟩ : ∃ m, n = m + 1 := ⟨n - 1, by omega⟩
    have c : 8 ≤ j := by omega
    rw [fX2_copyFrom_L42]
    simp (disch := omega) only [li0, li1, li2, li3, li4, li5, li6, li7, li8, li9, li10, li12, li13, li14, li15, li19, li20, li31, li33, li40, li42, li44, li48, li57, li60, li99, li100, li126, li150, li176, li177, li187, li197, li207, li208, li223, li304, li608, li1520, li1824, nI_add, pk_mul, nI_clamp, nI_leI, nI_ltI, nI_eq, zn_inb, zn_gd, zn_bs, zn_isb, not_true_eq_false, not_false_eq_true, ↓reduceIte, pk_div, pk_sub, zn_rem20, zn_rem2, zn_m1, zn_eqw, zn_weq, zn_weq2, zn_wlt0, zn_wltn, zn_win, zn_wcl, zn_wadd, Nat.not_lt_zero, Nat.one_ne_zero, Nat.zero_ne_one, Nat.le_refl, Nat.zero_le, zn_sel_r, zn_sel_l, c]
    exact hk _ h0 (fun i hi => h1 i (by omega)) (fun i hi => h2 i (by omega))
  | succ d ih =>
    intro j n N hj hn h0 h1 h2
    obtain ⟨m, rfl⟩ : ∃ m, n = m + 1 := ⟨n - 1, by omega⟩
    have c : ¬ 8 ≤ j := by omega
    have e1 := ha j (by omega)
    have e2 := hb j (by omega)
    have b3 := b2 j (by omega)
    rw [fX2_copyFrom_L42]
    simp (disch := omega) only [li0, li1, li2, li3, li4, li5, li6, li7, li8, li9, li10, li12, li13, li14, li15, li19, li20, li31, li33, li40, li42, li44, li48, li57, li60, li99, li100, li126, li150, li176, li177, li187, li197, li207, li208, li223, li304, li608, li1520, li1824, nI_add, pk_mul, nI_clamp, nI_leI, nI_ltI, nI_eq, zn_inb, zn_gd, zn_bs, zn_isb, not_true_eq_false, not_false_eq_true, ↓reduceIte, pk_div, pk_sub, zn_rem20, zn_rem2, zn_m1, zn_eqw, zn_weq, zn_weq2, zn_wlt0, zn_wltn, zn_win, zn_wcl, zn_wadd, Nat.not_lt_zero, Nat.one_ne_zero, Nat.zero_ne_one, Nat.le_refl, Nat.zero_le, zn_sel_r, zn_sel_l, c, e1, e2]
    refine ih (j + 1) m _ (by omega) (by omega) h0 (fun i hi => ?_) (fun i hi => ?_)
    · show upd (N 1) j (nI (a j)) i = _
      by_cases e : i = j
      · rw [e]
        exact up_s _ _ _
      · rw [up_n e]
        exact h1 i (by omega)
    · show upd (N 2) j (nI (b j)) i = _
      by_cases e : i = j
      · rw [e]
        exact up_s _ _ _
      · rw [up_n e]
        exact h2 i (by omega)
theorem zx_copyL (h : (L 3 0 = nI (S 6 0) ∧ L 3 1 = nI (S 6 1) ∧ L 3 2 = nI (S 6 2) ∧ L 3 3 = nI (S 6 3) ∧ L 3 4 = nI (S 6 4)) ∧ rn 8 (L 4) (S 7) ∧ rn 8 (L 5) (S 8)) (k2 : S 6 1 < 2) (b2 : ∀ i, i < 8 → S 8 i < 2) : ∃ z, fX2_copyFrom L = some z ∧ zRL z S := by
  obtain ⟨⟨h0, h1, h2, h3, h4⟩, h5, h6⟩ := h
  unfold fX2_copyFrom
  rw [show isb (L 3 1) = true by rw [h1]; exact zn_isb k2, zn_gd, show (0 : Int32) = nI 0 from rfl]
  refine zx_copyL_L h5 h6 b2 (c0 := upd (upd (upd (upd (upd (L 0) 0 (L 3 0)) 1 (L 3 1)) 2 (L 3 2)) 3 (L 3 3)) 4 (L 3 4)) (fun N e0 e1 e2 => ⟨_, rfl, ?_⟩) 8 0 5000 _ (by omega) (by omega) rfl (fun i hi => absurd hi (by omega)) (fun i hi => absurd hi (by omega))
  refine ⟨⟨?_, ?_, ?_, ?_, ?_⟩, e1, e2⟩
  · show N 0 0 = _
    rw [e0]
    exact h0
  · show N 0 1 = _
    rw [e0]
    exact h1
  · show N 0 2 = _
    rw [e0]
    exact h2
  · show N 0 3 = _
    rw [e0]
    exact h3
  · show N 0 4 = _
    rw [e0]
    exact h4
theorem zx_copyG (h : rn 10 (L 6) (S 10) ∧ rn 10 (L 7) (S 11) ∧ rn 10 (L 8) (S 12) ∧ rn 10 (L 9) (S 13)) : ∃ z, fX0_copyFrom L = some z ∧ rn 10 (z 1) (S 10) ∧ rn 10 (z 2) (S 11) ∧ rn 10 (z 3) (S 12) ∧ rn 10 (z 4) (S 13) := by
  have e1 := zn_cpk (a := 0) (b := 0) (c := 10) (n0 := 10) (n1 := 10) (by omega) (by omega) (by omega) (by omega)
  unfold fX0_copyFrom
  simp (disch := omega) only [li0, li1, li2, li3, li4, li5, li6, li7, li8, li9, li10, li12, li13, li14, li15, li19, li20, li31, li33, li40, li42, li44, li48, li57, li60, li99, li100, li126, li150, li176, li177, li187, li197, li207, li208, li223, li304, li608, li1520, li1824, nI_add, pk_mul, nI_clamp, nI_leI, nI_ltI, nI_eq, zn_inb, zn_gd, zn_bs, zn_isb, not_true_eq_false, not_false_eq_true, ↓reduceIte, pk_div, pk_sub, zn_rem20, zn_rem2, zn_m1, zn_eqw, zn_weq, zn_weq2, zn_wlt0, zn_wltn, zn_win, zn_wcl, zn_wadd, Nat.not_lt_zero, Nat.one_ne_zero, Nat.zero_ne_one, Nat.le_refl, Nat.zero_le, zn_sel_r, zn_sel_l, e1]
  refine ⟨_, rfl, ?_⟩
  exact ⟨rn_cpy0 h.1, rn_cpy0 h.2.1, rn_cpy0 h.2.2.1, rn_cpy0 h.2.2.2⟩
theorem zx_copyB (h : L 2 0 = nI (S 14 0) ∧ rn 80 (L 3) (S 15)) : ∃ z, fX3_copyFrom L = some z ∧ z 0 0 = nI (S 14 0) ∧ rn 80 (z 1) (S 15) := by
  have e1 := zn_cpk (a := 0) (b := 0) (c := 80) (n0 := 80) (n1 := 80) (by omega) (by omega) (by omega) (by omega)
  unfold fX3_copyFrom
  simp (disch := omega) only [li0, li1, li2, li3, li4, li5, li6, li7, li8, li9, li10, li12, li13, li14, li15, li19, li20, li31, li33, li40, li42, li44, li48, li57, li60, li99, li100, li126, li150, li176, li177, li187, li197, li207, li208, li223, li304, li608, li1520, li1824, nI_add, pk_mul, nI_clamp, nI_leI, nI_ltI, nI_eq, zn_inb, zn_gd, zn_bs, zn_isb, not_true_eq_false, not_false_eq_true, ↓reduceIte, pk_div, pk_sub, zn_rem20, zn_rem2, zn_m1, zn_eqw, zn_weq, zn_weq2, zn_wlt0, zn_wltn, zn_win, zn_wcl, zn_wadd, Nat.not_lt_zero, Nat.one_ne_zero, Nat.zero_ne_one, Nat.le_refl, Nat.zero_le, zn_sel_r, zn_sel_l, show (80 : Int32) = nI 80 from rfl, e1]
  refine ⟨_, rfl, ?_⟩
  exact ⟨h.1, rn_cpy0 h.2⟩
theorem zx_copyFrom (h : RX (ofs 16 M) S) (k2 : S 6 1 < 2) (b2 : ∀ i, i < 8 → S 8 i < 2) : ∃ z, fX6_copyFrom M = some z ∧ RX z S := by
  unfold fX6_copyFrom
  refine zn_bk0 (zx_copyT (S := S) h.1) (fun z1 h1 => ?_)
  refine zn_bk0 (zx_copyL (S := S) ⟨⟨h.2.1.1, h.2.1.2.1, h.2.1.2.2.1, h.2.1.2.2.2.1, h.2.1.2.2.2.2.1⟩, h.r7, h.r8⟩ k2 b2) (fun z2 h2 => ?_)
  refine zn_bk0 (zx_copyG (S := S) ⟨h.r10, h.r11, h.r12, h.r13⟩) (fun z3 h3 => ?_)
  refine zn_bk0 (zx_copyB (S := S) ⟨h.2.1.2.2.2.2.2.2, h.r15⟩) (fun z4 h4 => ?_)
  refine ⟨_, rfl, ?_⟩
  exact ⟨h1, ⟨h2.1.1, h2.1.2.1, h2.1.2.2.1, h2.1.2.2.2.1, h2.1.2.2.2.2, h.2.1.2.2.2.2.2.1, h4.1⟩, h2.2.1, h2.2.2, h3.1, h3.2.1, h3.2.2.1, h3.2.2.2, h4.2⟩
/-! what is told by serving a copy -/
theorem zx_asideOne (h : RX (ofs 1 M) S) (g : GX u S) (h99 : S 99 0 = 0) (hw : S 1 1 = 0) {r : Nat} (hr : r < S 14 0) (hcan : zs_can S r = true) (hu : u + 24 ≤ 200000) {β : Type} {kx : Mem → Int32 × Mem → Option β} {Q : β → Prop} (hk : ∀ y z, ∃ w, kx y (nI (zo_cost S r), z) = some w ∧ Q w) : ∃ w, ((fX6_copyFrom (pk [17, 18, 19, 20, 21, 22, 23, 24, 25, 26, 27, 28, 29, 30, 31, 32, 1, 2, 3, 4, 5, 6, 7, 8, 9, 10, 11, 12, 13, 14, 15, 16] M)).bind fun r22 => (fX6_serveOne (ofs 17 (sr (sr (sr (sr (sr (sr (sr (sr (sr (sr (sr (sr (sr (sr (sr M 17 (r22 0)) 18 (r22 1)) 19 (r22 2)) 20 (r22 3)) 21 (r22 4)) 22 (r22 5)) 23 (r22 6)) 24 (r22 7)) 25 (r22 8)) 27 (r22 10)) 28 (r22 11)) 29 (r22 12)) 30 (r22 13)) 31 (r22 14)) 32 (r22 15))) (nI r)).bind fun r30 => kx r22 r30) = some w ∧ Q w := by
  refine zn_bk0 (zx_copyFrom (S := S) h g.lo.2.1 g.lo.2.2.2) (fun y hy => ?_)
  obtain ⟨z, e, hz⟩ := zx_serveOne (M := ofs 17 (sr (sr (sr (sr (sr (sr (sr (sr (sr (sr (sr (sr (sr (sr (sr M 17 (y 0)) 18 (y 1)) 19 (y 2)) 20 (y 3)) 21 (y 4)) 22 (y 5)) 23 (y 6)) 24 (y 7)) 25 (y 8)) 27 (y 10)) 28 (y 11)) 29 (y 12)) 30 (y 13)) 31 (y 14)) 32 (y 15))) (S := S) (u := u) (hy.of rfl rfl rfl rfl rfl rfl rfl rfl rfl rfl rfl rfl rfl rfl rfl) g h99 hw hr hcan hu
  rw [e, zn_bs]
  exact hk y z
theorem zx_findCheapest_L (h : RX (ofs 1 M) S) (g : GX u S) (h99 : S 99 0 = 0) (hw : S 1 1 = 0) (hu : u + 24 ≤ 200000) {kx : Mem → Int32 → Option (Int32 × Mem)} {Q : Int32 × Mem → Prop} (hk : ∀ N, ∃ z, kx N (wI (zs_cp S (S 14 0)).1) = some z ∧ Q z) : ∀ d r n N, r + d = S 14 0 → d < n → ∃ z, fX8_findCheapest_L6 M n kx N (wI (zs_cp S r).1) (nI (zs_cp S r).2) (nI r) = some z ∧ Q z := by
  have h8 := g.o8
  have e8 : M 15 0 = nI (S 14 0) := h.2.1.2.2.2.2.2.2
  intro d
  induction d with
  | zero =>
    intro r n N hr hn
    obtain ⟨m, rfl⟩ : ∃ m, n = m + 1 := ⟨n - 1, by omega⟩
    have c : S 14 0 ≤ r := by omega
    rw [fX8_findCheapest_L6]
    simp (disch := omega) only [li0, li1, li2, li3, li4, li5, li6, li7, li8, li9, li10, li12, li13, li14, li15, li19, li20, li31, li33, li40, li42, li44, li48, li57, li60, li99, li100, li126, li150, li176, li177, li187, li197, li207, li208, li223, li304, li608, li1520, li1824, nI_add, pk_mul, nI_clamp, nI_leI, nI_ltI, nI_eq, zn_inb, zn_gd, zn_bs, zn_isb, not_true_eq_false, not_false_eq_true, ↓reduceIte, pk_div, pk_sub, zn_rem20, zn_rem2, zn_m1, zn_eqw, zn_weq, zn_weq2, zn_wlt0, zn_wltn, zn_win, zn_wcl, zn_wadd, Nat.not_lt_zero, Nat.one_ne_zero, Nat.zero_ne_one, Nat.le_refl, Nat.zero_le, zn_sel_r, zn_sel_l, e8, c]
    rw [show r = S 14 0 by omega]
    exact hk _
  | succ d ih =>
    intro r n N hr hn
    obtain ⟨m, rfl⟩ : ∃ m, n = m + 1 := ⟨n - 1, by omega⟩
    have c : ¬ S 14 0 ≤ r := by omega
    have b := zs_cp_le g h99 hw hu r
    have bc := zo_cost_le g h99 hw hu r
    have hW : RX (ofs 1 (sr (sr (sr (sr (sr (sr (sr (sr (sr (sr (sr (sr (sr (sr (sr M 17 (N 17)) 18 (N 18)) 19 (N 19)) 20 (N 20)) 21 (N 21)) 22 (N 22)) 23 (N 23)) 24 (N 24)) 25 (N 25)) 27 (N 27)) 28 (N 28)) 29 (N 29)) 30 (N 30)) 31 (N 31)) 32 (N 32))) S := h.of rfl rfl rfl rfl rfl rfl rfl rfl rfl rfl rfl rfl rfl rfl rfl
    have e2 := zx_isServable hW g (r := r) (by omega)
    have ih1 := fun N => ih (r + 1) m N (by omega) (by omega)
    have e : zs_cp S (r + 1) = if zs_can S r = true ∧ ((zs_cp S r).1 = 0 ∨ ¬ (zs_cp S r).2 ≤ zo_cost S r) then (r + 1, zo_cost S r) else zs_cp S r := rfl
    rw [e] at ih1
    rw [fX8_findCheapest_L6]
    cases q : zs_can S r
    · rw [q, if_neg (fun a => by cases a.1)] at ih1
      rw [q, cond_false] at e2
      simp (disch := omega) only [li0, li1, li2, li3, li4, li5, li6, li7, li8, li9, li10, li12, li13, li14, li15, li19, li20, li31, li33, li40, li42, li44, li48, li57, li60, li99, li100, li126, li150, li176, li177, li187, li197, li207, li208, li223, li304, li608, li1520, li1824, nI_add, pk_mul, nI_clamp, nI_leI, nI_ltI, nI_eq, zn_inb, zn_gd, zn_bs, zn_isb, not_true_eq_false, not_false_eq_true, ↓reduceIte, pk_div, pk_sub, zn_rem20, zn_rem2, zn_m1, zn_eqw, zn_weq, zn_weq2, zn_wlt0, zn_wltn, zn_win, zn_wcl, zn_wadd, Nat.not_lt_zero, Nat.one_ne_zero, Nat.zero_ne_one, Nat.le_refl, Nat.zero_le, zn_sel_r, zn_sel_l, e8, c, e2, fX8_findCheapest_B68]
      exact ih1 _
    · rw [q] at ih1
      rw [q, cond_true] at e2
      simp (disch := omega) only [li0, li1, li2, li3, li4, li5, li6, li7, li8, li9, li10, li12, li13, li14, li15, li19, li20, li31, li33, li40, li42, li44, li48, li57, li60, li99, li100, li126, li150, li176, li177, li187, li197, li207, li208, li223, li304, li608, li1520, li1824, nI_add, pk_mul, nI_clamp, nI_leI, nI_ltI, nI_eq, zn_inb, zn_gd, zn_bs, zn_isb, not_true_eq_false, not_false_eq_true, ↓reduceIte, pk_div, pk_sub, zn_rem20, zn_rem2, zn_m1, zn_eqw, zn_weq, zn_weq2, zn_wlt0, zn_wltn, zn_win, zn_wcl, zn_wadd, Nat.not_lt_zero, Nat.one_ne_zero, Nat.zero_ne_one, Nat.le_refl, Nat.zero_le, zn_sel_r, zn_sel_l, e8, c, e2]
      refine zn_bk0 (zx_copyFrom (S := S) h g.lo.2.1 g.lo.2.2.2) (fun y hy => ?_)
      obtain ⟨z, ez, hz⟩ := zx_serveOne (M := ofs 17 (sr (sr (sr (sr (sr (sr (sr (sr (sr (sr (sr (sr (sr (sr (sr M 17 (y 0)) 18 (y 1)) 19 (y 2)) 20 (y 3)) 21 (y 4)) 22 (y 5)) 23 (y 6)) 24 (y 7)) 25 (y 8)) 27 (y 10)) 28 (y 11)) 29 (y 12)) 30 (y 13)) 31 (y 14)) 32 (y 15))) (S := S) (u := u) (hy.of rfl rfl rfl rfl rfl rfl rfl rfl rfl rfl rfl rfl rfl rfl rfl) g h99 hw (r := r) (by omega) q hu
      rw [ez, zn_bs]
      by_cases q1 : (zs_cp S r).1 = 0
      · rw [if_pos ⟨rfl, Or.inl q1⟩] at ih1
        simp only [wI_s] at ih1
        simp (disch := omega) only [li0, li1, li2, li3, li4, li5, li6, li7, li8, li9, li10, li12, li13, li14, li15, li19, li20, li31, li33, li40, li42, li44, li48, li57, li60, li99, li100, li126, li150, li176, li177, li187, li197, li207, li208, li223, li304, li608, li1520, li1824, nI_add, pk_mul, nI_clamp, nI_leI, nI_ltI, nI_eq, zn_inb, zn_gd, zn_bs, zn_isb, not_true_eq_false, not_false_eq_true, ↓reduceIte, pk_div, pk_sub, zn_rem20, zn_rem2, zn_m1, zn_eqw, zn_weq, zn_weq2, zn_wlt0, zn_wltn, zn_win, zn_wcl, zn_wadd, Nat.not_lt_zero, Nat.one_ne_zero, Nat.zero_ne_one, Nat.le_refl, Nat.zero_le, zn_sel_r, zn_sel_l, eq_true q1, fX8_findCheapest_B63, fX8_findCheapest_B68]
        exact ih1 _
      · by_cases q2 : (zs_cp S r).2 ≤ zo_cost S r
        · rw [if_neg (fun a => by
            rcases a.2 with b1 | b1
            · exact q1 b1
            · exact b1 q2)] at ih1
          simp (disch := omega) only [li0, li1, li2, li3, li4, li5, li6, li7, li8, li9, li10, li12, li13, li14, li15, li19, li20, li31, li33, li40, li42, li44, li48, li57, li60, li99, li100, li126, li150, li176, li177, li187, li197, li207, li208, li223, li304, li608, li1520, li1824, nI_add, pk_mul, nI_clamp, nI_leI, nI_ltI, nI_eq, zn_inb, zn_gd, zn_bs, zn_isb, not_true_eq_false, not_false_eq_true, ↓reduceIte, pk_div, pk_sub, zn_rem20, zn_rem2, zn_m1, zn_eqw, zn_weq, zn_weq2, zn_wlt0, zn_wltn, zn_win, zn_wcl, zn_wadd, Nat.not_lt_zero, Nat.one_ne_zero, Nat.zero_ne_one, Nat.le_refl, Nat.zero_le, zn_sel_r, zn_sel_l, q1, q2, fX8_findCheapest_B68]
          exact ih1 _
        · rw [if_pos ⟨rfl, Or.inr q2⟩] at ih1
          simp only [wI_s] at ih1
          simp (disch := omega) only [li0, li1, li2, li3, li4, li5, li6, li7, li8, li9, li10, li12, li13, li14, li15, li19, li20, li31, li33, li40, li42, li44, li48, li57, li60, li99, li100, li126, li150, li176, li177, li187, li197, li207, li208, li223, li304, li608, li1520, li1824, nI_add, pk_mul, nI_clamp, nI_leI, nI_ltI, nI_eq, zn_inb, zn_gd, zn_bs, zn_isb, not_true_eq_false, not_false_eq_true, ↓reduceIte, pk_div, pk_sub, zn_rem20, zn_rem2, zn_m1, zn_eqw, zn_weq, zn_weq2, zn_wlt0, zn_wltn, zn_win, zn_wcl, zn_wadd, Nat.not_lt_zero, Nat.one_ne_zero, Nat.zero_ne_one, Nat.le_refl, Nat.zero_le, zn_sel_r, zn_sel_l, q1, q2, fX8_findCheapest_B63, fX8_findCheapest_B68]
          exact ih1 _
theorem zx_findCheapest (h : RX (ofs 1 M) S) (g : GX u S) (h99 : S 99 0 = 0) (hw : S 1 1 = 0) (hu : u + 24 ≤ 200000) : ∃ z, fX8_findCheapest M = some z ∧ z.1 = wI (zs_cp S (S 14 0)).1 := by
  unfold fX8_findCheapest
  refine zx_findCheapest_L h g h99 hw hu (Q := fun z => z.1 = wI (zs_cp S (S 14 0)).1) (fun N => ?_) (S 14 0) 0 5000 M (by omega) (by have := g.o8; omega)
  exact ⟨_, rfl, rfl⟩
end
