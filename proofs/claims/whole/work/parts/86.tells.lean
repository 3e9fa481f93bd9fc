set_option maxHeartbeats 400000
/-! the choice of an order, told -/
section
variable {n : Nat} {C : Nat → Option Mem} {M K : Mem} {S : SM}
theorem zk_tellsBad {r : Int32} (K : Mem) (e : fX9_isOrder (sr K 0 (upd (K 0) 0 (nI 0))) r = some (nI 0)) : ∃ y : Int32 × Mem, fX9_tellsChoice K r = some y ∧ y.1 = nI 0 ∧ y.2 0 0 = nI (0 + 1) ∧ y.2 0 4 = K 0 4 ∧ y.2 0 8 = K 0 8 := by
  unfold fX9_tellsChoice
  simp (disch := omega) only [li0, li1, li2, li3, li4, li5, li6, li7, li8, li9, li10, li12, li13, li14, li15, li19, li20, li31, li33, li40, li42, li44, li48, li57, li60, li99, li100, li126, li150, li176, li177, li187, li197, li207, li208, li223, li304, li608, li1520, li1824, nI_add, pk_mul, nI_clamp, nI_leI, nI_ltI, nI_eq, zn_inb, zn_gd, zn_bs, zn_isb, not_true_eq_false, not_false_eq_true, ↓reduceIte, pk_div, pk_sub, zn_rem20, zn_rem2, zn_m1, zn_eqw, zn_weq, zn_weq2, zn_wlt0, zn_wltn, zn_win, zn_wcl, zn_wadd, Nat.not_lt_zero, Nat.one_ne_zero, Nat.zero_ne_one, Nat.le_refl, Nat.zero_le, zn_sel_r, zn_sel_l, fX9_fails, e]
  exact ⟨_, rfl, rfl, rfl, rfl, rfl⟩
theorem zk_tellsNo {u r : Nat} (hK : RK (K 1) S) (g : GX u S) (hr : r < S 14 0) (hcan : zs_can S r = false) (e : fX9_isOrder (sr K 0 (upd (K 0) 0 (nI 0))) (nI r) = some (nI 1)) : ∃ y : Int32 × Mem, fX9_tellsChoice K (nI r) = some y ∧ y.1 = nI 0 ∧ y.2 0 0 = nI (1 + 1) ∧ y.2 0 4 = K 0 4 ∧ y.2 0 8 = K 0 8 := by
  have e2 := zk_canBe (K := sr K 0 (upd (K 0) 0 (nI 0))) (show RK (K 1) S from hK) g hr
  rw [hcan, cond_false] at e2
  unfold fX9_tellsChoice
  simp (disch := omega) only [li0, li1, li2, li3, li4, li5, li6, li7, li8, li9, li10, li12, li13, li14, li15, li19, li20, li31, li33, li40, li42, li44, li48, li57, li60, li99, li100, li126, li150, li176, li177, li187, li197, li207, li208, li223, li304, li608, li1520, li1824, nI_add, pk_mul, nI_clamp, nI_leI, nI_ltI, nI_eq, zn_inb, zn_gd, zn_bs, zn_isb, not_true_eq_false, not_false_eq_true, ↓reduceIte, pk_div, pk_sub, zn_rem20, zn_rem2, zn_m1, zn_eqw, zn_weq, zn_weq2, zn_wlt0, zn_wltn, zn_win, zn_wcl, zn_wadd, Nat.not_lt_zero, Nat.one_ne_zero, Nat.zero_ne_one, Nat.le_refl, Nat.zero_le, zn_sel_r, zn_sel_l, fX9_fails, e, e2, fX9_tellsChoice_B40]
  exact ⟨_, rfl, rfl, rfl, rfl, rfl⟩
theorem zk_tells {u r v : Nat} (hK : RK (K 1) S) (g : GX u S) (h99 : S 99 0 = 0) (hr : r < S 14 0) (hcan : zs_can S r = true) (hv : zs_best S r v) (e : fX9_isOrder (sr K 0 (upd (K 0) 0 (nI 0))) (nI r) = some (nI 1)) : ∃ y : Int32 × Mem, fX9_tellsChoice K (nI r) = some y ∧ y.1 = nI v ∧ y.2 0 0 = nI 0 ∧ y.2 0 4 = K 0 4 ∧ y.2 0 8 = K 0 8 := by
  have e2 := zk_canBe (K := sr K 0 (upd (K 0) 0 (nI 0))) (show RK (K 1) S from hK) g hr
  obtain ⟨w, e3, hw⟩ := zk_chosen (K := sr K 0 (upd (K 0) 0 (nI 0))) (show RK (K 1) S from hK) g h99 hr hcan
  rw [zs_best_u hw hv] at e3
  rw [hcan, cond_true] at e2
  unfold fX9_tellsChoice
  simp (disch := omega) only [li0, li1, li2, li3, li4, li5, li6, li7, li8, li9, li10, li12, li13, li14, li15, li19, li20, li31, li33, li40, li42, li44, li48, li57, li60, li99, li100, li126, li150, li176, li177, li187, li197, li207, li208, li223, li304, li608, li1520, li1824, nI_add, pk_mul, nI_clamp, nI_leI, nI_ltI, nI_eq, zn_inb, zn_gd, zn_bs, zn_isb, not_true_eq_false, not_false_eq_true, ↓reduceIte, pk_div, pk_sub, zn_rem20, zn_rem2, zn_m1, zn_eqw, zn_weq, zn_weq2, zn_wlt0, zn_wltn, zn_win, zn_wcl, zn_wadd, Nat.not_lt_zero, Nat.one_ne_zero, Nat.zero_ne_one, Nat.le_refl, Nat.zero_le, zn_sel_r, zn_sel_l, fX9_fails, e, e2, e3, fX9_tellsChoice_B40]
  exact ⟨_, rfl, rfl, rfl, rfl, rfl⟩
theorem zt_fewestByTrying : St_fewestByTrying ZI := by
  intro n C M K x1 hn h
  obtain ⟨S, T, hc, ⟨hX, hK, g, h99⟩, hH, hB⟩ := id h
  have hc12 := g.c12
  have h8 := g.o8
  have lo := g.lo
  have hw12 := g.1.2.1
  have hT : RT (ofs 2 M) S := hX.t
  have hK0 : RK ((sr K 0 (upd (K 0) 0 (nI 0))) 1) S := hK
  rcases zr_order hX h8 x1 with ⟨f, hf, rfl, e1, e2⟩ | ⟨e1, e2⟩
  · have e3 := e2 (sr K 0 (upd (K 0) 0 (nI 0))) hK0
    have e4 := zr_srv hX g hf
    cases hcan : zs_can S f
    · rw [hcan, if_neg (by decide)] at e4
      obtain ⟨⟨t1, t2⟩, et, t1e, y0, y4, y8⟩ := zk_tellsNo hK g hf hcan e3
      have t1e : t1 = nI 0 := t1e
      subst t1e
      have ek : fX9_fewestByTrying K (nI f) = some (nI (zs_bits 0), sr K 0 (t2 0)) := by
        unfold fX9_fewestByTrying
        simp (disch := omega) only [li0, li1, li2, li3, li4, li5, li6, li7, li8, li9, li10, li12, li13, li14, li15, li19, li20, li31, li33, li40, li42, li44, li48, li57, li60, li99, li100, li126, li150, li176, li177, li187, li197, li207, li208, li223, li304, li608, li1520, li1824, nI_add, pk_mul, nI_clamp, nI_leI, nI_ltI, nI_eq, zn_inb, zn_gd, zn_bs, zn_isb, not_true_eq_false, not_false_eq_true, ↓reduceIte, pk_div, pk_sub, zn_rem20, zn_rem2, zn_m1, zn_eqw, zn_weq, zn_weq2, zn_wlt0, zn_wltn, zn_win, zn_wcl, zn_wadd, Nat.not_lt_zero, Nat.one_ne_zero, Nat.zero_ne_one, Nat.le_refl, Nat.zero_le, zn_sel_r, zn_sel_l, et, zk_bits (v := 0) (by omega)]
      have ex : fX8_fewestByTrying M (nI f) = some (.inl "java/lang/IllegalStateException") := by
        unfold fX8_fewestByTrying
        simp (disch := omega) only [li0, li1, li2, li3, li4, li5, li6, li7, li8, li9, li10, li12, li13, li14, li15, li19, li20, li31, li33, li40, li42, li44, li48, li57, li60, li99, li100, li126, li150, li176, li177, li187, li197, li207, li208, li223, li304, li608, li1520, li1824, nI_add, pk_mul, nI_clamp, nI_leI, nI_ltI, nI_eq, zn_inb, zn_gd, zn_bs, zn_isb, not_true_eq_false, not_false_eq_true, ↓reduceIte, pk_div, pk_sub, zn_rem20, zn_rem2, zn_m1, zn_eqw, zn_weq, zn_weq2, zn_wlt0, zn_wltn, zn_win, zn_wcl, zn_wadd, Nat.not_lt_zero, Nat.one_ne_zero, Nat.zero_ne_one, Nat.le_refl, Nat.zero_le, zn_sel_r, zn_sel_l, e1, e4]
      exact zf_no (i := 1) h hn rfl ex ek y0 y4 y8
    · rw [hcan, if_pos rfl] at e4
      obtain ⟨v, e5, hv⟩ := zx_choice hX g hf hcan
      have v12 := zs_best_lt g hv
      have v31 : v < 2 ^ 31 := by omega
      obtain ⟨⟨t1, t2⟩, et, t1e, y0, y4, y8⟩ := zk_tells hK g h99 hf hcan hv e3
      have t1e : t1 = nI v := t1e
      subst t1e
      have ek : fX9_fewestByTrying K (nI f) = some (nI (zs_bits v), sr K 0 (t2 0)) := by
        unfold fX9_fewestByTrying
        simp (disch := omega) only [li0, li1, li2, li3, li4, li5, li6, li7, li8, li9, li10, li12, li13, li14, li15, li19, li20, li31, li33, li40, li42, li44, li48, li57, li60, li99, li100, li126, li150, li176, li177, li187, li197, li207, li208, li223, li304, li608, li1520, li1824, nI_add, pk_mul, nI_clamp, nI_leI, nI_ltI, nI_eq, zn_inb, zn_gd, zn_bs, zn_isb, not_true_eq_false, not_false_eq_true, ↓reduceIte, pk_div, pk_sub, zn_rem20, zn_rem2, zn_m1, zn_eqw, zn_weq, zn_weq2, zn_wlt0, zn_wltn, zn_win, zn_wcl, zn_wadd, Nat.not_lt_zero, Nat.one_ne_zero, Nat.zero_ne_one, Nat.le_refl, Nat.zero_le, zn_sel_r, zn_sel_l, et, zk_bits (v := v) (v31)]
      have ex : fX8_fewestByTrying M (nI f) = some (.inr (nI (zs_bits v))) := by
        unfold fX8_fewestByTrying
        simp (disch := omega) only [li0, li1, li2, li3, li4, li5, li6, li7, li8, li9, li10, li12, li13, li14, li15, li19, li20, li31, li33, li40, li42, li44, li48, li57, li60, li99, li100, li126, li150, li176, li177, li187, li197, li207, li208, li223, li304, li608, li1520, li1824, nI_add, pk_mul, nI_clamp, nI_leI, nI_ltI, nI_eq, zn_inb, zn_gd, zn_bs, zn_isb, not_true_eq_false, not_false_eq_true, ↓reduceIte, pk_div, pk_sub, zn_rem20, zn_rem2, zn_m1, zn_eqw, zn_weq, zn_weq2, zn_wlt0, zn_wltn, zn_win, zn_wcl, zn_wadd, Nat.not_lt_zero, Nat.one_ne_zero, Nat.zero_ne_one, Nat.le_refl, Nat.zero_le, zn_sel_r, zn_sel_l, e1, e4, e5, zx_bitCount v12]
      exact zf_ok h hn ex ek y0 y4 y8 rfl
  · have e3 := e2 (sr K 0 (upd (K 0) 0 (nI 0))) hK0
    obtain ⟨⟨t1, t2⟩, et, t1e, y0, y4, y8⟩ := zk_tellsBad K e3
    have t1e : t1 = nI 0 := t1e
    subst t1e
    have ek : fX9_fewestByTrying K x1 = some (nI (zs_bits 0), sr K 0 (t2 0)) := by
      unfold fX9_fewestByTrying
      simp (disch := omega) only [li0, li1, li2, li3, li4, li5, li6, li7, li8, li9, li10, li12, li13, li14, li15, li19, li20, li31, li33, li40, li42, li44, li48, li57, li60, li99, li100, li126, li150, li176, li177, li187, li197, li207, li208, li223, li304, li608, li1520, li1824, nI_add, pk_mul, nI_clamp, nI_leI, nI_ltI, nI_eq, zn_inb, zn_gd, zn_bs, zn_isb, not_true_eq_false, not_false_eq_true, ↓reduceIte, pk_div, pk_sub, zn_rem20, zn_rem2, zn_m1, zn_eqw, zn_weq, zn_weq2, zn_wlt0, zn_wltn, zn_win, zn_wcl, zn_wadd, Nat.not_lt_zero, Nat.one_ne_zero, Nat.zero_ne_one, Nat.le_refl, Nat.zero_le, zn_sel_r, zn_sel_l, et, zk_bits (v := 0) (by omega)]
    have ex : fX8_fewestByTrying M x1 = some (.inl "java/lang/IndexOutOfBoundsException") := by
      unfold fX8_fewestByTrying
      simp (disch := omega) only [li0, li1, li2, li3, li4, li5, li6, li7, li8, li9, li10, li12, li13, li14, li15, li19, li20, li31, li33, li40, li42, li44, li48, li57, li60, li99, li100, li126, li150, li176, li177, li187, li197, li207, li208, li223, li304, li608, li1520, li1824, nI_add, pk_mul, nI_clamp, nI_leI, nI_ltI, nI_eq, zn_inb, zn_gd, zn_bs, zn_isb, not_true_eq_false, not_false_eq_true, ↓reduceIte, pk_div, pk_sub, zn_rem20, zn_rem2, zn_m1, zn_eqw, zn_weq, zn_weq2, zn_wlt0, zn_wltn, zn_win, zn_wcl, zn_wadd, Nat.not_lt_zero, Nat.one_ne_zero, Nat.zero_ne_one, Nat.le_refl, Nat.zero_le, zn_sel_r, zn_sel_l, e1]
    exact zf_no (i := 0) h hn rfl ex ek y0 y4 y8
theorem zt_choiceFor : St_choiceFor ZI := by
  intro n C M K x1 hn h
  obtain ⟨S, T, hc, ⟨hX, hK, g, h99⟩, hH, hB⟩ := id h
  have hc12 := g.c12
  have h8 := g.o8
  have lo := g.lo
  have hw12 := g.1.2.1
  have hT : RT (ofs 2 M) S := hX.t
  have hK0 : RK ((sr K 0 (upd (K 0) 0 (nI 0))) 1) S := hK
  rcases zr_order hX h8 x1 with ⟨f, hf, rfl, e1, e2⟩ | ⟨e1, e2⟩
  · have e3 := e2 (sr K 0 (upd (K 0) 0 (nI 0))) hK0
    have e4 := zr_srv hX g hf
    cases hcan : zs_can S f
    · rw [hcan, if_neg (by decide)] at e4
      obtain ⟨⟨t1, t2⟩, et, t1e, y0, y4, y8⟩ := zk_tellsNo hK g hf hcan e3
      have t1e : t1 = nI 0 := t1e
      subst t1e
      have ek : fX9_choiceFor K (nI f) = some (nI 0, sr K 0 (t2 0)) := by
        unfold fX9_choiceFor
        simp (disch := omega) only [li0, li1, li2, li3, li4, li5, li6, li7, li8, li9, li10, li12, li13, li14, li15, li19, li20, li31, li33, li40, li42, li44, li48, li57, li60, li99, li100, li126, li150, li176, li177, li187, li197, li207, li208, li223, li304, li608, li1520, li1824, nI_add, pk_mul, nI_clamp, nI_leI, nI_ltI, nI_eq, zn_inb, zn_gd, zn_bs, zn_isb, not_true_eq_false, not_false_eq_true, ↓reduceIte, pk_div, pk_sub, zn_rem20, zn_rem2, zn_m1, zn_eqw, zn_weq, zn_weq2, zn_wlt0, zn_wltn, zn_win, zn_wcl, zn_wadd, Nat.not_lt_zero, Nat.one_ne_zero, Nat.zero_ne_one, Nat.le_refl, Nat.zero_le, zn_sel_r, zn_sel_l, et]
      have ex : fX8_choiceFor M (nI f) = some (.inl "java/lang/IllegalStateException") := by
        unfold fX8_choiceFor
        simp (disch := omega) only [li0, li1, li2, li3, li4, li5, li6, li7, li8, li9, li10, li12, li13, li14, li15, li19, li20, li31, li33, li40, li42, li44, li48, li57, li60, li99, li100, li126, li150, li176, li177, li187, li197, li207, li208, li223, li304, li608, li1520, li1824, nI_add, pk_mul, nI_clamp, nI_leI, nI_ltI, nI_eq, zn_inb, zn_gd, zn_bs, zn_isb, not_true_eq_false, not_false_eq_true, ↓reduceIte, pk_div, pk_sub, zn_rem20, zn_rem2, zn_m1, zn_eqw, zn_weq, zn_weq2, zn_wlt0, zn_wltn, zn_win, zn_wcl, zn_wadd, Nat.not_lt_zero, Nat.one_ne_zero, Nat.zero_ne_one, Nat.le_refl, Nat.zero_le, zn_sel_r, zn_sel_l, e1, e4]
      exact zf_no (i := 1) h hn rfl ex ek y0 y4 y8
    · rw [hcan, if_pos rfl] at e4
      obtain ⟨v, e5, hv⟩ := zx_choice hX g hf hcan
      have v12 := zs_best_lt g hv
      have v31 : v < 2 ^ 31 := by omega
      obtain ⟨⟨t1, t2⟩, et, t1e, y0, y4, y8⟩ := zk_tells hK g h99 hf hcan hv e3
      have t1e : t1 = nI v := t1e
      subst t1e
      have ek : fX9_choiceFor K (nI f) = some (nI v, sr K 0 (t2 0)) := by
        unfold fX9_choiceFor
        simp (disch := omega) only [li0, li1, li2, li3, li4, li5, li6, li7, li8, li9, li10, li12, li13, li14, li15, li19, li20, li31, li33, li40, li42, li44, li48, li57, li60, li99, li100, li126, li150, li176, li177, li187, li197, li207, li208, li223, li304, li608, li1520, li1824, nI_add, pk_mul, nI_clamp, nI_leI, nI_ltI, nI_eq, zn_inb, zn_gd, zn_bs, zn_isb, not_true_eq_false, not_false_eq_true, ↓reduceIte, pk_div, pk_sub, zn_rem20, zn_rem2, zn_m1, zn_eqw, zn_weq, zn_weq2, zn_wlt0, zn_wltn, zn_win, zn_wcl, zn_wadd, Nat.not_lt_zero, Nat.one_ne_zero, Nat.zero_ne_one, Nat.le_refl, Nat.zero_le, zn_sel_r, zn_sel_l, et]
      have ex : fX8_choiceFor M (nI f) = some (.inr (nI v)) := by
        unfold fX8_choiceFor
        simp (disch := omega) only [li0, li1, li2, li3, li4, li5, li6, li7, li8, li9, li10, li12, li13, li14, li15, li19, li20, li31, li33, li40, li42, li44, li48, li57, li60, li99, li100, li126, li150, li176, li177, li187, li197, li207, li208, li223, li304, li608, li1520, li1824, nI_add, pk_mul, nI_clamp, nI_leI, nI_ltI, nI_eq, zn_inb, zn_gd, zn_bs, zn_isb, not_true_eq_false, not_false_eq_true, ↓reduceIte, pk_div, pk_sub, zn_rem20, zn_rem2, zn_m1, zn_eqw, zn_weq, zn_weq2, zn_wlt0, zn_wltn, zn_win, zn_wcl, zn_wadd, Nat.not_lt_zero, Nat.one_ne_zero, Nat.zero_ne_one, Nat.le_refl, Nat.zero_le, zn_sel_r, zn_sel_l, e1, e4, e5]
      exact zf_ok h hn ex ek y0 y4 y8 rfl
  · have e3 := e2 (sr K 0 (upd (K 0) 0 (nI 0))) hK0
    obtain ⟨⟨t1, t2⟩, et, t1e, y0, y4, y8⟩ := zk_tellsBad K e3
    have t1e : t1 = nI 0 := t1e
    subst t1e
    have ek : fX9_choiceFor K x1 = some (nI 0, sr K 0 (t2 0)) := by
      unfold fX9_choiceFor
      simp (disch := omega) only [li0, li1, li2, li3, li4, li5, li6, li7, li8, li9, li10, li12, li13, li14, li15, li19, li20, li31, li33, li40, li42, li44, li48, li57, li60, li99, li100, li126, li150, li176, li177, li187, li197, li207, li208, li223, li304, li608, li1520, li1824, nI_add, pk_mul, nI_clamp, nI_leI, nI_ltI, nI_eq, zn_inb, zn_gd, zn_bs, zn_isb, not_true_eq_false, not_false_eq_true, ↓reduceIte, pk_div, pk_sub, zn_rem20, zn_rem2, zn_m1, zn_eqw, zn_weq, zn_weq2, zn_wlt0, zn_wltn, zn_win, zn_wcl, zn_wadd, Nat.not_lt_zero, Nat.one_ne_zero, Nat.zero_ne_one, Nat.le_refl, Nat.zero_le, zn_sel_r, zn_sel_l, et]
    have ex : fX8_choiceFor M x1 = some (.inl "java/lang/IndexOutOfBoundsException") := by
      unfold fX8_choiceFor
      simp (disch := omega) only [li0, li1, li2, li3, li4, li5, li6, li7, li8, li9, li10, li12, li13, li14, li15, li19, li20, li31, li33, li40, li42, li44, li48, li57, li60, li99, li100, li126, li150, li176, li177, li187, li197, li207, li208, li223, li304, li608, li1520, li1824, nI_add, pk_mul, nI_clamp, nI_leI, nI_ltI, nI_eq, zn_inb, zn_gd, zn_bs, zn_isb, not_true_eq_false, not_false_eq_true, ↓reduceIte, pk_div, pk_sub, zn_rem20, zn_rem2, zn_m1, zn_eqw, zn_weq, zn_weq2, zn_wlt0, zn_wltn, zn_win, zn_wcl, zn_wadd, Nat.not_lt_zero, Nat.one_ne_zero, Nat.zero_ne_one, Nat.le_refl, Nat.zero_le, zn_sel_r, zn_sel_l, e1]
    exact zf_no (i := 0) h hn rfl ex ek y0 y4 y8
end
