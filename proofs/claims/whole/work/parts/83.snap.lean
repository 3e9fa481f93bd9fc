set_option maxHeartbeats 400000
/-! snapshots, undo, the beginning -/
theorem zt_keep : St_keep ZI := by
  intro n C M K x1 hn h
  obtain ⟨S, T, hc, ⟨hX, hK, g, h99⟩, hH, hB⟩ := id h
  obtain ⟨a1, a2, a3, a4, a5⟩ := id hH
  have lo := g.lo
  rcases zr_snap M x1 with ⟨sl, hsl, rfl, e1, e2⟩ | ⟨e1, e2⟩
  · obtain ⟨N, e3⟩ := zx_hold (C (6 + sl))
    obtain ⟨rr, e4, hr⟩ := zx_copyFrom (M := jn16 N (ofs 3 (pk [33, 34, 35, 1, 2, 3, 4, 5, 6, 7, 8, 9, 10, 11, 12, 13, 14, 15, 16] M))) (S := S) (hX.of rfl rfl rfl rfl rfl rfl rfl rfl rfl rfl rfl rfl rfl rfl rfl) lo.2.1 lo.2.2.2
    have ex : fX8_keep C M (nI sl) = some (.inr (), M, va_up C (6 + sl) (some rr)) := by
      unfold fX8_keep fX1_takeSnapshot
      simp (disch := omega) only [li0, li1, li2, li3, li4, li5, li6, li7, li8, li9, li10, li12, li13, li14, li15, li19, li20, li31, li33, li40, li42, li44, li48, li57, li60, li99, li100, li126, li150, li176, li177, li187, li197, li207, li208, li223, li304, li608, li1520, li1824, nI_add, pk_mul, nI_clamp, nI_leI, nI_ltI, nI_eq, zn_inb, zn_gd, zn_bs, zn_isb, not_true_eq_false, not_false_eq_true, ↓reduceIte, pk_div, pk_sub, zn_rem20, zn_rem2, zn_m1, zn_eqw, zn_weq, zn_weq2, zn_wlt0, zn_wltn, zn_win, zn_wcl, zn_wadd, Nat.not_lt_zero, Nat.one_ne_zero, Nat.zero_ne_one, Nat.le_refl, Nat.zero_le, zn_sel_r, zn_sel_l, e1, e3, e4, inrs, Option.map_some]
    obtain ⟨y, ek, y0, y5, y4, y4b⟩ : ∃ y : Mem, fX9_keep K (nI sl) = some y ∧ y 0 = upd (K 0) 0 (nI 0) ∧ y 5 = upd (K 5) sl (nI 1) ∧ (∀ i, i < 304 → y 4 (304 * sl + i) = K 1 i) ∧ (∀ i, ¬ (304 * sl ≤ i ∧ i < 304 * sl + 304) → y 4 i = K 4 i) := by
      unfold fX9_keep
      simp (disch := omega) only [li0, li1, li2, li3, li4, li5, li6, li7, li8, li9, li10, li12, li13, li14, li15, li19, li20, li31, li33, li40, li42, li44, li48, li57, li60, li99, li100, li126, li150, li176, li177, li187, li197, li207, li208, li223, li304, li608, li1520, li1824, nI_add, pk_mul, nI_clamp, nI_leI, nI_ltI, nI_eq, zn_inb, zn_gd, zn_bs, zn_isb, not_true_eq_false, not_false_eq_true, ↓reduceIte, pk_div, pk_sub, zn_rem20, zn_rem2, zn_m1, zn_eqw, zn_weq, zn_weq2, zn_wlt0, zn_wltn, zn_win, zn_wcl, zn_wadd, Nat.not_lt_zero, Nat.one_ne_zero, Nat.zero_ne_one, Nat.le_refl, Nat.zero_le, zn_sel_r, zn_sel_l, e2]
      refine zk_keep_L (K := K) (sl := sl) hsl (c0 := upd (K 0) 0 (nI 0)) (c4 := K 4) (c5 := K 5) (Q := fun y => y 0 = upd (K 0) 0 (nI 0) ∧ y 5 = upd (K 5) sl (nI 1) ∧ (∀ i, i < 304 → y 4 (304 * sl + i) = K 1 i) ∧ (∀ i, ¬ (304 * sl ≤ i ∧ i < 304 * sl + 304) → y 4 i = K 4 i)) (fun N h0 h5 h1 h3 => ?_) 304 0 5000 _ (by omega) (by omega) rfl rfl (fun i hi => absurd hi (by omega)) (fun i _ => rfl)
      simp (disch := omega) only [li0, li1, li2, li3, li4, li5, li6, li7, li8, li9, li10, li12, li13, li14, li15, li19, li20, li31, li33, li40, li42, li44, li48, li57, li60, li99, li100, li126, li150, li176, li177, li187, li197, li207, li208, li223, li304, li608, li1520, li1824, nI_add, pk_mul, nI_clamp, nI_leI, nI_ltI, nI_eq, zn_inb, zn_gd, zn_bs, zn_isb, not_true_eq_false, not_false_eq_true, ↓reduceIte, pk_div, pk_sub, zn_rem20, zn_rem2, zn_m1, zn_eqw, zn_weq, zn_weq2, zn_wlt0, zn_wltn, zn_win, zn_wcl, zn_wadd, Nat.not_lt_zero, Nat.one_ne_zero, Nat.zero_ne_one, Nat.le_refl, Nat.zero_le, zn_sel_r, zn_sel_l]
      refine ⟨_, rfl, h0, ?_, h1, h3⟩
      show upd (N 5) sl (nI 1) = _
      rw [h5]
    refine ⟨_, nI 0, M, _, y, ex, Or.inl ⟨_, rfl, rfl⟩, (fun E hE => by cases hE), ek, ?_, S, fun i => if i = 6 + sl then S else T i, hc, ⟨hX, hK, g.nx hn, h99⟩, ⟨a1, ?_, a3, fun i hi => ?_, fun i hi => ?_⟩, ?_⟩
    · show y 0 0 = nI 0
      rw [y0]
      exact up_s _ _ _
    · show y 0 4 = nI hc
      rw [y0]
      exact a2
    · obtain ⟨N, b1, b2⟩ := a4 i hi
      simp only [if_neg (show ¬ i = 6 + sl by omega)]
      exact ⟨N, (if_neg (by omega)).trans b1, b2.up hn⟩
    · by_cases q : i = sl
      · right
        refine ⟨rr, if_pos (by omega), ?_, ?_⟩
        · show y 5 i = nI 1
          rw [y5, q]
          exact up_s _ _ _
        · simp only [if_pos (show 6 + i = 6 + sl by omega)]
          refine ⟨hr, hK.of g.c12 g.o8 (fun j hj => ?_), g.nx hn, h99⟩
          show y 4 (304 * i + j) = K 1 j
          rw [q]
          exact y4 j hj
      · simp only [if_neg (show ¬ 6 + i = 6 + sl by omega)]
        have z5 : y 5 i = K 5 i := by
          rw [y5]
          exact up_n q
        rcases a5 i hi with b | ⟨N, b1, b2, b3⟩
        · left
          exact ⟨(if_neg (by omega)).trans b.1, z5.trans b.2⟩
        · right
          refine ⟨N, (if_neg (by omega)).trans b1, z5.trans b2, b3.1, b3.2.1.of b3.2.2.1.c12 b3.2.2.1.o8 (fun j hj => ?_), b3.2.2.1.nx hn, b3.2.2.2⟩
          show y 4 (304 * i + j) = K 4 (304 * i + j)
          exact y4b _ (by omega)
    · show ZB (M 36) (M 37) (y 0 8) (K 6)
      rw [y0]
      exact hB
  · have ex : fX8_keep C M x1 = some (.inl "java/lang/IllegalArgumentException", M, C) := by
      unfold fX8_keep
      simp (disch := omega) only [li0, li1, li2, li3, li4, li5, li6, li7, li8, li9, li10, li12, li13, li14, li15, li19, li20, li31, li33, li40, li42, li44, li48, li57, li60, li99, li100, li126, li150, li176, li177, li187, li197, li207, li208, li223, li304, li608, li1520, li1824, nI_add, pk_mul, nI_clamp, nI_leI, nI_ltI, nI_eq, zn_inb, zn_gd, zn_bs, zn_isb, not_true_eq_false, not_false_eq_true, ↓reduceIte, pk_div, pk_sub, zn_rem20, zn_rem2, zn_m1, zn_eqw, zn_weq, zn_weq2, zn_wlt0, zn_wltn, zn_win, zn_wcl, zn_wadd, Nat.not_lt_zero, Nat.one_ne_zero, Nat.zero_ne_one, Nat.le_refl, Nat.zero_le, zn_sel_r, zn_sel_l, e1]
    obtain ⟨y, ek, y0, y4, y8, y44, y5⟩ : ∃ y : Mem, fX9_keep K x1 = some y ∧ y 0 0 = nI (0 + 1) ∧ y 0 4 = K 0 4 ∧ y 0 8 = K 0 8 ∧ y 4 = K 4 ∧ y 5 = K 5 := by
      unfold fX9_keep
      simp (disch := omega) only [li0, li1, li2, li3, li4, li5, li6, li7, li8, li9, li10, li12, li13, li14, li15, li19, li20, li31, li33, li40, li42, li44, li48, li57, li60, li99, li100, li126, li150, li176, li177, li187, li197, li207, li208, li223, li304, li608, li1520, li1824, nI_add, pk_mul, nI_clamp, nI_leI, nI_ltI, nI_eq, zn_inb, zn_gd, zn_bs, zn_isb, not_true_eq_false, not_false_eq_true, ↓reduceIte, pk_div, pk_sub, zn_rem20, zn_rem2, zn_m1, zn_eqw, zn_weq, zn_weq2, zn_wlt0, zn_wltn, zn_win, zn_wcl, zn_wadd, Nat.not_lt_zero, Nat.one_ne_zero, Nat.zero_ne_one, Nat.le_refl, Nat.zero_le, zn_sel_r, zn_sel_l, e2]
      exact ⟨_, rfl, rfl, rfl, rfl, rfl, rfl⟩
    exact ⟨_, _, M, C, y, ex, Or.inr ⟨0, _, rfl, rfl, rfl⟩, fun _ _ => rfl, ek, y0, ZI.gen hn hH hB hX hK (g.nx hn) h99 rfl rfl rfl y4 y8 rfl y44 y5 rfl⟩
theorem zt_goBack : St_goBack ZI := by
  intro n C M K x1 hn h
  obtain ⟨S, T, hc, ⟨hX, hK, g, h99⟩, hH, hB⟩ := id h
  obtain ⟨a1, a2, a3, a4, a5⟩ := id hH
  obtain ⟨q, r, es, er, hH', r0⟩ := ZI.save (P := (pk [33, 34, 35, 1, 2, 3, 4, 5, 6, 7, 8, 9, 10, 11, 12, 13, 14, 15, 16] M)) (K0 := (sr K 0 (upd (K 0) 0 (nI 0)))) hn ⟨hX, hK, g, h99⟩ hH (hX.of rfl rfl rfl rfl rfl rfl rfl rfl rfl rfl rfl rfl rfl rfl rfl) rfl rfl rfl rfl
  have rt : r 0 0 = nI 0 := (r0 0 (by omega)).trans rfl
  have r8 : r 0 8 = K 0 8 := (r0 8 (by omega)).trans rfl
  have gn := g.nx hn
  rcases zr_snap M x1 with ⟨sl, hsl, rfl, e1, e2⟩ | ⟨e1, e2⟩
  · rcases a5 sl hsl with ⟨b1, b2⟩ | ⟨N, b1, b2, b3, b4, b5, b6⟩
    · have ex : fX8_goBack C M (nI sl) = some (.inl "java/lang/IllegalStateException", M, C) := by
        unfold fX8_goBack
        simp (disch := omega) only [li0, li1, li2, li3, li4, li5, li6, li7, li8, li9, li10, li12, li13, li14, li15, li19, li20, li31, li33, li40, li42, li44, li48, li57, li60, li99, li100, li126, li150, li176, li177, li187, li197, li207, li208, li223, li304, li608, li1520, li1824, nI_add, pk_mul, nI_clamp, nI_leI, nI_ltI, nI_eq, zn_inb, zn_gd, zn_bs, zn_isb, not_true_eq_false, not_false_eq_true, ↓reduceIte, pk_div, pk_sub, zn_rem20, zn_rem2, zn_m1, zn_eqw, zn_weq, zn_weq2, zn_wlt0, zn_wltn, zn_win, zn_wcl, zn_wadd, Nat.not_lt_zero, Nat.one_ne_zero, Nat.zero_ne_one, Nat.le_refl, Nat.zero_le, zn_sel_r, zn_sel_l, e1, b1]
      obtain ⟨y, ek, y0, y4, y8, y1, y3⟩ : ∃ y : Mem, fX9_goBack K (nI sl) = some y ∧ y 0 0 = nI (1 + 1) ∧ y 0 4 = K 0 4 ∧ y 0 8 = K 0 8 ∧ y 1 = K 1 ∧ y 3 = K 3 := by
        unfold fX9_goBack
        simp (disch := omega) only [li0, li1, li2, li3, li4, li5, li6, li7, li8, li9, li10, li12, li13, li14, li15, li19, li20, li31, li33, li40, li42, li44, li48, li57, li60, li99, li100, li126, li150, li176, li177, li187, li197, li207, li208, li223, li304, li608, li1520, li1824, nI_add, pk_mul, nI_clamp, nI_leI, nI_ltI, nI_eq, zn_inb, zn_gd, zn_bs, zn_isb, not_true_eq_false, not_false_eq_true, ↓reduceIte, pk_div, pk_sub, zn_rem20, zn_rem2, zn_m1, zn_eqw, zn_weq, zn_weq2, zn_wlt0, zn_wltn, zn_win, zn_wcl, zn_wadd, Nat.not_lt_zero, Nat.one_ne_zero, Nat.zero_ne_one, Nat.le_refl, Nat.zero_le, zn_sel_r, zn_sel_l, e2, b2]
        exact ⟨_, rfl, rfl, rfl, rfl, rfl, rfl⟩
      refine ⟨_, _, M, C, y, ex, Or.inr ⟨1, _, rfl, rfl, rfl⟩, fun _ _ => rfl, ek, y0, ZI.gen hn hH hB hX ?_ gn h99 rfl rfl rfl y4 y8 y3 rfl rfl rfl⟩
      show RK (y 1) S
      rw [y1]
      exact hK
    · obtain ⟨rr, e4, hr⟩ := zx_copyFrom (M := jn16 (ofs 1 (sr M 33 (q.1 0))) N) (S := T (6 + sl)) (b3.of rfl rfl rfl rfl rfl rfl rfl rfl rfl rfl rfl rfl rfl rfl rfl) b5.lo.2.1 b5.lo.2.2.2
      have ex : fX8_goBack C M (nI sl) = some (.inr (), jn1 (sr M 33 (q.1 0)) rr, q.2) := by
        unfold fX8_goBack
        simp (disch := omega) only [li0, li1, li2, li3, li4, li5, li6, li7, li8, li9, li10, li12, li13, li14, li15, li19, li20, li31, li33, li40, li42, li44, li48, li57, li60, li99, li100, li126, li150, li176, li177, li187, li197, li207, li208, li223, li304, li608, li1520, li1824, nI_add, pk_mul, nI_clamp, nI_leI, nI_ltI, nI_eq, zn_inb, zn_gd, zn_bs, zn_isb, not_true_eq_false, not_false_eq_true, ↓reduceIte, pk_div, pk_sub, zn_rem20, zn_rem2, zn_m1, zn_eqw, zn_weq, zn_weq2, zn_wlt0, zn_wltn, zn_win, zn_wcl, zn_wadd, Nat.not_lt_zero, Nat.one_ne_zero, Nat.zero_ne_one, Nat.le_refl, Nat.zero_le, zn_sel_r, zn_sel_l, e1, b1, es, e4, inrs, Option.map_some]
      obtain ⟨y, ek, y0, y3, y1⟩ : ∃ y : Mem, fX9_goBack K (nI sl) = some y ∧ y 0 = r 0 ∧ y 3 = r 3 ∧ (∀ i, i < 304 → y 1 i = K 4 (304 * sl + i)) := by
        unfold fX9_goBack
        simp (disch := omega) only [li0, li1, li2, li3, li4, li5, li6, li7, li8, li9, li10, li12, li13, li14, li15, li19, li20, li31, li33, li40, li42, li44, li48, li57, li60, li99, li100, li126, li150, li176, li177, li187, li197, li207, li208, li223, li304, li608, li1520, li1824, nI_add, pk_mul, nI_clamp, nI_leI, nI_ltI, nI_eq, zn_inb, zn_gd, zn_bs, zn_isb, not_true_eq_false, not_false_eq_true, ↓reduceIte, pk_div, pk_sub, zn_rem20, zn_rem2, zn_m1, zn_eqw, zn_weq, zn_weq2, zn_wlt0, zn_wltn, zn_win, zn_wcl, zn_wadd, Nat.not_lt_zero, Nat.one_ne_zero, Nat.zero_ne_one, Nat.le_refl, Nat.zero_le, zn_sel_r, zn_sel_l, e2, b2, er]
        refine zk_goBack_L (K := K) (sl := sl) hsl (c0 := r 0) (c3 := r 3) (Q := fun y => y 0 = r 0 ∧ y 3 = r 3 ∧ (∀ i, i < 304 → y 1 i = K 4 (304 * sl + i))) (fun N h0 h3 h1 => ?_) 304 0 5000 _ (by omega) (by omega) rfl rfl (fun i hi => absurd hi (by omega))
        exact ⟨_, rfl, h0, h3, h1⟩
      refine ⟨_, nI 0, _, q.2, y, ex, Or.inl ⟨_, rfl, rfl⟩, (fun E hE => by cases hE), ek, ?_, ZI.gen2 hH' hB (S' := T (6 + sl)) ?_ ?_ (b5.nx hn) b6 rfl rfl rfl ?_ ?_ y3 rfl rfl rfl⟩
      · show y 0 0 = nI 0
        rw [y0]
        exact rt
      · exact hr.of rfl rfl rfl rfl rfl rfl rfl rfl rfl rfl rfl rfl rfl rfl rfl
      · exact b4.of b5.c12 b5.o8 (fun j hj => y1 j hj)
      · exact congrFun y0 4
      · exact (congrFun y0 8).trans r8
  · have ex : fX8_goBack C M x1 = some (.inl "java/lang/IllegalArgumentException", M, C) := by
      unfold fX8_goBack
      simp (disch := omega) only [li0, li1, li2, li3, li4, li5, li6, li7, li8, li9, li10, li12, li13, li14, li15, li19, li20, li31, li33, li40, li42, li44, li48, li57, li60, li99, li100, li126, li150, li176, li177, li187, li197, li207, li208, li223, li304, li608, li1520, li1824, nI_add, pk_mul, nI_clamp, nI_leI, nI_ltI, nI_eq, zn_inb, zn_gd, zn_bs, zn_isb, not_true_eq_false, not_false_eq_true, ↓reduceIte, pk_div, pk_sub, zn_rem20, zn_rem2, zn_m1, zn_eqw, zn_weq, zn_weq2, zn_wlt0, zn_wltn, zn_win, zn_wcl, zn_wadd, Nat.not_lt_zero, Nat.one_ne_zero, Nat.zero_ne_one, Nat.le_refl, Nat.zero_le, zn_sel_r, zn_sel_l, e1]
    obtain ⟨y, ek, y0, y4, y8, y1, y3⟩ : ∃ y : Mem, fX9_goBack K x1 = some y ∧ y 0 0 = nI (0 + 1) ∧ y 0 4 = K 0 4 ∧ y 0 8 = K 0 8 ∧ y 1 = K 1 ∧ y 3 = K 3 := by
      unfold fX9_goBack
      simp (disch := omega) only [li0, li1, li2, li3, li4, li5, li6, li7, li8, li9, li10, li12, li13, li14, li15, li19, li20, li31, li33, li40, li42, li44, li48, li57, li60, li99, li100, li126, li150, li176, li177, li187, li197, li207, li208, li223, li304, li608, li1520, li1824, nI_add, pk_mul, nI_clamp, nI_leI, nI_ltI, nI_eq, zn_inb, zn_gd, zn_bs, zn_isb, not_true_eq_false, not_false_eq_true, ↓reduceIte, pk_div, pk_sub, zn_rem20, zn_rem2, zn_m1, zn_eqw, zn_weq, zn_weq2, zn_wlt0, zn_wltn, zn_win, zn_wcl, zn_wadd, Nat.not_lt_zero, Nat.one_ne_zero, Nat.zero_ne_one, Nat.le_refl, Nat.zero_le, zn_sel_r, zn_sel_l, e2]
      exact ⟨_, rfl, rfl, rfl, rfl, rfl, rfl⟩
    refine ⟨_, _, M, C, y, ex, Or.inr ⟨0, _, rfl, rfl, rfl⟩, fun _ _ => rfl, ek, y0, ZI.gen hn hH hB hX ?_ gn h99 rfl rfl rfl y4 y8 y3 rfl rfl rfl⟩
    show RK (y 1) S
    rw [y1]
    exact hK
theorem zt_undo : St_undo ZI := by
  intro n C M K hn h
  obtain ⟨S, T, hc, ⟨hX, hK, g, h99⟩, hH, hB⟩ := id h
  obtain ⟨a1, a2, a3, a4, a5⟩ := id hH
  have gn := g.nx hn
  have p0 : (pk [33, 34, 35, 1, 2, 3, 4, 5, 6, 7, 8, 9, 10, 11, 12, 13, 14, 15, 16] M) 0 0 = nI hc := a1
  by_cases c : hc = 0
  · have e0 : fX1_restoreLatest C (pk [33, 34, 35, 1, 2, 3, 4, 5, 6, 7, 8, 9, 10, 11, 12, 13, 14, 15, 16] M) = some (nI 0, pk [33, 34, 35, 1, 2, 3, 4, 5, 6, 7, 8, 9, 10, 11, 12, 13, 14, 15, 16] M) := by
      unfold fX1_restoreLatest
      rw [p0, c, if_pos (show nI 0 ≤ 0 by decide)]
      rfl
    obtain ⟨z2, ex, hx2, e33, e36, e37⟩ : ∃ z2, fX8_undo C M = some (.inl "java/lang/IllegalStateException", z2, C) ∧ RX (ofs 1 z2) S ∧ z2 33 = M 33 ∧ z2 36 = M 36 ∧ z2 37 = M 37 := by
      unfold fX8_undo
      simp (disch := omega) only [li0, li1, li2, li3, li4, li5, li6, li7, li8, li9, li10, li12, li13, li14, li15, li19, li20, li31, li33, li40, li42, li44, li48, li57, li60, li99, li100, li126, li150, li176, li177, li187, li197, li207, li208, li223, li304, li608, li1520, li1824, nI_add, pk_mul, nI_clamp, nI_leI, nI_ltI, nI_eq, zn_inb, zn_gd, zn_bs, zn_isb, not_true_eq_false, not_false_eq_true, ↓reduceIte, pk_div, pk_sub, zn_rem20, zn_rem2, zn_m1, zn_eqw, zn_weq, zn_weq2, zn_wlt0, zn_wltn, zn_win, zn_wcl, zn_wadd, Nat.not_lt_zero, Nat.one_ne_zero, Nat.zero_ne_one, Nat.le_refl, Nat.zero_le, zn_sel_r, zn_sel_l, e0]
      exact ⟨_, rfl, hX.of rfl rfl rfl rfl rfl rfl rfl rfl rfl rfl rfl rfl rfl rfl rfl, rfl, rfl, rfl⟩
    obtain ⟨y, ek, y0, y4, y8, y1⟩ : ∃ y : Mem, fX9_undo K = some y ∧ y 0 0 = nI (0 + 1) ∧ y 0 4 = K 0 4 ∧ y 0 8 = K 0 8 ∧ y 1 = K 1 := by
      have k4 : K 0 4 = nI 0 := by rw [a2, c]
      unfold fX9_undo
      simp (disch := omega) only [li0, li1, li2, li3, li4, li5, li6, li7, li8, li9, li10, li12, li13, li14, li15, li19, li20, li31, li33, li40, li42, li44, li48, li57, li60, li99, li100, li126, li150, li176, li177, li187, li197, li207, li208, li223, li304, li608, li1520, li1824, nI_add, pk_mul, nI_clamp, nI_leI, nI_ltI, nI_eq, zn_inb, zn_gd, zn_bs, zn_isb, not_true_eq_false, not_false_eq_true, ↓reduceIte, pk_div, pk_sub, zn_rem20, zn_rem2, zn_m1, zn_eqw, zn_weq, zn_weq2, zn_wlt0, zn_wltn, zn_win, zn_wcl, zn_wadd, Nat.not_lt_zero, Nat.one_ne_zero, Nat.zero_ne_one, Nat.le_refl, Nat.zero_le, zn_sel_r, zn_sel_l, k4]
      exact ⟨_, rfl, rfl, k4, rfl, rfl⟩
    refine ⟨_, _, z2, C, y, ex, Or.inr ⟨0, _, rfl, rfl, rfl⟩, fun _ _ => rfl, ek, y0, ZI.gen hn hH hB hx2 ?_ gn h99 e33 e36 e37 y4 y8 rfl rfl rfl rfl⟩
    show RK (y 1) S
    rw [y1]
    exact hK
  · obtain ⟨N, b1, b3, b4, b5, b6⟩ := a4 (hc - 1) (by omega)
    obtain ⟨rr, e4, hr⟩ := zx_copyFrom (M := jn16 (ofs 3 (pk [33, 34, 35, 1, 2, 3, 4, 5, 6, 7, 8, 9, 10, 11, 12, 13, 14, 15, 16] M)) N) (S := T (hc - 1)) (b3.of rfl rfl rfl rfl rfl rfl rfl rfl rfl rfl rfl rfl rfl rfl rfl) b5.lo.2.1 b5.lo.2.2.2
    have e0 : fX1_restoreLatest C (pk [33, 34, 35, 1, 2, 3, 4, 5, 6, 7, 8, 9, 10, 11, 12, 13, 14, 15, 16] M) = some (nI 1, jn3 (pk [33, 34, 35, 1, 2, 3, 4, 5, 6, 7, 8, 9, 10, 11, 12, 13, 14, 15, 16] M) rr) := by
      have c0 : ¬ hc ≤ 0 := by omega
      unfold fX1_restoreLatest
      simp (disch := omega) only [li0, li1, li2, li3, li4, li5, li6, li7, li8, li9, li10, li12, li13, li14, li15, li19, li20, li31, li33, li40, li42, li44, li48, li57, li60, li99, li100, li126, li150, li176, li177, li187, li197, li207, li208, li223, li304, li608, li1520, li1824, nI_add, pk_mul, nI_clamp, nI_leI, nI_ltI, nI_eq, zn_inb, zn_gd, zn_bs, zn_isb, not_true_eq_false, not_false_eq_true, ↓reduceIte, pk_div, pk_sub, zn_rem20, zn_rem2, zn_m1, zn_eqw, zn_weq, zn_weq2, zn_wlt0, zn_wltn, zn_win, zn_wcl, zn_wadd, Nat.not_lt_zero, Nat.one_ne_zero, Nat.zero_ne_one, Nat.le_refl, Nat.zero_le, zn_sel_r, zn_sel_l, p0, c0, a3, b1, e4]
    obtain ⟨z2, ex, hx2, e33, e36, e37⟩ : ∃ z2, fX8_undo C M = some (.inr (), z2, C) ∧ RX (ofs 1 z2) (T (hc - 1)) ∧ z2 33 0 = nI (hc - 1) ∧ z2 36 = M 36 ∧ z2 37 = M 37 := by
      unfold fX8_undo
      simp (disch := omega) only [li0, li1, li2, li3, li4, li5, li6, li7, li8, li9, li10, li12, li13, li14, li15, li19, li20, li31, li33, li40, li42, li44, li48, li57, li60, li99, li100, li126, li150, li176, li177, li187, li197, li207, li208, li223, li304, li608, li1520, li1824, nI_add, pk_mul, nI_clamp, nI_leI, nI_ltI, nI_eq, zn_inb, zn_gd, zn_bs, zn_isb, not_true_eq_false, not_false_eq_true, ↓reduceIte, pk_div, pk_sub, zn_rem20, zn_rem2, zn_m1, zn_eqw, zn_weq, zn_weq2, zn_wlt0, zn_wltn, zn_win, zn_wcl, zn_wadd, Nat.not_lt_zero, Nat.one_ne_zero, Nat.zero_ne_one, Nat.le_refl, Nat.zero_le, zn_sel_r, zn_sel_l, e0]
      refine ⟨_, rfl, hr.of rfl rfl rfl rfl rfl rfl rfl rfl rfl rfl rfl rfl rfl rfl rfl, ?_, rfl, rfl⟩
      show M 33 0 - 1 = nI (hc - 1)
      rw [a1]
      exact pk_sub (show 1 ≤ hc by omega)
    obtain ⟨y, ek, y0, y1⟩ : ∃ y : Mem, fX9_undo K = some y ∧ y 0 = upd (upd (K 0) 0 (nI 0)) 4 (nI (hc - 1)) ∧ (∀ i, i < 304 → y 1 i = K 3 (304 * (hc - 1) + i)) := by
      unfold fX9_undo
      simp (disch := omega) only [li0, li1, li2, li3, li4, li5, li6, li7, li8, li9, li10, li12, li13, li14, li15, li19, li20, li31, li33, li40, li42, li44, li48, li57, li60, li99, li100, li126, li150, li176, li177, li187, li197, li207, li208, li223, li304, li608, li1520, li1824, nI_add, pk_mul, nI_clamp, nI_leI, nI_ltI, nI_eq, zn_inb, zn_gd, zn_bs, zn_isb, not_true_eq_false, not_false_eq_true, ↓reduceIte, pk_div, pk_sub, zn_rem20, zn_rem2, zn_m1, zn_eqw, zn_weq, zn_weq2, zn_wlt0, zn_wltn, zn_win, zn_wcl, zn_wadd, Nat.not_lt_zero, Nat.one_ne_zero, Nat.zero_ne_one, Nat.le_refl, Nat.zero_le, zn_sel_r, zn_sel_l, a2, c]
      refine zk_undo_L (K := K) (k4 := hc - 1) (by omega) (c0 := upd (upd (K 0) 0 (nI 0)) 4 (nI (hc - 1))) (up_s _ _ _) (Q := fun y => y 0 = upd (upd (K 0) 0 (nI 0)) 4 (nI (hc - 1)) ∧ (∀ i, i < 304 → y 1 i = K 3 (304 * (hc - 1) + i))) (fun N h0 h1 => ?_) 304 0 5000 _ (by omega) (by omega) rfl (fun i hi => absurd hi (by omega))
      exact ⟨_, rfl, h0, h1⟩
    refine ⟨_, nI 0, z2, C, y, ex, Or.inl ⟨_, rfl, rfl⟩, fun _ _ => rfl, ek, ?_, T (hc - 1), T, hc - 1, ⟨hx2, ?_, b5.nx hn, b6⟩, ⟨e33, ?_, by omega, fun i hi => ?_, fun i hi => ?_⟩, ?_⟩
    · show y 0 0 = nI 0
      rw [y0]
      rfl
    · exact b4.of b5.c12 b5.o8 (fun j hj => y1 j hj)
    · show y 0 4 = nI (hc - 1)
      rw [y0]
      exact up_s _ _ _
    · obtain ⟨N, d1, d2⟩ := a4 i (by omega)
      exact ⟨N, d1, d2.up hn⟩
    · rcases a5 i hi with b | ⟨N, d1, d2, d3⟩
      · exact Or.inl b
      · exact Or.inr ⟨N, d1, d2, d3.up hn⟩
    · show ZB (z2 36) (z2 37) (y 0 8) (K 6)
      rw [y0, e36, e37]
      exact hB
theorem zk_init_L {M : Mem} {kx : Mem → Option Mem} {Q : Mem → Prop} {c0 c5 : Nat → Int32} {c1 : Nat → Int32} (hk : ∀ N, N 0 = c0 → N 5 = c5 → (∀ i, N 1 i = if 177 ≤ i ∧ i < 187 then nI 1 else c1 i) → ∃ z, kx N = some z ∧ Q z) : ∀ d j n N, j + d = 10 → d < n → N 0 = c0 → N 5 = c5 → (∀ i, N 1 i = if 177 ≤ i ∧ i < 177 + j then nI 1 else c1 i) → ∃ z, fX9_init_L92 M n kx N (nI j) = some z ∧ Q z := by
  intro d
  induction d with
  | zero =>
    intro j n N hj hn h0 h5 h1
    obtain ⟨m, rfl⟩ : ∃ m, n = m + 1 := ⟨n - 1, by omega⟩
    obtain rfl : j = 10 := by omega
    rw [fX9_init_L92]
    simp (disch := omega) only [li0, li1, li2, li3, li4, li5, li6, li7, li8, li9, li10, li12, li13, li14, li15, li19, li20, li31, li33, li40, li42, li44, li48, li57, li60, li99, li100, li126, li150, li176, li177, li187, li197, li207, li208, li223, li304, li608, li1520, li1824, nI_add, pk_mul, nI_clamp, nI_leI, nI_ltI, nI_eq, zn_inb, zn_gd, zn_bs, zn_isb, not_true_eq_false, not_false_eq_true, ↓reduceIte, pk_div, pk_sub, zn_rem20, zn_rem2, zn_m1, zn_eqw, zn_weq, zn_weq2, zn_wlt0, zn_wltn, zn_win, zn_wcl, zn_wadd, Nat.not_lt_zero, Nat.one_ne_zero, Nat.zero_ne_one, Nat.le_refl, Nat.zero_le, zn_sel_r, zn_sel_l]
    exact hk _ h0 h5 h1
  | succ d ih =>
    intro j n N hj hn h0 h5 h1
    obtain ⟨m, rfl⟩ : ∃ m, n = m + 1 := ⟨n - 1, by omega⟩
    have c : ¬ 10 ≤ j := by omega
    rw [fX9_init_L92]
    simp (disch := omega) only [li0, li1, li2, li3, li4, li5, li6, li7, li8, li9, li10, li12, li13, li14, li15, li19, li20, li31, li33, li40, li42, li44, li48, li57, li60, li99, li100, li126, li150, li176, li177, li187, li197, li207, li208, li223, li304, li608, li1520, li1824, nI_add, pk_mul, nI_clamp, nI_leI, nI_ltI, nI_eq, zn_inb, zn_gd, zn_bs, zn_isb, not_true_eq_false, not_false_eq_true, ↓reduceIte, pk_div, pk_sub, zn_rem20, zn_rem2, zn_m1, zn_eqw, zn_weq, zn_weq2, zn_wlt0, zn_wltn, zn_win, zn_wcl, zn_wadd, Nat.not_lt_zero, Nat.one_ne_zero, Nat.zero_ne_one, Nat.le_refl, Nat.zero_le, zn_sel_r, zn_sel_l, c]
    refine ih (j + 1) m _ (by omega) (by omega) h0 h5 (fun i => ?_)
    show upd (N 1) (177 + j) (nI 1) i = _
    by_cases q : i = 177 + j
    · rw [q, up_s, if_pos (by omega)]
    · rw [up_n q, h1 i]
      by_cases b : 177 ≤ i ∧ i < 177 + j
      · rw [if_pos b, if_pos (by omega)]
      · rw [if_neg b, if_neg (by omega)]
theorem zs_0_gx (u : Nat) (hu : u ≤ 200000) : GX u zs_0 := by
  refine ⟨⟨Nat.zero_le _, Nat.le_refl _, ?_, ?_, ?_, ?_⟩, ?_, ?_, Nat.zero_le _, ?_, ?_, ⟨by show 0 < 20; omega, by show 1 < 2; omega, Nat.zero_le _, fun _ _ => by show 0 < 2; omega⟩, ?_, Nat.zero_le _, Nat.zero_le _, hu⟩
  · intro f hf
    exact absurd hf (Nat.not_lt_zero f)
  · intro f hf
    exact absurd hf (Nat.not_lt_zero f)
  · intro f k hf
    exact absurd hf (Nat.not_lt_zero f)
  · intro f k _ hk
    exact absurd hk (Nat.not_lt_zero k)
  · intro k _
    exact ⟨Nat.le_refl 1, by show 1 ≤ 9; omega, Nat.zero_le _⟩
  · intro f hf
    exact absurd hf (Nat.not_lt_zero f)
  · intro r k hr
    exact absurd hr (Nat.not_lt_zero r)
  · intro _ r hr
    exact absurd hr (Nat.not_lt_zero r)
  · intro f hf
    exact absurd hf (Nat.not_lt_zero f)
theorem zt_init : ∃ z8 z9 : Mem, fX8_init = some z8 ∧ fX9_init = some z9 ∧ ZI 0 (fun _ => none) z8 z9 := by
  obtain ⟨s6, e6, h6⟩ := zx_init6
  obtain ⟨y, ek, y0, y5, y1⟩ : ∃ y : Mem, fX9_init = some y ∧ y 0 = upd (fun _ => 0) 0 (nI 0) ∧ y 5 = (fun _ => 0) ∧ (∀ i, y 1 i = if 177 ≤ i ∧ i < 187 then nI 1 else upd (upd (fun _ => 0) 1 (wI 0)) 3 (nI 1) i) := by
    unfold fX9_init
    simp (disch := omega) only [li0, li1, li2, li3, li4, li5, li6, li7, li8, li9, li10, li12, li13, li14, li15, li19, li20, li31, li33, li40, li42, li44, li48, li57, li60, li99, li100, li126, li150, li176, li177, li187, li197, li207, li208, li223, li304, li608, li1520, li1824, nI_add, pk_mul, nI_clamp, nI_leI, nI_ltI, nI_eq, zn_inb, zn_gd, zn_bs, zn_isb, not_true_eq_false, not_false_eq_true, ↓reduceIte, pk_div, pk_sub, zn_rem20, zn_rem2, zn_m1, zn_eqw, zn_weq, zn_weq2, zn_wlt0, zn_wltn, zn_win, zn_wcl, zn_wadd, Nat.not_lt_zero, Nat.one_ne_zero, Nat.zero_ne_one, Nat.le_refl, Nat.zero_le, zn_sel_r, zn_sel_l]
    refine zk_init_L (M := m00) (c0 := upd (fun _ => 0) 0 (nI 0)) (c5 := fun _ => 0) (c1 := upd (upd (fun _ => 0) 1 (wI 0)) 3 (nI 1)) (Q := fun y => y 0 = upd (fun _ => 0) 0 (nI 0) ∧ y 5 = (fun _ => 0) ∧ (∀ i, y 1 i = if 177 ≤ i ∧ i < 187 then nI 1 else upd (upd (fun _ => 0) 1 (wI 0)) 3 (nI 1) i)) (fun N h0 h5 h1 => ?_) 10 0 5000 _ (by omega) (by omega) rfl rfl (fun i => by rw [if_neg (by omega)]; rfl)
    exact ⟨_, rfl, h0, h5, h1⟩
  obtain ⟨z, ez, hz, z33, z36⟩ : ∃ z, fX8_init = some z ∧ RX (ofs 1 z) zs_0 ∧ z 33 0 = nI 0 ∧ z 36 0 = nI 0 := by
    unfold fX8_init fX1_init fX5_init fX4_init
    simp only [e6, zn_bs]
    exact ⟨_, rfl, h6.of rfl rfl rfl rfl rfl rfl rfl rfl rfl rfl rfl rfl rfl rfl rfl, rfl, rfl⟩
  have low : ∀ i, i < 177 → i ≠ 1 → i ≠ 3 → y 1 i = nI 0 := fun i h1 h2 h3 => by
    rw [y1, if_neg (by omega), up_n h3, up_n h2]
    rfl
  have high : ∀ i, 187 ≤ i → y 1 i = nI 0 := fun i h1 => by
    rw [y1, if_neg (by omega), up_n (by omega), up_n (by omega)]
    rfl
  refine ⟨z, y, ez, ek, zs_0, fun _ => zs_0, 0, ⟨hz, ⟨low 0 (by omega) (by omega) (by omega), (y1 1).trans rfl, fun f hf => absurd hf (Nat.not_lt_zero f), fun f k hf => absurd hf (Nat.not_lt_zero f), ⟨low 2 (by omega) (by omega) (by omega), (y1 3).trans rfl, low 4 (by omega) (by omega) (by omega), low 5 (by omega) (by omega) (by omega), low 6 (by omega) (by omega) (by omega), low 7 (by omega) (by omega) (by omega), low 8 (by omega) (by omega) (by omega)⟩, fun k hk => ⟨?_, high _ (by omega), (high _ (by omega)).trans (show nI 0 = nI 0 - nI 0 by decide)⟩, fun i hi => ⟨high _ (by omega), high _ (by omega)⟩, fun r k hr => absurd hr (Nat.not_lt_zero r)⟩, zs_0_gx _ (by omega), rfl⟩, ⟨z33, ?_, by omega, fun i hi => absurd hi (Nat.not_lt_zero i), fun i hi => Or.inl ⟨rfl, ?_⟩⟩, 0, by omega, z36, ?_, fun i hi => absurd hi (Nat.not_lt_zero i)⟩
  · rw [y1, if_pos (by omega)]
    rfl
  · rw [y0]
    rfl
  · rw [y5]
    rfl
  · rw [y0]
    rfl
theorem zt_nop : ∀ (n : Nat) (C : Nat → Option Mem) (M K : Mem), n < 512 → ZI n C M K → ZI (n + 1) C M K := fun n C M K hn h => h.up hn
