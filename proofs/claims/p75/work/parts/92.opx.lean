set_option maxHeartbeats 400000
/-! the class alone: calls that change it, within what they require -/
def HX (C : Nat → Option Mem) (m33 : Nat → Int32) (T : Nat → SM) (hc : Nat) : Prop := m33 0 = nI hc ∧ hc ≤ 6 ∧ ∀ i, i < hc → ∃ N, C i = some N ∧ RX N (T i)
theorem zh_n_le (hc : Nat) : zh_n hc ≤ 6 := by
  unfold zh_n
  split <;> omega
theorem zh_n_pos (hc : Nat) : 0 < zh_n hc := by
  unfold zh_n
  split <;> omega
theorem zh_T_top {hc : Nat} (h6 : hc ≤ 6) (T : Nat → SM) (S : SM) : zh_T hc T S (zh_n hc - 1) = S := by
  unfold zh_T zh_n
  by_cases c : hc < 6
  · rw [if_pos c, if_pos c, Nat.add_sub_cancel]
    exact if_pos rfl
  · rw [if_neg c, if_neg c]
    exact if_pos rfl
def OX (C : Nat → Option Mem) (M : Mem) (T : Nat → SM) (hc : Nat) (S : SM) (fx : Option ((String ⊕ Int32) × Mem × (Nat → Option Mem))) (S' : SM) : Prop := ∃ v z2 z3, fx = some (.inr v, z2, z3) ∧ RX (ofs 1 z2) S' ∧ HX z3 (z2 33) (zh_T hc T S) (zh_n hc) ∧ z2 36 = M 36 ∧ z2 37 = M 37
section
variable {u hc : Nat} {C : Nat → Option Mem} {M : Mem} {S : SM} {T : Nat → SM}
theorem HX.svv (h : HX C (M 33) T hc) (g : GX u S) {P : Mem} (hP : RX (ofs 3 P) S) (hP0 : P 0 0 = M 33 0) : ∃ q, fX1_save C P = some q ∧ HX q.2 (q.1 0) (zh_T hc T S) (zh_n hc) := by
  obtain ⟨a1, a3, a4⟩ := h
  obtain ⟨q, e1, q0, q1, q2⟩ := zx_save (C := C) (T := T) a3 (hP0.trans a1) hP g.lo.2.1 g.lo.2.2.2 a4
  exact ⟨q, e1, q0, zh_n_le hc, q1⟩
theorem HX.sv (h : HX C (M 33) T hc) (hX : RX (ofs 1 M) S) (g : GX u S) : ∃ q, fX1_save C (pk [33, 34, 35, 1, 2, 3, 4, 5, 6, 7, 8, 9, 10, 11, 12, 13, 14, 15, 16] M) = some q ∧ HX q.2 (q.1 0) (zh_T hc T S) (zh_n hc) := h.svv g (P := pk [33, 34, 35, 1, 2, 3, 4, 5, 6, 7, 8, 9, 10, 11, 12, 13, 14, 15, 16] M) (hX.of rfl rfl rfl rfl rfl rfl rfl rfl rfl rfl rfl rfl rfl rfl rfl) rfl
theorem xo_add (h : HX C (M 33) T hc) (hX : RX (ofs 1 M) S) (g : GX u S) {w : Nat} (w1 : 1 ≤ w) (w4 : w ≤ 4) (c0 : S 1 0 < 12) (c1 : S 1 1 = 0) (c2 : 0 < zs_fp (zs_tq S) w) : OX C M T hc S (fX8_addShelf C M (nI w)) (zo_add S (zs_fp (zs_tq S) w - 1) w) := by
  have hT : RT (ofs 2 M) S := hX.t
  have hm0 : M 2 0 = nI (S 1 0) := hX.c
  have hw12 := g.1.2.1
  obtain ⟨q, es, hq⟩ := h.sv hX g
  have e1 := xr_height M w1 w4
  have e4 := zr_win hX (by omega)
  rw [if_pos c1] at e4
  have e6 := zx_firstFree hT g.1 w4
  rw [wI_p c2] at e6
  have fl := zs_fp_le (zs_tq S) w
  have pm : ¬ nI (zs_fp (zs_tq S) w - 1) = (-1 : Int32) := zo_nm1 (by omega)
  obtain ⟨zb, eb, hzb⟩ := zx_addAt (T := ofs 2 (sr M 33 (q.1 0))) (S := S) hT c0 (zs_fp (zs_tq S) w - 1) w
  unfold fX8_addShelf
  simp (disch := omega) only [li0, li1, li2, li3, li4, li5, li6, li7, li8, li9, li10, li12, li13, li14, li15, li19, li20, li31, li33, li40, li42, li44, li48, li57, li60, li99, li100, li126, li150, li176, li177, li187, li197, li207, li208, li223, li304, li608, li1520, li1824, nI_add, pk_mul, nI_clamp, nI_leI, nI_ltI, nI_eq, zn_inb, zn_gd, zn_bs, zn_isb, not_true_eq_false, not_false_eq_true, ↓reduceIte, pk_div, pk_sub, zn_rem20, zn_rem2, zn_m1, zn_eqw, zn_weq, zn_weq2, zn_wlt0, zn_wltn, zn_win, zn_wcl, zn_wadd, Nat.not_lt_zero, Nat.one_ne_zero, Nat.zero_ne_one, Nat.le_refl, Nat.zero_le, zn_sel_r, zn_sel_l, e1, hm0, c0, e4, e6, pm, es, eb, inrs, Option.map_some]
  exact ⟨_, _, _, rfl, ⟨⟨hzb.1, hzb.2.1, hzb.2.2.1, hzb.2.2.2.1, hzb.2.2.2.2.1, hzb.2.2.2.2.2⟩, hX.2.1, hX.r7, hX.r8, hX.r10, hX.r11, hX.r12, hX.r13, hX.r15⟩, hq, rfl, rfl⟩
theorem xo_scrap (h : HX C (M 33) T hc) (hX : RX (ofs 1 M) S) (g : GX u S) {f : Nat} (hf : f < S 1 0) (c1 : ¬ S 1 1 = f + 1) (qb : zs_bare S f = true) : OX C M T hc S (fX8_scrap C M (nI f)) (zo_scrap S f) := by
  have hc12 := g.c12
  have hw12 := g.1.2.1
  have hT : RT (ofs 2 M) S := hX.t
  have hm1 : M 2 1 = wI (S 1 1) := hX.w
  have hm2 : M 3 f = nI (S 2 f) := hX.r2 f (by omega)
  obtain ⟨q, es, hq⟩ := h.sv hX g
  have e1 := zd_rs hX hc12 hf
  have e4 := zx_isEmpty hT (f := f) (by omega) (fun k hk => g.1.2.2.2.2.1 f k hf hk)
  rw [qb, cond_true] at e4
  obtain ⟨zb, eb, hzb⟩ := zx_rem (T := ofs 2 (sr M 33 (q.1 0))) (S := S) hT hc12 hw12 hf
  unfold fX8_scrap
  simp (disch := omega) only [li0, li1, li2, li3, li4, li5, li6, li7, li8, li9, li10, li12, li13, li14, li15, li19, li20, li31, li33, li40, li42, li44, li48, li57, li60, li99, li100, li126, li150, li176, li177, li187, li197, li207, li208, li223, li304, li608, li1520, li1824, nI_add, pk_mul, nI_clamp, nI_leI, nI_ltI, nI_eq, zn_inb, zn_gd, zn_bs, zn_isb, not_true_eq_false, not_false_eq_true, ↓reduceIte, pk_div, pk_sub, zn_rem20, zn_rem2, zn_m1, zn_eqw, zn_weq, zn_weq2, zn_wlt0, zn_wltn, zn_win, zn_wcl, zn_wadd, Nat.not_lt_zero, Nat.one_ne_zero, Nat.zero_ne_one, Nat.le_refl, Nat.zero_le, zn_sel_r, zn_sel_l, e1, hm1, c1, e4, es, eb, hm2, inrs, Option.map_some]
  exact ⟨_, _, _, rfl, ⟨⟨hzb.1, hzb.2.1, hzb.2.2.1, hzb.2.2.2.1, hzb.2.2.2.2.1, hzb.2.2.2.2.2⟩, hX.2.1, hX.r7, hX.r8, hX.r10, hX.r11, hX.r12, hX.r13, hX.r15⟩, hq, rfl, rfl⟩
theorem xo_fetch (h : HX C (M 33) T hc) (hX : RX (ofs 1 M) S) (g : GX u S) {f : Nat} (hf : f < S 1 0) (c1 : S 1 1 = 0) : OX C M T hc S (fX8_fetch C M (nI f)) (zo_bring S f) := by
  have hc12 := g.c12
  have e1 := zd_rs hX hc12 hf
  obtain ⟨q, es, hq⟩ := h.sv hX g
  have e4 := zr_win hX (by omega)
  rw [if_pos c1] at e4
  obtain ⟨zb, eb, hzb, ezb⟩ := zx_bring (M := ofs 1 (sr M 33 (q.1 0))) (S := S) (hX.of rfl rfl rfl rfl rfl rfl rfl rfl rfl rfl rfl rfl rfl rfl rfl ) g hf
  unfold fX8_fetch
  simp (disch := omega) only [li0, li1, li2, li3, li4, li5, li6, li7, li8, li9, li10, li12, li13, li14, li15, li19, li20, li31, li33, li40, li42, li44, li48, li57, li60, li99, li100, li126, li150, li176, li177, li187, li197, li207, li208, li223, li304, li608, li1520, li1824, nI_add, pk_mul, nI_clamp, nI_leI, nI_ltI, nI_eq, zn_inb, zn_gd, zn_bs, zn_isb, not_true_eq_false, not_false_eq_true, ↓reduceIte, pk_div, pk_sub, zn_rem20, zn_rem2, zn_m1, zn_eqw, zn_weq, zn_weq2, zn_wlt0, zn_wltn, zn_win, zn_wcl, zn_wadd, Nat.not_lt_zero, Nat.one_ne_zero, Nat.zero_ne_one, Nat.le_refl, Nat.zero_le, zn_sel_r, zn_sel_l, e1, e4, es, eb, inrs, Option.map_some]
  exact ⟨_, _, _, rfl, hzb.of (congrFun ezb 0).symm rfl (congrFun ezb 2).symm (congrFun ezb 3).symm rfl (congrFun ezb 5).symm rfl rfl rfl (congrFun ezb 10).symm (congrFun ezb 11).symm (congrFun ezb 12).symm (congrFun ezb 13).symm (congrFun ezb 14).symm (congrFun ezb 15).symm, hq, rfl, rfl⟩
theorem xo_stow (h : HX C (M 33) T hc) (hX : RX (ofs 1 M) S) (g : GX u S) (hw0 : 0 < S 1 1) : OX C M T hc S (fX8_stow C M) (zo_put S (zs_sp S)) := by
  have hc12 := g.c12
  have hw12 := g.1.2.1
  obtain ⟨q, es, hq⟩ := h.sv hX g
  have e4 := zr_at hX hc12 hw12
  rw [if_neg (by omega)] at e4
  obtain ⟨zb, eb, hzb, ezb⟩ := zx_putBack (M := ofs 1 (sr M 33 (q.1 0))) (S := S) (hX.of rfl rfl rfl rfl rfl rfl rfl rfl rfl rfl rfl rfl rfl rfl rfl ) g hw0
  unfold fX8_stow
  simp (disch := omega) only [li0, li1, li2, li3, li4, li5, li6, li7, li8, li9, li10, li12, li13, li14, li15, li19, li20, li31, li33, li40, li42, li44, li48, li57, li60, li99, li100, li126, li150, li176, li177, li187, li197, li207, li208, li223, li304, li608, li1520, li1824, nI_add, pk_mul, nI_clamp, nI_leI, nI_ltI, nI_eq, zn_inb, zn_gd, zn_bs, zn_isb, not_true_eq_false, not_false_eq_true, ↓reduceIte, pk_div, pk_sub, zn_rem20, zn_rem2, zn_m1, zn_eqw, zn_weq, zn_weq2, zn_wlt0, zn_wltn, zn_win, zn_wcl, zn_wadd, Nat.not_lt_zero, Nat.one_ne_zero, Nat.zero_ne_one, Nat.le_refl, Nat.zero_le, zn_sel_r, zn_sel_l, e4, es, eb, inrs, Option.map_some]
  exact ⟨_, _, _, rfl, hzb.of (congrFun ezb 0).symm rfl (congrFun ezb 2).symm rfl (congrFun ezb 4).symm (congrFun ezb 5).symm rfl rfl rfl (congrFun ezb 10).symm (congrFun ezb 11).symm (congrFun ezb 12).symm (congrFun ezb 13).symm (congrFun ezb 14).symm (congrFun ezb 15).symm, hq, rfl, rfl⟩
theorem xo_fill (h : HX C (M 33) T hc) (hX : RX (ofs 1 M) S) (g : GX u S) {f k m : Nat} (hw0 : S 1 1 = f + 1) (hk : k < 10) (m1 : 1 ≤ m) (m20 : m ≤ 20) (c2 : zs_wt S f + m * S 10 k ≤ 150) : OX C M T hc S (fX8_fill C M (nI k) (nI m)) (sw (sw S 5 (uw (S 5) (f * 10 + k) (S 5 (f * 10 + k) + m))) 12 (uw (S 12) k (S 12 k + m))) := by
  have hc12 := g.c12
  have hw12 := g.1.2.1
  obtain ⟨q, es, hq⟩ := h.sv hX g
  have e1 := zd_rk M hk
  have e6 := xr_many M m1 m20
  have e4 := zr_at hX hc12 hw12
  rw [if_neg (by omega)] at e4
  have hf : f < S 1 0 := by omega
  have n1 : M 2 1 = nI f := (show M 2 1 = wI (S 1 1) from hX.w).trans (by rw [hw0, wI_s])
  have bt := g.th f k hf hk
  have bw := g.2.2.1 f hf
  have bk := g.2.1 k hk
  have mm : m * S 10 k ≤ 20 * 9 := Nat.mul_le_mul m20 bk.2.1
  have n3 : M 11 k = nI (S 10 k) := hX.r10 k hk
  have n5 : M 13 k = nI (S 12 k) := hX.r12 k hk
  have e8 := zx_weighShelf hX (f := f) (by omega)
  have ec := zx_change (T := ofs 2 (sr (sr M 13 (upd (M 13) k (nI (S 12 k + m)))) 33 (q.1 0))) (f := f) (k := k) (by omega) hk (nI m)
  have t4 : ofs 2 (sr (sr M 13 (upd (M 13) k (nI (S 12 k + m)))) 33 (q.1 0)) 4 (f * 10 + k) = nI (S 5 (f * 10 + k)) := hX.r5 _ (by omega)
  rw [t4, nI_add] at ec
  unfold fX8_fill
  simp (disch := omega) only [li0, li1, li2, li3, li4, li5, li6, li7, li8, li9, li10, li12, li13, li14, li15, li19, li20, li31, li33, li40, li42, li44, li48, li57, li60, li99, li100, li126, li150, li176, li177, li187, li197, li207, li208, li223, li304, li608, li1520, li1824, nI_add, pk_mul, nI_clamp, nI_leI, nI_ltI, nI_eq, zn_inb, zn_gd, zn_bs, zn_isb, not_true_eq_false, not_false_eq_true, ↓reduceIte, pk_div, pk_sub, zn_rem20, zn_rem2, zn_m1, zn_eqw, zn_weq, zn_weq2, zn_wlt0, zn_wltn, zn_win, zn_wcl, zn_wadd, Nat.not_lt_zero, Nat.one_ne_zero, Nat.zero_ne_one, Nat.le_refl, Nat.zero_le, zn_sel_r, zn_sel_l, e1, e6, e4, n1, e8, n3, c2, es, n5, ec, inrs, Option.map_some]
  exact ⟨_, _, _, rfl, ⟨⟨hX.c, hX.w, hX.r2, hX.r3, hX.r4, rn_up hX.r5 _ _⟩, hX.2.1, hX.r7, hX.r8, hX.r10, hX.r11, rn_up hX.r12 k _, hX.r13, hX.r15⟩, hq, rfl, rfl⟩
theorem xo_take (h : HX C (M 33) T hc) (hX : RX (ofs 1 M) S) (g : GX u S) {f k m : Nat} (hw0 : S 1 1 = f + 1) (hk : k < 10) (m1 : 1 ≤ m) (m20 : m ≤ 20) (c2 : m ≤ S 5 (f * 10 + k)) : OX C M T hc S (fX8_take C M (nI k) (nI m)) (sw (sw S 5 (uw (S 5) (f * 10 + k) (S 5 (f * 10 + k) - m))) 13 (uw (S 13) k (S 13 k + m))) := by
  have hc12 := g.c12
  have hw12 := g.1.2.1
  have hT : RT (ofs 2 M) S := hX.t
  obtain ⟨q, es, hq⟩ := h.sv hX g
  have e1 := zd_rk M hk
  have e6 := xr_many M m1 m20
  have e4 := zr_at hX hc12 hw12
  rw [if_neg (by omega)] at e4
  have hf : f < S 1 0 := by omega
  have n1 : M 2 1 = nI f := (show M 2 1 = wI (S 1 1) from hX.w).trans (by rw [hw0, wI_s])
  have bt := g.th f k hf hk
  have n5 : M 14 k = nI (S 13 k) := hX.r13 k hk
  have e8 := zx_countIn hT (f := f) (k := k) (by omega) hk
  have ec := zx_change (T := ofs 2 (sr (sr M 14 (upd (M 14) k (nI (S 13 k + m)))) 33 (q.1 0))) (f := f) (k := k) (by omega) hk (-(nI m))
  have t4 : ofs 2 (sr (sr M 14 (upd (M 14) k (nI (S 13 k + m)))) 33 (q.1 0)) 4 (f * 10 + k) = nI (S 5 (f * 10 + k)) := hX.r5 _ (by omega)
  rw [t4, zn_addneg c2] at ec
  unfold fX8_take
  simp (disch := omega) only [li0, li1, li2, li3, li4, li5, li6, li7, li8, li9, li10, li12, li13, li14, li15, li19, li20, li31, li33, li40, li42, li44, li48, li57, li60, li99, li100, li126, li150, li176, li177, li187, li197, li207, li208, li223, li304, li608, li1520, li1824, nI_add, pk_mul, nI_clamp, nI_leI, nI_ltI, nI_eq, zn_inb, zn_gd, zn_bs, zn_isb, not_true_eq_false, not_false_eq_true, ↓reduceIte, pk_div, pk_sub, zn_rem20, zn_rem2, zn_m1, zn_eqw, zn_weq, zn_weq2, zn_wlt0, zn_wltn, zn_win, zn_wcl, zn_wadd, Nat.not_lt_zero, Nat.one_ne_zero, Nat.zero_ne_one, Nat.le_refl, Nat.zero_le, zn_sel_r, zn_sel_l, e1, e6, e4, n1, e8, c2, es, n5, ec, inrs, Option.map_some]
  exact ⟨_, _, _, rfl, ⟨⟨hX.c, hX.w, hX.r2, hX.r3, hX.r4, rn_up hX.r5 _ _⟩, hX.2.1, hX.r7, hX.r8, hX.r10, hX.r11, hX.r12, rn_up hX.r13 k _, hX.r15⟩, hq, rfl, rfl⟩
theorem xo_least (h : HX C (M 33) T hc) (hX : RX (ofs 1 M) S) (g : GX u S) {k v : Nat} (hk : k < 10) (v9 : v ≤ 99) : OX C M T hc S (fX8_changeLeast C M (nI k) (nI v)) (sw S 11 (uw (S 11) k v)) := by
  obtain ⟨q, es, hq⟩ := h.sv hX g
  have e1 := zd_rk M hk
  have m1 : M 12 k = nI (S 11 k) := hX.r11 k hk
  unfold fX8_changeLeast
  simp (disch := omega) only [li0, li1, li2, li3, li4, li5, li6, li7, li8, li9, li10, li12, li13, li14, li15, li19, li20, li31, li33, li40, li42, li44, li48, li57, li60, li99, li100, li126, li150, li176, li177, li187, li197, li207, li208, li223, li304, li608, li1520, li1824, nI_add, pk_mul, nI_clamp, nI_leI, nI_ltI, nI_eq, zn_inb, zn_gd, zn_bs, zn_isb, not_true_eq_false, not_false_eq_true, ↓reduceIte, pk_div, pk_sub, zn_rem20, zn_rem2, zn_m1, zn_eqw, zn_weq, zn_weq2, zn_wlt0, zn_wltn, zn_win, zn_wcl, zn_wadd, Nat.not_lt_zero, Nat.one_ne_zero, Nat.zero_ne_one, Nat.le_refl, Nat.zero_le, zn_sel_r, zn_sel_l, e1, es, m1, v9, inrs, Option.map_some]
  exact ⟨_, _, _, rfl, ⟨hX.1, hX.2.1, hX.r7, hX.r8, hX.r10, rn_up hX.r11 k v, hX.r12, hX.r13, hX.r15⟩, hq, rfl, rfl⟩
theorem xo_rule (h : HX C (M 33) T hc) (hX : RX (ofs 1 M) S) (g : GX u S) : OX C M T hc S (fX8_turnRule C M) (sw S 6 (uw (S 6) 1 (1 - S 6 1))) := by
  obtain ⟨q, es, hq⟩ := h.sv hX g
  have m1 : M 7 1 = nI (S 6 1) := hX.2.1.2.1
  have l2 := g.lo.2.1
  unfold fX8_turnRule
  rcases (show S 6 1 = 0 ∨ S 6 1 = 1 by omega) with e | e
  · rw [e] at m1 ⊢
    simp (disch := omega) only [li0, li1, li2, li3, li4, li5, li6, li7, li8, li9, li10, li12, li13, li14, li15, li19, li20, li31, li33, li40, li42, li44, li48, li57, li60, li99, li100, li126, li150, li176, li177, li187, li197, li207, li208, li223, li304, li608, li1520, li1824, nI_add, pk_mul, nI_clamp, nI_leI, nI_ltI, nI_eq, zn_inb, zn_gd, zn_bs, zn_isb, not_true_eq_false, not_false_eq_true, ↓reduceIte, pk_div, pk_sub, zn_rem20, zn_rem2, zn_m1, zn_eqw, zn_weq, zn_weq2, zn_wlt0, zn_wltn, zn_win, zn_wcl, zn_wadd, Nat.not_lt_zero, Nat.one_ne_zero, Nat.zero_ne_one, Nat.le_refl, Nat.zero_le, zn_sel_r, zn_sel_l, m1, es, inrs, Option.map_some]
    exact ⟨_, _, _, rfl, ⟨hX.1, ⟨hX.2.1.1, rfl, hX.2.1.2.2.1, hX.2.1.2.2.2.1, hX.2.1.2.2.2.2⟩, hX.r7, hX.r8, hX.r10, hX.r11, hX.r12, hX.r13, hX.r15⟩, hq, rfl, rfl⟩
  · rw [e] at m1 ⊢
    simp (disch := omega) only [li0, li1, li2, li3, li4, li5, li6, li7, li8, li9, li10, li12, li13, li14, li15, li19, li20, li31, li33, li40, li42, li44, li48, li57, li60, li99, li100, li126, li150, li176, li177, li187, li197, li207, li208, li223, li304, li608, li1520, li1824, nI_add, pk_mul, nI_clamp, nI_leI, nI_ltI, nI_eq, zn_inb, zn_gd, zn_bs, zn_isb, not_true_eq_false, not_false_eq_true, ↓reduceIte, pk_div, pk_sub, zn_rem20, zn_rem2, zn_m1, zn_eqw, zn_weq, zn_weq2, zn_wlt0, zn_wltn, zn_win, zn_wcl, zn_wadd, Nat.not_lt_zero, Nat.one_ne_zero, Nat.zero_ne_one, Nat.le_refl, Nat.zero_le, zn_sel_r, zn_sel_l, m1, es, inrs, Option.map_some, Nat.sub_self]
    exact ⟨_, _, _, rfl, ⟨hX.1, ⟨hX.2.1.1, rfl, hX.2.1.2.2.1, hX.2.1.2.2.2.1, hX.2.1.2.2.2.2⟩, hX.r7, hX.r8, hX.r10, hX.r11, hX.r12, hX.r13, hX.r15⟩, hq, rfl, rfl⟩
theorem xo_serveAll (h : HX C (M 33) T hc) (hX : RX (ofs 1 M) S) (g : GX u S) (h99 : S 99 0 = 0) (hu : u + 192 ≤ 200000) (c1 : S 1 1 = 0) : OX C M T hc S (fX8_serveAll C M) (zo_all 8 S).1 := by
  obtain ⟨q, es, hq⟩ := h.sv hX g
  have e4 := zr_win hX (by omega)
  rw [if_pos c1] at e4
  obtain ⟨zb, eb, hzb, ezb⟩ := zx_serveEach (M := ofs 1 (sr M 33 (q.1 0))) (S := S) (u := u) (hX.of rfl rfl rfl rfl rfl rfl rfl rfl rfl rfl rfl rfl rfl rfl rfl ) g h99 c1 hu
  unfold fX8_serveAll
  simp (disch := omega) only [li0, li1, li2, li3, li4, li5, li6, li7, li8, li9, li10, li12, li13, li14, li15, li19, li20, li31, li33, li40, li42, li44, li48, li57, li60, li99, li100, li126, li150, li176, li177, li187, li197, li207, li208, li223, li304, li608, li1520, li1824, nI_add, pk_mul, nI_clamp, nI_leI, nI_ltI, nI_eq, zn_inb, zn_gd, zn_bs, zn_isb, not_true_eq_false, not_false_eq_true, ↓reduceIte, pk_div, pk_sub, zn_rem20, zn_rem2, zn_m1, zn_eqw, zn_weq, zn_weq2, zn_wlt0, zn_wltn, zn_win, zn_wcl, zn_wadd, Nat.not_lt_zero, Nat.one_ne_zero, Nat.zero_ne_one, Nat.le_refl, Nat.zero_le, zn_sel_r, zn_sel_l, e4, es, eb, inrs, Option.map_some]
  exact ⟨_, _, _, rfl, hzb.of rfl rfl (congrFun ezb 2).symm rfl rfl rfl rfl rfl rfl (congrFun ezb 10).symm (congrFun ezb 11).symm (congrFun ezb 12).symm rfl rfl rfl, hq, rfl, rfl⟩
end
