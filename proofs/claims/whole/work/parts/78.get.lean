set_option maxHeartbeats 400000
/-! the calls that change nothing, one argument or none -/
theorem zx_wantedG {O : Mem} {S : SM} (h : rn 80 (O 1) (S 15)) {r k : Nat} (hr : r < 8) (hk : k < 10) : fX3_wantedOf O (nI r) (nI k) = some (nI (S 15 (r * 10 + k))) := by
  have e2 := h (r * 10 + k) (by omega)
  unfold fX3_wantedOf
  simp (disch := omega) only [li0, li1, li2, li3, li4, li5, li6, li7, li8, li9, li10, li12, li13, li14, li15, li19, li20, li31, li33, li40, li42, li44, li48, li57, li60, li99, li100, li126, li150, li176, li177, li187, li197, li207, li208, li223, li304, li608, li1520, li1824, nI_add, pk_mul, nI_clamp, nI_leI, nI_ltI, nI_eq, zn_inb, zn_gd, zn_bs, zn_isb, not_true_eq_false, not_false_eq_true, ↓reduceIte, pk_div, pk_sub, zn_rem20, zn_rem2, zn_m1, zn_eqw, zn_weq, zn_weq2, zn_wlt0, zn_wltn, zn_win, zn_wcl, zn_wadd, Nat.not_lt_zero, Nat.one_ne_zero, Nat.zero_ne_one, Nat.le_refl, Nat.zero_le, zn_sel_r, zn_sel_l, e2]
theorem zx_sumG_L {O : Mem} {S : SM} (h : rn 80 (O 1) (S 15)) {r : Nat} (hr : r < 8) (kx : Int32 → Option Int32) : ∀ d k n, k + d = 10 → d < n → fX3_sumOf_L4 O n kx (nI r) (nI (fb_sm (fun k => S 15 (r * 10 + k)) k)) (nI k) = kx (nI (zs_wm S r)) := by
  intro d
  induction d with
  | zero =>
    intro k n hk_ hn
    obtain ⟨m, rfl⟩ : ∃ m, n = m + 1 := ⟨n - 1, by omega⟩
    have c : 10 ≤ k := by omega
    have ef : k = 10 := by omega
    rw [fX3_sumOf_L4]
    simp (disch := omega) only [li0, li1, li2, li3, li4, li5, li6, li7, li8, li9, li10, li12, li13, li14, li15, li19, li20, li31, li33, li40, li42, li44, li48, li57, li60, li99, li100, li126, li150, li176, li177, li187, li197, li207, li208, li223, li304, li608, li1520, li1824, nI_add, pk_mul, nI_clamp, nI_leI, nI_ltI, nI_eq, zn_inb, zn_gd, zn_bs, zn_isb, not_true_eq_false, not_false_eq_true, ↓reduceIte, pk_div, pk_sub, zn_rem20, zn_rem2, zn_m1, zn_eqw, zn_weq, zn_weq2, zn_wlt0, zn_wltn, zn_win, zn_wcl, zn_wadd, Nat.not_lt_zero, Nat.one_ne_zero, Nat.zero_ne_one, Nat.le_refl, Nat.zero_le, zn_sel_r, zn_sel_l, c]
    try rw [ef]
    try rfl
  | succ d ih =>
    intro k n hk_ hn
    obtain ⟨m, rfl⟩ : ∃ m, n = m + 1 := ⟨n - 1, by omega⟩
    have c : ¬ 10 ≤ k := by omega
    have ih1 := ih (k + 1) m (by omega) (by omega)
    have e := zx_wantedG h hr (k := k) (by omega)
    rw [fX3_sumOf_L4]
    simp (disch := omega) only [li0, li1, li2, li3, li4, li5, li6, li7, li8, li9, li10, li12, li13, li14, li15, li19, li20, li31, li33, li40, li42, li44, li48, li57, li60, li99, li100, li126, li150, li176, li177, li187, li197, li207, li208, li223, li304, li608, li1520, li1824, nI_add, pk_mul, nI_clamp, nI_leI, nI_ltI, nI_eq, zn_inb, zn_gd, zn_bs, zn_isb, not_true_eq_false, not_false_eq_true, ↓reduceIte, pk_div, pk_sub, zn_rem20, zn_rem2, zn_m1, zn_eqw, zn_weq, zn_weq2, zn_wlt0, zn_wltn, zn_win, zn_wcl, zn_wadd, Nat.not_lt_zero, Nat.one_ne_zero, Nat.zero_ne_one, Nat.le_refl, Nat.zero_le, zn_sel_r, zn_sel_l, c, e]
    exact ih1
theorem zx_sumG {O : Mem} {S : SM} (h : rn 80 (O 1) (S 15)) {r : Nat} (hr : r < 8) : fX3_sumOf O (nI r) = some (nI (zs_wm S r)) := by
  unfold fX3_sumOf
  exact zx_sumG_L h hr (fun (l2 : Int32) => some l2) 10 0 5000 (by omega) (by omega)
theorem zt_savedStates : St_savedStates ZI := by
  intro n C M K hn h
  obtain ⟨S, T, hc, hS, hH, hB⟩ := id h
  exact ⟨M 33 0, (K 0 4, sr K 0 (upd (K 0) 0 0)), rfl, rfl, hH.1.trans hH.2.1.symm, h.thr hn rfl rfl⟩
theorem zt_shelves : St_shelves ZI := by
  intro n C M K hn h
  obtain ⟨S, T, hc, ⟨hX, hK, g, h99⟩, hH, hB⟩ := id h
  have hc12 := g.c12
  have h8 := g.o8
  have lo := g.lo
  have hw12 := g.1.2.1
  have hT : RT (ofs 2 M) S := hX.t
  have hK0 : RK ((sr K 0 (upd (K 0) 0 (nI 0))) 1) S := hK
  have ex : fX8_shelves M = some (nI (S 1 0)) := by
    unfold fX8_shelves 
    simp (disch := omega) only [li0, li1, li2, li3, li4, li5, li6, li7, li8, li9, li10, li12, li13, li14, li15, li19, li20, li31, li33, li40, li42, li44, li48, li57, li60, li99, li100, li126, li150, li176, li177, li187, li197, li207, li208, li223, li304, li608, li1520, li1824, nI_add, pk_mul, nI_clamp, nI_leI, nI_ltI, nI_eq, zn_inb, zn_gd, zn_bs, zn_isb, not_true_eq_false, not_false_eq_true, ↓reduceIte, pk_div, pk_sub, zn_rem20, zn_rem2, zn_m1, zn_eqw, zn_weq, zn_weq2, zn_wlt0, zn_wltn, zn_win, zn_wcl, zn_wadd, Nat.not_lt_zero, Nat.one_ne_zero, Nat.zero_ne_one, Nat.le_refl, Nat.zero_le, zn_sel_r, zn_sel_l, show M 2 0 = _ from hX.c]
  obtain ⟨y, ek, y4, y8, y1⟩ : ∃ y : Int32 × Mem, fX9_shelves K = some y ∧ y.2 0 4 = K 0 4 ∧ y.2 0 8 = K 0 8 ∧ nI (S 1 0) = y.1 := by
    unfold fX9_shelves 
    simp (disch := omega) only [li0, li1, li2, li3, li4, li5, li6, li7, li8, li9, li10, li12, li13, li14, li15, li19, li20, li31, li33, li40, li42, li44, li48, li57, li60, li99, li100, li126, li150, li176, li177, li187, li197, li207, li208, li223, li304, li608, li1520, li1824, nI_add, pk_mul, nI_clamp, nI_leI, nI_ltI, nI_eq, zn_inb, zn_gd, zn_bs, zn_isb, not_true_eq_false, not_false_eq_true, ↓reduceIte, pk_div, pk_sub, zn_rem20, zn_rem2, zn_m1, zn_eqw, zn_weq, zn_weq2, zn_wlt0, zn_wltn, zn_win, zn_wcl, zn_wadd, Nat.not_lt_zero, Nat.one_ne_zero, Nat.zero_ne_one, Nat.le_refl, Nat.zero_le, zn_sel_r, zn_sel_l, hK.1]
    exact ⟨_, rfl, rfl, rfl, rfl⟩
  exact zf_nul h hn ex ek y4 y8 y1
theorem zt_lift : St_lift ZI := by
  intro n C M K hn h
  obtain ⟨S, T, hc, ⟨hX, hK, g, h99⟩, hH, hB⟩ := id h
  have hc12 := g.c12
  have h8 := g.o8
  have lo := g.lo
  have hw12 := g.1.2.1
  have hT : RT (ofs 2 M) S := hX.t
  have hK0 : RK ((sr K 0 (upd (K 0) 0 (nI 0))) 1) S := hK
  have ex : fX8_lift M = some (nI (S 6 0)) := by
    unfold fX8_lift 
    simp (disch := omega) only [li0, li1, li2, li3, li4, li5, li6, li7, li8, li9, li10, li12, li13, li14, li15, li19, li20, li31, li33, li40, li42, li44, li48, li57, li60, li99, li100, li126, li150, li176, li177, li187, li197, li207, li208, li223, li304, li608, li1520, li1824, nI_add, pk_mul, nI_clamp, nI_leI, nI_ltI, nI_eq, zn_inb, zn_gd, zn_bs, zn_isb, not_true_eq_false, not_false_eq_true, ↓reduceIte, pk_div, pk_sub, zn_rem20, zn_rem2, zn_m1, zn_eqw, zn_weq, zn_weq2, zn_wlt0, zn_wltn, zn_win, zn_wcl, zn_wadd, Nat.not_lt_zero, Nat.one_ne_zero, Nat.zero_ne_one, Nat.le_refl, Nat.zero_le, zn_sel_r, zn_sel_l, show M 7 0 = _ from hX.2.1.1]
  obtain ⟨y, ek, y4, y8, y1⟩ : ∃ y : Int32 × Mem, fX9_lift K = some y ∧ y.2 0 4 = K 0 4 ∧ y.2 0 8 = K 0 8 ∧ nI (S 6 0) = y.1 := by
    unfold fX9_lift 
    simp (disch := omega) only [li0, li1, li2, li3, li4, li5, li6, li7, li8, li9, li10, li12, li13, li14, li15, li19, li20, li31, li33, li40, li42, li44, li48, li57, li60, li99, li100, li126, li150, li176, li177, li187, li197, li207, li208, li223, li304, li608, li1520, li1824, nI_add, pk_mul, nI_clamp, nI_leI, nI_ltI, nI_eq, zn_inb, zn_gd, zn_bs, zn_isb, not_true_eq_false, not_false_eq_true, ↓reduceIte, pk_div, pk_sub, zn_rem20, zn_rem2, zn_m1, zn_eqw, zn_weq, zn_weq2, zn_wlt0, zn_wltn, zn_win, zn_wcl, zn_wadd, Nat.not_lt_zero, Nat.one_ne_zero, Nat.zero_ne_one, Nat.le_refl, Nat.zero_le, zn_sel_r, zn_sel_l, hK.2.2.2.2.1.1]
    exact ⟨_, rfl, rfl, rfl, rfl⟩
  exact zf_nul h hn ex ek y4 y8 y1
theorem zt_trips : St_trips ZI := by
  intro n C M K hn h
  obtain ⟨S, T, hc, ⟨hX, hK, g, h99⟩, hH, hB⟩ := id h
  have hc12 := g.c12
  have h8 := g.o8
  have lo := g.lo
  have hw12 := g.1.2.1
  have hT : RT (ofs 2 M) S := hX.t
  have hK0 : RK ((sr K 0 (upd (K 0) 0 (nI 0))) 1) S := hK
  have ex : fX8_trips M = some (nI (S 6 4)) := by
    unfold fX8_trips 
    simp (disch := omega) only [li0, li1, li2, li3, li4, li5, li6, li7, li8, li9, li10, li12, li13, li14, li15, li19, li20, li31, li33, li40, li42, li44, li48, li57, li60, li99, li100, li126, li150, li176, li177, li187, li197, li207, li208, li223, li304, li608, li1520, li1824, nI_add, pk_mul, nI_clamp, nI_leI, nI_ltI, nI_eq, zn_inb, zn_gd, zn_bs, zn_isb, not_true_eq_false, not_false_eq_true, ↓reduceIte, pk_div, pk_sub, zn_rem20, zn_rem2, zn_m1, zn_eqw, zn_weq, zn_weq2, zn_wlt0, zn_wltn, zn_win, zn_wcl, zn_wadd, Nat.not_lt_zero, Nat.one_ne_zero, Nat.zero_ne_one, Nat.le_refl, Nat.zero_le, zn_sel_r, zn_sel_l, show M 7 4 = _ from hX.2.1.2.2.2.2.1]
  obtain ⟨y, ek, y4, y8, y1⟩ : ∃ y : Int32 × Mem, fX9_trips K = some y ∧ y.2 0 4 = K 0 4 ∧ y.2 0 8 = K 0 8 ∧ nI (S 6 4) = y.1 := by
    unfold fX9_trips 
    simp (disch := omega) only [li0, li1, li2, li3, li4, li5, li6, li7, li8, li9, li10, li12, li13, li14, li15, li19, li20, li31, li33, li40, li42, li44, li48, li57, li60, li99, li100, li126, li150, li176, li177, li187, li197, li207, li208, li223, li304, li608, li1520, li1824, nI_add, pk_mul, nI_clamp, nI_leI, nI_ltI, nI_eq, zn_inb, zn_gd, zn_bs, zn_isb, not_true_eq_false, not_false_eq_true, ↓reduceIte, pk_div, pk_sub, zn_rem20, zn_rem2, zn_m1, zn_eqw, zn_weq, zn_weq2, zn_wlt0, zn_wltn, zn_win, zn_wcl, zn_wadd, Nat.not_lt_zero, Nat.one_ne_zero, Nat.zero_ne_one, Nat.le_refl, Nat.zero_le, zn_sel_r, zn_sel_l, hK.2.2.2.2.1.2.2.2.2.2.1]
    exact ⟨_, rfl, rfl, rfl, rfl⟩
  exact zf_nul h hn ex ek y4 y8 y1
theorem zt_orders : St_orders ZI := by
  intro n C M K hn h
  obtain ⟨S, T, hc, ⟨hX, hK, g, h99⟩, hH, hB⟩ := id h
  have hc12 := g.c12
  have h8 := g.o8
  have lo := g.lo
  have hw12 := g.1.2.1
  have hT : RT (ofs 2 M) S := hX.t
  have hK0 : RK ((sr K 0 (upd (K 0) 0 (nI 0))) 1) S := hK
  have ex : fX8_orders M = some (nI (S 14 0)) := by
    unfold fX8_orders 
    simp (disch := omega) only [li0, li1, li2, li3, li4, li5, li6, li7, li8, li9, li10, li12, li13, li14, li15, li19, li20, li31, li33, li40, li42, li44, li48, li57, li60, li99, li100, li126, li150, li176, li177, li187, li197, li207, li208, li223, li304, li608, li1520, li1824, nI_add, pk_mul, nI_clamp, nI_leI, nI_ltI, nI_eq, zn_inb, zn_gd, zn_bs, zn_isb, not_true_eq_false, not_false_eq_true, ↓reduceIte, pk_div, pk_sub, zn_rem20, zn_rem2, zn_m1, zn_eqw, zn_weq, zn_weq2, zn_wlt0, zn_wltn, zn_win, zn_wcl, zn_wadd, Nat.not_lt_zero, Nat.one_ne_zero, Nat.zero_ne_one, Nat.le_refl, Nat.zero_le, zn_sel_r, zn_sel_l, show M 15 0 = _ from hX.2.1.2.2.2.2.2.2]
  obtain ⟨y, ek, y4, y8, y1⟩ : ∃ y : Int32 × Mem, fX9_orders K = some y ∧ y.2 0 4 = K 0 4 ∧ y.2 0 8 = K 0 8 ∧ nI (S 14 0) = y.1 := by
    unfold fX9_orders 
    simp (disch := omega) only [li0, li1, li2, li3, li4, li5, li6, li7, li8, li9, li10, li12, li13, li14, li15, li19, li20, li31, li33, li40, li42, li44, li48, li57, li60, li99, li100, li126, li150, li176, li177, li187, li197, li207, li208, li223, li304, li608, li1520, li1824, nI_add, pk_mul, nI_clamp, nI_leI, nI_ltI, nI_eq, zn_inb, zn_gd, zn_bs, zn_isb, not_true_eq_false, not_false_eq_true, ↓reduceIte, pk_div, pk_sub, zn_rem20, zn_rem2, zn_m1, zn_eqw, zn_weq, zn_weq2, zn_wlt0, zn_wltn, zn_win, zn_wcl, zn_wadd, Nat.not_lt_zero, Nat.one_ne_zero, Nat.zero_ne_one, Nat.le_refl, Nat.zero_le, zn_sel_r, zn_sel_l, hK.2.2.2.2.1.2.2.2.2.2.2]
    exact ⟨_, rfl, rfl, rfl, rfl⟩
  exact zf_nul h hn ex ek y4 y8 y1
theorem zt_ticks : St_ticks ZI := by
  intro n C M K hn h
  obtain ⟨S, T, hc, ⟨hX, hK, g, h99⟩, hH, hB⟩ := id h
  have hc12 := g.c12
  have h8 := g.o8
  have lo := g.lo
  have hw12 := g.1.2.1
  have hT : RT (ofs 2 M) S := hX.t
  have hK0 : RK ((sr K 0 (upd (K 0) 0 (nI 0))) 1) S := hK
  have ex : fX8_ticks M = some (nI (S 6 2)) := by
    unfold fX8_ticks 
    simp (disch := omega) only [li0, li1, li2, li3, li4, li5, li6, li7, li8, li9, li10, li12, li13, li14, li15, li19, li20, li31, li33, li40, li42, li44, li48, li57, li60, li99, li100, li126, li150, li176, li177, li187, li197, li207, li208, li223, li304, li608, li1520, li1824, nI_add, pk_mul, nI_clamp, nI_leI, nI_ltI, nI_eq, zn_inb, zn_gd, zn_bs, zn_isb, not_true_eq_false, not_false_eq_true, ↓reduceIte, pk_div, pk_sub, zn_rem20, zn_rem2, zn_m1, zn_eqw, zn_weq, zn_weq2, zn_wlt0, zn_wltn, zn_win, zn_wcl, zn_wadd, Nat.not_lt_zero, Nat.one_ne_zero, Nat.zero_ne_one, Nat.le_refl, Nat.zero_le, zn_sel_r, zn_sel_l, show M 7 2 = _ from hX.2.1.2.2.1]
  obtain ⟨y, ek, y4, y8, y1⟩ : ∃ y : Int32 × Mem, fX9_ticks K = some y ∧ y.2 0 4 = K 0 4 ∧ y.2 0 8 = K 0 8 ∧ nI (S 6 2) = y.1 := by
    unfold fX9_ticks 
    simp (disch := omega) only [li0, li1, li2, li3, li4, li5, li6, li7, li8, li9, li10, li12, li13, li14, li15, li19, li20, li31, li33, li40, li42, li44, li48, li57, li60, li99, li100, li126, li150, li176, li177, li187, li197, li207, li208, li223, li304, li608, li1520, li1824, nI_add, pk_mul, nI_clamp, nI_leI, nI_ltI, nI_eq, zn_inb, zn_gd, zn_bs, zn_isb, not_true_eq_false, not_false_eq_true, ↓reduceIte, pk_div, pk_sub, zn_rem20, zn_rem2, zn_m1, zn_eqw, zn_weq, zn_weq2, zn_wlt0, zn_wltn, zn_win, zn_wcl, zn_wadd, Nat.not_lt_zero, Nat.one_ne_zero, Nat.zero_ne_one, Nat.le_refl, Nat.zero_le, zn_sel_r, zn_sel_l, hK.2.2.2.2.1.2.2.1]
    exact ⟨_, rfl, rfl, rfl, rfl⟩
  exact zf_nul h hn ex ek y4 y8 y1
theorem zt_fetches : St_fetches ZI := by
  intro n C M K hn h
  obtain ⟨S, T, hc, ⟨hX, hK, g, h99⟩, hH, hB⟩ := id h
  have hc12 := g.c12
  have h8 := g.o8
  have lo := g.lo
  have hw12 := g.1.2.1
  have hT : RT (ofs 2 M) S := hX.t
  have hK0 : RK ((sr K 0 (upd (K 0) 0 (nI 0))) 1) S := hK
  have ex : fX8_fetches M = some (nI (S 6 3)) := by
    unfold fX8_fetches 
    simp (disch := omega) only [li0, li1, li2, li3, li4, li5, li6, li7, li8, li9, li10, li12, li13, li14, li15, li19, li20, li31, li33, li40, li42, li44, li48, li57, li60, li99, li100, li126, li150, li176, li177, li187, li197, li207, li208, li223, li304, li608, li1520, li1824, nI_add, pk_mul, nI_clamp, nI_leI, nI_ltI, nI_eq, zn_inb, zn_gd, zn_bs, zn_isb, not_true_eq_false, not_false_eq_true, ↓reduceIte, pk_div, pk_sub, zn_rem20, zn_rem2, zn_m1, zn_eqw, zn_weq, zn_weq2, zn_wlt0, zn_wltn, zn_win, zn_wcl, zn_wadd, Nat.not_lt_zero, Nat.one_ne_zero, Nat.zero_ne_one, Nat.le_refl, Nat.zero_le, zn_sel_r, zn_sel_l, show M 7 3 = _ from hX.2.1.2.2.2.1]
  obtain ⟨y, ek, y4, y8, y1⟩ : ∃ y : Int32 × Mem, fX9_fetches K = some y ∧ y.2 0 4 = K 0 4 ∧ y.2 0 8 = K 0 8 ∧ nI (S 6 3) = y.1 := by
    unfold fX9_fetches 
    simp (disch := omega) only [li0, li1, li2, li3, li4, li5, li6, li7, li8, li9, li10, li12, li13, li14, li15, li19, li20, li31, li33, li40, li42, li44, li48, li57, li60, li99, li100, li126, li150, li176, li177, li187, li197, li207, li208, li223, li304, li608, li1520, li1824, nI_add, pk_mul, nI_clamp, nI_leI, nI_ltI, nI_eq, zn_inb, zn_gd, zn_bs, zn_isb, not_true_eq_false, not_false_eq_true, ↓reduceIte, pk_div, pk_sub, zn_rem20, zn_rem2, zn_m1, zn_eqw, zn_weq, zn_weq2, zn_wlt0, zn_wltn, zn_win, zn_wcl, zn_wadd, Nat.not_lt_zero, Nat.one_ne_zero, Nat.zero_ne_one, Nat.le_refl, Nat.zero_le, zn_sel_r, zn_sel_l, hK.2.2.2.2.1.2.2.2.1]
    exact ⟨_, rfl, rfl, rfl, rfl⟩
  exact zf_nul h hn ex ek y4 y8 y1
theorem zt_served : St_served ZI := by
  intro n C M K hn h
  obtain ⟨S, T, hc, ⟨hX, hK, g, h99⟩, hH, hB⟩ := id h
  have hc12 := g.c12
  have h8 := g.o8
  have lo := g.lo
  have hw12 := g.1.2.1
  have hT : RT (ofs 2 M) S := hX.t
  have hK0 : RK ((sr K 0 (upd (K 0) 0 (nI 0))) 1) S := hK
  have ex : fX8_served M = some (nI (S 0 4)) := by
    unfold fX8_served 
    simp (disch := omega) only [li0, li1, li2, li3, li4, li5, li6, li7, li8, li9, li10, li12, li13, li14, li15, li19, li20, li31, li33, li40, li42, li44, li48, li57, li60, li99, li100, li126, li150, li176, li177, li187, li197, li207, li208, li223, li304, li608, li1520, li1824, nI_add, pk_mul, nI_clamp, nI_leI, nI_ltI, nI_eq, zn_inb, zn_gd, zn_bs, zn_isb, not_true_eq_false, not_false_eq_true, ↓reduceIte, pk_div, pk_sub, zn_rem20, zn_rem2, zn_m1, zn_eqw, zn_weq, zn_weq2, zn_wlt0, zn_wltn, zn_win, zn_wcl, zn_wadd, Nat.not_lt_zero, Nat.one_ne_zero, Nat.zero_ne_one, Nat.le_refl, Nat.zero_le, zn_sel_r, zn_sel_l, show M 1 4 = _ from hX.2.1.2.2.2.2.2.1]
  obtain ⟨y, ek, y4, y8, y1⟩ : ∃ y : Int32 × Mem, fX9_served K = some y ∧ y.2 0 4 = K 0 4 ∧ y.2 0 8 = K 0 8 ∧ nI (S 0 4) = y.1 := by
    unfold fX9_served 
    simp (disch := omega) only [li0, li1, li2, li3, li4, li5, li6, li7, li8, li9, li10, li12, li13, li14, li15, li19, li20, li31, li33, li40, li42, li44, li48, li57, li60, li99, li100, li126, li150, li176, li177, li187, li197, li207, li208, li223, li304, li608, li1520, li1824, nI_add, pk_mul, nI_clamp, nI_leI, nI_ltI, nI_eq, zn_inb, zn_gd, zn_bs, zn_isb, not_true_eq_false, not_false_eq_true, ↓reduceIte, pk_div, pk_sub, zn_rem20, zn_rem2, zn_m1, zn_eqw, zn_weq, zn_weq2, zn_wlt0, zn_wltn, zn_win, zn_wcl, zn_wadd, Nat.not_lt_zero, Nat.one_ne_zero, Nat.zero_ne_one, Nat.le_refl, Nat.zero_le, zn_sel_r, zn_sel_l, hK.2.2.2.2.1.2.2.2.2.1]
    exact ⟨_, rfl, rfl, rfl, rfl⟩
  exact zf_nul h hn ex ek y4 y8 y1
theorem zt_usedWays : St_usedWays ZI := by
  intro n C M K hn h
  obtain ⟨S, T, hc, ⟨hX, hK, g, h99⟩, hH, hB⟩ := id h
  have hc12 := g.c12
  have h8 := g.o8
  have lo := g.lo
  have hw12 := g.1.2.1
  have hT : RT (ofs 2 M) S := hX.t
  have hK0 : RK ((sr K 0 (upd (K 0) 0 (nI 0))) 1) S := hK
  have ex : fX8_usedWays M = some (nI (zs_uw S (S 1 0))) := by
    unfold fX8_usedWays 
    simp (disch := omega) only [li0, li1, li2, li3, li4, li5, li6, li7, li8, li9, li10, li12, li13, li14, li15, li19, li20, li31, li33, li40, li42, li44, li48, li57, li60, li99, li100, li126, li150, li176, li177, li187, li197, li207, li208, li223, li304, li608, li1520, li1824, nI_add, pk_mul, nI_clamp, nI_leI, nI_ltI, nI_eq, zn_inb, zn_gd, zn_bs, zn_isb, not_true_eq_false, not_false_eq_true, ↓reduceIte, pk_div, pk_sub, zn_rem20, zn_rem2, zn_m1, zn_eqw, zn_weq, zn_weq2, zn_wlt0, zn_wltn, zn_win, zn_wcl, zn_wadd, Nat.not_lt_zero, Nat.one_ne_zero, Nat.zero_ne_one, Nat.le_refl, Nat.zero_le, zn_sel_r, zn_sel_l, zx_sumOfUsedWays hT g.1]
  obtain ⟨y, ek, y4, y8, y1⟩ : ∃ y : Int32 × Mem, fX9_usedWays K = some y ∧ y.2 0 4 = K 0 4 ∧ y.2 0 8 = K 0 8 ∧ nI (zs_uw S (S 1 0)) = y.1 := by
    unfold fX9_usedWays 
    simp (disch := omega) only [li0, li1, li2, li3, li4, li5, li6, li7, li8, li9, li10, li12, li13, li14, li15, li19, li20, li31, li33, li40, li42, li44, li48, li57, li60, li99, li100, li126, li150, li176, li177, li187, li197, li207, li208, li223, li304, li608, li1520, li1824, nI_add, pk_mul, nI_clamp, nI_leI, nI_ltI, nI_eq, zn_inb, zn_gd, zn_bs, zn_isb, not_true_eq_false, not_false_eq_true, ↓reduceIte, pk_div, pk_sub, zn_rem20, zn_rem2, zn_m1, zn_eqw, zn_weq, zn_weq2, zn_wlt0, zn_wltn, zn_win, zn_wcl, zn_wadd, Nat.not_lt_zero, Nat.one_ne_zero, Nat.zero_ne_one, Nat.le_refl, Nat.zero_le, zn_sel_r, zn_sel_l, zk_waysSum (K := (sr K 0 (upd (K 0) 0 (nI 0)))) hK0 hc12]
    exact ⟨_, rfl, rfl, rfl, rfl⟩
  exact zf_nul h hn ex ek y4 y8 y1
theorem zt_heightOf : St_heightOf ZI := by
  intro n C M K x1 hn h
  obtain ⟨S, T, hc, ⟨hX, hK, g, h99⟩, hH, hB⟩ := id h
  have hc12 := g.c12
  have h8 := g.o8
  have lo := g.lo
  have hw12 := g.1.2.1
  have hT : RT (ofs 2 M) S := hX.t
  have hK0 : RK ((sr K 0 (upd (K 0) 0 (nI 0))) 1) S := hK
  rcases zr_shelf hX hc12 x1 with ⟨f, hf, rfl, e1, e2⟩ | ⟨e1, e2⟩
  · have e3 := e2 (sr K 0 (upd (K 0) 0 (nI 0))) hK0
    have ex : fX8_heightOf M (nI f) = some (.inr (nI (S 2 f))) := by
      unfold fX8_heightOf 
      simp (disch := omega) only [li0, li1, li2, li3, li4, li5, li6, li7, li8, li9, li10, li12, li13, li14, li15, li19, li20, li31, li33, li40, li42, li44, li48, li57, li60, li99, li100, li126, li150, li176, li177, li187, li197, li207, li208, li223, li304, li608, li1520, li1824, nI_add, pk_mul, nI_clamp, nI_leI, nI_ltI, nI_eq, zn_inb, zn_gd, zn_bs, zn_isb, not_true_eq_false, not_false_eq_true, ↓reduceIte, pk_div, pk_sub, zn_rem20, zn_rem2, zn_m1, zn_eqw, zn_weq, zn_weq2, zn_wlt0, zn_wltn, zn_win, zn_wcl, zn_wadd, Nat.not_lt_zero, Nat.one_ne_zero, Nat.zero_ne_one, Nat.le_refl, Nat.zero_le, zn_sel_r, zn_sel_l, e1, show M 3 f = _ from hX.r2 f (by omega)]
    obtain ⟨y, ek, y0, y4, y8, y1⟩ : ∃ y : Int32 × Mem, fX9_heightOf K (nI f) = some y ∧ y.2 0 0 = nI 0 ∧ y.2 0 4 = K 0 4 ∧ y.2 0 8 = K 0 8 ∧ nI (S 2 f) = y.1 := by
      unfold fX9_heightOf fX9_tells
      simp (disch := omega) only [li0, li1, li2, li3, li4, li5, li6, li7, li8, li9, li10, li12, li13, li14, li15, li19, li20, li31, li33, li40, li42, li44, li48, li57, li60, li99, li100, li126, li150, li176, li177, li187, li197, li207, li208, li223, li304, li608, li1520, li1824, nI_add, pk_mul, nI_clamp, nI_leI, nI_ltI, nI_eq, zn_inb, zn_gd, zn_bs, zn_isb, not_true_eq_false, not_false_eq_true, ↓reduceIte, pk_div, pk_sub, zn_rem20, zn_rem2, zn_m1, zn_eqw, zn_weq, zn_weq2, zn_wlt0, zn_wltn, zn_win, zn_wcl, zn_wadd, Nat.not_lt_zero, Nat.one_ne_zero, Nat.zero_ne_one, Nat.le_refl, Nat.zero_le, zn_sel_r, zn_sel_l, e3, fX9_fails, fX9_tells_B27, zk_of0 (K := (sr K 0 (upd (K 0) 0 (nI 0)))) hK0 hc12 hf]
      exact ⟨_, rfl, rfl, rfl, rfl, rfl⟩
    exact zf_ok h hn ex ek y0 y4 y8 y1
  · have e3 := e2 (sr K 0 (upd (K 0) 0 (nI 0))) hK0
    have ex : fX8_heightOf M x1 = some (.inl "java/lang/IndexOutOfBoundsException") := by
      unfold fX8_heightOf 
      simp (disch := omega) only [li0, li1, li2, li3, li4, li5, li6, li7, li8, li9, li10, li12, li13, li14, li15, li19, li20, li31, li33, li40, li42, li44, li48, li57, li60, li99, li100, li126, li150, li176, li177, li187, li197, li207, li208, li223, li304, li608, li1520, li1824, nI_add, pk_mul, nI_clamp, nI_leI, nI_ltI, nI_eq, zn_inb, zn_gd, zn_bs, zn_isb, not_true_eq_false, not_false_eq_true, ↓reduceIte, pk_div, pk_sub, zn_rem20, zn_rem2, zn_m1, zn_eqw, zn_weq, zn_weq2, zn_wlt0, zn_wltn, zn_win, zn_wcl, zn_wadd, Nat.not_lt_zero, Nat.one_ne_zero, Nat.zero_ne_one, Nat.le_refl, Nat.zero_le, zn_sel_r, zn_sel_l, e1]
    obtain ⟨y, ek, y0, y4, y8⟩ : ∃ y : Int32 × Mem, fX9_heightOf K x1 = some y ∧ y.2 0 0 = nI (0 + 1) ∧ y.2 0 4 = K 0 4 ∧ y.2 0 8 = K 0 8 := by
      unfold fX9_heightOf fX9_tells
      simp (disch := omega) only [li0, li1, li2, li3, li4, li5, li6, li7, li8, li9, li10, li12, li13, li14, li15, li19, li20, li31, li33, li40, li42, li44, li48, li57, li60, li99, li100, li126, li150, li176, li177, li187, li197, li207, li208, li223, li304, li608, li1520, li1824, nI_add, pk_mul, nI_clamp, nI_leI, nI_ltI, nI_eq, zn_inb, zn_gd, zn_bs, zn_isb, not_true_eq_false, not_false_eq_true, ↓reduceIte, pk_div, pk_sub, zn_rem20, zn_rem2, zn_m1, zn_eqw, zn_weq, zn_weq2, zn_wlt0, zn_wltn, zn_win, zn_wcl, zn_wadd, Nat.not_lt_zero, Nat.one_ne_zero, Nat.zero_ne_one, Nat.le_refl, Nat.zero_le, zn_sel_r, zn_sel_l, e3, fX9_fails, fX9_tells_B27]
      exact ⟨_, rfl, rfl, rfl, rfl⟩
    exact zf_no (i := 0) h hn rfl ex ek y0 y4 y8
theorem zt_sideOf : St_sideOf ZI := by
  intro n C M K x1 hn h
  obtain ⟨S, T, hc, ⟨hX, hK, g, h99⟩, hH, hB⟩ := id h
  have hc12 := g.c12
  have h8 := g.o8
  have lo := g.lo
  have hw12 := g.1.2.1
  have hT : RT (ofs 2 M) S := hX.t
  have hK0 : RK ((sr K 0 (upd (K 0) 0 (nI 0))) 1) S := hK
  rcases zr_shelf hX hc12 x1 with ⟨f, hf, rfl, e1, e2⟩ | ⟨e1, e2⟩
  · have e3 := e2 (sr K 0 (upd (K 0) 0 (nI 0))) hK0
    have b := g.1.2.2.1 f hf
    have ex : fX8_sideOf M (nI f) = some (.inr (nI (S 3 f / 20))) := by
      unfold fX8_sideOf 
      simp (disch := omega) only [li0, li1, li2, li3, li4, li5, li6, li7, li8, li9, li10, li12, li13, li14, li15, li19, li20, li31, li33, li40, li42, li44, li48, li57, li60, li99, li100, li126, li150, li176, li177, li187, li197, li207, li208, li223, li304, li608, li1520, li1824, nI_add, pk_mul, nI_clamp, nI_leI, nI_ltI, nI_eq, zn_inb, zn_gd, zn_bs, zn_isb, not_true_eq_false, not_false_eq_true, ↓reduceIte, pk_div, pk_sub, zn_rem20, zn_rem2, zn_m1, zn_eqw, zn_weq, zn_weq2, zn_wlt0, zn_wltn, zn_win, zn_wcl, zn_wadd, Nat.not_lt_zero, Nat.one_ne_zero, Nat.zero_ne_one, Nat.le_refl, Nat.zero_le, zn_sel_r, zn_sel_l, e1, show M 4 f = _ from hX.r3 f (by omega)]
    obtain ⟨y, ek, y0, y4, y8, y1⟩ : ∃ y : Int32 × Mem, fX9_sideOf K (nI f) = some y ∧ y.2 0 0 = nI 0 ∧ y.2 0 4 = K 0 4 ∧ y.2 0 8 = K 0 8 ∧ nI (S 3 f / 20) = y.1 := by
      unfold fX9_sideOf fX9_tells
      simp (disch := omega) only [li0, li1, li2, li3, li4, li5, li6, li7, li8, li9, li10, li12, li13, li14, li15, li19, li20, li31, li33, li40, li42, li44, li48, li57, li60, li99, li100, li126, li150, li176, li177, li187, li197, li207, li208, li223, li304, li608, li1520, li1824, nI_add, pk_mul, nI_clamp, nI_leI, nI_ltI, nI_eq, zn_inb, zn_gd, zn_bs, zn_isb, not_true_eq_false, not_false_eq_true, ↓reduceIte, pk_div, pk_sub, zn_rem20, zn_rem2, zn_m1, zn_eqw, zn_weq, zn_weq2, zn_wlt0, zn_wltn, zn_win, zn_wcl, zn_wadd, Nat.not_lt_zero, Nat.one_ne_zero, Nat.zero_ne_one, Nat.le_refl, Nat.zero_le, zn_sel_r, zn_sel_l, e3, fX9_fails, fX9_tells_B27, zk_of1 (K := (sr K 0 (upd (K 0) 0 (nI 0)))) hK0 hc12 hf]
      exact ⟨_, rfl, rfl, rfl, rfl, rfl⟩
    exact zf_ok h hn ex ek y0 y4 y8 y1
  · have e3 := e2 (sr K 0 (upd (K 0) 0 (nI 0))) hK0
    have ex : fX8_sideOf M x1 = some (.inl "java/lang/IndexOutOfBoundsException") := by
      unfold fX8_sideOf 
      simp (disch := omega) only [li0, li1, li2, li3, li4, li5, li6, li7, li8, li9, li10, li12, li13, li14, li15, li19, li20, li31, li33, li40, li42, li44, li48, li57, li60, li99, li100, li126, li150, li176, li177, li187, li197, li207, li208, li223, li304, li608, li1520, li1824, nI_add, pk_mul, nI_clamp, nI_leI, nI_ltI, nI_eq, zn_inb, zn_gd, zn_bs, zn_isb, not_true_eq_false, not_false_eq_true, ↓reduceIte, pk_div, pk_sub, zn_rem20, zn_rem2, zn_m1, zn_eqw, zn_weq, zn_weq2, zn_wlt0, zn_wltn, zn_win, zn_wcl, zn_wadd, Nat.not_lt_zero, Nat.one_ne_zero, Nat.zero_ne_one, Nat.le_refl, Nat.zero_le, zn_sel_r, zn_sel_l, e1]
    obtain ⟨y, ek, y0, y4, y8⟩ : ∃ y : Int32 × Mem, fX9_sideOf K x1 = some y ∧ y.2 0 0 = nI (0 + 1) ∧ y.2 0 4 = K 0 4 ∧ y.2 0 8 = K 0 8 := by
      unfold fX9_sideOf fX9_tells
      simp (disch := omega) only [li0, li1, li2, li3, li4, li5, li6, li7, li8, li9, li10, li12, li13, li14, li15, li19, li20, li31, li33, li40, li42, li44, li48, li57, li60, li99, li100, li126, li150, li176, li177, li187, li197, li207, li208, li223, li304, li608, li1520, li1824, nI_add, pk_mul, nI_clamp, nI_leI, nI_ltI, nI_eq, zn_inb, zn_gd, zn_bs, zn_isb, not_true_eq_false, not_false_eq_true, ↓reduceIte, pk_div, pk_sub, zn_rem20, zn_rem2, zn_m1, zn_eqw, zn_weq, zn_weq2, zn_wlt0, zn_wltn, zn_win, zn_wcl, zn_wadd, Nat.not_lt_zero, Nat.one_ne_zero, Nat.zero_ne_one, Nat.le_refl, Nat.zero_le, zn_sel_r, zn_sel_l, e3, fX9_fails, fX9_tells_B27]
      exact ⟨_, rfl, rfl, rfl, rfl⟩
    exact zf_no (i := 0) h hn rfl ex ek y0 y4 y8
theorem zt_slotOf : St_slotOf ZI := by
  intro n C M K x1 hn h
  obtain ⟨S, T, hc, ⟨hX, hK, g, h99⟩, hH, hB⟩ := id h
  have hc12 := g.c12
  have h8 := g.o8
  have lo := g.lo
  have hw12 := g.1.2.1
  have hT : RT (ofs 2 M) S := hX.t
  have hK0 : RK ((sr K 0 (upd (K 0) 0 (nI 0))) 1) S := hK
  rcases zr_shelf hX hc12 x1 with ⟨f, hf, rfl, e1, e2⟩ | ⟨e1, e2⟩
  · have e3 := e2 (sr K 0 (upd (K 0) 0 (nI 0))) hK0
    have b := g.1.2.2.1 f hf
    have ex : fX8_slotOf M (nI f) = some (.inr (nI (S 3 f % 20))) := by
      unfold fX8_slotOf 
      simp (disch := omega) only [li0, li1, li2, li3, li4, li5, li6, li7, li8, li9, li10, li12, li13, li14, li15, li19, li20, li31, li33, li40, li42, li44, li48, li57, li60, li99, li100, li126, li150, li176, li177, li187, li197, li207, li208, li223, li304, li608, li1520, li1824, nI_add, pk_mul, nI_clamp, nI_leI, nI_ltI, nI_eq, zn_inb, zn_gd, zn_bs, zn_isb, not_true_eq_false, not_false_eq_true, ↓reduceIte, pk_div, pk_sub, zn_rem20, zn_rem2, zn_m1, zn_eqw, zn_weq, zn_weq2, zn_wlt0, zn_wltn, zn_win, zn_wcl, zn_wadd, Nat.not_lt_zero, Nat.one_ne_zero, Nat.zero_ne_one, Nat.le_refl, Nat.zero_le, zn_sel_r, zn_sel_l, e1, show M 4 f = _ from hX.r3 f (by omega)]
    obtain ⟨y, ek, y0, y4, y8, y1⟩ : ∃ y : Int32 × Mem, fX9_slotOf K (nI f) = some y ∧ y.2 0 0 = nI 0 ∧ y.2 0 4 = K 0 4 ∧ y.2 0 8 = K 0 8 ∧ nI (S 3 f % 20) = y.1 := by
      unfold fX9_slotOf fX9_tells
      simp (disch := omega) only [li0, li1, li2, li3, li4, li5, li6, li7, li8, li9, li10, li12, li13, li14, li15, li19, li20, li31, li33, li40, li42, li44, li48, li57, li60, li99, li100, li126, li150, li176, li177, li187, li197, li207, li208, li223, li304, li608, li1520, li1824, nI_add, pk_mul, nI_clamp, nI_leI, nI_ltI, nI_eq, zn_inb, zn_gd, zn_bs, zn_isb, not_true_eq_false, not_false_eq_true, ↓reduceIte, pk_div, pk_sub, zn_rem20, zn_rem2, zn_m1, zn_eqw, zn_weq, zn_weq2, zn_wlt0, zn_wltn, zn_win, zn_wcl, zn_wadd, Nat.not_lt_zero, Nat.one_ne_zero, Nat.zero_ne_one, Nat.le_refl, Nat.zero_le, zn_sel_r, zn_sel_l, e3, fX9_fails, fX9_tells_B27, zk_of2 (K := (sr K 0 (upd (K 0) 0 (nI 0)))) hK0 hc12 hf]
      exact ⟨_, rfl, rfl, rfl, rfl, rfl⟩
    exact zf_ok h hn ex ek y0 y4 y8 y1
  · have e3 := e2 (sr K 0 (upd (K 0) 0 (nI 0))) hK0
    have ex : fX8_slotOf M x1 = some (.inl "java/lang/IndexOutOfBoundsException") := by
      unfold fX8_slotOf 
      simp (disch := omega) only [li0, li1, li2, li3, li4, li5, li6, li7, li8, li9, li10, li12, li13, li14, li15, li19, li20, li31, li33, li40, li42, li44, li48, li57, li60, li99, li100, li126, li150, li176, li177, li187, li197, li207, li208, li223, li304, li608, li1520, li1824, nI_add, pk_mul, nI_clamp, nI_leI, nI_ltI, nI_eq, zn_inb, zn_gd, zn_bs, zn_isb, not_true_eq_false, not_false_eq_true, ↓reduceIte, pk_div, pk_sub, zn_rem20, zn_rem2, zn_m1, zn_eqw, zn_weq, zn_weq2, zn_wlt0, zn_wltn, zn_win, zn_wcl, zn_wadd, Nat.not_lt_zero, Nat.one_ne_zero, Nat.zero_ne_one, Nat.le_refl, Nat.zero_le, zn_sel_r, zn_sel_l, e1]
    obtain ⟨y, ek, y0, y4, y8⟩ : ∃ y : Int32 × Mem, fX9_slotOf K x1 = some y ∧ y.2 0 0 = nI (0 + 1) ∧ y.2 0 4 = K 0 4 ∧ y.2 0 8 = K 0 8 := by
      unfold fX9_slotOf fX9_tells
      simp (disch := omega) only [li0, li1, li2, li3, li4, li5, li6, li7, li8, li9, li10, li12, li13, li14, li15, li19, li20, li31, li33, li40, li42, li44, li48, li57, li60, li99, li100, li126, li150, li176, li177, li187, li197, li207, li208, li223, li304, li608, li1520, li1824, nI_add, pk_mul, nI_clamp, nI_leI, nI_ltI, nI_eq, zn_inb, zn_gd, zn_bs, zn_isb, not_true_eq_false, not_false_eq_true, ↓reduceIte, pk_div, pk_sub, zn_rem20, zn_rem2, zn_m1, zn_eqw, zn_weq, zn_weq2, zn_wlt0, zn_wltn, zn_win, zn_wcl, zn_wadd, Nat.not_lt_zero, Nat.one_ne_zero, Nat.zero_ne_one, Nat.le_refl, Nat.zero_le, zn_sel_r, zn_sel_l, e3, fX9_fails, fX9_tells_B27]
      exact ⟨_, rfl, rfl, rfl, rfl⟩
    exact zf_no (i := 0) h hn rfl ex ek y0 y4 y8
theorem zt_fetchesOf : St_fetchesOf ZI := by
  intro n C M K x1 hn h
  obtain ⟨S, T, hc, ⟨hX, hK, g, h99⟩, hH, hB⟩ := id h
  have hc12 := g.c12
  have h8 := g.o8
  have lo := g.lo
  have hw12 := g.1.2.1
  have hT : RT (ofs 2 M) S := hX.t
  have hK0 : RK ((sr K 0 (upd (K 0) 0 (nI 0))) 1) S := hK
  rcases zr_shelf hX hc12 x1 with ⟨f, hf, rfl, e1, e2⟩ | ⟨e1, e2⟩
  · have e3 := e2 (sr K 0 (upd (K 0) 0 (nI 0))) hK0
    have ex : fX8_fetchesOf M (nI f) = some (.inr (nI (S 4 f))) := by
      unfold fX8_fetchesOf 
      simp (disch := omega) only [li0, li1, li2, li3, li4, li5, li6, li7, li8, li9, li10, li12, li13, li14, li15, li19, li20, li31, li33, li40, li42, li44, li48, li57, li60, li99, li100, li126, li150, li176, li177, li187, li197, li207, li208, li223, li304, li608, li1520, li1824, nI_add, pk_mul, nI_clamp, nI_leI, nI_ltI, nI_eq, zn_inb, zn_gd, zn_bs, zn_isb, not_true_eq_false, not_false_eq_true, ↓reduceIte, pk_div, pk_sub, zn_rem20, zn_rem2, zn_m1, zn_eqw, zn_weq, zn_weq2, zn_wlt0, zn_wltn, zn_win, zn_wcl, zn_wadd, Nat.not_lt_zero, Nat.one_ne_zero, Nat.zero_ne_one, Nat.le_refl, Nat.zero_le, zn_sel_r, zn_sel_l, e1, show M 5 f = _ from hX.r4 f (by omega)]
    obtain ⟨y, ek, y0, y4, y8, y1⟩ : ∃ y : Int32 × Mem, fX9_fetchesOf K (nI f) = some y ∧ y.2 0 0 = nI 0 ∧ y.2 0 4 = K 0 4 ∧ y.2 0 8 = K 0 8 ∧ nI (S 4 f) = y.1 := by
      unfold fX9_fetchesOf fX9_tells
      simp (disch := omega) only [li0, li1, li2, li3, li4, li5, li6, li7, li8, li9, li10, li12, li13, li14, li15, li19, li20, li31, li33, li40, li42, li44, li48, li57, li60, li99, li100, li126, li150, li176, li177, li187, li197, li207, li208, li223, li304, li608, li1520, li1824, nI_add, pk_mul, nI_clamp, nI_leI, nI_ltI, nI_eq, zn_inb, zn_gd, zn_bs, zn_isb, not_true_eq_false, not_false_eq_true, ↓reduceIte, pk_div, pk_sub, zn_rem20, zn_rem2, zn_m1, zn_eqw, zn_weq, zn_weq2, zn_wlt0, zn_wltn, zn_win, zn_wcl, zn_wadd, Nat.not_lt_zero, Nat.one_ne_zero, Nat.zero_ne_one, Nat.le_refl, Nat.zero_le, zn_sel_r, zn_sel_l, e3, fX9_fails, fX9_tells_B27, zk_of3 (K := (sr K 0 (upd (K 0) 0 (nI 0)))) hK0 hc12 hf]
      exact ⟨_, rfl, rfl, rfl, rfl, rfl⟩
    exact zf_ok h hn ex ek y0 y4 y8 y1
  · have e3 := e2 (sr K 0 (upd (K 0) 0 (nI 0))) hK0
    have ex : fX8_fetchesOf M x1 = some (.inl "java/lang/IndexOutOfBoundsException") := by
      unfold fX8_fetchesOf 
      simp (disch := omega) only [li0, li1, li2, li3, li4, li5, li6, li7, li8, li9, li10, li12, li13, li14, li15, li19, li20, li31, li33, li40, li42, li44, li48, li57, li60, li99, li100, li126, li150, li176, li177, li187, li197, li207, li208, li223, li304, li608, li1520, li1824, nI_add, pk_mul, nI_clamp, nI_leI, nI_ltI, nI_eq, zn_inb, zn_gd, zn_bs, zn_isb, not_true_eq_false, not_false_eq_true, ↓reduceIte, pk_div, pk_sub, zn_rem20, zn_rem2, zn_m1, zn_eqw, zn_weq, zn_weq2, zn_wlt0, zn_wltn, zn_win, zn_wcl, zn_wadd, Nat.not_lt_zero, Nat.one_ne_zero, Nat.zero_ne_one, Nat.le_refl, Nat.zero_le, zn_sel_r, zn_sel_l, e1]
    obtain ⟨y, ek, y0, y4, y8⟩ : ∃ y : Int32 × Mem, fX9_fetchesOf K x1 = some y ∧ y.2 0 0 = nI (0 + 1) ∧ y.2 0 4 = K 0 4 ∧ y.2 0 8 = K 0 8 := by
      unfold fX9_fetchesOf fX9_tells
      simp (disch := omega) only [li0, li1, li2, li3, li4, li5, li6, li7, li8, li9, li10, li12, li13, li14, li15, li19, li20, li31, li33, li40, li42, li44, li48, li57, li60, li99, li100, li126, li150, li176, li177, li187, li197, li207, li208, li223, li304, li608, li1520, li1824, nI_add, pk_mul, nI_clamp, nI_leI, nI_ltI, nI_eq, zn_inb, zn_gd, zn_bs, zn_isb, not_true_eq_false, not_false_eq_true, ↓reduceIte, pk_div, pk_sub, zn_rem20, zn_rem2, zn_m1, zn_eqw, zn_weq, zn_weq2, zn_wlt0, zn_wltn, zn_win, zn_wcl, zn_wadd, Nat.not_lt_zero, Nat.one_ne_zero, Nat.zero_ne_one, Nat.le_refl, Nat.zero_le, zn_sel_r, zn_sel_l, e3, fX9_fails, fX9_tells_B27]
      exact ⟨_, rfl, rfl, rfl, rfl⟩
    exact zf_no (i := 0) h hn rfl ex ek y0 y4 y8
theorem zt_weightOf : St_weightOf ZI := by
  intro n C M K x1 hn h
  obtain ⟨S, T, hc, ⟨hX, hK, g, h99⟩, hH, hB⟩ := id h
  have hc12 := g.c12
  have h8 := g.o8
  have lo := g.lo
  have hw12 := g.1.2.1
  have hT : RT (ofs 2 M) S := hX.t
  have hK0 : RK ((sr K 0 (upd (K 0) 0 (nI 0))) 1) S := hK
  rcases zr_shelf hX hc12 x1 with ⟨f, hf, rfl, e1, e2⟩ | ⟨e1, e2⟩
  · have e3 := e2 (sr K 0 (upd (K 0) 0 (nI 0))) hK0
    have ex : fX8_weightOf M (nI f) = some (.inr (nI (zs_wt S f))) := by
      unfold fX8_weightOf 
      simp (disch := omega) only [li0, li1, li2, li3, li4, li5, li6, li7, li8, li9, li10, li12, li13, li14, li15, li19, li20, li31, li33, li40, li42, li44, li48, li57, li60, li99, li100, li126, li150, li176, li177, li187, li197, li207, li208, li223, li304, li608, li1520, li1824, nI_add, pk_mul, nI_clamp, nI_leI, nI_ltI, nI_eq, zn_inb, zn_gd, zn_bs, zn_isb, not_true_eq_false, not_false_eq_true, ↓reduceIte, pk_div, pk_sub, zn_rem20, zn_rem2, zn_m1, zn_eqw, zn_weq, zn_weq2, zn_wlt0, zn_wltn, zn_win, zn_wcl, zn_wadd, Nat.not_lt_zero, Nat.one_ne_zero, Nat.zero_ne_one, Nat.le_refl, Nat.zero_le, zn_sel_r, zn_sel_l, e1, zx_weighShelf hX (f := f) (by omega)]
    obtain ⟨y, ek, y0, y4, y8, y1⟩ : ∃ y : Int32 × Mem, fX9_weightOf K (nI f) = some y ∧ y.2 0 0 = nI 0 ∧ y.2 0 4 = K 0 4 ∧ y.2 0 8 = K 0 8 ∧ nI (zs_wt S f) = y.1 := by
      unfold fX9_weightOf 
      simp (disch := omega) only [li0, li1, li2, li3, li4, li5, li6, li7, li8, li9, li10, li12, li13, li14, li15, li19, li20, li31, li33, li40, li42, li44, li48, li57, li60, li99, li100, li126, li150, li176, li177, li187, li197, li207, li208, li223, li304, li608, li1520, li1824, nI_add, pk_mul, nI_clamp, nI_leI, nI_ltI, nI_eq, zn_inb, zn_gd, zn_bs, zn_isb, not_true_eq_false, not_false_eq_true, ↓reduceIte, pk_div, pk_sub, zn_rem20, zn_rem2, zn_m1, zn_eqw, zn_weq, zn_weq2, zn_wlt0, zn_wltn, zn_win, zn_wcl, zn_wadd, Nat.not_lt_zero, Nat.one_ne_zero, Nat.zero_ne_one, Nat.le_refl, Nat.zero_le, zn_sel_r, zn_sel_l, e3, fX9_fails, fX9_weightOf_B26, zk_weight (K := (sr K 0 (upd (K 0) 0 (nI 0)))) hK0 hc12 hf]
      exact ⟨_, rfl, rfl, rfl, rfl, rfl⟩
    exact zf_ok h hn ex ek y0 y4 y8 y1
  · have e3 := e2 (sr K 0 (upd (K 0) 0 (nI 0))) hK0
    have ex : fX8_weightOf M x1 = some (.inl "java/lang/IndexOutOfBoundsException") := by
      unfold fX8_weightOf 
      simp (disch := omega) only [li0, li1, li2, li3, li4, li5, li6, li7, li8, li9, li10, li12, li13, li14, li15, li19, li20, li31, li33, li40, li42, li44, li48, li57, li60, li99, li100, li126, li150, li176, li177, li187, li197, li207, li208, li223, li304, li608, li1520, li1824, nI_add, pk_mul, nI_clamp, nI_leI, nI_ltI, nI_eq, zn_inb, zn_gd, zn_bs, zn_isb, not_true_eq_false, not_false_eq_true, ↓reduceIte, pk_div, pk_sub, zn_rem20, zn_rem2, zn_m1, zn_eqw, zn_weq, zn_weq2, zn_wlt0, zn_wltn, zn_win, zn_wcl, zn_wadd, Nat.not_lt_zero, Nat.one_ne_zero, Nat.zero_ne_one, Nat.le_refl, Nat.zero_le, zn_sel_r, zn_sel_l, e1]
    obtain ⟨y, ek, y0, y4, y8⟩ : ∃ y : Int32 × Mem, fX9_weightOf K x1 = some y ∧ y.2 0 0 = nI (0 + 1) ∧ y.2 0 4 = K 0 4 ∧ y.2 0 8 = K 0 8 := by
      unfold fX9_weightOf 
      simp (disch := omega) only [li0, li1, li2, li3, li4, li5, li6, li7, li8, li9, li10, li12, li13, li14, li15, li19, li20, li31, li33, li40, li42, li44, li48, li57, li60, li99, li100, li126, li150, li176, li177, li187, li197, li207, li208, li223, li304, li608, li1520, li1824, nI_add, pk_mul, nI_clamp, nI_leI, nI_ltI, nI_eq, zn_inb, zn_gd, zn_bs, zn_isb, not_true_eq_false, not_false_eq_true, ↓reduceIte, pk_div, pk_sub, zn_rem20, zn_rem2, zn_m1, zn_eqw, zn_weq, zn_weq2, zn_wlt0, zn_wltn, zn_win, zn_wcl, zn_wadd, Nat.not_lt_zero, Nat.one_ne_zero, Nat.zero_ne_one, Nat.le_refl, Nat.zero_le, zn_sel_r, zn_sel_l, e3, fX9_fails, fX9_weightOf_B26]
      exact ⟨_, rfl, rfl, rfl, rfl⟩
    exact zf_no (i := 0) h hn rfl ex ek y0 y4 y8
theorem zt_weightOfKind : St_weightOfKind ZI := by
  intro n C M K x1 hn h
  obtain ⟨S, T, hc, ⟨hX, hK, g, h99⟩, hH, hB⟩ := id h
  have hc12 := g.c12
  have h8 := g.o8
  have lo := g.lo
  have hw12 := g.1.2.1
  have hT : RT (ofs 2 M) S := hX.t
  have hK0 : RK ((sr K 0 (upd (K 0) 0 (nI 0))) 1) S := hK
  rcases zr_kind M x1 with ⟨f, hf, rfl, e1, e2⟩ | ⟨e1, e2⟩
  · have e3 := e2
    have ex : fX8_weightOfKind M (nI f) = some (.inr (nI (S 10 f))) := by
      unfold fX8_weightOfKind 
      simp (disch := omega) only [li0, li1, li2, li3, li4, li5, li6, li7, li8, li9, li10, li12, li13, li14, li15, li19, li20, li31, li33, li40, li42, li44, li48, li57, li60, li99, li100, li126, li150, li176, li177, li187, li197, li207, li208, li223, li304, li608, li1520, li1824, nI_add, pk_mul, nI_clamp, nI_leI, nI_ltI, nI_eq, zn_inb, zn_gd, zn_bs, zn_isb, not_true_eq_false, not_false_eq_true, ↓reduceIte, pk_div, pk_sub, zn_rem20, zn_rem2, zn_m1, zn_eqw, zn_weq, zn_weq2, zn_wlt0, zn_wltn, zn_win, zn_wcl, zn_wadd, Nat.not_lt_zero, Nat.one_ne_zero, Nat.zero_ne_one, Nat.le_refl, Nat.zero_le, zn_sel_r, zn_sel_l, e1, show M 11 f = _ from hX.r10 f hf]
    obtain ⟨y, ek, y0, y4, y8, y1⟩ : ∃ y : Int32 × Mem, fX9_weightOfKind K (nI f) = some y ∧ y.2 0 0 = nI 0 ∧ y.2 0 4 = K 0 4 ∧ y.2 0 8 = K 0 8 ∧ nI (S 10 f) = y.1 := by
      unfold fX9_weightOfKind 
      simp (disch := omega) only [li0, li1, li2, li3, li4, li5, li6, li7, li8, li9, li10, li12, li13, li14, li15, li19, li20, li31, li33, li40, li42, li44, li48, li57, li60, li99, li100, li126, li150, li176, li177, li187, li197, li207, li208, li223, li304, li608, li1520, li1824, nI_add, pk_mul, nI_clamp, nI_leI, nI_ltI, nI_eq, zn_inb, zn_gd, zn_bs, zn_isb, not_true_eq_false, not_false_eq_true, ↓reduceIte, pk_div, pk_sub, zn_rem20, zn_rem2, zn_m1, zn_eqw, zn_weq, zn_weq2, zn_wlt0, zn_wltn, zn_win, zn_wcl, zn_wadd, Nat.not_lt_zero, Nat.one_ne_zero, Nat.zero_ne_one, Nat.le_refl, Nat.zero_le, zn_sel_r, zn_sel_l, e3, fX9_fails, fX9_weightOfKind_B30, (hK.2.2.2.2.2.1 f hf).1]
      exact ⟨_, rfl, rfl, rfl, rfl, rfl⟩
    exact zf_ok h hn ex ek y0 y4 y8 y1
  · have e3 := e2
    have ex : fX8_weightOfKind M x1 = some (.inl "java/lang/IndexOutOfBoundsException") := by
      unfold fX8_weightOfKind 
      simp (disch := omega) only [li0, li1, li2, li3, li4, li5, li6, li7, li8, li9, li10, li12, li13, li14, li15, li19, li20, li31, li33, li40, li42, li44, li48, li57, li60, li99, li100, li126, li150, li176, li177, li187, li197, li207, li208, li223, li304, li608, li1520, li1824, nI_add, pk_mul, nI_clamp, nI_leI, nI_ltI, nI_eq, zn_inb, zn_gd, zn_bs, zn_isb, not_true_eq_false, not_false_eq_true, ↓reduceIte, pk_div, pk_sub, zn_rem20, zn_rem2, zn_m1, zn_eqw, zn_weq, zn_weq2, zn_wlt0, zn_wltn, zn_win, zn_wcl, zn_wadd, Nat.not_lt_zero, Nat.one_ne_zero, Nat.zero_ne_one, Nat.le_refl, Nat.zero_le, zn_sel_r, zn_sel_l, e1]
    obtain ⟨y, ek, y0, y4, y8⟩ : ∃ y : Int32 × Mem, fX9_weightOfKind K x1 = some y ∧ y.2 0 0 = nI (0 + 1) ∧ y.2 0 4 = K 0 4 ∧ y.2 0 8 = K 0 8 := by
      unfold fX9_weightOfKind 
      simp (disch := omega) only [li0, li1, li2, li3, li4, li5, li6, li7, li8, li9, li10, li12, li13, li14, li15, li19, li20, li31, li33, li40, li42, li44, li48, li57, li60, li99, li100, li126, li150, li176, li177, li187, li197, li207, li208, li223, li304, li608, li1520, li1824, nI_add, pk_mul, nI_clamp, nI_leI, nI_ltI, nI_eq, zn_inb, zn_gd, zn_bs, zn_isb, not_true_eq_false, not_false_eq_true, ↓reduceIte, pk_div, pk_sub, zn_rem20, zn_rem2, zn_m1, zn_eqw, zn_weq, zn_weq2, zn_wlt0, zn_wltn, zn_win, zn_wcl, zn_wadd, Nat.not_lt_zero, Nat.one_ne_zero, Nat.zero_ne_one, Nat.le_refl, Nat.zero_le, zn_sel_r, zn_sel_l, e3, fX9_fails, fX9_weightOfKind_B30]
      exact ⟨_, rfl, rfl, rfl, rfl⟩
    exact zf_no (i := 0) h hn rfl ex ek y0 y4 y8
theorem zt_stockByShelves : St_stockByShelves ZI := by
  intro n C M K x1 hn h
  obtain ⟨S, T, hc, ⟨hX, hK, g, h99⟩, hH, hB⟩ := id h
  have hc12 := g.c12
  have h8 := g.o8
  have lo := g.lo
  have hw12 := g.1.2.1
  have hT : RT (ofs 2 M) S := hX.t
  have hK0 : RK ((sr K 0 (upd (K 0) 0 (nI 0))) 1) S := hK
  rcases zr_kind M x1 with ⟨f, hf, rfl, e1, e2⟩ | ⟨e1, e2⟩
  · have e3 := e2
    have ex : fX8_stockByShelves M (nI f) = some (.inr (nI (zs_stock S f))) := by
      unfold fX8_stockByShelves 
      simp (disch := omega) only [li0, li1, li2, li3, li4, li5, li6, li7, li8, li9, li10, li12, li13, li14, li15, li19, li20, li31, li33, li40, li42, li44, li48, li57, li60, li99, li100, li126, li150, li176, li177, li187, li197, li207, li208, li223, li304, li608, li1520, li1824, nI_add, pk_mul, nI_clamp, nI_leI, nI_ltI, nI_eq, zn_inb, zn_gd, zn_bs, zn_isb, not_true_eq_false, not_false_eq_true, ↓reduceIte, pk_div, pk_sub, zn_rem20, zn_rem2, zn_m1, zn_eqw, zn_weq, zn_weq2, zn_wlt0, zn_wltn, zn_win, zn_wcl, zn_wadd, Nat.not_lt_zero, Nat.one_ne_zero, Nat.zero_ne_one, Nat.le_refl, Nat.zero_le, zn_sel_r, zn_sel_l, e1, zx_stockOf hT hc12 hf]
    obtain ⟨y, ek, y0, y4, y8, y1⟩ : ∃ y : Int32 × Mem, fX9_stockByShelves K (nI f) = some y ∧ y.2 0 0 = nI 0 ∧ y.2 0 4 = K 0 4 ∧ y.2 0 8 = K 0 8 ∧ nI (zs_stock S f) = y.1 := by
      unfold fX9_stockByShelves 
      simp (disch := omega) only [li0, li1, li2, li3, li4, li5, li6, li7, li8, li9, li10, li12, li13, li14, li15, li19, li20, li31, li33, li40, li42, li44, li48, li57, li60, li99, li100, li126, li150, li176, li177, li187, li197, li207, li208, li223, li304, li608, li1520, li1824, nI_add, pk_mul, nI_clamp, nI_leI, nI_ltI, nI_eq, zn_inb, zn_gd, zn_bs, zn_isb, not_true_eq_false, not_false_eq_true, ↓reduceIte, pk_div, pk_sub, zn_rem20, zn_rem2, zn_m1, zn_eqw, zn_weq, zn_weq2, zn_wlt0, zn_wltn, zn_win, zn_wcl, zn_wadd, Nat.not_lt_zero, Nat.one_ne_zero, Nat.zero_ne_one, Nat.le_refl, Nat.zero_le, zn_sel_r, zn_sel_l, e3, fX9_fails, fX9_stockByShelves_B25, zk_stock (K := (sr K 0 (upd (K 0) 0 (nI 0)))) hK0 hc12 hf]
      exact ⟨_, rfl, rfl, rfl, rfl, rfl⟩
    exact zf_ok h hn ex ek y0 y4 y8 y1
  · have e3 := e2
    have ex : fX8_stockByShelves M x1 = some (.inl "java/lang/IndexOutOfBoundsException") := by
      unfold fX8_stockByShelves 
      simp (disch := omega) only [li0, li1, li2, li3, li4, li5, li6, li7, li8, li9, li10, li12, li13, li14, li15, li19, li20, li31, li33, li40, li42, li44, li48, li57, li60, li99, li100, li126, li150, li176, li177, li187, li197, li207, li208, li223, li304, li608, li1520, li1824, nI_add, pk_mul, nI_clamp, nI_leI, nI_ltI, nI_eq, zn_inb, zn_gd, zn_bs, zn_isb, not_true_eq_false, not_false_eq_true, ↓reduceIte, pk_div, pk_sub, zn_rem20, zn_rem2, zn_m1, zn_eqw, zn_weq, zn_weq2, zn_wlt0, zn_wltn, zn_win, zn_wcl, zn_wadd, Nat.not_lt_zero, Nat.one_ne_zero, Nat.zero_ne_one, Nat.le_refl, Nat.zero_le, zn_sel_r, zn_sel_l, e1]
    obtain ⟨y, ek, y0, y4, y8⟩ : ∃ y : Int32 × Mem, fX9_stockByShelves K x1 = some y ∧ y.2 0 0 = nI (0 + 1) ∧ y.2 0 4 = K 0 4 ∧ y.2 0 8 = K 0 8 := by
      unfold fX9_stockByShelves 
      simp (disch := omega) only [li0, li1, li2, li3, li4, li5, li6, li7, li8, li9, li10, li12, li13, li14, li15, li19, li20, li31, li33, li40, li42, li44, li48, li57, li60, li99, li100, li126, li150, li176, li177, li187, li197, li207, li208, li223, li304, li608, li1520, li1824, nI_add, pk_mul, nI_clamp, nI_leI, nI_ltI, nI_eq, zn_inb, zn_gd, zn_bs, zn_isb, not_true_eq_false, not_false_eq_true, ↓reduceIte, pk_div, pk_sub, zn_rem20, zn_rem2, zn_m1, zn_eqw, zn_weq, zn_weq2, zn_wlt0, zn_wltn, zn_win, zn_wcl, zn_wadd, Nat.not_lt_zero, Nat.one_ne_zero, Nat.zero_ne_one, Nat.le_refl, Nat.zero_le, zn_sel_r, zn_sel_l, e3, fX9_fails, fX9_stockByShelves_B25]
      exact ⟨_, rfl, rfl, rfl, rfl⟩
    exact zf_no (i := 0) h hn rfl ex ek y0 y4 y8
theorem zt_shelvesWith : St_shelvesWith ZI := by
  intro n C M K x1 hn h
  obtain ⟨S, T, hc, ⟨hX, hK, g, h99⟩, hH, hB⟩ := id h
  have hc12 := g.c12
  have h8 := g.o8
  have lo := g.lo
  have hw12 := g.1.2.1
  have hT : RT (ofs 2 M) S := hX.t
  have hK0 : RK ((sr K 0 (upd (K 0) 0 (nI 0))) 1) S := hK
  rcases zr_kind M x1 with ⟨f, hf, rfl, e1, e2⟩ | ⟨e1, e2⟩
  · have e3 := e2
    have ex : fX8_shelvesWith M (nI f) = some (.inr (nI (zs_having S f))) := by
      unfold fX8_shelvesWith 
      simp (disch := omega) only [li0, li1, li2, li3, li4, li5, li6, li7, li8, li9, li10, li12, li13, li14, li15, li19, li20, li31, li33, li40, li42, li44, li48, li57, li60, li99, li100, li126, li150, li176, li177, li187, li197, li207, li208, li223, li304, li608, li1520, li1824, nI_add, pk_mul, nI_clamp, nI_leI, nI_ltI, nI_eq, zn_inb, zn_gd, zn_bs, zn_isb, not_true_eq_false, not_false_eq_true, ↓reduceIte, pk_div, pk_sub, zn_rem20, zn_rem2, zn_m1, zn_eqw, zn_weq, zn_weq2, zn_wlt0, zn_wltn, zn_win, zn_wcl, zn_wadd, Nat.not_lt_zero, Nat.one_ne_zero, Nat.zero_ne_one, Nat.le_refl, Nat.zero_le, zn_sel_r, zn_sel_l, e1, zx_countHolding hT g.1 hf]
    obtain ⟨y, ek, y0, y4, y8, y1⟩ : ∃ y : Int32 × Mem, fX9_shelvesWith K (nI f) = some y ∧ y.2 0 0 = nI 0 ∧ y.2 0 4 = K 0 4 ∧ y.2 0 8 = K 0 8 ∧ nI (zs_having S f) = y.1 := by
      unfold fX9_shelvesWith 
      simp (disch := omega) only [li0, li1, li2, li3, li4, li5, li6, li7, li8, li9, li10, li12, li13, li14, li15, li19, li20, li31, li33, li40, li42, li44, li48, li57, li60, li99, li100, li126, li150, li176, li177, li187, li197, li207, li208, li223, li304, li608, li1520, li1824, nI_add, pk_mul, nI_clamp, nI_leI, nI_ltI, nI_eq, zn_inb, zn_gd, zn_bs, zn_isb, not_true_eq_false, not_false_eq_true, ↓reduceIte, pk_div, pk_sub, zn_rem20, zn_rem2, zn_m1, zn_eqw, zn_weq, zn_weq2, zn_wlt0, zn_wltn, zn_win, zn_wcl, zn_wadd, Nat.not_lt_zero, Nat.one_ne_zero, Nat.zero_ne_one, Nat.le_refl, Nat.zero_le, zn_sel_r, zn_sel_l, e3, fX9_fails, fX9_shelvesWith_B25, zk_having (K := (sr K 0 (upd (K 0) 0 (nI 0)))) hK0 g hf]
      exact ⟨_, rfl, rfl, rfl, rfl, rfl⟩
    exact zf_ok h hn ex ek y0 y4 y8 y1
  · have e3 := e2
    have ex : fX8_shelvesWith M x1 = some (.inl "java/lang/IndexOutOfBoundsException") := by
      unfold fX8_shelvesWith 
      simp (disch := omega) only [li0, li1, li2, li3, li4, li5, li6, li7, li8, li9, li10, li12, li13, li14, li15, li19, li20, li31, li33, li40, li42, li44, li48, li57, li60, li99, li100, li126, li150, li176, li177, li187, li197, li207, li208, li223, li304, li608, li1520, li1824, nI_add, pk_mul, nI_clamp, nI_leI, nI_ltI, nI_eq, zn_inb, zn_gd, zn_bs, zn_isb, not_true_eq_false, not_false_eq_true, ↓reduceIte, pk_div, pk_sub, zn_rem20, zn_rem2, zn_m1, zn_eqw, zn_weq, zn_weq2, zn_wlt0, zn_wltn, zn_win, zn_wcl, zn_wadd, Nat.not_lt_zero, Nat.one_ne_zero, Nat.zero_ne_one, Nat.le_refl, Nat.zero_le, zn_sel_r, zn_sel_l, e1]
    obtain ⟨y, ek, y0, y4, y8⟩ : ∃ y : Int32 × Mem, fX9_shelvesWith K x1 = some y ∧ y.2 0 0 = nI (0 + 1) ∧ y.2 0 4 = K 0 4 ∧ y.2 0 8 = K 0 8 := by
      unfold fX9_shelvesWith 
      simp (disch := omega) only [li0, li1, li2, li3, li4, li5, li6, li7, li8, li9, li10, li12, li13, li14, li15, li19, li20, li31, li33, li40, li42, li44, li48, li57, li60, li99, li100, li126, li150, li176, li177, li187, li197, li207, li208, li223, li304, li608, li1520, li1824, nI_add, pk_mul, nI_clamp, nI_leI, nI_ltI, nI_eq, zn_inb, zn_gd, zn_bs, zn_isb, not_true_eq_false, not_false_eq_true, ↓reduceIte, pk_div, pk_sub, zn_rem20, zn_rem2, zn_m1, zn_eqw, zn_weq, zn_weq2, zn_wlt0, zn_wltn, zn_win, zn_wcl, zn_wadd, Nat.not_lt_zero, Nat.one_ne_zero, Nat.zero_ne_one, Nat.le_refl, Nat.zero_le, zn_sel_r, zn_sel_l, e3, fX9_fails, fX9_shelvesWith_B25]
      exact ⟨_, rfl, rfl, rfl, rfl⟩
    exact zf_no (i := 0) h hn rfl ex ek y0 y4 y8
theorem zt_leastOf : St_leastOf ZI := by
  intro n C M K x1 hn h
  obtain ⟨S, T, hc, ⟨hX, hK, g, h99⟩, hH, hB⟩ := id h
  have hc12 := g.c12
  have h8 := g.o8
  have lo := g.lo
  have hw12 := g.1.2.1
  have hT : RT (ofs 2 M) S := hX.t
  have hK0 : RK ((sr K 0 (upd (K 0) 0 (nI 0))) 1) S := hK
  rcases zr_kind M x1 with ⟨f, hf, rfl, e1, e2⟩ | ⟨e1, e2⟩
  · have e3 := e2
    have ex : fX8_leastOf M (nI f) = some (.inr (nI (S 11 f))) := by
      unfold fX8_leastOf 
      simp (disch := omega) only [li0, li1, li2, li3, li4, li5, li6, li7, li8, li9, li10, li12, li13, li14, li15, li19, li20, li31, li33, li40, li42, li44, li48, li57, li60, li99, li100, li126, li150, li176, li177, li187, li197, li207, li208, li223, li304, li608, li1520, li1824, nI_add, pk_mul, nI_clamp, nI_leI, nI_ltI, nI_eq, zn_inb, zn_gd, zn_bs, zn_isb, not_true_eq_false, not_false_eq_true, ↓reduceIte, pk_div, pk_sub, zn_rem20, zn_rem2, zn_m1, zn_eqw, zn_weq, zn_weq2, zn_wlt0, zn_wltn, zn_win, zn_wcl, zn_wadd, Nat.not_lt_zero, Nat.one_ne_zero, Nat.zero_ne_one, Nat.le_refl, Nat.zero_le, zn_sel_r, zn_sel_l, e1, show M 12 f = _ from hX.r11 f hf]
    obtain ⟨y, ek, y0, y4, y8, y1⟩ : ∃ y : Int32 × Mem, fX9_leastOf K (nI f) = some y ∧ y.2 0 0 = nI 0 ∧ y.2 0 4 = K 0 4 ∧ y.2 0 8 = K 0 8 ∧ nI (S 11 f) = y.1 := by
      unfold fX9_leastOf 
      simp (disch := omega) only [li0, li1, li2, li3, li4, li5, li6, li7, li8, li9, li10, li12, li13, li14, li15, li19, li20, li31, li33, li40, li42, li44, li48, li57, li60, li99, li100, li126, li150, li176, li177, li187, li197, li207, li208, li223, li304, li608, li1520, li1824, nI_add, pk_mul, nI_clamp, nI_leI, nI_ltI, nI_eq, zn_inb, zn_gd, zn_bs, zn_isb, not_true_eq_false, not_false_eq_true, ↓reduceIte, pk_div, pk_sub, zn_rem20, zn_rem2, zn_m1, zn_eqw, zn_weq, zn_weq2, zn_wlt0, zn_wltn, zn_win, zn_wcl, zn_wadd, Nat.not_lt_zero, Nat.one_ne_zero, Nat.zero_ne_one, Nat.le_refl, Nat.zero_le, zn_sel_r, zn_sel_l, e3, fX9_fails, fX9_leastOf_B30, (hK.2.2.2.2.2.1 f hf).2.1]
      exact ⟨_, rfl, rfl, rfl, rfl, rfl⟩
    exact zf_ok h hn ex ek y0 y4 y8 y1
  · have e3 := e2
    have ex : fX8_leastOf M x1 = some (.inl "java/lang/IndexOutOfBoundsException") := by
      unfold fX8_leastOf 
      simp (disch := omega) only [li0, li1, li2, li3, li4, li5, li6, li7, li8, li9, li10, li12, li13, li14, li15, li19, li20, li31, li33, li40, li42, li44, li48, li57, li60, li99, li100, li126, li150, li176, li177, li187, li197, li207, li208, li223, li304, li608, li1520, li1824, nI_add, pk_mul, nI_clamp, nI_leI, nI_ltI, nI_eq, zn_inb, zn_gd, zn_bs, zn_isb, not_true_eq_false, not_false_eq_true, ↓reduceIte, pk_div, pk_sub, zn_rem20, zn_rem2, zn_m1, zn_eqw, zn_weq, zn_weq2, zn_wlt0, zn_wltn, zn_win, zn_wcl, zn_wadd, Nat.not_lt_zero, Nat.one_ne_zero, Nat.zero_ne_one, Nat.le_refl, Nat.zero_le, zn_sel_r, zn_sel_l, e1]
    obtain ⟨y, ek, y0, y4, y8⟩ : ∃ y : Int32 × Mem, fX9_leastOf K x1 = some y ∧ y.2 0 0 = nI (0 + 1) ∧ y.2 0 4 = K 0 4 ∧ y.2 0 8 = K 0 8 := by
      unfold fX9_leastOf 
      simp (disch := omega) only [li0, li1, li2, li3, li4, li5, li6, li7, li8, li9, li10, li12, li13, li14, li15, li19, li20, li31, li33, li40, li42, li44, li48, li57, li60, li99, li100, li126, li150, li176, li177, li187, li197, li207, li208, li223, li304, li608, li1520, li1824, nI_add, pk_mul, nI_clamp, nI_leI, nI_ltI, nI_eq, zn_inb, zn_gd, zn_bs, zn_isb, not_true_eq_false, not_false_eq_true, ↓reduceIte, pk_div, pk_sub, zn_rem20, zn_rem2, zn_m1, zn_eqw, zn_weq, zn_weq2, zn_wlt0, zn_wltn, zn_win, zn_wcl, zn_wadd, Nat.not_lt_zero, Nat.one_ne_zero, Nat.zero_ne_one, Nat.le_refl, Nat.zero_le, zn_sel_r, zn_sel_l, e3, fX9_fails, fX9_leastOf_B30]
      exact ⟨_, rfl, rfl, rfl, rfl⟩
    exact zf_no (i := 0) h hn rfl ex ek y0 y4 y8
theorem zt_missingOf : St_missingOf ZI := by
  intro n C M K x1 hn h
  obtain ⟨S, T, hc, ⟨hX, hK, g, h99⟩, hH, hB⟩ := id h
  have hc12 := g.c12
  have h8 := g.o8
  have lo := g.lo
  have hw12 := g.1.2.1
  have hT : RT (ofs 2 M) S := hX.t
  have hK0 : RK ((sr K 0 (upd (K 0) 0 (nI 0))) 1) S := hK
  rcases zr_kind M x1 with ⟨f, hf, rfl, e1, e2⟩ | ⟨e1, e2⟩
  · have e3 := e2
    have ex : fX8_missingOf M (nI f) = some (.inr (nI (zs_miss S f))) := by
      unfold fX8_missingOf 
      simp (disch := omega) only [li0, li1, li2, li3, li4, li5, li6, li7, li8, li9, li10, li12, li13, li14, li15, li19, li20, li31, li33, li40, li42, li44, li48, li57, li60, li99, li100, li126, li150, li176, li177, li187, li197, li207, li208, li223, li304, li608, li1520, li1824, nI_add, pk_mul, nI_clamp, nI_leI, nI_ltI, nI_eq, zn_inb, zn_gd, zn_bs, zn_isb, not_true_eq_false, not_false_eq_true, ↓reduceIte, pk_div, pk_sub, zn_rem20, zn_rem2, zn_m1, zn_eqw, zn_weq, zn_weq2, zn_wlt0, zn_wltn, zn_win, zn_wcl, zn_wadd, Nat.not_lt_zero, Nat.one_ne_zero, Nat.zero_ne_one, Nat.le_refl, Nat.zero_le, zn_sel_r, zn_sel_l, e1, zx_missing hX g hf]
    obtain ⟨y, ek, y0, y4, y8, y1⟩ : ∃ y : Int32 × Mem, fX9_missingOf K (nI f) = some y ∧ y.2 0 0 = nI 0 ∧ y.2 0 4 = K 0 4 ∧ y.2 0 8 = K 0 8 ∧ nI (zs_miss S f) = y.1 := by
      unfold fX9_missingOf 
      simp (disch := omega) only [li0, li1, li2, li3, li4, li5, li6, li7, li8, li9, li10, li12, li13, li14, li15, li19, li20, li31, li33, li40, li42, li44, li48, li57, li60, li99, li100, li126, li150, li176, li177, li187, li197, li207, li208, li223, li304, li608, li1520, li1824, nI_add, pk_mul, nI_clamp, nI_leI, nI_ltI, nI_eq, zn_inb, zn_gd, zn_bs, zn_isb, not_true_eq_false, not_false_eq_true, ↓reduceIte, pk_div, pk_sub, zn_rem20, zn_rem2, zn_m1, zn_eqw, zn_weq, zn_weq2, zn_wlt0, zn_wltn, zn_win, zn_wcl, zn_wadd, Nat.not_lt_zero, Nat.one_ne_zero, Nat.zero_ne_one, Nat.le_refl, Nat.zero_le, zn_sel_r, zn_sel_l, e3, fX9_fails, fX9_missingOf_B25, zk_missing (K := (sr K 0 (upd (K 0) 0 (nI 0)))) hK0 g hf]
      exact ⟨_, rfl, rfl, rfl, rfl, rfl⟩
    exact zf_ok h hn ex ek y0 y4 y8 y1
  · have e3 := e2
    have ex : fX8_missingOf M x1 = some (.inl "java/lang/IndexOutOfBoundsException") := by
      unfold fX8_missingOf 
      simp (disch := omega) only [li0, li1, li2, li3, li4, li5, li6, li7, li8, li9, li10, li12, li13, li14, li15, li19, li20, li31, li33, li40, li42, li44, li48, li57, li60, li99, li100, li126, li150, li176, li177, li187, li197, li207, li208, li223, li304, li608, li1520, li1824, nI_add, pk_mul, nI_clamp, nI_leI, nI_ltI, nI_eq, zn_inb, zn_gd, zn_bs, zn_isb, not_true_eq_false, not_false_eq_true, ↓reduceIte, pk_div, pk_sub, zn_rem20, zn_rem2, zn_m1, zn_eqw, zn_weq, zn_weq2, zn_wlt0, zn_wltn, zn_win, zn_wcl, zn_wadd, Nat.not_lt_zero, Nat.one_ne_zero, Nat.zero_ne_one, Nat.le_refl, Nat.zero_le, zn_sel_r, zn_sel_l, e1]
    obtain ⟨y, ek, y0, y4, y8⟩ : ∃ y : Int32 × Mem, fX9_missingOf K x1 = some y ∧ y.2 0 0 = nI (0 + 1) ∧ y.2 0 4 = K 0 4 ∧ y.2 0 8 = K 0 8 := by
      unfold fX9_missingOf 
      simp (disch := omega) only [li0, li1, li2, li3, li4, li5, li6, li7, li8, li9, li10, li12, li13, li14, li15, li19, li20, li31, li33, li40, li42, li44, li48, li57, li60, li99, li100, li126, li150, li176, li177, li187, li197, li207, li208, li223, li304, li608, li1520, li1824, nI_add, pk_mul, nI_clamp, nI_leI, nI_ltI, nI_eq, zn_inb, zn_gd, zn_bs, zn_isb, not_true_eq_false, not_false_eq_true, ↓reduceIte, pk_div, pk_sub, zn_rem20, zn_rem2, zn_m1, zn_eqw, zn_weq, zn_weq2, zn_wlt0, zn_wltn, zn_win, zn_wcl, zn_wadd, Nat.not_lt_zero, Nat.one_ne_zero, Nat.zero_ne_one, Nat.le_refl, Nat.zero_le, zn_sel_r, zn_sel_l, e3, fX9_fails, fX9_missingOf_B25]
      exact ⟨_, rfl, rfl, rfl, rfl⟩
    exact zf_no (i := 0) h hn rfl ex ek y0 y4 y8
theorem zt_thingsOf : St_thingsOf ZI := by
  intro n C M K x1 hn h
  obtain ⟨S, T, hc, ⟨hX, hK, g, h99⟩, hH, hB⟩ := id h
  have hc12 := g.c12
  have h8 := g.o8
  have lo := g.lo
  have hw12 := g.1.2.1
  have hT : RT (ofs 2 M) S := hX.t
  have hK0 : RK ((sr K 0 (upd (K 0) 0 (nI 0))) 1) S := hK
  rcases zr_order hX h8 x1 with ⟨f, hf, rfl, e1, e2⟩ | ⟨e1, e2⟩
  · have e3 := e2 (sr K 0 (upd (K 0) 0 (nI 0))) hK0
    have ex : fX8_thingsOf M (nI f) = some (.inr (nI (zs_wm S f))) := by
      unfold fX8_thingsOf 
      simp (disch := omega) only [li0, li1, li2, li3, li4, li5, li6, li7, li8, li9, li10, li12, li13, li14, li15, li19, li20, li31, li33, li40, li42, li44, li48, li57, li60, li99, li100, li126, li150, li176, li177, li187, li197, li207, li208, li223, li304, li608, li1520, li1824, nI_add, pk_mul, nI_clamp, nI_leI, nI_ltI, nI_eq, zn_inb, zn_gd, zn_bs, zn_isb, not_true_eq_false, not_false_eq_true, ↓reduceIte, pk_div, pk_sub, zn_rem20, zn_rem2, zn_m1, zn_eqw, zn_weq, zn_weq2, zn_wlt0, zn_wltn, zn_win, zn_wcl, zn_wadd, Nat.not_lt_zero, Nat.one_ne_zero, Nat.zero_ne_one, Nat.le_refl, Nat.zero_le, zn_sel_r, zn_sel_l, e1, zx_sumG (O := ofs 15 M) hX.r15 (r := f) (by omega)]
    obtain ⟨y, ek, y0, y4, y8, y1⟩ : ∃ y : Int32 × Mem, fX9_thingsOf K (nI f) = some y ∧ y.2 0 0 = nI 0 ∧ y.2 0 4 = K 0 4 ∧ y.2 0 8 = K 0 8 ∧ nI (zs_wm S f) = y.1 := by
      unfold fX9_thingsOf 
      simp (disch := omega) only [li0, li1, li2, li3, li4, li5, li6, li7, li8, li9, li10, li12, li13, li14, li15, li19, li20, li31, li33, li40, li42, li44, li48, li57, li60, li99, li100, li126, li150, li176, li177, li187, li197, li207, li208, li223, li304, li608, li1520, li1824, nI_add, pk_mul, nI_clamp, nI_leI, nI_ltI, nI_eq, zn_inb, zn_gd, zn_bs, zn_isb, not_true_eq_false, not_false_eq_true, ↓reduceIte, pk_div, pk_sub, zn_rem20, zn_rem2, zn_m1, zn_eqw, zn_weq, zn_weq2, zn_wlt0, zn_wltn, zn_win, zn_wcl, zn_wadd, Nat.not_lt_zero, Nat.one_ne_zero, Nat.zero_ne_one, Nat.le_refl, Nat.zero_le, zn_sel_r, zn_sel_l, e3, fX9_fails, fX9_thingsOf_B26, zk_wantedMany (K := (sr K 0 (upd (K 0) 0 (nI 0)))) hK0 g hf]
      exact ⟨_, rfl, rfl, rfl, rfl, rfl⟩
    exact zf_ok h hn ex ek y0 y4 y8 y1
  · have e3 := e2 (sr K 0 (upd (K 0) 0 (nI 0))) hK0
    have ex : fX8_thingsOf M x1 = some (.inl "java/lang/IndexOutOfBoundsException") := by
      unfold fX8_thingsOf 
      simp (disch := omega) only [li0, li1, li2, li3, li4, li5, li6, li7, li8, li9, li10, li12, li13, li14, li15, li19, li20, li31, li33, li40, li42, li44, li48, li57, li60, li99, li100, li126, li150, li176, li177, li187, li197, li207, li208, li223, li304, li608, li1520, li1824, nI_add, pk_mul, nI_clamp, nI_leI, nI_ltI, nI_eq, zn_inb, zn_gd, zn_bs, zn_isb, not_true_eq_false, not_false_eq_true, ↓reduceIte, pk_div, pk_sub, zn_rem20, zn_rem2, zn_m1, zn_eqw, zn_weq, zn_weq2, zn_wlt0, zn_wltn, zn_win, zn_wcl, zn_wadd, Nat.not_lt_zero, Nat.one_ne_zero, Nat.zero_ne_one, Nat.le_refl, Nat.zero_le, zn_sel_r, zn_sel_l, e1]
    obtain ⟨y, ek, y0, y4, y8⟩ : ∃ y : Int32 × Mem, fX9_thingsOf K x1 = some y ∧ y.2 0 0 = nI (0 + 1) ∧ y.2 0 4 = K 0 4 ∧ y.2 0 8 = K 0 8 := by
      unfold fX9_thingsOf 
      simp (disch := omega) only [li0, li1, li2, li3, li4, li5, li6, li7, li8, li9, li10, li12, li13, li14, li15, li19, li20, li31, li33, li40, li42, li44, li48, li57, li60, li99, li100, li126, li150, li176, li177, li187, li197, li207, li208, li223, li304, li608, li1520, li1824, nI_add, pk_mul, nI_clamp, nI_leI, nI_ltI, nI_eq, zn_inb, zn_gd, zn_bs, zn_isb, not_true_eq_false, not_false_eq_true, ↓reduceIte, pk_div, pk_sub, zn_rem20, zn_rem2, zn_m1, zn_eqw, zn_weq, zn_weq2, zn_wlt0, zn_wltn, zn_win, zn_wcl, zn_wadd, Nat.not_lt_zero, Nat.one_ne_zero, Nat.zero_ne_one, Nat.le_refl, Nat.zero_le, zn_sel_r, zn_sel_l, e3, fX9_fails, fX9_thingsOf_B26]
      exact ⟨_, rfl, rfl, rfl, rfl⟩
    exact zf_no (i := 0) h hn rfl ex ek y0 y4 y8
theorem zt_longestGap : St_longestGap ZI := by
  intro n C M K x1 hn h
  obtain ⟨S, T, hc, ⟨hX, hK, g, h99⟩, hH, hB⟩ := id h
  have hc12 := g.c12
  have h8 := g.o8
  have lo := g.lo
  have hw12 := g.1.2.1
  have hT : RT (ofs 2 M) S := hX.t
  have hK0 : RK ((sr K 0 (upd (K 0) 0 (nI 0))) 1) S := hK
  rcases zr_side M x1 with ⟨f, hf, rfl, e1, e2⟩ | ⟨e1, e2⟩
  · have e3 := e2
    have ex : fX8_longestGap M (nI f) = some (.inr (nI (zs_gp (zs_tq S) f 20).1)) := by
      unfold fX8_longestGap 
      simp (disch := omega) only [li0, li1, li2, li3, li4, li5, li6, li7, li8, li9, li10, li12, li13, li14, li15, li19, li20, li31, li33, li40, li42, li44, li48, li57, li60, li99, li100, li126, li150, li176, li177, li187, li197, li207, li208, li223, li304, li608, li1520, li1824, nI_add, pk_mul, nI_clamp, nI_leI, nI_ltI, nI_eq, zn_inb, zn_gd, zn_bs, zn_isb, not_true_eq_false, not_false_eq_true, ↓reduceIte, pk_div, pk_sub, zn_rem20, zn_rem2, zn_m1, zn_eqw, zn_weq, zn_weq2, zn_wlt0, zn_wltn, zn_win, zn_wcl, zn_wadd, Nat.not_lt_zero, Nat.one_ne_zero, Nat.zero_ne_one, Nat.le_refl, Nat.zero_le, zn_sel_r, zn_sel_l, e1, zx_longestFree hT g.1 hf]
    obtain ⟨y, ek, y0, y4, y8, y1⟩ : ∃ y : Int32 × Mem, fX9_longestGap K (nI f) = some y ∧ y.2 0 0 = nI 0 ∧ y.2 0 4 = K 0 4 ∧ y.2 0 8 = K 0 8 ∧ nI (zs_gp (zs_tq S) f 20).1 = y.1 := by
      unfold fX9_longestGap 
      simp (disch := omega) only [li0, li1, li2, li3, li4, li5, li6, li7, li8, li9, li10, li12, li13, li14, li15, li19, li20, li31, li33, li40, li42, li44, li48, li57, li60, li99, li100, li126, li150, li176, li177, li187, li197, li207, li208, li223, li304, li608, li1520, li1824, nI_add, pk_mul, nI_clamp, nI_leI, nI_ltI, nI_eq, zn_inb, zn_gd, zn_bs, zn_isb, not_true_eq_false, not_false_eq_true, ↓reduceIte, pk_div, pk_sub, zn_rem20, zn_rem2, zn_m1, zn_eqw, zn_weq, zn_weq2, zn_wlt0, zn_wltn, zn_win, zn_wcl, zn_wadd, Nat.not_lt_zero, Nat.one_ne_zero, Nat.zero_ne_one, Nat.le_refl, Nat.zero_le, zn_sel_r, zn_sel_l, e3, fX9_fails, fX9_longestGap_B27, zk_gap (K := (sr K 0 (upd (K 0) 0 (nI 0)))) hK0 g.1.k hf]
      exact ⟨_, rfl, rfl, rfl, rfl, rfl⟩
    exact zf_ok h hn ex ek y0 y4 y8 y1
  · have e3 := e2
    have ex : fX8_longestGap M x1 = some (.inl "java/lang/IndexOutOfBoundsException") := by
      unfold fX8_longestGap 
      simp (disch := omega) only [li0, li1, li2, li3, li4, li5, li6, li7, li8, li9, li10, li12, li13, li14, li15, li19, li20, li31, li33, li40, li42, li44, li48, li57, li60, li99, li100, li126, li150, li176, li177, li187, li197, li207, li208, li223, li304, li608, li1520, li1824, nI_add, pk_mul, nI_clamp, nI_leI, nI_ltI, nI_eq, zn_inb, zn_gd, zn_bs, zn_isb, not_true_eq_false, not_false_eq_true, ↓reduceIte, pk_div, pk_sub, zn_rem20, zn_rem2, zn_m1, zn_eqw, zn_weq, zn_weq2, zn_wlt0, zn_wltn, zn_win, zn_wcl, zn_wadd, Nat.not_lt_zero, Nat.one_ne_zero, Nat.zero_ne_one, Nat.le_refl, Nat.zero_le, zn_sel_r, zn_sel_l, e1]
    obtain ⟨y, ek, y0, y4, y8⟩ : ∃ y : Int32 × Mem, fX9_longestGap K x1 = some y ∧ y.2 0 0 = nI (0 + 1) ∧ y.2 0 4 = K 0 4 ∧ y.2 0 8 = K 0 8 := by
      unfold fX9_longestGap 
      simp (disch := omega) only [li0, li1, li2, li3, li4, li5, li6, li7, li8, li9, li10, li12, li13, li14, li15, li19, li20, li31, li33, li40, li42, li44, li48, li57, li60, li99, li100, li126, li150, li176, li177, li187, li197, li207, li208, li223, li304, li608, li1520, li1824, nI_add, pk_mul, nI_clamp, nI_leI, nI_ltI, nI_eq, zn_inb, zn_gd, zn_bs, zn_isb, not_true_eq_false, not_false_eq_true, ↓reduceIte, pk_div, pk_sub, zn_rem20, zn_rem2, zn_m1, zn_eqw, zn_weq, zn_weq2, zn_wlt0, zn_wltn, zn_win, zn_wcl, zn_wadd, Nat.not_lt_zero, Nat.one_ne_zero, Nat.zero_ne_one, Nat.le_refl, Nat.zero_le, zn_sel_r, zn_sel_l, e3, fX9_fails, fX9_longestGap_B27]
      exact ⟨_, rfl, rfl, rfl, rfl⟩
    exact zf_no (i := 0) h hn rfl ex ek y0 y4 y8
theorem zt_sideWeight : St_sideWeight ZI := by
  intro n C M K x1 hn h
  obtain ⟨S, T, hc, ⟨hX, hK, g, h99⟩, hH, hB⟩ := id h
  have hc12 := g.c12
  have h8 := g.o8
  have lo := g.lo
  have hw12 := g.1.2.1
  have hT : RT (ofs 2 M) S := hX.t
  have hK0 : RK ((sr K 0 (upd (K 0) 0 (nI 0))) 1) S := hK
  rcases zr_side M x1 with ⟨f, hf, rfl, e1, e2⟩ | ⟨e1, e2⟩
  · have e3 := e2
    have ex : fX8_sideWeight M (nI f) = some (.inr (nI (zs_heavy S f (S 1 0)))) := by
      unfold fX8_sideWeight 
      simp (disch := omega) only [li0, li1, li2, li3, li4, li5, li6, li7, li8, li9, li10, li12, li13, li14, li15, li19, li20, li31, li33, li40, li42, li44, li48, li57, li60, li99, li100, li126, li150, li176, li177, li187, li197, li207, li208, li223, li304, li608, li1520, li1824, nI_add, pk_mul, nI_clamp, nI_leI, nI_ltI, nI_eq, zn_inb, zn_gd, zn_bs, zn_isb, not_true_eq_false, not_false_eq_true, ↓reduceIte, pk_div, pk_sub, zn_rem20, zn_rem2, zn_m1, zn_eqw, zn_weq, zn_weq2, zn_wlt0, zn_wltn, zn_win, zn_wcl, zn_wadd, Nat.not_lt_zero, Nat.one_ne_zero, Nat.zero_ne_one, Nat.le_refl, Nat.zero_le, zn_sel_r, zn_sel_l, e1, zx_weighSide hX g hf]
    obtain ⟨y, ek, y0, y4, y8, y1⟩ : ∃ y : Int32 × Mem, fX9_sideWeight K (nI f) = some y ∧ y.2 0 0 = nI 0 ∧ y.2 0 4 = K 0 4 ∧ y.2 0 8 = K 0 8 ∧ nI (zs_heavy S f (S 1 0)) = y.1 := by
      unfold fX9_sideWeight 
      simp (disch := omega) only [li0, li1, li2, li3, li4, li5, li6, li7, li8, li9, li10, li12, li13, li14, li15, li19, li20, li31, li33, li40, li42, li44, li48, li57, li60, li99, li100, li126, li150, li176, li177, li187, li197, li207, li208, li223, li304, li608, li1520, li1824, nI_add, pk_mul, nI_clamp, nI_leI, nI_ltI, nI_eq, zn_inb, zn_gd, zn_bs, zn_isb, not_true_eq_false, not_false_eq_true, ↓reduceIte, pk_div, pk_sub, zn_rem20, zn_rem2, zn_m1, zn_eqw, zn_weq, zn_weq2, zn_wlt0, zn_wltn, zn_win, zn_wcl, zn_wadd, Nat.not_lt_zero, Nat.one_ne_zero, Nat.zero_ne_one, Nat.le_refl, Nat.zero_le, zn_sel_r, zn_sel_l, e3, fX9_fails, fX9_sideWeight_B27, zk_heavy (K := (sr K 0 (upd (K 0) 0 (nI 0)))) hK0 g hf]
      exact ⟨_, rfl, rfl, rfl, rfl, rfl⟩
    exact zf_ok h hn ex ek y0 y4 y8 y1
  · have e3 := e2
    have ex : fX8_sideWeight M x1 = some (.inl "java/lang/IndexOutOfBoundsException") := by
      unfold fX8_sideWeight 
      simp (disch := omega) only [li0, li1, li2, li3, li4, li5, li6, li7, li8, li9, li10, li12, li13, li14, li15, li19, li20, li31, li33, li40, li42, li44, li48, li57, li60, li99, li100, li126, li150, li176, li177, li187, li197, li207, li208, li223, li304, li608, li1520, li1824, nI_add, pk_mul, nI_clamp, nI_leI, nI_ltI, nI_eq, zn_inb, zn_gd, zn_bs, zn_isb, not_true_eq_false, not_false_eq_true, ↓reduceIte, pk_div, pk_sub, zn_rem20, zn_rem2, zn_m1, zn_eqw, zn_weq, zn_weq2, zn_wlt0, zn_wltn, zn_win, zn_wcl, zn_wadd, Nat.not_lt_zero, Nat.one_ne_zero, Nat.zero_ne_one, Nat.le_refl, Nat.zero_le, zn_sel_r, zn_sel_l, e1]
    obtain ⟨y, ek, y0, y4, y8⟩ : ∃ y : Int32 × Mem, fX9_sideWeight K x1 = some y ∧ y.2 0 0 = nI (0 + 1) ∧ y.2 0 4 = K 0 4 ∧ y.2 0 8 = K 0 8 := by
      unfold fX9_sideWeight 
      simp (disch := omega) only [li0, li1, li2, li3, li4, li5, li6, li7, li8, li9, li10, li12, li13, li14, li15, li19, li20, li31, li33, li40, li42, li44, li48, li57, li60, li99, li100, li126, li150, li176, li177, li187, li197, li207, li208, li223, li304, li608, li1520, li1824, nI_add, pk_mul, nI_clamp, nI_leI, nI_ltI, nI_eq, zn_inb, zn_gd, zn_bs, zn_isb, not_true_eq_false, not_false_eq_true, ↓reduceIte, pk_div, pk_sub, zn_rem20, zn_rem2, zn_m1, zn_eqw, zn_weq, zn_weq2, zn_wlt0, zn_wltn, zn_win, zn_wcl, zn_wadd, Nat.not_lt_zero, Nat.one_ne_zero, Nat.zero_ne_one, Nat.le_refl, Nat.zero_le, zn_sel_r, zn_sel_l, e3, fX9_fails, fX9_sideWeight_B27]
      exact ⟨_, rfl, rfl, rfl, rfl⟩
    exact zf_no (i := 0) h hn rfl ex ek y0 y4 y8
