set_option maxHeartbeats 400000
/-! the class's calls within their ranges: those that the digest doesn't ask -/
theorem xr_height (M : Mem) {w : Nat} (w1 : 1 ≤ w) (w4 : w ≤ 4) : fX8_requireHeight M (nI w) = some (.inr ()) := by
  unfold fX8_requireHeight
  rw [show (1 : Int32) = nI 1 from rfl, show (4 : Int32) = nI 4 from rfl, if_neg (nI_nlt w1 (by omega)), if_pos (nI_le w4 (by omega))]
theorem xr_many (M : Mem) {w : Nat} (w1 : 1 ≤ w) (w4 : w ≤ 20) : fX8_requireMany M (nI w) = some (.inr ()) := by
  unfold fX8_requireMany
  rw [show (1 : Int32) = nI 1 from rfl, show (20 : Int32) = nI 20 from rfl, if_neg (nI_nlt w1 (by omega)), if_pos (nI_le w4 (by omega))]
theorem xr_slot (M : Mem) {s t : Nat} (hs : s < 2) (ht : t < 20) : fX8_requireSlot M (nI s) (nI t) = some (.inr ()) := by
  have e := zd_rd M hs
  unfold fX8_requireSlot
  rw [e, zn_bs, zn_sel_r, show (0 : Int32) = nI 0 from rfl, show (20 : Int32) = nI 20 from rfl, if_neg (nI_nlt (Nat.zero_le _) (by omega)), if_pos (nI_lt ht (by omega))]
section
variable {M : Mem} {S : SM} {u : Nat}
theorem xg_isFree (hX : RX (ofs 1 M) S) (g : GX u S) {s t : Nat} (hs : s < 2) (ht : t < 20) (c1 : ¬ zs_ho S (s * 20 + t) = 0) : fX8_isFree M (nI s) (nI t) = some (.inr (nI 0)) := by
  have e1 := xr_slot M hs ht
  have hT : RT (ofs 2 M) S := hX.t
  have e3 := zx_holderOf hT g.1 (p := s * 20 + t) (by omega)
  have hc := g.c12
  have hl := zs_ho_le S (s * 20 + t)
  unfold fX8_isFree
  simp (disch := omega) only [li0, li1, li2, li3, li4, li5, li6, li7, li8, li9, li10, li12, li13, li14, li15, li19, li20, li31, li33, li40, li42, li44, li48, li57, li60, li99, li100, li126, li150, li176, li177, li187, li197, li207, li208, li223, li304, li608, li1520, li1824, nI_add, pk_mul, nI_clamp, nI_leI, nI_ltI, nI_eq, zn_inb, zn_gd, zn_bs, zn_isb, not_true_eq_false, not_false_eq_true, ↓reduceIte, pk_div, pk_sub, zn_rem20, zn_rem2, zn_m1, zn_eqw, zn_weq, zn_weq2, zn_wlt0, zn_wltn, zn_win, zn_wcl, zn_wadd, Nat.not_lt_zero, Nat.one_ne_zero, Nat.zero_ne_one, Nat.le_refl, Nat.zero_le, zn_sel_r, zn_sel_l, e1, e3, c1, fX8_isFree_B31]
theorem xg_shelfAt (hX : RX (ofs 1 M) S) (g : GX u S) {s t : Nat} (hs : s < 2) (ht : t < 20) (c1 : ¬ zs_ho S (s * 20 + t) = 0) : fX8_shelfAt M (nI s) (nI t) = some (.inr (wI (zs_ho S (s * 20 + t)))) := by
  have e1 := xr_slot M hs ht
  have hT : RT (ofs 2 M) S := hX.t
  have e3 := zx_holderOf hT g.1 (p := s * 20 + t) (by omega)
  have hc := g.c12
  have hl := zs_ho_le S (s * 20 + t)
  unfold fX8_shelfAt
  simp (disch := omega) only [li0, li1, li2, li3, li4, li5, li6, li7, li8, li9, li10, li12, li13, li14, li15, li19, li20, li31, li33, li40, li42, li44, li48, li57, li60, li99, li100, li126, li150, li176, li177, li187, li197, li207, li208, li223, li304, li608, li1520, li1824, nI_add, pk_mul, nI_clamp, nI_leI, nI_ltI, nI_eq, zn_inb, zn_gd, zn_bs, zn_isb, not_true_eq_false, not_false_eq_true, ↓reduceIte, pk_div, pk_sub, zn_rem20, zn_rem2, zn_m1, zn_eqw, zn_weq, zn_weq2, zn_wlt0, zn_wltn, zn_win, zn_wcl, zn_wadd, Nat.not_lt_zero, Nat.one_ne_zero, Nat.zero_ne_one, Nat.le_refl, Nat.zero_le, zn_sel_r, zn_sel_l, e1, e3, c1]
theorem xg_heaviest (hX : RX (ofs 1 M) S) (g : GX u S) (h0 : 0 < S 1 0) : fX8_heaviest M = some (.inr (nI (zs_hv S (S 1 0) - 1))) := by
  have m1 : M 2 0 = nI (S 1 0) := hX.c
  have hc := g.c12
  have c1 : ¬ S 1 0 = 0 := by omega
  have e1 := zx_findHeaviest hX g
  have p := zs_hv_p (S := S) (S 1 0) (by omega)
  rw [wI_p p] at e1
  unfold fX8_heaviest fX8_requireSomeShelf
  simp (disch := omega) only [li0, li1, li2, li3, li4, li5, li6, li7, li8, li9, li10, li12, li13, li14, li15, li19, li20, li31, li33, li40, li42, li44, li48, li57, li60, li99, li100, li126, li150, li176, li177, li187, li197, li207, li208, li223, li304, li608, li1520, li1824, nI_add, pk_mul, nI_clamp, nI_leI, nI_ltI, nI_eq, zn_inb, zn_gd, zn_bs, zn_isb, not_true_eq_false, not_false_eq_true, ↓reduceIte, pk_div, pk_sub, zn_rem20, zn_rem2, zn_m1, zn_eqw, zn_weq, zn_weq2, zn_wlt0, zn_wltn, zn_win, zn_wcl, zn_wadd, Nat.not_lt_zero, Nat.one_ne_zero, Nat.zero_ne_one, Nat.le_refl, Nat.zero_le, zn_sel_r, zn_sel_l, m1, c1, e1]
theorem xg_most (hX : RX (ofs 1 M) S) (g : GX u S) (h0 : 0 < S 1 0) : fX8_mostFetched M = some (.inr (nI (zs_mu S 0 (S 1 0) - 1))) := by
  have m1 : M 2 0 = nI (S 1 0) := hX.c
  have hc := g.c12
  have hT : RT (ofs 2 M) S := hX.t
  have c1 : ¬ S 1 0 = 0 := by omega
  have e1 := zx_mostUsed hT g.1 (lo := 0) (by omega)
  have p := zs_mu_p (S := S) (S 1 0) (by omega)
  rw [wI_p p] at e1
  unfold fX8_mostFetched fX8_requireSomeShelf
  simp (disch := omega) only [li0, li1, li2, li3, li4, li5, li6, li7, li8, li9, li10, li12, li13, li14, li15, li19, li20, li31, li33, li40, li42, li44, li48, li57, li60, li99, li100, li126, li150, li176, li177, li187, li197, li207, li208, li223, li304, li608, li1520, li1824, nI_add, pk_mul, nI_clamp, nI_leI, nI_ltI, nI_eq, zn_inb, zn_gd, zn_bs, zn_isb, not_true_eq_false, not_false_eq_true, ↓reduceIte, pk_div, pk_sub, zn_rem20, zn_rem2, zn_m1, zn_eqw, zn_weq, zn_weq2, zn_wlt0, zn_wltn, zn_win, zn_wcl, zn_wadd, Nat.not_lt_zero, Nat.one_ne_zero, Nat.zero_ne_one, Nat.le_refl, Nat.zero_le, zn_sel_r, zn_sel_l, m1, c1, e1]
theorem xg_can (hX : RX (ofs 1 M) S) (g : GX u S) {r : Nat} (hr : r < S 14 0) : fX8_canServe M (nI r) = some (.inr (nI (bif zs_can S r then 1 else 0))) := by
  have e1 := zd_ro hX g.o8 hr
  have m1 := zx_isServable hX g hr
  unfold fX8_canServe
  cases q : zs_can S r
  · rw [q, cond_false] at m1
    rw [cond_false]
    simp (disch := omega) only [li0, li1, li2, li3, li4, li5, li6, li7, li8, li9, li10, li12, li13, li14, li15, li19, li20, li31, li33, li40, li42, li44, li48, li57, li60, li99, li100, li126, li150, li176, li177, li187, li197, li207, li208, li223, li304, li608, li1520, li1824, nI_add, pk_mul, nI_clamp, nI_leI, nI_ltI, nI_eq, zn_inb, zn_gd, zn_bs, zn_isb, not_true_eq_false, not_false_eq_true, ↓reduceIte, pk_div, pk_sub, zn_rem20, zn_rem2, zn_m1, zn_eqw, zn_weq, zn_weq2, zn_wlt0, zn_wltn, zn_win, zn_wcl, zn_wadd, Nat.not_lt_zero, Nat.one_ne_zero, Nat.zero_ne_one, Nat.le_refl, Nat.zero_le, zn_sel_r, zn_sel_l, e1, m1]
  · rw [q, cond_true] at m1
    rw [cond_true]
    simp (disch := omega) only [li0, li1, li2, li3, li4, li5, li6, li7, li8, li9, li10, li12, li13, li14, li15, li19, li20, li31, li33, li40, li42, li44, li48, li57, li60, li99, li100, li126, li150, li176, li177, li187, li197, li207, li208, li223, li304, li608, li1520, li1824, nI_add, pk_mul, nI_clamp, nI_leI, nI_ltI, nI_eq, zn_inb, zn_gd, zn_bs, zn_isb, not_true_eq_false, not_false_eq_true, ↓reduceIte, pk_div, pk_sub, zn_rem20, zn_rem2, zn_m1, zn_eqw, zn_weq, zn_weq2, zn_wlt0, zn_wltn, zn_win, zn_wcl, zn_wadd, Nat.not_lt_zero, Nat.one_ne_zero, Nat.zero_ne_one, Nat.le_refl, Nat.zero_le, zn_sel_r, zn_sel_l, e1, m1]
theorem xg_trying (hX : RX (ofs 1 M) S) (g : GX u S) {r : Nat} (hr : r < S 14 0) (hcan : zs_can S r = true) : fX8_fewestByTrying M (nI r) = some (.inr (nI (zs_bits (zs_set S r)))) := by
  have e1 := zd_ro hX g.o8 hr
  have e4 := zr_srv hX g hr
  rw [hcan, if_pos rfl] at e4
  obtain ⟨v, e5, hv⟩ := zx_choice hX g hr hcan
  have v12 := zs_best_lt g hv
  rw [zs_set_of hv]
  unfold fX8_fewestByTrying
  simp (disch := omega) only [li0, li1, li2, li3, li4, li5, li6, li7, li8, li9, li10, li12, li13, li14, li15, li19, li20, li31, li33, li40, li42, li44, li48, li57, li60, li99, li100, li126, li150, li176, li177, li187, li197, li207, li208, li223, li304, li608, li1520, li1824, nI_add, pk_mul, nI_clamp, nI_leI, nI_ltI, nI_eq, zn_inb, zn_gd, zn_bs, zn_isb, not_true_eq_false, not_false_eq_true, ↓reduceIte, pk_div, pk_sub, zn_rem20, zn_rem2, zn_m1, zn_eqw, zn_weq, zn_weq2, zn_wlt0, zn_wltn, zn_win, zn_wcl, zn_wadd, Nat.not_lt_zero, Nat.one_ne_zero, Nat.zero_ne_one, Nat.le_refl, Nat.zero_le, zn_sel_r, zn_sel_l, e1, e4, e5, zx_bitCount v12]
theorem xg_going (hX : RX (ofs 1 M) S) (g : GX u S) {r : Nat} (hr : r < S 14 0) (hcan : zs_can S r = true) : ∃ z2, fX8_fewestByGoing M (nI r) = some (.inr (nI (zs_bits (zs_set S r))), z2) := by
  have e1 := zd_ro hX g.o8 hr
  have e4 := zr_srv hX g hr
  rw [hcan, if_pos rfl] at e4
  obtain ⟨v, e5, hv⟩ := zx_choice hX g hr hcan
  rw [zs_set_of hv]
  obtain ⟨z, e6⟩ := zx_fewestFound hX g hr hv
  unfold fX8_fewestByGoing
  simp (disch := omega) only [li0, li1, li2, li3, li4, li5, li6, li7, li8, li9, li10, li12, li13, li14, li15, li19, li20, li31, li33, li40, li42, li44, li48, li57, li60, li99, li100, li126, li150, li176, li177, li187, li197, li207, li208, li223, li304, li608, li1520, li1824, nI_add, pk_mul, nI_clamp, nI_leI, nI_ltI, nI_eq, zn_inb, zn_gd, zn_bs, zn_isb, not_true_eq_false, not_false_eq_true, ↓reduceIte, pk_div, pk_sub, zn_rem20, zn_rem2, zn_m1, zn_eqw, zn_weq, zn_weq2, zn_wlt0, zn_wltn, zn_win, zn_wcl, zn_wadd, Nat.not_lt_zero, Nat.one_ne_zero, Nat.zero_ne_one, Nat.le_refl, Nat.zero_le, zn_sel_r, zn_sel_l, e1, e4, e6]
  exact ⟨_, rfl⟩
theorem xg_fewest_pos (hX : RX (ofs 1 M) S) (g : GX u S) (h99 : S 99 0 = 0) {r : Nat} (hr : r < S 14 0) (hcan : zs_can S r = true) : 1 ≤ zs_bits (zs_set S r) := by
  obtain ⟨v, e5, hv⟩ := zx_choice hX g hr hcan
  rw [zs_set_of hv]
  exact zs_set_pos g h99 hr hv
end
