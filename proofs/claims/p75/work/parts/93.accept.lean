set_option maxHeartbeats 400000
/-! an order of one kind, written and taken on -/
theorem xo_text {k d : Nat} (hk : k < 10) (h1 : 1 ≤ d) (h9 : d ≤ 9) {t : Nat → Nat} (t0 : t 0 = 48 + k) (t1 : t 1 = 42) (t2 : t 2 = 48 + d) : zp_run t 3 0 0 0 (fun _ => 0) = (3, 3, uw (fun _ => 0) k d) := by
  have s0 : zp_step 0 0 (fun _ => 0) (t 0) = (true, 1, k + 1, fun _ => 0) := by
    unfold zp_step
    rw [if_pos rfl, t0, if_pos (by omega), show 48 + k - 47 = k + 1 by omega]
  have s1 : zp_step 1 (k + 1) (fun _ => 0) (t 1) = (true, 2, k + 1, fun _ => 0) := by
    unfold zp_step
    rw [if_neg (by decide), if_pos rfl, t1]
    rfl
  have s2 : zp_step 2 (k + 1) (fun _ => 0) (t 2) = (true, 3, k + 1, uw (fun _ => 0) k d) := by
    unfold zp_step zp_put
    rw [if_neg (by decide), if_neg (by decide), if_pos rfl, t2, if_neg (by omega), if_pos (by omega), Nat.add_sub_cancel, show 0 * 10 + (48 + d - 48) = d by omega, decide_eq_true (by omega)]
  rw [zp_run, s0]
  simp only [cond_true]
  rw [zp_run, s1]
  simp only [cond_true]
  rw [zp_run, s2]
  simp only [cond_true]
  rw [zp_run]
section
variable {u hc : Nat} {C : Nat → Option Mem} {M : Mem} {S : SM} {T : Nat → SM}
theorem xo_append {len v : Nat} (m0 : M 36 0 = nI len) (hl : len < 60) (v0 : 33 ≤ v) (v9 : v ≤ 126) : fX8_append M (nI v) = some (.inr (nI (len + 1)), sr (sr M 36 (upd (M 36) 0 (nI (len + 1)))) 37 (upd (M 37) len (nI v))) := by
  have v1 : ¬ v < 33 := by omega
  unfold fX8_append
  simp (disch := omega) only [li0, li1, li2, li3, li4, li5, li6, li7, li8, li9, li10, li12, li13, li14, li15, li19, li20, li31, li33, li40, li42, li44, li48, li57, li60, li99, li100, li126, li150, li176, li177, li187, li197, li207, li208, li223, li304, li608, li1520, li1824, nI_add, pk_mul, nI_clamp, nI_leI, nI_ltI, nI_eq, zn_inb, zn_gd, zn_bs, zn_isb, not_true_eq_false, not_false_eq_true, ↓reduceIte, pk_div, pk_sub, zn_rem20, zn_rem2, zn_m1, zn_eqw, zn_weq, zn_weq2, zn_wlt0, zn_wltn, zn_win, zn_wcl, zn_wadd, Nat.not_lt_zero, Nat.one_ne_zero, Nat.zero_ne_one, Nat.le_refl, Nat.zero_le, zn_sel_r, zn_sel_l, v1, v9, m0, hl]
theorem xo_accept (h : HX C (M 33) T hc) (hX : RX (ofs 1 M) S) (g : GX u S) (c8 : S 14 0 < 8) {k d : Nat} (hk : k < 10) (h1 : 1 ≤ d) (h9 : d ≤ 9) (m0 : M 36 0 = nI 3) (t0 : M 37 0 = nI (48 + k)) (t1 : M 37 1 = nI 42) (t2 : M 37 2 = nI (48 + d)) : ∃ v z2 z3, fX8_accept C M = some (.inr v, z2, z3) ∧ RX (ofs 1 z2) (zo_ord S (uw (fun _ => 0) k d)) ∧ HX z3 (z2 33) (zh_T hc T S) (zh_n hc) := by
  have hm0 : M 15 0 = nI (S 14 0) := hX.2.1.2.2.2.2.2.2
  obtain ⟨zx, e1, e2⟩ := zx_isOrder (M := ofs 36 M) (len := 3) (by omega) (t := fun i => if i = 0 then 48 + k else if i = 1 then 42 else 48 + d) m0 (fun i hi => by
    rcases (show i = 0 ∨ i = 1 ∨ i = 2 by omega) with rfl | rfl | rfl
    · exact ⟨t0, show 48 + k ≤ 126 by omega⟩
    · exact ⟨t1, show 42 ≤ 126 by omega⟩
    · exact ⟨t2, show 48 + d ≤ 126 by omega⟩)
  rw [xo_text hk h1 h9 (t := fun i => if i = 0 then 48 + k else if i = 1 then 42 else 48 + d) rfl rfl rfl] at e1 e2
  rw [if_pos ⟨rfl, rfl⟩] at e1
  have e2 : rn 10 (zx 3) (uw (fun _ => 0) k d) := e2
  obtain ⟨q, es, hq⟩ := h.svv g (P := (pk [33, 34, 35, 1, 2, 3, 4, 5, 6, 7, 8, 9, 10, 11, 12, 13, 14, 15, 16] (sr (sr M 38 (zx 2)) 39 (zx 3)))) (hX.of rfl rfl rfl rfl rfl rfl rfl rfl rfl rfl rfl rfl rfl rfl rfl) rfl
  obtain ⟨za, ea, za0, za1⟩ := zx_add (O := pk [15, 16, 39] (sr (sr (sr M 33 (q.1 0)) 38 (zx 2)) 39 (zx 3))) (S := S) (W := uw (fun _ => 0) k d) hm0 hX.r15 e2 c8
  unfold fX8_accept
  simp (disch := omega) only [li0, li1, li2, li3, li4, li5, li6, li7, li8, li9, li10, li12, li13, li14, li15, li19, li20, li31, li33, li40, li42, li44, li48, li57, li60, li99, li100, li126, li150, li176, li177, li187, li197, li207, li208, li223, li304, li608, li1520, li1824, nI_add, pk_mul, nI_clamp, nI_leI, nI_ltI, nI_eq, zn_inb, zn_gd, zn_bs, zn_isb, not_true_eq_false, not_false_eq_true, ↓reduceIte, pk_div, pk_sub, zn_rem20, zn_rem2, zn_m1, zn_eqw, zn_weq, zn_weq2, zn_wlt0, zn_wltn, zn_win, zn_wcl, zn_wadd, Nat.not_lt_zero, Nat.one_ne_zero, Nat.zero_ne_one, Nat.le_refl, Nat.zero_le, zn_sel_r, zn_sel_l, e1, hm0, c8, es, ea, inrs, Option.map_some]
  exact ⟨_, _, _, rfl, ⟨hX.1, ⟨hX.2.1.1, hX.2.1.2.1, hX.2.1.2.2.1, hX.2.1.2.2.2.1, hX.2.1.2.2.2.2.1, hX.2.1.2.2.2.2.2.1, za0⟩, hX.r7, hX.r8, hX.r10, hX.r11, hX.r12, hX.r13, za1⟩, hq⟩
theorem xo_undo (h : HX C (M 33) T hc) (h0 : 0 < hc) {u : Nat} (g : GX u (T (hc - 1))) : ∃ z2, fX8_undo C M = some (.inr (), z2, C) ∧ RX (ofs 1 z2) (T (hc - 1)) ∧ HX C (z2 33) T (hc - 1) := by
  obtain ⟨a1, a3, a4⟩ := id h
  obtain ⟨N, b1, b3⟩ := a4 (hc - 1) (by omega)
  have p0 : (pk [33, 34, 35, 1, 2, 3, 4, 5, 6, 7, 8, 9, 10, 11, 12, 13, 14, 15, 16] M) 0 0 = nI hc := a1
  obtain ⟨rr, e4, hr⟩ := zx_copyFrom (M := jn16 (ofs 3 (pk [33, 34, 35, 1, 2, 3, 4, 5, 6, 7, 8, 9, 10, 11, 12, 13, 14, 15, 16] M)) N) (S := T (hc - 1)) (b3.of rfl rfl rfl rfl rfl rfl rfl rfl rfl rfl rfl rfl rfl rfl rfl) g.lo.2.1 g.lo.2.2.2
  have c0 : ¬ hc ≤ 0 := by omega
  have e0 : fX1_restoreLatest C (pk [33, 34, 35, 1, 2, 3, 4, 5, 6, 7, 8, 9, 10, 11, 12, 13, 14, 15, 16] M) = some (nI 1, jn3 (pk [33, 34, 35, 1, 2, 3, 4, 5, 6, 7, 8, 9, 10, 11, 12, 13, 14, 15, 16] M) rr) := by
    unfold fX1_restoreLatest
    simp (disch := omega) only [li0, li1, li2, li3, li4, li5, li6, li7, li8, li9, li10, li12, li13, li14, li15, li19, li20, li31, li33, li40, li42, li44, li48, li57, li60, li99, li100, li126, li150, li176, li177, li187, li197, li207, li208, li223, li304, li608, li1520, li1824, nI_add, pk_mul, nI_clamp, nI_leI, nI_ltI, nI_eq, zn_inb, zn_gd, zn_bs, zn_isb, not_true_eq_false, not_false_eq_true, ↓reduceIte, pk_div, pk_sub, zn_rem20, zn_rem2, zn_m1, zn_eqw, zn_weq, zn_weq2, zn_wlt0, zn_wltn, zn_win, zn_wcl, zn_wadd, Nat.not_lt_zero, Nat.one_ne_zero, Nat.zero_ne_one, Nat.le_refl, Nat.zero_le, zn_sel_r, zn_sel_l, p0, c0, a3, b1, e4]
  obtain ⟨z2, ex, hx2, e33⟩ : ∃ z2, fX8_undo C M = some (.inr (), z2, C) ∧ RX (ofs 1 z2) (T (hc - 1)) ∧ z2 33 0 = nI (hc - 1) := by
    unfold fX8_undo
    simp (disch := omega) only [li0, li1, li2, li3, li4, li5, li6, li7, li8, li9, li10, li12, li13, li14, li15, li19, li20, li31, li33, li40, li42, li44, li48, li57, li60, li99, li100, li126, li150, li176, li177, li187, li197, li207, li208, li223, li304, li608, li1520, li1824, nI_add, pk_mul, nI_clamp, nI_leI, nI_ltI, nI_eq, zn_inb, zn_gd, zn_bs, zn_isb, not_true_eq_false, not_false_eq_true, ↓reduceIte, pk_div, pk_sub, zn_rem20, zn_rem2, zn_m1, zn_eqw, zn_weq, zn_weq2, zn_wlt0, zn_wltn, zn_win, zn_wcl, zn_wadd, Nat.not_lt_zero, Nat.one_ne_zero, Nat.zero_ne_one, Nat.le_refl, Nat.zero_le, zn_sel_r, zn_sel_l, e0]
    refine ⟨_, rfl, hr.of rfl rfl rfl rfl rfl rfl rfl rfl rfl rfl rfl rfl rfl rfl rfl, ?_⟩
    show M 33 0 - 1 = nI (hc - 1)
    rw [a1]
    exact pk_sub (show 1 ≤ hc by omega)
  exact ⟨z2, ex, hx2, e33, by omega, fun i hi => a4 i (by omega)⟩
end
