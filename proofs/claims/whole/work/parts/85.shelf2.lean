set_option maxHeartbeats 400000
/-! a shelf comes, a shelf goes: the calls -/
theorem zo_nm1 {p : Nat} (h : p < 2 ^ 30) : ¬ nI p = (-1 : Int32) := fun e => by
  have := (zn_weq2 (f := p) (w := 0) h (by omega)).mp (wI_0.trans e.symm)
  omega
section
variable {n u : Nat} {C : Nat → Option Mem} {M K : Mem} {S : SM}
theorem zo_add_e (S : SM) (p w : Nat) : sw (sw (zo_add S 0 0) 2 (uw (S 2) (S 1 0) w)) 3 (uw (S 3) (S 1 0) p) = zo_add S p w := by
  funext r
  unfold zo_add sw
  by_cases a5 : r = 5
  · subst a5
    rfl
  · by_cases a4 : r = 4
    · subst a4
      rfl
    · by_cases a3 : r = 3
      · subst a3
        rfl
      · by_cases a2 : r = 2
        · subst a2
          rfl
        · simp only [a5, a4, a3, a2, if_false]
theorem zt_addShelf : St_addShelf ZI := by
  intro n C M K x1 hn h
  obtain ⟨S, T, hc, ⟨hX, hK, g, h99⟩, hH, hB⟩ := id h
  have hc12 := g.c12
  have h8 := g.o8
  have lo := g.lo
  have hw12 := g.1.2.1
  have hT : RT (ofs 2 M) S := hX.t
  have hK0 : RK ((sr K 0 (upd (K 0) 0 (nI 0))) 1) S := hK
  have gn := g.nx hn
  obtain ⟨q, r, es, er, hH', r0⟩ := ZI.save (P := (pk [33, 34, 35, 1, 2, 3, 4, 5, 6, 7, 8, 9, 10, 11, 12, 13, 14, 15, 16] M)) (K0 := (sr K 0 (upd (K 0) 0 (nI 0)))) hn ⟨hX, hK, g, h99⟩ hH (hX.of rfl rfl rfl rfl rfl rfl rfl rfl rfl rfl rfl rfl rfl rfl rfl ) rfl rfl rfl rfl
  have rt : r 0 0 = nI 0 := (r0 0 (by omega)).trans rfl
  have r8 : r 0 8 = K 0 8 := (r0 8 (by omega)).trans rfl
  have hKR : RK ((sr (sr K 0 (r 0)) 3 (r 3)) 1) S := hK
  have hk0 : K 1 0 = nI (S 1 0) := hK.1
  have hm0 : M 2 0 = nI (S 1 0) := hX.c
  rcases zr_height M x1 with ⟨w, w1, w4, rfl, e1, e2⟩ | ⟨e1, e2⟩
  · by_cases c0 : S 1 0 < 12
    · have c12 : ¬ S 1 0 = 12 := by omega
      have e4 := zr_win hX (by omega)
      have e5 := zk_hasWindow (K := (sr K 0 (upd (K 0) 0 (nI 0)))) hK0 (by omega)
      by_cases c1 : S 1 1 = 0
      · rw [if_pos c1] at e4 e5
        have e6 := zx_firstFree hT g.1 w4
        have e7 := zk_place (K := (sr K 0 (upd (K 0) 0 (nI 0)))) hK0 g.1.k w4
        have e8 := zk_place (K := (sr (sr K 0 (r 0)) 3 (r 3))) hKR g.1.k w4
        have fl := zs_fp_le (zs_tq S) w
        by_cases c2 : zs_fp (zs_tq S) w = 0
        · rw [c2] at e6 e7
          have ex : fX8_addShelf C M (nI w) = some (.inl "java/lang/IllegalStateException", M, C) := by
            unfold fX8_addShelf
            simp (disch := omega) only [li0, li1, li2, li3, li4, li5, li6, li7, li8, li9, li10, li12, li13, li14, li15, li19, li20, li31, li33, li40, li42, li44, li48, li57, li60, li99, li100, li126, li150, li176, li177, li187, li197, li207, li208, li223, li304, li608, li1520, li1824, nI_add, pk_mul, nI_clamp, nI_leI, nI_ltI, nI_eq, zn_inb, zn_gd, zn_bs, zn_isb, not_true_eq_false, not_false_eq_true, ↓reduceIte, pk_div, pk_sub, zn_rem20, zn_rem2, zn_m1, zn_eqw, zn_weq, zn_weq2, zn_wlt0, zn_wltn, zn_win, zn_wcl, zn_wadd, Nat.not_lt_zero, Nat.one_ne_zero, Nat.zero_ne_one, Nat.le_refl, Nat.zero_le, zn_sel_r, zn_sel_l, e1, hm0, c0, e4, e6]
          obtain ⟨y, ek, y0, y4, y8, yk, y3⟩ : ∃ y : Int32 × Mem, fX9_addShelf K (nI w) = some y ∧ y.2 0 0 = nI (1 + 1) ∧ y.2 0 4 = K 0 4 ∧ y.2 0 8 = K 0 8 ∧ RK (y.2 1) S ∧ y.2 3 = K 3 := by
            unfold fX9_addShelf
            simp (disch := omega) only [li0, li1, li2, li3, li4, li5, li6, li7, li8, li9, li10, li12, li13, li14, li15, li19, li20, li31, li33, li40, li42, li44, li48, li57, li60, li99, li100, li126, li150, li176, li177, li187, li197, li207, li208, li223, li304, li608, li1520, li1824, nI_add, pk_mul, nI_clamp, nI_leI, nI_ltI, nI_eq, zn_inb, zn_gd, zn_bs, zn_isb, not_true_eq_false, not_false_eq_true, ↓reduceIte, pk_div, pk_sub, zn_rem20, zn_rem2, zn_m1, zn_eqw, zn_weq, zn_weq2, zn_wlt0, zn_wltn, zn_win, zn_wcl, zn_wadd, Nat.not_lt_zero, Nat.one_ne_zero, Nat.zero_ne_one, Nat.le_refl, Nat.zero_le, zn_sel_r, zn_sel_l, fX9_fails, e2, hk0, c12, e5, e7, fX9_addShelf_B47]
            exact ⟨_, rfl, rfl, rfl, rfl, hK, rfl⟩
          exact ⟨_, _, M, C, y, ex, Or.inr ⟨1, _, rfl, rfl, rfl⟩, fun _ _ => rfl, ek, y0, (fun u hu => by cases hu), ZI.gen hn hH hB hX yk gn h99 rfl rfl rfl y4 y8 y3 rfl rfl rfl⟩
        · obtain ⟨fit1, fit2⟩ := zs_fp_fit (show 0 < zs_fp (zs_tq S) w by omega)
          have ep : wI (zs_fp (zs_tq S) w) = nI (zs_fp (zs_tq S) w - 1) := wI_p (by omega)
          rw [ep] at e6 e7 e8
          generalize zs_fp (zs_tq S) w - 1 = p at fit1 fit2 e6 e7 e8
          have pm : ¬ nI p = (-1 : Int32) := zo_nm1 (by omega)
          obtain ⟨zb, eb, hzb⟩ := zx_addAt (T := ofs 2 (sr M 33 (q.1 0))) (S := S) hT c0 p w
          obtain ⟨z1, z2, ex, hx2, e33, e36, e37⟩ : ∃ z1 z2, fX8_addShelf C M (nI w) = some (.inr z1, z2, q.2) ∧ RX (ofs 1 z2) (zo_add S p w) ∧ z2 33 = q.1 0 ∧ z2 36 = M 36 ∧ z2 37 = M 37 ∧ z1 = nI (S 1 0) := by
            unfold fX8_addShelf
            simp (disch := omega) only [li0, li1, li2, li3, li4, li5, li6, li7, li8, li9, li10, li12, li13, li14, li15, li19, li20, li31, li33, li40, li42, li44, li48, li57, li60, li99, li100, li126, li150, li176, li177, li187, li197, li207, li208, li223, li304, li608, li1520, li1824, nI_add, pk_mul, nI_clamp, nI_leI, nI_ltI, nI_eq, zn_inb, zn_gd, zn_bs, zn_isb, not_true_eq_false, not_false_eq_true, ↓reduceIte, pk_div, pk_sub, zn_rem20, zn_rem2, zn_m1, zn_eqw, zn_weq, zn_weq2, zn_wlt0, zn_wltn, zn_win, zn_wcl, zn_wadd, Nat.not_lt_zero, Nat.one_ne_zero, Nat.zero_ne_one, Nat.le_refl, Nat.zero_le, zn_sel_r, zn_sel_l, e1, hm0, c0, e4, e6, pm, es, eb, inrs, Option.map_some]
            exact ⟨_, _, rfl, ⟨⟨hzb.1, hzb.2.1, hzb.2.2.1, hzb.2.2.2.1, hzb.2.2.2.2.1, hzb.2.2.2.2.2⟩, hX.2.1, hX.r7, hX.r8, hX.r10, hX.r11, hX.r12, hX.r13, hX.r15⟩, rfl, rfl, rfl, rfl⟩
          obtain ⟨e37, ev⟩ := e37
          obtain ⟨y, ek, y0, y4, y8, yk, y3, y1⟩ : ∃ y : Int32 × Mem, fX9_addShelf K (nI w) = some y ∧ y.2 0 0 = nI 0 ∧ y.2 0 4 = r 0 4 ∧ y.2 0 8 = K 0 8 ∧ RK (y.2 1) (zo_add S p w) ∧ y.2 3 = r 3 ∧ nI (S 1 0) = y.1 := by
            have key : ∃ z, fX9_addShelf K (nI w) = some (nI (S 1 0), z) ∧ (z 0 0 = nI 0 ∧ z 0 4 = r 0 4 ∧ z 0 8 = K 0 8 ∧ RK (z 1) (zo_add S p w) ∧ z 3 = r 3) := by
              unfold fX9_addShelf
              simp (disch := omega) only [li0, li1, li2, li3, li4, li5, li6, li7, li8, li9, li10, li12, li13, li14, li15, li19, li20, li31, li33, li40, li42, li44, li48, li57, li60, li99, li100, li126, li150, li176, li177, li187, li197, li207, li208, li223, li304, li608, li1520, li1824, nI_add, pk_mul, nI_clamp, nI_leI, nI_ltI, nI_eq, zn_inb, zn_gd, zn_bs, zn_isb, not_true_eq_false, not_false_eq_true, ↓reduceIte, pk_div, pk_sub, zn_rem20, zn_rem2, zn_m1, zn_eqw, zn_weq, zn_weq2, zn_wlt0, zn_wltn, zn_win, zn_wcl, zn_wadd, Nat.not_lt_zero, Nat.one_ne_zero, Nat.zero_ne_one, Nat.le_refl, Nat.zero_le, zn_sel_r, zn_sel_l, e2, hk0, c12, e5, e7, pm, er, e8]
              refine zk_addShelf_L (K := K) c0 (s1 := upd (K 1) 0 (nI (S 1 0 + 1))) (c0 := r 0) (c3 := r 3) (Q := fun z => z 0 0 = nI 0 ∧ z 0 4 = r 0 4 ∧ z 0 8 = K 0 8 ∧ RK (z 1) (zo_add S p w) ∧ z 3 = r 3) (fun N n0 n3 n1 => ?_) 14 0 5000 _ (by omega) (by omega) rfl rfl (fun i => by rw [if_neg (by omega)]; rfl)
              have a1 := RK.z hK c0 h8 n1
              have a2 := RK.uh a1 (show S 1 0 + 1 ≤ 12 by omega) (show S 1 0 < S 1 0 + 1 by omega) w
              have b1 := zk_layG (K := sr (sr (sr K 0 (N 0)) 1 (N 1)) 3 (N 3)) c0 (j := 0) (by omega) w
              obtain ⟨z, b2, b3⟩ := zk_puts (K := sr (sr (sr K 0 (N 0)) 1 (upd (N 1) (9 + 14 * S 1 0 + 0) (nI w))) 3 (N 3)) a2 (show S 1 0 + 1 ≤ 12 by omega) (show S 1 0 < S 1 0 + 1 by omega) (p := p) (by omega)
              rw [show uw (zo_add S 0 0 2) (S 1 0) w = uw (S 2) (S 1 0) w from uw_uw _ _ _ _, show uw (sw (zo_add S 0 0) 2 (uw (S 2) (S 1 0) w) 3) (S 1 0) p = uw (S 3) (S 1 0) p from uw_uw _ _ _ _, zo_add_e] at b3
              have r1 : sr (sr (sr (sr K 0 (N 0)) 1 (N 1)) 3 (N 3)) 1 (upd (sr (sr (sr K 0 (N 0)) 1 (N 1)) 3 (N 3) 1) (9 + 14 * S 1 0 + 0) (nI w)) 1 = upd (N 1) (9 + 14 * S 1 0 + 0) (nI w) := rfl
              simp (disch := omega) only [li0, li1, li2, li3, li4, li5, li6, li7, li8, li9, li10, li12, li13, li14, li15, li19, li20, li31, li33, li40, li42, li44, li48, li57, li60, li99, li100, li126, li150, li176, li177, li187, li197, li207, li208, li223, li304, li608, li1520, li1824, nI_add, pk_mul, nI_clamp, nI_leI, nI_ltI, nI_eq, zn_inb, zn_gd, zn_bs, zn_isb, not_true_eq_false, not_false_eq_true, ↓reduceIte, pk_div, pk_sub, zn_rem20, zn_rem2, zn_m1, zn_eqw, zn_weq, zn_weq2, zn_wlt0, zn_wltn, zn_win, zn_wcl, zn_wadd, Nat.not_lt_zero, Nat.one_ne_zero, Nat.zero_ne_one, Nat.le_refl, Nat.zero_le, zn_sel_r, zn_sel_l, b1]
              refine ⟨sr (sr (sr K 0 (N 0)) 1 (z 1)) 3 (N 3), ?_, ?_, ?_, ?_, b3, n3⟩
              · refine (congrArg (fun o => Option.bind o _) b2).trans ?_
                rfl
              · show N 0 0 = nI 0
                rw [n0, rt]
              · show N 0 4 = r 0 4
                rw [n0]
              · show N 0 8 = K 0 8
                rw [n0, r8]
            obtain ⟨z, ez, z1, z2, z3, z4, z5⟩ := key
            exact ⟨_, ez, z1, z2, z3, z4, z5, rfl⟩
          exact ⟨_, _, z2, q.2, y, ex, Or.inl ⟨_, rfl, rfl⟩, (fun E hE => by cases hE), ek, y0, (fun u hu => by cases hu; exact ev.trans y1), ZI.gen2 hH' hB hx2 yk (gn.add c1 c0 w1 w4 fit1 fit2) (h99) e33 e36 e37 y4 y8 y3 rfl rfl rfl⟩
      · rw [if_neg c1] at e4 e5
        have ex : fX8_addShelf C M (nI w) = some (.inl "java/lang/IllegalStateException", M, C) := by
          unfold fX8_addShelf
          simp (disch := omega) only [li0, li1, li2, li3, li4, li5, li6, li7, li8, li9, li10, li12, li13, li14, li15, li19, li20, li31, li33, li40, li42, li44, li48, li57, li60, li99, li100, li126, li150, li176, li177, li187, li197, li207, li208, li223, li304, li608, li1520, li1824, nI_add, pk_mul, nI_clamp, nI_leI, nI_ltI, nI_eq, zn_inb, zn_gd, zn_bs, zn_isb, not_true_eq_false, not_false_eq_true, ↓reduceIte, pk_div, pk_sub, zn_rem20, zn_rem2, zn_m1, zn_eqw, zn_weq, zn_weq2, zn_wlt0, zn_wltn, zn_win, zn_wcl, zn_wadd, Nat.not_lt_zero, Nat.one_ne_zero, Nat.zero_ne_one, Nat.le_refl, Nat.zero_le, zn_sel_r, zn_sel_l, e1, hm0, c0, e4]
        obtain ⟨y, ek, y0, y4, y8, yk, y3⟩ : ∃ y : Int32 × Mem, fX9_addShelf K (nI w) = some y ∧ y.2 0 0 = nI (1 + 1) ∧ y.2 0 4 = K 0 4 ∧ y.2 0 8 = K 0 8 ∧ RK (y.2 1) S ∧ y.2 3 = K 3 := by
          unfold fX9_addShelf
          simp (disch := omega) only [li0, li1, li2, li3, li4, li5, li6, li7, li8, li9, li10, li12, li13, li14, li15, li19, li20, li31, li33, li40, li42, li44, li48, li57, li60, li99, li100, li126, li150, li176, li177, li187, li197, li207, li208, li223, li304, li608, li1520, li1824, nI_add, pk_mul, nI_clamp, nI_leI, nI_ltI, nI_eq, zn_inb, zn_gd, zn_bs, zn_isb, not_true_eq_false, not_false_eq_true, ↓reduceIte, pk_div, pk_sub, zn_rem20, zn_rem2, zn_m1, zn_eqw, zn_weq, zn_weq2, zn_wlt0, zn_wltn, zn_win, zn_wcl, zn_wadd, Nat.not_lt_zero, Nat.one_ne_zero, Nat.zero_ne_one, Nat.le_refl, Nat.zero_le, zn_sel_r, zn_sel_l, fX9_fails, e2, hk0, c12, e5, fX9_addShelf_B47]
          exact ⟨_, rfl, rfl, rfl, rfl, hK, rfl⟩
        exact ⟨_, _, M, C, y, ex, Or.inr ⟨1, _, rfl, rfl, rfl⟩, fun _ _ => rfl, ek, y0, (fun u hu => by cases hu), ZI.gen hn hH hB hX yk gn h99 rfl rfl rfl y4 y8 y3 rfl rfl rfl⟩
    · have c12 : S 1 0 = 12 := by omega
      have ex : fX8_addShelf C M (nI w) = some (.inl "java/lang/IllegalStateException", M, C) := by
        unfold fX8_addShelf
        simp (disch := omega) only [li0, li1, li2, li3, li4, li5, li6, li7, li8, li9, li10, li12, li13, li14, li15, li19, li20, li31, li33, li40, li42, li44, li48, li57, li60, li99, li100, li126, li150, li176, li177, li187, li197, li207, li208, li223, li304, li608, li1520, li1824, nI_add, pk_mul, nI_clamp, nI_leI, nI_ltI, nI_eq, zn_inb, zn_gd, zn_bs, zn_isb, not_true_eq_false, not_false_eq_true, ↓reduceIte, pk_div, pk_sub, zn_rem20, zn_rem2, zn_m1, zn_eqw, zn_weq, zn_weq2, zn_wlt0, zn_wltn, zn_win, zn_wcl, zn_wadd, Nat.not_lt_zero, Nat.one_ne_zero, Nat.zero_ne_one, Nat.le_refl, Nat.zero_le, zn_sel_r, zn_sel_l, e1, hm0, c0]
      obtain ⟨y, ek, y0, y4, y8, yk, y3⟩ : ∃ y : Int32 × Mem, fX9_addShelf K (nI w) = some y ∧ y.2 0 0 = nI (1 + 1) ∧ y.2 0 4 = K 0 4 ∧ y.2 0 8 = K 0 8 ∧ RK (y.2 1) S ∧ y.2 3 = K 3 := by
        unfold fX9_addShelf
        simp (disch := omega) only [li0, li1, li2, li3, li4, li5, li6, li7, li8, li9, li10, li12, li13, li14, li15, li19, li20, li31, li33, li40, li42, li44, li48, li57, li60, li99, li100, li126, li150, li176, li177, li187, li197, li207, li208, li223, li304, li608, li1520, li1824, nI_add, pk_mul, nI_clamp, nI_leI, nI_ltI, nI_eq, zn_inb, zn_gd, zn_bs, zn_isb, not_true_eq_false, not_false_eq_true, ↓reduceIte, pk_div, pk_sub, zn_rem20, zn_rem2, zn_m1, zn_eqw, zn_weq, zn_weq2, zn_wlt0, zn_wltn, zn_win, zn_wcl, zn_wadd, Nat.not_lt_zero, Nat.one_ne_zero, Nat.zero_ne_one, Nat.le_refl, Nat.zero_le, zn_sel_r, zn_sel_l, fX9_fails, e2, hk0, c12, fX9_addShelf_B47]
        exact ⟨_, rfl, rfl, rfl, rfl, hK, rfl⟩
      exact ⟨_, _, M, C, y, ex, Or.inr ⟨1, _, rfl, rfl, rfl⟩, fun _ _ => rfl, ek, y0, (fun u hu => by cases hu), ZI.gen hn hH hB hX yk gn h99 rfl rfl rfl y4 y8 y3 rfl rfl rfl⟩
  · have ex : fX8_addShelf C M x1 = some (.inl "java/lang/IllegalArgumentException", M, C) := by
      unfold fX8_addShelf
      simp (disch := omega) only [li0, li1, li2, li3, li4, li5, li6, li7, li8, li9, li10, li12, li13, li14, li15, li19, li20, li31, li33, li40, li42, li44, li48, li57, li60, li99, li100, li126, li150, li176, li177, li187, li197, li207, li208, li223, li304, li608, li1520, li1824, nI_add, pk_mul, nI_clamp, nI_leI, nI_ltI, nI_eq, zn_inb, zn_gd, zn_bs, zn_isb, not_true_eq_false, not_false_eq_true, ↓reduceIte, pk_div, pk_sub, zn_rem20, zn_rem2, zn_m1, zn_eqw, zn_weq, zn_weq2, zn_wlt0, zn_wltn, zn_win, zn_wcl, zn_wadd, Nat.not_lt_zero, Nat.one_ne_zero, Nat.zero_ne_one, Nat.le_refl, Nat.zero_le, zn_sel_r, zn_sel_l, e1]
    obtain ⟨y, ek, y0, y4, y8, yk, y3⟩ : ∃ y : Int32 × Mem, fX9_addShelf K x1 = some y ∧ y.2 0 0 = nI (0 + 1) ∧ y.2 0 4 = K 0 4 ∧ y.2 0 8 = K 0 8 ∧ RK (y.2 1) S ∧ y.2 3 = K 3 := by
      unfold fX9_addShelf
      simp (disch := omega) only [li0, li1, li2, li3, li4, li5, li6, li7, li8, li9, li10, li12, li13, li14, li15, li19, li20, li31, li33, li40, li42, li44, li48, li57, li60, li99, li100, li126, li150, li176, li177, li187, li197, li207, li208, li223, li304, li608, li1520, li1824, nI_add, pk_mul, nI_clamp, nI_leI, nI_ltI, nI_eq, zn_inb, zn_gd, zn_bs, zn_isb, not_true_eq_false, not_false_eq_true, ↓reduceIte, pk_div, pk_sub, zn_rem20, zn_rem2, zn_m1, zn_eqw, zn_weq, zn_weq2, zn_wlt0, zn_wltn, zn_win, zn_wcl, zn_wadd, Nat.not_lt_zero, Nat.one_ne_zero, Nat.zero_ne_one, Nat.le_refl, Nat.zero_le, zn_sel_r, zn_sel_l, fX9_fails, e2]
      exact ⟨_, rfl, rfl, rfl, rfl, hK, rfl⟩
    exact ⟨_, _, M, C, y, ex, Or.inr ⟨0, _, rfl, rfl, rfl⟩, fun _ _ => rfl, ek, y0, (fun u hu => by cases hu), ZI.gen hn hH hB hX yk gn h99 rfl rfl rfl y4 y8 y3 rfl rfl rfl⟩
theorem zt_scrap : St_scrap ZI := by
  intro n C M K x1 hn h
  obtain ⟨S, T, hc, ⟨hX, hK, g, h99⟩, hH, hB⟩ := id h
  have hc12 := g.c12
  have h8 := g.o8
  have lo := g.lo
  have hw12 := g.1.2.1
  have hT : RT (ofs 2 M) S := hX.t
  have hK0 : RK ((sr K 0 (upd (K 0) 0 (nI 0))) 1) S := hK
  have gn := g.nx hn
  obtain ⟨q, r, es, er, hH', r0⟩ := ZI.save (P := (pk [33, 34, 35, 1, 2, 3, 4, 5, 6, 7, 8, 9, 10, 11, 12, 13, 14, 15, 16] M)) (K0 := (sr K 0 (upd (K 0) 0 (nI 0)))) hn ⟨hX, hK, g, h99⟩ hH (hX.of rfl rfl rfl rfl rfl rfl rfl rfl rfl rfl rfl rfl rfl rfl rfl ) rfl rfl rfl rfl
  have rt : r 0 0 = nI 0 := (r0 0 (by omega)).trans rfl
  have r8 : r 0 8 = K 0 8 := (r0 8 (by omega)).trans rfl
  have hKR : RK ((sr (sr K 0 (r 0)) 3 (r 3)) 1) S := hK
  have hk0 : K 1 0 = nI (S 1 0) := hK.1
  have hk1 : K 1 1 = wI (S 1 1) := hK.2.1
  have hm1 : M 2 1 = wI (S 1 1) := hX.w
  rcases zr_shelf hX hc12 x1 with ⟨f, hf, rfl, e1, e2⟩ | ⟨e1, e2⟩
  · have e3 := e2 (sr K 0 (upd (K 0) 0 (nI 0))) hK0
    have e4 := zx_isEmpty hT (f := f) (by omega) (fun k hk => g.1.2.2.2.2.1 f k hf hk)
    have e5 := zk_isBare (K := (sr K 0 (upd (K 0) 0 (nI 0)))) hK0 g hf
    by_cases c1 : S 1 1 = f + 1
    · cases qb : zs_bare S f
      · rw [qb, cond_false] at e5
        have ex : fX8_scrap C M (nI f) = some (.inl "java/lang/IllegalStateException", M, C) := by
          unfold fX8_scrap
          simp (disch := omega) only [li0, li1, li2, li3, li4, li5, li6, li7, li8, li9, li10, li12, li13, li14, li15, li19, li20, li31, li33, li40, li42, li44, li48, li57, li60, li99, li100, li126, li150, li176, li177, li187, li197, li207, li208, li223, li304, li608, li1520, li1824, nI_add, pk_mul, nI_clamp, nI_leI, nI_ltI, nI_eq, zn_inb, zn_gd, zn_bs, zn_isb, not_true_eq_false, not_false_eq_true, ↓reduceIte, pk_div, pk_sub, zn_rem20, zn_rem2, zn_m1, zn_eqw, zn_weq, zn_weq2, zn_wlt0, zn_wltn, zn_win, zn_wcl, zn_wadd, Nat.not_lt_zero, Nat.one_ne_zero, Nat.zero_ne_one, Nat.le_refl, Nat.zero_le, zn_sel_r, zn_sel_l, e1, hm1, c1]
        obtain ⟨y, ek, y0, y4, y8, yk, y3⟩ : ∃ y : Int32 × Mem, fX9_scrap K (nI f) = some y ∧ y.2 0 0 = nI (1 + 1) ∧ y.2 0 4 = K 0 4 ∧ y.2 0 8 = K 0 8 ∧ RK (y.2 1) S ∧ y.2 3 = K 3 := by
          unfold fX9_scrap
          simp (disch := omega) only [li0, li1, li2, li3, li4, li5, li6, li7, li8, li9, li10, li12, li13, li14, li15, li19, li20, li31, li33, li40, li42, li44, li48, li57, li60, li99, li100, li126, li150, li176, li177, li187, li197, li207, li208, li223, li304, li608, li1520, li1824, nI_add, pk_mul, nI_clamp, nI_leI, nI_ltI, nI_eq, zn_inb, zn_gd, zn_bs, zn_isb, not_true_eq_false, not_false_eq_true, ↓reduceIte, pk_div, pk_sub, zn_rem20, zn_rem2, zn_m1, zn_eqw, zn_weq, zn_weq2, zn_wlt0, zn_wltn, zn_win, zn_wcl, zn_wadd, Nat.not_lt_zero, Nat.one_ne_zero, Nat.zero_ne_one, Nat.le_refl, Nat.zero_le, zn_sel_r, zn_sel_l, fX9_fails, e3, e5, fX9_scrap_B37]
          exact ⟨_, rfl, rfl, rfl, rfl, hK, rfl⟩
        exact ⟨_, _, M, C, y, ex, Or.inr ⟨1, _, rfl, rfl, rfl⟩, fun _ _ => rfl, ek, y0, (fun u hu => by cases hu), ZI.gen hn hH hB hX yk gn h99 rfl rfl rfl y4 y8 y3 rfl rfl rfl⟩
      · rw [qb, cond_true] at e5
        have ex : fX8_scrap C M (nI f) = some (.inl "java/lang/IllegalStateException", M, C) := by
          unfold fX8_scrap
          simp (disch := omega) only [li0, li1, li2, li3, li4, li5, li6, li7, li8, li9, li10, li12, li13, li14, li15, li19, li20, li31, li33, li40, li42, li44, li48, li57, li60, li99, li100, li126, li150, li176, li177, li187, li197, li207, li208, li223, li304, li608, li1520, li1824, nI_add, pk_mul, nI_clamp, nI_leI, nI_ltI, nI_eq, zn_inb, zn_gd, zn_bs, zn_isb, not_true_eq_false, not_false_eq_true, ↓reduceIte, pk_div, pk_sub, zn_rem20, zn_rem2, zn_m1, zn_eqw, zn_weq, zn_weq2, zn_wlt0, zn_wltn, zn_win, zn_wcl, zn_wadd, Nat.not_lt_zero, Nat.one_ne_zero, Nat.zero_ne_one, Nat.le_refl, Nat.zero_le, zn_sel_r, zn_sel_l, e1, hm1, c1]
        obtain ⟨y, ek, y0, y4, y8, yk, y3⟩ : ∃ y : Int32 × Mem, fX9_scrap K (nI f) = some y ∧ y.2 0 0 = nI (1 + 1) ∧ y.2 0 4 = K 0 4 ∧ y.2 0 8 = K 0 8 ∧ RK (y.2 1) S ∧ y.2 3 = K 3 := by
          unfold fX9_scrap
          simp (disch := omega) only [li0, li1, li2, li3, li4, li5, li6, li7, li8, li9, li10, li12, li13, li14, li15, li19, li20, li31, li33, li40, li42, li44, li48, li57, li60, li99, li100, li126, li150, li176, li177, li187, li197, li207, li208, li223, li304, li608, li1520, li1824, nI_add, pk_mul, nI_clamp, nI_leI, nI_ltI, nI_eq, zn_inb, zn_gd, zn_bs, zn_isb, not_true_eq_false, not_false_eq_true, ↓reduceIte, pk_div, pk_sub, zn_rem20, zn_rem2, zn_m1, zn_eqw, zn_weq, zn_weq2, zn_wlt0, zn_wltn, zn_win, zn_wcl, zn_wadd, Nat.not_lt_zero, Nat.one_ne_zero, Nat.zero_ne_one, Nat.le_refl, Nat.zero_le, zn_sel_r, zn_sel_l, fX9_fails, e3, e5, hk1, c1, fX9_scrap_B37]
          exact ⟨_, rfl, rfl, rfl, rfl, hK, rfl⟩
        exact ⟨_, _, M, C, y, ex, Or.inr ⟨1, _, rfl, rfl, rfl⟩, fun _ _ => rfl, ek, y0, (fun u hu => by cases hu), ZI.gen hn hH hB hX yk gn h99 rfl rfl rfl y4 y8 y3 rfl rfl rfl⟩
    · cases qb : zs_bare S f
      · rw [qb, cond_false] at e4 e5
        have ex : fX8_scrap C M (nI f) = some (.inl "java/lang/IllegalStateException", M, C) := by
          unfold fX8_scrap
          simp (disch := omega) only [li0, li1, li2, li3, li4, li5, li6, li7, li8, li9, li10, li12, li13, li14, li15, li19, li20, li31, li33, li40, li42, li44, li48, li57, li60, li99, li100, li126, li150, li176, li177, li187, li197, li207, li208, li223, li304, li608, li1520, li1824, nI_add, pk_mul, nI_clamp, nI_leI, nI_ltI, nI_eq, zn_inb, zn_gd, zn_bs, zn_isb, not_true_eq_false, not_false_eq_true, ↓reduceIte, pk_div, pk_sub, zn_rem20, zn_rem2, zn_m1, zn_eqw, zn_weq, zn_weq2, zn_wlt0, zn_wltn, zn_win, zn_wcl, zn_wadd, Nat.not_lt_zero, Nat.one_ne_zero, Nat.zero_ne_one, Nat.le_refl, Nat.zero_le, zn_sel_r, zn_sel_l, e1, hm1, c1, e4]
        obtain ⟨y, ek, y0, y4, y8, yk, y3⟩ : ∃ y : Int32 × Mem, fX9_scrap K (nI f) = some y ∧ y.2 0 0 = nI (1 + 1) ∧ y.2 0 4 = K 0 4 ∧ y.2 0 8 = K 0 8 ∧ RK (y.2 1) S ∧ y.2 3 = K 3 := by
          unfold fX9_scrap
          simp (disch := omega) only [li0, li1, li2, li3, li4, li5, li6, li7, li8, li9, li10, li12, li13, li14, li15, li19, li20, li31, li33, li40, li42, li44, li48, li57, li60, li99, li100, li126, li150, li176, li177, li187, li197, li207, li208, li223, li304, li608, li1520, li1824, nI_add, pk_mul, nI_clamp, nI_leI, nI_ltI, nI_eq, zn_inb, zn_gd, zn_bs, zn_isb, not_true_eq_false, not_false_eq_true, ↓reduceIte, pk_div, pk_sub, zn_rem20, zn_rem2, zn_m1, zn_eqw, zn_weq, zn_weq2, zn_wlt0, zn_wltn, zn_win, zn_wcl, zn_wadd, Nat.not_lt_zero, Nat.one_ne_zero, Nat.zero_ne_one, Nat.le_refl, Nat.zero_le, zn_sel_r, zn_sel_l, fX9_fails, e3, e5, fX9_scrap_B37]
          exact ⟨_, rfl, rfl, rfl, rfl, hK, rfl⟩
        exact ⟨_, _, M, C, y, ex, Or.inr ⟨1, _, rfl, rfl, rfl⟩, fun _ _ => rfl, ek, y0, (fun u hu => by cases hu), ZI.gen hn hH hB hX yk gn h99 rfl rfl rfl y4 y8 y3 rfl rfl rfl⟩
      · rw [qb, cond_true] at e4 e5
        have hm2 : M 3 f = nI (S 2 f) := hX.r2 f (by omega)
        have e6 := zk_of0 (K := (sr (sr K 0 (r 0)) 3 (r 3))) hKR hc12 hf
        obtain ⟨zb, eb, hzb⟩ := zx_rem (T := ofs 2 (sr M 33 (q.1 0))) (S := S) hT hc12 hw12 hf
        obtain ⟨z1, z2, ex, hx2, e33, e36, e37⟩ : ∃ z1 z2, fX8_scrap C M (nI f) = some (.inr z1, z2, q.2) ∧ RX (ofs 1 z2) (zo_scrap S f) ∧ z2 33 = q.1 0 ∧ z2 36 = M 36 ∧ z2 37 = M 37 ∧ z1 = nI (S 2 f) := by
          unfold fX8_scrap
          simp (disch := omega) only [li0, li1, li2, li3, li4, li5, li6, li7, li8, li9, li10, li12, li13, li14, li15, li19, li20, li31, li33, li40, li42, li44, li48, li57, li60, li99, li100, li126, li150, li176, li177, li187, li197, li207, li208, li223, li304, li608, li1520, li1824, nI_add, pk_mul, nI_clamp, nI_leI, nI_ltI, nI_eq, zn_inb, zn_gd, zn_bs, zn_isb, not_true_eq_false, not_false_eq_true, ↓reduceIte, pk_div, pk_sub, zn_rem20, zn_rem2, zn_m1, zn_eqw, zn_weq, zn_weq2, zn_wlt0, zn_wltn, zn_win, zn_wcl, zn_wadd, Nat.not_lt_zero, Nat.one_ne_zero, Nat.zero_ne_one, Nat.le_refl, Nat.zero_le, zn_sel_r, zn_sel_l, e1, hm1, c1, e4, es, eb, hm2, inrs, Option.map_some]
          exact ⟨_, _, rfl, ⟨⟨hzb.1, hzb.2.1, hzb.2.2.1, hzb.2.2.2.1, hzb.2.2.2.2.1, hzb.2.2.2.2.2⟩, hX.2.1, hX.r7, hX.r8, hX.r10, hX.r11, hX.r12, hX.r13, hX.r15⟩, rfl, rfl, rfl, rfl⟩
        obtain ⟨e37, ev⟩ := e37
        obtain ⟨y, ek, y0, y4, y8, yk, y3, y1⟩ : ∃ y : Int32 × Mem, fX9_scrap K (nI f) = some y ∧ y.2 0 0 = nI 0 ∧ y.2 0 4 = r 0 4 ∧ y.2 0 8 = K 0 8 ∧ RK (y.2 1) (zo_scrap S f) ∧ y.2 3 = r 3 ∧ nI (S 2 f) = y.1 := by
          have key : ∃ z, fX9_scrap K (nI f) = some (nI (S 2 f), z) ∧ (z 0 0 = nI 0 ∧ z 0 4 = r 0 4 ∧ z 0 8 = K 0 8 ∧ RK (z 1) (zo_scrap S f) ∧ z 3 = r 3) := by
            unfold fX9_scrap
            simp (disch := omega) only [li0, li1, li2, li3, li4, li5, li6, li7, li8, li9, li10, li12, li13, li14, li15, li19, li20, li31, li33, li40, li42, li44, li48, li57, li60, li99, li100, li126, li150, li176, li177, li187, li197, li207, li208, li223, li304, li608, li1520, li1824, nI_add, pk_mul, nI_clamp, nI_leI, nI_ltI, nI_eq, zn_inb, zn_gd, zn_bs, zn_isb, not_true_eq_false, not_false_eq_true, ↓reduceIte, pk_div, pk_sub, zn_rem20, zn_rem2, zn_m1, zn_eqw, zn_weq, zn_weq2, zn_wlt0, zn_wltn, zn_win, zn_wcl, zn_wadd, Nat.not_lt_zero, Nat.one_ne_zero, Nat.zero_ne_one, Nat.le_refl, Nat.zero_le, zn_sel_r, zn_sel_l, e3, e5, hk0, hk1, c1, er, e6]
            refine zk_scrap_L (K := K) (c := S 1 0 - 1) (f := f) (by omega) (c0 := r 0) (c3 := r 3) (s1 := upd (K 1) 0 (nI (S 1 0 - 1))) (up_s _ _ _) (Q := fun z => z 0 0 = nI 0 ∧ z 0 4 = r 0 4 ∧ z 0 8 = K 0 8 ∧ RK (z 1) (zo_scrap S f) ∧ z 3 = r 3) (fun N n0 n3 n1 => ?_) (14 * (S 1 0 - 1) - 14 * f) (14 * f) 5000 _ (by omega) (by omega) (by omega) rfl rfl (fun i hi => by rw [if_neg (by omega)]; rfl)
            have w0 : N 1 1 = wI (S 1 1) := by
              rw [n1 1 (by omega), if_neg (by omega), up_n (by omega)]
              exact hk1
            have zl := zn_wle (w := S 1 1) (c := f) (by omega) (by omega)
            have up1 : ∀ v, (∀ i, i < 304 → i ≠ 1 → upd (N 1) 1 v i = if 9 + 14 * f ≤ i ∧ i < 9 + 14 * (S 1 0 - 1) then upd (K 1) 0 (nI (S 1 0 - 1)) (i + 14) else upd (K 1) 0 (nI (S 1 0 - 1)) i) := fun v i h3 h1 => by
              rw [up_n h1]
              exact n1 i h3
            have r00 : N 0 0 = nI 0 := by rw [n0, rt]
            have r04 : N 0 4 = r 0 4 := by rw [n0]
            have r08 : N 0 8 = K 0 8 := by rw [n0, r8]
            by_cases c3 : S 1 1 ≤ f + 1
            · have z1 := eq_true (zl.mpr c3)
              simp (disch := omega) only [li0, li1, li2, li3, li4, li5, li6, li7, li8, li9, li10, li12, li13, li14, li15, li19, li20, li31, li33, li40, li42, li44, li48, li57, li60, li99, li100, li126, li150, li176, li177, li187, li197, li207, li208, li223, li304, li608, li1520, li1824, nI_add, pk_mul, nI_clamp, nI_leI, nI_ltI, nI_eq, zn_inb, zn_gd, zn_bs, zn_isb, not_true_eq_false, not_false_eq_true, ↓reduceIte, pk_div, pk_sub, zn_rem20, zn_rem2, zn_m1, zn_eqw, zn_weq, zn_weq2, zn_wlt0, zn_wltn, zn_win, zn_wcl, zn_wadd, Nat.not_lt_zero, Nat.one_ne_zero, Nat.zero_ne_one, Nat.le_refl, Nat.zero_le, zn_sel_r, zn_sel_l, w0, z1, fX9_scrap_B131]
              exact ⟨_, rfl, r00, r04, r08, RK.scrap hK hc12 h8 hf (t := upd (N 1) 1 (wI (S 1 1) - nI 0)) (w := wI (S 1 1) - nI 0) (by rw [if_pos c3]; exact Int32.sub_zero _) (up1 _) (up_s _ _ _), n3⟩
            · have z1 := eq_false (fun a => c3 (zl.mp a))
              simp (disch := omega) only [li0, li1, li2, li3, li4, li5, li6, li7, li8, li9, li10, li12, li13, li14, li15, li19, li20, li31, li33, li40, li42, li44, li48, li57, li60, li99, li100, li126, li150, li176, li177, li187, li197, li207, li208, li223, li304, li608, li1520, li1824, nI_add, pk_mul, nI_clamp, nI_leI, nI_ltI, nI_eq, zn_inb, zn_gd, zn_bs, zn_isb, not_true_eq_false, not_false_eq_true, ↓reduceIte, pk_div, pk_sub, zn_rem20, zn_rem2, zn_m1, zn_eqw, zn_weq, zn_weq2, zn_wlt0, zn_wltn, zn_win, zn_wcl, zn_wadd, Nat.not_lt_zero, Nat.one_ne_zero, Nat.zero_ne_one, Nat.le_refl, Nat.zero_le, zn_sel_r, zn_sel_l, w0, z1, fX9_scrap_B131]
              exact ⟨_, rfl, r00, r04, r08, RK.scrap hK hc12 h8 hf (t := upd (N 1) 1 (wI (S 1 1) - nI 1)) (w := wI (S 1 1) - nI 1) (by rw [if_neg c3]; exact zn_wsub (by omega)) (up1 _) (up_s _ _ _), n3⟩
          obtain ⟨z, ez, z1, z2, z3, z4, z5⟩ := key
          exact ⟨_, ez, z1, z2, z3, z4, z5, rfl⟩
        exact ⟨_, _, z2, q.2, y, ex, Or.inl ⟨_, rfl, rfl⟩, (fun E hE => by cases hE), ek, y0, (fun u hu => by cases hu; exact ev.trans y1), ZI.gen2 hH' hB hx2 yk (gn.scrap hf c1) (h99) e33 e36 e37 y4 y8 y3 rfl rfl rfl⟩
  · have e3 := e2 (sr K 0 (upd (K 0) 0 (nI 0))) hK0
    have ex : fX8_scrap C M x1 = some (.inl "java/lang/IndexOutOfBoundsException", M, C) := by
      unfold fX8_scrap
      simp (disch := omega) only [li0, li1, li2, li3, li4, li5, li6, li7, li8, li9, li10, li12, li13, li14, li15, li19, li20, li31, li33, li40, li42, li44, li48, li57, li60, li99, li100, li126, li150, li176, li177, li187, li197, li207, li208, li223, li304, li608, li1520, li1824, nI_add, pk_mul, nI_clamp, nI_leI, nI_ltI, nI_eq, zn_inb, zn_gd, zn_bs, zn_isb, not_true_eq_false, not_false_eq_true, ↓reduceIte, pk_div, pk_sub, zn_rem20, zn_rem2, zn_m1, zn_eqw, zn_weq, zn_weq2, zn_wlt0, zn_wltn, zn_win, zn_wcl, zn_wadd, Nat.not_lt_zero, Nat.one_ne_zero, Nat.zero_ne_one, Nat.le_refl, Nat.zero_le, zn_sel_r, zn_sel_l, e1]
    obtain ⟨y, ek, y0, y4, y8, yk, y3⟩ : ∃ y : Int32 × Mem, fX9_scrap K x1 = some y ∧ y.2 0 0 = nI (0 + 1) ∧ y.2 0 4 = K 0 4 ∧ y.2 0 8 = K 0 8 ∧ RK (y.2 1) S ∧ y.2 3 = K 3 := by
      unfold fX9_scrap
      simp (disch := omega) only [li0, li1, li2, li3, li4, li5, li6, li7, li8, li9, li10, li12, li13, li14, li15, li19, li20, li31, li33, li40, li42, li44, li48, li57, li60, li99, li100, li126, li150, li176, li177, li187, li197, li207, li208, li223, li304, li608, li1520, li1824, nI_add, pk_mul, nI_clamp, nI_leI, nI_ltI, nI_eq, zn_inb, zn_gd, zn_bs, zn_isb, not_true_eq_false, not_false_eq_true, ↓reduceIte, pk_div, pk_sub, zn_rem20, zn_rem2, zn_m1, zn_eqw, zn_weq, zn_weq2, zn_wlt0, zn_wltn, zn_win, zn_wcl, zn_wadd, Nat.not_lt_zero, Nat.one_ne_zero, Nat.zero_ne_one, Nat.le_refl, Nat.zero_le, zn_sel_r, zn_sel_l, fX9_fails, e3]
      exact ⟨_, rfl, rfl, rfl, rfl, hK, rfl⟩
    exact ⟨_, _, M, C, y, ex, Or.inr ⟨0, _, rfl, rfl, rfl⟩, fun _ _ => rfl, ek, y0, (fun u hu => by cases hu), ZI.gen hn hH hB hX yk gn h99 rfl rfl rfl y4 y8 y3 rfl rfl rfl⟩
end
