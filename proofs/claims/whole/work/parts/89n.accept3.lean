set_option maxHeartbeats 400000
/-! accept -/
theorem zt_accept : St_accept ZI := by
  intro n C M K hn h
  obtain ⟨S, T, hc, ⟨hX, hK, g, h99⟩, hH, hB⟩ := id h
  have hc12 := g.c12
  have h8 := g.o8
  have lo := g.lo
  have hw12 := g.1.2.1
  have hT : RT (ofs 2 M) S := hX.t
  have hK0 : RK ((sr K 0 (upd (K 0) 0 (nI 0))) 1) S := hK
  have gn := g.nx hn
  have hm0 : M 15 0 = nI (S 14 0) := hX.2.1.2.2.2.2.2.2
  have hk8 : K 1 8 = nI (S 14 0) := hK.2.2.2.2.1.2.2.2.2.2.2
  obtain ⟨len, t, hl, m0, k0, mt, kt⟩ := zr_text hB
  obtain ⟨zx, e1, e2⟩ := zx_isOrder (M := ofs 36 M) hl m0 mt
  obtain ⟨zk, f1, f2, f3, f4, f5, f6⟩ := zk_readsOrder (K := (sr K 0 (upd (K 0) 0 (nI 0)))) (t := t) hl (fun i hi => (mt i hi).2) k0 kt
  obtain ⟨tT, tF⟩ := zp_all t len
  cases b : (zq_all (zq_s t len) len).1
  · rw [if_neg (tF b).2] at e1
    rw [b, cond_false] at f1
    have ex : fX8_accept C M = some (.inl "java/lang/IllegalArgumentException", sr (sr M 38 (zx 2)) 39 (zx 3), C) := by
      unfold fX8_accept
      simp (disch := omega) only [li0, li1, li2, li3, li4, li5, li6, li7, li8, li9, li10, li12, li13, li14, li15, li19, li20, li31, li33, li40, li42, li44, li48, li57, li60, li99, li100, li126, li150, li176, li177, li187, li197, li207, li208, li223, li304, li608, li1520, li1824, nI_add, pk_mul, nI_clamp, nI_leI, nI_ltI, nI_eq, zn_inb, zn_gd, zn_bs, zn_isb, not_true_eq_false, not_false_eq_true, ↓reduceIte, pk_div, pk_sub, zn_rem20, zn_rem2, zn_m1, zn_eqw, zn_weq, zn_weq2, zn_wlt0, zn_wltn, zn_win, zn_wcl, zn_wadd, Nat.not_lt_zero, Nat.one_ne_zero, Nat.zero_ne_one, Nat.le_refl, Nat.zero_le, zn_sel_r, zn_sel_l, e1]
    obtain ⟨y, ek, y0, y4, y8, yk, y3⟩ : ∃ y : Int32 × Mem, fX9_accept K = some y ∧ y.2 0 0 = nI (0 + 1) ∧ y.2 0 4 = K 0 4 ∧ y.2 0 8 = K 0 8 ∧ RK (y.2 1) S ∧ y.2 3 = K 3 := by
      unfold fX9_accept
      simp (disch := omega) only [li0, li1, li2, li3, li4, li5, li6, li7, li8, li9, li10, li12, li13, li14, li15, li19, li20, li31, li33, li40, li42, li44, li48, li57, li60, li99, li100, li126, li150, li176, li177, li187, li197, li207, li208, li223, li304, li608, li1520, li1824, nI_add, pk_mul, nI_clamp, nI_leI, nI_ltI, nI_eq, zn_inb, zn_gd, zn_bs, zn_isb, not_true_eq_false, not_false_eq_true, ↓reduceIte, pk_div, pk_sub, zn_rem20, zn_rem2, zn_m1, zn_eqw, zn_weq, zn_weq2, zn_wlt0, zn_wltn, zn_win, zn_wcl, zn_wadd, Nat.not_lt_zero, Nat.one_ne_zero, Nat.zero_ne_one, Nat.le_refl, Nat.zero_le, zn_sel_r, zn_sel_l, fX9_fails, f1]
      exact ⟨_, rfl, rfl, f6, f4.trans k0.symm, hK, rfl⟩
    exact ⟨_, _, _, C, y, ex, Or.inr ⟨0, _, rfl, rfl, rfl⟩, fun _ _ => rfl, ek, y0, (fun u hu => by cases hu), ZI.gen hn hH hB (hX.of rfl rfl rfl rfl rfl rfl rfl rfl rfl rfl rfl rfl rfl rfl rfl ) yk gn h99 rfl rfl rfl y4 y8 y3 rfl rfl rfl⟩
  · obtain ⟨r1, r2⟩ := tT b
    obtain ⟨w1, w2⟩ := zq_wants b
    rw [r1] at e1 e2
    rw [if_pos ⟨rfl, rfl⟩] at e1
    rw [b, cond_true] at f1
    have e2 : rn 10 (zx 3) (zq_all (zq_s t len) len).2.2 := e2
    generalize (zq_all (zq_s t len) len).2.2 = W at e2 f3 w1 w2
    by_cases c8 : S 14 0 < 8
    · have n8 : ¬ S 14 0 = 8 := by omega
      obtain ⟨q, r, es, er, hH', r0⟩ := ZI.save (P := (pk [33, 34, 35, 1, 2, 3, 4, 5, 6, 7, 8, 9, 10, 11, 12, 13, 14, 15, 16] (sr (sr M 38 (zx 2)) 39 (zx 3)))) (K0 := (sr (sr K 0 (zk 0)) 7 (zk 7))) hn ⟨hX, hK, g, h99⟩ hH (hX.of rfl rfl rfl rfl rfl rfl rfl rfl rfl rfl rfl rfl rfl rfl rfl ) rfl rfl rfl f6
      have rt : r 0 0 = nI 0 := (r0 0 (by omega)).trans f5
      obtain ⟨za, ea, za0, za1⟩ := zx_add (O := pk [15, 16, 39] (sr (sr (sr M 33 (q.1 0)) 38 (zx 2)) 39 (zx 3))) (S := S) (W := W) hm0 hX.r15 e2 c8
      have gg := gn.ord c8 w1 w2
      obtain ⟨z2, ex, hx2, x33, x36, x37⟩ : ∃ z2, fX8_accept C M = some (.inr (nI (S 14 0)), z2, q.2) ∧ RX (ofs 1 z2) (zo_ord S W) ∧ z2 33 = q.1 0 ∧ z2 36 = upd (M 36) 0 (nI 0) ∧ z2 37 = M 37 := by
        unfold fX8_accept
        simp (disch := omega) only [li0, li1, li2, li3, li4, li5, li6, li7, li8, li9, li10, li12, li13, li14, li15, li19, li20, li31, li33, li40, li42, li44, li48, li57, li60, li99, li100, li126, li150, li176, li177, li187, li197, li207, li208, li223, li304, li608, li1520, li1824, nI_add, pk_mul, nI_clamp, nI_leI, nI_ltI, nI_eq, zn_inb, zn_gd, zn_bs, zn_isb, not_true_eq_false, not_false_eq_true, ↓reduceIte, pk_div, pk_sub, zn_rem20, zn_rem2, zn_m1, zn_eqw, zn_weq, zn_weq2, zn_wlt0, zn_wltn, zn_win, zn_wcl, zn_wadd, Nat.not_lt_zero, Nat.one_ne_zero, Nat.zero_ne_one, Nat.le_refl, Nat.zero_le, zn_sel_r, zn_sel_l, e1, hm0, c8, es, ea, inrs, Option.map_some]
        exact ⟨_, rfl, ⟨hX.1, ⟨hX.2.1.1, hX.2.1.2.1, hX.2.1.2.2.1, hX.2.1.2.2.2.1, hX.2.1.2.2.2.2.1, hX.2.1.2.2.2.2.2.1, za0⟩, hX.r7, hX.r8, hX.r10, hX.r11, hX.r12, hX.r13, za1⟩, rfl, rfl, rfl⟩
      have key : ∃ z, fX9_accept K = some (nI (S 14 0), z) ∧ (z 0 0 = nI 0 ∧ z 0 4 = r 0 4 ∧ z 0 8 = nI 0 ∧ RK (z 1) (zo_ord S W) ∧ z 3 = r 3) := by
        unfold fX9_accept
        simp (disch := omega) only [li0, li1, li2, li3, li4, li5, li6, li7, li8, li9, li10, li12, li13, li14, li15, li19, li20, li31, li33, li40, li42, li44, li48, li57, li60, li99, li100, li126, li150, li176, li177, li187, li197, li207, li208, li223, li304, li608, li1520, li1824, nI_add, pk_mul, nI_clamp, nI_leI, nI_ltI, nI_eq, zn_inb, zn_gd, zn_bs, zn_isb, not_true_eq_false, not_false_eq_true, ↓reduceIte, pk_div, pk_sub, zn_rem20, zn_rem2, zn_m1, zn_eqw, zn_weq, zn_weq2, zn_wlt0, zn_wltn, zn_win, zn_wcl, zn_wadd, Nat.not_lt_zero, Nat.one_ne_zero, Nat.zero_ne_one, Nat.le_refl, Nat.zero_le, zn_sel_r, zn_sel_l, f1, hk8, n8, er]
        refine zk_accept_L (K := K) c8 (c0 := r 0) (c3 := r 3) (c7 := zk 7) (s1 := upd (K 1) 8 (nI (S 14 0 + 1))) (W := W) f3 (Q := fun z => z 0 0 = nI 0 ∧ z 0 4 = r 0 4 ∧ z 0 8 = nI 0 ∧ RK (z 1) (zo_ord S W) ∧ z 3 = r 3) (fun N n0 n3 n7 n1 => ?_) 10 0 5000 _ (by omega) (by omega) rfl rfl rfl (fun i => by rw [if_neg (by omega)]; rfl)
        refine ⟨_, rfl, ?_, ?_, rfl, RK.ord hK hc12 c8 n1, n3⟩
        · show N 0 0 = nI 0
          rw [n0, rt]
        · show N 0 4 = r 0 4
          rw [n0]
      obtain ⟨z, ez, z1, z3, z4, z5, z6⟩ := key
      exact ⟨_, _, z2, q.2, _, ex, Or.inl ⟨_, rfl, rfl⟩, (fun E hE => by cases hE), ez, z1, (fun u hu => by cases hu; rfl), ZI.gen2 (m36 := upd (M 36) 0 (nI 0)) (m37 := M 37) (k08 := nI 0) (k6 := K 6) hH' ⟨0, Nat.zero_le _, up_s _ _ _, rfl, fun i hi => absurd hi (Nat.not_lt_zero _)⟩ hx2 z5 gg h99 x33 x36 x37 z3 z4 z6 rfl rfl rfl⟩
    · have n8 : S 14 0 = 8 := by omega
      have ex : fX8_accept C M = some (.inl "java/lang/IllegalStateException", sr (sr M 38 (zx 2)) 39 (zx 3), C) := by
        unfold fX8_accept
        simp (disch := omega) only [li0, li1, li2, li3, li4, li5, li6, li7, li8, li9, li10, li12, li13, li14, li15, li19, li20, li31, li33, li40, li42, li44, li48, li57, li60, li99, li100, li126, li150, li176, li177, li187, li197, li207, li208, li223, li304, li608, li1520, li1824, nI_add, pk_mul, nI_clamp, nI_leI, nI_ltI, nI_eq, zn_inb, zn_gd, zn_bs, zn_isb, not_true_eq_false, not_false_eq_true, ↓reduceIte, pk_div, pk_sub, zn_rem20, zn_rem2, zn_m1, zn_eqw, zn_weq, zn_weq2, zn_wlt0, zn_wltn, zn_win, zn_wcl, zn_wadd, Nat.not_lt_zero, Nat.one_ne_zero, Nat.zero_ne_one, Nat.le_refl, Nat.zero_le, zn_sel_r, zn_sel_l, e1, hm0, c8]
      obtain ⟨y, ek, y0, y4, y8, yk, y3⟩ : ∃ y : Int32 × Mem, fX9_accept K = some y ∧ y.2 0 0 = nI (1 + 1) ∧ y.2 0 4 = K 0 4 ∧ y.2 0 8 = K 0 8 ∧ RK (y.2 1) S ∧ y.2 3 = K 3 := by
        unfold fX9_accept
        simp (disch := omega) only [li0, li1, li2, li3, li4, li5, li6, li7, li8, li9, li10, li12, li13, li14, li15, li19, li20, li31, li33, li40, li42, li44, li48, li57, li60, li99, li100, li126, li150, li176, li177, li187, li197, li207, li208, li223, li304, li608, li1520, li1824, nI_add, pk_mul, nI_clamp, nI_leI, nI_ltI, nI_eq, zn_inb, zn_gd, zn_bs, zn_isb, not_true_eq_false, not_false_eq_true, ↓reduceIte, pk_div, pk_sub, zn_rem20, zn_rem2, zn_m1, zn_eqw, zn_weq, zn_weq2, zn_wlt0, zn_wltn, zn_win, zn_wcl, zn_wadd, Nat.not_lt_zero, Nat.one_ne_zero, Nat.zero_ne_one, Nat.le_refl, Nat.zero_le, zn_sel_r, zn_sel_l, fX9_fails, f1, hk8, n8]
        exact ⟨_, rfl, rfl, f6, f4.trans k0.symm, hK, rfl⟩
      exact ⟨_, _, _, C, y, ex, Or.inr ⟨1, _, rfl, rfl, rfl⟩, fun _ _ => rfl, ek, y0, (fun u hu => by cases hu), ZI.gen hn hH hB (hX.of rfl rfl rfl rfl rfl rfl rfl rfl rfl rfl rfl rfl rfl rfl rfl ) yk gn h99 rfl rfl rfl y4 y8 y3 rfl rfl rfl⟩

