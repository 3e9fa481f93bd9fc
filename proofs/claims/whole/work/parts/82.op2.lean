set_option maxHeartbeats 400000
/-! more calls that change the state -/
theorem zs_fit_tk {S : SM} (g : GT S) {side s w : Nat} (hd : side < 2) (hs : s < 20) : zs_fitB (zs_tk S side (S 1 0)) s w = zs_fq (zs_tq S) w (s + 20 * side) := by
  rcases (show side = 0 ∨ side = 1 by omega) with rfl | rfl
  · rw [zs_fitB0 (zs_tk S 0 (S 1 0)) (zs_tk S 1 (S 1 0)) hs, zs_fq_c (fun p hp => zs_q_tk g hp) (by omega)]
    rfl
  · rw [zs_fitB1 (zs_tk S 0 (S 1 0)) (zs_tk S 1 (S 1 0)) hs, zs_fq_c (fun p hp => zs_q_tk g hp) (by omega), show 20 + s = s + 20 * 1 by omega]
theorem zr_many (M : Mem) (a : Int32) : (∃ w, 1 ≤ w ∧ w ≤ 20 ∧ a = nI w ∧ fX8_requireMany M a = some (.inr ()) ∧ fX9_isMany a = some (nI 1)) ∨ (fX8_requireMany M a = some (.inl "java/lang/IllegalArgumentException") ∧ fX9_isMany a = some (nI 0)) := by
  unfold fX9_isMany
  rw [show (1 : Int32) = nI 1 from rfl, show (20 : Int32) = nI 20 from rfl]
  rcases zr_in (lo := 1) (hi := 20) (by omega) (by omega) (by omega) a with ⟨w, h1, h2, rfl, e⟩ | ⟨e, h⟩
  · left
    refine ⟨w, h1, h2, rfl, ?_, ?_⟩
    · unfold fX8_requireMany
      rw [show (1 : Int32) = nI 1 from rfl, show (20 : Int32) = nI 20 from rfl, if_neg (nI_nlt h1 (by omega)), if_pos (nI_le h2 (by omega))]
    · rw [e]
      rfl
  · right
    refine ⟨?_, ?_⟩
    · unfold fX8_requireMany fX8_requireMany_B11
      rw [show (1 : Int32) = nI 1 from rfl, show (20 : Int32) = nI 20 from rfl]
      rcases h with h | h
      · exact if_pos h
      · by_cases q : a < nI 1
        · exact if_pos q
        · rw [if_neg q, if_neg (fun r => Int32.lt_irrefl (Int32.lt_of_le_of_lt r h))]
    · rw [e]
      rfl
theorem zr_snap (M : Mem) (a : Int32) : (∃ k, k < 2 ∧ a = nI k ∧ fX8_requireSnapshotSlot M a = some (.inr ()) ∧ fX9_in a (nI 0) (nI 1) = some (nI 1)) ∨ (fX8_requireSnapshotSlot M a = some (.inl "java/lang/IllegalArgumentException") ∧ fX9_in a (nI 0) (nI 1) = some (nI 0)) := by
  have w : wI 2 = nI 1 := by decide
  rcases zr_inw (c := 2) (by omega) a with ⟨f, hf, rfl, e⟩ | ⟨e, h⟩
  · left
    rw [w] at e
    refine ⟨f, hf, rfl, ?_, e⟩
    unfold fX8_requireSnapshotSlot
    rw [if_neg (nI_pos (by omega)), show (2 : Int32) = nI 2 from rfl, if_pos (nI_lt hf (by omega))]
  · right
    rw [w] at e
    refine ⟨?_, e⟩
    unfold fX8_requireSnapshotSlot fX8_requireSnapshotSlot_B9
    exact zr_rng (c := 2) (z := some (.inr ())) (by omega) h
theorem zt_stowAt : St_stowAt ZI := by
  intro n C M K x1 x2 hn h
  obtain ⟨S, T, hc, ⟨hX, hK, g, h99⟩, hH, hB⟩ := id h
  have hc12 := g.c12
  have h8 := g.o8
  have lo := g.lo
  have hw12 := g.1.2.1
  have hT : RT (ofs 2 M) S := hX.t
  have hK0 : RK ((sr K 0 (upd (K 0) 0 (nI 0))) 1) S := hK
  have gn := g.nx hn
  obtain ⟨q, r, es, er, hH', r0⟩ := ZI.save (P := (pk [33, 34, 35, 1, 2, 3, 4, 5, 6, 7, 8, 9, 10, 11, 12, 13, 14, 15, 16] M)) (K0 := (sr K 0 (upd (K 0) 0 (nI 0)))) hn ⟨hX, hK, g, h99⟩ hH (hX.of rfl rfl rfl rfl rfl rfl rfl rfl rfl rfl rfl rfl rfl rfl rfl ) rfl rfl rfl rfl
  have rt : r 0 0 = nI 0 := (r0 0 (by omega)).trans rfl
  have r8 : r 0 8 = K 0 8 := (r0 8 (by omega)).trans rfl
  have hKR : RK ((sr (sr K 0 (r 0)) 3 (r 3)) 1) S := hK
  have e4 := zr_at hX hc12 hw12
  have e5 := zk_hasWindow (K := (sr K 0 (upd (K 0) 0 (nI 0)))) hK0 (by omega)
  rcases zr_slot M x1 x2 with ⟨s, t, hs, ht, rfl, rfl, e1, e2⟩ | ⟨e1, e2⟩
  · by_cases c1 : S 1 1 = 0
    · rw [if_pos c1] at e4 e5
      have ex : fX8_stowAt C M (nI s) (nI t) = some (.inl "java/lang/IllegalStateException", M, C) := by
        unfold fX8_stowAt
        simp (disch := omega) only [li0, li1, li2, li3, li4, li5, li6, li7, li8, li9, li10, li12, li13, li14, li15, li19, li20, li31, li33, li40, li42, li44, li48, li57, li60, li99, li100, li126, li150, li176, li177, li187, li197, li207, li208, li223, li304, li608, li1520, li1824, nI_add, pk_mul, nI_clamp, nI_leI, nI_ltI, nI_eq, zn_inb, zn_gd, zn_bs, zn_isb, not_true_eq_false, not_false_eq_true, ↓reduceIte, pk_div, pk_sub, zn_rem20, zn_rem2, zn_m1, zn_eqw, zn_weq, zn_weq2, zn_wlt0, zn_wltn, zn_win, zn_wcl, zn_wadd, Nat.not_lt_zero, Nat.one_ne_zero, Nat.zero_ne_one, Nat.le_refl, Nat.zero_le, zn_sel_r, zn_sel_l, e1, e4]
      obtain ⟨y, ek, y0, y4, y8, yk, y3⟩ : ∃ y : Int32 × Mem, fX9_stowAt K (nI s) (nI t) = some y ∧ y.2 0 0 = nI (1 + 1) ∧ y.2 0 4 = K 0 4 ∧ y.2 0 8 = K 0 8 ∧ RK (y.2 1) S ∧ y.2 3 = K 3 := by
        unfold fX9_stowAt
        simp (disch := omega) only [li0, li1, li2, li3, li4, li5, li6, li7, li8, li9, li10, li12, li13, li14, li15, li19, li20, li31, li33, li40, li42, li44, li48, li57, li60, li99, li100, li126, li150, li176, li177, li187, li197, li207, li208, li223, li304, li608, li1520, li1824, nI_add, pk_mul, nI_clamp, nI_leI, nI_ltI, nI_eq, zn_inb, zn_gd, zn_bs, zn_isb, not_true_eq_false, not_false_eq_true, ↓reduceIte, pk_div, pk_sub, zn_rem20, zn_rem2, zn_m1, zn_eqw, zn_weq, zn_weq2, zn_wlt0, zn_wltn, zn_win, zn_wcl, zn_wadd, Nat.not_lt_zero, Nat.one_ne_zero, Nat.zero_ne_one, Nat.le_refl, Nat.zero_le, zn_sel_r, zn_sel_l, fX9_fails, e2, e5, fX9_stowAt_B46]
        exact ⟨_, rfl, rfl, rfl, rfl, hK, rfl⟩
      exact ⟨_, _, M, C, y, ex, Or.inr ⟨1, _, rfl, rfl, rfl⟩, fun _ _ => rfl, ek, y0, (fun u hu => by cases hu), ZI.gen hn hH hB hX yk gn h99 rfl rfl rfl y4 y8 y3 rfl rfl rfl⟩
    · rw [if_neg c1] at e4 e5
      have hw0 : 0 < S 1 1 := by omega
      have hb := g.1.2.2.1 (S 1 1 - 1) (by omega)
      have m1 : M 2 1 = wI (S 1 1) := hX.w
      have m2 : M 3 (S 1 1 - 1) = nI (S 2 (S 1 1 - 1)) := hX.r2 (S 1 1 - 1) (by omega)
      have m3 : K 1 1 = nI (S 1 1 - 1) := hK.2.1.trans (wI_p hw0)
      have e6 := zx_takenOn hT g.1 hs
      have e7 := zx_fits (zs_tk_lt g.1 s (S 1 0) (Nat.le_refl _)) ht (w := S 2 (S 1 1 - 1)) (by omega)
      rw [zs_fit_tk g.1 hs ht] at e7
      have e8 := zk_of0 (K := (sr K 0 (upd (K 0) 0 (nI 0)))) hK0 hc12 (f := S 1 1 - 1) (by omega)
      have e9 := zk_fits (K := (sr K 0 (upd (K 0) 0 (nI 0)))) hK0 g.1.k hs ht (w := S 2 (S 1 1 - 1)) (by omega)
      rw [show 20 * s + t = t + 20 * s by omega] at e9
      have hp : 20 * s + t = t + 20 * s := by omega
      have hp2 : s * 20 + t = t + 20 * s := by omega
      cases qf : zs_fq (zs_tq S) (S 2 (S 1 1 - 1)) (t + 20 * s)
      · rw [qf, cond_false] at e7 e9
        have ex : fX8_stowAt C M (nI s) (nI t) = some (.inl "java/lang/IllegalStateException", M, C) := by
          unfold fX8_stowAt
          simp (disch := omega) only [li0, li1, li2, li3, li4, li5, li6, li7, li8, li9, li10, li12, li13, li14, li15, li19, li20, li31, li33, li40, li42, li44, li48, li57, li60, li99, li100, li126, li150, li176, li177, li187, li197, li207, li208, li223, li304, li608, li1520, li1824, nI_add, pk_mul, nI_clamp, nI_leI, nI_ltI, nI_eq, zn_inb, zn_gd, zn_bs, zn_isb, not_true_eq_false, not_false_eq_true, ↓reduceIte, pk_div, pk_sub, zn_rem20, zn_rem2, zn_m1, zn_eqw, zn_weq, zn_weq2, zn_wlt0, zn_wltn, zn_win, zn_wcl, zn_wadd, Nat.not_lt_zero, Nat.one_ne_zero, Nat.zero_ne_one, Nat.le_refl, Nat.zero_le, zn_sel_r, zn_sel_l, e1, e4, m1, m2, e6, e7]
        obtain ⟨y, ek, y0, y4, y8, yk, y3⟩ : ∃ y : Int32 × Mem, fX9_stowAt K (nI s) (nI t) = some y ∧ y.2 0 0 = nI (1 + 1) ∧ y.2 0 4 = K 0 4 ∧ y.2 0 8 = K 0 8 ∧ RK (y.2 1) S ∧ y.2 3 = K 3 := by
          unfold fX9_stowAt
          simp (disch := omega) only [li0, li1, li2, li3, li4, li5, li6, li7, li8, li9, li10, li12, li13, li14, li15, li19, li20, li31, li33, li40, li42, li44, li48, li57, li60, li99, li100, li126, li150, li176, li177, li187, li197, li207, li208, li223, li304, li608, li1520, li1824, nI_add, pk_mul, nI_clamp, nI_leI, nI_ltI, nI_eq, zn_inb, zn_gd, zn_bs, zn_isb, not_true_eq_false, not_false_eq_true, ↓reduceIte, pk_div, pk_sub, zn_rem20, zn_rem2, zn_m1, zn_eqw, zn_weq, zn_weq2, zn_wlt0, zn_wltn, zn_win, zn_wcl, zn_wadd, Nat.not_lt_zero, Nat.one_ne_zero, Nat.zero_ne_one, Nat.le_refl, Nat.zero_le, zn_sel_r, zn_sel_l, fX9_fails, e2, e5, m3, e8, e9, fX9_stowAt_B46]
          exact ⟨_, rfl, rfl, rfl, rfl, hK, rfl⟩
        exact ⟨_, _, M, C, y, ex, Or.inr ⟨1, _, rfl, rfl, rfl⟩, fun _ _ => rfl, ek, y0, (fun u hu => by cases hu), ZI.gen hn hH hB hX yk gn h99 rfl rfl rfl y4 y8 y3 rfl rfl rfl⟩
      · rw [qf, cond_true] at e7 e9
        obtain ⟨zb, eb, hzb, ezb⟩ := zx_putAt (M := ofs 1 (sr M 33 (q.1 0))) (S := S) (hX.of rfl rfl rfl rfl rfl rfl rfl rfl rfl rfl rfl rfl rfl rfl rfl ) g hw0 (p := t + 20 * s) (by omega)
        obtain ⟨yb, ef, hyb⟩ := zk_stows (K := (sr (sr K 0 (r 0)) 3 (r 3))) (S := S) hKR g hw0 (p := t + 20 * s) (by omega)
        obtain ⟨z1, z2, ex, hx2, e33, e36, e37⟩ : ∃ z1 z2, fX8_stowAt C M (nI s) (nI t) = some (.inr z1, z2, q.2) ∧ RX (ofs 1 z2) (zo_put S (t + 20 * s)) ∧ z2 33 = q.1 0 ∧ z2 36 = M 36 ∧ z2 37 = M 37 ∧ z1 = nI (zs_way (t + 20 * s)) := by
          unfold fX8_stowAt
          simp (disch := omega) only [li0, li1, li2, li3, li4, li5, li6, li7, li8, li9, li10, li12, li13, li14, li15, li19, li20, li31, li33, li40, li42, li44, li48, li57, li60, li99, li100, li126, li150, li176, li177, li187, li197, li207, li208, li223, li304, li608, li1520, li1824, nI_add, pk_mul, nI_clamp, nI_leI, nI_ltI, nI_eq, zn_inb, zn_gd, zn_bs, zn_isb, not_true_eq_false, not_false_eq_true, ↓reduceIte, pk_div, pk_sub, zn_rem20, zn_rem2, zn_m1, zn_eqw, zn_weq, zn_weq2, zn_wlt0, zn_wltn, zn_win, zn_wcl, zn_wadd, Nat.not_lt_zero, Nat.one_ne_zero, Nat.zero_ne_one, Nat.le_refl, Nat.zero_le, zn_sel_r, zn_sel_l, e1, e4, m1, m2, e6, e7, es, hp2, eb, inrs, Option.map_some]
          exact ⟨_, _, rfl, hzb.of (congrFun ezb 0).symm rfl (congrFun ezb 2).symm rfl (congrFun ezb 4).symm (congrFun ezb 5).symm rfl rfl rfl (congrFun ezb 10).symm (congrFun ezb 11).symm (congrFun ezb 12).symm (congrFun ezb 13).symm (congrFun ezb 14).symm (congrFun ezb 15).symm, rfl, rfl, rfl, rfl⟩
        obtain ⟨e37, ev⟩ := e37
        obtain ⟨y, ek, y0, y4, y8, yk, y3, y1⟩ : ∃ y : Int32 × Mem, fX9_stowAt K (nI s) (nI t) = some y ∧ y.2 0 0 = nI 0 ∧ y.2 0 4 = r 0 4 ∧ y.2 0 8 = K 0 8 ∧ RK (y.2 1) (zo_put S (t + 20 * s)) ∧ y.2 3 = r 3 ∧ nI (zs_way (t + 20 * s)) = y.1 := by
          unfold fX9_stowAt
          simp (disch := omega) only [li0, li1, li2, li3, li4, li5, li6, li7, li8, li9, li10, li12, li13, li14, li15, li19, li20, li31, li33, li40, li42, li44, li48, li57, li60, li99, li100, li126, li150, li176, li177, li187, li197, li207, li208, li223, li304, li608, li1520, li1824, nI_add, pk_mul, nI_clamp, nI_leI, nI_ltI, nI_eq, zn_inb, zn_gd, zn_bs, zn_isb, not_true_eq_false, not_false_eq_true, ↓reduceIte, pk_div, pk_sub, zn_rem20, zn_rem2, zn_m1, zn_eqw, zn_weq, zn_weq2, zn_wlt0, zn_wltn, zn_win, zn_wcl, zn_wadd, Nat.not_lt_zero, Nat.one_ne_zero, Nat.zero_ne_one, Nat.le_refl, Nat.zero_le, zn_sel_r, zn_sel_l, e2, e5, m3, e8, e9, er, hp, ef]
          exact ⟨_, rfl, rt, rfl, r8, hyb, rfl, rfl⟩
        exact ⟨_, _, z2, q.2, y, ex, Or.inl ⟨_, rfl, rfl⟩, (fun E hE => by cases hE), ek, y0, (fun u hu => by cases hu; exact ev.trans y1), ZI.gen2 hH' hB hx2 yk ((g.put hw0 (by omega) qf (by omega)).mono (by omega) (by omega)) (h99) e33 e36 e37 y4 y8 y3 rfl rfl rfl⟩
  · have ex : fX8_stowAt C M x1 x2 = some (.inl "java/lang/IndexOutOfBoundsException", M, C) := by
      unfold fX8_stowAt
      simp (disch := omega) only [li0, li1, li2, li3, li4, li5, li6, li7, li8, li9, li10, li12, li13, li14, li15, li19, li20, li31, li33, li40, li42, li44, li48, li57, li60, li99, li100, li126, li150, li176, li177, li187, li197, li207, li208, li223, li304, li608, li1520, li1824, nI_add, pk_mul, nI_clamp, nI_leI, nI_ltI, nI_eq, zn_inb, zn_gd, zn_bs, zn_isb, not_true_eq_false, not_false_eq_true, ↓reduceIte, pk_div, pk_sub, zn_rem20, zn_rem2, zn_m1, zn_eqw, zn_weq, zn_weq2, zn_wlt0, zn_wltn, zn_win, zn_wcl, zn_wadd, Nat.not_lt_zero, Nat.one_ne_zero, Nat.zero_ne_one, Nat.le_refl, Nat.zero_le, zn_sel_r, zn_sel_l, e1]
    obtain ⟨y, ek, y0, y4, y8, yk, y3⟩ : ∃ y : Int32 × Mem, fX9_stowAt K x1 x2 = some y ∧ y.2 0 0 = nI (0 + 1) ∧ y.2 0 4 = K 0 4 ∧ y.2 0 8 = K 0 8 ∧ RK (y.2 1) S ∧ y.2 3 = K 3 := by
      unfold fX9_stowAt
      simp (disch := omega) only [li0, li1, li2, li3, li4, li5, li6, li7, li8, li9, li10, li12, li13, li14, li15, li19, li20, li31, li33, li40, li42, li44, li48, li57, li60, li99, li100, li126, li150, li176, li177, li187, li197, li207, li208, li223, li304, li608, li1520, li1824, nI_add, pk_mul, nI_clamp, nI_leI, nI_ltI, nI_eq, zn_inb, zn_gd, zn_bs, zn_isb, not_true_eq_false, not_false_eq_true, ↓reduceIte, pk_div, pk_sub, zn_rem20, zn_rem2, zn_m1, zn_eqw, zn_weq, zn_weq2, zn_wlt0, zn_wltn, zn_win, zn_wcl, zn_wadd, Nat.not_lt_zero, Nat.one_ne_zero, Nat.zero_ne_one, Nat.le_refl, Nat.zero_le, zn_sel_r, zn_sel_l, fX9_fails, e2, fX9_stowAt_B46]
      exact ⟨_, rfl, rfl, rfl, rfl, hK, rfl⟩
    exact ⟨_, _, M, C, y, ex, Or.inr ⟨0, _, rfl, rfl, rfl⟩, fun _ _ => rfl, ek, y0, (fun u hu => by cases hu), ZI.gen hn hH hB hX yk gn h99 rfl rfl rfl y4 y8 y3 rfl rfl rfl⟩
theorem zt_fill : St_fill ZI := by
  intro n C M K x1 x2 hn h
  obtain ⟨S, T, hc, ⟨hX, hK, g, h99⟩, hH, hB⟩ := id h
  have hc12 := g.c12
  have h8 := g.o8
  have lo := g.lo
  have hw12 := g.1.2.1
  have hT : RT (ofs 2 M) S := hX.t
  have hK0 : RK ((sr K 0 (upd (K 0) 0 (nI 0))) 1) S := hK
  have gn := g.nx hn
  obtain ⟨q, r, es, er, hH', r0⟩ := ZI.save (P := (pk [33, 34, 35, 1, 2, 3, 4, 5, 6, 7, 8, 9, 10, 11, 12, 13, 14, 15, 16] M)) (K0 := (sr K 0 (upd (K 0) 0 (nI 0)))) hn ⟨hX, hK, g, h99⟩ hH (hX.of rfl rfl rfl rfl rfl rfl rfl rfl rfl rfl rfl rfl rfl rfl rfl ) rfl rfl rfl rfl
  have rt : r 0 0 = nI 0 := (r0 0 (by omega)).trans rfl
  have r8 : r 0 8 = K 0 8 := (r0 8 (by omega)).trans rfl
  have hKR : RK ((sr (sr K 0 (r 0)) 3 (r 3)) 1) S := hK
  have e4 := zr_at hX hc12 hw12
  have e5 := zk_hasWindow (K := (sr K 0 (upd (K 0) 0 (nI 0)))) hK0 (by omega)
  rcases zr_kind M x1 with ⟨k, hk, rfl, e1, e2⟩ | ⟨e1, e2⟩
  · rcases zr_many M x2 with ⟨m, m1, m20, rfl, e6, e7⟩ | ⟨e6, e7⟩
    · by_cases c1 : S 1 1 = 0
      · rw [if_pos c1] at e4 e5
        have ex : fX8_fill C M (nI k) (nI m) = some (.inl "java/lang/IllegalStateException", M, C) := by
          unfold fX8_fill
          simp (disch := omega) only [li0, li1, li2, li3, li4, li5, li6, li7, li8, li9, li10, li12, li13, li14, li15, li19, li20, li31, li33, li40, li42, li44, li48, li57, li60, li99, li100, li126, li150, li176, li177, li187, li197, li207, li208, li223, li304, li608, li1520, li1824, nI_add, pk_mul, nI_clamp, nI_leI, nI_ltI, nI_eq, zn_inb, zn_gd, zn_bs, zn_isb, not_true_eq_false, not_false_eq_true, ↓reduceIte, pk_div, pk_sub, zn_rem20, zn_rem2, zn_m1, zn_eqw, zn_weq, zn_weq2, zn_wlt0, zn_wltn, zn_win, zn_wcl, zn_wadd, Nat.not_lt_zero, Nat.one_ne_zero, Nat.zero_ne_one, Nat.le_refl, Nat.zero_le, zn_sel_r, zn_sel_l, e1, e6, e4]
        obtain ⟨y, ek, y0, y4, y8, yk, y3⟩ : ∃ y : Int32 × Mem, fX9_fill K (nI k) (nI m) = some y ∧ y.2 0 0 = nI (2 + 1) ∧ y.2 0 4 = K 0 4 ∧ y.2 0 8 = K 0 8 ∧ RK (y.2 1) S ∧ y.2 3 = K 3 := by
          unfold fX9_fill
          simp (disch := omega) only [li0, li1, li2, li3, li4, li5, li6, li7, li8, li9, li10, li12, li13, li14, li15, li19, li20, li31, li33, li40, li42, li44, li48, li57, li60, li99, li100, li126, li150, li176, li177, li187, li197, li207, li208, li223, li304, li608, li1520, li1824, nI_add, pk_mul, nI_clamp, nI_leI, nI_ltI, nI_eq, zn_inb, zn_gd, zn_bs, zn_isb, not_true_eq_false, not_false_eq_true, ↓reduceIte, pk_div, pk_sub, zn_rem20, zn_rem2, zn_m1, zn_eqw, zn_weq, zn_weq2, zn_wlt0, zn_wltn, zn_win, zn_wcl, zn_wadd, Nat.not_lt_zero, Nat.one_ne_zero, Nat.zero_ne_one, Nat.le_refl, Nat.zero_le, zn_sel_r, zn_sel_l, fX9_fails, e2, e7, e5, fX9_fill_B67]
          exact ⟨_, rfl, rfl, rfl, rfl, hK, rfl⟩
        exact ⟨_, _, M, C, y, ex, Or.inr ⟨2, _, rfl, rfl, rfl⟩, fun _ _ => rfl, ek, y0, (fun u hu => by cases hu), ZI.gen hn hH hB hX yk gn h99 rfl rfl rfl y4 y8 y3 rfl rfl rfl⟩
      · rw [if_neg c1] at e4 e5
        obtain ⟨f, hw0⟩ : ∃ f, S 1 1 = f + 1 := ⟨S 1 1 - 1, by omega⟩
        have hf : f < S 1 0 := by omega
        have n1 : M 2 1 = nI f := (show M 2 1 = wI (S 1 1) from hX.w).trans (by rw [hw0, wI_s])
        have n2 : K 1 1 = nI f := hK.2.1.trans (by rw [hw0, wI_s])
        have bt := g.th f k hf hk
        have bw := g.2.2.1 f hf
        have bk := g.2.1 k hk
        have mm : m * S 10 k ≤ 20 * 9 := Nat.mul_le_mul m20 bk.2.1
        have n3 : M 11 k = nI (S 10 k) := hX.r10 k hk
        have n4 := (hK.2.2.2.2.2.1 k hk).1
        have n5 : M 13 k = nI (S 12 k) := hX.r12 k hk
        have e8 := zx_weighShelf hX (f := f) (by omega)
        have e9 := zk_weight (K := (sr K 0 (upd (K 0) 0 (nI 0)))) hK0 hc12 hf
        by_cases c2 : zs_wt S f + m * S 10 k ≤ 150
        · have ec := zx_change (T := ofs 2 (sr (sr M 13 (upd (M 13) k (nI (S 12 k + m)))) 33 (q.1 0))) (f := f) (k := k) (by omega) hk (nI m)
          have t4 : ofs 2 (sr (sr M 13 (upd (M 13) k (nI (S 12 k + m)))) 33 (q.1 0)) 4 (f * 10 + k) = nI (S 5 (f * 10 + k)) := hX.r5 _ (by omega)
          rw [t4, nI_add] at ec
          obtain ⟨yb, ef, hyb⟩ := zk_addsUp (K := (sr (sr K 0 (r 0)) 3 (r 3))) (S := S) hKR g (m := m) hw0 hk
          obtain ⟨z1, z2, ex, hx2, e33, e36, e37⟩ : ∃ z1 z2, fX8_fill C M (nI k) (nI m) = some (.inr z1, z2, q.2) ∧ RX (ofs 1 z2) (sw (sw S 5 (uw (S 5) (f * 10 + k) (S 5 (f * 10 + k) + m))) 12 (uw (S 12) k (S 12 k + m))) ∧ z2 33 = q.1 0 ∧ z2 36 = M 36 ∧ z2 37 = M 37 ∧ z1 = nI (S 5 (f * 10 + k) + m) := by
            unfold fX8_fill
            simp (disch := omega) only [li0, li1, li2, li3, li4, li5, li6, li7, li8, li9, li10, li12, li13, li14, li15, li19, li20, li31, li33, li40, li42, li44, li48, li57, li60, li99, li100, li126, li150, li176, li177, li187, li197, li207, li208, li223, li304, li608, li1520, li1824, nI_add, pk_mul, nI_clamp, nI_leI, nI_ltI, nI_eq, zn_inb, zn_gd, zn_bs, zn_isb, not_true_eq_false, not_false_eq_true, ↓reduceIte, pk_div, pk_sub, zn_rem20, zn_rem2, zn_m1, zn_eqw, zn_weq, zn_weq2, zn_wlt0, zn_wltn, zn_win, zn_wcl, zn_wadd, Nat.not_lt_zero, Nat.one_ne_zero, Nat.zero_ne_one, Nat.le_refl, Nat.zero_le, zn_sel_r, zn_sel_l, e1, e6, e4, n1, e8, n3, c2, es, n5, ec, inrs, Option.map_some]
            exact ⟨_, _, rfl, ⟨⟨hX.c, hX.w, hX.r2, hX.r3, hX.r4, rn_up hX.r5 _ _⟩, hX.2.1, hX.r7, hX.r8, hX.r10, hX.r11, rn_up hX.r12 k _, hX.r13, hX.r15⟩, rfl, rfl, rfl, rfl⟩
          obtain ⟨e37, ev⟩ := e37
          obtain ⟨y, ek, y0, y4, y8, yk, y3, y1⟩ : ∃ y : Int32 × Mem, fX9_fill K (nI k) (nI m) = some y ∧ y.2 0 0 = nI 0 ∧ y.2 0 4 = r 0 4 ∧ y.2 0 8 = K 0 8 ∧ RK (y.2 1) (sw (sw S 5 (uw (S 5) (f * 10 + k) (S 5 (f * 10 + k) + m))) 12 (uw (S 12) k (S 12 k + m))) ∧ y.2 3 = r 3 ∧ nI (S 5 (f * 10 + k) + m) = y.1 := by
            unfold fX9_fill
            simp (disch := omega) only [li0, li1, li2, li3, li4, li5, li6, li7, li8, li9, li10, li12, li13, li14, li15, li19, li20, li31, li33, li40, li42, li44, li48, li57, li60, li99, li100, li126, li150, li176, li177, li187, li197, li207, li208, li223, li304, li608, li1520, li1824, nI_add, pk_mul, nI_clamp, nI_leI, nI_ltI, nI_eq, zn_inb, zn_gd, zn_bs, zn_isb, not_true_eq_false, not_false_eq_true, ↓reduceIte, pk_div, pk_sub, zn_rem20, zn_rem2, zn_m1, zn_eqw, zn_weq, zn_weq2, zn_wlt0, zn_wltn, zn_win, zn_wcl, zn_wadd, Nat.not_lt_zero, Nat.one_ne_zero, Nat.zero_ne_one, Nat.le_refl, Nat.zero_le, zn_sel_r, zn_sel_l, e2, e7, e5, n2, e9, n4, c2, er, ef]
            exact ⟨_, rfl, rt, rfl, r8, hyb, rfl, rfl⟩
          exact ⟨_, _, z2, q.2, y, ex, Or.inl ⟨_, rfl, rfl⟩, (fun E hE => by cases hE), ek, y0, (fun u hu => by cases hu; exact ev.trans y1), ZI.gen2 hH' hB hx2 yk ((gn.things (f := f) (v := S 5 (f * 10 + k) + m) hk (by rw [Nat.add_mul]; omega) hf).row12 _) (h99) e33 e36 e37 y4 y8 y3 rfl rfl rfl⟩
        · have ex : fX8_fill C M (nI k) (nI m) = some (.inl "java/lang/IllegalStateException", M, C) := by
            unfold fX8_fill
            simp (disch := omega) only [li0, li1, li2, li3, li4, li5, li6, li7, li8, li9, li10, li12, li13, li14, li15, li19, li20, li31, li33, li40, li42, li44, li48, li57, li60, li99, li100, li126, li150, li176, li177, li187, li197, li207, li208, li223, li304, li608, li1520, li1824, nI_add, pk_mul, nI_clamp, nI_leI, nI_ltI, nI_eq, zn_inb, zn_gd, zn_bs, zn_isb, not_true_eq_false, not_false_eq_true, ↓reduceIte, pk_div, pk_sub, zn_rem20, zn_rem2, zn_m1, zn_eqw, zn_weq, zn_weq2, zn_wlt0, zn_wltn, zn_win, zn_wcl, zn_wadd, Nat.not_lt_zero, Nat.one_ne_zero, Nat.zero_ne_one, Nat.le_refl, Nat.zero_le, zn_sel_r, zn_sel_l, e1, e6, e4, n1, e8, n3, c2]
          obtain ⟨y, ek, y0, y4, y8, yk, y3⟩ : ∃ y : Int32 × Mem, fX9_fill K (nI k) (nI m) = some y ∧ y.2 0 0 = nI (2 + 1) ∧ y.2 0 4 = K 0 4 ∧ y.2 0 8 = K 0 8 ∧ RK (y.2 1) S ∧ y.2 3 = K 3 := by
            unfold fX9_fill
            simp (disch := omega) only [li0, li1, li2, li3, li4, li5, li6, li7, li8, li9, li10, li12, li13, li14, li15, li19, li20, li31, li33, li40, li42, li44, li48, li57, li60, li99, li100, li126, li150, li176, li177, li187, li197, li207, li208, li223, li304, li608, li1520, li1824, nI_add, pk_mul, nI_clamp, nI_leI, nI_ltI, nI_eq, zn_inb, zn_gd, zn_bs, zn_isb, not_true_eq_false, not_false_eq_true, ↓reduceIte, pk_div, pk_sub, zn_rem20, zn_rem2, zn_m1, zn_eqw, zn_weq, zn_weq2, zn_wlt0, zn_wltn, zn_win, zn_wcl, zn_wadd, Nat.not_lt_zero, Nat.one_ne_zero, Nat.zero_ne_one, Nat.le_refl, Nat.zero_le, zn_sel_r, zn_sel_l, fX9_fails, e2, e7, e5, n2, e9, n4, c2, fX9_fill_B67]
            exact ⟨_, rfl, rfl, rfl, rfl, hK, rfl⟩
          exact ⟨_, _, M, C, y, ex, Or.inr ⟨2, _, rfl, rfl, rfl⟩, fun _ _ => rfl, ek, y0, (fun u hu => by cases hu), ZI.gen hn hH hB hX yk gn h99 rfl rfl rfl y4 y8 y3 rfl rfl rfl⟩
    · have ex : fX8_fill C M (nI k) x2 = some (.inl "java/lang/IllegalArgumentException", M, C) := by
        unfold fX8_fill
        simp (disch := omega) only [li0, li1, li2, li3, li4, li5, li6, li7, li8, li9, li10, li12, li13, li14, li15, li19, li20, li31, li33, li40, li42, li44, li48, li57, li60, li99, li100, li126, li150, li176, li177, li187, li197, li207, li208, li223, li304, li608, li1520, li1824, nI_add, pk_mul, nI_clamp, nI_leI, nI_ltI, nI_eq, zn_inb, zn_gd, zn_bs, zn_isb, not_true_eq_false, not_false_eq_true, ↓reduceIte, pk_div, pk_sub, zn_rem20, zn_rem2, zn_m1, zn_eqw, zn_weq, zn_weq2, zn_wlt0, zn_wltn, zn_win, zn_wcl, zn_wadd, Nat.not_lt_zero, Nat.one_ne_zero, Nat.zero_ne_one, Nat.le_refl, Nat.zero_le, zn_sel_r, zn_sel_l, e1, e6]
      obtain ⟨y, ek, y0, y4, y8, yk, y3⟩ : ∃ y : Int32 × Mem, fX9_fill K (nI k) x2 = some y ∧ y.2 0 0 = nI (1 + 1) ∧ y.2 0 4 = K 0 4 ∧ y.2 0 8 = K 0 8 ∧ RK (y.2 1) S ∧ y.2 3 = K 3 := by
        unfold fX9_fill
        simp (disch := omega) only [li0, li1, li2, li3, li4, li5, li6, li7, li8, li9, li10, li12, li13, li14, li15, li19, li20, li31, li33, li40, li42, li44, li48, li57, li60, li99, li100, li126, li150, li176, li177, li187, li197, li207, li208, li223, li304, li608, li1520, li1824, nI_add, pk_mul, nI_clamp, nI_leI, nI_ltI, nI_eq, zn_inb, zn_gd, zn_bs, zn_isb, not_true_eq_false, not_false_eq_true, ↓reduceIte, pk_div, pk_sub, zn_rem20, zn_rem2, zn_m1, zn_eqw, zn_weq, zn_weq2, zn_wlt0, zn_wltn, zn_win, zn_wcl, zn_wadd, Nat.not_lt_zero, Nat.one_ne_zero, Nat.zero_ne_one, Nat.le_refl, Nat.zero_le, zn_sel_r, zn_sel_l, fX9_fails, e2, e7, fX9_fill_B67]
        exact ⟨_, rfl, rfl, rfl, rfl, hK, rfl⟩
      exact ⟨_, _, M, C, y, ex, Or.inr ⟨1, _, rfl, rfl, rfl⟩, fun _ _ => rfl, ek, y0, (fun u hu => by cases hu), ZI.gen hn hH hB hX yk gn h99 rfl rfl rfl y4 y8 y3 rfl rfl rfl⟩
  · have ex : fX8_fill C M x1 x2 = some (.inl "java/lang/IndexOutOfBoundsException", M, C) := by
      unfold fX8_fill
      simp (disch := omega) only [li0, li1, li2, li3, li4, li5, li6, li7, li8, li9, li10, li12, li13, li14, li15, li19, li20, li31, li33, li40, li42, li44, li48, li57, li60, li99, li100, li126, li150, li176, li177, li187, li197, li207, li208, li223, li304, li608, li1520, li1824, nI_add, pk_mul, nI_clamp, nI_leI, nI_ltI, nI_eq, zn_inb, zn_gd, zn_bs, zn_isb, not_true_eq_false, not_false_eq_true, ↓reduceIte, pk_div, pk_sub, zn_rem20, zn_rem2, zn_m1, zn_eqw, zn_weq, zn_weq2, zn_wlt0, zn_wltn, zn_win, zn_wcl, zn_wadd, Nat.not_lt_zero, Nat.one_ne_zero, Nat.zero_ne_one, Nat.le_refl, Nat.zero_le, zn_sel_r, zn_sel_l, e1]
    obtain ⟨y, ek, y0, y4, y8, yk, y3⟩ : ∃ y : Int32 × Mem, fX9_fill K x1 x2 = some y ∧ y.2 0 0 = nI (0 + 1) ∧ y.2 0 4 = K 0 4 ∧ y.2 0 8 = K 0 8 ∧ RK (y.2 1) S ∧ y.2 3 = K 3 := by
      unfold fX9_fill
      simp (disch := omega) only [li0, li1, li2, li3, li4, li5, li6, li7, li8, li9, li10, li12, li13, li14, li15, li19, li20, li31, li33, li40, li42, li44, li48, li57, li60, li99, li100, li126, li150, li176, li177, li187, li197, li207, li208, li223, li304, li608, li1520, li1824, nI_add, pk_mul, nI_clamp, nI_leI, nI_ltI, nI_eq, zn_inb, zn_gd, zn_bs, zn_isb, not_true_eq_false, not_false_eq_true, ↓reduceIte, pk_div, pk_sub, zn_rem20, zn_rem2, zn_m1, zn_eqw, zn_weq, zn_weq2, zn_wlt0, zn_wltn, zn_win, zn_wcl, zn_wadd, Nat.not_lt_zero, Nat.one_ne_zero, Nat.zero_ne_one, Nat.le_refl, Nat.zero_le, zn_sel_r, zn_sel_l, fX9_fails, e2, fX9_fill_B67]
      exact ⟨_, rfl, rfl, rfl, rfl, hK, rfl⟩
    exact ⟨_, _, M, C, y, ex, Or.inr ⟨0, _, rfl, rfl, rfl⟩, fun _ _ => rfl, ek, y0, (fun u hu => by cases hu), ZI.gen hn hH hB hX yk gn h99 rfl rfl rfl y4 y8 y3 rfl rfl rfl⟩
theorem zt_take : St_take ZI := by
  intro n C M K x1 x2 hn h
  obtain ⟨S, T, hc, ⟨hX, hK, g, h99⟩, hH, hB⟩ := id h
  have hc12 := g.c12
  have h8 := g.o8
  have lo := g.lo
  have hw12 := g.1.2.1
  have hT : RT (ofs 2 M) S := hX.t
  have hK0 : RK ((sr K 0 (upd (K 0) 0 (nI 0))) 1) S := hK
  have gn := g.nx hn
  obtain ⟨q, r, es, er, hH', r0⟩ := ZI.save (P := (pk [33, 34, 35, 1, 2, 3, 4, 5, 6, 7, 8, 9, 10, 11, 12, 13, 14, 15, 16] M)) (K0 := (sr K 0 (upd (K 0) 0 (nI 0)))) hn ⟨hX, hK, g, h99⟩ hH (hX.of rfl rfl rfl rfl rfl rfl rfl rfl rfl rfl rfl rfl rfl rfl rfl ) rfl rfl rfl rfl
  have rt : r 0 0 = nI 0 := (r0 0 (by omega)).trans rfl
  have r8 : r 0 8 = K 0 8 := (r0 8 (by omega)).trans rfl
  have hKR : RK ((sr (sr K 0 (r 0)) 3 (r 3)) 1) S := hK
  have e4 := zr_at hX hc12 hw12
  have e5 := zk_hasWindow (K := (sr K 0 (upd (K 0) 0 (nI 0)))) hK0 (by omega)
  rcases zr_kind M x1 with ⟨k, hk, rfl, e1, e2⟩ | ⟨e1, e2⟩
  · rcases zr_many M x2 with ⟨m, m1, m20, rfl, e6, e7⟩ | ⟨e6, e7⟩
    · by_cases c1 : S 1 1 = 0
      · rw [if_pos c1] at e4 e5
        have ex : fX8_take C M (nI k) (nI m) = some (.inl "java/lang/IllegalStateException", M, C) := by
          unfold fX8_take
          simp (disch := omega) only [li0, li1, li2, li3, li4, li5, li6, li7, li8, li9, li10, li12, li13, li14, li15, li19, li20, li31, li33, li40, li42, li44, li48, li57, li60, li99, li100, li126, li150, li176, li177, li187, li197, li207, li208, li223, li304, li608, li1520, li1824, nI_add, pk_mul, nI_clamp, nI_leI, nI_ltI, nI_eq, zn_inb, zn_gd, zn_bs, zn_isb, not_true_eq_false, not_false_eq_true, ↓reduceIte, pk_div, pk_sub, zn_rem20, zn_rem2, zn_m1, zn_eqw, zn_weq, zn_weq2, zn_wlt0, zn_wltn, zn_win, zn_wcl, zn_wadd, Nat.not_lt_zero, Nat.one_ne_zero, Nat.zero_ne_one, Nat.le_refl, Nat.zero_le, zn_sel_r, zn_sel_l, e1, e6, e4]
        obtain ⟨y, ek, y0, y4, y8, yk, y3⟩ : ∃ y : Int32 × Mem, fX9_take K (nI k) (nI m) = some y ∧ y.2 0 0 = nI (2 + 1) ∧ y.2 0 4 = K 0 4 ∧ y.2 0 8 = K 0 8 ∧ RK (y.2 1) S ∧ y.2 3 = K 3 := by
          unfold fX9_take
          simp (disch := omega) only [li0, li1, li2, li3, li4, li5, li6, li7, li8, li9, li10, li12, li13, li14, li15, li19, li20, li31, li33, li40, li42, li44, li48, li57, li60, li99, li100, li126, li150, li176, li177, li187, li197, li207, li208, li223, li304, li608, li1520, li1824, nI_add, pk_mul, nI_clamp, nI_leI, nI_ltI, nI_eq, zn_inb, zn_gd, zn_bs, zn_isb, not_true_eq_false, not_false_eq_true, ↓reduceIte, pk_div, pk_sub, zn_rem20, zn_rem2, zn_m1, zn_eqw, zn_weq, zn_weq2, zn_wlt0, zn_wltn, zn_win, zn_wcl, zn_wadd, Nat.not_lt_zero, Nat.one_ne_zero, Nat.zero_ne_one, Nat.le_refl, Nat.zero_le, zn_sel_r, zn_sel_l, fX9_fails, e2, e7, e5, fX9_take_B55]
          exact ⟨_, rfl, rfl, rfl, rfl, hK, rfl⟩
        exact ⟨_, _, M, C, y, ex, Or.inr ⟨2, _, rfl, rfl, rfl⟩, fun _ _ => rfl, ek, y0, (fun u hu => by cases hu), ZI.gen hn hH hB hX yk gn h99 rfl rfl rfl y4 y8 y3 rfl rfl rfl⟩
      · rw [if_neg c1] at e4 e5
        obtain ⟨f, hw0⟩ : ∃ f, S 1 1 = f + 1 := ⟨S 1 1 - 1, by omega⟩
        have hf : f < S 1 0 := by omega
        have n1 : M 2 1 = nI f := (show M 2 1 = wI (S 1 1) from hX.w).trans (by rw [hw0, wI_s])
        have n2 : K 1 1 = nI f := hK.2.1.trans (by rw [hw0, wI_s])
        have bt := g.th f k hf hk
        have bw := g.2.2.1 f hf
        have bk := g.2.1 k hk
        have n5 : M 14 k = nI (S 13 k) := hX.r13 k hk
        have e8 := zx_countIn hT (f := f) (k := k) (by omega) hk
        have e9 := zk_of4 (K := (sr K 0 (upd (K 0) 0 (nI 0)))) hK0 hc12 hf hk
        by_cases c2 : m ≤ S 5 (f * 10 + k)
        · have ec := zx_change (T := ofs 2 (sr (sr M 14 (upd (M 14) k (nI (S 13 k + m)))) 33 (q.1 0))) (f := f) (k := k) (by omega) hk (-(nI m))
          have t4 : ofs 2 (sr (sr M 14 (upd (M 14) k (nI (S 13 k + m)))) 33 (q.1 0)) 4 (f * 10 + k) = nI (S 5 (f * 10 + k)) := hX.r5 _ (by omega)
          rw [t4, zn_addneg c2] at ec
          obtain ⟨yb, ef, hyb⟩ := zk_addsDown (K := (sr (sr K 0 (r 0)) 3 (r 3))) (S := S) hKR g (m := m) hw0 hk c2
          have md : (S 5 (f * 10 + k) - m) * S 10 k ≤ S 5 (f * 10 + k) * S 10 k := Nat.mul_le_mul_right _ (Nat.sub_le _ _)
          obtain ⟨z1, z2, ex, hx2, e33, e36, e37⟩ : ∃ z1 z2, fX8_take C M (nI k) (nI m) = some (.inr z1, z2, q.2) ∧ RX (ofs 1 z2) (sw (sw S 5 (uw (S 5) (f * 10 + k) (S 5 (f * 10 + k) - m))) 13 (uw (S 13) k (S 13 k + m))) ∧ z2 33 = q.1 0 ∧ z2 36 = M 36 ∧ z2 37 = M 37 ∧ z1 = nI (S 5 (f * 10 + k) - m) := by
            unfold fX8_take
            simp (disch := omega) only [li0, li1, li2, li3, li4, li5, li6, li7, li8, li9, li10, li12, li13, li14, li15, li19, li20, li31, li33, li40, li42, li44, li48, li57, li60, li99, li100, li126, li150, li176, li177, li187, li197, li207, li208, li223, li304, li608, li1520, li1824, nI_add, pk_mul, nI_clamp, nI_leI, nI_ltI, nI_eq, zn_inb, zn_gd, zn_bs, zn_isb, not_true_eq_false, not_false_eq_true, ↓reduceIte, pk_div, pk_sub, zn_rem20, zn_rem2, zn_m1, zn_eqw, zn_weq, zn_weq2, zn_wlt0, zn_wltn, zn_win, zn_wcl, zn_wadd, Nat.not_lt_zero, Nat.one_ne_zero, Nat.zero_ne_one, Nat.le_refl, Nat.zero_le, zn_sel_r, zn_sel_l, e1, e6, e4, n1, e8, c2, es, n5, ec, inrs, Option.map_some]
            exact ⟨_, _, rfl, ⟨⟨hX.c, hX.w, hX.r2, hX.r3, hX.r4, rn_up hX.r5 _ _⟩, hX.2.1, hX.r7, hX.r8, hX.r10, hX.r11, hX.r12, rn_up hX.r13 k _, hX.r15⟩, rfl, rfl, rfl, rfl⟩
          obtain ⟨e37, ev⟩ := e37
          obtain ⟨y, ek, y0, y4, y8, yk, y3, y1⟩ : ∃ y : Int32 × Mem, fX9_take K (nI k) (nI m) = some y ∧ y.2 0 0 = nI 0 ∧ y.2 0 4 = r 0 4 ∧ y.2 0 8 = K 0 8 ∧ RK (y.2 1) (sw (sw S 5 (uw (S 5) (f * 10 + k) (S 5 (f * 10 + k) - m))) 13 (uw (S 13) k (S 13 k + m))) ∧ y.2 3 = r 3 ∧ nI (S 5 (f * 10 + k) - m) = y.1 := by
            unfold fX9_take
            simp (disch := omega) only [li0, li1, li2, li3, li4, li5, li6, li7, li8, li9, li10, li12, li13, li14, li15, li19, li20, li31, li33, li40, li42, li44, li48, li57, li60, li99, li100, li126, li150, li176, li177, li187, li197, li207, li208, li223, li304, li608, li1520, li1824, nI_add, pk_mul, nI_clamp, nI_leI, nI_ltI, nI_eq, zn_inb, zn_gd, zn_bs, zn_isb, not_true_eq_false, not_false_eq_true, ↓reduceIte, pk_div, pk_sub, zn_rem20, zn_rem2, zn_m1, zn_eqw, zn_weq, zn_weq2, zn_wlt0, zn_wltn, zn_win, zn_wcl, zn_wadd, Nat.not_lt_zero, Nat.one_ne_zero, Nat.zero_ne_one, Nat.le_refl, Nat.zero_le, zn_sel_r, zn_sel_l, e2, e7, e5, n2, e9, c2, er, ef]
            exact ⟨_, rfl, rt, rfl, r8, hyb, rfl, rfl⟩
          exact ⟨_, _, z2, q.2, y, ex, Or.inl ⟨_, rfl, rfl⟩, (fun E hE => by cases hE), ek, y0, (fun u hu => by cases hu; exact ev.trans y1), ZI.gen2 hH' hB hx2 yk ((gn.things (f := f) (v := S 5 (f * 10 + k) - m) hk (by omega) hf).row13 _) (h99) e33 e36 e37 y4 y8 y3 rfl rfl rfl⟩
        · have ex : fX8_take C M (nI k) (nI m) = some (.inl "java/lang/IllegalStateException", M, C) := by
            unfold fX8_take
            simp (disch := omega) only [li0, li1, li2, li3, li4, li5, li6, li7, li8, li9, li10, li12, li13, li14, li15, li19, li20, li31, li33, li40, li42, li44, li48, li57, li60, li99, li100, li126, li150, li176, li177, li187, li197, li207, li208, li223, li304, li608, li1520, li1824, nI_add, pk_mul, nI_clamp, nI_leI, nI_ltI, nI_eq, zn_inb, zn_gd, zn_bs, zn_isb, not_true_eq_false, not_false_eq_true, ↓reduceIte, pk_div, pk_sub, zn_rem20, zn_rem2, zn_m1, zn_eqw, zn_weq, zn_weq2, zn_wlt0, zn_wltn, zn_win, zn_wcl, zn_wadd, Nat.not_lt_zero, Nat.one_ne_zero, Nat.zero_ne_one, Nat.le_refl, Nat.zero_le, zn_sel_r, zn_sel_l, e1, e6, e4, n1, e8, c2]
          obtain ⟨y, ek, y0, y4, y8, yk, y3⟩ : ∃ y : Int32 × Mem, fX9_take K (nI k) (nI m) = some y ∧ y.2 0 0 = nI (2 + 1) ∧ y.2 0 4 = K 0 4 ∧ y.2 0 8 = K 0 8 ∧ RK (y.2 1) S ∧ y.2 3 = K 3 := by
            unfold fX9_take
            simp (disch := omega) only [li0, li1, li2, li3, li4, li5, li6, li7, li8, li9, li10, li12, li13, li14, li15, li19, li20, li31, li33, li40, li42, li44, li48, li57, li60, li99, li100, li126, li150, li176, li177, li187, li197, li207, li208, li223, li304, li608, li1520, li1824, nI_add, pk_mul, nI_clamp, nI_leI, nI_ltI, nI_eq, zn_inb, zn_gd, zn_bs, zn_isb, not_true_eq_false, not_false_eq_true, ↓reduceIte, pk_div, pk_sub, zn_rem20, zn_rem2, zn_m1, zn_eqw, zn_weq, zn_weq2, zn_wlt0, zn_wltn, zn_win, zn_wcl, zn_wadd, Nat.not_lt_zero, Nat.one_ne_zero, Nat.zero_ne_one, Nat.le_refl, Nat.zero_le, zn_sel_r, zn_sel_l, fX9_fails, e2, e7, e5, n2, e9, c2, fX9_take_B55]
            exact ⟨_, rfl, rfl, rfl, rfl, hK, rfl⟩
          exact ⟨_, _, M, C, y, ex, Or.inr ⟨2, _, rfl, rfl, rfl⟩, fun _ _ => rfl, ek, y0, (fun u hu => by cases hu), ZI.gen hn hH hB hX yk gn h99 rfl rfl rfl y4 y8 y3 rfl rfl rfl⟩
    · have ex : fX8_take C M (nI k) x2 = some (.inl "java/lang/IllegalArgumentException", M, C) := by
        unfold fX8_take
        simp (disch := omega) only [li0, li1, li2, li3, li4, li5, li6, li7, li8, li9, li10, li12, li13, li14, li15, li19, li20, li31, li33, li40, li42, li44, li48, li57, li60, li99, li100, li126, li150, li176, li177, li187, li197, li207, li208, li223, li304, li608, li1520, li1824, nI_add, pk_mul, nI_clamp, nI_leI, nI_ltI, nI_eq, zn_inb, zn_gd, zn_bs, zn_isb, not_true_eq_false, not_false_eq_true, ↓reduceIte, pk_div, pk_sub, zn_rem20, zn_rem2, zn_m1, zn_eqw, zn_weq, zn_weq2, zn_wlt0, zn_wltn, zn_win, zn_wcl, zn_wadd, Nat.not_lt_zero, Nat.one_ne_zero, Nat.zero_ne_one, Nat.le_refl, Nat.zero_le, zn_sel_r, zn_sel_l, e1, e6]
      obtain ⟨y, ek, y0, y4, y8, yk, y3⟩ : ∃ y : Int32 × Mem, fX9_take K (nI k) x2 = some y ∧ y.2 0 0 = nI (1 + 1) ∧ y.2 0 4 = K 0 4 ∧ y.2 0 8 = K 0 8 ∧ RK (y.2 1) S ∧ y.2 3 = K 3 := by
        unfold fX9_take
        simp (disch := omega) only [li0, li1, li2, li3, li4, li5, li6, li7, li8, li9, li10, li12, li13, li14, li15, li19, li20, li31, li33, li40, li42, li44, li48, li57, li60, li99, li100, li126, li150, li176, li177, li187, li197, li207, li208, li223, li304, li608, li1520, li1824, nI_add, pk_mul, nI_clamp, nI_leI, nI_ltI, nI_eq, zn_inb, zn_gd, zn_bs, zn_isb, not_true_eq_false, not_false_eq_true, ↓reduceIte, pk_div, pk_sub, zn_rem20, zn_rem2, zn_m1, zn_eqw, zn_weq, zn_weq2, zn_wlt0, zn_wltn, zn_win, zn_wcl, zn_wadd, Nat.not_lt_zero, Nat.one_ne_zero, Nat.zero_ne_one, Nat.le_refl, Nat.zero_le, zn_sel_r, zn_sel_l, fX9_fails, e2, e7, fX9_take_B55]
        exact ⟨_, rfl, rfl, rfl, rfl, hK, rfl⟩
      exact ⟨_, _, M, C, y, ex, Or.inr ⟨1, _, rfl, rfl, rfl⟩, fun _ _ => rfl, ek, y0, (fun u hu => by cases hu), ZI.gen hn hH hB hX yk gn h99 rfl rfl rfl y4 y8 y3 rfl rfl rfl⟩
  · have ex : fX8_take C M x1 x2 = some (.inl "java/lang/IndexOutOfBoundsException", M, C) := by
      unfold fX8_take
      simp (disch := omega) only [li0, li1, li2, li3, li4, li5, li6, li7, li8, li9, li10, li12, li13, li14, li15, li19, li20, li31, li33, li40, li42, li44, li48, li57, li60, li99, li100, li126, li150, li176, li177, li187, li197, li207, li208, li223, li304, li608, li1520, li1824, nI_add, pk_mul, nI_clamp, nI_leI, nI_ltI, nI_eq, zn_inb, zn_gd, zn_bs, zn_isb, not_true_eq_false, not_false_eq_true, ↓reduceIte, pk_div, pk_sub, zn_rem20, zn_rem2, zn_m1, zn_eqw, zn_weq, zn_weq2, zn_wlt0, zn_wltn, zn_win, zn_wcl, zn_wadd, Nat.not_lt_zero, Nat.one_ne_zero, Nat.zero_ne_one, Nat.le_refl, Nat.zero_le, zn_sel_r, zn_sel_l, e1]
    obtain ⟨y, ek, y0, y4, y8, yk, y3⟩ : ∃ y : Int32 × Mem, fX9_take K x1 x2 = some y ∧ y.2 0 0 = nI (0 + 1) ∧ y.2 0 4 = K 0 4 ∧ y.2 0 8 = K 0 8 ∧ RK (y.2 1) S ∧ y.2 3 = K 3 := by
      unfold fX9_take
      simp (disch := omega) only [li0, li1, li2, li3, li4, li5, li6, li7, li8, li9, li10, li12, li13, li14, li15, li19, li20, li31, li33, li40, li42, li44, li48, li57, li60, li99, li100, li126, li150, li176, li177, li187, li197, li207, li208, li223, li304, li608, li1520, li1824, nI_add, pk_mul, nI_clamp, nI_leI, nI_ltI, nI_eq, zn_inb, zn_gd, zn_bs, zn_isb, not_true_eq_false, not_false_eq_true, ↓reduceIte, pk_div, pk_sub, zn_rem20, zn_rem2, zn_m1, zn_eqw, zn_weq, zn_weq2, zn_wlt0, zn_wltn, zn_win, zn_wcl, zn_wadd, Nat.not_lt_zero, Nat.one_ne_zero, Nat.zero_ne_one, Nat.le_refl, Nat.zero_le, zn_sel_r, zn_sel_l, fX9_fails, e2, fX9_take_B55]
      exact ⟨_, rfl, rfl, rfl, rfl, hK, rfl⟩
    exact ⟨_, _, M, C, y, ex, Or.inr ⟨0, _, rfl, rfl, rfl⟩, fun _ _ => rfl, ek, y0, (fun u hu => by cases hu), ZI.gen hn hH hB hX yk gn h99 rfl rfl rfl y4 y8 y3 rfl rfl rfl⟩
theorem zt_serve : St_serve ZI := by
  intro n C M K x1 hn h
  obtain ⟨S, T, hc, ⟨hX, hK, g, h99⟩, hH, hB⟩ := id h
  have hc12 := g.c12
  have h8 := g.o8
  have lo := g.lo
  have hw12 := g.1.2.1
  have hT : RT (ofs 2 M) S := hX.t
  have hK0 : RK ((sr K 0 (upd (K 0) 0 (nI 0))) 1) S := hK
  have gn := g.nx hn
  obtain ⟨q, r, es, er, hH', r0⟩ := ZI.save (P := (pk [33, 34, 35, 1, 2, 3, 4, 5, 6, 7, 8, 9, 10, 11, 12, 13, 14, 15, 16] M)) (K0 := (sr K 0 (upd (K 0) 0 (nI 0)))) hn ⟨hX, hK, g, h99⟩ hH (hX.of rfl rfl rfl rfl rfl rfl rfl rfl rfl rfl rfl rfl rfl rfl rfl ) rfl rfl rfl rfl
  have rt : r 0 0 = nI 0 := (r0 0 (by omega)).trans rfl
  have r8 : r 0 8 = K 0 8 := (r0 8 (by omega)).trans rfl
  have hKR : RK ((sr (sr K 0 (r 0)) 3 (r 3)) 1) S := hK
  have e4 := zr_win hX (by omega)
  have e5 := zk_hasWindow (K := (sr K 0 (upd (K 0) 0 (nI 0)))) hK0 (by omega)
  rcases zr_order hX h8 x1 with ⟨f, hf, rfl, e1, e2⟩ | ⟨e1, e2⟩
  · have e3 := e2 (sr K 0 (upd (K 0) 0 (nI 0))) hK0
    have e6 := zr_srv hX g hf
    have e7 := zk_canBe (K := (sr K 0 (upd (K 0) 0 (nI 0)))) hK0 g hf
    by_cases c1 : S 1 1 = 0
    · rw [if_pos c1] at e4 e5
      cases qc : zs_can S f
      · rw [qc, if_neg (by decide)] at e6
        rw [qc, cond_false] at e7
        have ex : fX8_serve C M (nI f) = some (.inl "java/lang/IllegalStateException", M, C) := by
          unfold fX8_serve
          simp (disch := omega) only [li0, li1, li2, li3, li4, li5, li6, li7, li8, li9, li10, li12, li13, li14, li15, li19, li20, li31, li33, li40, li42, li44, li48, li57, li60, li99, li100, li126, li150, li176, li177, li187, li197, li207, li208, li223, li304, li608, li1520, li1824, nI_add, pk_mul, nI_clamp, nI_leI, nI_ltI, nI_eq, zn_inb, zn_gd, zn_bs, zn_isb, not_true_eq_false, not_false_eq_true, ↓reduceIte, pk_div, pk_sub, zn_rem20, zn_rem2, zn_m1, zn_eqw, zn_weq, zn_weq2, zn_wlt0, zn_wltn, zn_win, zn_wcl, zn_wadd, Nat.not_lt_zero, Nat.one_ne_zero, Nat.zero_ne_one, Nat.le_refl, Nat.zero_le, zn_sel_r, zn_sel_l, e1, e4, e6]
        obtain ⟨y, ek, y0, y4, y8, yk, y3⟩ : ∃ y : Int32 × Mem, fX9_serve K (nI f) = some y ∧ y.2 0 0 = nI (1 + 1) ∧ y.2 0 4 = K 0 4 ∧ y.2 0 8 = K 0 8 ∧ RK (y.2 1) S ∧ y.2 3 = K 3 := by
          unfold fX9_serve
          simp (disch := omega) only [li0, li1, li2, li3, li4, li5, li6, li7, li8, li9, li10, li12, li13, li14, li15, li19, li20, li31, li33, li40, li42, li44, li48, li57, li60, li99, li100, li126, li150, li176, li177, li187, li197, li207, li208, li223, li304, li608, li1520, li1824, nI_add, pk_mul, nI_clamp, nI_leI, nI_ltI, nI_eq, zn_inb, zn_gd, zn_bs, zn_isb, not_true_eq_false, not_false_eq_true, ↓reduceIte, pk_div, pk_sub, zn_rem20, zn_rem2, zn_m1, zn_eqw, zn_weq, zn_weq2, zn_wlt0, zn_wltn, zn_win, zn_wcl, zn_wadd, Nat.not_lt_zero, Nat.one_ne_zero, Nat.zero_ne_one, Nat.le_refl, Nat.zero_le, zn_sel_r, zn_sel_l, fX9_fails, e3, e5, e7, fX9_serve_B34]
          exact ⟨_, rfl, rfl, rfl, rfl, hK, rfl⟩
        exact ⟨_, _, M, C, y, ex, Or.inr ⟨1, _, rfl, rfl, rfl⟩, fun _ _ => rfl, ek, y0, (fun u hu => by cases hu), ZI.gen hn hH hB hX yk gn h99 rfl rfl rfl y4 y8 y3 rfl rfl rfl⟩
      · rw [qc, if_pos rfl] at e6
        rw [qc, cond_true] at e7
        obtain ⟨zb, eb, hzb, ezb⟩ := zx_serveOne (M := ofs 1 (sr M 33 (q.1 0))) (S := S) (u := 192 * n) (hX.of rfl rfl rfl rfl rfl rfl rfl rfl rfl rfl rfl rfl rfl rfl rfl ) g h99 c1 hf qc (by omega)
        obtain ⟨yb, ef, hyb⟩ := zk_serves (K := (sr (sr K 0 (r 0)) 3 (r 3))) (S := S) (u := 192 * n) hKR g h99 c1 hf qc (by omega)
        obtain ⟨a1, a2, a3, a4, a5, a6⟩ := zo_srv_r S f c1
        have g1 : GX (192 * n + 24) (zo_srv S f) := g.serve h99 c1 hf (by omega)
        obtain ⟨z1, z2, ex, hx2, e33, e36, e37⟩ : ∃ z1 z2, fX8_serve C M (nI f) = some (.inr z1, z2, q.2) ∧ RX (ofs 1 z2) (zo_srv S f) ∧ z2 33 = q.1 0 ∧ z2 36 = M 36 ∧ z2 37 = M 37 ∧ z1 = nI (zo_cost S f) := by
          unfold fX8_serve
          simp (disch := omega) only [li0, li1, li2, li3, li4, li5, li6, li7, li8, li9, li10, li12, li13, li14, li15, li19, li20, li31, li33, li40, li42, li44, li48, li57, li60, li99, li100, li126, li150, li176, li177, li187, li197, li207, li208, li223, li304, li608, li1520, li1824, nI_add, pk_mul, nI_clamp, nI_leI, nI_ltI, nI_eq, zn_inb, zn_gd, zn_bs, zn_isb, not_true_eq_false, not_false_eq_true, ↓reduceIte, pk_div, pk_sub, zn_rem20, zn_rem2, zn_m1, zn_eqw, zn_weq, zn_weq2, zn_wlt0, zn_wltn, zn_win, zn_wcl, zn_wadd, Nat.not_lt_zero, Nat.one_ne_zero, Nat.zero_ne_one, Nat.le_refl, Nat.zero_le, zn_sel_r, zn_sel_l, e1, e4, e6, es, eb, inrs, Option.map_some]
          exact ⟨_, _, rfl, hzb.of rfl rfl (congrFun ezb 2).symm rfl rfl rfl rfl rfl rfl (congrFun ezb 10).symm (congrFun ezb 11).symm (congrFun ezb 12).symm rfl rfl rfl, rfl, rfl, rfl, rfl⟩
        obtain ⟨e37, ev⟩ := e37
        obtain ⟨y, ek, y0, y4, y8, yk, y3, y1⟩ : ∃ y : Int32 × Mem, fX9_serve K (nI f) = some y ∧ y.2 0 0 = nI 0 ∧ y.2 0 4 = r 0 4 ∧ y.2 0 8 = K 0 8 ∧ RK (y.2 1) (zo_srv S f) ∧ y.2 3 = r 3 ∧ nI (zo_cost S f) = y.1 := by
          unfold fX9_serve
          simp (disch := omega) only [li0, li1, li2, li3, li4, li5, li6, li7, li8, li9, li10, li12, li13, li14, li15, li19, li20, li31, li33, li40, li42, li44, li48, li57, li60, li99, li100, li126, li150, li176, li177, li187, li197, li207, li208, li223, li304, li608, li1520, li1824, nI_add, pk_mul, nI_clamp, nI_leI, nI_ltI, nI_eq, zn_inb, zn_gd, zn_bs, zn_isb, not_true_eq_false, not_false_eq_true, ↓reduceIte, pk_div, pk_sub, zn_rem20, zn_rem2, zn_m1, zn_eqw, zn_weq, zn_weq2, zn_wlt0, zn_wltn, zn_win, zn_wcl, zn_wadd, Nat.not_lt_zero, Nat.one_ne_zero, Nat.zero_ne_one, Nat.le_refl, Nat.zero_le, zn_sel_r, zn_sel_l, e3, e5, e7, er, ef]
          exact ⟨_, rfl, rt, rfl, r8, hyb, rfl, rfl⟩
        exact ⟨_, _, z2, q.2, y, ex, Or.inl ⟨_, rfl, rfl⟩, (fun E hE => by cases hE), ek, y0, (fun u hu => by cases hu; exact ev.trans y1), ZI.gen2 hH' hB hx2 yk (g1.mono (by omega) (by omega)) (a4) e33 e36 e37 y4 y8 y3 rfl rfl rfl⟩
    · rw [if_neg c1] at e4 e5
      have ex : fX8_serve C M (nI f) = some (.inl "java/lang/IllegalStateException", M, C) := by
        unfold fX8_serve
        simp (disch := omega) only [li0, li1, li2, li3, li4, li5, li6, li7, li8, li9, li10, li12, li13, li14, li15, li19, li20, li31, li33, li40, li42, li44, li48, li57, li60, li99, li100, li126, li150, li176, li177, li187, li197, li207, li208, li223, li304, li608, li1520, li1824, nI_add, pk_mul, nI_clamp, nI_leI, nI_ltI, nI_eq, zn_inb, zn_gd, zn_bs, zn_isb, not_true_eq_false, not_false_eq_true, ↓reduceIte, pk_div, pk_sub, zn_rem20, zn_rem2, zn_m1, zn_eqw, zn_weq, zn_weq2, zn_wlt0, zn_wltn, zn_win, zn_wcl, zn_wadd, Nat.not_lt_zero, Nat.one_ne_zero, Nat.zero_ne_one, Nat.le_refl, Nat.zero_le, zn_sel_r, zn_sel_l, e1, e4]
      obtain ⟨y, ek, y0, y4, y8, yk, y3⟩ : ∃ y : Int32 × Mem, fX9_serve K (nI f) = some y ∧ y.2 0 0 = nI (1 + 1) ∧ y.2 0 4 = K 0 4 ∧ y.2 0 8 = K 0 8 ∧ RK (y.2 1) S ∧ y.2 3 = K 3 := by
        unfold fX9_serve
        simp (disch := omega) only [li0, li1, li2, li3, li4, li5, li6, li7, li8, li9, li10, li12, li13, li14, li15, li19, li20, li31, li33, li40, li42, li44, li48, li57, li60, li99, li100, li126, li150, li176, li177, li187, li197, li207, li208, li223, li304, li608, li1520, li1824, nI_add, pk_mul, nI_clamp, nI_leI, nI_ltI, nI_eq, zn_inb, zn_gd, zn_bs, zn_isb, not_true_eq_false, not_false_eq_true, ↓reduceIte, pk_div, pk_sub, zn_rem20, zn_rem2, zn_m1, zn_eqw, zn_weq, zn_weq2, zn_wlt0, zn_wltn, zn_win, zn_wcl, zn_wadd, Nat.not_lt_zero, Nat.one_ne_zero, Nat.zero_ne_one, Nat.le_refl, Nat.zero_le, zn_sel_r, zn_sel_l, fX9_fails, e3, e5, fX9_serve_B34]
        exact ⟨_, rfl, rfl, rfl, rfl, hK, rfl⟩
      exact ⟨_, _, M, C, y, ex, Or.inr ⟨1, _, rfl, rfl, rfl⟩, fun _ _ => rfl, ek, y0, (fun u hu => by cases hu), ZI.gen hn hH hB hX yk gn h99 rfl rfl rfl y4 y8 y3 rfl rfl rfl⟩
  · have e3 := e2 (sr K 0 (upd (K 0) 0 (nI 0))) hK0
    have ex : fX8_serve C M x1 = some (.inl "java/lang/IndexOutOfBoundsException", M, C) := by
      unfold fX8_serve
      simp (disch := omega) only [li0, li1, li2, li3, li4, li5, li6, li7, li8, li9, li10, li12, li13, li14, li15, li19, li20, li31, li33, li40, li42, li44, li48, li57, li60, li99, li100, li126, li150, li176, li177, li187, li197, li207, li208, li223, li304, li608, li1520, li1824, nI_add, pk_mul, nI_clamp, nI_leI, nI_ltI, nI_eq, zn_inb, zn_gd, zn_bs, zn_isb, not_true_eq_false, not_false_eq_true, ↓reduceIte, pk_div, pk_sub, zn_rem20, zn_rem2, zn_m1, zn_eqw, zn_weq, zn_weq2, zn_wlt0, zn_wltn, zn_win, zn_wcl, zn_wadd, Nat.not_lt_zero, Nat.one_ne_zero, Nat.zero_ne_one, Nat.le_refl, Nat.zero_le, zn_sel_r, zn_sel_l, e1]
    obtain ⟨y, ek, y0, y4, y8, yk, y3⟩ : ∃ y : Int32 × Mem, fX9_serve K x1 = some y ∧ y.2 0 0 = nI (0 + 1) ∧ y.2 0 4 = K 0 4 ∧ y.2 0 8 = K 0 8 ∧ RK (y.2 1) S ∧ y.2 3 = K 3 := by
      unfold fX9_serve
      simp (disch := omega) only [li0, li1, li2, li3, li4, li5, li6, li7, li8, li9, li10, li12, li13, li14, li15, li19, li20, li31, li33, li40, li42, li44, li48, li57, li60, li99, li100, li126, li150, li176, li177, li187, li197, li207, li208, li223, li304, li608, li1520, li1824, nI_add, pk_mul, nI_clamp, nI_leI, nI_ltI, nI_eq, zn_inb, zn_gd, zn_bs, zn_isb, not_true_eq_false, not_false_eq_true, ↓reduceIte, pk_div, pk_sub, zn_rem20, zn_rem2, zn_m1, zn_eqw, zn_weq, zn_weq2, zn_wlt0, zn_wltn, zn_win, zn_wcl, zn_wadd, Nat.not_lt_zero, Nat.one_ne_zero, Nat.zero_ne_one, Nat.le_refl, Nat.zero_le, zn_sel_r, zn_sel_l, fX9_fails, e3, fX9_serve_B34]
      exact ⟨_, rfl, rfl, rfl, rfl, hK, rfl⟩
    exact ⟨_, _, M, C, y, ex, Or.inr ⟨0, _, rfl, rfl, rfl⟩, fun _ _ => rfl, ek, y0, (fun u hu => by cases hu), ZI.gen hn hH hB hX yk gn h99 rfl rfl rfl y4 y8 y3 rfl rfl rfl⟩
theorem zt_serveAll : St_serveAll ZI := by
  intro n C M K  hn h
  obtain ⟨S, T, hc, ⟨hX, hK, g, h99⟩, hH, hB⟩ := id h
  have hc12 := g.c12
  have h8 := g.o8
  have lo := g.lo
  have hw12 := g.1.2.1
  have hT : RT (ofs 2 M) S := hX.t
  have hK0 : RK ((sr K 0 (upd (K 0) 0 (nI 0))) 1) S := hK
  have gn := g.nx hn
  obtain ⟨q, r, es, er, hH', r0⟩ := ZI.save (P := (pk [33, 34, 35, 1, 2, 3, 4, 5, 6, 7, 8, 9, 10, 11, 12, 13, 14, 15, 16] M)) (K0 := (sr K 0 (upd (K 0) 0 (nI 0)))) hn ⟨hX, hK, g, h99⟩ hH (hX.of rfl rfl rfl rfl rfl rfl rfl rfl rfl rfl rfl rfl rfl rfl rfl ) rfl rfl rfl rfl
  have rt : r 0 0 = nI 0 := (r0 0 (by omega)).trans rfl
  have r8 : r 0 8 = K 0 8 := (r0 8 (by omega)).trans rfl
  have hKR : RK ((sr (sr K 0 (r 0)) 3 (r 3)) 1) S := hK
  have e4 := zr_win hX (by omega)
  have e5 := zk_hasWindow (K := (sr K 0 (upd (K 0) 0 (nI 0)))) hK0 (by omega)
  by_cases c1 : S 1 1 = 0
  · rw [if_pos c1] at e4 e5
    obtain ⟨zb, eb, hzb, ezb⟩ := zx_serveEach (M := ofs 1 (sr M 33 (q.1 0))) (S := S) (u := 192 * n) (hX.of rfl rfl rfl rfl rfl rfl rfl rfl rfl rfl rfl rfl rfl rfl rfl ) g h99 c1 (by omega)
    obtain ⟨yb, ef, hyb⟩ := zk_servesAll (K := (sr (sr K 0 (r 0)) 3 (r 3))) (S := S) (u := 192 * n) hKR g h99 c1 (by omega)
    obtain ⟨g1, a4, a2⟩ := zo_all_r c1 h99 g 8 (by omega)
    obtain ⟨z1, z2, ex, hx2, e33, e36, e37⟩ : ∃ z1 z2, fX8_serveAll C M  = some (.inr z1, z2, q.2) ∧ RX (ofs 1 z2) ((zo_all 8 S).1) ∧ z2 33 = q.1 0 ∧ z2 36 = M 36 ∧ z2 37 = M 37 ∧ z1 = nI (zo_all 8 S).2 := by
      unfold fX8_serveAll
      simp (disch := omega) only [li0, li1, li2, li3, li4, li5, li6, li7, li8, li9, li10, li12, li13, li14, li15, li19, li20, li31, li33, li40, li42, li44, li48, li57, li60, li99, li100, li126, li150, li176, li177, li187, li197, li207, li208, li223, li304, li608, li1520, li1824, nI_add, pk_mul, nI_clamp, nI_leI, nI_ltI, nI_eq, zn_inb, zn_gd, zn_bs, zn_isb, not_true_eq_false, not_false_eq_true, ↓reduceIte, pk_div, pk_sub, zn_rem20, zn_rem2, zn_m1, zn_eqw, zn_weq, zn_weq2, zn_wlt0, zn_wltn, zn_win, zn_wcl, zn_wadd, Nat.not_lt_zero, Nat.one_ne_zero, Nat.zero_ne_one, Nat.le_refl, Nat.zero_le, zn_sel_r, zn_sel_l, e4, es, eb, inrs, Option.map_some]
      exact ⟨_, _, rfl, hzb.of rfl rfl (congrFun ezb 2).symm rfl rfl rfl rfl rfl rfl (congrFun ezb 10).symm (congrFun ezb 11).symm (congrFun ezb 12).symm rfl rfl rfl, rfl, rfl, rfl, rfl⟩
    obtain ⟨e37, ev⟩ := e37
    obtain ⟨y, ek, y0, y4, y8, yk, y3, y1⟩ : ∃ y : Int32 × Mem, fX9_serveAll K  = some y ∧ y.2 0 0 = nI 0 ∧ y.2 0 4 = r 0 4 ∧ y.2 0 8 = K 0 8 ∧ RK (y.2 1) ((zo_all 8 S).1) ∧ y.2 3 = r 3 ∧ nI (zo_all 8 S).2 = y.1 := by
      unfold fX9_serveAll
      simp (disch := omega) only [li0, li1, li2, li3, li4, li5, li6, li7, li8, li9, li10, li12, li13, li14, li15, li19, li20, li31, li33, li40, li42, li44, li48, li57, li60, li99, li100, li126, li150, li176, li177, li187, li197, li207, li208, li223, li304, li608, li1520, li1824, nI_add, pk_mul, nI_clamp, nI_leI, nI_ltI, nI_eq, zn_inb, zn_gd, zn_bs, zn_isb, not_true_eq_false, not_false_eq_true, ↓reduceIte, pk_div, pk_sub, zn_rem20, zn_rem2, zn_m1, zn_eqw, zn_weq, zn_weq2, zn_wlt0, zn_wltn, zn_win, zn_wcl, zn_wadd, Nat.not_lt_zero, Nat.one_ne_zero, Nat.zero_ne_one, Nat.le_refl, Nat.zero_le, zn_sel_r, zn_sel_l, e5, er, ef]
      exact ⟨_, rfl, rt, rfl, r8, hyb, rfl, rfl⟩
    exact ⟨_, _, z2, q.2, y, ex, Or.inl ⟨_, rfl, rfl⟩, (fun E hE => by cases hE), ek, y0, (fun u hu => by cases hu; exact ev.trans y1), ZI.gen2 hH' hB hx2 yk (g1.mono (by omega) (by omega)) (a4) e33 e36 e37 y4 y8 y3 rfl rfl rfl⟩
  · rw [if_neg c1] at e4 e5
    have ex : fX8_serveAll C M  = some (.inl "java/lang/IllegalStateException", M, C) := by
      unfold fX8_serveAll
      simp (disch := omega) only [li0, li1, li2, li3, li4, li5, li6, li7, li8, li9, li10, li12, li13, li14, li15, li19, li20, li31, li33, li40, li42, li44, li48, li57, li60, li99, li100, li126, li150, li176, li177, li187, li197, li207, li208, li223, li304, li608, li1520, li1824, nI_add, pk_mul, nI_clamp, nI_leI, nI_ltI, nI_eq, zn_inb, zn_gd, zn_bs, zn_isb, not_true_eq_false, not_false_eq_true, ↓reduceIte, pk_div, pk_sub, zn_rem20, zn_rem2, zn_m1, zn_eqw, zn_weq, zn_weq2, zn_wlt0, zn_wltn, zn_win, zn_wcl, zn_wadd, Nat.not_lt_zero, Nat.one_ne_zero, Nat.zero_ne_one, Nat.le_refl, Nat.zero_le, zn_sel_r, zn_sel_l, e4]
    obtain ⟨y, ek, y0, y4, y8, yk, y3⟩ : ∃ y : Int32 × Mem, fX9_serveAll K  = some y ∧ y.2 0 0 = nI (0 + 1) ∧ y.2 0 4 = K 0 4 ∧ y.2 0 8 = K 0 8 ∧ RK (y.2 1) S ∧ y.2 3 = K 3 := by
      unfold fX9_serveAll
      simp (disch := omega) only [li0, li1, li2, li3, li4, li5, li6, li7, li8, li9, li10, li12, li13, li14, li15, li19, li20, li31, li33, li40, li42, li44, li48, li57, li60, li99, li100, li126, li150, li176, li177, li187, li197, li207, li208, li223, li304, li608, li1520, li1824, nI_add, pk_mul, nI_clamp, nI_leI, nI_ltI, nI_eq, zn_inb, zn_gd, zn_bs, zn_isb, not_true_eq_false, not_false_eq_true, ↓reduceIte, pk_div, pk_sub, zn_rem20, zn_rem2, zn_m1, zn_eqw, zn_weq, zn_weq2, zn_wlt0, zn_wltn, zn_win, zn_wcl, zn_wadd, Nat.not_lt_zero, Nat.one_ne_zero, Nat.zero_ne_one, Nat.le_refl, Nat.zero_le, zn_sel_r, zn_sel_l, fX9_fails, e5]
      exact ⟨_, rfl, rfl, rfl, rfl, hK, rfl⟩
    exact ⟨_, _, M, C, y, ex, Or.inr ⟨0, _, rfl, rfl, rfl⟩, fun _ _ => rfl, ek, y0, (fun u hu => by cases hu), ZI.gen hn hH hB hX yk gn h99 rfl rfl rfl y4 y8 y3 rfl rfl rfl⟩
theorem zt_turnRule : St_turnRule ZI := by
  intro n C M K  hn h
  obtain ⟨S, T, hc, ⟨hX, hK, g, h99⟩, hH, hB⟩ := id h
  have hc12 := g.c12
  have h8 := g.o8
  have lo := g.lo
  have hw12 := g.1.2.1
  have hT : RT (ofs 2 M) S := hX.t
  have hK0 : RK ((sr K 0 (upd (K 0) 0 (nI 0))) 1) S := hK
  have gn := g.nx hn
  obtain ⟨q, r, es, er, hH', r0⟩ := ZI.save (P := (pk [33, 34, 35, 1, 2, 3, 4, 5, 6, 7, 8, 9, 10, 11, 12, 13, 14, 15, 16] M)) (K0 := (sr K 0 (upd (K 0) 0 (nI 0)))) hn ⟨hX, hK, g, h99⟩ hH (hX.of rfl rfl rfl rfl rfl rfl rfl rfl rfl rfl rfl rfl rfl rfl rfl ) rfl rfl rfl rfl
  have rt : r 0 0 = nI 0 := (r0 0 (by omega)).trans rfl
  have r8 : r 0 8 = K 0 8 := (r0 8 (by omega)).trans rfl
  have hKR : RK ((sr (sr K 0 (r 0)) 3 (r 3)) 1) S := hK
  have m1 : M 7 1 = nI (S 6 1) := hX.2.1.2.1
  have m2 := hK.2.2.2.2.1.2.1
  have l2 := lo.2.1
  have key : ∀ v, v < 2 → S 6 1 = 1 - v → ∃ (v : Int32) (z2 : Mem) (z3 : Nat → Option Mem) (y : Int32 × Mem), fX8_turnRule C M = some (.inr v, z2, z3) ∧ fX9_turnRule K = some y ∧ v = y.1 ∧ ZI (n + 1) z3 z2 (sr (sr (sr K 0 (y.2 0)) 1 (y.2 1)) 3 (y.2 3)) := by
    intro v hv e
    rw [e] at m1 m2
    have s3 : nI 1 - nI (1 - v) = nI v := by rw [pk_sub (by omega)]; congr 1; omega
    obtain ⟨z2, ex, hx2, e33, e36, e37⟩ : ∃ z2, fX8_turnRule C M = some (.inr (nI v), z2, q.2) ∧ RX (ofs 1 z2) (sw S 6 (uw (S 6) 1 v)) ∧ z2 33 = q.1 0 ∧ z2 36 = M 36 ∧ z2 37 = M 37 := by
      unfold fX8_turnRule
      rcases (show v = 0 ∨ v = 1 by omega) with rfl | rfl
      · simp (disch := omega) only [li0, li1, li2, li3, li4, li5, li6, li7, li8, li9, li10, li12, li13, li14, li15, li19, li20, li31, li33, li40, li42, li44, li48, li57, li60, li99, li100, li126, li150, li176, li177, li187, li197, li207, li208, li223, li304, li608, li1520, li1824, nI_add, pk_mul, nI_clamp, nI_leI, nI_ltI, nI_eq, zn_inb, zn_gd, zn_bs, zn_isb, not_true_eq_false, not_false_eq_true, ↓reduceIte, pk_div, pk_sub, zn_rem20, zn_rem2, zn_m1, zn_eqw, zn_weq, zn_weq2, zn_wlt0, zn_wltn, zn_win, zn_wcl, zn_wadd, Nat.not_lt_zero, Nat.one_ne_zero, Nat.zero_ne_one, Nat.le_refl, Nat.zero_le, zn_sel_r, zn_sel_l, m1, es, inrs, Option.map_some]
        exact ⟨_, rfl, ⟨hX.1, ⟨hX.2.1.1, rfl, hX.2.1.2.2.1, hX.2.1.2.2.2.1, hX.2.1.2.2.2.2⟩, hX.r7, hX.r8, hX.r10, hX.r11, hX.r12, hX.r13, hX.r15⟩, rfl, rfl, rfl⟩
      · simp (disch := omega) only [li0, li1, li2, li3, li4, li5, li6, li7, li8, li9, li10, li12, li13, li14, li15, li19, li20, li31, li33, li40, li42, li44, li48, li57, li60, li99, li100, li126, li150, li176, li177, li187, li197, li207, li208, li223, li304, li608, li1520, li1824, nI_add, pk_mul, nI_clamp, nI_leI, nI_ltI, nI_eq, zn_inb, zn_gd, zn_bs, zn_isb, not_true_eq_false, not_false_eq_true, ↓reduceIte, pk_div, pk_sub, zn_rem20, zn_rem2, zn_m1, zn_eqw, zn_weq, zn_weq2, zn_wlt0, zn_wltn, zn_win, zn_wcl, zn_wadd, Nat.not_lt_zero, Nat.one_ne_zero, Nat.zero_ne_one, Nat.le_refl, Nat.zero_le, zn_sel_r, zn_sel_l, m1, es, inrs, Option.map_some, Nat.sub_self]
        exact ⟨_, rfl, ⟨hX.1, ⟨hX.2.1.1, rfl, hX.2.1.2.2.1, hX.2.1.2.2.2.1, hX.2.1.2.2.2.2⟩, hX.r7, hX.r8, hX.r10, hX.r11, hX.r12, hX.r13, hX.r15⟩, rfl, rfl, rfl⟩
    obtain ⟨y, ek, y4, y8, yk, y3, y1⟩ : ∃ y : Int32 × Mem, fX9_turnRule K = some y ∧ y.2 0 4 = r 0 4 ∧ y.2 0 8 = K 0 8 ∧ RK (y.2 1) (sw S 6 (uw (S 6) 1 v)) ∧ y.2 3 = r 3 ∧ nI v = y.1 := by
      have u3 : upd (K 1) 3 (nI v) 3 = nI v := up_s _ _ _
      unfold fX9_turnRule
      rcases (show v = 0 ∨ v = 1 by omega) with rfl | rfl
      · simp (disch := omega) only [li0, li1, li3, er, zn_bs, zn_inb, zn_gd, nI_clamp, m2, s3, u3, nI_eq, fX9_turnRule_B38, Nat.zero_ne_one, not_false_eq_true, ↓reduceIte, zn_isb]
        exact ⟨_, rfl, rfl, r8, hK.u3 0, rfl, rfl⟩
      · simp (disch := omega) only [li0, li1, li3, er, zn_bs, zn_inb, zn_gd, nI_clamp, m2, s3, u3, nI_eq, fX9_turnRule_B38, not_true_eq_false, ↓reduceIte, zn_isb]
        exact ⟨_, rfl, rfl, r8, hK.u3 1, rfl, rfl⟩
    exact ⟨_, z2, q.2, y, ex, ek, y1, ZI.gen2 hH' hB hx2 yk (gn.rule hv) h99 e33 e36 e37 y4 y8 y3 rfl rfl rfl⟩
  rcases (show S 6 1 = 0 ∨ S 6 1 = 1 by omega) with e | e
  · exact key 1 (by omega) (by omega)
  · exact key 0 (by omega) (by omega)
theorem zt_append : St_append ZI := by
  intro n C M K x1 hn h
  obtain ⟨S, T, hc, hS, hH, len, l60, l1, l2, l3⟩ := id h
  have keep : ∀ y : Mem, y 0 4 = K 0 4 → y 0 8 = K 0 8 → y 6 = K 6 → ZI (n + 1) C (sr (sr M 36 (M 36)) 37 (M 37)) (sr (sr K 0 (y 0)) 6 (y 6)) := by
    intro y y4 y8 y6
    refine ⟨S, T, hc, ⟨hS.1.of rfl rfl rfl rfl rfl rfl rfl rfl rfl rfl rfl rfl rfl rfl rfl , (hS.up hn).2⟩, ?_, len, l60, l1, y8.trans l2, fun i hi => ?_⟩
    · show ZH (n + 1) C (M 33) (y 0 4) (K 3) (K 4) (K 5) T hc
      rw [y4]
      exact hH.up hn
    · obtain ⟨c, c1, c2, c3, c4⟩ := l3 i hi
      exact ⟨c, c1, c2, c3, (congrFun y6 i).trans c4⟩
  rcases zr_in (lo := 33) (hi := 126) (by omega) (by omega) (by omega) x1 with ⟨v, v0, v9, rfl, e3⟩ | ⟨e3, e4⟩
  · have v1 : ¬ v < 33 := by omega
    by_cases c : len = 60
    · have c1 : ¬ len < 60 := by omega
      have ex : fX8_append M (nI v) = some (.inl "java/lang/IllegalStateException", M) := by
        unfold fX8_append
        simp (disch := omega) only [li0, li1, li2, li3, li4, li5, li6, li7, li8, li9, li10, li12, li13, li14, li15, li19, li20, li31, li33, li40, li42, li44, li48, li57, li60, li99, li100, li126, li150, li176, li177, li187, li197, li207, li208, li223, li304, li608, li1520, li1824, nI_add, pk_mul, nI_clamp, nI_leI, nI_ltI, nI_eq, zn_inb, zn_gd, zn_bs, zn_isb, not_true_eq_false, not_false_eq_true, ↓reduceIte, pk_div, pk_sub, zn_rem20, zn_rem2, zn_m1, zn_eqw, zn_weq, zn_weq2, zn_wlt0, zn_wltn, zn_win, zn_wcl, zn_wadd, Nat.not_lt_zero, Nat.one_ne_zero, Nat.zero_ne_one, Nat.le_refl, Nat.zero_le, zn_sel_r, zn_sel_l, v1, v9, l1, c1]
      obtain ⟨y, ek, y0, y4, y8, y6⟩ : ∃ y : Int32 × Mem, fX9_append K (nI v) = some y ∧ y.2 0 0 = nI (1 + 1) ∧ y.2 0 4 = K 0 4 ∧ y.2 0 8 = K 0 8 ∧ y.2 6 = K 6 := by
        unfold fX9_append
        simp (disch := omega) only [li0, li1, li2, li3, li4, li5, li6, li7, li8, li9, li10, li12, li13, li14, li15, li19, li20, li31, li33, li40, li42, li44, li48, li57, li60, li99, li100, li126, li150, li176, li177, li187, li197, li207, li208, li223, li304, li608, li1520, li1824, nI_add, pk_mul, nI_clamp, nI_leI, nI_ltI, nI_eq, zn_inb, zn_gd, zn_bs, zn_isb, not_true_eq_false, not_false_eq_true, ↓reduceIte, pk_div, pk_sub, zn_rem20, zn_rem2, zn_m1, zn_eqw, zn_weq, zn_weq2, zn_wlt0, zn_wltn, zn_win, zn_wcl, zn_wadd, Nat.not_lt_zero, Nat.one_ne_zero, Nat.zero_ne_one, Nat.le_refl, Nat.zero_le, zn_sel_r, zn_sel_l, e3, l2, eq_true c, fX9_fails]
        exact ⟨_, rfl, rfl, rfl, l2, rfl⟩
      exact ⟨_, _, M, y, ex, Or.inr ⟨1, _, rfl, rfl, rfl⟩, ek, y0, (fun u hu => by cases hu), keep y.2 y4 y8 y6⟩
    · have c1 : len < 60 := by omega
      have ex : fX8_append M (nI v) = some (.inr (nI (len + 1)), sr (sr M 36 (upd (M 36) 0 (nI (len + 1)))) 37 (upd (M 37) len (nI v))) := by
        unfold fX8_append
        simp (disch := omega) only [li0, li1, li2, li3, li4, li5, li6, li7, li8, li9, li10, li12, li13, li14, li15, li19, li20, li31, li33, li40, li42, li44, li48, li57, li60, li99, li100, li126, li150, li176, li177, li187, li197, li207, li208, li223, li304, li608, li1520, li1824, nI_add, pk_mul, nI_clamp, nI_leI, nI_ltI, nI_eq, zn_inb, zn_gd, zn_bs, zn_isb, not_true_eq_false, not_false_eq_true, ↓reduceIte, pk_div, pk_sub, zn_rem20, zn_rem2, zn_m1, zn_eqw, zn_weq, zn_weq2, zn_wlt0, zn_wltn, zn_win, zn_wcl, zn_wadd, Nat.not_lt_zero, Nat.one_ne_zero, Nat.zero_ne_one, Nat.le_refl, Nat.zero_le, zn_sel_r, zn_sel_l, v1, v9, l1, c1]
      obtain ⟨y, ek, y0, y4, y8, y6, y1⟩ : ∃ y : Int32 × Mem, fX9_append K (nI v) = some y ∧ y.2 0 0 = nI 0 ∧ y.2 0 4 = K 0 4 ∧ y.2 0 8 = nI (len + 1) ∧ y.2 6 = upd (K 6) len (nI v) ∧ nI (len + 1) = y.1 := by
        unfold fX9_append
        simp (disch := omega) only [li0, li1, li2, li3, li4, li5, li6, li7, li8, li9, li10, li12, li13, li14, li15, li19, li20, li31, li33, li40, li42, li44, li48, li57, li60, li99, li100, li126, li150, li176, li177, li187, li197, li207, li208, li223, li304, li608, li1520, li1824, nI_add, pk_mul, nI_clamp, nI_leI, nI_ltI, nI_eq, zn_inb, zn_gd, zn_bs, zn_isb, not_true_eq_false, not_false_eq_true, ↓reduceIte, pk_div, pk_sub, zn_rem20, zn_rem2, zn_m1, zn_eqw, zn_weq, zn_weq2, zn_wlt0, zn_wltn, zn_win, zn_wcl, zn_wadd, Nat.not_lt_zero, Nat.one_ne_zero, Nat.zero_ne_one, Nat.le_refl, Nat.zero_le, zn_sel_r, zn_sel_l, e3, l2, c]
        exact ⟨_, rfl, rfl, rfl, rfl, rfl, rfl⟩
      refine ⟨_, _, _, y, ex, Or.inl ⟨_, rfl, rfl⟩, ek, y0, (fun u hu => by cases hu; exact y1), S, T, hc, ⟨hS.1.of rfl rfl rfl rfl rfl rfl rfl rfl rfl rfl rfl rfl rfl rfl rfl , (hS.up hn).2⟩, ?_, len + 1, by omega, rfl, y8, fun i hi => ?_⟩
      · show ZH (n + 1) C (M 33) (y.2 0 4) (K 3) (K 4) (K 5) T hc
        rw [y4]
        exact hH.up hn
      · show ∃ c, 33 ≤ c ∧ c ≤ 126 ∧ upd (M 37) len (nI v) i = nI c ∧ y.2 6 i = nI c
        rw [y6]
        by_cases q : i = len
        · rw [q, up_s, up_s]
          exact ⟨v, v0, v9, rfl, rfl⟩
        · rw [up_n q, up_n q]
          exact l3 i (by omega)
  · have q1 : ∀ {β : Type} (a b : β), (if x1 < nI 33 then a else if x1 ≤ nI 126 then b else a) = a := by
      intro β a b
      rcases e4 with e4 | e4
      · exact if_pos e4
      · by_cases z : x1 < nI 33
        · exact if_pos z
        · rw [if_neg z, if_neg (fun z2 => Int32.lt_irrefl (Int32.lt_of_le_of_lt z2 e4))]
    have ex : fX8_append M x1 = some (.inl "java/lang/IllegalArgumentException", sr (sr M 36 (M 36)) 37 (M 37)) := by
      unfold fX8_append fX8_append_B12
      simp (disch := omega) only [li0, li1, li2, li3, li4, li5, li6, li7, li8, li9, li10, li12, li13, li14, li15, li19, li20, li31, li33, li40, li42, li44, li48, li57, li60, li99, li100, li126, li150, li176, li177, li187, li197, li207, li208, li223, li304, li608, li1520, li1824, nI_add, pk_mul, nI_clamp, nI_leI, nI_ltI, nI_eq, zn_inb, zn_gd, zn_bs, zn_isb, not_true_eq_false, not_false_eq_true, ↓reduceIte, pk_div, pk_sub, zn_rem20, zn_rem2, zn_m1, zn_eqw, zn_weq, zn_weq2, zn_wlt0, zn_wltn, zn_win, zn_wcl, zn_wadd, Nat.not_lt_zero, Nat.one_ne_zero, Nat.zero_ne_one, Nat.le_refl, Nat.zero_le, zn_sel_r, zn_sel_l, q1]
    obtain ⟨y, ek, y0, y4, y8, y6⟩ : ∃ y : Int32 × Mem, fX9_append K x1 = some y ∧ y.2 0 0 = nI (0 + 1) ∧ y.2 0 4 = K 0 4 ∧ y.2 0 8 = K 0 8 ∧ y.2 6 = K 6 := by
      unfold fX9_append
      simp (disch := omega) only [li0, li1, li2, li3, li4, li5, li6, li7, li8, li9, li10, li12, li13, li14, li15, li19, li20, li31, li33, li40, li42, li44, li48, li57, li60, li99, li100, li126, li150, li176, li177, li187, li197, li207, li208, li223, li304, li608, li1520, li1824, nI_add, pk_mul, nI_clamp, nI_leI, nI_ltI, nI_eq, zn_inb, zn_gd, zn_bs, zn_isb, not_true_eq_false, not_false_eq_true, ↓reduceIte, pk_div, pk_sub, zn_rem20, zn_rem2, zn_m1, zn_eqw, zn_weq, zn_weq2, zn_wlt0, zn_wltn, zn_win, zn_wcl, zn_wadd, Nat.not_lt_zero, Nat.one_ne_zero, Nat.zero_ne_one, Nat.le_refl, Nat.zero_le, zn_sel_r, zn_sel_l, e3, fX9_fails]
      exact ⟨_, rfl, rfl, rfl, rfl, rfl⟩
    exact ⟨_, _, _, y, ex, Or.inr ⟨0, _, rfl, rfl, rfl⟩, ek, y0, (fun u hu => by cases hu), keep y.2 y4 y8 y6⟩
