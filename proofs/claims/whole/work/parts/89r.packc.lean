set_option maxHeartbeats 400000
/-! packing: the calls -/
theorem GX.pack {u : Nat} {S : SM} {pl : Nat → Nat} (g : GX u S) (h : GT (zy_P S pl)) : GX u (zy_P S pl) := ⟨h, g.2⟩
theorem zy_mvd_le (S : SM) (pl : Nat → Nat) (n : Nat) : zy_mvd S pl n ≤ n := fb_ct_le _ _
section
variable {n : Nat} {C : Nat → Option Mem} {M K : Mem} {S : SM}
theorem zx_packable {u : Nat} (hX : RX (ofs 1 M) S) (g : GX u S) (c1 : S 1 1 = 0) : ∃ y : Nat → Int32, (zy_all S = none ∧ fX8_requirePackable M = some (.inl "java/lang/IllegalStateException", sr M 40 y)) ∨ (∃ pl, zy_all S = some pl ∧ fX8_requirePackable M = some (.inr (), sr M 40 y) ∧ ∀ f, f < S 1 0 → y f = nI (pl f)) := by
  have e4 := zr_win hX (by omega)
  rw [if_pos c1] at e4
  have hT : RT (ofs 2 M) S := hX.t
  have hP : RT (pk [2, 3, 4, 5, 6, 40] M) S := ⟨hT.1, hT.2.1, hT.2.2.1, hT.2.2.2.1, hT.2.2.2.2.1, hT.2.2.2.2.2⟩
  obtain ⟨b, zf, ef, hzf⟩ := zx_findPacked hP g.1 c1
  refine ⟨zf 5, ?_⟩
  rcases hzf with ⟨q, rfl⟩ | ⟨pl, q, rfl, hpl⟩
  · left
    refine ⟨q, ?_⟩
    unfold fX8_requirePackable
    simp (disch := omega) only [li0, li1, li2, li3, li4, li5, li6, li7, li8, li9, li10, li12, li13, li14, li15, li19, li20, li31, li33, li40, li42, li44, li48, li57, li60, li99, li100, li126, li150, li176, li177, li187, li197, li207, li208, li223, li304, li608, li1520, li1824, nI_add, pk_mul, nI_clamp, nI_leI, nI_ltI, nI_eq, zn_inb, zn_gd, zn_bs, zn_isb, not_true_eq_false, not_false_eq_true, ↓reduceIte, pk_div, pk_sub, zn_rem20, zn_rem2, zn_m1, zn_eqw, zn_weq, zn_weq2, zn_wlt0, zn_wltn, zn_win, zn_wcl, zn_wadd, Nat.not_lt_zero, Nat.one_ne_zero, Nat.zero_ne_one, Nat.le_refl, Nat.zero_le, zn_sel_r, zn_sel_l, e4, ef]
  · right
    refine ⟨pl, q, ?_, hpl⟩
    unfold fX8_requirePackable
    simp (disch := omega) only [li0, li1, li2, li3, li4, li5, li6, li7, li8, li9, li10, li12, li13, li14, li15, li19, li20, li31, li33, li40, li42, li44, li48, li57, li60, li99, li100, li126, li150, li176, li177, li187, li197, li207, li208, li223, li304, li608, li1520, li1824, nI_add, pk_mul, nI_clamp, nI_leI, nI_ltI, nI_eq, zn_inb, zn_gd, zn_bs, zn_isb, not_true_eq_false, not_false_eq_true, ↓reduceIte, pk_div, pk_sub, zn_rem20, zn_rem2, zn_m1, zn_eqw, zn_weq, zn_weq2, zn_wlt0, zn_wltn, zn_win, zn_wcl, zn_wadd, Nat.not_lt_zero, Nat.one_ne_zero, Nat.zero_ne_one, Nat.le_refl, Nat.zero_le, zn_sel_r, zn_sel_l, e4, ef]
theorem zx_packableNo (hX : RX (ofs 1 M) S) (hw : S 1 1 ≤ 12) (c1 : ¬ S 1 1 = 0) : fX8_requirePackable M = some (.inl "java/lang/IllegalStateException", M) := by
  have e4 := zr_win hX hw
  rw [if_neg c1] at e4
  unfold fX8_requirePackable
  simp (disch := omega) only [li0, li1, li2, li3, li4, li5, li6, li7, li8, li9, li10, li12, li13, li14, li15, li19, li20, li31, li33, li40, li42, li44, li48, li57, li60, li99, li100, li126, li150, li176, li177, li187, li197, li207, li208, li223, li304, li608, li1520, li1824, nI_add, pk_mul, nI_clamp, nI_leI, nI_ltI, nI_eq, zn_inb, zn_gd, zn_bs, zn_isb, not_true_eq_false, not_false_eq_true, ↓reduceIte, pk_div, pk_sub, zn_rem20, zn_rem2, zn_m1, zn_eqw, zn_weq, zn_weq2, zn_wlt0, zn_wltn, zn_win, zn_wcl, zn_wadd, Nat.not_lt_zero, Nat.one_ne_zero, Nat.zero_ne_one, Nat.le_refl, Nat.zero_le, zn_sel_r, zn_sel_l, e4]
end
theorem zt_wouldPack : St_wouldPack ZI := by
  intro n C M K hn h
  obtain ⟨S, T, hc, ⟨hX, hK, g, h99⟩, hH, hB⟩ := id h
  have hc12 := g.c12
  have hw12 := g.1.2.1
  have hT : RT (ofs 2 M) S := hX.t
  have hK0 : RK ((sr K 0 (upd (K 0) 0 (nI 0))) 1) S := hK
  have gn := g.nx hn
  have e5 := zk_hasWindow (K := (sr K 0 (upd (K 0) 0 (nI 0)))) hK0 (by omega)
  by_cases c1 : S 1 1 = 0
  · rw [if_pos c1] at e5
    obtain ⟨⟨yv, yk⟩, ek1, hyk, hyv⟩ := zk_packsAside (K := (sr K 0 (upd (K 0) 0 (nI 0)))) hK0 g c1
    obtain ⟨zf, ⟨q, ef⟩ | ⟨pl, q, ef, hpl⟩⟩ := zx_packable hX g c1
    · have yv0 : yv = wI 0 := by
        rcases hyv with ⟨_, a⟩ | ⟨_, a, _⟩
        · exact a
        · rw [q] at a
          cases a
      subst yv0
      obtain ⟨z2, ex⟩ : ∃ z2, fX8_wouldPack M = some (.inl "java/lang/IllegalStateException", z2) := by
        unfold fX8_wouldPack
        simp (disch := omega) only [li0, li1, li2, li3, li4, li5, li6, li7, li8, li9, li10, li12, li13, li14, li15, li19, li20, li31, li33, li40, li42, li44, li48, li57, li60, li99, li100, li126, li150, li176, li177, li187, li197, li207, li208, li223, li304, li608, li1520, li1824, nI_add, pk_mul, nI_clamp, nI_leI, nI_ltI, nI_eq, zn_inb, zn_gd, zn_bs, zn_isb, not_true_eq_false, not_false_eq_true, ↓reduceIte, pk_div, pk_sub, zn_rem20, zn_rem2, zn_m1, zn_eqw, zn_weq, zn_weq2, zn_wlt0, zn_wltn, zn_win, zn_wcl, zn_wadd, Nat.not_lt_zero, Nat.one_ne_zero, Nat.zero_ne_one, Nat.le_refl, Nat.zero_le, zn_sel_r, zn_sel_l, ef]
        exact ⟨_, rfl⟩
      obtain ⟨y, ek, y0, y4, y8, yr⟩ : ∃ y : Int32 × Mem, fX9_wouldPack K = some y ∧ y.2 0 0 = nI 1 ∧ y.2 0 4 = K 0 4 ∧ y.2 0 8 = K 0 8 ∧ RK (y.2 1) S := by
        unfold fX9_wouldPack
        simp (disch := omega) only [li0, li1, li2, li3, li4, li5, li6, li7, li8, li9, li10, li12, li13, li14, li15, li19, li20, li31, li33, li40, li42, li44, li48, li57, li60, li99, li100, li126, li150, li176, li177, li187, li197, li207, li208, li223, li304, li608, li1520, li1824, nI_add, pk_mul, nI_clamp, nI_leI, nI_ltI, nI_eq, zn_inb, zn_gd, zn_bs, zn_isb, not_true_eq_false, not_false_eq_true, ↓reduceIte, pk_div, pk_sub, zn_rem20, zn_rem2, zn_m1, zn_eqw, zn_weq, zn_weq2, zn_wlt0, zn_wltn, zn_win, zn_wcl, zn_wadd, Nat.not_lt_zero, Nat.one_ne_zero, Nat.zero_ne_one, Nat.le_refl, Nat.zero_le, zn_sel_r, zn_sel_l, fX9_fails, e5, ek1, fX9_wouldPack_B20, fX9_wouldPack_B35]
        exact ⟨_, rfl, rfl, rfl, rfl, hyk⟩
      exact ⟨_, _, z2, y, ex, Or.inr ⟨0, _, rfl, rfl, rfl⟩, ek, y0, (fun u hu => by cases hu), ZI.gen hn hH hB (hX.of rfl rfl rfl rfl rfl rfl rfl rfl rfl rfl rfl rfl rfl rfl rfl ) yr gn h99 rfl rfl rfl y4 y8 rfl rfl rfl rfl⟩
    · have yv0 : yv = nI (zy_mvd S pl (S 1 0)) := by
        rcases hyv with ⟨a, _⟩ | ⟨pl2, a, b⟩
        · rw [q] at a
          cases a
        · rw [q] at a
          cases a
          exact b
      subst yv0
      have dn := zy_done c1 g.1 q
      have ml := zy_mvd_le S pl (S 1 0)
      have pm := zo_nm1 (p := zy_mvd S pl (S 1 0)) (by omega)
      have ec := zx_countMoved (T := pk [2, 3, 4, 5, 6, 40] (sr M 40 (sr M 40 zf 40))) (S := S) (pl := pl) ⟨hT.1, hT.2.1, hT.2.2.1, hT.2.2.2.1, hT.2.2.2.2.1, hT.2.2.2.2.2⟩ g.1 (fun f hf => ⟨dn.1 f hf, hpl f hf⟩)
      obtain ⟨z2, ex⟩ : ∃ z2, fX8_wouldPack M = some (.inr (nI (zy_mvd S pl (S 1 0))), z2) := by
        unfold fX8_wouldPack
        rw [ef, zn_bs, zn_sel_r, ec, zn_bs]
        exact ⟨_, rfl⟩
      obtain ⟨y, ek, y0, y4, y8, yr, y1⟩ : ∃ y : Int32 × Mem, fX9_wouldPack K = some y ∧ y.2 0 0 = nI 0 ∧ y.2 0 4 = K 0 4 ∧ y.2 0 8 = K 0 8 ∧ RK (y.2 1) S ∧ nI (zy_mvd S pl (S 1 0)) = y.1 := by
        unfold fX9_wouldPack
        simp (disch := omega) only [li0, li1, li2, li3, li4, li5, li6, li7, li8, li9, li10, li12, li13, li14, li15, li19, li20, li31, li33, li40, li42, li44, li48, li57, li60, li99, li100, li126, li150, li176, li177, li187, li197, li207, li208, li223, li304, li608, li1520, li1824, nI_add, pk_mul, nI_clamp, nI_leI, nI_ltI, nI_eq, zn_inb, zn_gd, zn_bs, zn_isb, not_true_eq_false, not_false_eq_true, ↓reduceIte, pk_div, pk_sub, zn_rem20, zn_rem2, zn_m1, zn_eqw, zn_weq, zn_weq2, zn_wlt0, zn_wltn, zn_win, zn_wcl, zn_wadd, Nat.not_lt_zero, Nat.one_ne_zero, Nat.zero_ne_one, Nat.le_refl, Nat.zero_le, zn_sel_r, zn_sel_l, fX9_fails, e5, ek1, pm, fX9_wouldPack_B20, fX9_wouldPack_B35]
        exact ⟨_, rfl, rfl, rfl, rfl, hyk, rfl⟩
      exact ⟨_, _, z2, y, ex, Or.inl ⟨_, rfl, rfl⟩, ek, y0, (fun u hu => by cases hu; exact y1), ZI.gen hn hH hB (hX.of rfl rfl rfl rfl rfl rfl rfl rfl rfl rfl rfl rfl rfl rfl rfl ) yr gn h99 rfl rfl rfl y4 y8 rfl rfl rfl rfl⟩
  · rw [if_neg c1] at e5
    have ef := zx_packableNo hX (by omega) c1
    obtain ⟨z2, ex⟩ : ∃ z2, fX8_wouldPack M = some (.inl "java/lang/IllegalStateException", z2) := by
      unfold fX8_wouldPack
      simp (disch := omega) only [li0, li1, li2, li3, li4, li5, li6, li7, li8, li9, li10, li12, li13, li14, li15, li19, li20, li31, li33, li40, li42, li44, li48, li57, li60, li99, li100, li126, li150, li176, li177, li187, li197, li207, li208, li223, li304, li608, li1520, li1824, nI_add, pk_mul, nI_clamp, nI_leI, nI_ltI, nI_eq, zn_inb, zn_gd, zn_bs, zn_isb, not_true_eq_false, not_false_eq_true, ↓reduceIte, pk_div, pk_sub, zn_rem20, zn_rem2, zn_m1, zn_eqw, zn_weq, zn_weq2, zn_wlt0, zn_wltn, zn_win, zn_wcl, zn_wadd, Nat.not_lt_zero, Nat.one_ne_zero, Nat.zero_ne_one, Nat.le_refl, Nat.zero_le, zn_sel_r, zn_sel_l, ef]
      exact ⟨_, rfl⟩
    obtain ⟨y, ek, y0, y4, y8, yr⟩ : ∃ y : Int32 × Mem, fX9_wouldPack K = some y ∧ y.2 0 0 = nI 1 ∧ y.2 0 4 = K 0 4 ∧ y.2 0 8 = K 0 8 ∧ RK (y.2 1) S := by
      unfold fX9_wouldPack
      simp (disch := omega) only [li0, li1, li2, li3, li4, li5, li6, li7, li8, li9, li10, li12, li13, li14, li15, li19, li20, li31, li33, li40, li42, li44, li48, li57, li60, li99, li100, li126, li150, li176, li177, li187, li197, li207, li208, li223, li304, li608, li1520, li1824, nI_add, pk_mul, nI_clamp, nI_leI, nI_ltI, nI_eq, zn_inb, zn_gd, zn_bs, zn_isb, not_true_eq_false, not_false_eq_true, ↓reduceIte, pk_div, pk_sub, zn_rem20, zn_rem2, zn_m1, zn_eqw, zn_weq, zn_weq2, zn_wlt0, zn_wltn, zn_win, zn_wcl, zn_wadd, Nat.not_lt_zero, Nat.one_ne_zero, Nat.zero_ne_one, Nat.le_refl, Nat.zero_le, zn_sel_r, zn_sel_l, fX9_fails, e5, fX9_wouldPack_B20, fX9_wouldPack_B35]
      exact ⟨_, rfl, rfl, rfl, rfl, hK⟩
    exact ⟨_, _, z2, y, ex, Or.inr ⟨0, _, rfl, rfl, rfl⟩, ek, y0, (fun u hu => by cases hu), ZI.gen hn hH hB (hX.of rfl rfl rfl rfl rfl rfl rfl rfl rfl rfl rfl rfl rfl rfl rfl ) yr gn h99 rfl rfl rfl y4 y8 rfl rfl rfl rfl⟩
theorem zt_pack : St_pack ZI := by
  intro n C M K hn h
  obtain ⟨S, T, hc, ⟨hX, hK, g, h99⟩, hH, hB⟩ := id h
  have hc12 := g.c12
  have hw12 := g.1.2.1
  have hT : RT (ofs 2 M) S := hX.t
  have hK0 : RK ((sr K 0 (upd (K 0) 0 (nI 0))) 1) S := hK
  have gn := g.nx hn
  have e5 := zk_hasWindow (K := (sr K 0 (upd (K 0) 0 (nI 0)))) hK0 (by omega)
  by_cases c1 : S 1 1 = 0
  · rw [if_pos c1] at e5
    obtain ⟨⟨yv, yk⟩, ek1, hyk, hyv⟩ := zk_packsAside (K := (sr K 0 (upd (K 0) 0 (nI 0)))) hK0 g c1
    obtain ⟨zf, ⟨q, ef⟩ | ⟨pl, q, ef, hpl⟩⟩ := zx_packable hX g c1
    · have yv0 : yv = wI 0 := by
        rcases hyv with ⟨_, a⟩ | ⟨_, a, _⟩
        · exact a
        · rw [q] at a
          cases a
      subst yv0
      obtain ⟨z2, ex, z40⟩ : ∃ z2, fX8_pack C M = some (.inl "java/lang/IllegalStateException", z2, C) ∧ z2 = sr M 40 zf := by
        unfold fX8_pack
        simp (disch := omega) only [li0, li1, li2, li3, li4, li5, li6, li7, li8, li9, li10, li12, li13, li14, li15, li19, li20, li31, li33, li40, li42, li44, li48, li57, li60, li99, li100, li126, li150, li176, li177, li187, li197, li207, li208, li223, li304, li608, li1520, li1824, nI_add, pk_mul, nI_clamp, nI_leI, nI_ltI, nI_eq, zn_inb, zn_gd, zn_bs, zn_isb, not_true_eq_false, not_false_eq_true, ↓reduceIte, pk_div, pk_sub, zn_rem20, zn_rem2, zn_m1, zn_eqw, zn_weq, zn_weq2, zn_wlt0, zn_wltn, zn_win, zn_wcl, zn_wadd, Nat.not_lt_zero, Nat.one_ne_zero, Nat.zero_ne_one, Nat.le_refl, Nat.zero_le, zn_sel_r, zn_sel_l, ef]
        exact ⟨_, rfl, rfl⟩
      subst z40
      obtain ⟨y, ek, y0, y4, y8, yr, y3⟩ : ∃ y : Int32 × Mem, fX9_pack K = some y ∧ y.2 0 0 = nI 1 ∧ y.2 0 4 = K 0 4 ∧ y.2 0 8 = K 0 8 ∧ RK (y.2 1) S ∧ y.2 3 = K 3 := by
        unfold fX9_pack
        simp (disch := omega) only [li0, li1, li2, li3, li4, li5, li6, li7, li8, li9, li10, li12, li13, li14, li15, li19, li20, li31, li33, li40, li42, li44, li48, li57, li60, li99, li100, li126, li150, li176, li177, li187, li197, li207, li208, li223, li304, li608, li1520, li1824, nI_add, pk_mul, nI_clamp, nI_leI, nI_ltI, nI_eq, zn_inb, zn_gd, zn_bs, zn_isb, not_true_eq_false, not_false_eq_true, ↓reduceIte, pk_div, pk_sub, zn_rem20, zn_rem2, zn_m1, zn_eqw, zn_weq, zn_weq2, zn_wlt0, zn_wltn, zn_win, zn_wcl, zn_wadd, Nat.not_lt_zero, Nat.one_ne_zero, Nat.zero_ne_one, Nat.le_refl, Nat.zero_le, zn_sel_r, zn_sel_l, fX9_fails, e5, ek1, fX9_pack_B20]
        exact ⟨_, rfl, rfl, rfl, rfl, hyk, rfl⟩
      exact ⟨_, _, _, C, y, ex, Or.inr ⟨0, _, rfl, rfl, rfl⟩, fun _ _ => rfl, ek, y0, (fun u hu => by cases hu), ZI.gen hn hH hB (hX.of rfl rfl rfl rfl rfl rfl rfl rfl rfl rfl rfl rfl rfl rfl rfl ) yr gn h99 rfl rfl rfl y4 y8 y3 rfl rfl rfl⟩
    · have yv0 : yv = nI (zy_mvd S pl (S 1 0)) := by
        rcases hyv with ⟨a, _⟩ | ⟨pl2, a, b⟩
        · rw [q] at a
          cases a
        · rw [q] at a
          cases a
          exact b
      subst yv0
      have dn := zy_done c1 g.1 q
      have ml := zy_mvd_le S pl (S 1 0)
      have pm := zo_nm1 (p := zy_mvd S pl (S 1 0)) (by omega)
      obtain ⟨qs, r, es, er, hH', r0⟩ := ZI.save (K := sr K 1 (yk 1)) (C := C) (T := T) (hc := hc) (P := (pk [33, 34, 35, 1, 2, 3, 4, 5, 6, 7, 8, 9, 10, 11, 12, 13, 14, 15, 16] (sr M 40 (sr M 40 zf 40)))) (K0 := (sr (sr (sr (sr K 0 (sr (sr (sr K 0 (upd (K 0) 0 (nI 0))) 1 (yk 1)) 2 (yk 2) 0)) 1 (sr (sr (sr K 0 (upd (K 0) 0 (nI 0))) 1 (yk 1)) 2 (yk 2) 1)) 2 (sr (sr (sr K 0 (upd (K 0) 0 (nI 0))) 1 (yk 1)) 2 (yk 2) 2)) 3 (sr (sr (sr K 0 (upd (K 0) 0 (nI 0))) 1 (yk 1)) 2 (yk 2) 3))) hn ⟨hX, hyk, g, h99⟩ hH (hX.of rfl rfl rfl rfl rfl rfl rfl rfl rfl rfl rfl rfl rfl rfl rfl ) rfl rfl rfl rfl
      have rt : r 0 0 = nI 0 := (r0 0 (by omega)).trans rfl
      have r8 : r 0 8 = K 0 8 := (r0 8 (by omega)).trans rfl
      have ec := zx_countMoved (T := pk [2, 3, 4, 5, 6, 40] (sr (sr M 33 (qs.1 0)) 40 (sr M 40 zf 40))) (S := S) (pl := pl) ⟨hT.1, hT.2.1, hT.2.2.1, hT.2.2.2.1, hT.2.2.2.2.1, hT.2.2.2.2.2⟩ g.1 (fun f hf => ⟨dn.1 f hf, hpl f hf⟩)
      obtain ⟨zm, em, hzm⟩ := zx_moveTo (T := pk [2, 3, 4, 5, 6, 40] (sr (sr M 33 (qs.1 0)) 40 (sr M 40 zf 40))) (S := S) (pl := pl) ⟨hT.1, hT.2.1, hT.2.2.1, hT.2.2.2.1, hT.2.2.2.2.1, hT.2.2.2.2.2⟩ hc12 hpl dn.2.1
      obtain ⟨z1, z2, ex, hx2, e33, e36, e37, ev⟩ : ∃ z1 z2, fX8_pack C M = some (.inr z1, z2, qs.2) ∧ RX (ofs 1 z2) (zy_P S pl) ∧ z2 33 = qs.1 0 ∧ z2 36 = M 36 ∧ z2 37 = M 37 ∧ z1 = nI (zy_mvd S pl (S 1 0)) := by
        unfold fX8_pack
        rw [ef, zn_bs, zn_sel_r, es, zn_bs, ec, zn_bs, em, zn_bs]
        exact ⟨_, _, rfl, ⟨⟨hT.1, hT.2.1, hT.2.2.1, hzm, hT.2.2.2.2.1, hT.2.2.2.2.2⟩, hX.2.1, hX.r7, hX.r8, hX.r10, hX.r11, hX.r12, hX.r13, hX.r15⟩, rfl, rfl, rfl, rfl⟩
      obtain ⟨⟨pv, pk2⟩, ep, hp1, hp2⟩ := zk_packs (K := (sr (sr (sr (sr K 0 (r 0)) 1 (sr (sr (sr K 0 (upd (K 0) 0 (nI 0))) 1 (yk 1)) 2 (yk 2) 1)) 2 (sr (sr (sr K 0 (upd (K 0) 0 (nI 0))) 1 (yk 1)) 2 (yk 2) 2)) 3 (r 3))) (S := S) hyk g c1
      have hpR : RK (pk2 1) (zy_P S pl) := by
        rcases hp2 with ⟨a, _⟩ | ⟨pl2, a, _, b⟩
        · rw [q] at a
          cases a
        · rw [q] at a
          cases a
          exact b
      obtain ⟨y, ek, y0, y4, y8, yr, y3, y1⟩ : ∃ y : Int32 × Mem, fX9_pack K = some y ∧ y.2 0 0 = nI 0 ∧ y.2 0 4 = r 0 4 ∧ y.2 0 8 = K 0 8 ∧ RK (y.2 1) (zy_P S pl) ∧ y.2 3 = r 3 ∧ nI (zy_mvd S pl (S 1 0)) = y.1 := by
        unfold fX9_pack
        simp (disch := omega) only [li0, li1, li2, li3, li4, li5, li6, li7, li8, li9, li10, li12, li13, li14, li15, li19, li20, li31, li33, li40, li42, li44, li48, li57, li60, li99, li100, li126, li150, li176, li177, li187, li197, li207, li208, li223, li304, li608, li1520, li1824, nI_add, pk_mul, nI_clamp, nI_leI, nI_ltI, nI_eq, zn_inb, zn_gd, zn_bs, zn_isb, not_true_eq_false, not_false_eq_true, ↓reduceIte, pk_div, pk_sub, zn_rem20, zn_rem2, zn_m1, zn_eqw, zn_weq, zn_weq2, zn_wlt0, zn_wltn, zn_win, zn_wcl, zn_wadd, Nat.not_lt_zero, Nat.one_ne_zero, Nat.zero_ne_one, Nat.le_refl, Nat.zero_le, zn_sel_r, zn_sel_l, e5, ek1]
        unfold fX9_pack_B20
        rw [if_pos pm, er, zn_bs, ep, zn_bs]
        exact ⟨_, rfl, rt, rfl, r8, hpR, rfl, rfl⟩
      exact ⟨_, _, z2, qs.2, y, ex, Or.inl ⟨_, rfl, rfl⟩, (fun E hE => by cases hE), ek, y0, (fun u hu => by cases hu; exact ev.trans y1), ZI.gen2 hH' hB hx2 yr (gn.pack dn.2.2) h99 e33 e36 e37 y4 y8 y3 rfl rfl rfl⟩
  · rw [if_neg c1] at e5
    have ef := zx_packableNo hX (by omega) c1
    obtain ⟨z2, ex, z40⟩ : ∃ z2, fX8_pack C M = some (.inl "java/lang/IllegalStateException", z2, C) ∧ z2 = sr M 40 (M 40) := by
      unfold fX8_pack
      simp (disch := omega) only [li0, li1, li2, li3, li4, li5, li6, li7, li8, li9, li10, li12, li13, li14, li15, li19, li20, li31, li33, li40, li42, li44, li48, li57, li60, li99, li100, li126, li150, li176, li177, li187, li197, li207, li208, li223, li304, li608, li1520, li1824, nI_add, pk_mul, nI_clamp, nI_leI, nI_ltI, nI_eq, zn_inb, zn_gd, zn_bs, zn_isb, not_true_eq_false, not_false_eq_true, ↓reduceIte, pk_div, pk_sub, zn_rem20, zn_rem2, zn_m1, zn_eqw, zn_weq, zn_weq2, zn_wlt0, zn_wltn, zn_win, zn_wcl, zn_wadd, Nat.not_lt_zero, Nat.one_ne_zero, Nat.zero_ne_one, Nat.le_refl, Nat.zero_le, zn_sel_r, zn_sel_l, ef]
      exact ⟨_, rfl, rfl⟩
    subst z40
    obtain ⟨y, ek, y0, y4, y8, yr, y3⟩ : ∃ y : Int32 × Mem, fX9_pack K = some y ∧ y.2 0 0 = nI 1 ∧ y.2 0 4 = K 0 4 ∧ y.2 0 8 = K 0 8 ∧ RK (y.2 1) S ∧ y.2 3 = K 3 := by
      unfold fX9_pack
      simp (disch := omega) only [li0, li1, li2, li3, li4, li5, li6, li7, li8, li9, li10, li12, li13, li14, li15, li19, li20, li31, li33, li40, li42, li44, li48, li57, li60, li99, li100, li126, li150, li176, li177, li187, li197, li207, li208, li223, li304, li608, li1520, li1824, nI_add, pk_mul, nI_clamp, nI_leI, nI_ltI, nI_eq, zn_inb, zn_gd, zn_bs, zn_isb, not_true_eq_false, not_false_eq_true, ↓reduceIte, pk_div, pk_sub, zn_rem20, zn_rem2, zn_m1, zn_eqw, zn_weq, zn_weq2, zn_wlt0, zn_wltn, zn_win, zn_wcl, zn_wadd, Nat.not_lt_zero, Nat.one_ne_zero, Nat.zero_ne_one, Nat.le_refl, Nat.zero_le, zn_sel_r, zn_sel_l, fX9_fails, e5, fX9_pack_B20]
      exact ⟨_, rfl, rfl, rfl, rfl, hK, rfl⟩
    exact ⟨_, _, _, C, y, ex, Or.inr ⟨0, _, rfl, rfl, rfl⟩, fun _ _ => rfl, ek, y0, (fun u hu => by cases hu), ZI.gen hn hH hB (hX.of rfl rfl rfl rfl rfl rfl rfl rfl rfl rfl rfl rfl rfl rfl rfl ) yr gn h99 rfl rfl rfl y4 y8 y3 rfl rfl rfl⟩
