set_option maxHeartbeats 400000
/-! the law's invariant, one turn of it, its beginning -/
def XI (n : Nat) (C : Nat → Option Mem) (M : Mem) : Prop := ∃ (S : SM) (T : Nat → SM) (hc : Nat), RX (ofs 1 M) S ∧ GX (384 * n) S ∧ S 99 0 = 0 ∧ ZJ9 S ∧ HX C (M 33) T hc
def HO (n : Nat) (C : Nat → Option Mem) (M : Mem) : Prop := ∃ z : Int32 × Mem, fL_holds M = some z ∧ z.1 = nI 1 ∧ XI n C (sr M 41 (z.2 41))
theorem xj_ho {n u : Nat} {C : Nat → Option Mem} {M : Mem} {S : SM} {T : Nat → SM} {hc : Nat} (hX : RX (ofs 1 M) S) (g : GX u S) (h99 : S 99 0 = 0) (hj : ZJ9 S) (hH : HX C (M 33) T hc) (hu : u ≤ 384 * n) (hn : n ≤ 40) : HO n C M := by
  obtain ⟨z, e1, e2⟩ := xh_holds hX g h99 hj.1
  exact ⟨z, e1, e2, S, T, hc, hX.r41, g.mono hu (by omega), h99, hj, hH⟩
theorem xj_turn {n : Nat} {C : Nat → Option Mem} {M : Mem} (hn : n < 40) (h : XI n C M) (v x : Int32) : ∃ (t1 : Int64) (s1 : Nat), s1 ≤ 6 ∧ fL_told M = some t1 ∧ fX8_savedStates M = some (nI s1) ∧ ((fL_act C M v x = some (.inr (nI 0), M, C) ∧ HO (n + 1) C M) ∨ ∃ (z2 : Mem) (z3 : Nat → Option Mem) (t2 : Int64), fL_act C M v x = some (.inr (nI 1), z2, z3) ∧ fL_told z2 = some t2 ∧ fX8_savedStates z2 = some (nI (zh_n s1)) ∧ HO (n + 1) z3 z2 ∧ ∃ z4 : Mem, fX8_undo z3 z2 = some (.inr (), z4, z3) ∧ fX8_savedStates z4 = some (nI (zh_n s1 - 1)) ∧ fL_told z4 = some t1 ∧ ∃ (z5 : Mem) (z6 : Nat → Option Mem), fL_act z3 z4 v x = some (.inr (nI 1), z5, z6) ∧ fL_told z5 = some t2 ∧ HO (n + 1) z6 z5) := by
  obtain ⟨S, T, hc, hX, g, h99, hj, hH⟩ := h
  refine ⟨xt S, hc, hH.2.1, xt_told hX g, congrArg some hH.1, ?_⟩
  rcases xa_act g h99 hj (by omega) v x with hA | ⟨S', g', h', j', hA⟩
  · exact Or.inl ⟨hA C M hX, xj_ho hX g h99 hj hH (by omega) (by omega)⟩
  · right
    obtain ⟨z2, z3, e1, r1, r2⟩ := hA C M T hc hX hH
    have top := zh_T_top hH.2.1 T S
    have g0 : GX (384 * n) (zh_T hc T S (zh_n hc - 1)) := by
      rw [top]
      exact g
    obtain ⟨z4, e2, q1, q2⟩ := xo_undo r2 (zh_n_pos hc) g0
    rw [top] at q1
    obtain ⟨z5, z6, e3, p1, p2⟩ := hA z3 z4 _ _ q1 q2
    exact ⟨z2, z3, xt S', e1, xt_told r1 g', congrArg some r2.1, xj_ho r1 g' h' j' r2 (by omega) (by omega), z4, e2, congrArg some q2.1, xt_told q1 g, z5, z6, e3, xt_told p1 g', xj_ho p1 g' h' j' p2 (by omega) (by omega)⟩
theorem xj_fm : zs_fm zs_0 40 = 40 := by decide +kernel
theorem xj_fp : zs_fp (zs_tq zs_0) 4 = 1 := by decide +kernel
theorem xj_st {k : Nat} : zs_stock zs_0 k = 0 := rfl
theorem xj_init : ∃ z8 : Mem, fX8_init = some z8 ∧ fX8_savedStates z8 = some (nI 0) ∧ fX8_shelves z8 = some (nI 0) ∧ fX8_freeBySlots z8 = some (nI 40) ∧ fX8_firstPlace z8 (nI 4) = some (.inr (nI 0)) ∧ fX8_lift z8 = some (nI 0) ∧ fX8_isKeptPlace z8 = some (nI 1) ∧ ∃ z9 : Mem, fX8_servable z8 = some (.inr (nI 0), z9) ∧ fX8_meanTicks (sr (sr (sr (sr (sr (sr (sr (sr (sr (sr (sr (sr (sr (sr (sr z8 17 (z9 17)) 18 (z9 18)) 19 (z9 19)) 20 (z9 20)) 21 (z9 21)) 22 (z9 22)) 23 (z9 23)) 24 (z9 24)) 25 (z9 25)) 27 (z9 27)) 28 (z9 28)) 29 (z9 29)) 30 (z9 30)) 31 (z9 31)) 32 (z9 32)) = some FP.dconst0 ∧ XI 0 (fun _ => none) (sr (sr (sr (sr (sr (sr (sr (sr (sr (sr (sr (sr (sr (sr (sr z8 17 (z9 17)) 18 (z9 18)) 19 (z9 19)) 20 (z9 20)) 21 (z9 21)) 22 (z9 22)) 23 (z9 23)) 24 (z9 24)) 25 (z9 25)) 27 (z9 27)) 28 (z9 28)) 29 (z9 29)) 30 (z9 30)) 31 (z9 31)) 32 (z9 32)) := by
  obtain ⟨s6, e6, h6⟩ := zx_init6
  obtain ⟨z8, ez, hX, z33⟩ : ∃ z, fX8_init = some z ∧ RX (ofs 1 z) zs_0 ∧ z 33 0 = nI 0 := by
    unfold fX8_init fX1_init fX5_init fX4_init
    simp only [e6, zn_bs]
    exact ⟨_, rfl, h6.of rfl rfl rfl rfl rfl rfl rfl rfl rfl rfl rfl rfl rfl rfl rfl, rfl⟩
  have g : GX 0 zs_0 := zs_0_gx 0 (by omega)
  have hT : RT (ofs 2 z8) zs_0 := hX.t
  have e1 : fX8_freeBySlots z8 = some (nI 40) := by
    have := zd_slots hX g
    rw [xj_fm] at this
    exact this
  have e2 : fX8_firstPlace z8 (nI 4) = some (.inr (nI 0)) := by
    have q := zx_firstFree hT g.1 (w := 4) (by omega)
    rw [xj_fp, wI_s] at q
    have r := xr_height z8 (w := 4) (by omega) (by omega)
    unfold fX8_firstPlace
    simp (disch := omega) only [li0, li1, li2, li3, li4, li5, li6, li7, li8, li9, li10, li12, li13, li14, li15, li19, li20, li31, li33, li40, li42, li44, li48, li57, li60, li99, li100, li126, li150, li176, li177, li187, li197, li207, li208, li223, li304, li608, li1520, li1824, nI_add, pk_mul, nI_clamp, nI_leI, nI_ltI, nI_eq, zn_inb, zn_gd, zn_bs, zn_isb, not_true_eq_false, not_false_eq_true, ↓reduceIte, pk_div, pk_sub, zn_rem20, zn_rem2, zn_m1, zn_eqw, zn_weq, zn_weq2, zn_wlt0, zn_wltn, zn_win, zn_wcl, zn_wadd, Nat.not_lt_zero, Nat.one_ne_zero, Nat.zero_ne_one, Nat.le_refl, Nat.zero_le, zn_sel_r, zn_sel_l, r, q, Nat.zero_add]
  have m1 : z8 7 1 = nI 1 := hX.2.1.2.1
  have e3 : fX8_isKeptPlace z8 = some (nI 1) := by
    unfold fX8_isKeptPlace
    simp (disch := omega) only [li0, li1, li2, li3, li4, li5, li6, li7, li8, li9, li10, li12, li13, li14, li15, li19, li20, li31, li33, li40, li42, li44, li48, li57, li60, li99, li100, li126, li150, li176, li177, li187, li197, li207, li208, li223, li304, li608, li1520, li1824, nI_add, pk_mul, nI_clamp, nI_leI, nI_ltI, nI_eq, zn_inb, zn_gd, zn_bs, zn_isb, not_true_eq_false, not_false_eq_true, ↓reduceIte, pk_div, pk_sub, zn_rem20, zn_rem2, zn_m1, zn_eqw, zn_weq, zn_weq2, zn_wlt0, zn_wltn, zn_win, zn_wcl, zn_wadd, Nat.not_lt_zero, Nat.one_ne_zero, Nat.zero_ne_one, Nat.le_refl, Nat.zero_le, zn_sel_r, zn_sel_l, m1]
  have e4 := zr_win hX (by decide)
  rw [if_pos (show zs_0 1 1 = 0 from rfl)] at e4
  obtain ⟨yc, ec, hyc⟩ := zx_copyFrom (M := pk [17, 18, 19, 20, 21, 22, 23, 24, 25, 26, 27, 28, 29, 30, 31, 32, 1, 2, 3, 4, 5, 6, 7, 8, 9, 10, 11, 12, 13, 14, 15, 16] z8) (S := zs_0) hX g.lo.2.1 g.lo.2.2.2
  obtain ⟨zo, eo, hzo, -⟩ := zx_serveEach (M := ofs 17 (sr (sr (sr (sr (sr (sr (sr (sr (sr (sr (sr (sr (sr (sr (sr z8 17 (yc 0)) 18 (yc 1)) 19 (yc 2)) 20 (yc 3)) 21 (yc 4)) 22 (yc 5)) 23 (yc 6)) 24 (yc 7)) 25 (yc 8)) 27 (yc 10)) 28 (yc 11)) 29 (yc 12)) 30 (yc 13)) 31 (yc 14)) 32 (yc 15))) (S := zs_0) (u := 0) (hyc.of rfl rfl rfl rfl rfl rfl rfl rfl rfl rfl rfl rfl rfl rfl rfl ) g rfl rfl (by omega)
  have ea : (zo_all 8 zs_0).1 = zs_0 := by
    rw [zo_all, if_pos (by decide +kernel)]
  rw [ea] at hzo
  have v1 : zo 0 4 = nI 0 := hzo.2.1.2.2.2.2.2.1
  have v2 : z8 1 4 = nI 0 := hX.2.1.2.2.2.2.2.1
  obtain ⟨z9, ex⟩ : ∃ z2, fX8_servable z8 = some (.inr (nI 0), z2) := by
    unfold fX8_servable
    simp only [e4, ec, eo, zn_bs, zn_sel_r, v1, v2]
    exact ⟨_, rfl⟩
  have hX9 : RX (ofs 1 (sr (sr (sr (sr (sr (sr (sr (sr (sr (sr (sr (sr (sr (sr (sr z8 17 (z9 17)) 18 (z9 18)) 19 (z9 19)) 20 (z9 20)) 21 (z9 21)) 22 (z9 22)) 23 (z9 23)) 24 (z9 24)) 25 (z9 25)) 27 (z9 27)) 28 (z9 28)) 29 (z9 29)) 30 (z9 30)) 31 (z9 31)) 32 (z9 32))) zs_0 := hX.of rfl rfl rfl rfl rfl rfl rfl rfl rfl rfl rfl rfl rfl rfl rfl
  refine ⟨z8, ez, congrArg some z33, congrArg some hX.c, e1, e2, congrArg some hX.2.1.1, e3, z9, ex, ?_, zs_0, fun _ => zs_0, 0, hX9, g, rfl, ⟨fun k hk => rfl, Nat.zero_le _⟩, z33, Nat.zero_le _, fun i hi => absurd hi (Nat.not_lt_zero i)⟩
  have m2 : (sr (sr (sr (sr (sr (sr (sr (sr (sr (sr (sr (sr (sr (sr (sr z8 17 (z9 17)) 18 (z9 18)) 19 (z9 19)) 20 (z9 20)) 21 (z9 21)) 22 (z9 22)) 23 (z9 23)) 24 (z9 24)) 25 (z9 25)) 27 (z9 27)) 28 (z9 28)) 29 (z9 29)) 30 (z9 30)) 31 (z9 31)) 32 (z9 32)) 7 2 = nI 0 := hX.2.1.2.2.1
  have m3 : (sr (sr (sr (sr (sr (sr (sr (sr (sr (sr (sr (sr (sr (sr (sr z8 17 (z9 17)) 18 (z9 18)) 19 (z9 19)) 20 (z9 20)) 21 (z9 21)) 22 (z9 22)) 23 (z9 23)) 24 (z9 24)) 25 (z9 25)) 27 (z9 27)) 28 (z9 28)) 29 (z9 29)) 30 (z9 30)) 31 (z9 31)) 32 (z9 32)) 7 3 = nI 0 := hX.2.1.2.2.2.1
  have em := zx_meanOf (a := 0) (b := 0) (by omega)
  rw [if_pos rfl] at em
  unfold fX8_meanTicks
  rw [m2, m3, em, zn_bs]
