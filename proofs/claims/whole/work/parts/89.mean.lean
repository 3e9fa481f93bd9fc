set_option maxHeartbeats 400000
/-! the means -/
theorem zn_nnb {r : UInt64} (h : Jvm.FP.Core.dIsNaN r = false) : nnb r = true := by
  have h1 : ¬ Jvm.FP.Core.val64 r = .nan := fun e => by
    rw [(Jvm.FP.Core.dIsNaN_iff _).mpr e] at h
    cases h
  unfold nnb
  refine decide_eq_true ?_
  rw [UInt64.le_iff_toNat_le, UInt64.toNat_and]
  show r.toNat &&& (2 ^ 63 - 1) ≤ 2047 * 2 ^ 52
  rw [Nat.and_two_pow_sub_one_eq_mod]
  refine Classical.byContradiction fun q => h1 ?_
  have e1 : Jvm.FP.Core.fieldE Jvm.FP.Core.b64 r.toNat = Jvm.FP.Core.b64.exps - 1 := by
    show r.toNat / 2 ^ 52 % 2 ^ 11 = 2 ^ 11 - 1
    omega
  have e2 : ¬ Jvm.FP.Core.fieldT Jvm.FP.Core.b64 r.toNat = 0 := by
    show ¬ r.toNat % 2 ^ 52 = 0
    omega
  show Jvm.FP.Core.decode Jvm.FP.Core.b64 r.toNat = .nan
  unfold Jvm.FP.Core.decode
  rw [if_pos e1, if_neg e2]
theorem zn_cmpd {r : UInt64} (h : Jvm.FP.Core.dIsNaN r = false) : Op.cmpValue (FP.dcmp r r) .l = 0 := by
  have h1 : Jvm.FP.Core.val64 r ≠ .nan := fun e => by
    rw [(Jvm.FP.Core.dIsNaN_iff _).mpr e] at h
    cases h
  rw [show FP.dcmp r r = some .eq from Jvm.FP.Core.dcmp_self h1]
  rfl
theorem zn_mean (a : Int32) {b : Nat} (h1 : 0 < b) (h2 : b < 2 ^ 31) : Jvm.FP.Core.dIsNaN (FP.ddiv (FP.i2d a) (FP.i2d (nI b))) = false := by
  have hb : nI b ≠ 0 := nI_ne0 h1 h2
  have z := Jvm.FP.Core.i2d_ne_zero hb
  refine Jvm.FP.Core.ddiv_out ?_ (Jvm.FP.Core.i2d_fin _) ?_
  · cases h : Jvm.FP.Core.dIsNaN (FP.i2d a)
    · rfl
    · obtain ⟨s, c, q, e⟩ := Jvm.FP.Core.i2d_fin a
      rw [(Jvm.FP.Core.dIsNaN_iff _).mp h] at e
      cases e
  · exact fun zz => z ((Jvm.FP.Core.zero_bits2 _).mp zz)
theorem zx_meanOf {a b : Nat} (hb : b < 2 ^ 31) : fX8_meanOf (nI a) (nI b) = some (if b = 0 then FP.dconst0 else FP.ddiv (FP.i2d (nI a)) (FP.i2d (nI b))) := by
  unfold fX8_meanOf fX8_meanOf_B13
  by_cases c : b = 0
  · subst c
    rfl
  · have n := zn_nnb (zn_mean (nI a) (b := b) (by omega) hb)
    rw [show (0 : Int32) = nI 0 from rfl, if_pos (nI_lt (show 0 < b by omega) hb), if_neg c, n, zn_gd]
theorem zn_mean0 {a b : Nat} (hb : b < 2 ^ 31) : Op.cmpValue (FP.dcmp (if b = 0 then FP.dconst0 else FP.ddiv (FP.i2d (nI a)) (FP.i2d (nI b))) (if b = 0 then FP.dconst0 else FP.ddiv (FP.i2d (nI a)) (FP.i2d (nI b)))) .l = 0 := by
  by_cases c : b = 0
  · rw [if_pos c]
    decide
  · rw [if_neg c]
    exact zn_cmpd (zn_mean (nI a) (by omega) hb)
section
variable {K : Mem} {S : SM} {u : Nat}
theorem zk_meanByFetch (h : RK (K 1) S) (g : GX u S) : fX9_meanByFetch K = some (if S 6 3 = 0 then FP.dconst0 else FP.ddiv (FP.i2d (nI (S 6 2))) (FP.i2d (nI (S 6 3)))) := by
  have lo := g.lo
  have k4 : K 1 4 = nI (S 6 2) := h.2.2.2.2.1.2.2.1
  have k5 : K 1 5 = nI (S 6 3) := h.2.2.2.2.1.2.2.2.1
  have b3 : S 6 3 ≤ 200000 := Nat.le_trans g.2.2.2.2.2.2.2.2.2.1 g.2.2.2.2.2.2.2.2.2.2
  unfold fX9_meanByFetch fX9_meanByFetch_B28
  by_cases c : S 6 3 = 0
  · simp (disch := omega) only [li0, li1, li2, li3, li4, li5, li6, li7, li8, li9, li10, li12, li13, li14, li15, li19, li20, li31, li33, li40, li42, li44, li48, li57, li60, li99, li100, li126, li150, li176, li177, li187, li197, li207, li208, li223, li304, li608, li1520, li1824, nI_add, pk_mul, nI_clamp, nI_leI, nI_ltI, nI_eq, zn_inb, zn_gd, zn_bs, zn_isb, not_true_eq_false, not_false_eq_true, ↓reduceIte, pk_div, pk_sub, zn_rem20, zn_rem2, zn_m1, zn_eqw, zn_weq, zn_weq2, zn_wlt0, zn_wltn, zn_win, zn_wcl, zn_wadd, Nat.not_lt_zero, Nat.one_ne_zero, Nat.zero_ne_one, Nat.le_refl, Nat.zero_le, zn_sel_r, zn_sel_l, k4, k5, c]
  · have n := zn_nnb (zn_mean (nI (S 6 2)) (b := S 6 3) (by omega) (by omega))
    simp (disch := omega) only [li0, li1, li2, li3, li4, li5, li6, li7, li8, li9, li10, li12, li13, li14, li15, li19, li20, li31, li33, li40, li42, li44, li48, li57, li60, li99, li100, li126, li150, li176, li177, li187, li197, li207, li208, li223, li304, li608, li1520, li1824, nI_add, pk_mul, nI_clamp, nI_leI, nI_ltI, nI_eq, zn_inb, zn_gd, zn_bs, zn_isb, not_true_eq_false, not_false_eq_true, ↓reduceIte, pk_div, pk_sub, zn_rem20, zn_rem2, zn_m1, zn_eqw, zn_weq, zn_weq2, zn_wlt0, zn_wltn, zn_win, zn_wcl, zn_wadd, Nat.not_lt_zero, Nat.one_ne_zero, Nat.zero_ne_one, Nat.le_refl, Nat.zero_le, zn_sel_r, zn_sel_l, k4, k5, c, n]
theorem zk_meanByUse (h : RK (K 1) S) (g : GX u S) (hb : zs_us S (S 1 0) < 2 ^ 31) : fX9_meanByUse K = some (if zs_us S (S 1 0) = 0 then FP.dconst0 else FP.ddiv (FP.i2d (nI (zs_uw S (S 1 0)))) (FP.i2d (nI (zs_us S (S 1 0))))) := by
  have hc := g.c12
  have e2 := zk_waysSum h hc
  unfold fX9_meanByUse fX9_meanByUse_B45
  refine (zk_meanByUse_L h hc _ (S 1 0) 0 5000 (by omega) (by omega)).trans ?_
  by_cases c : zs_us S (S 1 0) = 0
  · simp (disch := omega) only [li0, li1, li2, li3, li4, li5, li6, li7, li8, li9, li10, li12, li13, li14, li15, li19, li20, li31, li33, li40, li42, li44, li48, li57, li60, li99, li100, li126, li150, li176, li177, li187, li197, li207, li208, li223, li304, li608, li1520, li1824, nI_add, pk_mul, nI_clamp, nI_leI, nI_ltI, nI_eq, zn_inb, zn_gd, zn_bs, zn_isb, not_true_eq_false, not_false_eq_true, ↓reduceIte, pk_div, pk_sub, zn_rem20, zn_rem2, zn_m1, zn_eqw, zn_weq, zn_weq2, zn_wlt0, zn_wltn, zn_win, zn_wcl, zn_wadd, Nat.not_lt_zero, Nat.one_ne_zero, Nat.zero_ne_one, Nat.le_refl, Nat.zero_le, zn_sel_r, zn_sel_l, c]
  · have n := zn_nnb (zn_mean (nI (zs_uw S (S 1 0))) (b := zs_us S (S 1 0)) (by omega) (by omega))
    simp (disch := omega) only [li0, li1, li2, li3, li4, li5, li6, li7, li8, li9, li10, li12, li13, li14, li15, li19, li20, li31, li33, li40, li42, li44, li48, li57, li60, li99, li100, li126, li150, li176, li177, li187, li197, li207, li208, li223, li304, li608, li1520, li1824, nI_add, pk_mul, nI_clamp, nI_leI, nI_ltI, nI_eq, zn_inb, zn_gd, zn_bs, zn_isb, not_true_eq_false, not_false_eq_true, ↓reduceIte, pk_div, pk_sub, zn_rem20, zn_rem2, zn_m1, zn_eqw, zn_weq, zn_weq2, zn_wlt0, zn_wltn, zn_win, zn_wcl, zn_wadd, Nat.not_lt_zero, Nat.one_ne_zero, Nat.zero_ne_one, Nat.le_refl, Nat.zero_le, zn_sel_r, zn_sel_l, c, e2, n]
end
