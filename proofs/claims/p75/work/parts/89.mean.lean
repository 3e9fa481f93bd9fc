set_option maxHeartbeats 400000
/-! the means -/
theorem zn_nnb {r : UInt64} (h : Jvm.FP.Core.dIsNaN r = false) : nnb r = true := by
  have h1 : ¬ Jvm.FP.Core.val64 r = .nan := fun e => by
    rw [(Jvm.FP.Core.dIsNaN_iff _).mpr e] at h
    cases h
  unfold nnb
  refine decide_eq_true ?_
  rw [UInt64.le_iff_toNat_le, UInt64.toNat_and]
  show r.toNat &&& (2 ^ 63 - 1) ≤ 2047 * 2 ^ 52
  rw [Nat.and_two_pow_sub_one_eq_mod]
  refine Classical.byContradiction fun q => h1 ?_
  have e1 : Jvm.FP.Core.fieldE Jvm.FP.Core.b64 r.toNat = Jvm.FP.Core.b64.exps - 1 := by
    show r.toNat / 2 ^ 52 % 2 ^ 11 = 2 ^ 11 - 1
    omega
  have e2 : ¬ Jvm.FP.Core.fieldT Jvm.FP.Core.b64 r.toNat = 0 := by
    show ¬ r.toNat % 2 ^ 52 = 0
    omega
  show Jvm.FP.Core.decode Jvm.FP.Core.b64 r.toNat = .nan
  unfold Jvm.FP.Core.decode
  rw [if_pos e1, if_neg e2]
theorem zn_mean (a : Int32) {b : Nat} (h1 : 0 < b) (h2 : b < 2 ^ 31) : Jvm.FP.Core.dIsNaN (FP.ddiv (FP.i2d a) (FP.i2d (nI b))) = false := by
  have hb : nI b ≠ 0 := nI_ne0 h1 h2
  have z := Jvm.FP.Core.i2d_ne_zero hb
  refine Jvm.FP.Core.ddiv_out ?_ (Jvm.FP.Core.i2d_fin _) ?_
  · cases h : Jvm.FP.Core.dIsNaN (FP.i2d a)
    · rfl
    · obtain ⟨s, c, q, e⟩ := Jvm.FP.Core.i2d_fin a
      rw [(Jvm.FP.Core.dIsNaN_iff _).mp h] at e
      cases e
  · exact fun zz => z ((Jvm.FP.Core.zero_bits2 _).mp zz)
theorem zx_meanOf {a b : Nat} (hb : b < 2 ^ 31) : fX8_meanOf (nI a) (nI b) = some (if b = 0 then FP.dconst0 else FP.ddiv (FP.i2d (nI a)) (FP.i2d (nI b))) := by
  unfold fX8_meanOf fX8_meanOf_B13
  by_cases c : b = 0
  · subst c
    rfl
  · have n := zn_nnb (zn_mean (nI a) (b := b) (by omega) hb)
    rw [show (0 : Int32) = nI 0 from rfl, if_pos (nI_lt (show 0 < b by omega) hb), if_neg c, n, zn_gd]
section
variable {K : Mem} {S : SM} {u : Nat}
end

