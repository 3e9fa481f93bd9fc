set_option maxHeartbeats 400000
/-! a double's bits, told by halving and doubling -/
theorem zb_shl (n : Nat) : lN n <<< ((52 : Int32).toInt64 &&& 63) = lN (n * 2 ^ 52) := by
  rw [show ((52 : Int32).toInt64 &&& 63) = lN 52 from by decide +kernel]
  apply Int64.toBitVec_inj.mp
  rw [Int64.toBitVec_shiftLeft, show (lN n).toBitVec = BitVec.ofNat 64 n from rfl, show (lN 52).toBitVec.smod 64 = BitVec.ofNat 64 52 from by decide +kernel, show (lN (n * 2 ^ 52)).toBitVec = BitVec.ofNat 64 (n * 2 ^ 52) from rfl]
  apply BitVec.eq_of_toNat_eq
  rw [BitVec.shiftLeft_eq', BitVec.toNat_shiftLeft, BitVec.toNat_ofNat, BitVec.toNat_ofNat, BitVec.toNat_ofNat, Nat.mod_eq_of_lt (show 52 < 2 ^ 64 by decide), Nat.shiftLeft_eq, Nat.mul_mod, Nat.mod_mod, ← Nat.mul_mod]
def ZN (c : Nat) (q : Int) : Prop := 2 ^ 52 ≤ c ∧ c < 2 ^ 53 ∧ -1074 ≤ q ∧ q ≤ 971
def zbv (c : Nat) (q : Int) : UInt64 := Jvm.FP.Core.of64 (.fin false c q)
theorem zb_fits {c : Nat} {q : Int} (h : ZN c q) : Jvm.FP.Core.fits Jvm.FP.Core.b64 (.fin false c q) := by
  obtain ⟨a, b, d, e⟩ := h
  have h1 := Jvm.FP.Core.qmin_b64
  have h2 : Jvm.FP.Core.b64.qmax = 971 := by decide
  refine ⟨b, ?_, ?_, Or.inr a⟩
  · rw [h1]
    exact d
  · rw [h2]
    exact e
theorem zb_val {c : Nat} {q : Int} (h : ZN c q) : Jvm.FP.Core.val64 (zbv c q) = .fin false c q := Jvm.FP.Core.val64_of64 (zb_fits h)
theorem zb_nn {c : Nat} {q : Int} (h : ZN c q) : Jvm.FP.Core.val64 (zbv c q) ≠ .nan := by
  rw [zb_val h]
  exact Jvm.FP.Core.Datum.noConfusion
theorem zb_nat {c : Nat} {q : Int} (h : ZN c q) : (zbv c q).toNat = ((q + 1074).toNat + 1) * 2 ^ 52 + (c - 2 ^ 52) := by
  have e := Jvm.FP.Core.toNat_of64 (zb_fits h)
  unfold zbv
  rw [e]
  obtain ⟨a, b, d, f⟩ := h
  show (if c < Jvm.FP.Core.b64.tails then Jvm.FP.Core.assemble Jvm.FP.Core.b64 false 0 c else Jvm.FP.Core.assemble Jvm.FP.Core.b64 false ((q - Jvm.FP.Core.b64.qmin).toNat + 1) (c - Jvm.FP.Core.b64.tails)) = _
  rw [Jvm.FP.Core.tails_b64, if_neg (by omega), Jvm.FP.Core.qmin_b64]
  unfold Jvm.FP.Core.assemble
  rw [Jvm.FP.Core.tails_b64, show (false : Bool).toNat = 0 from rfl, Nat.zero_mul, Nat.zero_add, show q - -1074 = q + 1074 by omega]
theorem zb_of {r : UInt64} (h1 : 2 ^ 52 ≤ r.toNat) (h2 : r.toNat < 2047 * 2 ^ 52) : ∃ c q, ZN c q ∧ r = zbv c q ∧ q = ((r.toNat / 2 ^ 52 : Nat) : Int) - 1075 := by
  have z : ZN (2 ^ 52 + r.toNat % 2 ^ 52) (((r.toNat / 2 ^ 52 : Nat) : Int) - 1075) := by
    refine ⟨?_, ?_, ?_, ?_⟩ <;> omega
  refine ⟨_, _, z, ?_, rfl⟩
  apply UInt64.toNat.inj
  rw [zb_nat z]
  omega
theorem zb_two : Jvm.FP.Core.val64 4611686018427387904 = .fin false (2 ^ 52) (-51) := by decide +kernel
theorem zb_big : Jvm.FP.Core.val64 4841369599423283200 = .fin false (2 ^ 52) 0 := by decide +kernel
theorem zb_div {c : Nat} {q : Int} (h : ZN c q) (h2 : -1073 ≤ q) : FP.ddiv (zbv c q) 4611686018427387904 = zbv c (q - 1) := by
  show Jvm.FP.Core.of64 (Jvm.FP.Core.quotient Jvm.FP.Core.b64 (Jvm.FP.Core.val64 (zbv c q)) (Jvm.FP.Core.val64 4611686018427387904)) = Jvm.FP.Core.of64 _
  rw [zb_val h, zb_two]
  refine congrArg Jvm.FP.Core.of64 ?_
  show (if 2 ^ 52 = 0 then (if c = 0 then Jvm.FP.Core.Datum.nan else Jvm.FP.Core.Datum.inf (false != false)) else Jvm.FP.Core.roundRatio Jvm.FP.Core.b64 (false != false) c (2 ^ 52) (q - -51)) = _
  rw [if_neg (by decide)]
  obtain ⟨a, b, d, e⟩ := h
  refine Jvm.FP.Core.roundRatio_exact Jvm.FP.Core.good_b64 (by decide) (zb_fits ⟨a, b, by omega, by omega⟩) ?_
  rw [show (q - -51 - (q - 1)).toNat = 52 by omega, show (q - 1 - (q - -51)).toNat = 0 by omega, Nat.pow_zero, Nat.mul_one]
theorem zb_mul {c : Nat} {q : Int} (h : ZN c q) (h2 : q ≤ 970) : FP.dmul (zbv c q) 4611686018427387904 = zbv c (q + 1) := by
  show Jvm.FP.Core.of64 (Jvm.FP.Core.round Jvm.FP.Core.b64 (Jvm.FP.Core.exactProduct (Jvm.FP.Core.val64 (zbv c q)) (Jvm.FP.Core.val64 4611686018427387904))) = Jvm.FP.Core.of64 _
  rw [zb_val h, zb_two]
  refine congrArg Jvm.FP.Core.of64 ?_
  show Jvm.FP.Core.roundRatio Jvm.FP.Core.b64 (false != false) (c * 2 ^ 52) 1 (q + -51) = _
  obtain ⟨a, b, d, e⟩ := h
  refine Jvm.FP.Core.roundRatio_exact Jvm.FP.Core.good_b64 (by decide) (zb_fits ⟨a, b, by omega, by omega⟩) ?_
  rw [show (q + -51 - (q + 1)).toNat = 0 by omega, show (q + 1 - (q + -51)).toNat = 52 by omega, Nat.pow_zero, Nat.mul_one, Nat.mul_one]
theorem zb_gate {c : Nat} {q : Int} (h : ZN c q) : nnb (zbv c q) = true := zn_nnb ((Jvm.FP.Core.notNaN_iff _).mpr (zb_nn h))
theorem zb_cmp {c : Nat} {q : Int} (h : ZN c q) {y : UInt64} {o : CmpOp} (hy : Jvm.FP.Core.val64 y ≠ .nan) (sy : y.toNat < 2 ^ 63) : (Op.cmpValue (FP.dcmp (zbv c q) y) o = -1 ∧ (zbv c q).toNat < y.toNat) ∨ (Op.cmpValue (FP.dcmp (zbv c q) y) o = 0 ∧ (zbv c q).toNat = y.toNat) ∨ (Op.cmpValue (FP.dcmp (zbv c q) y) o = 1 ∧ y.toNat < (zbv c q).toNat) := by
  have e := zb_nat h
  obtain ⟨a, b, d, f⟩ := id h
  obtain ⟨m1, m2, m3⟩ := Jvm.FP.Core.mono_bits (zb_nn h) hy (by omega) sy
  rcases Nat.lt_trichotomy (zbv c q).toNat y.toNat with l | l | l
  · left
    refine ⟨?_, l⟩
    rw [show FP.dcmp (zbv c q) y = some .lt from m1.mpr l]
    rfl
  · right; left
    refine ⟨?_, l⟩
    rw [show FP.dcmp (zbv c q) y = some .eq from m2.mpr l]
    rfl
  · right; right
    refine ⟨?_, l⟩
    rw [show FP.dcmp (zbv c q) y = some .gt from m3.mpr l]
    rfl
theorem zb_lt2 {c : Nat} {q : Int} (h : ZN c q) : Op.cmpValue (FP.dcmp (zbv c q) (4611686018427387904 : UInt64)) .l < 0 ↔ q < -51 := by
  have e := zb_nat h
  obtain ⟨a, b, d, f⟩ := id h
  have t : (4611686018427387904 : UInt64).toNat = 1024 * 2 ^ 52 := by decide
  rcases zb_cmp h (y := 4611686018427387904) (o := .l) (by rw [zb_two]; exact Jvm.FP.Core.Datum.noConfusion) (by rw [t]; decide) with ⟨z, l⟩ | ⟨z, l⟩ | ⟨z, l⟩
  · rw [z]
    exact ⟨fun _ => by omega, fun _ => by decide⟩
  · rw [z]
    exact ⟨fun y => absurd y (by decide), fun y => by omega⟩
  · rw [z]
    exact ⟨fun y => absurd y (by decide), fun y => by omega⟩
theorem zb_ge1 {c : Nat} {q : Int} (h : ZN c q) : 0 ≤ Op.cmpValue (FP.dcmp (zbv c q) FP.dconst1) .g ↔ -52 ≤ q := by
  have e := zb_nat h
  obtain ⟨a, b, d, f⟩ := id h
  have t : FP.dconst1.toNat = 1023 * 2 ^ 52 := by decide
  rcases zb_cmp h (y := FP.dconst1) (o := .g) (by rw [show Jvm.FP.Core.val64 FP.dconst1 = _ from Jvm.FP.Core.val64_dconst1]; exact Jvm.FP.Core.Datum.noConfusion) (by rw [t]; decide) with ⟨z, l⟩ | ⟨z, l⟩ | ⟨z, l⟩
  · rw [z]
    exact ⟨fun y => absurd y (by decide), fun y => by omega⟩
  · rw [z]
    exact ⟨fun _ => by omega, fun _ => by decide⟩
  · rw [z]
    exact ⟨fun _ => by omega, fun _ => by decide⟩
theorem zb_gt0 {c : Nat} {q : Int} (h : ZN c q) : 0 < Op.cmpValue (FP.dcmp (zbv c q) FP.dconst0) .l := by
  have e := zb_nat h
  have t : FP.dconst0.toNat = 0 := by decide
  rcases zb_cmp h (y := FP.dconst0) (o := .l) (by rw [show Jvm.FP.Core.val64 FP.dconst0 = _ from Jvm.FP.Core.val64_dconst0]; exact Jvm.FP.Core.Datum.noConfusion) (by rw [t]; decide) with ⟨z, l⟩ | ⟨z, l⟩ | ⟨z, l⟩
  · omega
  · omega
  · rw [z]
    decide
theorem zb_L18 {c : Nat} (kx : UInt64 → Int64 → Option Int64) : ∀ (d j n e : Nat) (q : Int), q = -52 + d → j + d ≤ 1023 → d < n → ZN c q → fX8_bitsOf_L18 n kx (zbv c q) (lN e) (nI j) = kx (zbv c (-52)) (lN (e + d)) := by
  intro d
  induction d with
  | zero =>
    intro j n e q hq hj hn h
    obtain ⟨m, rfl⟩ : ∃ m, n = m + 1 := ⟨n - 1, by omega⟩
    have q52 : q = -52 := by omega
    subst q52
    rw [fX8_bitsOf_L18, if_pos ((zb_lt2 h).mpr (by omega)), ite_self, Nat.add_zero]
  | succ d ih =>
    intro j n e q hq hj hn h
    obtain ⟨m, rfl⟩ : ∃ m, n = m + 1 := ⟨n - 1, by omega⟩
    obtain ⟨a, b, f, g⟩ := id h
    have h' : ZN c (q - 1) := ⟨a, b, by omega, by omega⟩
    rw [fX8_bitsOf_L18, show (1023 : Int32) = nI 1023 from rfl, if_neg (nI_ge (show j < 1023 by omega) (by omega)), if_neg (fun z => by have := (zb_lt2 h).mp z; omega), zb_div h (by omega), zb_gate h', zn_gd, show lN e + (1 : Int64) = lN (e + 1) from lN_1 e, show (1 : Int32) = nI 1 from rfl, nI_add, ih (j + 1) m (e + 1) (q - 1) (by omega) (by omega) (by omega) h']
    rw [show e + 1 + d = e + (d + 1) by omega]
theorem zb_L18n {c : Nat} (kx : UInt64 → Int64 → Option Int64) {n e : Nat} {q : Int} (hq : q < -51) (h : ZN c q) (j : Int32) (l : Int64) : fX8_bitsOf_L18 (n + 1) kx (zbv c q) l j = kx (zbv c q) l := by
  rw [fX8_bitsOf_L18, if_pos ((zb_lt2 h).mpr hq), ite_self]
theorem zb_L55 {c : Nat} (kx : UInt64 → Int64 → Option Int64) : ∀ (d j n e : Nat) (q : Int), q = -52 - d → d ≤ e → j + d ≤ 1022 → d < n → ZN c q → fX8_bitsOf_L55 n kx (zbv c q) (lN e) (nI j) = kx (zbv c (-52)) (lN (e - d)) := by
  intro d
  induction d with
  | zero =>
    intro j n e q hq he hj hn h
    obtain ⟨m, rfl⟩ : ∃ m, n = m + 1 := ⟨n - 1, by omega⟩
    have q52 : q = -52 := by omega
    subst q52
    rw [fX8_bitsOf_L55, if_pos ((zb_ge1 h).mpr (by omega)), ite_self, Nat.sub_zero]
  | succ d ih =>
    intro j n e q hq he hj hn h
    obtain ⟨m, rfl⟩ : ∃ m, n = m + 1 := ⟨n - 1, by omega⟩
    obtain ⟨a, b, f, g⟩ := id h
    have h' : ZN c (q + 1) := ⟨a, b, by omega, by omega⟩
    rw [fX8_bitsOf_L55, show (1022 : Int32) = nI 1022 from rfl, if_neg (nI_ge (show j < 1022 by omega) (by omega)), if_neg (fun z => by have := (zb_ge1 h).mp z; omega), zb_mul h (by omega), zb_gate h', zn_gd, show lN e - (1 : Int64) = lN (e - 1) from lN_sub (a := e) (b := 1) (by omega), show (1 : Int32) = nI 1 from rfl, nI_add, ih (j + 1) m (e - 1) (q + 1) (by omega) (by omega) (by omega) (by omega) h']
    rw [show e - 1 - d = e - (d + 1) by omega]
theorem zb_pw1 {c t X Y k : Nat} (hX : 0 < X) (e : c * (k * (Y * X)) = t * X) : c * Y * k = t := by
  refine Nat.eq_of_mul_eq_mul_right hX ?_
  rw [← e]
  ac_rfl
theorem zb_pw2 {c t X Y k l : Nat} (hl : 0 < l) (e : c * l = t * X) (e5 : X * Y = k * l) : c * Y = t * k := by
  refine Nat.eq_of_mul_eq_mul_right hl ?_
  rw [Nat.mul_assoc t, ← e5, ← Nat.mul_assoc, ← e]
  ac_rfl
theorem zb_pw5 (a b c : Nat) : 2 ^ (a + (b + c)) = 2 ^ a * (2 ^ b * 2 ^ c) := by
  rw [Nat.pow_add, Nat.pow_add]
theorem zb_pw3 (j : Nat) : 2 ^ (j + 1074) = 2 ^ j * (2 ^ 52 * 2 ^ 1022) := (congrArg (fun x => 2 ^ x) (show j + 1074 = j + (52 + 1022) by omega)).trans (zb_pw5 j 52 1022)
theorem zb_pw6 {a b c d : Nat} (h : a + b = c + d) : 2 ^ a * 2 ^ b = 2 ^ c * 2 ^ d := by
  rw [← Nat.pow_add, ← Nat.pow_add, h]
theorem zb_pw4 {m : Nat} (h : m ≤ 1074) : 2 ^ 1022 * 2 ^ 52 = 2 ^ (1074 - m) * 2 ^ m := zb_pw6 (by omega)
theorem zb_whole {r : UInt64} {d : Jvm.FP.Core.Datum} {t : Nat} (ht : t < 2 ^ 53) (hv : Jvm.FP.Core.val64 r = Jvm.FP.Core.round Jvm.FP.Core.b64 d) (w : Jvm.FP.Core.Whole (t : Int) d) : nnb r = true ∧ FP.d2l r = lN t := by
  have w2 := Jvm.FP.Core.whole_round Jvm.FP.Core.good_b64 Jvm.FP.Core.wide_b64 (show (t : Int).natAbs ≤ 2 ^ 53 by omega) w
  rw [← hv] at w2
  refine ⟨zn_nnb ((Jvm.FP.Core.notNaN_iff _).mpr w2.ne_nan), Jvm.FP.Core.d2l_int (a := lN t) ?_⟩
  show Jvm.FP.Core.Whole _ _
  rw [pk_lT (by omega)]
  exact w2
theorem zb_ex {t : Nat} (ht : t < 2 ^ 53) : ∃ c' q', Jvm.FP.Core.round Jvm.FP.Core.b64 (.fin false t (-52)) = .fin false c' q' ∧ Jvm.FP.Core.inUnits c' q' Jvm.FP.Core.b64.qmin = Jvm.FP.Core.inUnits t (-52) Jvm.FP.Core.b64.qmin ∧ Jvm.FP.Core.fits Jvm.FP.Core.b64 (.fin false c' q') := by
  obtain ⟨c', q', e3, e4⟩ := Jvm.FP.Core.round_exact Jvm.FP.Core.good_b64 false (c := t) (q := -52) ht (by decide) (by decide)
  have hf := Jvm.FP.Core.round_fits Jvm.FP.Core.good_b64 (.fin false t (-52))
  rw [e3] at hf
  exact ⟨c', q', e3, e4, hf⟩
/-- what is behind the point -/
theorem zb_frac {c : Nat} (h : ZN c (-52)) : nnb (FP.dsub (zbv c (-52)) FP.dconst1) = true ∧ nnb (FP.dmul (FP.dsub (zbv c (-52)) FP.dconst1) (4841369599423283200 : UInt64)) = true ∧ FP.d2l (FP.dmul (FP.dsub (zbv c (-52)) FP.dconst1) (4841369599423283200 : UInt64)) = lN (c - 2 ^ 52) := by
  obtain ⟨a, b, -, -⟩ := id h
  have hv : Jvm.FP.Core.val64 (FP.dsub (zbv c (-52)) FP.dconst1) = Jvm.FP.Core.round Jvm.FP.Core.b64 (.fin false (c - 2 ^ 52) (-52)) := by
    show Jvm.FP.Core.val64 (Jvm.FP.Core.dsub (zbv c (-52)) Jvm.FP.Core.dconst1) = _
    rw [Jvm.FP.Core.val64_dsub, zb_val h, Jvm.FP.Core.val64_dconst1]
    refine congrArg (Jvm.FP.Core.round Jvm.FP.Core.b64) ?_
    have e1 : Jvm.FP.Core.sumUnits false c (-52) true (2 ^ 52) (-52) (min (-52) (-52)) = ((c - 2 ^ 52 : Nat) : Int) := by
      unfold Jvm.FP.Core.sumUnits Jvm.FP.Core.inUnits Jvm.FP.Core.signed
      rw [show (-52 - min (-52) (-52) : Int).toNat = 0 by decide, Nat.pow_zero, Nat.mul_one, Nat.mul_one, if_neg (by decide), if_pos rfl]
      omega
    show Jvm.FP.Core.Datum.fin (Jvm.FP.Core.sumSign false true (Jvm.FP.Core.sumUnits false c (-52) true (2 ^ 52) (-52) (min (-52) (-52)))) (Jvm.FP.Core.sumUnits false c (-52) true (2 ^ 52) (-52) (min (-52) (-52))).natAbs (min (-52) (-52)) = _
    rw [e1]
    have e2 : Jvm.FP.Core.sumSign false true ((c - 2 ^ 52 : Nat) : Int) = false := by
      unfold Jvm.FP.Core.sumSign
      split
      · rfl
      · exact decide_eq_false (by omega)
    rw [e2, Int.natAbs_natCast]
    rfl
  obtain ⟨c', q', e3, e4, hf⟩ := zb_ex (t := c - 2 ^ 52) (by omega)
  rw [e3] at hv
  have hq' : -1074 ≤ q' := by
    have := hf.2.1
    rw [Jvm.FP.Core.qmin_b64] at this
    exact this
  rw [Jvm.FP.Core.qmin_b64] at e4
  unfold Jvm.FP.Core.inUnits at e4
  have w : Jvm.FP.Core.Whole ((c - 2 ^ 52 : Nat) : Int) (.fin false (c' * 2 ^ 52) (q' + 0)) := by
    show Jvm.FP.Core.signed false (c' * 2 ^ 52 * 2 ^ (q' + 0).toNat) = ((c - 2 ^ 52 : Nat) : Int) * ((2 ^ (-(q' + 0)).toNat : Nat) : Int)
    rw [show ∀ x, Jvm.FP.Core.signed false x = ((x : Nat) : Int) from fun x => rfl, ← Int.natCast_mul]
    refine congrArg Int.ofNat ?_
    rw [Int.add_zero]
    obtain ⟨m, hm⟩ : ∃ m : Nat, q' = (m : Int) - 1074 := ⟨(q' + 1074).toNat, by omega⟩
    subst hm
    rw [show ((m : Int) - 1074 - -1074).toNat = m by omega, show (-52 - -1074 : Int).toNat = 1022 by decide] at e4
    by_cases k : 1074 ≤ m
    · obtain ⟨j, rfl⟩ : ∃ j, m = j + 1074 := ⟨m - 1074, by omega⟩
      rw [show (((j + 1074 : Nat) : Int) - 1074).toNat = j by omega, show (-(((j + 1074 : Nat) : Int) - 1074)).toNat = 0 by omega, Nat.pow_zero, Nat.mul_one]
      rw [zb_pw3] at e4
      exact zb_pw1 (Nat.two_pow_pos 1022) e4
    · rw [show ((m : Int) - 1074).toNat = 0 by omega, show (-((m : Int) - 1074)).toNat = 1074 - m by omega, Nat.pow_zero, Nat.mul_one]
      exact zb_pw2 (Nat.two_pow_pos m) e4 (zb_pw4 (by omega))
  have hm : Jvm.FP.Core.val64 (FP.dmul (FP.dsub (zbv c (-52)) FP.dconst1) (4841369599423283200 : UInt64)) = Jvm.FP.Core.round Jvm.FP.Core.b64 (.fin false (c' * 2 ^ 52) (q' + 0)) := by
    show Jvm.FP.Core.val64 (Jvm.FP.Core.dmul (FP.dsub (zbv c (-52)) FP.dconst1) 4841369599423283200) = _
    rw [Jvm.FP.Core.val64_dmul, hv, zb_big]
    rfl
  obtain ⟨g1, g2⟩ := zb_whole (t := c - 2 ^ 52) (by omega) hm w
  refine ⟨zn_nnb ((Jvm.FP.Core.notNaN_iff _).mpr ?_), g1, g2⟩
  rw [hv]
  exact Jvm.FP.Core.Datum.noConfusion
theorem zb_bits {c : Nat} {q : Int} (h : ZN c q) : fX8_bitsOf (zbv c q) = some (lN (((q + 1074).toNat + 1) * 2 ^ 52 + (c - 2 ^ 52))) := by
  obtain ⟨a, b, d, e⟩ := id h
  have h0 : ZN c (-52) := ⟨a, b, by omega, by omega⟩
  obtain ⟨f1, f2, f3⟩ := zb_frac h0
  unfold fX8_bitsOf
  rw [if_pos (zb_gt0 h), show (1023 : Int64) = lN 1023 from rfl]
  by_cases k : -52 ≤ q
  · obtain ⟨n, hn⟩ : ∃ n : Nat, q = -52 + n := ⟨(q + 52).toNat, by omega⟩
    subst hn
    refine (zb_L18 _ n 0 5000 1023 _ rfl (by omega) (by omega) h).trans ?_
    refine (zb_L55 _ 0 0 5000 (1023 + n) (-52) (by omega) (by omega) (by omega) (by omega) h0).trans ?_
    rw [f1, zn_gd, f2, zn_gd, f3, zb_shl, lN_add]
    rw [show 1023 + n - 0 = (-52 + (n : Int) + 1074).toNat + 1 by omega]
  · obtain ⟨n, hn⟩ : ∃ n : Nat, q = -52 - n := ⟨(-52 - q).toNat, by omega⟩
    subst hn
    refine (zb_L18n _ (n := 4999) (e := 0) (by omega) h _ _).trans ?_
    refine (zb_L55 _ n 0 5000 1023 _ rfl (by omega) (by omega) (by omega) h).trans ?_
    rw [f1, zn_gd, f2, zn_gd, f3, zb_shl, lN_add]
    rw [show 1023 - n = (-52 - (n : Int) + 1074).toNat + 1 by omega]
theorem zb_tol {r : UInt64} {n : Nat} (h : r.toNat = n) : r.toInt64 = lN n := by
  subst h
  apply Int64.toBitVec_inj.mp
  apply BitVec.eq_of_toNat_eq
  show r.toNat = r.toNat % 2 ^ 64
  exact (Nat.mod_eq_of_lt r.toNat_lt).symm
theorem zb_dl {r : UInt64} (h : Jvm.FP.Core.dIsNaN r = false) : fJxe99ae_doubleToLongBits_ccdee r = some r.toInt64 := by
  have e := zn_cmpd h
  unfold fJxe99ae_doubleToLongBits_ccdee fJxe99ae_isNaN_b9ae7 fJxe99ae_isNaN_b9ae7_B11
  rw [if_pos e]
  rfl
theorem zb_long {c : Nat} {q : Int} (h : ZN c q) : fJxe99ae_doubleToLongBits_ccdee (zbv c q) = some (lN (((q + 1074).toNat + 1) * 2 ^ 52 + (c - 2 ^ 52))) := by
  rw [zb_dl ((Jvm.FP.Core.notNaN_iff _).mpr (zb_nn h)), zb_tol (zb_nat h)]
theorem zb_i2d {a : Nat} (h0 : 0 < a) (h1 : a < 2 ^ 31) : ∃ c q, ZN c q ∧ FP.i2d (nI a) = zbv c q ∧ -52 ≤ q ∧ q ≤ -20 := by
  have m := Jvm.FP.Core.i2d_mag (nI a)
  have t : (nI a).toInt = (a : Int) := nI_toInt h1
  have g := (Jvm.FP.Core.i2d_big (v := nI a) (by omega)).1
  have s : (Jvm.FP.Core.i2d (nI a)).toNat < 2 ^ 63 := by
    have e := Jvm.FP.Core.sgn_bits (a := Jvm.FP.Core.i2d (nI a)) (by
      obtain ⟨_, _, _, h⟩ := Jvm.FP.Core.i2d_fin (nI a)
      rw [h]
      exact Jvm.FP.Core.Datum.noConfusion)
    rw [Jvm.FP.Core.val64_i2d, show Jvm.FP.Core.sgn (Jvm.FP.Core.round Jvm.FP.Core.b64 (Jvm.FP.Core.ofInt (nI a).toInt)) = decide ((nI a).toInt < 0) from Jvm.FP.Core.sgn_roundRatio _ _ _ _ _, decide_eq_false (by omega)] at e
    exact Nat.lt_of_not_le (of_decide_eq_false e.symm)
  obtain ⟨c, q, z1, z2, z3⟩ := zb_of (r := Jvm.FP.Core.i2d (nI a)) (by omega) (by omega)
  exact ⟨c, q, z1, z2, by omega, by omega⟩
theorem zb_mean {a b : Nat} (ha : 0 < a) (ha1 : a < 2 ^ 31) (hb : 0 < b) (hb1 : b < 2 ^ 31) : ∃ c q, ZN c q ∧ FP.ddiv (FP.i2d (nI a)) (FP.i2d (nI b)) = zbv c q := by
  obtain ⟨c, q, x1, x2, x3, x4⟩ := zb_i2d ha ha1
  obtain ⟨d, r, y1, y2, y3, y4⟩ := zb_i2d hb hb1
  have ma := Jvm.FP.Core.i2d_mag (nI a)
  have mb := Jvm.FP.Core.i2d_mag (nI b)
  have gb := (Jvm.FP.Core.i2d_big (v := nI b) (by rw [nI_toInt hb1]; omega)).1
  have up := Jvm.FP.Core.ddiv_mag (a := Jvm.FP.Core.i2d (nI a)) (b := Jvm.FP.Core.i2d (nI b)) (K := 1056) (L := 1023) ma gb (by omega) (by omega) (by omega)
  have val : Jvm.FP.Core.val64 (Jvm.FP.Core.ddiv (Jvm.FP.Core.i2d (nI a)) (Jvm.FP.Core.i2d (nI b))) = Jvm.FP.Core.roundRatio Jvm.FP.Core.b64 false c d (q - r) := by
    rw [Jvm.FP.Core.val64_ddiv, show Jvm.FP.Core.i2d (nI a) = zbv c q from x2, show Jvm.FP.Core.i2d (nI b) = zbv d r from y2, zb_val x1, zb_val y1]
    show (if d = 0 then _ else _) = _
    rw [if_neg (by have := y1.1; omega)]
    rfl
  have lo := Jvm.FP.Core.mag_ge Jvm.FP.Core.good_b64 (s := false) (n := (Jvm.FP.Core.ddiv (Jvm.FP.Core.i2d (nI a)) (Jvm.FP.Core.i2d (nI b))).toNat) (m := 1 * Jvm.FP.Core.b64.tails) (A := c) (B := d) (e := q - r) (e0 := Jvm.FP.Core.b64.qmin) val (by have := y1.1; omega) (Int.le_refl _) (by rw [Jvm.FP.Core.qmin_b64]; omega) (by decide) (by
    rw [Jvm.FP.Core.unitsOf_start (Nat.le_refl 1), Jvm.FP.Core.tails_b64, Int.sub_self, Jvm.FP.Core.qmin_b64]
    unfold Jvm.FP.Core.inUnits
    obtain ⟨k, hk⟩ : ∃ k : Nat, (q - r - -1074).toNat = 53 + k := ⟨(q - r - -1074).toNat - 53, by omega⟩
    rw [hk, Nat.pow_add, ← Nat.mul_assoc]
    have h1 := x1.1
    have h2 := y1.2.1
    have h3 : 2 ^ 52 * 2 ^ (1 - 1) * 2 ^ (0 : Int).toNat * d ≤ c * 2 ^ 53 := by
      rw [show 2 ^ 52 * 2 ^ (1 - 1) * 2 ^ (0 : Int).toNat = 2 ^ 52 by decide]
      omega
    exact Nat.le_trans h3 (Nat.le_mul_of_pos_right _ (Nat.two_pow_pos k)))
  rw [Jvm.FP.Core.mag_toNat64, Jvm.FP.Core.tails_b64] at lo
  have s : (Jvm.FP.Core.ddiv (Jvm.FP.Core.i2d (nI a)) (Jvm.FP.Core.i2d (nI b))).toNat < 2 ^ 63 := by
    have e := Jvm.FP.Core.sgn_bits (a := Jvm.FP.Core.ddiv (Jvm.FP.Core.i2d (nI a)) (Jvm.FP.Core.i2d (nI b))) (by
      refine (Jvm.FP.Core.ne_nan _).mpr ?_
      omega)
    rw [val, Jvm.FP.Core.sgn_roundRatio] at e
    exact Nat.lt_of_not_le (of_decide_eq_false e.symm)
  obtain ⟨c', q', z1, z2, -⟩ := zb_of (r := Jvm.FP.Core.ddiv (Jvm.FP.Core.i2d (nI a)) (Jvm.FP.Core.i2d (nI b))) (by omega) (by omega)
  exact ⟨c', q', z1, z2⟩
theorem zb_zero {b : Nat} (hb : 0 < b) (hb1 : b < 2 ^ 31) : FP.ddiv (FP.i2d (nI 0)) (FP.i2d (nI b)) = FP.dconst0 := by
  obtain ⟨d, r, y1, y2, y3, y4⟩ := zb_i2d hb hb1
  show Jvm.FP.Core.of64 (Jvm.FP.Core.quotient Jvm.FP.Core.b64 (Jvm.FP.Core.val64 (FP.i2d (nI 0))) (Jvm.FP.Core.val64 (FP.i2d (nI b)))) = _
  rw [y2, zb_val y1, show Jvm.FP.Core.val64 (FP.i2d (nI 0)) = .fin false 0 Jvm.FP.Core.b64.qmin from by decide +kernel]
  show Jvm.FP.Core.of64 (if d = 0 then _ else _) = _
  rw [if_neg (by have := y1.1; omega)]
  rfl
/-- both ways tell the same of a mean -/
theorem zb_all {a b : Nat} (ha : a < 2 ^ 31) (hb : b < 2 ^ 31) : ∃ x, fX8_bitsOf (if b = 0 then FP.dconst0 else FP.ddiv (FP.i2d (nI a)) (FP.i2d (nI b))) = some x ∧ fJxe99ae_doubleToLongBits_ccdee (if b = 0 then FP.dconst0 else FP.ddiv (FP.i2d (nI a)) (FP.i2d (nI b))) = some x := by
  have z0 : fX8_bitsOf FP.dconst0 = some 0 ∧ fJxe99ae_doubleToLongBits_ccdee FP.dconst0 = some 0 := by
    constructor
    · unfold fX8_bitsOf
      rw [if_neg (by decide +kernel)]
    · decide +kernel
  by_cases k : b = 0
  · rw [if_pos k]
    exact ⟨0, z0⟩
  · rw [if_neg k]
    by_cases k2 : a = 0
    · rw [k2, zb_zero (by omega) hb]
      exact ⟨0, z0⟩
    · obtain ⟨c, q, h1, h2⟩ := zb_mean (a := a) (b := b) (by omega) ha (by omega) hb
      rw [h2]
      exact ⟨_, zb_bits h1, zb_long h1⟩
