set_option maxHeartbeats 400000
/-! what holds after n calls; the ways in which a call ends -/
def ZS (n : Nat) (M1 : Mem) (k1 : Nat → Int32) (S : SM) : Prop := RX M1 S ∧ RK k1 S ∧ GX (192 * n) S ∧ S 99 0 = 0
def ZH (n : Nat) (C : Nat → Option Mem) (m33 : Nat → Int32) (k04 : Int32) (k3 k4 k5 : Nat → Int32) (T : Nat → SM) (hc : Nat) : Prop := m33 0 = nI hc ∧ k04 = nI hc ∧ hc ≤ 6 ∧ (∀ i, i < hc → ∃ N, C i = some N ∧ ZS n N (fun j => k3 (304 * i + j)) (T i)) ∧ (∀ i, i < 2 → (C (6 + i) = none ∧ k5 i = nI 0) ∨ (∃ N, C (6 + i) = some N ∧ k5 i = nI 1 ∧ ZS n N (fun j => k4 (304 * i + j)) (T (6 + i))))
def ZB (m36 m37 : Nat → Int32) (k08 : Int32) (k6 : Nat → Int32) : Prop := ∃ len, len ≤ 60 ∧ m36 0 = nI len ∧ k08 = nI len ∧ ∀ i, i < len → ∃ c, 33 ≤ c ∧ c ≤ 126 ∧ m37 i = nI c ∧ k6 i = nI c
def ZI (n : Nat) (C : Nat → Option Mem) (M K : Mem) : Prop := ∃ (S : SM) (T : Nat → SM) (hc : Nat), ZS n (ofs 1 M) (K 1) S ∧ ZH n C (M 33) (K 0 4) (K 3) (K 4) (K 5) T hc ∧ ZB (M 36) (M 37) (K 0 8) (K 6)
section
variable {n : Nat} {C : Nat → Option Mem} {M K : Mem} {S : SM} {u : Nat}
/-! arguments in and out of range -/
theorem zr_win (hX : RX (ofs 1 M) S) (hw : S 1 1 ≤ 12) : fX8_requireEmptyWindow M = some (if S 1 1 = 0 then .inr () else .inl "java/lang/IllegalStateException") := by
  have e1 : M 2 1 = wI (S 1 1) := hX.w
  unfold fX8_requireEmptyWindow
  by_cases c : S 1 1 = 0
  · rw [e1, if_pos c, c, if_pos (show wI 0 = -1 from rfl)]
  · rw [e1, if_neg c, if_neg (by rw [← wI_0, zn_weq (by omega) (by omega)]; exact c)]
theorem zr_at (hX : RX (ofs 1 M) S) (hc : S 1 0 ≤ 12) (hw : S 1 1 ≤ S 1 0) : fX8_requireShelfAtWindow M = some (if S 1 1 = 0 then .inl "java/lang/IllegalStateException" else .inr ()) := by
  have e1 : M 2 1 = wI (S 1 1) := hX.w
  have e2 : M 2 0 = nI (S 1 0) := hX.c
  unfold fX8_requireShelfAtWindow
  by_cases c : S 1 1 = 0
  · rw [e1, if_pos c, c, if_pos (show wI 0 < 0 by decide)]
    rfl
  · rw [e1, e2, if_neg c, wI_p (by omega), if_neg (nI_pos (by omega)), if_pos (nI_lt (by omega) (by omega))]
end

