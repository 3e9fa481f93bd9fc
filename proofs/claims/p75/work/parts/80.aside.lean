set_option maxHeartbeats 400000
/-! calls that work on a copy, or aside -/
section
variable {n : Nat} {C : Nat → Option Mem} {M K M' K' : Mem} {S S' : SM} {T : Nat → SM} {hc : Nat}
theorem zr_srv (hX : RX (ofs 1 M) S) {u r : Nat} (g : GX u S) (hr : r < S 14 0) : fX8_requireServable M (nI r) = some (if zs_can S r = true then .inr () else .inl "java/lang/IllegalStateException") := by
  have e := zx_isServable hX g hr
  unfold fX8_requireServable
  rw [e, zn_bs]
  cases zs_can S r
  · rfl
  · rfl
end
