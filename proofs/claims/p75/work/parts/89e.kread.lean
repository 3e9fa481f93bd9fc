set_option maxHeartbeats 400000
/-! the order's text, read by the reference -/
section
variable {K : Mem} {t : Nat → Nat} {len p ok : Nat}
theorem li49 : (49 : Int32) = nI 49 := by decide
end

