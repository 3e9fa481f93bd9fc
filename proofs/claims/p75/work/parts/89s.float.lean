set_option maxHeartbeats 400000
/-! a double's bits, told by halving and doubling -/
def ZN (c : Nat) (q : Int) : Prop := 2 ^ 52 ≤ c ∧ c < 2 ^ 53 ∧ -1074 ≤ q ∧ q ≤ 971
