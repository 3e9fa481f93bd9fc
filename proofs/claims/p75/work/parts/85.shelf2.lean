set_option maxHeartbeats 400000
/-! a shelf comes, a shelf goes: the calls -/
theorem zo_nm1 {p : Nat} (h : p < 2 ^ 30) : ¬ nI p = (-1 : Int32) := fun e => by
  have := (zn_weq2 (f := p) (w := 0) h (by omega)).mp (wI_0.trans e.symm)
  omega
section
variable {n u : Nat} {C : Nat → Option Mem} {M K : Mem} {S : SM}
end

