/-! the reference: weights, stocks, orders, accounts read -/
section
variable {K : Mem} {S : SM} {u : Nat}
def zs_bits (v : Nat) : Nat := fb_sm (fun j => v / 2 ^ j % 2) 12
def zs_short (S : SM) : Nat → Nat := zs_it (fun k v => if zs_miss S k ≤ 0 then v else v ||| 2 ^ k) 0
theorem zs_miss_le (g : GX u S) {k : Nat} (hk : k < 10) : zs_miss S k ≤ 99 := by
  have := g.2.1 k hk
  unfold zs_miss
  omega
theorem zn_1shl {k : Nat} (h : k < 20) : nI 1 <<< (nI k &&& nI 31) = nI (2 ^ k) := by
  have := zn_p20 (h := k) (by omega)
  rw [zn_shl (by omega) (by omega), Nat.one_mul]
theorem zs_hv_p : ∀ n, 0 < n → 0 < zs_hv S n
  | 0, h => absurd h (Nat.lt_irrefl 0)
  | n + 1, _ => by
    show 0 < (if _ then _ else _ : Nat)
    split
    · omega
    · rename_i q
      have : ¬ zs_hv S n = 0 := fun a => q (Or.inl a)
      show 0 < zs_hv S n
      omega
theorem zs_mu_p : ∀ n, 0 < n → 0 < zs_mu S 0 n
  | 0, h => absurd h (Nat.lt_irrefl 0)
  | n + 1, _ => by
    show 0 < (if _ then _ else _ : Nat)
    split
    · omega
    · rename_i q
      have : ¬ zs_mu S 0 n = 0 := fun a => q ⟨Nat.zero_testBit n, Or.inl a⟩
      show 0 < zs_mu S 0 n
      omega
end

