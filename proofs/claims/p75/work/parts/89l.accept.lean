set_option maxHeartbeats 400000
/-! an order comes -/
def zo_row (g : Nat → Nat) (r j : Nat) (W : Nat → Nat) : Nat → Nat := fun i => if r * 10 ≤ i ∧ i < r * 10 + j then W (i - r * 10) else g i
def zo_ord (S : SM) (W : Nat → Nat) : SM := sw (sw S 14 (uw (S 14) 0 (S 14 0 + 1))) 15 (zo_row (S 15) (S 14 0) 10 W)
section
variable {O K : Mem} {S : SM} {W : Nat → Nat} {u : Nat}
theorem GX.ord (g : GX u S) (h8 : S 14 0 < 8) (h1 : ∀ i, i < 10 → W i ≤ 20) (h2 : ∃ i, i < 10 ∧ 1 ≤ W i) : GX u (zo_ord S W) := by
  obtain ⟨a, b1, b2, b3, b4, b5, b6, b10, b11, b12, b13⟩ := id g
  have c14 : zo_ord S W 14 0 = S 14 0 + 1 := rfl
  have r15 : ∀ r k, k < 10 → zo_ord S W 15 (r * 10 + k) = if r = S 14 0 then W k else S 15 (r * 10 + k) := fun r k hk => by
    show (if S 14 0 * 10 ≤ r * 10 + k ∧ r * 10 + k < S 14 0 * 10 + 10 then W (r * 10 + k - S 14 0 * 10) else S 15 (r * 10 + k)) = _
    by_cases e : r = S 14 0
    · rw [if_pos (by omega), if_pos e]
      congr 1
      omega
    · rw [if_neg (by omega), if_neg e]
  refine ⟨a, b1, b2, ?_, fun r k hr hk => ?_, fun h r hr => ?_, b6, b10, b11, b12, b13⟩
  · rw [c14]
    omega
  · rw [c14] at hr
    rw [r15 r k hk]
    split
    · exact h1 k hk
    · exact b4 r k (by omega) hk
  · rw [c14] at hr
    by_cases e : r = S 14 0
    · obtain ⟨i, i1, i2⟩ := h2
      exact ⟨i, i1, by rw [r15 r i i1, if_pos e]; exact i2⟩
    · obtain ⟨i, i1, i2⟩ := b5 h r (by omega)
      exact ⟨i, i1, by rw [r15 r i i1, if_neg e]; exact i2⟩
theorem zx_add_L {r : Nat} (hr : r < 8) {g : Nat → Nat} {c0 : Nat → Int32} (hW : rn 10 (O 2) W) {kx : Mem → Int32 → Option (Int32 × Mem)} {v : Int32} {Q : Mem → Prop} (hk : ∀ N : Mem, N 0 = c0 → rn 80 (N 1) (zo_row g r 10 W) → ∃ z, kx (sr (sr O 0 (N 0)) 1 (N 1)) (nI r) = some (v, z) ∧ Q z) : ∀ d j n (N : Mem), j + d = 10 → d < n → N 0 = c0 → rn 80 (N 1) (zo_row g r j W) → ∃ z, fX3_add_L7 O n kx N (nI r) (nI j) = some (v, z) ∧ Q z := by
  intro d
  induction d with
  | zero =>
    intro j n N hj hn h0 h1
    obtain ⟨m, rfl⟩ : ∃ m, n = m + 1 := ⟨n - 1, by omega⟩
    obtain rfl : j = 10 := by omega
    rw [fX3_add_L7]
    simp (disch := omega) only [li0, li1, li2, li3, li4, li5, li6, li7, li8, li9, li10, li12, li13, li14, li15, li19, li20, li31, li33, li40, li42, li44, li48, li57, li60, li99, li100, li126, li150, li176, li177, li187, li197, li207, li208, li223, li304, li608, li1520, li1824, nI_add, pk_mul, nI_clamp, nI_leI, nI_ltI, nI_eq, zn_inb, zn_gd, zn_bs, zn_isb, not_true_eq_false, not_false_eq_true, ↓reduceIte, pk_div, pk_sub, zn_rem20, zn_rem2, zn_m1, zn_eqw, zn_weq, zn_weq2, zn_wlt0, zn_wltn, zn_win, zn_wcl, zn_wadd, Nat.not_lt_zero, Nat.one_ne_zero, Nat.zero_ne_one, Nat.le_refl, Nat.zero_le, zn_sel_r, zn_sel_l]
    exact hk N h0 h1
  | succ d ih =>
    intro j n N hj hn h0 h1
    obtain ⟨m, rfl⟩ : ∃ m, n = m + 1 := ⟨n - 1, by omega⟩
    have q : ¬ 10 ≤ j := by omega
    have ew := hW j (by omega)
    rw [fX3_add_L7]
    simp (disch := omega) only [li0, li1, li2, li3, li4, li5, li6, li7, li8, li9, li10, li12, li13, li14, li15, li19, li20, li31, li33, li40, li42, li44, li48, li57, li60, li99, li100, li126, li150, li176, li177, li187, li197, li207, li208, li223, li304, li608, li1520, li1824, nI_add, pk_mul, nI_clamp, nI_leI, nI_ltI, nI_eq, zn_inb, zn_gd, zn_bs, zn_isb, not_true_eq_false, not_false_eq_true, ↓reduceIte, pk_div, pk_sub, zn_rem20, zn_rem2, zn_m1, zn_eqw, zn_weq, zn_weq2, zn_wlt0, zn_wltn, zn_win, zn_wcl, zn_wadd, Nat.not_lt_zero, Nat.one_ne_zero, Nat.zero_ne_one, Nat.le_refl, Nat.zero_le, zn_sel_r, zn_sel_l, q, ew]
    refine ih (j + 1) m _ (by omega) (by omega) h0 (fun i hi => ?_)
    show upd (N 1) (r * 10 + j) (nI (W j)) i = _
    unfold zo_row
    by_cases e : i = r * 10 + j
    · rw [e, up_s, if_pos (by omega)]
      congr 2
      omega
    · rw [up_n e, h1 i hi]
      unfold zo_row
      by_cases b : r * 10 ≤ i ∧ i < r * 10 + j
      · rw [if_pos b, if_pos (by omega)]
      · rw [if_neg b, if_neg (by omega)]
theorem zx_add (h0 : O 0 0 = nI (S 14 0)) (h1 : rn 80 (O 1) (S 15)) (hW : rn 10 (O 2) W) (h8 : S 14 0 < 8) : ∃ z, fX3_add O = some (nI (S 14 0), z) ∧ z 0 0 = nI (S 14 0 + 1) ∧ rn 80 (z 1) (zo_row (S 15) (S 14 0) 10 W) := by
  unfold fX3_add
  rw [h0]
  refine zx_add_L (O := O) h8 (c0 := O 0) (g := S 15) hW (Q := fun z => z 0 0 = nI (S 14 0 + 1) ∧ rn 80 (z 1) (zo_row (S 15) (S 14 0) 10 W)) (fun N n0 n1 => ?_) 10 0 5000 O (by omega) (by omega) rfl (fun i hi => by
    unfold zo_row
    rw [if_neg (by omega)]
    exact h1 i hi)
  refine ⟨_, rfl, ?_, n1⟩
  show N 0 0 + (1 : Int32) = nI (S 14 0 + 1)
  rw [n0, h0]
  exact nI_add _ 1
end

