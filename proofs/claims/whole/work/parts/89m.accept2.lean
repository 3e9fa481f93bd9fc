set_option maxHeartbeats 400000
/-! an order comes, the reference's side -/
section
variable {K : Mem} {S : SM} {W : Nat → Nat} {u : Nat}
theorem zk_accept_L {r : Nat} (hr : r < 8) {c0 c3 s1 : Nat → Int32} {kx : Mem → Int32 → Option (Int32 × Mem)} {v : Int32} {Q : Mem → Prop} {c7 : Nat → Int32} (hW : rn 10 c7 W) (hk : ∀ N : Mem, N 0 = c0 → N 3 = c3 → N 7 = c7 → (∀ i, N 1 i = if 223 + 10 * r ≤ i ∧ i < 223 + 10 * r + 10 then nI (W (i - (223 + 10 * r))) else s1 i) → ∃ z, kx (sr (sr (sr (sr K 0 (N 0)) 1 (N 1)) 3 (N 3)) 7 (N 7)) (nI r) = some (v, z) ∧ Q z) : ∀ d j n (N : Mem), j + d = 10 → d < n → N 0 = c0 → N 3 = c3 → N 7 = c7 → (∀ i, N 1 i = if 223 + 10 * r ≤ i ∧ i < 223 + 10 * r + j then nI (W (i - (223 + 10 * r))) else s1 i) → ∃ z, fX9_accept_L61 K n kx N (nI r) (nI j) = some (v, z) ∧ Q z := by
  intro d
  induction d with
  | zero =>
    intro j n N hj hn h0 h3 h7 h1
    obtain ⟨m, rfl⟩ : ∃ m, n = m + 1 := ⟨n - 1, by omega⟩
    obtain rfl : j = 10 := by omega
    rw [fX9_accept_L61]
    simp (disch := omega) only [li0, li1, li2, li3, li4, li5, li6, li7, li8, li9, li10, li12, li13, li14, li15, li19, li20, li31, li33, li40, li42, li44, li48, li57, li60, li99, li100, li126, li150, li176, li177, li187, li197, li207, li208, li223, li304, li608, li1520, li1824, nI_add, pk_mul, nI_clamp, nI_leI, nI_ltI, nI_eq, zn_inb, zn_gd, zn_bs, zn_isb, not_true_eq_false, not_false_eq_true, ↓reduceIte, pk_div, pk_sub, zn_rem20, zn_rem2, zn_m1, zn_eqw, zn_weq, zn_weq2, zn_wlt0, zn_wltn, zn_win, zn_wcl, zn_wadd, Nat.not_lt_zero, Nat.one_ne_zero, Nat.zero_ne_one, Nat.le_refl, Nat.zero_le, zn_sel_r, zn_sel_l]
    exact hk N h0 h3 h7 h1
  | succ d ih =>
    intro j n N hj hn h0 h3 h7 h1
    obtain ⟨m, rfl⟩ : ∃ m, n = m + 1 := ⟨n - 1, by omega⟩
    have q : ¬ 10 ≤ j := by omega
    have ew : N 7 j = nI (W j) := by rw [h7]; exact hW j (by omega)
    rw [fX9_accept_L61]
    simp (disch := omega) only [li0, li1, li2, li3, li4, li5, li6, li7, li8, li9, li10, li12, li13, li14, li15, li19, li20, li31, li33, li40, li42, li44, li48, li57, li60, li99, li100, li126, li150, li176, li177, li187, li197, li207, li208, li223, li304, li608, li1520, li1824, nI_add, pk_mul, nI_clamp, nI_leI, nI_ltI, nI_eq, zn_inb, zn_gd, zn_bs, zn_isb, not_true_eq_false, not_false_eq_true, ↓reduceIte, pk_div, pk_sub, zn_rem20, zn_rem2, zn_m1, zn_eqw, zn_weq, zn_weq2, zn_wlt0, zn_wltn, zn_win, zn_wcl, zn_wadd, Nat.not_lt_zero, Nat.one_ne_zero, Nat.zero_ne_one, Nat.le_refl, Nat.zero_le, zn_sel_r, zn_sel_l, q, ew]
    refine ih (j + 1) m _ (by omega) (by omega) h0 h3 h7 (fun i => ?_)
    show upd (N 1) (223 + 10 * r + j) (nI (W j)) i = _
    by_cases e : i = 223 + 10 * r + j
    · rw [e, up_s, if_pos (by omega)]
      congr 2
      omega
    · rw [up_n e, h1 i]
      by_cases b : 223 + 10 * r ≤ i ∧ i < 223 + 10 * r + j
      · rw [if_pos b, if_pos (by omega)]
      · rw [if_neg b, if_neg (by omega)]
theorem RK.ord {s t : Nat → Int32} (h : RK s S) (hc : S 1 0 ≤ 12) (h8 : S 14 0 < 8) (e : ∀ i, t i = if 223 + 10 * S 14 0 ≤ i ∧ i < 223 + 10 * S 14 0 + 10 then nI (W (i - (223 + 10 * S 14 0))) else upd s 8 (nI (S 14 0 + 1)) i) : RK t (zo_ord S W) := by
  have lo : ∀ i, i ≠ 8 → ¬ (223 + 10 * S 14 0 ≤ i ∧ i < 223 + 10 * S 14 0 + 10) → t i = s i := fun i h0 h1 => by
    rw [e, if_neg h1, up_n h0]
  exact ⟨((lo _ (by omega) (by omega)).trans h.1), ((lo _ (by omega) (by omega)).trans h.2.1), fun f hf => have hf : f < S 1 0 := hf; ⟨((lo _ (by omega) (by omega)).trans (h.2.2.1 f hf).1), ((lo _ (by omega) (by omega)).trans (h.2.2.1 f hf).2.1), ((lo _ (by omega) (by omega)).trans (h.2.2.1 f hf).2.2.1), ((lo _ (by omega) (by omega)).trans (h.2.2.1 f hf).2.2.2)⟩, fun f k hf hk => have hf : f < S 1 0 := hf; ((lo _ (by omega) (by omega)).trans (h.2.2.2.1 f k hf hk)), ⟨((lo _ (by omega) (by omega)).trans h.2.2.2.2.1.1), ((lo _ (by omega) (by omega)).trans h.2.2.2.2.1.2.1), ((lo _ (by omega) (by omega)).trans h.2.2.2.2.1.2.2.1), ((lo _ (by omega) (by omega)).trans h.2.2.2.2.1.2.2.2.1), ((lo _ (by omega) (by omega)).trans h.2.2.2.2.1.2.2.2.2.1), ((lo _ (by omega) (by omega)).trans h.2.2.2.2.1.2.2.2.2.2.1), ((e 8).trans (by rw [if_neg (by omega)]; exact up_s _ _ _))⟩, fun k hk => ⟨((lo _ (by omega) (by omega)).trans (h.2.2.2.2.2.1 k hk).1), ((lo _ (by omega) (by omega)).trans (h.2.2.2.2.2.1 k hk).2.1), ((lo _ (by omega) (by omega)).trans (h.2.2.2.2.2.1 k hk).2.2)⟩, fun i hi => ⟨((lo _ (by omega) (by omega)).trans (h.2.2.2.2.2.2.1 i hi).1), ((lo _ (by omega) (by omega)).trans (h.2.2.2.2.2.2.1 i hi).2)⟩, fun r k hr hk => have hr : r < S 14 0 + 1 := hr; (by
  show _ = nI (if S 14 0 * 10 ≤ r * 10 + k ∧ r * 10 + k < S 14 0 * 10 + 10 then W (r * 10 + k - S 14 0 * 10) else S 15 (r * 10 + k))
  by_cases q : r = S 14 0
  · rw [if_pos (by omega), e, if_pos (by omega)]
    congr 2
    omega
  · rw [if_neg (by omega)]
    exact (lo _ (by omega) (by omega)).trans (h.2.2.2.2.2.2.2 r k (by omega) hk))⟩
end
