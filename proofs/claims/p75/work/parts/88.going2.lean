set_option maxHeartbeats 400000
/-! the fewest shelves, by going: the call -/
section
variable {n u : Nat} {C : Nat → Option Mem} {M K : Mem} {S : SM}
theorem zx_fewestFound_L (h : rn 80 (M 16) (S 15)) {r : Nat} (hr : r < 8) {kx : Mem → Option (Int32 × Mem)} {Q : Int32 × Mem → Prop} (hk : ∀ N : Mem, (∀ k, k < 10 → N 41 k = nI (S 15 (r * 10 + k))) → ∃ z, kx (sr M 41 (N 41)) = some z ∧ Q z) : ∀ d j n (N : Mem), j + d = 10 → d < n → (∀ k, k < j → N 41 k = nI (S 15 (r * 10 + k))) → ∃ z, fX8_fewestFound_L2 M n kx N (nI r) (nI j) = some z ∧ Q z := by
  intro d
  induction d with
  | zero =>
    intro j n N hj hn hN
    obtain ⟨m, rfl⟩ : ∃ m, n = m + 1 := ⟨n - 1, by omega⟩
    obtain rfl : j = 10 := by omega
    rw [fX8_fewestFound_L2]
    simp (disch := omega) only [li0, li1, li2, li3, li4, li5, li6, li7, li8, li9, li10, li12, li13, li14, li15, li19, li20, li31, li33, li40, li42, li44, li48, li57, li60, li99, li100, li126, li150, li176, li177, li187, li197, li207, li208, li223, li304, li608, li1520, li1824, nI_add, pk_mul, nI_clamp, nI_leI, nI_ltI, nI_eq, zn_inb, zn_gd, zn_bs, zn_isb, not_true_eq_false, not_false_eq_true, ↓reduceIte, pk_div, pk_sub, zn_rem20, zn_rem2, zn_m1, zn_eqw, zn_weq, zn_weq2, zn_wlt0, zn_wltn, zn_win, zn_wcl, zn_wadd, Nat.not_lt_zero, Nat.one_ne_zero, Nat.zero_ne_one, Nat.le_refl, Nat.zero_le, zn_sel_r, zn_sel_l]
    exact hk N hN
  | succ d ih =>
    intro j n N hj hn hN
    obtain ⟨m, rfl⟩ : ∃ m, n = m + 1 := ⟨n - 1, by omega⟩
    have c : ¬ 10 ≤ j := by omega
    have e := zx_wantedG (O := ofs 15 (sr M 41 (N 41))) (S := S) h hr (k := j) (by omega)
    rw [fX8_fewestFound_L2]
    simp (disch := omega) only [li0, li1, li2, li3, li4, li5, li6, li7, li8, li9, li10, li12, li13, li14, li15, li19, li20, li31, li33, li40, li42, li44, li48, li57, li60, li99, li100, li126, li150, li176, li177, li187, li197, li207, li208, li223, li304, li608, li1520, li1824, nI_add, pk_mul, nI_clamp, nI_leI, nI_ltI, nI_eq, zn_inb, zn_gd, zn_bs, zn_isb, not_true_eq_false, not_false_eq_true, ↓reduceIte, pk_div, pk_sub, zn_rem20, zn_rem2, zn_m1, zn_eqw, zn_weq, zn_weq2, zn_wlt0, zn_wltn, zn_win, zn_wcl, zn_wadd, Nat.not_lt_zero, Nat.one_ne_zero, Nat.zero_ne_one, Nat.le_refl, Nat.zero_le, zn_sel_r, zn_sel_l, c, e]
    refine ih (j + 1) m _ (by omega) (by omega) (fun k hk => ?_)
    show upd (N 41) j (nI (S 15 (r * 10 + j))) k = _
    by_cases e : k = j
    · rw [e, up_s]
    · rw [up_n e]
      exact hN k (by omega)
theorem zs_bits_0 : zs_bits 0 = 0 := by decide
theorem zx_fewestFound (hX : RX (ofs 1 M) S) (g : GX u S) {r v : Nat} (hr : r < S 14 0) (hv : zs_best S r v) : ∃ z, fX8_fewestFound M (nI r) = some (nI (zs_bits v), z) := by
  have h8 := g.o8
  have v12 := zs_bits_le v
  unfold fX8_fewestFound
  simp (disch := omega) only [li0, li1, li2, li3, li4, li5, li6, li7, li8, li9, li10, li12, li13, li14, li15, li19, li20, li31, li33, li40, li42, li44, li48, li57, li60, li99, li100, li126, li150, li176, li177, li187, li197, li207, li208, li223, li304, li608, li1520, li1824, nI_add, pk_mul, nI_clamp, nI_leI, nI_ltI, nI_eq, zn_inb, zn_gd, zn_bs, zn_isb, not_true_eq_false, not_false_eq_true, ↓reduceIte, pk_div, pk_sub, zn_rem20, zn_rem2, zn_m1, zn_eqw, zn_weq, zn_weq2, zn_wlt0, zn_wltn, zn_win, zn_wcl, zn_wadd, Nat.not_lt_zero, Nat.one_ne_zero, Nat.zero_ne_one, Nat.le_refl, Nat.zero_le, zn_sel_r, zn_sel_l]
  obtain ⟨z, e1, e2⟩ := zx_fewestFound_L (M := M) (S := S) hX.r15 (r := r) (by omega) (kx := fun (N : Mem) => (fX8_fewestFrom 14 (pk [2, 3, 4, 5, 6, 41] (sr M 41 (N 41))) (nI 0) (nI 0) (nI 13)).bind fun r47 => some (r47.1, (sr M 41 (r47.2 5)))) (Q := fun z => z.1 = nI (zs_bits v)) (fun N hN => by
    obtain ⟨res, z, e1, e2, e3, e4, e5⟩ := zg_from g hr 14 0 0 13 (pk [2, 3, 4, 5, 6, 41] (sr M 41 (N 41))) hX.t (by have := g.c12; omega) (Nat.zero_le _) (by decide) (by rw [zs_bits_0]; decide) (Nat.le_refl _) (fun k hk => by
      rw [zs_sum_0, show ∀ x : Int32, x - nI 0 = x from fun x => Int32.sub_zero x]
      exact hN k hk)
    rw [zs_bits_0] at e1
    have h1 := e4 v ⟨hv.1, fun j hj => absurd hj (Nat.not_lt_zero _)⟩ hv.2.1
    have h2 : res = zs_bits v := by
      rcases e5 with a | ⟨T', y1, y2, y3⟩
      · omega
      · have := hv.2.2 T' y1.1 y2
        omega
    refine ⟨(nI res, sr M 41 (z 5)), ?_, congrArg nI h2⟩
    show ((fX8_fewestFrom 14 (pk [2, 3, 4, 5, 6, 41] (sr M 41 (N 41))) (nI 0) (nI 0) (nI 13)).bind fun r47 => some (r47.1, (sr M 41 (r47.2 5)))) = _
    rw [e1]
    rfl) 10 0 5000 M (by omega) (by omega) (fun k hk => absurd hk (Nat.not_lt_zero _))
  obtain ⟨z1, z2⟩ := z
  have e2 : z1 = nI (zs_bits v) := e2
  subst e2
  exact ⟨z2, e1⟩
theorem ZI.r41 {x : Nat → Int32} (h : ZI n C M K) : ZI n C (sr M 41 x) K := by
  obtain ⟨S, T, hc, ⟨a, b, c, d⟩, e, f⟩ := h
  exact ⟨S, T, hc, ⟨a.of rfl rfl rfl rfl rfl rfl rfl rfl rfl rfl rfl rfl rfl rfl rfl , b, c, d⟩, e, f⟩

end

