set_option maxHeartbeats 400000
/-! the calls that change nothing: more of them -/
theorem fb_sm_swap (G : Nat → Nat → Nat) (m : Nat) : ∀ n, fb_sm (fun p => fb_sm (fun f => G p f) m) n = fb_sm (fun f => fb_sm (fun p => G p f) n) m
  | 0 => by
    have := fb_sm_const 0 m
    rw [Nat.mul_zero] at this
    exact this.symm
  | n + 1 => by
    rw [fb_sm_succ, fb_sm_swap G m n, ← fb_sm_add]
    rfl
theorem zs_oc_sum {S : SM} (g : GT S) {p : Nat} (hp : p < 40) : (bif zs_tq S p then 0 else 1) + fb_sm (fun f => if zs_oc S p f = true then 1 else 0) (S 1 0) = 1 := by
  have key : ∀ n, n ≤ S 1 0 → fb_sm (fun f => if zs_oc S p f = true then 1 else 0) n = if zs_any (zs_oc S p) n 0 = true then 1 else 0 := by
    intro n
    induction n with
    | zero => intro _; rfl
    | succ n ih =>
      intro hn
      rw [fb_sm_succ, ih (by omega)]
      by_cases a : zs_any (zs_oc S p) n 0 = true
      · obtain ⟨j, hj, hq⟩ := zs_any0.mp a
        have b : ¬ zs_oc S p n = true := fun q => by
          have := zs_oc_one g.k hp (by omega) (by omega) hq q
          omega
        rw [if_pos a, if_neg b, if_pos (zs_any0.mpr ⟨j, by omega, hq⟩)]
      · rw [if_neg a]
        by_cases b : zs_oc S p n = true
        · rw [if_pos b, if_pos (zs_any0.mpr ⟨n, by omega, b⟩)]
        · rw [if_neg b, if_neg]
          intro q
          obtain ⟨j, hj, hq⟩ := zs_any0.mp q
          by_cases e : j = n
          · rw [e] at hq
            exact b hq
          · exact a (zs_any0.mpr ⟨j, by omega, hq⟩)
  rw [key _ (Nat.le_refl _)]
  unfold zs_tq
  cases zs_any (zs_oc S p) (S 1 0) 0 <;> rfl
theorem zs_run {a w : Nat} : ∀ n, fb_sm (fun p => if a ≤ p ∧ p < a + w then 1 else 0) n = if n ≤ a then 0 else if n ≤ a + w then n - a else w
  | 0 => by rw [if_pos (Nat.zero_le _)]; rfl
  | n + 1 => by
    rw [fb_sm_succ, zs_run n]
    by_cases h1 : n < a
    · rw [if_pos (by omega), if_neg (by omega), if_pos (by omega)]
    · by_cases h2 : n < a + w
      · rw [if_pos (show a ≤ n ∧ n < a + w by omega), if_neg (show ¬ n + 1 ≤ a by omega), if_pos (show n + 1 ≤ a + w by omega)]
        by_cases h3 : n ≤ a
        · rw [if_pos h3]
          omega
        · rw [if_neg h3, if_pos (by omega)]
          omega
      · rw [if_neg (show ¬ (a ≤ n ∧ n < a + w) by omega)]
        by_cases h3 : n ≤ a
        · rw [if_pos h3]
          by_cases h4 : n + 1 ≤ a
          · rw [if_pos h4]
          · rw [if_neg h4]
            by_cases h5 : n + 1 ≤ a + w
            · omega
            · rw [if_neg h5]
              omega
        · rw [if_neg h3, if_neg (show ¬ n + 1 ≤ a by omega)]
          by_cases h5 : n ≤ a + w
          · rw [if_pos h5]
            rw [if_neg (by omega)]
            omega
          · rw [if_neg h5, if_neg (by omega), Nat.add_zero]
theorem zs_free_heights {S : SM} (g : GT S) : zs_fm S 40 + zs_hs S (S 1 0) = 40 := by
  have h1 : zs_hs S (S 1 0) = fb_sm (fun p => fb_sm (fun f => if zs_oc S p f = true then 1 else 0) (S 1 0)) 40 := by
    rw [fb_sm_swap]
    refine fb_sm_cong (fun f hf => ?_)
    have b := g.2.2.1 f hf
    by_cases c : S 1 1 = f + 1
    · simp only [if_pos c]
      have e : fb_sm (fun p => if zs_oc S p f = true then 1 else 0) 40 = fb_sm (fun _ => 0) 40 := fb_sm_cong (fun p _ => if_neg (by rw [show zs_oc S p f = false from decide_eq_false (fun a => a.1 c)]; decide))
      rw [e, fb_sm_const]
    · simp only [if_neg c]
      have e : fb_sm (fun p => if zs_oc S p f = true then 1 else 0) 40 = fb_sm (fun p => if S 3 f ≤ p ∧ p < S 3 f + S 2 f then 1 else 0) 40 := fb_sm_cong (fun p _ => by
        unfold zs_oc
        by_cases q : S 3 f ≤ p ∧ p < S 3 f + S 2 f
        · rw [if_pos q, if_pos (decide_eq_true ⟨c, q⟩)]
        · rw [if_neg q, if_neg (by rw [decide_eq_false (fun a => q a.2)]; decide)])
      rw [e, zs_run, if_neg (by omega)]
      by_cases q : 40 ≤ S 3 f + S 2 f
      · rw [if_pos q]
        omega
      · rw [if_neg q]
  rw [h1]
  unfold zs_fm
  rw [← fb_sm_add]
  have e : fb_sm (fun p => (bif zs_tq S p then 0 else 1) + fb_sm (fun f => if zs_oc S p f = true then 1 else 0) (S 1 0)) 40 = fb_sm (fun _ => 1) 40 := fb_sm_cong (fun p hp => zs_oc_sum g hp)
  rw [e, fb_sm_const]
theorem zs_free_sides (S : SM) : zs_cf (zs_tq S) 0 20 + zs_cf (zs_tq S) 1 20 = zs_fm S 40 := by
  unfold zs_fm zs_cf
  rw [show (40 : Nat) = 20 + 20 from rfl, fb_sm_split (fun p => bif zs_tq S p then 0 else 1) 20 20]
  congr 1
theorem zx_shortKinds_L {M : Mem} {S : SM} {u : Nat} (h : RX (ofs 1 M) S) (g : GX u S) (kx : Int32 → Option Int32) : ∀ d k n, k + d = 10 → d < n → fX8_shortKinds_L4 M n kx (nI (zs_short S k)) (nI k) = kx (nI (zs_short S 10)) := by
  intro d
  induction d with
  | zero =>
    intro k n hk_ hn
    obtain ⟨m, rfl⟩ : ∃ m, n = m + 1 := ⟨n - 1, by omega⟩
    have c : 10 ≤ k := by omega
    have ef : k = 10 := by omega
    rw [fX8_shortKinds_L4]
    simp (disch := omega) only [li0, li1, li2, li3, li4, li5, li6, li7, li8, li9, li10, li12, li13, li14, li15, li19, li20, li31, li33, li40, li42, li44, li48, li57, li60, li99, li100, li126, li150, li176, li177, li187, li197, li207, li208, li223, li304, li608, li1520, li1824, nI_add, pk_mul, nI_clamp, nI_leI, nI_ltI, nI_eq, zn_inb, zn_gd, zn_bs, zn_isb, not_true_eq_false, not_false_eq_true, ↓reduceIte, pk_div, pk_sub, zn_rem20, zn_rem2, zn_m1, zn_eqw, zn_weq, zn_weq2, zn_wlt0, zn_wltn, zn_win, zn_wcl, zn_wadd, Nat.not_lt_zero, Nat.one_ne_zero, Nat.zero_ne_one, Nat.le_refl, Nat.zero_le, zn_sel_r, zn_sel_l, c]
    try rw [ef]
    try rfl
  | succ d ih =>
    intro k n hk_ hn
    obtain ⟨m, rfl⟩ : ∃ m, n = m + 1 := ⟨n - 1, by omega⟩
    have c : ¬ 10 ≤ k := by omega
    have ih1 := ih (k + 1) m (by omega) (by omega)
    have e := zx_missing h g (k := k) (by omega)
    have b := zs_miss_le g (k := k) (by omega)
    have e2 := zn_1shl (k := k) (by omega)
    rw [show zs_short S (k + 1) = if zs_miss S k ≤ 0 then zs_short S k else zs_short S k ||| 2 ^ k from rfl] at ih1
    rw [fX8_shortKinds_L4]
    by_cases z : zs_miss S k ≤ 0
    · rw [if_pos z] at ih1
      simp (disch := omega) only [li0, li1, li2, li3, li4, li5, li6, li7, li8, li9, li10, li12, li13, li14, li15, li19, li20, li31, li33, li40, li42, li44, li48, li57, li60, li99, li100, li126, li150, li176, li177, li187, li197, li207, li208, li223, li304, li608, li1520, li1824, nI_add, pk_mul, nI_clamp, nI_leI, nI_ltI, nI_eq, zn_inb, zn_gd, zn_bs, zn_isb, not_true_eq_false, not_false_eq_true, ↓reduceIte, pk_div, pk_sub, zn_rem20, zn_rem2, zn_m1, zn_eqw, zn_weq, zn_weq2, zn_wlt0, zn_wltn, zn_win, zn_wcl, zn_wadd, Nat.not_lt_zero, Nat.one_ne_zero, Nat.zero_ne_one, Nat.le_refl, Nat.zero_le, zn_sel_r, zn_sel_l, c, e, z, fX8_shortKinds_B27]
      exact ih1
    · rw [if_neg z] at ih1
      simp (disch := omega) only [li0, li1, li2, li3, li4, li5, li6, li7, li8, li9, li10, li12, li13, li14, li15, li19, li20, li31, li33, li40, li42, li44, li48, li57, li60, li99, li100, li126, li150, li176, li177, li187, li197, li207, li208, li223, li304, li608, li1520, li1824, nI_add, pk_mul, nI_clamp, nI_leI, nI_ltI, nI_eq, zn_inb, zn_gd, zn_bs, zn_isb, not_true_eq_false, not_false_eq_true, ↓reduceIte, pk_div, pk_sub, zn_rem20, zn_rem2, zn_m1, zn_eqw, zn_weq, zn_weq2, zn_wlt0, zn_wltn, zn_win, zn_wcl, zn_wadd, Nat.not_lt_zero, Nat.one_ne_zero, Nat.zero_ne_one, Nat.le_refl, Nat.zero_le, zn_sel_r, zn_sel_l, c, e, z, e2, fX8_shortKinds_B27, zn_or]
      exact ih1
theorem zx_shortKinds {M : Mem} {S : SM} {u : Nat} (h : RX (ofs 1 M) S) (g : GX u S) : fX8_shortKinds M = some (nI (zs_short S 10)) := by
  unfold fX8_shortKinds
  exact zx_shortKinds_L h g (fun (l1 : Int32) => some l1) 10 0 5000 (by omega) (by omega)
