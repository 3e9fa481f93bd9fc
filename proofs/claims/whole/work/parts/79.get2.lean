set_option maxHeartbeats 400000
/-! the calls that change nothing: more of them -/
theorem fb_sm_swap (G : Nat → Nat → Nat) (m : Nat) : ∀ n, fb_sm (fun p => fb_sm (fun f => G p f) m) n = fb_sm (fun f => fb_sm (fun p => G p f) n) m
  | 0 => by
    have := fb_sm_const 0 m
    rw [Nat.mul_zero] at this
    exact this.symm
  | n + 1 => by
    rw [fb_sm_succ, fb_sm_swap G m n, ← fb_sm_add]
    rfl
theorem zs_oc_sum {S : SM} (g : GT S) {p : Nat} (hp : p < 40) : (bif zs_tq S p then 0 else 1) + fb_sm (fun f => if zs_oc S p f = true then 1 else 0) (S 1 0) = 1 := by
  have key : ∀ n, n ≤ S 1 0 → fb_sm (fun f => if zs_oc S p f = true then 1 else 0) n = if zs_any (zs_oc S p) n 0 = true then 1 else 0 := by
    intro n
    induction n with
    | zero => intro _; rfl
    | succ n ih =>
      intro hn
      rw [fb_sm_succ, ih (by omega)]
      by_cases a : zs_any (zs_oc S p) n 0 = true
      · obtain ⟨j, hj, hq⟩ := zs_any0.mp a
        have b : ¬ zs_oc S p n = true := fun q => by
          have := zs_oc_one g.k hp (by omega) (by omega) hq q
          omega
        rw [if_pos a, if_neg b, if_pos (zs_any0.mpr ⟨j, by omega, hq⟩)]
      · rw [if_neg a]
        by_cases b : zs_oc S p n = true
        · rw [if_pos b, if_pos (zs_any0.mpr ⟨n, by omega, b⟩)]
        · rw [if_neg b, if_neg]
          intro q
          obtain ⟨j, hj, hq⟩ := zs_any0.mp q
          by_cases e : j = n
          · rw [e] at hq
            exact b hq
          · exact a (zs_any0.mpr ⟨j, by omega, hq⟩)
  rw [key _ (Nat.le_refl _)]
  unfold zs_tq
  cases zs_any (zs_oc S p) (S 1 0) 0 <;> rfl
theorem zs_run {a w : Nat} : ∀ n, fb_sm (fun p => if a ≤ p ∧ p < a + w then 1 else 0) n = if n ≤ a then 0 else if n ≤ a + w then n - a else w
  | 0 => by rw [if_pos (Nat.zero_le _)]; rfl
  | n + 1 => by
    rw [fb_sm_succ, zs_run n]
    by_cases h1 : n < a
    · rw [if_pos (by omega), if_neg (by omega), if_pos (by omega)]
    · by_cases h2 : n < a + w
      · rw [if_pos (show a ≤ n ∧ n < a + w by omega), if_neg (show ¬ n + 1 ≤ a by omega), if_pos (show n + 1 ≤ a + w by omega)]
        by_cases h3 : n ≤ a
        · rw [if_pos h3]
          omega
        · rw [if_neg h3, if_pos (by omega)]
          omega
      · rw [if_neg (show ¬ (a ≤ n ∧ n < a + w) by omega)]
        by_cases h3 : n ≤ a
        · rw [if_pos h3]
          by_cases h4 : n + 1 ≤ a
          · rw [if_pos h4]
          · rw [if_neg h4]
            by_cases h5 : n + 1 ≤ a + w
            · omega
            · rw [if_neg h5]
              omega
        · rw [if_neg h3, if_neg (show ¬ n + 1 ≤ a by omega)]
          by_cases h5 : n ≤ a + w
          · rw [if_pos h5]
            rw [if_neg (by omega)]
            omega
          · rw [if_neg h5, if_neg (by omega), Nat.add_zero]
theorem zs_free_heights {S : SM} (g : GT S) : zs_fm S 40 + zs_hs S (S 1 0) = 40 := by
  have h1 : zs_hs S (S 1 0) = fb_sm (fun p => fb_sm (fun f => if zs_oc S p f = true then 1 else 0) (S 1 0)) 40 := by
    rw [fb_sm_swap]
    refine fb_sm_cong (fun f hf => ?_)
    have b := g.2.2.1 f hf
    by_cases c : S 1 1 = f + 1
    · simp only [if_pos c]
      have e : fb_sm (fun p => if zs_oc S p f = true then 1 else 0) 40 = fb_sm (fun _ => 0) 40 := fb_sm_cong (fun p _ => if_neg (by rw [show zs_oc S p f = false from decide_eq_false (fun a => a.1 c)]; decide))
      rw [e, fb_sm_const]
    · simp only [if_neg c]
      have e : fb_sm (fun p => if zs_oc S p f = true then 1 else 0) 40 = fb_sm (fun p => if S 3 f ≤ p ∧ p < S 3 f + S 2 f then 1 else 0) 40 := fb_sm_cong (fun p _ => by
        unfold zs_oc
        by_cases q : S 3 f ≤ p ∧ p < S 3 f + S 2 f
        · rw [if_pos q, if_pos (decide_eq_true ⟨c, q⟩)]
        · rw [if_neg q, if_neg (by rw [decide_eq_false (fun a => q a.2)]; decide)])
      rw [e, zs_run, if_neg (by omega)]
      by_cases q : 40 ≤ S 3 f + S 2 f
      · rw [if_pos q]
        omega
      · rw [if_neg q]
  rw [h1]
  unfold zs_fm
  rw [← fb_sm_add]
  have e : fb_sm (fun p => (bif zs_tq S p then 0 else 1) + fb_sm (fun f => if zs_oc S p f = true then 1 else 0) (S 1 0)) 40 = fb_sm (fun _ => 1) 40 := fb_sm_cong (fun p hp => zs_oc_sum g hp)
  rw [e, fb_sm_const]
theorem zs_free_sides (S : SM) : zs_cf (zs_tq S) 0 20 + zs_cf (zs_tq S) 1 20 = zs_fm S 40 := by
  unfold zs_fm zs_cf
  rw [show (40 : Nat) = 20 + 20 from rfl, fb_sm_split (fun p => bif zs_tq S p then 0 else 1) 20 20]
  congr 1
theorem zr_height (M : Mem) (a : Int32) : (∃ w, 1 ≤ w ∧ w ≤ 4 ∧ a = nI w ∧ fX8_requireHeight M a = some (.inr ()) ∧ fX9_in a (nI 1) (nI 4) = some (nI 1)) ∨ (fX8_requireHeight M a = some (.inl "java/lang/IllegalArgumentException") ∧ fX9_in a (nI 1) (nI 4) = some (nI 0)) := by
  rcases zr_in (lo := 1) (hi := 4) (by omega) (by omega) (by omega) a with ⟨w, h1, h2, rfl, e⟩ | ⟨e, h⟩
  · left
    refine ⟨w, h1, h2, rfl, ?_, e⟩
    unfold fX8_requireHeight
    rw [show (1 : Int32) = nI 1 from rfl, show (4 : Int32) = nI 4 from rfl, if_neg (nI_nlt h1 (by omega)), if_pos (nI_le h2 (by omega))]
  · right
    refine ⟨?_, e⟩
    unfold fX8_requireHeight fX8_requireHeight_B10
    rw [show (1 : Int32) = nI 1 from rfl, show (4 : Int32) = nI 4 from rfl]
    rcases h with h | h
    · exact if_pos h
    · by_cases q : a < nI 1
      · exact if_pos q
      · rw [if_neg q, if_neg (fun r => Int32.lt_irrefl (Int32.lt_of_le_of_lt r h))]
theorem zx_shortKinds_L {M : Mem} {S : SM} {u : Nat} (h : RX (ofs 1 M) S) (g : GX u S) (kx : Int32 → Option Int32) : ∀ d k n, k + d = 10 → d < n → fX8_shortKinds_L4 M n kx (nI (zs_short S k)) (nI k) = kx (nI (zs_short S 10)) := by
  intro d
  induction d with
  | zero =>
    intro k n hk_ hn
    obtain ⟨m, rfl⟩ : ∃ m, n = m + 1 := ⟨n - 1, by omega⟩
    have c : 10 ≤ k := by omega
    have ef : k = 10 := by omega
    rw [fX8_shortKinds_L4]
    simp (disch := omega) only [li0, li1, li2, li3, li4, li5, li6, li7, li8, li9, li10, li12, li13, li14, li15, li19, li20, li31, li33, li40, li42, li44, li48, li57, li60, li99, li100, li126, li150, li176, li177, li187, li197, li207, li208, li223, li304, li608, li1520, li1824, nI_add, pk_mul, nI_clamp, nI_leI, nI_ltI, nI_eq, zn_inb, zn_gd, zn_bs, zn_isb, not_true_eq_false, not_false_eq_true, ↓reduceIte, pk_div, pk_sub, zn_rem20, zn_rem2, zn_m1, zn_eqw, zn_weq, zn_weq2, zn_wlt0, zn_wltn, zn_win, zn_wcl, zn_wadd, Nat.not_lt_zero, Nat.one_ne_zero, Nat.zero_ne_one, Nat.le_refl, Nat.zero_le, zn_sel_r, zn_sel_l, c]
    try rw [ef]
    try rfl
  | succ d ih =>
    intro k n hk_ hn
    obtain ⟨m, rfl⟩ : ∃ m, n = m + 1 := ⟨n - 1, by omega⟩
    have c : ¬ 10 ≤ k := by omega
    have ih1 := ih (k + 1) m (by omega) (by omega)
    have e := zx_missing h g (k := k) (by omega)
    have b := zs_miss_le g (k := k) (by omega)
    have e2 := zn_1shl (k := k) (by omega)
    rw [show zs_short S (k + 1) = if zs_miss S k ≤ 0 then zs_short S k else zs_short S k ||| 2 ^ k from rfl] at ih1
    rw [fX8_shortKinds_L4]
    by_cases z : zs_miss S k ≤ 0
    · rw [if_pos z] at ih1
      simp (disch := omega) only [li0, li1, li2, li3, li4, li5, li6, li7, li8, li9, li10, li12, li13, li14, li15, li19, li20, li31, li33, li40, li42, li44, li48, li57, li60, li99, li100, li126, li150, li176, li177, li187, li197, li207, li208, li223, li304, li608, li1520, li1824, nI_add, pk_mul, nI_clamp, nI_leI, nI_ltI, nI_eq, zn_inb, zn_gd, zn_bs, zn_isb, not_true_eq_false, not_false_eq_true, ↓reduceIte, pk_div, pk_sub, zn_rem20, zn_rem2, zn_m1, zn_eqw, zn_weq, zn_weq2, zn_wlt0, zn_wltn, zn_win, zn_wcl, zn_wadd, Nat.not_lt_zero, Nat.one_ne_zero, Nat.zero_ne_one, Nat.le_refl, Nat.zero_le, zn_sel_r, zn_sel_l, c, e, z, fX8_shortKinds_B27]
      exact ih1
    · rw [if_neg z] at ih1
      simp (disch := omega) only [li0, li1, li2, li3, li4, li5, li6, li7, li8, li9, li10, li12, li13, li14, li15, li19, li20, li31, li33, li40, li42, li44, li48, li57, li60, li99, li100, li126, li150, li176, li177, li187, li197, li207, li208, li223, li304, li608, li1520, li1824, nI_add, pk_mul, nI_clamp, nI_leI, nI_ltI, nI_eq, zn_inb, zn_gd, zn_bs, zn_isb, not_true_eq_false, not_false_eq_true, ↓reduceIte, pk_div, pk_sub, zn_rem20, zn_rem2, zn_m1, zn_eqw, zn_weq, zn_weq2, zn_wlt0, zn_wltn, zn_win, zn_wcl, zn_wadd, Nat.not_lt_zero, Nat.one_ne_zero, Nat.zero_ne_one, Nat.le_refl, Nat.zero_le, zn_sel_r, zn_sel_l, c, e, z, e2, fX8_shortKinds_B27, zn_or]
      exact ih1
theorem zx_shortKinds {M : Mem} {S : SM} {u : Nat} (h : RX (ofs 1 M) S) (g : GX u S) : fX8_shortKinds M = some (nI (zs_short S 10)) := by
  unfold fX8_shortKinds
  exact zx_shortKinds_L h g (fun (l1 : Int32) => some l1) 10 0 5000 (by omega) (by omega)
theorem zt_freeBySlots : St_freeBySlots ZI := by
  intro n C M K hn h
  obtain ⟨S, T, hc, ⟨hX, hK, g, h99⟩, hH, hB⟩ := id h
  have hc12 := g.c12
  have h8 := g.o8
  have lo := g.lo
  have hw12 := g.1.2.1
  have hT : RT (ofs 2 M) S := hX.t
  have hK0 : RK ((sr K 0 (upd (K 0) 0 (nI 0))) 1) S := hK
  have ex : fX8_freeBySlots M = some (nI (zs_fm S 40)) := by
    unfold fX8_freeBySlots 
    simp (disch := omega) only [li0, li1, li2, li3, li4, li5, li6, li7, li8, li9, li10, li12, li13, li14, li15, li19, li20, li31, li33, li40, li42, li44, li48, li57, li60, li99, li100, li126, li150, li176, li177, li187, li197, li207, li208, li223, li304, li608, li1520, li1824, nI_add, pk_mul, nI_clamp, nI_leI, nI_ltI, nI_eq, zn_inb, zn_gd, zn_bs, zn_isb, not_true_eq_false, not_false_eq_true, ↓reduceIte, pk_div, pk_sub, zn_rem20, zn_rem2, zn_m1, zn_eqw, zn_weq, zn_weq2, zn_wlt0, zn_wltn, zn_win, zn_wcl, zn_wadd, Nat.not_lt_zero, Nat.one_ne_zero, Nat.zero_ne_one, Nat.le_refl, Nat.zero_le, zn_sel_r, zn_sel_l, zx_countFree hT g.1 (side := 0) (by omega), zx_countFree hT g.1 (side := 1) (by omega), zs_free_sides S]
  obtain ⟨y, ek, y4, y8, y1⟩ : ∃ y : Int32 × Mem, fX9_freeBySlots K = some y ∧ y.2 0 4 = K 0 4 ∧ y.2 0 8 = K 0 8 ∧ nI (zs_fm S 40) = y.1 := by
    unfold fX9_freeBySlots 
    simp (disch := omega) only [li0, li1, li2, li3, li4, li5, li6, li7, li8, li9, li10, li12, li13, li14, li15, li19, li20, li31, li33, li40, li42, li44, li48, li57, li60, li99, li100, li126, li150, li176, li177, li187, li197, li207, li208, li223, li304, li608, li1520, li1824, nI_add, pk_mul, nI_clamp, nI_leI, nI_ltI, nI_eq, zn_inb, zn_gd, zn_bs, zn_isb, not_true_eq_false, not_false_eq_true, ↓reduceIte, pk_div, pk_sub, zn_rem20, zn_rem2, zn_m1, zn_eqw, zn_weq, zn_weq2, zn_wlt0, zn_wltn, zn_win, zn_wcl, zn_wadd, Nat.not_lt_zero, Nat.one_ne_zero, Nat.zero_ne_one, Nat.le_refl, Nat.zero_le, zn_sel_r, zn_sel_l, zk_freeMany (K := (sr K 0 (upd (K 0) 0 (nI 0)))) hK0 g.1.k]
    exact ⟨_, rfl, rfl, rfl, rfl⟩
  exact zf_nul h hn ex ek y4 y8 y1
theorem zt_freeByHeights : St_freeByHeights ZI := by
  intro n C M K hn h
  obtain ⟨S, T, hc, ⟨hX, hK, g, h99⟩, hH, hB⟩ := id h
  have hc12 := g.c12
  have h8 := g.o8
  have lo := g.lo
  have hw12 := g.1.2.1
  have hT : RT (ofs 2 M) S := hX.t
  have hK0 : RK ((sr K 0 (upd (K 0) 0 (nI 0))) 1) S := hK
  have hfh0 := zs_free_heights g.1
  have hfh : 40 - zs_hs S (S 1 0) = zs_fm S 40 := by omega
  have ex : fX8_freeByHeights M = some (nI (zs_fm S 40)) := by
    unfold fX8_freeByHeights 
    simp (disch := omega) only [li0, li1, li2, li3, li4, li5, li6, li7, li8, li9, li10, li12, li13, li14, li15, li19, li20, li31, li33, li40, li42, li44, li48, li57, li60, li99, li100, li126, li150, li176, li177, li187, li197, li207, li208, li223, li304, li608, li1520, li1824, nI_add, pk_mul, nI_clamp, nI_leI, nI_ltI, nI_eq, zn_inb, zn_gd, zn_bs, zn_isb, not_true_eq_false, not_false_eq_true, ↓reduceIte, pk_div, pk_sub, zn_rem20, zn_rem2, zn_m1, zn_eqw, zn_weq, zn_weq2, zn_wlt0, zn_wltn, zn_win, zn_wcl, zn_wadd, Nat.not_lt_zero, Nat.one_ne_zero, Nat.zero_ne_one, Nat.le_refl, Nat.zero_le, zn_sel_r, zn_sel_l, zx_sumOfHeights hT g.1, hfh]
  obtain ⟨y, ek, y4, y8, y1⟩ : ∃ y : Int32 × Mem, fX9_freeByHeights K = some y ∧ y.2 0 4 = K 0 4 ∧ y.2 0 8 = K 0 8 ∧ nI (zs_fm S 40) = y.1 := by
    unfold fX9_freeByHeights 
    simp (disch := omega) only [li0, li1, li2, li3, li4, li5, li6, li7, li8, li9, li10, li12, li13, li14, li15, li19, li20, li31, li33, li40, li42, li44, li48, li57, li60, li99, li100, li126, li150, li176, li177, li187, li197, li207, li208, li223, li304, li608, li1520, li1824, nI_add, pk_mul, nI_clamp, nI_leI, nI_ltI, nI_eq, zn_inb, zn_gd, zn_bs, zn_isb, not_true_eq_false, not_false_eq_true, ↓reduceIte, pk_div, pk_sub, zn_rem20, zn_rem2, zn_m1, zn_eqw, zn_weq, zn_weq2, zn_wlt0, zn_wltn, zn_win, zn_wcl, zn_wadd, Nat.not_lt_zero, Nat.one_ne_zero, Nat.zero_ne_one, Nat.le_refl, Nat.zero_le, zn_sel_r, zn_sel_l, zk_freeMany (K := (sr K 0 (upd (K 0) 0 (nI 0)))) hK0 g.1.k]
    exact ⟨_, rfl, rfl, rfl, rfl⟩
  exact zf_nul h hn ex ek y4 y8 y1
theorem zt_shortKinds : St_shortKinds ZI := by
  intro n C M K hn h
  obtain ⟨S, T, hc, ⟨hX, hK, g, h99⟩, hH, hB⟩ := id h
  have hc12 := g.c12
  have h8 := g.o8
  have lo := g.lo
  have hw12 := g.1.2.1
  have hT : RT (ofs 2 M) S := hX.t
  have hK0 : RK ((sr K 0 (upd (K 0) 0 (nI 0))) 1) S := hK
  have ex : fX8_shortKinds M = some (nI (zs_short S 10)) := by
    exact zx_shortKinds hX g
  obtain ⟨y, ek, y4, y8, y1⟩ : ∃ y : Int32 × Mem, fX9_shortKinds K = some y ∧ y.2 0 4 = K 0 4 ∧ y.2 0 8 = K 0 8 ∧ nI (zs_short S 10) = y.1 := by
    unfold fX9_shortKinds 
    simp (disch := omega) only [li0, li1, li2, li3, li4, li5, li6, li7, li8, li9, li10, li12, li13, li14, li15, li19, li20, li31, li33, li40, li42, li44, li48, li57, li60, li99, li100, li126, li150, li176, li177, li187, li197, li207, li208, li223, li304, li608, li1520, li1824, nI_add, pk_mul, nI_clamp, nI_leI, nI_ltI, nI_eq, zn_inb, zn_gd, zn_bs, zn_isb, not_true_eq_false, not_false_eq_true, ↓reduceIte, pk_div, pk_sub, zn_rem20, zn_rem2, zn_m1, zn_eqw, zn_weq, zn_weq2, zn_wlt0, zn_wltn, zn_win, zn_wcl, zn_wadd, Nat.not_lt_zero, Nat.one_ne_zero, Nat.zero_ne_one, Nat.le_refl, Nat.zero_le, zn_sel_r, zn_sel_l, zk_lacking (K := (sr K 0 (upd (K 0) 0 (nI 0)))) hK0 g]
    exact ⟨_, rfl, rfl, rfl, rfl⟩
  exact zf_nul h hn ex ek y4 y8 y1
theorem zt_stockByAccount : St_stockByAccount ZI := by
  intro n C M K x1 hn h
  obtain ⟨S, T, hc, ⟨hX, hK, g, h99⟩, hH, hB⟩ := id h
  have hc12 := g.c12
  have h8 := g.o8
  have lo := g.lo
  have hw12 := g.1.2.1
  have hT : RT (ofs 2 M) S := hX.t
  have hK0 : RK ((sr K 0 (upd (K 0) 0 (nI 0))) 1) S := hK
  rcases zr_kind M x1 with ⟨f, hf, rfl, e1, e2⟩ | ⟨e1, e2⟩
  · have e3 := e2
    have ex : fX8_stockByAccount M (nI f) = some (.inr (nI (S 12 f) - nI (S 13 f))) := by
      unfold fX8_stockByAccount 
      simp (disch := omega) only [li0, li1, li2, li3, li4, li5, li6, li7, li8, li9, li10, li12, li13, li14, li15, li19, li20, li31, li33, li40, li42, li44, li48, li57, li60, li99, li100, li126, li150, li176, li177, li187, li197, li207, li208, li223, li304, li608, li1520, li1824, nI_add, pk_mul, nI_clamp, nI_leI, nI_ltI, nI_eq, zn_inb, zn_gd, zn_bs, zn_isb, not_true_eq_false, not_false_eq_true, ↓reduceIte, pk_div, pk_sub, zn_rem20, zn_rem2, zn_m1, zn_eqw, zn_weq, zn_weq2, zn_wlt0, zn_wltn, zn_win, zn_wcl, zn_wadd, Nat.not_lt_zero, Nat.one_ne_zero, Nat.zero_ne_one, Nat.le_refl, Nat.zero_le, zn_sel_r, zn_sel_l, e1, show M 13 f = _ from hX.r12 f hf, show M 14 f = _ from hX.r13 f hf]
    obtain ⟨y, ek, y0, y4, y8, y1⟩ : ∃ y : Int32 × Mem, fX9_stockByAccount K (nI f) = some y ∧ y.2 0 0 = nI 0 ∧ y.2 0 4 = K 0 4 ∧ y.2 0 8 = K 0 8 ∧ nI (S 12 f) - nI (S 13 f) = y.1 := by
      unfold fX9_stockByAccount 
      simp (disch := omega) only [li0, li1, li2, li3, li4, li5, li6, li7, li8, li9, li10, li12, li13, li14, li15, li19, li20, li31, li33, li40, li42, li44, li48, li57, li60, li99, li100, li126, li150, li176, li177, li187, li197, li207, li208, li223, li304, li608, li1520, li1824, nI_add, pk_mul, nI_clamp, nI_leI, nI_ltI, nI_eq, zn_inb, zn_gd, zn_bs, zn_isb, not_true_eq_false, not_false_eq_true, ↓reduceIte, pk_div, pk_sub, zn_rem20, zn_rem2, zn_m1, zn_eqw, zn_weq, zn_weq2, zn_wlt0, zn_wltn, zn_win, zn_wcl, zn_wadd, Nat.not_lt_zero, Nat.one_ne_zero, Nat.zero_ne_one, Nat.le_refl, Nat.zero_le, zn_sel_r, zn_sel_l, e3, fX9_fails, fX9_stockByAccount_B30, (hK.2.2.2.2.2.1 f hf).2.2]
      exact ⟨_, rfl, rfl, rfl, rfl, rfl⟩
    exact zf_ok h hn ex ek y0 y4 y8 y1
  · have e3 := e2
    have ex : fX8_stockByAccount M x1 = some (.inl "java/lang/IndexOutOfBoundsException") := by
      unfold fX8_stockByAccount 
      simp (disch := omega) only [li0, li1, li2, li3, li4, li5, li6, li7, li8, li9, li10, li12, li13, li14, li15, li19, li20, li31, li33, li40, li42, li44, li48, li57, li60, li99, li100, li126, li150, li176, li177, li187, li197, li207, li208, li223, li304, li608, li1520, li1824, nI_add, pk_mul, nI_clamp, nI_leI, nI_ltI, nI_eq, zn_inb, zn_gd, zn_bs, zn_isb, not_true_eq_false, not_false_eq_true, ↓reduceIte, pk_div, pk_sub, zn_rem20, zn_rem2, zn_m1, zn_eqw, zn_weq, zn_weq2, zn_wlt0, zn_wltn, zn_win, zn_wcl, zn_wadd, Nat.not_lt_zero, Nat.one_ne_zero, Nat.zero_ne_one, Nat.le_refl, Nat.zero_le, zn_sel_r, zn_sel_l, e1]
    obtain ⟨y, ek, y0, y4, y8⟩ : ∃ y : Int32 × Mem, fX9_stockByAccount K x1 = some y ∧ y.2 0 0 = nI (0 + 1) ∧ y.2 0 4 = K 0 4 ∧ y.2 0 8 = K 0 8 := by
      unfold fX9_stockByAccount 
      simp (disch := omega) only [li0, li1, li2, li3, li4, li5, li6, li7, li8, li9, li10, li12, li13, li14, li15, li19, li20, li31, li33, li40, li42, li44, li48, li57, li60, li99, li100, li126, li150, li176, li177, li187, li197, li207, li208, li223, li304, li608, li1520, li1824, nI_add, pk_mul, nI_clamp, nI_leI, nI_ltI, nI_eq, zn_inb, zn_gd, zn_bs, zn_isb, not_true_eq_false, not_false_eq_true, ↓reduceIte, pk_div, pk_sub, zn_rem20, zn_rem2, zn_m1, zn_eqw, zn_weq, zn_weq2, zn_wlt0, zn_wltn, zn_win, zn_wcl, zn_wadd, Nat.not_lt_zero, Nat.one_ne_zero, Nat.zero_ne_one, Nat.le_refl, Nat.zero_le, zn_sel_r, zn_sel_l, e3, fX9_fails, fX9_stockByAccount_B30]
      exact ⟨_, rfl, rfl, rfl, rfl⟩
    exact zf_no (i := 0) h hn rfl ex ek y0 y4 y8
theorem zt_tripTicks : St_tripTicks ZI := by
  intro n C M K x1 hn h
  obtain ⟨S, T, hc, ⟨hX, hK, g, h99⟩, hH, hB⟩ := id h
  have hc12 := g.c12
  have h8 := g.o8
  have lo := g.lo
  have hw12 := g.1.2.1
  have hT : RT (ofs 2 M) S := hX.t
  have hK0 : RK ((sr K 0 (upd (K 0) 0 (nI 0))) 1) S := hK
  rcases zr_trip hX lo.2.2.1 x1 with ⟨f, hf, rfl, e1, e2⟩ | ⟨e1, e2⟩
  · have lo3 := lo.2.2.1
    have e3 : fX9_in (nI f) (nI 0) (nI (S 6 4 - 1)) = some (nI 1) := by rw [← pk_sub (by omega)]; exact e2
    have ex : fX8_tripTicks M (nI f) = some (.inr (nI (S 7 f))) := by
      unfold fX8_tripTicks 
      simp (disch := omega) only [li0, li1, li2, li3, li4, li5, li6, li7, li8, li9, li10, li12, li13, li14, li15, li19, li20, li31, li33, li40, li42, li44, li48, li57, li60, li99, li100, li126, li150, li176, li177, li187, li197, li207, li208, li223, li304, li608, li1520, li1824, nI_add, pk_mul, nI_clamp, nI_leI, nI_ltI, nI_eq, zn_inb, zn_gd, zn_bs, zn_isb, not_true_eq_false, not_false_eq_true, ↓reduceIte, pk_div, pk_sub, zn_rem20, zn_rem2, zn_m1, zn_eqw, zn_weq, zn_weq2, zn_wlt0, zn_wltn, zn_win, zn_wcl, zn_wadd, Nat.not_lt_zero, Nat.one_ne_zero, Nat.zero_ne_one, Nat.le_refl, Nat.zero_le, zn_sel_r, zn_sel_l, e1, show M 8 f = _ from hX.r7 f (by omega)]
    obtain ⟨y, ek, y0, y4, y8, y1⟩ : ∃ y : Int32 × Mem, fX9_tripTicks K (nI f) = some y ∧ y.2 0 0 = nI 0 ∧ y.2 0 4 = K 0 4 ∧ y.2 0 8 = K 0 8 ∧ nI (S 7 f) = y.1 := by
      unfold fX9_tripTicks 
      simp (disch := omega) only [li0, li1, li2, li3, li4, li5, li6, li7, li8, li9, li10, li12, li13, li14, li15, li19, li20, li31, li33, li40, li42, li44, li48, li57, li60, li99, li100, li126, li150, li176, li177, li187, li197, li207, li208, li223, li304, li608, li1520, li1824, nI_add, pk_mul, nI_clamp, nI_leI, nI_ltI, nI_eq, zn_inb, zn_gd, zn_bs, zn_isb, not_true_eq_false, not_false_eq_true, ↓reduceIte, pk_div, pk_sub, zn_rem20, zn_rem2, zn_m1, zn_eqw, zn_weq, zn_weq2, zn_wlt0, zn_wltn, zn_win, zn_wcl, zn_wadd, Nat.not_lt_zero, Nat.one_ne_zero, Nat.zero_ne_one, Nat.le_refl, Nat.zero_le, zn_sel_r, zn_sel_l, e3, fX9_fails, fX9_tripTicks_B42, hK.2.2.2.2.1.2.2.2.2.2.1, (hK.2.2.2.2.2.2.1 f (by omega)).1]
      exact ⟨_, rfl, rfl, rfl, rfl, rfl⟩
    exact zf_ok h hn ex ek y0 y4 y8 y1
  · have e3 := e2
    have lo3 := lo.2.2.1
    have ex : fX8_tripTicks M x1 = some (.inl "java/lang/IndexOutOfBoundsException") := by
      unfold fX8_tripTicks 
      simp (disch := omega) only [li0, li1, li2, li3, li4, li5, li6, li7, li8, li9, li10, li12, li13, li14, li15, li19, li20, li31, li33, li40, li42, li44, li48, li57, li60, li99, li100, li126, li150, li176, li177, li187, li197, li207, li208, li223, li304, li608, li1520, li1824, nI_add, pk_mul, nI_clamp, nI_leI, nI_ltI, nI_eq, zn_inb, zn_gd, zn_bs, zn_isb, not_true_eq_false, not_false_eq_true, ↓reduceIte, pk_div, pk_sub, zn_rem20, zn_rem2, zn_m1, zn_eqw, zn_weq, zn_weq2, zn_wlt0, zn_wltn, zn_win, zn_wcl, zn_wadd, Nat.not_lt_zero, Nat.one_ne_zero, Nat.zero_ne_one, Nat.le_refl, Nat.zero_le, zn_sel_r, zn_sel_l, e1]
    obtain ⟨y, ek, y0, y4, y8⟩ : ∃ y : Int32 × Mem, fX9_tripTicks K x1 = some y ∧ y.2 0 0 = nI (0 + 1) ∧ y.2 0 4 = K 0 4 ∧ y.2 0 8 = K 0 8 := by
      unfold fX9_tripTicks 
      simp (disch := omega) only [li0, li1, li2, li3, li4, li5, li6, li7, li8, li9, li10, li12, li13, li14, li15, li19, li20, li31, li33, li40, li42, li44, li48, li57, li60, li99, li100, li126, li150, li176, li177, li187, li197, li207, li208, li223, li304, li608, li1520, li1824, nI_add, pk_mul, nI_clamp, nI_leI, nI_ltI, nI_eq, zn_inb, zn_gd, zn_bs, zn_isb, not_true_eq_false, not_false_eq_true, ↓reduceIte, pk_div, pk_sub, zn_rem20, zn_rem2, zn_m1, zn_eqw, zn_weq, zn_weq2, zn_wlt0, zn_wltn, zn_win, zn_wcl, zn_wadd, Nat.not_lt_zero, Nat.one_ne_zero, Nat.zero_ne_one, Nat.le_refl, Nat.zero_le, zn_sel_r, zn_sel_l, e3, fX9_fails, fX9_tripTicks_B42, hK.2.2.2.2.1.2.2.2.2.2.1]
      exact ⟨_, rfl, rfl, rfl, rfl⟩
    exact zf_no (i := 0) h hn rfl ex ek y0 y4 y8
theorem zt_isAtWindow : St_isAtWindow ZI := by
  intro n C M K x1 hn h
  obtain ⟨S, T, hc, ⟨hX, hK, g, h99⟩, hH, hB⟩ := id h
  have hc12 := g.c12
  have h8 := g.o8
  have lo := g.lo
  have hw12 := g.1.2.1
  have hT : RT (ofs 2 M) S := hX.t
  have hK0 : RK ((sr K 0 (upd (K 0) 0 (nI 0))) 1) S := hK
  rcases zr_shelf hX hc12 x1 with ⟨f, hf, rfl, e1, e2⟩ | ⟨e1, e2⟩
  · have e3 := e2 (sr K 0 (upd (K 0) 0 (nI 0))) hK0
    have m1 : M 2 1 = wI (S 1 1) := hX.w
    by_cases c1 : S 1 1 = f + 1
    · have ex : fX8_isAtWindow M (nI f) = some (.inr (nI 1)) := by
        unfold fX8_isAtWindow 
        simp (disch := omega) only [li0, li1, li2, li3, li4, li5, li6, li7, li8, li9, li10, li12, li13, li14, li15, li19, li20, li31, li33, li40, li42, li44, li48, li57, li60, li99, li100, li126, li150, li176, li177, li187, li197, li207, li208, li223, li304, li608, li1520, li1824, nI_add, pk_mul, nI_clamp, nI_leI, nI_ltI, nI_eq, zn_inb, zn_gd, zn_bs, zn_isb, not_true_eq_false, not_false_eq_true, ↓reduceIte, pk_div, pk_sub, zn_rem20, zn_rem2, zn_m1, zn_eqw, zn_weq, zn_weq2, zn_wlt0, zn_wltn, zn_win, zn_wcl, zn_wadd, Nat.not_lt_zero, Nat.one_ne_zero, Nat.zero_ne_one, Nat.le_refl, Nat.zero_le, zn_sel_r, zn_sel_l, e1, m1, eq_true c1, fX8_isAtWindow_B24]
      obtain ⟨y, ek, y0, y4, y8, y1⟩ : ∃ y : Int32 × Mem, fX9_isAtWindow K (nI f) = some y ∧ y.2 0 0 = nI 0 ∧ y.2 0 4 = K 0 4 ∧ y.2 0 8 = K 0 8 ∧ nI 1 = y.1 := by
        unfold fX9_isAtWindow 
        simp (disch := omega) only [li0, li1, li2, li3, li4, li5, li6, li7, li8, li9, li10, li12, li13, li14, li15, li19, li20, li31, li33, li40, li42, li44, li48, li57, li60, li99, li100, li126, li150, li176, li177, li187, li197, li207, li208, li223, li304, li608, li1520, li1824, nI_add, pk_mul, nI_clamp, nI_leI, nI_ltI, nI_eq, zn_inb, zn_gd, zn_bs, zn_isb, not_true_eq_false, not_false_eq_true, ↓reduceIte, pk_div, pk_sub, zn_rem20, zn_rem2, zn_m1, zn_eqw, zn_weq, zn_weq2, zn_wlt0, zn_wltn, zn_win, zn_wcl, zn_wadd, Nat.not_lt_zero, Nat.one_ne_zero, Nat.zero_ne_one, Nat.le_refl, Nat.zero_le, zn_sel_r, zn_sel_l, fX9_fails, e3, hK.2.1, eq_true c1, fX9_isAtWindow_B44]
        exact ⟨_, rfl, rfl, rfl, rfl, rfl⟩
      exact zf_ok h hn ex ek y0 y4 y8 y1
    · have ex : fX8_isAtWindow M (nI f) = some (.inr (nI 0)) := by
        unfold fX8_isAtWindow 
        simp (disch := omega) only [li0, li1, li2, li3, li4, li5, li6, li7, li8, li9, li10, li12, li13, li14, li15, li19, li20, li31, li33, li40, li42, li44, li48, li57, li60, li99, li100, li126, li150, li176, li177, li187, li197, li207, li208, li223, li304, li608, li1520, li1824, nI_add, pk_mul, nI_clamp, nI_leI, nI_ltI, nI_eq, zn_inb, zn_gd, zn_bs, zn_isb, not_true_eq_false, not_false_eq_true, ↓reduceIte, pk_div, pk_sub, zn_rem20, zn_rem2, zn_m1, zn_eqw, zn_weq, zn_weq2, zn_wlt0, zn_wltn, zn_win, zn_wcl, zn_wadd, Nat.not_lt_zero, Nat.one_ne_zero, Nat.zero_ne_one, Nat.le_refl, Nat.zero_le, zn_sel_r, zn_sel_l, e1, m1, c1, fX8_isAtWindow_B24]
      obtain ⟨y, ek, y0, y4, y8, y1⟩ : ∃ y : Int32 × Mem, fX9_isAtWindow K (nI f) = some y ∧ y.2 0 0 = nI 0 ∧ y.2 0 4 = K 0 4 ∧ y.2 0 8 = K 0 8 ∧ nI 0 = y.1 := by
        unfold fX9_isAtWindow 
        simp (disch := omega) only [li0, li1, li2, li3, li4, li5, li6, li7, li8, li9, li10, li12, li13, li14, li15, li19, li20, li31, li33, li40, li42, li44, li48, li57, li60, li99, li100, li126, li150, li176, li177, li187, li197, li207, li208, li223, li304, li608, li1520, li1824, nI_add, pk_mul, nI_clamp, nI_leI, nI_ltI, nI_eq, zn_inb, zn_gd, zn_bs, zn_isb, not_true_eq_false, not_false_eq_true, ↓reduceIte, pk_div, pk_sub, zn_rem20, zn_rem2, zn_m1, zn_eqw, zn_weq, zn_weq2, zn_wlt0, zn_wltn, zn_win, zn_wcl, zn_wadd, Nat.not_lt_zero, Nat.one_ne_zero, Nat.zero_ne_one, Nat.le_refl, Nat.zero_le, zn_sel_r, zn_sel_l, fX9_fails, e3, hK.2.1, c1, fX9_isAtWindow_B44]
        exact ⟨_, rfl, rfl, rfl, rfl, rfl⟩
      exact zf_ok h hn ex ek y0 y4 y8 y1
  · have e3 := e2 (sr K 0 (upd (K 0) 0 (nI 0))) hK0
    have ex : fX8_isAtWindow M x1 = some (.inl "java/lang/IndexOutOfBoundsException") := by
      unfold fX8_isAtWindow 
      simp (disch := omega) only [li0, li1, li2, li3, li4, li5, li6, li7, li8, li9, li10, li12, li13, li14, li15, li19, li20, li31, li33, li40, li42, li44, li48, li57, li60, li99, li100, li126, li150, li176, li177, li187, li197, li207, li208, li223, li304, li608, li1520, li1824, nI_add, pk_mul, nI_clamp, nI_leI, nI_ltI, nI_eq, zn_inb, zn_gd, zn_bs, zn_isb, not_true_eq_false, not_false_eq_true, ↓reduceIte, pk_div, pk_sub, zn_rem20, zn_rem2, zn_m1, zn_eqw, zn_weq, zn_weq2, zn_wlt0, zn_wltn, zn_win, zn_wcl, zn_wadd, Nat.not_lt_zero, Nat.one_ne_zero, Nat.zero_ne_one, Nat.le_refl, Nat.zero_le, zn_sel_r, zn_sel_l, e1]
    obtain ⟨y, ek, y0, y4, y8⟩ : ∃ y : Int32 × Mem, fX9_isAtWindow K x1 = some y ∧ y.2 0 0 = nI (0 + 1) ∧ y.2 0 4 = K 0 4 ∧ y.2 0 8 = K 0 8 := by
      unfold fX9_isAtWindow 
      simp (disch := omega) only [li0, li1, li2, li3, li4, li5, li6, li7, li8, li9, li10, li12, li13, li14, li15, li19, li20, li31, li33, li40, li42, li44, li48, li57, li60, li99, li100, li126, li150, li176, li177, li187, li197, li207, li208, li223, li304, li608, li1520, li1824, nI_add, pk_mul, nI_clamp, nI_leI, nI_ltI, nI_eq, zn_inb, zn_gd, zn_bs, zn_isb, not_true_eq_false, not_false_eq_true, ↓reduceIte, pk_div, pk_sub, zn_rem20, zn_rem2, zn_m1, zn_eqw, zn_weq, zn_weq2, zn_wlt0, zn_wltn, zn_win, zn_wcl, zn_wadd, Nat.not_lt_zero, Nat.one_ne_zero, Nat.zero_ne_one, Nat.le_refl, Nat.zero_le, zn_sel_r, zn_sel_l, fX9_fails, e3, fX9_isAtWindow_B44]
      exact ⟨_, rfl, rfl, rfl, rfl⟩
    exact zf_no (i := 0) h hn rfl ex ek y0 y4 y8
theorem zt_wasFetch : St_wasFetch ZI := by
  intro n C M K x1 hn h
  obtain ⟨S, T, hc, ⟨hX, hK, g, h99⟩, hH, hB⟩ := id h
  have hc12 := g.c12
  have h8 := g.o8
  have lo := g.lo
  have hw12 := g.1.2.1
  have hT : RT (ofs 2 M) S := hX.t
  have hK0 : RK ((sr K 0 (upd (K 0) 0 (nI 0))) 1) S := hK
  rcases zr_trip hX lo.2.2.1 x1 with ⟨f, hf, rfl, e1, e2⟩ | ⟨e1, e2⟩
  · have lo3 := lo.2.2.1
    have lo4 := lo.2.2.2 f (by omega)
    have e3 : fX9_in (nI f) (nI 0) (nI (S 6 4 - 1)) = some (nI 1) := by rw [← pk_sub (by omega)]; exact e2
    have m1 : M 9 f = nI (S 8 f) := hX.r8 f (by omega)
    have m2 := (hK.2.2.2.2.2.2.1 f (by omega)).2
    rcases (show S 8 f = 0 ∨ S 8 f = 1 by omega) with q | q
    · rw [q] at m1 m2
      have ex : fX8_wasFetch M (nI f) = some (.inr (nI 0)) := by
        unfold fX8_wasFetch 
        simp (disch := omega) only [li0, li1, li2, li3, li4, li5, li6, li7, li8, li9, li10, li12, li13, li14, li15, li19, li20, li31, li33, li40, li42, li44, li48, li57, li60, li99, li100, li126, li150, li176, li177, li187, li197, li207, li208, li223, li304, li608, li1520, li1824, nI_add, pk_mul, nI_clamp, nI_leI, nI_ltI, nI_eq, zn_inb, zn_gd, zn_bs, zn_isb, not_true_eq_false, not_false_eq_true, ↓reduceIte, pk_div, pk_sub, zn_rem20, zn_rem2, zn_m1, zn_eqw, zn_weq, zn_weq2, zn_wlt0, zn_wltn, zn_win, zn_wcl, zn_wadd, Nat.not_lt_zero, Nat.one_ne_zero, Nat.zero_ne_one, Nat.le_refl, Nat.zero_le, zn_sel_r, zn_sel_l, e1, m1]
      obtain ⟨y, ek, y0, y4, y8, y1⟩ : ∃ y : Int32 × Mem, fX9_wasFetch K (nI f) = some y ∧ y.2 0 0 = nI 0 ∧ y.2 0 4 = K 0 4 ∧ y.2 0 8 = K 0 8 ∧ nI 0 = y.1 := by
        unfold fX9_wasFetch 
        simp (disch := omega) only [li0, li1, li2, li3, li4, li5, li6, li7, li8, li9, li10, li12, li13, li14, li15, li19, li20, li31, li33, li40, li42, li44, li48, li57, li60, li99, li100, li126, li150, li176, li177, li187, li197, li207, li208, li223, li304, li608, li1520, li1824, nI_add, pk_mul, nI_clamp, nI_leI, nI_ltI, nI_eq, zn_inb, zn_gd, zn_bs, zn_isb, not_true_eq_false, not_false_eq_true, ↓reduceIte, pk_div, pk_sub, zn_rem20, zn_rem2, zn_m1, zn_eqw, zn_weq, zn_weq2, zn_wlt0, zn_wltn, zn_win, zn_wcl, zn_wadd, Nat.not_lt_zero, Nat.one_ne_zero, Nat.zero_ne_one, Nat.le_refl, Nat.zero_le, zn_sel_r, zn_sel_l, fX9_fails, e3, hK.2.2.2.2.1.2.2.2.2.2.1, m2, fX9_wasFetch_B61]
        exact ⟨_, rfl, rfl, rfl, rfl, rfl⟩
      exact zf_ok h hn ex ek y0 y4 y8 y1
    · rw [q] at m1 m2
      have ex : fX8_wasFetch M (nI f) = some (.inr (nI 1)) := by
        unfold fX8_wasFetch 
        simp (disch := omega) only [li0, li1, li2, li3, li4, li5, li6, li7, li8, li9, li10, li12, li13, li14, li15, li19, li20, li31, li33, li40, li42, li44, li48, li57, li60, li99, li100, li126, li150, li176, li177, li187, li197, li207, li208, li223, li304, li608, li1520, li1824, nI_add, pk_mul, nI_clamp, nI_leI, nI_ltI, nI_eq, zn_inb, zn_gd, zn_bs, zn_isb, not_true_eq_false, not_false_eq_true, ↓reduceIte, pk_div, pk_sub, zn_rem20, zn_rem2, zn_m1, zn_eqw, zn_weq, zn_weq2, zn_wlt0, zn_wltn, zn_win, zn_wcl, zn_wadd, Nat.not_lt_zero, Nat.one_ne_zero, Nat.zero_ne_one, Nat.le_refl, Nat.zero_le, zn_sel_r, zn_sel_l, e1, m1]
      obtain ⟨y, ek, y0, y4, y8, y1⟩ : ∃ y : Int32 × Mem, fX9_wasFetch K (nI f) = some y ∧ y.2 0 0 = nI 0 ∧ y.2 0 4 = K 0 4 ∧ y.2 0 8 = K 0 8 ∧ nI 1 = y.1 := by
        unfold fX9_wasFetch 
        simp (disch := omega) only [li0, li1, li2, li3, li4, li5, li6, li7, li8, li9, li10, li12, li13, li14, li15, li19, li20, li31, li33, li40, li42, li44, li48, li57, li60, li99, li100, li126, li150, li176, li177, li187, li197, li207, li208, li223, li304, li608, li1520, li1824, nI_add, pk_mul, nI_clamp, nI_leI, nI_ltI, nI_eq, zn_inb, zn_gd, zn_bs, zn_isb, not_true_eq_false, not_false_eq_true, ↓reduceIte, pk_div, pk_sub, zn_rem20, zn_rem2, zn_m1, zn_eqw, zn_weq, zn_weq2, zn_wlt0, zn_wltn, zn_win, zn_wcl, zn_wadd, Nat.not_lt_zero, Nat.one_ne_zero, Nat.zero_ne_one, Nat.le_refl, Nat.zero_le, zn_sel_r, zn_sel_l, fX9_fails, e3, hK.2.2.2.2.1.2.2.2.2.2.1, m2, fX9_wasFetch_B61]
        exact ⟨_, rfl, rfl, rfl, rfl, rfl⟩
      exact zf_ok h hn ex ek y0 y4 y8 y1
  · have e3 := e2
    have lo3 := lo.2.2.1
    have ex : fX8_wasFetch M x1 = some (.inl "java/lang/IndexOutOfBoundsException") := by
      unfold fX8_wasFetch 
      simp (disch := omega) only [li0, li1, li2, li3, li4, li5, li6, li7, li8, li9, li10, li12, li13, li14, li15, li19, li20, li31, li33, li40, li42, li44, li48, li57, li60, li99, li100, li126, li150, li176, li177, li187, li197, li207, li208, li223, li304, li608, li1520, li1824, nI_add, pk_mul, nI_clamp, nI_leI, nI_ltI, nI_eq, zn_inb, zn_gd, zn_bs, zn_isb, not_true_eq_false, not_false_eq_true, ↓reduceIte, pk_div, pk_sub, zn_rem20, zn_rem2, zn_m1, zn_eqw, zn_weq, zn_weq2, zn_wlt0, zn_wltn, zn_win, zn_wcl, zn_wadd, Nat.not_lt_zero, Nat.one_ne_zero, Nat.zero_ne_one, Nat.le_refl, Nat.zero_le, zn_sel_r, zn_sel_l, e1]
    obtain ⟨y, ek, y0, y4, y8⟩ : ∃ y : Int32 × Mem, fX9_wasFetch K x1 = some y ∧ y.2 0 0 = nI (0 + 1) ∧ y.2 0 4 = K 0 4 ∧ y.2 0 8 = K 0 8 := by
      unfold fX9_wasFetch 
      simp (disch := omega) only [li0, li1, li2, li3, li4, li5, li6, li7, li8, li9, li10, li12, li13, li14, li15, li19, li20, li31, li33, li40, li42, li44, li48, li57, li60, li99, li100, li126, li150, li176, li177, li187, li197, li207, li208, li223, li304, li608, li1520, li1824, nI_add, pk_mul, nI_clamp, nI_leI, nI_ltI, nI_eq, zn_inb, zn_gd, zn_bs, zn_isb, not_true_eq_false, not_false_eq_true, ↓reduceIte, pk_div, pk_sub, zn_rem20, zn_rem2, zn_m1, zn_eqw, zn_weq, zn_weq2, zn_wlt0, zn_wltn, zn_win, zn_wcl, zn_wadd, Nat.not_lt_zero, Nat.one_ne_zero, Nat.zero_ne_one, Nat.le_refl, Nat.zero_le, zn_sel_r, zn_sel_l, fX9_fails, e3, hK.2.2.2.2.1.2.2.2.2.2.1, fX9_wasFetch_B61]
      exact ⟨_, rfl, rfl, rfl, rfl⟩
    exact zf_no (i := 0) h hn rfl ex ek y0 y4 y8
theorem zt_isKeptPlace : St_isKeptPlace ZI := by
  intro n C M K hn h
  obtain ⟨S, T, hc, ⟨hX, hK, g, h99⟩, hH, hB⟩ := id h
  have hc12 := g.c12
  have h8 := g.o8
  have lo := g.lo
  have hw12 := g.1.2.1
  have hT : RT (ofs 2 M) S := hX.t
  have hK0 : RK ((sr K 0 (upd (K 0) 0 (nI 0))) 1) S := hK
  have m1 : M 7 1 = nI (S 6 1) := hX.2.1.2.1
  have m2 := hK.2.2.2.2.1.2.1
  have lo2 := lo.2.1
  have ex : fX8_isKeptPlace M = some (nI (S 6 1)) := by
    unfold fX8_isKeptPlace
    simp (disch := omega) only [li0, li1, li2, li3, li4, li5, li6, li7, li8, li9, li10, li12, li13, li14, li15, li19, li20, li31, li33, li40, li42, li44, li48, li57, li60, li99, li100, li126, li150, li176, li177, li187, li197, li207, li208, li223, li304, li608, li1520, li1824, nI_add, pk_mul, nI_clamp, nI_leI, nI_ltI, nI_eq, zn_inb, zn_gd, zn_bs, zn_isb, not_true_eq_false, not_false_eq_true, ↓reduceIte, pk_div, pk_sub, zn_rem20, zn_rem2, zn_m1, zn_eqw, zn_weq, zn_weq2, zn_wlt0, zn_wltn, zn_win, zn_wcl, zn_wadd, Nat.not_lt_zero, Nat.one_ne_zero, Nat.zero_ne_one, Nat.le_refl, Nat.zero_le, zn_sel_r, zn_sel_l, m1]
  obtain ⟨y, ek, y4, y8, y1⟩ : ∃ y : Int32 × Mem, fX9_isKeptPlace K = some y ∧ y.2 0 4 = K 0 4 ∧ y.2 0 8 = K 0 8 ∧ nI (S 6 1) = y.1 := by
    unfold fX9_isKeptPlace
    rcases (show S 6 1 = 0 ∨ S 6 1 = 1 by omega) with q | q
    · rw [q] at m2 ⊢
      simp (disch := omega) only [li0, li1, li2, li3, li4, li5, li6, li7, li8, li9, li10, li12, li13, li14, li15, li19, li20, li31, li33, li40, li42, li44, li48, li57, li60, li99, li100, li126, li150, li176, li177, li187, li197, li207, li208, li223, li304, li608, li1520, li1824, nI_add, pk_mul, nI_clamp, nI_leI, nI_ltI, nI_eq, zn_inb, zn_gd, zn_bs, zn_isb, not_true_eq_false, not_false_eq_true, ↓reduceIte, pk_div, pk_sub, zn_rem20, zn_rem2, zn_m1, zn_eqw, zn_weq, zn_weq2, zn_wlt0, zn_wltn, zn_win, zn_wcl, zn_wadd, Nat.not_lt_zero, Nat.one_ne_zero, Nat.zero_ne_one, Nat.le_refl, Nat.zero_le, zn_sel_r, zn_sel_l, m2, fX9_isKeptPlace_B20]
      exact ⟨_, rfl, rfl, rfl, rfl⟩
    · rw [q] at m2 ⊢
      simp (disch := omega) only [li0, li1, li2, li3, li4, li5, li6, li7, li8, li9, li10, li12, li13, li14, li15, li19, li20, li31, li33, li40, li42, li44, li48, li57, li60, li99, li100, li126, li150, li176, li177, li187, li197, li207, li208, li223, li304, li608, li1520, li1824, nI_add, pk_mul, nI_clamp, nI_leI, nI_ltI, nI_eq, zn_inb, zn_gd, zn_bs, zn_isb, not_true_eq_false, not_false_eq_true, ↓reduceIte, pk_div, pk_sub, zn_rem20, zn_rem2, zn_m1, zn_eqw, zn_weq, zn_weq2, zn_wlt0, zn_wltn, zn_win, zn_wcl, zn_wadd, Nat.not_lt_zero, Nat.one_ne_zero, Nat.zero_ne_one, Nat.le_refl, Nat.zero_le, zn_sel_r, zn_sel_l, m2, fX9_isKeptPlace_B20]
      exact ⟨_, rfl, rfl, rfl, rfl⟩
  exact zf_nul h hn ex ek y4 y8 y1
theorem zt_thingsIn : St_thingsIn ZI := by
  intro n C M K x1 x2 hn h
  obtain ⟨S, T, hc, ⟨hX, hK, g, h99⟩, hH, hB⟩ := id h
  have hc12 := g.c12
  have h8 := g.o8
  have lo := g.lo
  have hw12 := g.1.2.1
  have hT : RT (ofs 2 M) S := hX.t
  have hK0 : RK ((sr K 0 (upd (K 0) 0 (nI 0))) 1) S := hK
  rcases zr_shelf hX hc12 x1 with ⟨f, hf, rfl, e1, e2⟩ | ⟨e1, e2⟩
  · have e3 := e2 (sr K 0 (upd (K 0) 0 (nI 0))) hK0
    rcases zr_kind M x2 with ⟨k, hk, rfl, e4, e5⟩ | ⟨e4, e5⟩
    · have m1 := zx_countIn hT (f := f) (k := k) (by omega) hk
      have ex : fX8_thingsIn M (nI f) (nI k) = some (.inr (nI (S 5 (f * 10 + k)))) := by
        unfold fX8_thingsIn 
        simp (disch := omega) only [li0, li1, li2, li3, li4, li5, li6, li7, li8, li9, li10, li12, li13, li14, li15, li19, li20, li31, li33, li40, li42, li44, li48, li57, li60, li99, li100, li126, li150, li176, li177, li187, li197, li207, li208, li223, li304, li608, li1520, li1824, nI_add, pk_mul, nI_clamp, nI_leI, nI_ltI, nI_eq, zn_inb, zn_gd, zn_bs, zn_isb, not_true_eq_false, not_false_eq_true, ↓reduceIte, pk_div, pk_sub, zn_rem20, zn_rem2, zn_m1, zn_eqw, zn_weq, zn_weq2, zn_wlt0, zn_wltn, zn_win, zn_wcl, zn_wadd, Nat.not_lt_zero, Nat.one_ne_zero, Nat.zero_ne_one, Nat.le_refl, Nat.zero_le, zn_sel_r, zn_sel_l, e1, e4, m1]
      obtain ⟨y, ek, y0, y4, y8, y1⟩ : ∃ y : Int32 × Mem, fX9_thingsIn K (nI f) (nI k) = some y ∧ y.2 0 0 = nI 0 ∧ y.2 0 4 = K 0 4 ∧ y.2 0 8 = K 0 8 ∧ nI (S 5 (f * 10 + k)) = y.1 := by
        unfold fX9_thingsIn 
        simp (disch := omega) only [li0, li1, li2, li3, li4, li5, li6, li7, li8, li9, li10, li12, li13, li14, li15, li19, li20, li31, li33, li40, li42, li44, li48, li57, li60, li99, li100, li126, li150, li176, li177, li187, li197, li207, li208, li223, li304, li608, li1520, li1824, nI_add, pk_mul, nI_clamp, nI_leI, nI_ltI, nI_eq, zn_inb, zn_gd, zn_bs, zn_isb, not_true_eq_false, not_false_eq_true, ↓reduceIte, pk_div, pk_sub, zn_rem20, zn_rem2, zn_m1, zn_eqw, zn_weq, zn_weq2, zn_wlt0, zn_wltn, zn_win, zn_wcl, zn_wadd, Nat.not_lt_zero, Nat.one_ne_zero, Nat.zero_ne_one, Nat.le_refl, Nat.zero_le, zn_sel_r, zn_sel_l, fX9_fails, e3, e5, zk_of4 (K := (sr K 0 (upd (K 0) 0 (nI 0)))) hK0 hc12 hf hk, fX9_thingsIn_B36]
        exact ⟨_, rfl, rfl, rfl, rfl, rfl⟩
      exact zf_ok h hn ex ek y0 y4 y8 y1
    · have ex : fX8_thingsIn M (nI f) x2 = some (.inl "java/lang/IndexOutOfBoundsException") := by
        unfold fX8_thingsIn 
        simp (disch := omega) only [li0, li1, li2, li3, li4, li5, li6, li7, li8, li9, li10, li12, li13, li14, li15, li19, li20, li31, li33, li40, li42, li44, li48, li57, li60, li99, li100, li126, li150, li176, li177, li187, li197, li207, li208, li223, li304, li608, li1520, li1824, nI_add, pk_mul, nI_clamp, nI_leI, nI_ltI, nI_eq, zn_inb, zn_gd, zn_bs, zn_isb, not_true_eq_false, not_false_eq_true, ↓reduceIte, pk_div, pk_sub, zn_rem20, zn_rem2, zn_m1, zn_eqw, zn_weq, zn_weq2, zn_wlt0, zn_wltn, zn_win, zn_wcl, zn_wadd, Nat.not_lt_zero, Nat.one_ne_zero, Nat.zero_ne_one, Nat.le_refl, Nat.zero_le, zn_sel_r, zn_sel_l, e1, e4]
      obtain ⟨y, ek, y0, y4, y8⟩ : ∃ y : Int32 × Mem, fX9_thingsIn K (nI f) x2 = some y ∧ y.2 0 0 = nI (0 + 1) ∧ y.2 0 4 = K 0 4 ∧ y.2 0 8 = K 0 8 := by
        unfold fX9_thingsIn 
        simp (disch := omega) only [li0, li1, li2, li3, li4, li5, li6, li7, li8, li9, li10, li12, li13, li14, li15, li19, li20, li31, li33, li40, li42, li44, li48, li57, li60, li99, li100, li126, li150, li176, li177, li187, li197, li207, li208, li223, li304, li608, li1520, li1824, nI_add, pk_mul, nI_clamp, nI_leI, nI_ltI, nI_eq, zn_inb, zn_gd, zn_bs, zn_isb, not_true_eq_false, not_false_eq_true, ↓reduceIte, pk_div, pk_sub, zn_rem20, zn_rem2, zn_m1, zn_eqw, zn_weq, zn_weq2, zn_wlt0, zn_wltn, zn_win, zn_wcl, zn_wadd, Nat.not_lt_zero, Nat.one_ne_zero, Nat.zero_ne_one, Nat.le_refl, Nat.zero_le, zn_sel_r, zn_sel_l, fX9_fails, e3, e5, fX9_thingsIn_B31, fX9_thingsIn_B36]
        exact ⟨_, rfl, rfl, rfl, rfl⟩
      exact zf_no (i := 0) h hn rfl ex ek y0 y4 y8
  · have e3 := e2 (sr K 0 (upd (K 0) 0 (nI 0))) hK0
    have ex : fX8_thingsIn M x1 x2 = some (.inl "java/lang/IndexOutOfBoundsException") := by
      unfold fX8_thingsIn 
      simp (disch := omega) only [li0, li1, li2, li3, li4, li5, li6, li7, li8, li9, li10, li12, li13, li14, li15, li19, li20, li31, li33, li40, li42, li44, li48, li57, li60, li99, li100, li126, li150, li176, li177, li187, li197, li207, li208, li223, li304, li608, li1520, li1824, nI_add, pk_mul, nI_clamp, nI_leI, nI_ltI, nI_eq, zn_inb, zn_gd, zn_bs, zn_isb, not_true_eq_false, not_false_eq_true, ↓reduceIte, pk_div, pk_sub, zn_rem20, zn_rem2, zn_m1, zn_eqw, zn_weq, zn_weq2, zn_wlt0, zn_wltn, zn_win, zn_wcl, zn_wadd, Nat.not_lt_zero, Nat.one_ne_zero, Nat.zero_ne_one, Nat.le_refl, Nat.zero_le, zn_sel_r, zn_sel_l, e1]
    obtain ⟨y, ek, y0, y4, y8⟩ : ∃ y : Int32 × Mem, fX9_thingsIn K x1 x2 = some y ∧ y.2 0 0 = nI (0 + 1) ∧ y.2 0 4 = K 0 4 ∧ y.2 0 8 = K 0 8 := by
      unfold fX9_thingsIn 
      simp (disch := omega) only [li0, li1, li2, li3, li4, li5, li6, li7, li8, li9, li10, li12, li13, li14, li15, li19, li20, li31, li33, li40, li42, li44, li48, li57, li60, li99, li100, li126, li150, li176, li177, li187, li197, li207, li208, li223, li304, li608, li1520, li1824, nI_add, pk_mul, nI_clamp, nI_leI, nI_ltI, nI_eq, zn_inb, zn_gd, zn_bs, zn_isb, not_true_eq_false, not_false_eq_true, ↓reduceIte, pk_div, pk_sub, zn_rem20, zn_rem2, zn_m1, zn_eqw, zn_weq, zn_weq2, zn_wlt0, zn_wltn, zn_win, zn_wcl, zn_wadd, Nat.not_lt_zero, Nat.one_ne_zero, Nat.zero_ne_one, Nat.le_refl, Nat.zero_le, zn_sel_r, zn_sel_l, fX9_fails, e3, fX9_thingsIn_B31, fX9_thingsIn_B36]
      exact ⟨_, rfl, rfl, rfl, rfl⟩
    exact zf_no (i := 0) h hn rfl ex ek y0 y4 y8
theorem zt_wanted : St_wanted ZI := by
  intro n C M K x1 x2 hn h
  obtain ⟨S, T, hc, ⟨hX, hK, g, h99⟩, hH, hB⟩ := id h
  have hc12 := g.c12
  have h8 := g.o8
  have lo := g.lo
  have hw12 := g.1.2.1
  have hT : RT (ofs 2 M) S := hX.t
  have hK0 : RK ((sr K 0 (upd (K 0) 0 (nI 0))) 1) S := hK
  rcases zr_order hX h8 x1 with ⟨f, hf, rfl, e1, e2⟩ | ⟨e1, e2⟩
  · have e3 := e2 (sr K 0 (upd (K 0) 0 (nI 0))) hK0
    rcases zr_kind M x2 with ⟨k, hk, rfl, e4, e5⟩ | ⟨e4, e5⟩
    · have m1 := zx_wantedG (O := ofs 15 M) (S := S) hX.r15 (r := f) (k := k) (by omega) hk
      have ex : fX8_wanted M (nI f) (nI k) = some (.inr (nI (S 15 (f * 10 + k)))) := by
        unfold fX8_wanted 
        simp (disch := omega) only [li0, li1, li2, li3, li4, li5, li6, li7, li8, li9, li10, li12, li13, li14, li15, li19, li20, li31, li33, li40, li42, li44, li48, li57, li60, li99, li100, li126, li150, li176, li177, li187, li197, li207, li208, li223, li304, li608, li1520, li1824, nI_add, pk_mul, nI_clamp, nI_leI, nI_ltI, nI_eq, zn_inb, zn_gd, zn_bs, zn_isb, not_true_eq_false, not_false_eq_true, ↓reduceIte, pk_div, pk_sub, zn_rem20, zn_rem2, zn_m1, zn_eqw, zn_weq, zn_weq2, zn_wlt0, zn_wltn, zn_win, zn_wcl, zn_wadd, Nat.not_lt_zero, Nat.one_ne_zero, Nat.zero_ne_one, Nat.le_refl, Nat.zero_le, zn_sel_r, zn_sel_l, e1, e4, m1]
      obtain ⟨y, ek, y0, y4, y8, y1⟩ : ∃ y : Int32 × Mem, fX9_wanted K (nI f) (nI k) = some y ∧ y.2 0 0 = nI 0 ∧ y.2 0 4 = K 0 4 ∧ y.2 0 8 = K 0 8 ∧ nI (S 15 (f * 10 + k)) = y.1 := by
        unfold fX9_wanted 
        simp (disch := omega) only [li0, li1, li2, li3, li4, li5, li6, li7, li8, li9, li10, li12, li13, li14, li15, li19, li20, li31, li33, li40, li42, li44, li48, li57, li60, li99, li100, li126, li150, li176, li177, li187, li197, li207, li208, li223, li304, li608, li1520, li1824, nI_add, pk_mul, nI_clamp, nI_leI, nI_ltI, nI_eq, zn_inb, zn_gd, zn_bs, zn_isb, not_true_eq_false, not_false_eq_true, ↓reduceIte, pk_div, pk_sub, zn_rem20, zn_rem2, zn_m1, zn_eqw, zn_weq, zn_weq2, zn_wlt0, zn_wltn, zn_win, zn_wcl, zn_wadd, Nat.not_lt_zero, Nat.one_ne_zero, Nat.zero_ne_one, Nat.le_refl, Nat.zero_le, zn_sel_r, zn_sel_l, fX9_fails, e3, e5, zk_wants (K := (sr K 0 (upd (K 0) 0 (nI 0)))) hK0 g hf hk, fX9_wanted_B34]
        exact ⟨_, rfl, rfl, rfl, rfl, rfl⟩
      exact zf_ok h hn ex ek y0 y4 y8 y1
    · have ex : fX8_wanted M (nI f) x2 = some (.inl "java/lang/IndexOutOfBoundsException") := by
        unfold fX8_wanted 
        simp (disch := omega) only [li0, li1, li2, li3, li4, li5, li6, li7, li8, li9, li10, li12, li13, li14, li15, li19, li20, li31, li33, li40, li42, li44, li48, li57, li60, li99, li100, li126, li150, li176, li177, li187, li197, li207, li208, li223, li304, li608, li1520, li1824, nI_add, pk_mul, nI_clamp, nI_leI, nI_ltI, nI_eq, zn_inb, zn_gd, zn_bs, zn_isb, not_true_eq_false, not_false_eq_true, ↓reduceIte, pk_div, pk_sub, zn_rem20, zn_rem2, zn_m1, zn_eqw, zn_weq, zn_weq2, zn_wlt0, zn_wltn, zn_win, zn_wcl, zn_wadd, Nat.not_lt_zero, Nat.one_ne_zero, Nat.zero_ne_one, Nat.le_refl, Nat.zero_le, zn_sel_r, zn_sel_l, e1, e4]
      obtain ⟨y, ek, y0, y4, y8⟩ : ∃ y : Int32 × Mem, fX9_wanted K (nI f) x2 = some y ∧ y.2 0 0 = nI (0 + 1) ∧ y.2 0 4 = K 0 4 ∧ y.2 0 8 = K 0 8 := by
        unfold fX9_wanted 
        simp (disch := omega) only [li0, li1, li2, li3, li4, li5, li6, li7, li8, li9, li10, li12, li13, li14, li15, li19, li20, li31, li33, li40, li42, li44, li48, li57, li60, li99, li100, li126, li150, li176, li177, li187, li197, li207, li208, li223, li304, li608, li1520, li1824, nI_add, pk_mul, nI_clamp, nI_leI, nI_ltI, nI_eq, zn_inb, zn_gd, zn_bs, zn_isb, not_true_eq_false, not_false_eq_true, ↓reduceIte, pk_div, pk_sub, zn_rem20, zn_rem2, zn_m1, zn_eqw, zn_weq, zn_weq2, zn_wlt0, zn_wltn, zn_win, zn_wcl, zn_wadd, Nat.not_lt_zero, Nat.one_ne_zero, Nat.zero_ne_one, Nat.le_refl, Nat.zero_le, zn_sel_r, zn_sel_l, fX9_fails, e3, e5, fX9_wanted_B29, fX9_wanted_B34]
        exact ⟨_, rfl, rfl, rfl, rfl⟩
      exact zf_no (i := 0) h hn rfl ex ek y0 y4 y8
  · have e3 := e2 (sr K 0 (upd (K 0) 0 (nI 0))) hK0
    have ex : fX8_wanted M x1 x2 = some (.inl "java/lang/IndexOutOfBoundsException") := by
      unfold fX8_wanted 
      simp (disch := omega) only [li0, li1, li2, li3, li4, li5, li6, li7, li8, li9, li10, li12, li13, li14, li15, li19, li20, li31, li33, li40, li42, li44, li48, li57, li60, li99, li100, li126, li150, li176, li177, li187, li197, li207, li208, li223, li304, li608, li1520, li1824, nI_add, pk_mul, nI_clamp, nI_leI, nI_ltI, nI_eq, zn_inb, zn_gd, zn_bs, zn_isb, not_true_eq_false, not_false_eq_true, ↓reduceIte, pk_div, pk_sub, zn_rem20, zn_rem2, zn_m1, zn_eqw, zn_weq, zn_weq2, zn_wlt0, zn_wltn, zn_win, zn_wcl, zn_wadd, Nat.not_lt_zero, Nat.one_ne_zero, Nat.zero_ne_one, Nat.le_refl, Nat.zero_le, zn_sel_r, zn_sel_l, e1]
    obtain ⟨y, ek, y0, y4, y8⟩ : ∃ y : Int32 × Mem, fX9_wanted K x1 x2 = some y ∧ y.2 0 0 = nI (0 + 1) ∧ y.2 0 4 = K 0 4 ∧ y.2 0 8 = K 0 8 := by
      unfold fX9_wanted 
      simp (disch := omega) only [li0, li1, li2, li3, li4, li5, li6, li7, li8, li9, li10, li12, li13, li14, li15, li19, li20, li31, li33, li40, li42, li44, li48, li57, li60, li99, li100, li126, li150, li176, li177, li187, li197, li207, li208, li223, li304, li608, li1520, li1824, nI_add, pk_mul, nI_clamp, nI_leI, nI_ltI, nI_eq, zn_inb, zn_gd, zn_bs, zn_isb, not_true_eq_false, not_false_eq_true, ↓reduceIte, pk_div, pk_sub, zn_rem20, zn_rem2, zn_m1, zn_eqw, zn_weq, zn_weq2, zn_wlt0, zn_wltn, zn_win, zn_wcl, zn_wadd, Nat.not_lt_zero, Nat.one_ne_zero, Nat.zero_ne_one, Nat.le_refl, Nat.zero_le, zn_sel_r, zn_sel_l, fX9_fails, e3, fX9_wanted_B29, fX9_wanted_B34]
      exact ⟨_, rfl, rfl, rfl, rfl⟩
    exact zf_no (i := 0) h hn rfl ex ek y0 y4 y8
theorem zt_canServe : St_canServe ZI := by
  intro n C M K x1 hn h
  obtain ⟨S, T, hc, ⟨hX, hK, g, h99⟩, hH, hB⟩ := id h
  have hc12 := g.c12
  have h8 := g.o8
  have lo := g.lo
  have hw12 := g.1.2.1
  have hT : RT (ofs 2 M) S := hX.t
  have hK0 : RK ((sr K 0 (upd (K 0) 0 (nI 0))) 1) S := hK
  rcases zr_order hX h8 x1 with ⟨f, hf, rfl, e1, e2⟩ | ⟨e1, e2⟩
  · have e3 := e2 (sr K 0 (upd (K 0) 0 (nI 0))) hK0
    have m1 := zx_isServable hX g hf
    have m2 := zk_canBe (K := (sr K 0 (upd (K 0) 0 (nI 0)))) hK0 g hf
    cases q : zs_can S f
    · rw [q, cond_false] at m1 m2
      have ex : fX8_canServe M (nI f) = some (.inr (nI 0)) := by
        unfold fX8_canServe 
        simp (disch := omega) only [li0, li1, li2, li3, li4, li5, li6, li7, li8, li9, li10, li12, li13, li14, li15, li19, li20, li31, li33, li40, li42, li44, li48, li57, li60, li99, li100, li126, li150, li176, li177, li187, li197, li207, li208, li223, li304, li608, li1520, li1824, nI_add, pk_mul, nI_clamp, nI_leI, nI_ltI, nI_eq, zn_inb, zn_gd, zn_bs, zn_isb, not_true_eq_false, not_false_eq_true, ↓reduceIte, pk_div, pk_sub, zn_rem20, zn_rem2, zn_m1, zn_eqw, zn_weq, zn_weq2, zn_wlt0, zn_wltn, zn_win, zn_wcl, zn_wadd, Nat.not_lt_zero, Nat.one_ne_zero, Nat.zero_ne_one, Nat.le_refl, Nat.zero_le, zn_sel_r, zn_sel_l, e1, m1]
      obtain ⟨y, ek, y0, y4, y8, y1⟩ : ∃ y : Int32 × Mem, fX9_canServe K (nI f) = some y ∧ y.2 0 0 = nI 0 ∧ y.2 0 4 = K 0 4 ∧ y.2 0 8 = K 0 8 ∧ nI 0 = y.1 := by
        unfold fX9_canServe 
        simp (disch := omega) only [li0, li1, li2, li3, li4, li5, li6, li7, li8, li9, li10, li12, li13, li14, li15, li19, li20, li31, li33, li40, li42, li44, li48, li57, li60, li99, li100, li126, li150, li176, li177, li187, li197, li207, li208, li223, li304, li608, li1520, li1824, nI_add, pk_mul, nI_clamp, nI_leI, nI_ltI, nI_eq, zn_inb, zn_gd, zn_bs, zn_isb, not_true_eq_false, not_false_eq_true, ↓reduceIte, pk_div, pk_sub, zn_rem20, zn_rem2, zn_m1, zn_eqw, zn_weq, zn_weq2, zn_wlt0, zn_wltn, zn_win, zn_wcl, zn_wadd, Nat.not_lt_zero, Nat.one_ne_zero, Nat.zero_ne_one, Nat.le_refl, Nat.zero_le, zn_sel_r, zn_sel_l, fX9_fails, e3, m2, fX9_canServe_B34]
        exact ⟨_, rfl, rfl, rfl, rfl, rfl⟩
      exact zf_ok h hn ex ek y0 y4 y8 y1
    · rw [q, cond_true] at m1 m2
      have ex : fX8_canServe M (nI f) = some (.inr (nI 1)) := by
        unfold fX8_canServe 
        simp (disch := omega) only [li0, li1, li2, li3, li4, li5, li6, li7, li8, li9, li10, li12, li13, li14, li15, li19, li20, li31, li33, li40, li42, li44, li48, li57, li60, li99, li100, li126, li150, li176, li177, li187, li197, li207, li208, li223, li304, li608, li1520, li1824, nI_add, pk_mul, nI_clamp, nI_leI, nI_ltI, nI_eq, zn_inb, zn_gd, zn_bs, zn_isb, not_true_eq_false, not_false_eq_true, ↓reduceIte, pk_div, pk_sub, zn_rem20, zn_rem2, zn_m1, zn_eqw, zn_weq, zn_weq2, zn_wlt0, zn_wltn, zn_win, zn_wcl, zn_wadd, Nat.not_lt_zero, Nat.one_ne_zero, Nat.zero_ne_one, Nat.le_refl, Nat.zero_le, zn_sel_r, zn_sel_l, e1, m1]
      obtain ⟨y, ek, y0, y4, y8, y1⟩ : ∃ y : Int32 × Mem, fX9_canServe K (nI f) = some y ∧ y.2 0 0 = nI 0 ∧ y.2 0 4 = K 0 4 ∧ y.2 0 8 = K 0 8 ∧ nI 1 = y.1 := by
        unfold fX9_canServe 
        simp (disch := omega) only [li0, li1, li2, li3, li4, li5, li6, li7, li8, li9, li10, li12, li13, li14, li15, li19, li20, li31, li33, li40, li42, li44, li48, li57, li60, li99, li100, li126, li150, li176, li177, li187, li197, li207, li208, li223, li304, li608, li1520, li1824, nI_add, pk_mul, nI_clamp, nI_leI, nI_ltI, nI_eq, zn_inb, zn_gd, zn_bs, zn_isb, not_true_eq_false, not_false_eq_true, ↓reduceIte, pk_div, pk_sub, zn_rem20, zn_rem2, zn_m1, zn_eqw, zn_weq, zn_weq2, zn_wlt0, zn_wltn, zn_win, zn_wcl, zn_wadd, Nat.not_lt_zero, Nat.one_ne_zero, Nat.zero_ne_one, Nat.le_refl, Nat.zero_le, zn_sel_r, zn_sel_l, fX9_fails, e3, m2, fX9_canServe_B34]
        exact ⟨_, rfl, rfl, rfl, rfl, rfl⟩
      exact zf_ok h hn ex ek y0 y4 y8 y1
  · have e3 := e2 (sr K 0 (upd (K 0) 0 (nI 0))) hK0
    have ex : fX8_canServe M x1 = some (.inl "java/lang/IndexOutOfBoundsException") := by
      unfold fX8_canServe 
      simp (disch := omega) only [li0, li1, li2, li3, li4, li5, li6, li7, li8, li9, li10, li12, li13, li14, li15, li19, li20, li31, li33, li40, li42, li44, li48, li57, li60, li99, li100, li126, li150, li176, li177, li187, li197, li207, li208, li223, li304, li608, li1520, li1824, nI_add, pk_mul, nI_clamp, nI_leI, nI_ltI, nI_eq, zn_inb, zn_gd, zn_bs, zn_isb, not_true_eq_false, not_false_eq_true, ↓reduceIte, pk_div, pk_sub, zn_rem20, zn_rem2, zn_m1, zn_eqw, zn_weq, zn_weq2, zn_wlt0, zn_wltn, zn_win, zn_wcl, zn_wadd, Nat.not_lt_zero, Nat.one_ne_zero, Nat.zero_ne_one, Nat.le_refl, Nat.zero_le, zn_sel_r, zn_sel_l, e1]
    obtain ⟨y, ek, y0, y4, y8⟩ : ∃ y : Int32 × Mem, fX9_canServe K x1 = some y ∧ y.2 0 0 = nI (0 + 1) ∧ y.2 0 4 = K 0 4 ∧ y.2 0 8 = K 0 8 := by
      unfold fX9_canServe 
      simp (disch := omega) only [li0, li1, li2, li3, li4, li5, li6, li7, li8, li9, li10, li12, li13, li14, li15, li19, li20, li31, li33, li40, li42, li44, li48, li57, li60, li99, li100, li126, li150, li176, li177, li187, li197, li207, li208, li223, li304, li608, li1520, li1824, nI_add, pk_mul, nI_clamp, nI_leI, nI_ltI, nI_eq, zn_inb, zn_gd, zn_bs, zn_isb, not_true_eq_false, not_false_eq_true, ↓reduceIte, pk_div, pk_sub, zn_rem20, zn_rem2, zn_m1, zn_eqw, zn_weq, zn_weq2, zn_wlt0, zn_wltn, zn_win, zn_wcl, zn_wadd, Nat.not_lt_zero, Nat.one_ne_zero, Nat.zero_ne_one, Nat.le_refl, Nat.zero_le, zn_sel_r, zn_sel_l, fX9_fails, e3, fX9_canServe_B34]
      exact ⟨_, rfl, rfl, rfl, rfl⟩
    exact zf_no (i := 0) h hn rfl ex ek y0 y4 y8
theorem zt_atWindow : St_atWindow ZI := by
  intro n C M K  hn h
  obtain ⟨S, T, hc, ⟨hX, hK, g, h99⟩, hH, hB⟩ := id h
  have hc12 := g.c12
  have h8 := g.o8
  have lo := g.lo
  have hw12 := g.1.2.1
  have hT : RT (ofs 2 M) S := hX.t
  have hK0 : RK ((sr K 0 (upd (K 0) 0 (nI 0))) 1) S := hK
  have m1 : M 2 1 = wI (S 1 1) := hX.w
  have e1 := zr_at hX hc12 hw12
  have e2 := zk_hasWindow (K := (sr K 0 (upd (K 0) 0 (nI 0)))) hK0 (by omega)
  by_cases c1 : S 1 1 = 0
  · rw [if_pos c1] at e1 e2
    have ex : fX8_atWindow M  = some (.inl "java/lang/IllegalStateException") := by
      unfold fX8_atWindow 
      simp (disch := omega) only [li0, li1, li2, li3, li4, li5, li6, li7, li8, li9, li10, li12, li13, li14, li15, li19, li20, li31, li33, li40, li42, li44, li48, li57, li60, li99, li100, li126, li150, li176, li177, li187, li197, li207, li208, li223, li304, li608, li1520, li1824, nI_add, pk_mul, nI_clamp, nI_leI, nI_ltI, nI_eq, zn_inb, zn_gd, zn_bs, zn_isb, not_true_eq_false, not_false_eq_true, ↓reduceIte, pk_div, pk_sub, zn_rem20, zn_rem2, zn_m1, zn_eqw, zn_weq, zn_weq2, zn_wlt0, zn_wltn, zn_win, zn_wcl, zn_wadd, Nat.not_lt_zero, Nat.one_ne_zero, Nat.zero_ne_one, Nat.le_refl, Nat.zero_le, zn_sel_r, zn_sel_l, e1]
    obtain ⟨y, ek, y0, y4, y8⟩ : ∃ y : Int32 × Mem, fX9_atWindow K  = some y ∧ y.2 0 0 = nI (0 + 1) ∧ y.2 0 4 = K 0 4 ∧ y.2 0 8 = K 0 8 := by
      unfold fX9_atWindow 
      simp (disch := omega) only [li0, li1, li2, li3, li4, li5, li6, li7, li8, li9, li10, li12, li13, li14, li15, li19, li20, li31, li33, li40, li42, li44, li48, li57, li60, li99, li100, li126, li150, li176, li177, li187, li197, li207, li208, li223, li304, li608, li1520, li1824, nI_add, pk_mul, nI_clamp, nI_leI, nI_ltI, nI_eq, zn_inb, zn_gd, zn_bs, zn_isb, not_true_eq_false, not_false_eq_true, ↓reduceIte, pk_div, pk_sub, zn_rem20, zn_rem2, zn_m1, zn_eqw, zn_weq, zn_weq2, zn_wlt0, zn_wltn, zn_win, zn_wcl, zn_wadd, Nat.not_lt_zero, Nat.one_ne_zero, Nat.zero_ne_one, Nat.le_refl, Nat.zero_le, zn_sel_r, zn_sel_l, fX9_fails, e2, fX9_atWindow_B26]
      exact ⟨_, rfl, rfl, rfl, rfl⟩
    exact zf_no (i := 0) h hn rfl ex ek y0 y4 y8
  · rw [if_neg c1] at e1 e2
    have ex : fX8_atWindow M  = some (.inr (wI (S 1 1))) := by
      unfold fX8_atWindow 
      simp (disch := omega) only [li0, li1, li2, li3, li4, li5, li6, li7, li8, li9, li10, li12, li13, li14, li15, li19, li20, li31, li33, li40, li42, li44, li48, li57, li60, li99, li100, li126, li150, li176, li177, li187, li197, li207, li208, li223, li304, li608, li1520, li1824, nI_add, pk_mul, nI_clamp, nI_leI, nI_ltI, nI_eq, zn_inb, zn_gd, zn_bs, zn_isb, not_true_eq_false, not_false_eq_true, ↓reduceIte, pk_div, pk_sub, zn_rem20, zn_rem2, zn_m1, zn_eqw, zn_weq, zn_weq2, zn_wlt0, zn_wltn, zn_win, zn_wcl, zn_wadd, Nat.not_lt_zero, Nat.one_ne_zero, Nat.zero_ne_one, Nat.le_refl, Nat.zero_le, zn_sel_r, zn_sel_l, e1, m1]
    obtain ⟨y, ek, y0, y4, y8, y1⟩ : ∃ y : Int32 × Mem, fX9_atWindow K  = some y ∧ y.2 0 0 = nI 0 ∧ y.2 0 4 = K 0 4 ∧ y.2 0 8 = K 0 8 ∧ wI (S 1 1) = y.1 := by
      unfold fX9_atWindow 
      simp (disch := omega) only [li0, li1, li2, li3, li4, li5, li6, li7, li8, li9, li10, li12, li13, li14, li15, li19, li20, li31, li33, li40, li42, li44, li48, li57, li60, li99, li100, li126, li150, li176, li177, li187, li197, li207, li208, li223, li304, li608, li1520, li1824, nI_add, pk_mul, nI_clamp, nI_leI, nI_ltI, nI_eq, zn_inb, zn_gd, zn_bs, zn_isb, not_true_eq_false, not_false_eq_true, ↓reduceIte, pk_div, pk_sub, zn_rem20, zn_rem2, zn_m1, zn_eqw, zn_weq, zn_weq2, zn_wlt0, zn_wltn, zn_win, zn_wcl, zn_wadd, Nat.not_lt_zero, Nat.one_ne_zero, Nat.zero_ne_one, Nat.le_refl, Nat.zero_le, zn_sel_r, zn_sel_l, fX9_fails, e2, hK.2.1, fX9_atWindow_B26]
      exact ⟨_, rfl, rfl, rfl, rfl, rfl⟩
    exact zf_ok h hn ex ek y0 y4 y8 y1
theorem zt_fetchTicks : St_fetchTicks ZI := by
  intro n C M K x1 hn h
  obtain ⟨S, T, hc, ⟨hX, hK, g, h99⟩, hH, hB⟩ := id h
  have hc12 := g.c12
  have h8 := g.o8
  have lo := g.lo
  have hw12 := g.1.2.1
  have hT : RT (ofs 2 M) S := hX.t
  have hK0 : RK ((sr K 0 (upd (K 0) 0 (nI 0))) 1) S := hK
  have e4 := zr_win hX (by omega)
  have e5 := zk_hasWindow (K := (sr K 0 (upd (K 0) 0 (nI 0)))) hK0 (by omega)
  rcases zr_shelf hX hc12 x1 with ⟨f, hf, rfl, e1, e2⟩ | ⟨e1, e2⟩
  · have e3 := e2 (sr K 0 (upd (K 0) 0 (nI 0))) hK0
    by_cases c1 : S 1 1 = 0
    · rw [if_pos c1] at e4 e5
      have ex : fX8_fetchTicks M (nI f) = some (.inr (nI (zs_to S f))) := by
        unfold fX8_fetchTicks 
        simp (disch := omega) only [li0, li1, li2, li3, li4, li5, li6, li7, li8, li9, li10, li12, li13, li14, li15, li19, li20, li31, li33, li40, li42, li44, li48, li57, li60, li99, li100, li126, li150, li176, li177, li187, li197, li207, li208, li223, li304, li608, li1520, li1824, nI_add, pk_mul, nI_clamp, nI_leI, nI_ltI, nI_eq, zn_inb, zn_gd, zn_bs, zn_isb, not_true_eq_false, not_false_eq_true, ↓reduceIte, pk_div, pk_sub, zn_rem20, zn_rem2, zn_m1, zn_eqw, zn_weq, zn_weq2, zn_wlt0, zn_wltn, zn_win, zn_wcl, zn_wadd, Nat.not_lt_zero, Nat.one_ne_zero, Nat.zero_ne_one, Nat.le_refl, Nat.zero_le, zn_sel_r, zn_sel_l, e1, e4, zx_ticksToBring hX g hf]
      obtain ⟨y, ek, y0, y4, y8, y1⟩ : ∃ y : Int32 × Mem, fX9_fetchTicks K (nI f) = some y ∧ y.2 0 0 = nI 0 ∧ y.2 0 4 = K 0 4 ∧ y.2 0 8 = K 0 8 ∧ nI (zs_to S f) = y.1 := by
        unfold fX9_fetchTicks 
        simp (disch := omega) only [li0, li1, li2, li3, li4, li5, li6, li7, li8, li9, li10, li12, li13, li14, li15, li19, li20, li31, li33, li40, li42, li44, li48, li57, li60, li99, li100, li126, li150, li176, li177, li187, li197, li207, li208, li223, li304, li608, li1520, li1824, nI_add, pk_mul, nI_clamp, nI_leI, nI_ltI, nI_eq, zn_inb, zn_gd, zn_bs, zn_isb, not_true_eq_false, not_false_eq_true, ↓reduceIte, pk_div, pk_sub, zn_rem20, zn_rem2, zn_m1, zn_eqw, zn_weq, zn_weq2, zn_wlt0, zn_wltn, zn_win, zn_wcl, zn_wadd, Nat.not_lt_zero, Nat.one_ne_zero, Nat.zero_ne_one, Nat.le_refl, Nat.zero_le, zn_sel_r, zn_sel_l, fX9_fails, e3, e5, zk_wayTo (K := (sr K 0 (upd (K 0) 0 (nI 0)))) hK0 g hf, fX9_fetchTicks_B39]
        exact ⟨_, rfl, rfl, rfl, rfl, rfl⟩
      exact zf_ok h hn ex ek y0 y4 y8 y1
    · rw [if_neg c1] at e4 e5
      have ex : fX8_fetchTicks M (nI f) = some (.inl "java/lang/IllegalStateException") := by
        unfold fX8_fetchTicks 
        simp (disch := omega) only [li0, li1, li2, li3, li4, li5, li6, li7, li8, li9, li10, li12, li13, li14, li15, li19, li20, li31, li33, li40, li42, li44, li48, li57, li60, li99, li100, li126, li150, li176, li177, li187, li197, li207, li208, li223, li304, li608, li1520, li1824, nI_add, pk_mul, nI_clamp, nI_leI, nI_ltI, nI_eq, zn_inb, zn_gd, zn_bs, zn_isb, not_true_eq_false, not_false_eq_true, ↓reduceIte, pk_div, pk_sub, zn_rem20, zn_rem2, zn_m1, zn_eqw, zn_weq, zn_weq2, zn_wlt0, zn_wltn, zn_win, zn_wcl, zn_wadd, Nat.not_lt_zero, Nat.one_ne_zero, Nat.zero_ne_one, Nat.le_refl, Nat.zero_le, zn_sel_r, zn_sel_l, e1, e4]
      obtain ⟨y, ek, y0, y4, y8⟩ : ∃ y : Int32 × Mem, fX9_fetchTicks K (nI f) = some y ∧ y.2 0 0 = nI (1 + 1) ∧ y.2 0 4 = K 0 4 ∧ y.2 0 8 = K 0 8 := by
        unfold fX9_fetchTicks 
        simp (disch := omega) only [li0, li1, li2, li3, li4, li5, li6, li7, li8, li9, li10, li12, li13, li14, li15, li19, li20, li31, li33, li40, li42, li44, li48, li57, li60, li99, li100, li126, li150, li176, li177, li187, li197, li207, li208, li223, li304, li608, li1520, li1824, nI_add, pk_mul, nI_clamp, nI_leI, nI_ltI, nI_eq, zn_inb, zn_gd, zn_bs, zn_isb, not_true_eq_false, not_false_eq_true, ↓reduceIte, pk_div, pk_sub, zn_rem20, zn_rem2, zn_m1, zn_eqw, zn_weq, zn_weq2, zn_wlt0, zn_wltn, zn_win, zn_wcl, zn_wadd, Nat.not_lt_zero, Nat.one_ne_zero, Nat.zero_ne_one, Nat.le_refl, Nat.zero_le, zn_sel_r, zn_sel_l, fX9_fails, e3, e5, fX9_fetchTicks_B39]
        exact ⟨_, rfl, rfl, rfl, rfl⟩
      exact zf_no (i := 1) h hn rfl ex ek y0 y4 y8
  · have e3 := e2 (sr K 0 (upd (K 0) 0 (nI 0))) hK0
    have ex : fX8_fetchTicks M x1 = some (.inl "java/lang/IndexOutOfBoundsException") := by
      unfold fX8_fetchTicks 
      simp (disch := omega) only [li0, li1, li2, li3, li4, li5, li6, li7, li8, li9, li10, li12, li13, li14, li15, li19, li20, li31, li33, li40, li42, li44, li48, li57, li60, li99, li100, li126, li150, li176, li177, li187, li197, li207, li208, li223, li304, li608, li1520, li1824, nI_add, pk_mul, nI_clamp, nI_leI, nI_ltI, nI_eq, zn_inb, zn_gd, zn_bs, zn_isb, not_true_eq_false, not_false_eq_true, ↓reduceIte, pk_div, pk_sub, zn_rem20, zn_rem2, zn_m1, zn_eqw, zn_weq, zn_weq2, zn_wlt0, zn_wltn, zn_win, zn_wcl, zn_wadd, Nat.not_lt_zero, Nat.one_ne_zero, Nat.zero_ne_one, Nat.le_refl, Nat.zero_le, zn_sel_r, zn_sel_l, e1]
    obtain ⟨y, ek, y0, y4, y8⟩ : ∃ y : Int32 × Mem, fX9_fetchTicks K x1 = some y ∧ y.2 0 0 = nI (0 + 1) ∧ y.2 0 4 = K 0 4 ∧ y.2 0 8 = K 0 8 := by
      unfold fX9_fetchTicks 
      simp (disch := omega) only [li0, li1, li2, li3, li4, li5, li6, li7, li8, li9, li10, li12, li13, li14, li15, li19, li20, li31, li33, li40, li42, li44, li48, li57, li60, li99, li100, li126, li150, li176, li177, li187, li197, li207, li208, li223, li304, li608, li1520, li1824, nI_add, pk_mul, nI_clamp, nI_leI, nI_ltI, nI_eq, zn_inb, zn_gd, zn_bs, zn_isb, not_true_eq_false, not_false_eq_true, ↓reduceIte, pk_div, pk_sub, zn_rem20, zn_rem2, zn_m1, zn_eqw, zn_weq, zn_weq2, zn_wlt0, zn_wltn, zn_win, zn_wcl, zn_wadd, Nat.not_lt_zero, Nat.one_ne_zero, Nat.zero_ne_one, Nat.le_refl, Nat.zero_le, zn_sel_r, zn_sel_l, fX9_fails, e3]
      exact ⟨_, rfl, rfl, rfl, rfl⟩
    exact zf_no (i := 0) h hn rfl ex ek y0 y4 y8
theorem zt_heaviest : St_heaviest ZI := by
  intro n C M K  hn h
  obtain ⟨S, T, hc, ⟨hX, hK, g, h99⟩, hH, hB⟩ := id h
  have hc12 := g.c12
  have h8 := g.o8
  have lo := g.lo
  have hw12 := g.1.2.1
  have hT : RT (ofs 2 M) S := hX.t
  have hK0 : RK ((sr K 0 (upd (K 0) 0 (nI 0))) 1) S := hK
  have m1 : M 2 0 = nI (S 1 0) := hX.c
  have e1 := zx_findHeaviest hX g
  by_cases c1 : S 1 0 = 0
  · have ex : fX8_heaviest M  = some (.inl "java/lang/IllegalStateException") := by
      unfold fX8_heaviest fX8_requireSomeShelf
      simp (disch := omega) only [li0, li1, li2, li3, li4, li5, li6, li7, li8, li9, li10, li12, li13, li14, li15, li19, li20, li31, li33, li40, li42, li44, li48, li57, li60, li99, li100, li126, li150, li176, li177, li187, li197, li207, li208, li223, li304, li608, li1520, li1824, nI_add, pk_mul, nI_clamp, nI_leI, nI_ltI, nI_eq, zn_inb, zn_gd, zn_bs, zn_isb, not_true_eq_false, not_false_eq_true, ↓reduceIte, pk_div, pk_sub, zn_rem20, zn_rem2, zn_m1, zn_eqw, zn_weq, zn_weq2, zn_wlt0, zn_wltn, zn_win, zn_wcl, zn_wadd, Nat.not_lt_zero, Nat.one_ne_zero, Nat.zero_ne_one, Nat.le_refl, Nat.zero_le, zn_sel_r, zn_sel_l, m1, eq_true c1]
    obtain ⟨y, ek, y0, y4, y8⟩ : ∃ y : Int32 × Mem, fX9_heaviest K  = some y ∧ y.2 0 0 = nI (0 + 1) ∧ y.2 0 4 = K 0 4 ∧ y.2 0 8 = K 0 8 := by
      unfold fX9_heaviest 
      simp (disch := omega) only [li0, li1, li2, li3, li4, li5, li6, li7, li8, li9, li10, li12, li13, li14, li15, li19, li20, li31, li33, li40, li42, li44, li48, li57, li60, li99, li100, li126, li150, li176, li177, li187, li197, li207, li208, li223, li304, li608, li1520, li1824, nI_add, pk_mul, nI_clamp, nI_leI, nI_ltI, nI_eq, zn_inb, zn_gd, zn_bs, zn_isb, not_true_eq_false, not_false_eq_true, ↓reduceIte, pk_div, pk_sub, zn_rem20, zn_rem2, zn_m1, zn_eqw, zn_weq, zn_weq2, zn_wlt0, zn_wltn, zn_win, zn_wcl, zn_wadd, Nat.not_lt_zero, Nat.one_ne_zero, Nat.zero_ne_one, Nat.le_refl, Nat.zero_le, zn_sel_r, zn_sel_l, fX9_fails, hK.1, eq_true c1, fX9_heaviest_B26]
      exact ⟨_, rfl, rfl, rfl, rfl⟩
    exact zf_no (i := 0) h hn rfl ex ek y0 y4 y8
  · have e2 := zk_dearest (K := (sr K 0 (upd (K 0) 0 (nI 0)))) hK0 g (by omega)
    have p := zs_hv_p (S := S) (S 1 0) (by omega)
    rw [wI_p p] at e1
    have ex : fX8_heaviest M  = some (.inr (nI (zs_hv S (S 1 0) - 1))) := by
      unfold fX8_heaviest fX8_requireSomeShelf
      simp (disch := omega) only [li0, li1, li2, li3, li4, li5, li6, li7, li8, li9, li10, li12, li13, li14, li15, li19, li20, li31, li33, li40, li42, li44, li48, li57, li60, li99, li100, li126, li150, li176, li177, li187, li197, li207, li208, li223, li304, li608, li1520, li1824, nI_add, pk_mul, nI_clamp, nI_leI, nI_ltI, nI_eq, zn_inb, zn_gd, zn_bs, zn_isb, not_true_eq_false, not_false_eq_true, ↓reduceIte, pk_div, pk_sub, zn_rem20, zn_rem2, zn_m1, zn_eqw, zn_weq, zn_weq2, zn_wlt0, zn_wltn, zn_win, zn_wcl, zn_wadd, Nat.not_lt_zero, Nat.one_ne_zero, Nat.zero_ne_one, Nat.le_refl, Nat.zero_le, zn_sel_r, zn_sel_l, m1, c1, e1]
    obtain ⟨y, ek, y0, y4, y8, y1⟩ : ∃ y : Int32 × Mem, fX9_heaviest K  = some y ∧ y.2 0 0 = nI 0 ∧ y.2 0 4 = K 0 4 ∧ y.2 0 8 = K 0 8 ∧ nI (zs_hv S (S 1 0) - 1) = y.1 := by
      unfold fX9_heaviest 
      simp (disch := omega) only [li0, li1, li2, li3, li4, li5, li6, li7, li8, li9, li10, li12, li13, li14, li15, li19, li20, li31, li33, li40, li42, li44, li48, li57, li60, li99, li100, li126, li150, li176, li177, li187, li197, li207, li208, li223, li304, li608, li1520, li1824, nI_add, pk_mul, nI_clamp, nI_leI, nI_ltI, nI_eq, zn_inb, zn_gd, zn_bs, zn_isb, not_true_eq_false, not_false_eq_true, ↓reduceIte, pk_div, pk_sub, zn_rem20, zn_rem2, zn_m1, zn_eqw, zn_weq, zn_weq2, zn_wlt0, zn_wltn, zn_win, zn_wcl, zn_wadd, Nat.not_lt_zero, Nat.one_ne_zero, Nat.zero_ne_one, Nat.le_refl, Nat.zero_le, zn_sel_r, zn_sel_l, fX9_fails, hK.1, c1, e2, fX9_heaviest_B26]
      exact ⟨_, rfl, rfl, rfl, rfl, rfl⟩
    exact zf_ok h hn ex ek y0 y4 y8 y1
theorem zt_mostFetched : St_mostFetched ZI := by
  intro n C M K  hn h
  obtain ⟨S, T, hc, ⟨hX, hK, g, h99⟩, hH, hB⟩ := id h
  have hc12 := g.c12
  have h8 := g.o8
  have lo := g.lo
  have hw12 := g.1.2.1
  have hT : RT (ofs 2 M) S := hX.t
  have hK0 : RK ((sr K 0 (upd (K 0) 0 (nI 0))) 1) S := hK
  have m1 : M 2 0 = nI (S 1 0) := hX.c
  have e1 := zx_mostUsed hT g.1 (lo := 0) (by omega)
  by_cases c1 : S 1 0 = 0
  · have ex : fX8_mostFetched M  = some (.inl "java/lang/IllegalStateException") := by
      unfold fX8_mostFetched fX8_requireSomeShelf
      simp (disch := omega) only [li0, li1, li2, li3, li4, li5, li6, li7, li8, li9, li10, li12, li13, li14, li15, li19, li20, li31, li33, li40, li42, li44, li48, li57, li60, li99, li100, li126, li150, li176, li177, li187, li197, li207, li208, li223, li304, li608, li1520, li1824, nI_add, pk_mul, nI_clamp, nI_leI, nI_ltI, nI_eq, zn_inb, zn_gd, zn_bs, zn_isb, not_true_eq_false, not_false_eq_true, ↓reduceIte, pk_div, pk_sub, zn_rem20, zn_rem2, zn_m1, zn_eqw, zn_weq, zn_weq2, zn_wlt0, zn_wltn, zn_win, zn_wcl, zn_wadd, Nat.not_lt_zero, Nat.one_ne_zero, Nat.zero_ne_one, Nat.le_refl, Nat.zero_le, zn_sel_r, zn_sel_l, m1, eq_true c1]
    obtain ⟨y, ek, y0, y4, y8⟩ : ∃ y : Int32 × Mem, fX9_mostFetched K  = some y ∧ y.2 0 0 = nI (0 + 1) ∧ y.2 0 4 = K 0 4 ∧ y.2 0 8 = K 0 8 := by
      unfold fX9_mostFetched 
      simp (disch := omega) only [li0, li1, li2, li3, li4, li5, li6, li7, li8, li9, li10, li12, li13, li14, li15, li19, li20, li31, li33, li40, li42, li44, li48, li57, li60, li99, li100, li126, li150, li176, li177, li187, li197, li207, li208, li223, li304, li608, li1520, li1824, nI_add, pk_mul, nI_clamp, nI_leI, nI_ltI, nI_eq, zn_inb, zn_gd, zn_bs, zn_isb, not_true_eq_false, not_false_eq_true, ↓reduceIte, pk_div, pk_sub, zn_rem20, zn_rem2, zn_m1, zn_eqw, zn_weq, zn_weq2, zn_wlt0, zn_wltn, zn_win, zn_wcl, zn_wadd, Nat.not_lt_zero, Nat.one_ne_zero, Nat.zero_ne_one, Nat.le_refl, Nat.zero_le, zn_sel_r, zn_sel_l, fX9_fails, hK.1, eq_true c1, fX9_mostFetched_B26]
      exact ⟨_, rfl, rfl, rfl, rfl⟩
    exact zf_no (i := 0) h hn rfl ex ek y0 y4 y8
  · have e2 := zk_favourite (K := (sr K 0 (upd (K 0) 0 (nI 0)))) hK0 g (by omega)
    have p := zs_mu_p (S := S) (S 1 0) (by omega)
    rw [wI_p p] at e1
    have ex : fX8_mostFetched M  = some (.inr (nI (zs_mu S 0 (S 1 0) - 1))) := by
      unfold fX8_mostFetched fX8_requireSomeShelf
      simp (disch := omega) only [li0, li1, li2, li3, li4, li5, li6, li7, li8, li9, li10, li12, li13, li14, li15, li19, li20, li31, li33, li40, li42, li44, li48, li57, li60, li99, li100, li126, li150, li176, li177, li187, li197, li207, li208, li223, li304, li608, li1520, li1824, nI_add, pk_mul, nI_clamp, nI_leI, nI_ltI, nI_eq, zn_inb, zn_gd, zn_bs, zn_isb, not_true_eq_false, not_false_eq_true, ↓reduceIte, pk_div, pk_sub, zn_rem20, zn_rem2, zn_m1, zn_eqw, zn_weq, zn_weq2, zn_wlt0, zn_wltn, zn_win, zn_wcl, zn_wadd, Nat.not_lt_zero, Nat.one_ne_zero, Nat.zero_ne_one, Nat.le_refl, Nat.zero_le, zn_sel_r, zn_sel_l, m1, c1, e1]
    obtain ⟨y, ek, y0, y4, y8, y1⟩ : ∃ y : Int32 × Mem, fX9_mostFetched K  = some y ∧ y.2 0 0 = nI 0 ∧ y.2 0 4 = K 0 4 ∧ y.2 0 8 = K 0 8 ∧ nI (zs_mu S 0 (S 1 0) - 1) = y.1 := by
      unfold fX9_mostFetched 
      simp (disch := omega) only [li0, li1, li2, li3, li4, li5, li6, li7, li8, li9, li10, li12, li13, li14, li15, li19, li20, li31, li33, li40, li42, li44, li48, li57, li60, li99, li100, li126, li150, li176, li177, li187, li197, li207, li208, li223, li304, li608, li1520, li1824, nI_add, pk_mul, nI_clamp, nI_leI, nI_ltI, nI_eq, zn_inb, zn_gd, zn_bs, zn_isb, not_true_eq_false, not_false_eq_true, ↓reduceIte, pk_div, pk_sub, zn_rem20, zn_rem2, zn_m1, zn_eqw, zn_weq, zn_weq2, zn_wlt0, zn_wltn, zn_win, zn_wcl, zn_wadd, Nat.not_lt_zero, Nat.one_ne_zero, Nat.zero_ne_one, Nat.le_refl, Nat.zero_le, zn_sel_r, zn_sel_l, fX9_fails, hK.1, c1, e2, fX9_mostFetched_B26]
      exact ⟨_, rfl, rfl, rfl, rfl, rfl⟩
    exact zf_ok h hn ex ek y0 y4 y8 y1
theorem zt_firstPlace : St_firstPlace ZI := by
  intro n C M K x1 hn h
  obtain ⟨S, T, hc, ⟨hX, hK, g, h99⟩, hH, hB⟩ := id h
  have hc12 := g.c12
  have h8 := g.o8
  have lo := g.lo
  have hw12 := g.1.2.1
  have hT : RT (ofs 2 M) S := hX.t
  have hK0 : RK ((sr K 0 (upd (K 0) 0 (nI 0))) 1) S := hK
  rcases zr_height M x1 with ⟨w, w1, w4, rfl, e1, e2⟩ | ⟨e1, e2⟩
  · have e3 := zx_firstFree hT g.1 w4
    have e4 := zk_place (K := (sr K 0 (upd (K 0) 0 (nI 0)))) hK0 g.1.k w4
    have fl := zs_fp_le (zs_tq S) w
    by_cases c1 : zs_fp (zs_tq S) w = 0
    · rw [c1] at e3 e4
      have ex : fX8_firstPlace M (nI w) = some (.inl "java/lang/IllegalStateException") := by
        unfold fX8_firstPlace 
        simp (disch := omega) only [li0, li1, li2, li3, li4, li5, li6, li7, li8, li9, li10, li12, li13, li14, li15, li19, li20, li31, li33, li40, li42, li44, li48, li57, li60, li99, li100, li126, li150, li176, li177, li187, li197, li207, li208, li223, li304, li608, li1520, li1824, nI_add, pk_mul, nI_clamp, nI_leI, nI_ltI, nI_eq, zn_inb, zn_gd, zn_bs, zn_isb, not_true_eq_false, not_false_eq_true, ↓reduceIte, pk_div, pk_sub, zn_rem20, zn_rem2, zn_m1, zn_eqw, zn_weq, zn_weq2, zn_wlt0, zn_wltn, zn_win, zn_wcl, zn_wadd, Nat.not_lt_zero, Nat.one_ne_zero, Nat.zero_ne_one, Nat.le_refl, Nat.zero_le, zn_sel_r, zn_sel_l, e1, e3]
      obtain ⟨y, ek, y0, y4, y8⟩ : ∃ y : Int32 × Mem, fX9_firstPlace K (nI w) = some y ∧ y.2 0 0 = nI (1 + 1) ∧ y.2 0 4 = K 0 4 ∧ y.2 0 8 = K 0 8 := by
        unfold fX9_firstPlace 
        simp (disch := omega) only [li0, li1, li2, li3, li4, li5, li6, li7, li8, li9, li10, li12, li13, li14, li15, li19, li20, li31, li33, li40, li42, li44, li48, li57, li60, li99, li100, li126, li150, li176, li177, li187, li197, li207, li208, li223, li304, li608, li1520, li1824, nI_add, pk_mul, nI_clamp, nI_leI, nI_ltI, nI_eq, zn_inb, zn_gd, zn_bs, zn_isb, not_true_eq_false, not_false_eq_true, ↓reduceIte, pk_div, pk_sub, zn_rem20, zn_rem2, zn_m1, zn_eqw, zn_weq, zn_weq2, zn_wlt0, zn_wltn, zn_win, zn_wcl, zn_wadd, Nat.not_lt_zero, Nat.one_ne_zero, Nat.zero_ne_one, Nat.le_refl, Nat.zero_le, zn_sel_r, zn_sel_l, fX9_fails, e2, e4, fX9_firstPlace_B42]
        exact ⟨_, rfl, rfl, rfl, rfl⟩
      exact zf_no (i := 1) h hn rfl ex ek y0 y4 y8
    · have ex : fX8_firstPlace M (nI w) = some (.inr (wI (zs_fp (zs_tq S) w))) := by
        unfold fX8_firstPlace 
        simp (disch := omega) only [li0, li1, li2, li3, li4, li5, li6, li7, li8, li9, li10, li12, li13, li14, li15, li19, li20, li31, li33, li40, li42, li44, li48, li57, li60, li99, li100, li126, li150, li176, li177, li187, li197, li207, li208, li223, li304, li608, li1520, li1824, nI_add, pk_mul, nI_clamp, nI_leI, nI_ltI, nI_eq, zn_inb, zn_gd, zn_bs, zn_isb, not_true_eq_false, not_false_eq_true, ↓reduceIte, pk_div, pk_sub, zn_rem20, zn_rem2, zn_m1, zn_eqw, zn_weq, zn_weq2, zn_wlt0, zn_wltn, zn_win, zn_wcl, zn_wadd, Nat.not_lt_zero, Nat.one_ne_zero, Nat.zero_ne_one, Nat.le_refl, Nat.zero_le, zn_sel_r, zn_sel_l, e1, e3, c1]
      obtain ⟨y, ek, y0, y4, y8, y1⟩ : ∃ y : Int32 × Mem, fX9_firstPlace K (nI w) = some y ∧ y.2 0 0 = nI 0 ∧ y.2 0 4 = K 0 4 ∧ y.2 0 8 = K 0 8 ∧ wI (zs_fp (zs_tq S) w) = y.1 := by
        unfold fX9_firstPlace 
        simp (disch := omega) only [li0, li1, li2, li3, li4, li5, li6, li7, li8, li9, li10, li12, li13, li14, li15, li19, li20, li31, li33, li40, li42, li44, li48, li57, li60, li99, li100, li126, li150, li176, li177, li187, li197, li207, li208, li223, li304, li608, li1520, li1824, nI_add, pk_mul, nI_clamp, nI_leI, nI_ltI, nI_eq, zn_inb, zn_gd, zn_bs, zn_isb, not_true_eq_false, not_false_eq_true, ↓reduceIte, pk_div, pk_sub, zn_rem20, zn_rem2, zn_m1, zn_eqw, zn_weq, zn_weq2, zn_wlt0, zn_wltn, zn_win, zn_wcl, zn_wadd, Nat.not_lt_zero, Nat.one_ne_zero, Nat.zero_ne_one, Nat.le_refl, Nat.zero_le, zn_sel_r, zn_sel_l, fX9_fails, e2, e4, c1, fX9_firstPlace_B42]
        exact ⟨_, rfl, rfl, rfl, rfl, rfl⟩
      exact zf_ok h hn ex ek y0 y4 y8 y1
  · have ex : fX8_firstPlace M x1 = some (.inl "java/lang/IllegalArgumentException") := by
      unfold fX8_firstPlace 
      simp (disch := omega) only [li0, li1, li2, li3, li4, li5, li6, li7, li8, li9, li10, li12, li13, li14, li15, li19, li20, li31, li33, li40, li42, li44, li48, li57, li60, li99, li100, li126, li150, li176, li177, li187, li197, li207, li208, li223, li304, li608, li1520, li1824, nI_add, pk_mul, nI_clamp, nI_leI, nI_ltI, nI_eq, zn_inb, zn_gd, zn_bs, zn_isb, not_true_eq_false, not_false_eq_true, ↓reduceIte, pk_div, pk_sub, zn_rem20, zn_rem2, zn_m1, zn_eqw, zn_weq, zn_weq2, zn_wlt0, zn_wltn, zn_win, zn_wcl, zn_wadd, Nat.not_lt_zero, Nat.one_ne_zero, Nat.zero_ne_one, Nat.le_refl, Nat.zero_le, zn_sel_r, zn_sel_l, e1]
    obtain ⟨y, ek, y0, y4, y8⟩ : ∃ y : Int32 × Mem, fX9_firstPlace K x1 = some y ∧ y.2 0 0 = nI (0 + 1) ∧ y.2 0 4 = K 0 4 ∧ y.2 0 8 = K 0 8 := by
      unfold fX9_firstPlace 
      simp (disch := omega) only [li0, li1, li2, li3, li4, li5, li6, li7, li8, li9, li10, li12, li13, li14, li15, li19, li20, li31, li33, li40, li42, li44, li48, li57, li60, li99, li100, li126, li150, li176, li177, li187, li197, li207, li208, li223, li304, li608, li1520, li1824, nI_add, pk_mul, nI_clamp, nI_leI, nI_ltI, nI_eq, zn_inb, zn_gd, zn_bs, zn_isb, not_true_eq_false, not_false_eq_true, ↓reduceIte, pk_div, pk_sub, zn_rem20, zn_rem2, zn_m1, zn_eqw, zn_weq, zn_weq2, zn_wlt0, zn_wltn, zn_win, zn_wcl, zn_wadd, Nat.not_lt_zero, Nat.one_ne_zero, Nat.zero_ne_one, Nat.le_refl, Nat.zero_le, zn_sel_r, zn_sel_l, fX9_fails, e2]
      exact ⟨_, rfl, rfl, rfl, rfl⟩
    exact zf_no (i := 0) h hn rfl ex ek y0 y4 y8
theorem zt_shelfAt : St_shelfAt ZI := by
  intro n C M K x1 x2 hn h
  obtain ⟨S, T, hc, ⟨hX, hK, g, h99⟩, hH, hB⟩ := id h
  have hc12 := g.c12
  have h8 := g.o8
  have lo := g.lo
  have hw12 := g.1.2.1
  have hT : RT (ofs 2 M) S := hX.t
  have hK0 : RK ((sr K 0 (upd (K 0) 0 (nI 0))) 1) S := hK
  rcases zr_slot M x1 x2 with ⟨s, t, hs, ht, rfl, rfl, e1, e2⟩ | ⟨e1, e2⟩
  · have e3 := zx_holderOf hT g.1 (p := s * 20 + t) (by omega)
    have e4 := zk_on (K := (sr K 0 (upd (K 0) 0 (nI 0)))) hK0 g.1.k hs ht
    rw [show 20 * s + t = s * 20 + t by omega] at e4
    have fl := zs_ho_le S (s * 20 + t)
    by_cases c1 : zs_ho S (s * 20 + t) = 0
    · rw [c1] at e3 e4
      have ex : fX8_shelfAt M (nI s) (nI t) = some (.inl "java/lang/IllegalStateException") := by
        unfold fX8_shelfAt 
        simp (disch := omega) only [li0, li1, li2, li3, li4, li5, li6, li7, li8, li9, li10, li12, li13, li14, li15, li19, li20, li31, li33, li40, li42, li44, li48, li57, li60, li99, li100, li126, li150, li176, li177, li187, li197, li207, li208, li223, li304, li608, li1520, li1824, nI_add, pk_mul, nI_clamp, nI_leI, nI_ltI, nI_eq, zn_inb, zn_gd, zn_bs, zn_isb, not_true_eq_false, not_false_eq_true, ↓reduceIte, pk_div, pk_sub, zn_rem20, zn_rem2, zn_m1, zn_eqw, zn_weq, zn_weq2, zn_wlt0, zn_wltn, zn_win, zn_wcl, zn_wadd, Nat.not_lt_zero, Nat.one_ne_zero, Nat.zero_ne_one, Nat.le_refl, Nat.zero_le, zn_sel_r, zn_sel_l, e1, e3]
      obtain ⟨y, ek, y0, y4, y8⟩ : ∃ y : Int32 × Mem, fX9_shelfAt K (nI s) (nI t) = some y ∧ y.2 0 0 = nI (1 + 1) ∧ y.2 0 4 = K 0 4 ∧ y.2 0 8 = K 0 8 := by
        unfold fX9_shelfAt 
        simp (disch := omega) only [li0, li1, li2, li3, li4, li5, li6, li7, li8, li9, li10, li12, li13, li14, li15, li19, li20, li31, li33, li40, li42, li44, li48, li57, li60, li99, li100, li126, li150, li176, li177, li187, li197, li207, li208, li223, li304, li608, li1520, li1824, nI_add, pk_mul, nI_clamp, nI_leI, nI_ltI, nI_eq, zn_inb, zn_gd, zn_bs, zn_isb, not_true_eq_false, not_false_eq_true, ↓reduceIte, pk_div, pk_sub, zn_rem20, zn_rem2, zn_m1, zn_eqw, zn_weq, zn_weq2, zn_wlt0, zn_wltn, zn_win, zn_wcl, zn_wadd, Nat.not_lt_zero, Nat.one_ne_zero, Nat.zero_ne_one, Nat.le_refl, Nat.zero_le, zn_sel_r, zn_sel_l, fX9_fails, e2, e4, fX9_shelfAt_B43]
        exact ⟨_, rfl, rfl, rfl, rfl⟩
      exact zf_no (i := 1) h hn rfl ex ek y0 y4 y8
    · have ex : fX8_shelfAt M (nI s) (nI t) = some (.inr (wI (zs_ho S (s * 20 + t)))) := by
        unfold fX8_shelfAt 
        simp (disch := omega) only [li0, li1, li2, li3, li4, li5, li6, li7, li8, li9, li10, li12, li13, li14, li15, li19, li20, li31, li33, li40, li42, li44, li48, li57, li60, li99, li100, li126, li150, li176, li177, li187, li197, li207, li208, li223, li304, li608, li1520, li1824, nI_add, pk_mul, nI_clamp, nI_leI, nI_ltI, nI_eq, zn_inb, zn_gd, zn_bs, zn_isb, not_true_eq_false, not_false_eq_true, ↓reduceIte, pk_div, pk_sub, zn_rem20, zn_rem2, zn_m1, zn_eqw, zn_weq, zn_weq2, zn_wlt0, zn_wltn, zn_win, zn_wcl, zn_wadd, Nat.not_lt_zero, Nat.one_ne_zero, Nat.zero_ne_one, Nat.le_refl, Nat.zero_le, zn_sel_r, zn_sel_l, e1, e3, c1]
      obtain ⟨y, ek, y0, y4, y8, y1⟩ : ∃ y : Int32 × Mem, fX9_shelfAt K (nI s) (nI t) = some y ∧ y.2 0 0 = nI 0 ∧ y.2 0 4 = K 0 4 ∧ y.2 0 8 = K 0 8 ∧ wI (zs_ho S (s * 20 + t)) = y.1 := by
        unfold fX9_shelfAt 
        simp (disch := omega) only [li0, li1, li2, li3, li4, li5, li6, li7, li8, li9, li10, li12, li13, li14, li15, li19, li20, li31, li33, li40, li42, li44, li48, li57, li60, li99, li100, li126, li150, li176, li177, li187, li197, li207, li208, li223, li304, li608, li1520, li1824, nI_add, pk_mul, nI_clamp, nI_leI, nI_ltI, nI_eq, zn_inb, zn_gd, zn_bs, zn_isb, not_true_eq_false, not_false_eq_true, ↓reduceIte, pk_div, pk_sub, zn_rem20, zn_rem2, zn_m1, zn_eqw, zn_weq, zn_weq2, zn_wlt0, zn_wltn, zn_win, zn_wcl, zn_wadd, Nat.not_lt_zero, Nat.one_ne_zero, Nat.zero_ne_one, Nat.le_refl, Nat.zero_le, zn_sel_r, zn_sel_l, fX9_fails, e2, e4, c1, fX9_shelfAt_B43]
        exact ⟨_, rfl, rfl, rfl, rfl, rfl⟩
      exact zf_ok h hn ex ek y0 y4 y8 y1
  · have ex : fX8_shelfAt M x1 x2 = some (.inl "java/lang/IndexOutOfBoundsException") := by
      unfold fX8_shelfAt 
      simp (disch := omega) only [li0, li1, li2, li3, li4, li5, li6, li7, li8, li9, li10, li12, li13, li14, li15, li19, li20, li31, li33, li40, li42, li44, li48, li57, li60, li99, li100, li126, li150, li176, li177, li187, li197, li207, li208, li223, li304, li608, li1520, li1824, nI_add, pk_mul, nI_clamp, nI_leI, nI_ltI, nI_eq, zn_inb, zn_gd, zn_bs, zn_isb, not_true_eq_false, not_false_eq_true, ↓reduceIte, pk_div, pk_sub, zn_rem20, zn_rem2, zn_m1, zn_eqw, zn_weq, zn_weq2, zn_wlt0, zn_wltn, zn_win, zn_wcl, zn_wadd, Nat.not_lt_zero, Nat.one_ne_zero, Nat.zero_ne_one, Nat.le_refl, Nat.zero_le, zn_sel_r, zn_sel_l, e1]
    obtain ⟨y, ek, y0, y4, y8⟩ : ∃ y : Int32 × Mem, fX9_shelfAt K x1 x2 = some y ∧ y.2 0 0 = nI (0 + 1) ∧ y.2 0 4 = K 0 4 ∧ y.2 0 8 = K 0 8 := by
      unfold fX9_shelfAt 
      simp (disch := omega) only [li0, li1, li2, li3, li4, li5, li6, li7, li8, li9, li10, li12, li13, li14, li15, li19, li20, li31, li33, li40, li42, li44, li48, li57, li60, li99, li100, li126, li150, li176, li177, li187, li197, li207, li208, li223, li304, li608, li1520, li1824, nI_add, pk_mul, nI_clamp, nI_leI, nI_ltI, nI_eq, zn_inb, zn_gd, zn_bs, zn_isb, not_true_eq_false, not_false_eq_true, ↓reduceIte, pk_div, pk_sub, zn_rem20, zn_rem2, zn_m1, zn_eqw, zn_weq, zn_weq2, zn_wlt0, zn_wltn, zn_win, zn_wcl, zn_wadd, Nat.not_lt_zero, Nat.one_ne_zero, Nat.zero_ne_one, Nat.le_refl, Nat.zero_le, zn_sel_r, zn_sel_l, fX9_fails, e2]
      exact ⟨_, rfl, rfl, rfl, rfl⟩
    exact zf_no (i := 0) h hn rfl ex ek y0 y4 y8
theorem zt_isFree : St_isFree ZI := by
  intro n C M K x1 x2 hn h
  obtain ⟨S, T, hc, ⟨hX, hK, g, h99⟩, hH, hB⟩ := id h
  have hc12 := g.c12
  have h8 := g.o8
  have lo := g.lo
  have hw12 := g.1.2.1
  have hT : RT (ofs 2 M) S := hX.t
  have hK0 : RK ((sr K 0 (upd (K 0) 0 (nI 0))) 1) S := hK
  rcases zr_slot M x1 x2 with ⟨s, t, hs, ht, rfl, rfl, e1, e2⟩ | ⟨e1, e2⟩
  · have e3 := zx_holderOf hT g.1 (p := s * 20 + t) (by omega)
    have e4 := zk_on (K := (sr K 0 (upd (K 0) 0 (nI 0)))) hK0 g.1.k hs ht
    rw [show 20 * s + t = s * 20 + t by omega] at e4
    have fl := zs_ho_le S (s * 20 + t)
    by_cases c1 : zs_ho S (s * 20 + t) = 0
    · rw [c1] at e3 e4
      have ex : fX8_isFree M (nI s) (nI t) = some (.inr (nI 1)) := by
        unfold fX8_isFree 
        simp (disch := omega) only [li0, li1, li2, li3, li4, li5, li6, li7, li8, li9, li10, li12, li13, li14, li15, li19, li20, li31, li33, li40, li42, li44, li48, li57, li60, li99, li100, li126, li150, li176, li177, li187, li197, li207, li208, li223, li304, li608, li1520, li1824, nI_add, pk_mul, nI_clamp, nI_leI, nI_ltI, nI_eq, zn_inb, zn_gd, zn_bs, zn_isb, not_true_eq_false, not_false_eq_true, ↓reduceIte, pk_div, pk_sub, zn_rem20, zn_rem2, zn_m1, zn_eqw, zn_weq, zn_weq2, zn_wlt0, zn_wltn, zn_win, zn_wcl, zn_wadd, Nat.not_lt_zero, Nat.one_ne_zero, Nat.zero_ne_one, Nat.le_refl, Nat.zero_le, zn_sel_r, zn_sel_l, e1, e3, fX8_isFree_B31]
      obtain ⟨y, ek, y0, y4, y8, y1⟩ : ∃ y : Int32 × Mem, fX9_isFree K (nI s) (nI t) = some y ∧ y.2 0 0 = nI 0 ∧ y.2 0 4 = K 0 4 ∧ y.2 0 8 = K 0 8 ∧ nI 1 = y.1 := by
        unfold fX9_isFree 
        simp (disch := omega) only [li0, li1, li2, li3, li4, li5, li6, li7, li8, li9, li10, li12, li13, li14, li15, li19, li20, li31, li33, li40, li42, li44, li48, li57, li60, li99, li100, li126, li150, li176, li177, li187, li197, li207, li208, li223, li304, li608, li1520, li1824, nI_add, pk_mul, nI_clamp, nI_leI, nI_ltI, nI_eq, zn_inb, zn_gd, zn_bs, zn_isb, not_true_eq_false, not_false_eq_true, ↓reduceIte, pk_div, pk_sub, zn_rem20, zn_rem2, zn_m1, zn_eqw, zn_weq, zn_weq2, zn_wlt0, zn_wltn, zn_win, zn_wcl, zn_wadd, Nat.not_lt_zero, Nat.one_ne_zero, Nat.zero_ne_one, Nat.le_refl, Nat.zero_le, zn_sel_r, zn_sel_l, fX9_fails, e2, e4, fX9_isFree_B44]
        exact ⟨_, rfl, rfl, rfl, rfl, rfl⟩
      exact zf_ok h hn ex ek y0 y4 y8 y1
    · have ex : fX8_isFree M (nI s) (nI t) = some (.inr (nI 0)) := by
        unfold fX8_isFree 
        simp (disch := omega) only [li0, li1, li2, li3, li4, li5, li6, li7, li8, li9, li10, li12, li13, li14, li15, li19, li20, li31, li33, li40, li42, li44, li48, li57, li60, li99, li100, li126, li150, li176, li177, li187, li197, li207, li208, li223, li304, li608, li1520, li1824, nI_add, pk_mul, nI_clamp, nI_leI, nI_ltI, nI_eq, zn_inb, zn_gd, zn_bs, zn_isb, not_true_eq_false, not_false_eq_true, ↓reduceIte, pk_div, pk_sub, zn_rem20, zn_rem2, zn_m1, zn_eqw, zn_weq, zn_weq2, zn_wlt0, zn_wltn, zn_win, zn_wcl, zn_wadd, Nat.not_lt_zero, Nat.one_ne_zero, Nat.zero_ne_one, Nat.le_refl, Nat.zero_le, zn_sel_r, zn_sel_l, e1, e3, c1, fX8_isFree_B31]
      obtain ⟨y, ek, y0, y4, y8, y1⟩ : ∃ y : Int32 × Mem, fX9_isFree K (nI s) (nI t) = some y ∧ y.2 0 0 = nI 0 ∧ y.2 0 4 = K 0 4 ∧ y.2 0 8 = K 0 8 ∧ nI 0 = y.1 := by
        unfold fX9_isFree 
        simp (disch := omega) only [li0, li1, li2, li3, li4, li5, li6, li7, li8, li9, li10, li12, li13, li14, li15, li19, li20, li31, li33, li40, li42, li44, li48, li57, li60, li99, li100, li126, li150, li176, li177, li187, li197, li207, li208, li223, li304, li608, li1520, li1824, nI_add, pk_mul, nI_clamp, nI_leI, nI_ltI, nI_eq, zn_inb, zn_gd, zn_bs, zn_isb, not_true_eq_false, not_false_eq_true, ↓reduceIte, pk_div, pk_sub, zn_rem20, zn_rem2, zn_m1, zn_eqw, zn_weq, zn_weq2, zn_wlt0, zn_wltn, zn_win, zn_wcl, zn_wadd, Nat.not_lt_zero, Nat.one_ne_zero, Nat.zero_ne_one, Nat.le_refl, Nat.zero_le, zn_sel_r, zn_sel_l, fX9_fails, e2, e4, c1, fX9_isFree_B44]
        exact ⟨_, rfl, rfl, rfl, rfl, rfl⟩
      exact zf_ok h hn ex ek y0 y4 y8 y1
  · have ex : fX8_isFree M x1 x2 = some (.inl "java/lang/IndexOutOfBoundsException") := by
      unfold fX8_isFree 
      simp (disch := omega) only [li0, li1, li2, li3, li4, li5, li6, li7, li8, li9, li10, li12, li13, li14, li15, li19, li20, li31, li33, li40, li42, li44, li48, li57, li60, li99, li100, li126, li150, li176, li177, li187, li197, li207, li208, li223, li304, li608, li1520, li1824, nI_add, pk_mul, nI_clamp, nI_leI, nI_ltI, nI_eq, zn_inb, zn_gd, zn_bs, zn_isb, not_true_eq_false, not_false_eq_true, ↓reduceIte, pk_div, pk_sub, zn_rem20, zn_rem2, zn_m1, zn_eqw, zn_weq, zn_weq2, zn_wlt0, zn_wltn, zn_win, zn_wcl, zn_wadd, Nat.not_lt_zero, Nat.one_ne_zero, Nat.zero_ne_one, Nat.le_refl, Nat.zero_le, zn_sel_r, zn_sel_l, e1]
    obtain ⟨y, ek, y0, y4, y8⟩ : ∃ y : Int32 × Mem, fX9_isFree K x1 x2 = some y ∧ y.2 0 0 = nI (0 + 1) ∧ y.2 0 4 = K 0 4 ∧ y.2 0 8 = K 0 8 := by
      unfold fX9_isFree 
      simp (disch := omega) only [li0, li1, li2, li3, li4, li5, li6, li7, li8, li9, li10, li12, li13, li14, li15, li19, li20, li31, li33, li40, li42, li44, li48, li57, li60, li99, li100, li126, li150, li176, li177, li187, li197, li207, li208, li223, li304, li608, li1520, li1824, nI_add, pk_mul, nI_clamp, nI_leI, nI_ltI, nI_eq, zn_inb, zn_gd, zn_bs, zn_isb, not_true_eq_false, not_false_eq_true, ↓reduceIte, pk_div, pk_sub, zn_rem20, zn_rem2, zn_m1, zn_eqw, zn_weq, zn_weq2, zn_wlt0, zn_wltn, zn_win, zn_wcl, zn_wadd, Nat.not_lt_zero, Nat.one_ne_zero, Nat.zero_ne_one, Nat.le_refl, Nat.zero_le, zn_sel_r, zn_sel_l, fX9_fails, e2, fX9_isFree_B44]
      exact ⟨_, rfl, rfl, rfl, rfl⟩
    exact zf_no (i := 0) h hn rfl ex ek y0 y4 y8
theorem zt_clearBuffer : St_clearBuffer ZI := by
  intro n C M K hn h
  obtain ⟨S, T, hc, hS, hH, len, l1, l2, l3, l4⟩ := id h
  refine ⟨_, _, rfl, rfl, l2.trans l3.symm, S, T, hc, hS.up hn, hH.up hn, 0, Nat.zero_le _, rfl, rfl, fun i hi => absurd hi (Nat.not_lt_zero i)⟩
