set_option maxHeartbeats 400000
/-! holds: true at every state that the calls reach -/
def xh_w (S : SM) : Nat → Nat := fb_sm (fun f => if S 1 1 = f + 1 then 1 else 0)
theorem xh_w_s (S : SM) : ∀ n, xh_w S n = if 0 < S 1 1 ∧ S 1 1 ≤ n then 1 else 0
  | 0 => (if_neg (by omega)).symm
  | n + 1 => by
    have ih := xh_w_s S n
    have e : xh_w S (n + 1) = xh_w S n + (if S 1 1 = n + 1 then 1 else 0) := fb_sm_succ _ _
    rw [e, ih]
    by_cases a : S 1 1 = n + 1
    · rw [if_pos a, if_neg (by omega), if_pos (by omega)]
    · rw [if_neg a]
      by_cases b : 0 < S 1 1 ∧ S 1 1 ≤ n
      · rw [if_pos b, if_pos (by omega)]
      · rw [if_neg b, if_neg (by omega)]
theorem xh_w_le (S : SM) (n : Nat) : xh_w S n ≤ 1 := by
  rw [xh_w_s]
  split <;> omega
section
variable {M : Mem} {S : SM} {u : Nat}
theorem xh_L54 (hX : RX (ofs 1 M) S) (g : GX u S) {f : Nat} (hf : f < S 1 0) (hw : ¬ S 1 1 = f + 1) (l1 l2 : Int32) {k1 : Mem → Option (Int32 × Mem)} {k2 : Mem → Int32 → Int32 → Int32 → Option (Int32 × Mem)} {Q : Int32 × Mem → Prop} (hk : ∀ N : Mem, ∃ z, k2 (sr M 41 (N 41)) l1 l2 (nI f) = some z ∧ Q z) : ∀ d e n (N : Mem), e + d = S 2 f → d < n → ∃ z, fL_holds_L54 M n k1 k2 N l1 l2 (nI f) (nI 0) (nI e) = some z ∧ Q z := by
  have hc := g.c12
  have b := g.1.2.2.1 f hf
  have h1 : ∀ y, fX8_heightOf (sr M 41 y) (nI f) = some (.inr (nI (S 2 f))) := fun y => zd_height hX.r41 hc hf
  have h2 : ∀ y, fX8_sideOf (sr M 41 y) (nI f) = some (.inr (nI (S 3 f / 20))) := fun y => zd_side hX.r41 g hf
  have h3 : ∀ y, fX8_slotOf (sr M 41 y) (nI f) = some (.inr (nI (S 3 f % 20))) := fun y => zd_slot hX.r41 g hf
  intro d
  induction d with
  | zero =>
    intro e n N he hn
    obtain ⟨m, rfl⟩ : ∃ m, n = m + 1 := ⟨n - 1, by omega⟩
    have c : S 2 f ≤ e := by omega
    rw [fL_holds_L54]
    simp (disch := omega) only [li0, li1, li2, li3, li4, li5, li6, li7, li8, li9, li10, li12, li13, li14, li15, li19, li20, li31, li33, li40, li42, li44, li48, li57, li60, li99, li100, li126, li150, li176, li177, li187, li197, li207, li208, li223, li304, li608, li1520, li1824, nI_add, pk_mul, nI_clamp, nI_leI, nI_ltI, nI_eq, zn_inb, zn_gd, zn_bs, zn_isb, not_true_eq_false, not_false_eq_true, ↓reduceIte, pk_div, pk_sub, zn_rem20, zn_rem2, zn_m1, zn_eqw, zn_weq, zn_weq2, zn_wlt0, zn_wltn, zn_win, zn_wcl, zn_wadd, Nat.not_lt_zero, Nat.one_ne_zero, Nat.zero_ne_one, Nat.le_refl, Nat.zero_le, zn_sel_r, zn_sel_l, h1, c]
    exact hk N
  | succ d ih =>
    intro e n N he hn
    obtain ⟨m, rfl⟩ : ∃ m, n = m + 1 := ⟨n - 1, by omega⟩
    have c : ¬ S 2 f ≤ e := by omega
    have hp : zs_ho S (S 3 f / 20 * 20 + (S 3 f % 20 + e)) = f + 1 := by
      rw [show S 3 f / 20 * 20 + (S 3 f % 20 + e) = S 3 f + e by omega]
      exact zs_ho_own g.1 hf hw (by omega) (by omega)
    have h4 : ∀ y, fX8_isFree (sr M 41 y) (nI (S 3 f / 20)) (nI (S 3 f % 20 + e)) = some (.inr (nI 0)) := fun y => xg_isFree hX.r41 g (by omega) (by omega) (by rw [hp]; omega)
    have h5 : ∀ y, fX8_shelfAt (sr M 41 y) (nI (S 3 f / 20)) (nI (S 3 f % 20 + e)) = some (.inr (nI f)) := fun y => by
      have := xg_shelfAt (M := sr M 41 y) hX.r41 g (s := S 3 f / 20) (t := S 3 f % 20 + e) (by omega) (by omega) (by rw [hp]; omega)
      rw [hp, wI_s] at this
      exact this
    rw [fL_holds_L54]
    simp (disch := omega) only [li0, li1, li2, li3, li4, li5, li6, li7, li8, li9, li10, li12, li13, li14, li15, li19, li20, li31, li33, li40, li42, li44, li48, li57, li60, li99, li100, li126, li150, li176, li177, li187, li197, li207, li208, li223, li304, li608, li1520, li1824, nI_add, pk_mul, nI_clamp, nI_leI, nI_ltI, nI_eq, zn_inb, zn_gd, zn_bs, zn_isb, not_true_eq_false, not_false_eq_true, ↓reduceIte, pk_div, pk_sub, zn_rem20, zn_rem2, zn_m1, zn_eqw, zn_weq, zn_weq2, zn_wlt0, zn_wltn, zn_win, zn_wcl, zn_wadd, Nat.not_lt_zero, Nat.one_ne_zero, Nat.zero_ne_one, Nat.le_refl, Nat.zero_le, zn_sel_r, zn_sel_l, h1, h2, h3, h4, h5, c]
    exact ih (e + 1) m _ (by omega) (by omega)
theorem xh_L54w (hX : RX (ofs 1 M) S) (g : GX u S) {f : Nat} (hf : f < S 1 0) (l1 l2 : Int32) {k1 : Mem → Option (Int32 × Mem)} {k2 : Mem → Int32 → Int32 → Int32 → Option (Int32 × Mem)} {Q : Int32 × Mem → Prop} (hk : ∀ N : Mem, ∃ z, k2 (sr M 41 (N 41)) l1 l2 (nI f) = some z ∧ Q z) (N : Mem) : ∃ z, fL_holds_L54 M 5000 k1 k2 N l1 l2 (nI f) (nI 1) (nI 0) = some z ∧ Q z := by
  have hc := g.c12
  have b := g.1.2.2.1 f hf
  have h1 : ∀ y, fX8_heightOf (sr M 41 y) (nI f) = some (.inr (nI (S 2 f))) := fun y => zd_height hX.r41 hc hf
  have c : ¬ S 2 f ≤ 0 := by omega
  rw [show (5000 : Nat) = 4999 + 1 from rfl, fL_holds_L54]
  simp (disch := omega) only [li0, li1, li2, li3, li4, li5, li6, li7, li8, li9, li10, li12, li13, li14, li15, li19, li20, li31, li33, li40, li42, li44, li48, li57, li60, li99, li100, li126, li150, li176, li177, li187, li197, li207, li208, li223, li304, li608, li1520, li1824, nI_add, pk_mul, nI_clamp, nI_leI, nI_ltI, nI_eq, zn_inb, zn_gd, zn_bs, zn_isb, not_true_eq_false, not_false_eq_true, ↓reduceIte, pk_div, pk_sub, zn_rem20, zn_rem2, zn_m1, zn_eqw, zn_weq, zn_weq2, zn_wlt0, zn_wltn, zn_win, zn_wcl, zn_wadd, Nat.not_lt_zero, Nat.one_ne_zero, Nat.zero_ne_one, Nat.le_refl, Nat.zero_le, zn_sel_r, zn_sel_l, h1, c]
  exact hk N
theorem xh_L6 (hX : RX (ofs 1 M) S) (g : GX u S) {k1 k2 : Mem → Option (Int32 × Mem)} {k3 : Mem → Int32 → Int32 → Option (Int32 × Mem)} {Q : Int32 × Mem → Prop} (hk : ∀ N : Mem, ∃ z, k3 (sr M 41 (N 41)) (nI (zs_hs S (S 1 0))) (nI (xh_w S (S 1 0))) = some z ∧ Q z) : ∀ d f n (N : Mem), f + d = S 1 0 → d < n → ∃ z, fL_holds_L6 M n k1 k2 k3 N (nI (zs_hs S f)) (nI (xh_w S f)) (nI f) = some z ∧ Q z := by
  have hc := g.c12
  have m0 : ∀ y, fX8_shelves (sr M 41 y) = some (nI (S 1 0)) := fun y => congrArg some hX.c
  intro d
  induction d with
  | zero =>
    intro f n N hf hn
    obtain ⟨m, rfl⟩ : ∃ m, n = m + 1 := ⟨n - 1, by omega⟩
    have c : S 1 0 ≤ f := by omega
    rw [fL_holds_L6]
    simp (disch := omega) only [li0, li1, li2, li3, li4, li5, li6, li7, li8, li9, li10, li12, li13, li14, li15, li19, li20, li31, li33, li40, li42, li44, li48, li57, li60, li99, li100, li126, li150, li176, li177, li187, li197, li207, li208, li223, li304, li608, li1520, li1824, nI_add, pk_mul, nI_clamp, nI_leI, nI_ltI, nI_eq, zn_inb, zn_gd, zn_bs, zn_isb, not_true_eq_false, not_false_eq_true, ↓reduceIte, pk_div, pk_sub, zn_rem20, zn_rem2, zn_m1, zn_eqw, zn_weq, zn_weq2, zn_wlt0, zn_wltn, zn_win, zn_wcl, zn_wadd, Nat.not_lt_zero, Nat.one_ne_zero, Nat.zero_ne_one, Nat.le_refl, Nat.zero_le, zn_sel_r, zn_sel_l, m0, c]
    rw [show f = S 1 0 by omega]
    exact hk N
  | succ d ih =>
    intro f n N hf hn
    obtain ⟨m, rfl⟩ : ∃ m, n = m + 1 := ⟨n - 1, by omega⟩
    have c : ¬ S 1 0 ≤ f := by omega
    have hf2 : f < S 1 0 := by omega
    have b := g.1.2.2.1 f hf2
    have ih1 := fun N => ih (f + 1) m N (by omega) (by omega)
    have e1 : ∀ y, fX8_isAtWindow (sr M 41 y) (nI f) = some (.inr (nI (zd_fl S f))) := fun y => zd_win hX.r41 g hf2
    have e2 : ∀ y, fX8_heightOf (sr M 41 y) (nI f) = some (.inr (nI (S 2 f))) := fun y => zd_height hX.r41 hc hf2
    have w1 : ∀ y, fX8_weightOf (sr M 41 y) (nI f) = some (.inr (nI (zs_wt S f))) := fun y => zd_weight hX.r41 hc hf2
    have w150 := g.2.2.1 f hf2
    have d150 : ¬ (150 : Int32) < nI (zs_wt S f) := by
      rw [li150, nI_ltI (by omega) (by omega)]
      omega
    obtain ⟨v0, v1⟩ := zs_hv_max S (S 1 0) f hf2
    have v2 := zs_hv_le S (S 1 0)
    have v3 := g.2.2.1 (zs_hv S (S 1 0) - 1) (by omega)
    have e3 : ∀ y, fX8_heaviest (sr M 41 y) = some (.inr (nI (zs_hv S (S 1 0) - 1))) := fun y => xg_heaviest hX.r41 g (by omega)
    have w2 : ∀ y, fX8_weightOf (sr M 41 y) (nI (zs_hv S (S 1 0) - 1)) = some (.inr (nI (zs_wt S (zs_hv S (S 1 0) - 1)))) := fun y => zd_weight hX.r41 hc (by omega)
    have cv : ¬ zs_wt S (zs_hv S (S 1 0) - 1) < zs_wt S f := by omega
    obtain ⟨t0, t1⟩ := zs_mu_max S hf2
    have t2 : zs_mu S 0 (S 1 0) - 1 < S 1 0 := by
      have := zs_mu_le S 0 (S 1 0)
      omega
    have t3 := g.1.2.2.2.1 f hf2
    have t4 := g.1.2.2.2.1 (zs_mu S 0 (S 1 0) - 1) t2
    have e4 : ∀ y, fX8_mostFetched (sr M 41 y) = some (.inr (nI (zs_mu S 0 (S 1 0) - 1))) := fun y => xg_most hX.r41 g (by omega)
    have f1 : ∀ y, fX8_fetchesOf (sr M 41 y) (nI f) = some (.inr (nI (S 4 f))) := fun y => zd_fetches hX.r41 hc hf2
    have f2 : ∀ y, fX8_fetchesOf (sr M 41 y) (nI (zs_mu S 0 (S 1 0) - 1)) = some (.inr (nI (S 4 (zs_mu S 0 (S 1 0) - 1)))) := fun y => zd_fetches hX.r41 hc t2
    have a1 : zs_hs S (f + 1) = zs_hs S f + (if S 1 1 = f + 1 then 0 else S 2 f) := fb_sm_succ _ _
    have a2 : xh_w S (f + 1) = xh_w S f + (if S 1 1 = f + 1 then 1 else 0) := fb_sm_succ _ _
    rw [a1, a2] at ih1
    have hcc : ¬ nI (S 1 0) ≤ nI f := fun h => c ((nI_leI (by omega) (by omega)).mp h)
    rw [fL_holds_L6]
    by_cases q : S 1 1 = f + 1
    · have q2 : zd_fl S f = 1 := if_pos q
      rw [q2] at e1
      rw [if_pos q, if_pos q] at ih1
      rw [m0, zn_bs, if_neg hcc, e1, zn_bs, zn_sel_r, if_neg (nI_ne0 (n := 1) (by omega) (by omega))]
      unfold fL_holds_B32
      rw [if_neg (nI_ne0 (n := 1) (by omega) (by omega))]
      unfold fL_holds_B49
      rw [show nI (zs_hs S f) + (0 : Int32) = nI (zs_hs S f + 0) from nI_add _ 0, show nI (xh_w S f) + (1 : Int32) = nI (xh_w S f + 1) from nI_add _ 1]
      refine xh_L54w hX g hf2 _ _ (fun N => ?_) _
      dsimp only
      rw [w1, zn_bs, zn_sel_r, if_neg (nI_pos (by omega)), zn_bs, zn_sel_r, if_neg d150, e3, zn_bs, zn_sel_r, w2, zn_bs, zn_sel_r, zn_bs, zn_sel_r, if_neg (nI_nlt v1 (by omega)), e4, zn_bs, zn_sel_r, f2, zn_bs, zn_sel_r, f1, zn_bs, zn_sel_r, if_pos (nI_le t1 (by omega)), show nI f + (1 : Int32) = nI (f + 1) from nI_add f 1]
      exact ih1 _
    · have q2 : zd_fl S f = 0 := if_neg q
      rw [q2] at e1
      rw [if_neg q, if_neg q] at ih1
      rw [m0, zn_bs, if_neg hcc, e1, zn_bs, zn_sel_r, if_pos (show nI 0 = (0 : Int32) from rfl)]
      unfold fL_holds_B32
      rw [if_pos (show nI 0 = (0 : Int32) from rfl), e2, zn_bs, zn_sel_r]
      unfold fL_holds_B49
      rw [nI_add, show nI (xh_w S f) + (0 : Int32) = nI (xh_w S f + 0) from nI_add _ 0]
      refine xh_L54 hX g hf2 q _ _ (fun N => ?_) (S 2 f) 0 5000 _ (by omega) (by omega)
      dsimp only
      rw [w1, zn_bs, zn_sel_r, if_neg (nI_pos (by omega)), zn_bs, zn_sel_r, if_neg d150, e3, zn_bs, zn_sel_r, w2, zn_bs, zn_sel_r, zn_bs, zn_sel_r, if_neg (nI_nlt v1 (by omega)), e4, zn_bs, zn_sel_r, f2, zn_bs, zn_sel_r, f1, zn_bs, zn_sel_r, if_pos (nI_le t1 (by omega)), show nI f + (1 : Int32) = nI (f + 1) from nI_add f 1]
      exact ih1 _
theorem xh_L179 (hX : RX (ofs 1 M) S) (g : GX u S) (hj : ZJ S) (l1 l2 : Int32) {k1 : Mem → Option (Int32 × Mem)} {k2 : Mem → Int32 → Int32 → Option (Int32 × Mem)} {Q : Int32 × Mem → Prop} (hk : ∀ N : Mem, ∃ z, k2 (sr M 41 (N 41)) l1 l2 = some z ∧ Q z) : ∀ d k n (N : Mem), k + d = 10 → d < n → ∃ z, fL_holds_L179 M n k1 k2 N l1 l2 (nI k) = some z ∧ Q z := by
  have hc := g.c12
  intro d
  induction d with
  | zero =>
    intro k n N hkd hn
    obtain ⟨m, rfl⟩ : ∃ m, n = m + 1 := ⟨n - 1, by omega⟩
    obtain rfl : k = 10 := by omega
    rw [fL_holds_L179]
    simp (disch := omega) only [li0, li1, li2, li3, li4, li5, li6, li7, li8, li9, li10, li12, li13, li14, li15, li19, li20, li31, li33, li40, li42, li44, li48, li57, li60, li99, li100, li126, li150, li176, li177, li187, li197, li207, li208, li223, li304, li608, li1520, li1824, nI_add, pk_mul, nI_clamp, nI_leI, nI_ltI, nI_eq, zn_inb, zn_gd, zn_bs, zn_isb, not_true_eq_false, not_false_eq_true, ↓reduceIte, pk_div, pk_sub, zn_rem20, zn_rem2, zn_m1, zn_eqw, zn_weq, zn_weq2, zn_wlt0, zn_wltn, zn_win, zn_wcl, zn_wadd, Nat.not_lt_zero, Nat.one_ne_zero, Nat.zero_ne_one, Nat.le_refl, Nat.zero_le, zn_sel_r, zn_sel_l]
    exact hk N
  | succ d ih =>
    intro k n N hkd hn
    obtain ⟨m, rfl⟩ : ∃ m, n = m + 1 := ⟨n - 1, by omega⟩
    have c : ¬ 10 ≤ k := by omega
    have hk10 : k < 10 := by omega
    have ih1 := fun N => ih (k + 1) m N (by omega) (by omega)
    have s0 := hj k hk10
    have s1 : ∀ y, fX8_stockByShelves (sr M 41 y) (nI k) = some (.inr (nI (zs_stock S k))) := fun y => zd_stock hX.r41 hc hk10
    have s2 : ∀ y, fX8_stockByAccount (sr M 41 y) (nI k) = some (.inr (nI (zs_stock S k))) := fun y => by
      have := zd_acc (M := sr M 41 y) (S := S) hX.r41 hk10
      rw [pk_sub (by omega), show S 12 k - S 13 k = zs_stock S k by omega] at this
      exact this
    have s3 : ∀ y, fX8_missingOf (sr M 41 y) (nI k) = some (.inr (nI (zs_miss S k))) := fun y => zd_miss hX.r41 g hk10
    have s4 : ∀ y, fX8_shortKinds (sr M 41 y) = some (nI (zs_short S 10)) := fun y => zx_shortKinds hX.r41 g
    have bm := zs_miss_le g hk10
    have bs := zs_short_lt S 10
    have tb := zs_short_bit S k 10
    have zb := zn_bit1 (n := zs_short S 10) (f := k) (by omega) (by omega)
    rw [fL_holds_L179]
    by_cases z : zs_miss S k ≤ 0
    · rw [decide_eq_false (by omega)] at tb
      rw [tb] at zb
      have zc : ¬ (nI (zs_short S 10) >>> (nI k &&& nI 31)) &&& nI 1 = nI 1 := fun h => absurd (zb.mp h) (by decide)
      simp (disch := omega) only [li0, li1, li2, li3, li4, li5, li6, li7, li8, li9, li10, li12, li13, li14, li15, li19, li20, li31, li33, li40, li42, li44, li48, li57, li60, li99, li100, li126, li150, li176, li177, li187, li197, li207, li208, li223, li304, li608, li1520, li1824, nI_add, pk_mul, nI_clamp, nI_leI, nI_ltI, nI_eq, zn_inb, zn_gd, zn_bs, zn_isb, not_true_eq_false, not_false_eq_true, ↓reduceIte, pk_div, pk_sub, zn_rem20, zn_rem2, zn_m1, zn_eqw, zn_weq, zn_weq2, zn_wlt0, zn_wltn, zn_win, zn_wcl, zn_wadd, Nat.not_lt_zero, Nat.one_ne_zero, Nat.zero_ne_one, Nat.le_refl, Nat.zero_le, zn_sel_r, zn_sel_l, c, s1, s2, s3, s4, z, zc, eq_self, fL_holds_B211, fL_holds_B228]
      exact ih1 _
    · rw [decide_eq_true (by omega)] at tb
      rw [tb] at zb
      have zc : (nI (zs_short S 10) >>> (nI k &&& nI 31)) &&& nI 1 = nI 1 := zb.mpr rfl
      simp (disch := omega) only [li0, li1, li2, li3, li4, li5, li6, li7, li8, li9, li10, li12, li13, li14, li15, li19, li20, li31, li33, li40, li42, li44, li48, li57, li60, li99, li100, li126, li150, li176, li177, li187, li197, li207, li208, li223, li304, li608, li1520, li1824, nI_add, pk_mul, nI_clamp, nI_leI, nI_ltI, nI_eq, zn_inb, zn_gd, zn_bs, zn_isb, not_true_eq_false, not_false_eq_true, ↓reduceIte, pk_div, pk_sub, zn_rem20, zn_rem2, zn_m1, zn_eqw, zn_weq, zn_weq2, zn_wlt0, zn_wltn, zn_win, zn_wcl, zn_wadd, Nat.not_lt_zero, Nat.one_ne_zero, Nat.zero_ne_one, Nat.le_refl, Nat.zero_le, zn_sel_r, zn_sel_l, c, s1, s2, s3, s4, z, zc, eq_self, fL_holds_B211, fL_holds_B228]
      exact ih1 _
theorem xh_L255z {r : Nat} (l1 l2 : Int32) {kx : Mem → Int32 → Int32 → Int32 → Int32 → Option (Int32 × Mem)} {Q : Int32 × Mem → Prop} (hk : ∀ N : Mem, ∃ z, kx (sr M 41 (N 41)) l1 l2 (nI r) (nI 0) = some z ∧ Q z) : ∀ d k n (N : Mem), k + d = 10 → d < n → ∃ z, fL_holds_L255 M n kx N l1 l2 (nI r) (nI 0) (nI k) = some z ∧ Q z := by
  intro d
  induction d with
  | zero =>
    intro k n N hkd hn
    obtain ⟨m, rfl⟩ : ∃ m, n = m + 1 := ⟨n - 1, by omega⟩
    obtain rfl : k = 10 := by omega
    rw [fL_holds_L255]
    simp (disch := omega) only [li0, li1, li2, li3, li4, li5, li6, li7, li8, li9, li10, li12, li13, li14, li15, li19, li20, li31, li33, li40, li42, li44, li48, li57, li60, li99, li100, li126, li150, li176, li177, li187, li197, li207, li208, li223, li304, li608, li1520, li1824, nI_add, pk_mul, nI_clamp, nI_leI, nI_ltI, nI_eq, zn_inb, zn_gd, zn_bs, zn_isb, not_true_eq_false, not_false_eq_true, ↓reduceIte, pk_div, pk_sub, zn_rem20, zn_rem2, zn_m1, zn_eqw, zn_weq, zn_weq2, zn_wlt0, zn_wltn, zn_win, zn_wcl, zn_wadd, Nat.not_lt_zero, Nat.one_ne_zero, Nat.zero_ne_one, Nat.le_refl, Nat.zero_le, zn_sel_r, zn_sel_l]
    exact hk N
  | succ d ih =>
    intro k n N hkd hn
    obtain ⟨m, rfl⟩ : ∃ m, n = m + 1 := ⟨n - 1, by omega⟩
    have c : ¬ 10 ≤ k := by omega
    rw [fL_holds_L255]
    simp (disch := omega) only [li0, li1, li2, li3, li4, li5, li6, li7, li8, li9, li10, li12, li13, li14, li15, li19, li20, li31, li33, li40, li42, li44, li48, li57, li60, li99, li100, li126, li150, li176, li177, li187, li197, li207, li208, li223, li304, li608, li1520, li1824, nI_add, pk_mul, nI_clamp, nI_leI, nI_ltI, nI_eq, zn_inb, zn_gd, zn_bs, zn_isb, not_true_eq_false, not_false_eq_true, ↓reduceIte, pk_div, pk_sub, zn_rem20, zn_rem2, zn_m1, zn_eqw, zn_weq, zn_weq2, zn_wlt0, zn_wltn, zn_win, zn_wcl, zn_wadd, Nat.not_lt_zero, Nat.one_ne_zero, Nat.zero_ne_one, Nat.le_refl, Nat.zero_le, zn_sel_r, zn_sel_l, c, fL_holds_B287, fL_holds_B288]
    exact ih (k + 1) m _ (by omega) (by omega)
theorem xh_L255 (hX : RX (ofs 1 M) S) (g : GX u S) {r : Nat} (hr : r < S 14 0) (l1 l2 : Int32) {kx : Mem → Int32 → Int32 → Int32 → Int32 → Option (Int32 × Mem)} {Q : Int32 × Mem → Prop} : ∀ d k n (N : Mem), k + d = 10 → d < n → (∀ N : Mem, ∃ z, kx (sr M 41 (N 41)) l1 l2 (nI r) (nI (bif zs_any (zs_lack S r) d k then 0 else 1)) = some z ∧ Q z) → ∃ z, fL_holds_L255 M n kx N l1 l2 (nI r) (nI 1) (nI k) = some z ∧ Q z := by
  have hc := g.c12
  intro d
  induction d with
  | zero =>
    intro k n N hkd hn hk
    obtain ⟨m, rfl⟩ : ∃ m, n = m + 1 := ⟨n - 1, by omega⟩
    obtain rfl : k = 10 := by omega
    rw [fL_holds_L255]
    simp (disch := omega) only [li0, li1, li2, li3, li4, li5, li6, li7, li8, li9, li10, li12, li13, li14, li15, li19, li20, li31, li33, li40, li42, li44, li48, li57, li60, li99, li100, li126, li150, li176, li177, li187, li197, li207, li208, li223, li304, li608, li1520, li1824, nI_add, pk_mul, nI_clamp, nI_leI, nI_ltI, nI_eq, zn_inb, zn_gd, zn_bs, zn_isb, not_true_eq_false, not_false_eq_true, ↓reduceIte, pk_div, pk_sub, zn_rem20, zn_rem2, zn_m1, zn_eqw, zn_weq, zn_weq2, zn_wlt0, zn_wltn, zn_win, zn_wcl, zn_wadd, Nat.not_lt_zero, Nat.one_ne_zero, Nat.zero_ne_one, Nat.le_refl, Nat.zero_le, zn_sel_r, zn_sel_l]
    exact hk N
  | succ d ih =>
    intro k n N hkd hn hk
    obtain ⟨m, rfl⟩ : ∃ m, n = m + 1 := ⟨n - 1, by omega⟩
    have c : ¬ 10 ≤ k := by omega
    have hk10 : k < 10 := by omega
    have s1 : ∀ y, fX8_stockByShelves (sr M 41 y) (nI k) = some (.inr (nI (zs_stock S k))) := fun y => zd_stock hX.r41 hc hk10
    have s2 : ∀ y, fX8_wanted (sr M 41 y) (nI r) (nI k) = some (.inr (nI (S 15 (r * 10 + k)))) := fun y => zd_wanted hX.r41 g.o8 hr hk10
    have b1 := zs_stock_le g.1 hk10
    have b2 := g.wn r k hr hk10
    have ea : zs_any (zs_lack S r) (d + 1) k = (zs_lack S r k || zs_any (zs_lack S r) d (k + 1)) := rfl
    have el : zs_lack S r k = decide (zs_stock S k < S 15 (r * 10 + k)) := rfl
    rw [fL_holds_L255]
    by_cases q : zs_stock S k < S 15 (r * 10 + k)
    · rw [decide_eq_true q] at el
      rw [el, Bool.true_or] at ea
      rw [ea, cond_true] at hk
      simp (disch := omega) only [li0, li1, li2, li3, li4, li5, li6, li7, li8, li9, li10, li12, li13, li14, li15, li19, li20, li31, li33, li40, li42, li44, li48, li57, li60, li99, li100, li126, li150, li176, li177, li187, li197, li207, li208, li223, li304, li608, li1520, li1824, nI_add, pk_mul, nI_clamp, nI_leI, nI_ltI, nI_eq, zn_inb, zn_gd, zn_bs, zn_isb, not_true_eq_false, not_false_eq_true, ↓reduceIte, pk_div, pk_sub, zn_rem20, zn_rem2, zn_m1, zn_eqw, zn_weq, zn_weq2, zn_wlt0, zn_wltn, zn_win, zn_wcl, zn_wadd, Nat.not_lt_zero, Nat.one_ne_zero, Nat.zero_ne_one, Nat.le_refl, Nat.zero_le, zn_sel_r, zn_sel_l, c, s1, s2, q, fL_holds_B287, fL_holds_B288]
      exact xh_L255z l1 l2 hk d (k + 1) m _ (by omega) (by omega)
    · rw [decide_eq_false q] at el
      rw [el, Bool.false_or] at ea
      rw [ea] at hk
      simp (disch := omega) only [li0, li1, li2, li3, li4, li5, li6, li7, li8, li9, li10, li12, li13, li14, li15, li19, li20, li31, li33, li40, li42, li44, li48, li57, li60, li99, li100, li126, li150, li176, li177, li187, li197, li207, li208, li223, li304, li608, li1520, li1824, nI_add, pk_mul, nI_clamp, nI_leI, nI_ltI, nI_eq, zn_inb, zn_gd, zn_bs, zn_isb, not_true_eq_false, not_false_eq_true, ↓reduceIte, pk_div, pk_sub, zn_rem20, zn_rem2, zn_m1, zn_eqw, zn_weq, zn_weq2, zn_wlt0, zn_wltn, zn_win, zn_wcl, zn_wadd, Nat.not_lt_zero, Nat.one_ne_zero, Nat.zero_ne_one, Nat.le_refl, Nat.zero_le, zn_sel_r, zn_sel_l, c, s1, s2, q, fL_holds_B287, fL_holds_B288]
      exact ih (k + 1) m _ (by omega) (by omega) hk
theorem xh_L241 (hX : RX (ofs 1 M) S) (g : GX u S) (h99 : S 99 0 = 0) (l1 l2 : Int32) {k1 : Mem → Option (Int32 × Mem)} {k2 : Mem → Int32 → Int32 → Option (Int32 × Mem)} {Q : Int32 × Mem → Prop} (hk : ∀ N : Mem, ∃ z, k2 (sr M 41 (N 41)) l1 l2 = some z ∧ Q z) : ∀ d r n (N : Mem), r + d = S 14 0 → d < n → ∃ z, fL_holds_L241 M n k1 k2 N l1 l2 (nI r) = some z ∧ Q z := by
  have h8 := g.o8
  have m0 : ∀ y, fX8_orders (sr M 41 y) = some (nI (S 14 0)) := fun y => congrArg some hX.2.1.2.2.2.2.2.2
  intro d
  induction d with
  | zero =>
    intro r n N hr hn
    obtain ⟨m, rfl⟩ : ∃ m, n = m + 1 := ⟨n - 1, by omega⟩
    have c : S 14 0 ≤ r := by omega
    rw [fL_holds_L241]
    simp (disch := omega) only [li0, li1, li2, li3, li4, li5, li6, li7, li8, li9, li10, li12, li13, li14, li15, li19, li20, li31, li33, li40, li42, li44, li48, li57, li60, li99, li100, li126, li150, li176, li177, li187, li197, li207, li208, li223, li304, li608, li1520, li1824, nI_add, pk_mul, nI_clamp, nI_leI, nI_ltI, nI_eq, zn_inb, zn_gd, zn_bs, zn_isb, not_true_eq_false, not_false_eq_true, ↓reduceIte, pk_div, pk_sub, zn_rem20, zn_rem2, zn_m1, zn_eqw, zn_weq, zn_weq2, zn_wlt0, zn_wltn, zn_win, zn_wcl, zn_wadd, Nat.not_lt_zero, Nat.one_ne_zero, Nat.zero_ne_one, Nat.le_refl, Nat.zero_le, zn_sel_r, zn_sel_l, m0, c]
    exact hk N
  | succ d ih =>
    intro r n N hr hn
    obtain ⟨m, rfl⟩ : ∃ m, n = m + 1 := ⟨n - 1, by omega⟩
    have c : ¬ S 14 0 ≤ r := by omega
    have hr8 : r < S 14 0 := by omega
    have ih1 := fun N => ih (r + 1) m N (by omega) (by omega)
    have e1 : ∀ y, fX8_canServe (sr M 41 y) (nI r) = some (.inr (nI (bif zs_can S r then 1 else 0))) := fun y => xg_can hX.r41 g hr8
    have ec : zs_can S r = !(zs_any (zs_lack S r) 10 0) := rfl
    rw [fL_holds_L241]
    simp (disch := omega) only [li0, li1, li2, li3, li4, li5, li6, li7, li8, li9, li10, li12, li13, li14, li15, li19, li20, li31, li33, li40, li42, li44, li48, li57, li60, li99, li100, li126, li150, li176, li177, li187, li197, li207, li208, li223, li304, li608, li1520, li1824, nI_add, pk_mul, nI_clamp, nI_leI, nI_ltI, nI_eq, zn_inb, zn_gd, zn_bs, zn_isb, not_true_eq_false, not_false_eq_true, ↓reduceIte, pk_div, pk_sub, zn_rem20, zn_rem2, zn_m1, zn_eqw, zn_weq, zn_weq2, zn_wlt0, zn_wltn, zn_win, zn_wcl, zn_wadd, Nat.not_lt_zero, Nat.one_ne_zero, Nat.zero_ne_one, Nat.le_refl, Nat.zero_le, zn_sel_r, zn_sel_l, m0, c]
    refine xh_L255 hX g hr8 _ _ 10 0 5000 _ (by omega) (by omega) (fun N => ?_)
    cases q : zs_any (zs_lack S r) 10 0
    · rw [q] at ec
      have ec : zs_can S r = true := ec
      rw [ec, cond_true] at e1
      rw [cond_false]
      have e2 : ∀ y, fX8_fewestByTrying (sr M 41 y) (nI r) = some (.inr (nI (zs_bits (zs_set S r)))) := fun y => xg_trying hX.r41 g hr8 ec
      have e3 : ∀ y, ∃ z2, fX8_fewestByGoing (sr M 41 y) (nI r) = some (.inr (nI (zs_bits (zs_set S r))), z2) := fun y => xg_going hX.r41 g hr8 ec
      obtain ⟨F, hF⟩ := Classical.skolem.mp e3
      have p1 := xg_fewest_pos hX g h99 hr8 ec
      have p2 := zs_bits_le (zs_set S r)
      simp (disch := omega) only [li0, li1, li2, li3, li4, li5, li6, li7, li8, li9, li10, li12, li13, li14, li15, li19, li20, li31, li33, li40, li42, li44, li48, li57, li60, li99, li100, li126, li150, li176, li177, li187, li197, li207, li208, li223, li304, li608, li1520, li1824, nI_add, pk_mul, nI_clamp, nI_leI, nI_ltI, nI_eq, zn_inb, zn_gd, zn_bs, zn_isb, not_true_eq_false, not_false_eq_true, ↓reduceIte, pk_div, pk_sub, zn_rem20, zn_rem2, zn_m1, zn_eqw, zn_weq, zn_weq2, zn_wlt0, zn_wltn, zn_win, zn_wcl, zn_wadd, Nat.not_lt_zero, Nat.one_ne_zero, Nat.zero_ne_one, Nat.le_refl, Nat.zero_le, zn_sel_r, zn_sel_l, e1, e2, hF, eq_self, p1, fL_holds_B335]
      exact ih1 _
    · rw [q] at ec
      have ec : zs_can S r = false := ec
      rw [ec, cond_false] at e1
      rw [cond_true]
      simp (disch := omega) only [li0, li1, li2, li3, li4, li5, li6, li7, li8, li9, li10, li12, li13, li14, li15, li19, li20, li31, li33, li40, li42, li44, li48, li57, li60, li99, li100, li126, li150, li176, li177, li187, li197, li207, li208, li223, li304, li608, li1520, li1824, nI_add, pk_mul, nI_clamp, nI_leI, nI_ltI, nI_eq, zn_inb, zn_gd, zn_bs, zn_isb, not_true_eq_false, not_false_eq_true, ↓reduceIte, pk_div, pk_sub, zn_rem20, zn_rem2, zn_m1, zn_eqw, zn_weq, zn_weq2, zn_wlt0, zn_wltn, zn_win, zn_wcl, zn_wadd, Nat.not_lt_zero, Nat.one_ne_zero, Nat.zero_ne_one, Nat.le_refl, Nat.zero_le, zn_sel_r, zn_sel_l, e1, eq_self, fL_holds_B335]
      exact ih1 _
theorem xh_holds (hX : RX (ofs 1 M) S) (g : GX u S) (h99 : S 99 0 = 0) (hj : ZJ S) : ∃ z, fL_holds M = some z ∧ z.1 = nI 1 := by
  have hc := g.c12
  have h8 := g.o8
  have lo := g.lo
  have b3 : S 6 3 ≤ 200000 := Nat.le_trans g.2.2.2.2.2.2.2.2.2.1 g.2.2.2.2.2.2.2.2.2.2
  have hw := xh_w_le S (S 1 0)
  have hfh0 := zs_free_heights g.1
  have hfh : zs_fm S 40 = 40 - zs_hs S (S 1 0) := by omega
  have cw : ¬ 1 < xh_w S (S 1 0) := by omega
  have c6 : ¬ 20 ≤ S 6 0 := by omega
  have c7 : ¬ 8 < S 6 4 := by omega
  have e1 : ∀ y, fX8_freeBySlots (sr M 41 y) = some (nI (40 - zs_hs S (S 1 0))) := fun y => by
    rw [← hfh]
    exact zd_slots hX.r41 g
  have e2 : ∀ y, fX8_freeByHeights (sr M 41 y) = some (nI (40 - zs_hs S (S 1 0))) := fun y => by
    rw [← hfh]
    exact zd_heights hX.r41 g
  have e3 : ∀ y, fX8_lift (sr M 41 y) = some (nI (S 6 0)) := fun y => congrArg some hX.2.1.1
  have e4 : ∀ y, fX8_trips (sr M 41 y) = some (nI (S 6 4)) := fun y => congrArg some hX.2.1.2.2.2.2.1
  have e5 : ∀ y, fX8_fetches (sr M 41 y) = some (nI (S 6 3)) := fun y => congrArg some hX.2.1.2.2.2.1
  unfold fL_holds
  refine xh_L6 hX g (Q := fun z => z.1 = nI 1) (fun N => ?_) (S 1 0) 0 5000 M (by omega) (by omega)
  refine xh_L179 hX g hj _ _ (fun N => ?_) 10 0 5000 _ (by omega) (by omega)
  refine xh_L241 hX g h99 _ _ (fun N => ?_) (S 14 0) 0 5000 _ (by omega) (by omega)
  simp (disch := omega) only [li0, li1, li2, li3, li4, li5, li6, li7, li8, li9, li10, li12, li13, li14, li15, li19, li20, li31, li33, li40, li42, li44, li48, li57, li60, li99, li100, li126, li150, li176, li177, li187, li197, li207, li208, li223, li304, li608, li1520, li1824, nI_add, pk_mul, nI_clamp, nI_leI, nI_ltI, nI_eq, zn_inb, zn_gd, zn_bs, zn_isb, not_true_eq_false, not_false_eq_true, ↓reduceIte, pk_div, pk_sub, zn_rem20, zn_rem2, zn_m1, zn_eqw, zn_weq, zn_weq2, zn_wlt0, zn_wltn, zn_win, zn_wcl, zn_wadd, Nat.not_lt_zero, Nat.one_ne_zero, Nat.zero_ne_one, Nat.le_refl, Nat.zero_le, zn_sel_r, zn_sel_l, cw, e1, e2, e3, e4, e5, c6, c7, eq_self, fL_holds_B405]
  exact ⟨_, rfl, rfl⟩
end
