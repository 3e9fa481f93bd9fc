set_option maxHeartbeats 400000
/-! the digest: accounts, snapshots, the text; the call -/
def zd_b2 (b1 b2 h : Int64) : Int64 := (31 : Int64) * ((31 : Int64) * h + b1) + b2
def zd_tx (sn : Nat → Nat) (len : Nat) (t : Nat → Int32) (h : Int64) : Int64 := zs_it (fun i x => zd x (t i)) (zd (zs_it (fun i x => zd x (nI (sn i))) h 2) (nI len)) len
def zd_ac (S : SM) (hc : Nat) (b1 b2 h : Int64) : Int64 := zd_b2 b1 b2 (zd (zd (zd (zd (zd (zd (zd h (nI (S 6 2))) (nI (S 6 3))) (nI (S 0 4))) (nI (zs_hv S (S 1 0)))) (nI (zs_mu S 0 (S 1 0)))) (nI (zs_uw S (S 1 0)))) (nI hc))
noncomputable def zd_or2 (S : SM) (h : Int64) : Int64 := zd (zd_ors S h (S 14 0)) (nI (zs_ch S))
noncomputable def zd_all (S : SM) (hc : Nat) (sn : Nat → Nat) (len : Nat) (t : Nat → Int32) (b1 b2 : Int64) : Int64 := zd_tx sn len t (zd_ac S hc b1 b2 (zd_or2 S (zd_tr S (zd_ks S (zd_tw S (zd_shs S 4349 (S 1 0)))) (S 6 4))))
theorem zd_o1 (h b : Int64) : fX8_hashOn h b = some ((31 : Int64) * h + b) := rfl
section
variable {M K : Mem} {S : SM} {u hc len : Nat} {sn : Nat → Nat} {b1 b2 : Int64}
theorem zx_hashAccounts (hX : RX (ofs 1 M) S) (g : GX u S) (h33 : M 33 0 = nI hc) (hb1 : fX8_bitsOf (if S 6 3 = 0 then FP.dconst0 else FP.ddiv (FP.i2d (nI (S 6 2))) (FP.i2d (nI (S 6 3)))) = some b1) (hb2 : fX8_bitsOf (if zs_us S (S 1 0) = 0 then FP.dconst0 else FP.ddiv (FP.i2d (nI (zs_uw S (S 1 0)))) (FP.i2d (nI (zs_us S (S 1 0))))) = some b2) (h : Int64) : fX8_hashAccounts M h = some (zd_ac S hc b1 b2 h) := by
  have hc12 := g.c12
  have hT : RT (ofs 2 M) S := hX.t
  have m2 : M 7 2 = nI (S 6 2) := hX.2.1.2.2.1
  have m3 : M 7 3 = nI (S 6 3) := hX.2.1.2.2.2.1
  have b3 : S 6 3 ≤ 200000 := Nat.le_trans g.2.2.2.2.2.2.2.2.2.1 g.2.2.2.2.2.2.2.2.2.2
  have lt := zs_us_lt g
  have e1 : fX8_ticks M = some (nI (S 6 2)) := congrArg some m2
  have e2 : fX8_fetches M = some (nI (S 6 3)) := congrArg some m3
  have e3 : fX8_served M = some (nI (S 0 4)) := congrArg some hX.2.1.2.2.2.2.2.1
  have e4 := zx_findHeaviest hX g
  have e5 : fX7_mostUsed (ofs 2 M) (nI 0) = some (wI (zs_mu S 0 (S 1 0))) := zx_mostUsed hT g.1 (lo := 0) (by decide)
  have e6 : fX8_usedWays M = some (nI (zs_uw S (S 1 0))) := by
    unfold fX8_usedWays
    rw [zx_sumOfUsedWays hT g.1, zn_bs]
  have e7 : fX8_savedStates M = some (nI hc) := congrArg some h33
  have x1 := zx_meanOf (a := S 6 2) (b := S 6 3) (by omega)
  have x2 := zx_meanOf (a := zs_uw S (S 1 0)) (b := zs_us S (S 1 0)) lt
  have e8 : fX8_meanTicks M = some (if S 6 3 = 0 then FP.dconst0 else FP.ddiv (FP.i2d (nI (S 6 2))) (FP.i2d (nI (S 6 3)))) := by
    unfold fX8_meanTicks
    rw [m2, m3, x1, zn_bs]
  have e9 : fX8_meanWay M = some (if zs_us S (S 1 0) = 0 then FP.dconst0 else FP.ddiv (FP.i2d (nI (zs_uw S (S 1 0)))) (FP.i2d (nI (zs_us S (S 1 0))))) := by
    unfold fX8_meanWay
    rw [zx_sumOfUsedWays hT g.1, zn_bs, zx_sumOfUses hT hc12, zn_bs, x2, zn_bs]
  unfold fX8_hashAccounts
  rw [e1, zn_bs, zd_on, zn_bs, e2, zn_bs, zd_on, zn_bs, e3, zn_bs, zd_on, zn_bs, e4, zn_bs, show (1 : Int32) = nI 1 from rfl, zn_wadd, zd_on, zn_bs, show (0 : Int32) = nI 0 from rfl, e5, zn_bs, zn_wadd, zd_on, zn_bs, e6, zn_bs, zd_on, zn_bs, e7, zn_bs, zd_on, zn_bs, e8, zn_bs, hb1, zn_bs, zd_o1, zn_bs, e9, zn_bs, hb2, zn_bs, zd_o1, zn_bs]
  rfl
theorem zx_hashTexts_L5 {gg : Nat → Option Nat} (hg : ∀ i, i < 2 → sn i = if (gg i).isNone = true then 0 else 1) (x : Int64) (kx : Int64 → Option Int64) : ∀ d i n, i + d = 2 → d < n → fX8_hashTexts_L5 gg M n kx (zs_it (fun i x => zd x (nI (sn i))) x i) (nI i) = kx (zs_it (fun i x => zd x (nI (sn i))) x 2) := by
  intro d
  induction d with
  | zero =>
    intro i n hi_ hn
    obtain ⟨m, rfl⟩ : ∃ m, n = m + 1 := ⟨n - 1, by omega⟩
    have c : 2 ≤ i := by omega
    have ef : i = 2 := by omega
    rw [fX8_hashTexts_L5]
    simp (disch := omega) only [li0, li1, li2, li3, li4, li5, li6, li7, li8, li9, li10, li12, li13, li14, li15, li19, li20, li31, li33, li40, li42, li44, li48, li57, li60, li99, li100, li126, li150, li176, li177, li187, li197, li207, li208, li223, li304, li608, li1520, li1824, nI_add, pk_mul, nI_clamp, nI_leI, nI_ltI, nI_eq, zn_inb, zn_gd, zn_bs, zn_isb, not_true_eq_false, not_false_eq_true, ↓reduceIte, pk_div, pk_sub, zn_rem20, zn_rem2, zn_m1, zn_eqw, zn_weq, zn_weq2, zn_wlt0, zn_wltn, zn_win, zn_wcl, zn_wadd, Nat.not_lt_zero, Nat.one_ne_zero, Nat.zero_ne_one, Nat.le_refl, Nat.zero_le, zn_sel_r, zn_sel_l, c]
    try rw [ef]
    try rfl
  | succ d ih =>
    intro i n hi_ hn
    obtain ⟨m, rfl⟩ : ∃ m, n = m + 1 := ⟨n - 1, by omega⟩
    have c : ¬ 2 ≤ i := by omega
    have ih1 := ih (i + 1) m (by omega) (by omega)
    have e := hg i (by omega)
    rw [show zs_it (fun i x => zd x (nI (sn i))) x (i + 1) = zd (zs_it (fun i x => zd x (nI (sn i))) x i) (nI (sn i)) from rfl, e] at ih1
    rw [fX8_hashTexts_L5]
    by_cases q : (gg i).isNone = true
    · rw [if_pos q] at ih1
      simp (disch := omega) only [li0, li1, li2, li3, li4, li5, li6, li7, li8, li9, li10, li12, li13, li14, li15, li19, li20, li31, li33, li40, li42, li44, li48, li57, li60, li99, li100, li126, li150, li176, li177, li187, li197, li207, li208, li223, li304, li608, li1520, li1824, nI_add, pk_mul, nI_clamp, nI_leI, nI_ltI, nI_eq, zn_inb, zn_gd, zn_bs, zn_isb, not_true_eq_false, not_false_eq_true, ↓reduceIte, pk_div, pk_sub, zn_rem20, zn_rem2, zn_m1, zn_eqw, zn_weq, zn_weq2, zn_wlt0, zn_wltn, zn_win, zn_wcl, zn_wadd, Nat.not_lt_zero, Nat.one_ne_zero, Nat.zero_ne_one, Nat.le_refl, Nat.zero_le, zn_sel_r, zn_sel_l, c, q, fX8_hashTexts_B30, zd_onb (show 0 < 2 by omega)]
      exact ih1
    · rw [if_neg q] at ih1
      simp (disch := omega) only [li0, li1, li2, li3, li4, li5, li6, li7, li8, li9, li10, li12, li13, li14, li15, li19, li20, li31, li33, li40, li42, li44, li48, li57, li60, li99, li100, li126, li150, li176, li177, li187, li197, li207, li208, li223, li304, li608, li1520, li1824, nI_add, pk_mul, nI_clamp, nI_leI, nI_ltI, nI_eq, zn_inb, zn_gd, zn_bs, zn_isb, not_true_eq_false, not_false_eq_true, ↓reduceIte, pk_div, pk_sub, zn_rem20, zn_rem2, zn_m1, zn_eqw, zn_weq, zn_weq2, zn_wlt0, zn_wltn, zn_win, zn_wcl, zn_wadd, Nat.not_lt_zero, Nat.one_ne_zero, Nat.zero_ne_one, Nat.le_refl, Nat.zero_le, zn_sel_r, zn_sel_l, c, q, fX8_hashTexts_B30, zd_onb (show 1 < 2 by omega)]
      exact ih1
theorem zx_hashTexts_L56 {gg : Nat → Option Nat} (m0 : M 36 0 = nI len) (hl : len ≤ 60) (x : Int64) (kx : Int64 → Option Int64) : ∀ d i n, i + d = len → d < n → fX8_hashTexts_L56 gg M n kx (zs_it (fun i x => zd x (M 37 i)) x i) (nI i) = kx (zs_it (fun i x => zd x (M 37 i)) x len) := by
  intro d
  induction d with
  | zero =>
    intro i n hi_ hn
    obtain ⟨m, rfl⟩ : ∃ m, n = m + 1 := ⟨n - 1, by omega⟩
    have c : len ≤ i := by omega
    have ef : i = len := by omega
    rw [fX8_hashTexts_L56]
    simp (disch := omega) only [li0, li1, li2, li3, li4, li5, li6, li7, li8, li9, li10, li12, li13, li14, li15, li19, li20, li31, li33, li40, li42, li44, li48, li57, li60, li99, li100, li126, li150, li176, li177, li187, li197, li207, li208, li223, li304, li608, li1520, li1824, nI_add, pk_mul, nI_clamp, nI_leI, nI_ltI, nI_eq, zn_inb, zn_gd, zn_bs, zn_isb, not_true_eq_false, not_false_eq_true, ↓reduceIte, pk_div, pk_sub, zn_rem20, zn_rem2, zn_m1, zn_eqw, zn_weq, zn_weq2, zn_wlt0, zn_wltn, zn_win, zn_wcl, zn_wadd, Nat.not_lt_zero, Nat.one_ne_zero, Nat.zero_ne_one, Nat.le_refl, Nat.zero_le, zn_sel_r, zn_sel_l, m0, c]
    try rw [ef]
    try rfl
  | succ d ih =>
    intro i n hi_ hn
    obtain ⟨m, rfl⟩ : ∃ m, n = m + 1 := ⟨n - 1, by omega⟩
    have c : ¬ len ≤ i := by omega
    have ih1 := ih (i + 1) m (by omega) (by omega)
    rw [fX8_hashTexts_L56]
    simp (disch := omega) only [li0, li1, li2, li3, li4, li5, li6, li7, li8, li9, li10, li12, li13, li14, li15, li19, li20, li31, li33, li40, li42, li44, li48, li57, li60, li99, li100, li126, li150, li176, li177, li187, li197, li207, li208, li223, li304, li608, li1520, li1824, nI_add, pk_mul, nI_clamp, nI_leI, nI_ltI, nI_eq, zn_inb, zn_gd, zn_bs, zn_isb, not_true_eq_false, not_false_eq_true, ↓reduceIte, pk_div, pk_sub, zn_rem20, zn_rem2, zn_m1, zn_eqw, zn_weq, zn_weq2, zn_wlt0, zn_wltn, zn_win, zn_wcl, zn_wadd, Nat.not_lt_zero, Nat.one_ne_zero, Nat.zero_ne_one, Nat.le_refl, Nat.zero_le, zn_sel_r, zn_sel_l, m0, c, zd_on]
    exact ih1
theorem zx_hashTexts {gg : Nat → Option Nat} (hg : ∀ i, i < 2 → sn i = if (gg i).isNone = true then 0 else 1) (m0 : M 36 0 = nI len) (hl : len ≤ 60) (h : Int64) : fX8_hashTexts gg M h = some (zd_tx sn len (M 37) h) := by
  unfold fX8_hashTexts
  refine (zx_hashTexts_L5 hg h _ 2 0 5000 (by omega) (by omega)).trans ?_
  rw [m0, zd_on, zn_bs]
  exact zx_hashTexts_L56 m0 hl _ (fun (l3 : Int64) => some l3) len 0 5000 (by omega) (by omega)
theorem zx_dg58k {gg : Nat → Option Nat} {M' : Mem} (hX : RX (ofs 1 M') S) (g : GX u S) (h33 : M' 33 0 = nI hc) (hb1 : fX8_bitsOf (if S 6 3 = 0 then FP.dconst0 else FP.ddiv (FP.i2d (nI (S 6 2))) (FP.i2d (nI (S 6 3)))) = some b1) (hb2 : fX8_bitsOf (if zs_us S (S 1 0) = 0 then FP.dconst0 else FP.ddiv (FP.i2d (nI (zs_uw S (S 1 0)))) (FP.i2d (nI (zs_us S (S 1 0))))) = some b2) (hg : ∀ i, i < 2 → sn i = if (gg i).isNone = true then 0 else 1) (m0 : M' 36 0 = nI len) (hl : len ≤ 60) (h : Int64) {t : Nat → Int32} (ht : M' 37 = t) : ∃ z, ((fX8_hashAccounts M' h).bind fun r64 => (fX8_hashTexts gg M' r64).bind fun r70 => some (r70, M')) = some z ∧ z.1 = zd_tx sn len t (zd_ac S hc b1 b2 h) := by
  subst ht
  rw [zx_hashAccounts (S := S) (hc := hc) (b1 := b1) (b2 := b2) hX g h33 hb1 hb2, zn_bs, zx_hashTexts (sn := sn) (len := len) hg m0 hl, zn_bs]
  exact ⟨_, rfl, rfl⟩
theorem zx_dg58 {gg : Nat → Option Nat} (hX : RX (ofs 1 M) S) (g : GX u S) (h33 : M 33 0 = nI hc) (hb1 : fX8_bitsOf (if S 6 3 = 0 then FP.dconst0 else FP.ddiv (FP.i2d (nI (S 6 2))) (FP.i2d (nI (S 6 3)))) = some b1) (hb2 : fX8_bitsOf (if zs_us S (S 1 0) = 0 then FP.dconst0 else FP.ddiv (FP.i2d (nI (zs_uw S (S 1 0)))) (FP.i2d (nI (zs_us S (S 1 0))))) = some b2) (hg : ∀ i, i < 2 → sn i = if (gg i).isNone = true then 0 else 1) (m0 : M 36 0 = nI len) (hl : len ≤ 60) (N : Mem) (s0 s1 : Int64) : ∃ z, fX8_digest_B58 gg M N s0 s1 = some z ∧ z.1 = zd_tx sn len (M 37) (zd_ac S hc b1 b2 ((31 : Int64) * s0 + s1)) := by
  unfold fX8_digest_B58
  rw [zd_o1, zn_bs]
  refine zx_dg58k (S := S) (u := u) (hc := hc) (len := len) (sn := sn) (b1 := b1) (b2 := b2) (t := M 37) ?_ g ?_ hb1 hb2 hg ?_ hl _ ?_
  · exact hX.of rfl rfl rfl rfl rfl rfl rfl rfl rfl rfl rfl rfl rfl rfl rfl
  · exact h33
  · exact m0
  · rfl
theorem zx_digest {gg : Nat → Option Nat} (hX : RX (ofs 1 M) S) (g : GX u S) (h99 : S 99 0 = 0) (hu : u + 24 ≤ 200000) (h33 : M 33 0 = nI hc) (hb1 : fX8_bitsOf (if S 6 3 = 0 then FP.dconst0 else FP.ddiv (FP.i2d (nI (S 6 2))) (FP.i2d (nI (S 6 3)))) = some b1) (hb2 : fX8_bitsOf (if zs_us S (S 1 0) = 0 then FP.dconst0 else FP.ddiv (FP.i2d (nI (zs_uw S (S 1 0)))) (FP.i2d (nI (zs_us S (S 1 0))))) = some b2) (hg : ∀ i, i < 2 → sn i = if (gg i).isNone = true then 0 else 1) (m0 : M 36 0 = nI len) (hl : len ≤ 60) : ∃ z, fX8_digest gg M = some z ∧ z.1 = zd_all S hc sn len (M 37) b1 b2 := by
  have m1 : M 2 1 = wI (S 1 1) := hX.w
  have hw12 := g.1.2.1
  have hc12 := g.c12
  obtain ⟨⟨o1, o2⟩, e5, e5'⟩ := zx_hashOrders hX g (zd_tr S (zd_ks S (zd_tw S (zd_shs S 4349 (S 1 0)))) (S 6 4))
  have e5'' : o1 = zd_ors S (zd_tr S (zd_ks S (zd_tw S (zd_shs S 4349 (S 1 0)))) (S 6 4)) (S 14 0) := e5'
  subst e5''
  unfold fX8_digest
  rw [zx_hashShelves hX g, zn_bs, zx_hashSlots hX g, zn_bs, zx_hashKinds hX g, zn_bs, zx_hashTrips hX g, zn_bs, e5, zn_bs, m1, show (-1 : Int32) = wI 0 from rfl]
  by_cases c1 : S 1 1 = 0
  · rw [c1, if_neg (fun a => a rfl)]
    obtain ⟨⟨f1, f2⟩, e6, e6'⟩ := zx_findCheapest (M := sr M 41 (o2 41)) (S := S) hX.r41 g h99 c1 hu
    have e6'' : f1 = wI (zs_ch S) := e6'.trans (congrArg wI (show (zs_cp S (S 14 0)).1 = zs_ch S from (if_pos c1).symm))
    subst e6''
    rw [e6, zn_bs]
    obtain ⟨z, z1, z2⟩ := zx_dg58 (M := M) (S := S) (u := u) (hc := hc) (len := len) (sn := sn) (gg := gg) (b1 := b1) (b2 := b2) hX g h33 hb1 hb2 hg m0 hl (sr (sr (sr (sr (sr (sr (sr (sr (sr (sr (sr (sr (sr (sr (sr (sr M 17 (f2 17)) 18 (f2 18)) 19 (f2 19)) 20 (f2 20)) 21 (f2 21)) 22 (f2 22)) 23 (f2 23)) 24 (f2 24)) 25 (f2 25)) 27 (f2 27)) 28 (f2 28)) 29 (f2 29)) 30 (f2 30)) 31 (f2 31)) 32 (f2 32)) 41 (o2 41)) (zd_ors S (zd_tr S (zd_ks S (zd_tw S (zd_shs S 4349 (S 1 0)))) (S 6 4)) (S 14 0)) ((wI (zs_ch S) + 1).toInt64)
    refine ⟨z, z1, z2.trans ?_⟩
    rw [show (1 : Int32) = nI 1 from rfl, zn_wadd, zd_f]
    rfl
  · have c2 : ¬ wI (S 1 1) = wI 0 := by
      rw [zn_weq (by omega) (by omega)]
      exact c1
    have ech : zs_ch S = 0 := if_neg c1
    rw [if_pos c2]
    obtain ⟨z, z1, z2⟩ := zx_dg58 (M := M) (S := S) (u := u) (hc := hc) (len := len) (sn := sn) (gg := gg) (b1 := b1) (b2 := b2) hX g h33 hb1 hb2 hg m0 hl (sr M 41 (o2 41)) (zd_ors S (zd_tr S (zd_ks S (zd_tw S (zd_shs S 4349 (S 1 0)))) (S 6 4)) (S 14 0)) 0
    refine ⟨z, z1, z2.trans ?_⟩
    unfold zd_all zd_or2
    rw [ech]
    rfl
theorem zk_dg309 {N : Mem} (hN : RK (N 1) S) (n8 : N 0 8 = nI len) (hl : len ≤ 60) (s0 : Int64) (b : Nat) : ∃ z, fX9_digest_B309 K N s0 (nI b) = some z ∧ (z.1 = zs_it (fun i x => zd x (K 6 i)) (zd (s0 + (nI b).toInt64) (nI len)) len ∧ z.2 0 = N 0 ∧ RK (z.2 1) S) := by
  unfold fX9_digest_B309
  rw [n8, zd_f]
  exact zk_digest_L327 (K := K) (S := S) hl (c0 := N 0) n8 _ (fun N' n0 hN' => ⟨_, rfl, rfl, n0, hN'⟩) len 0 5000 _ (by omega) (by omega) rfl hN
theorem zk_dg217 {N : Mem} (hN : RK (N 1) S) (g : GX u S) (n4 : N 0 4 = nI hc) (n8 : N 0 8 = nI len) (hl : len ≤ 60) (h5 : ∀ i, i < 2 → K 5 i = nI (sn i) ∧ sn i < 2) (hb1 : fJxe99ae_doubleToLongBits_ccdee (if S 6 3 = 0 then FP.dconst0 else FP.ddiv (FP.i2d (nI (S 6 2))) (FP.i2d (nI (S 6 3)))) = some b1) (hb2 : fJxe99ae_doubleToLongBits_ccdee (if zs_us S (S 1 0) = 0 then FP.dconst0 else FP.ddiv (FP.i2d (nI (zs_uw S (S 1 0)))) (FP.i2d (nI (zs_us S (S 1 0))))) = some b2) (s0 : Int64) (x : Int32) : ∃ z, fX9_digest_B217 K N s0 x = some z ∧ (z.1 = zd_tx sn len (K 6) (zd_b2 b1 b2 (zd (zd (s0 + x.toInt64) (nI (zs_uw S (S 1 0)))) (nI hc))) ∧ z.2 0 = N 0 ∧ RK (z.2 1) S) := by
  have hc12 := g.c12
  have e1 := zk_waysSum (K := sr (sr (sr (sr K 0 (N 0)) 1 (N 1)) 2 (N 2)) 8 (N 8)) (S := S) hN hc12
  have e2 := zk_meanByFetch (K := sr (sr (sr (sr K 0 (N 0)) 1 (N 1)) 2 (N 2)) 8 (N 8)) (S := S) hN g
  have e3 := zk_meanByUse (K := sr (sr (sr (sr K 0 (N 0)) 1 (N 1)) 2 (N 2)) 8 (N 8)) (S := S) hN g (zs_us_lt g)
  have i0 : inb (0 : Int32) 2 = true := rfl
  have i1 : inb (1 : Int32) 2 = true := rfl
  have t0 : (0 : Int32).toNatClampNeg = 0 := rfl
  have t1 : (1 : Int32).toNatClampNeg = 1 := rfl
  have h50 := h5 0 (by omega)
  have h51 := h5 1 (by omega)
  unfold fX9_digest_B217
  rw [e1, zn_bs, e2, zn_bs, hb1, zn_bs, e3, zn_bs, hb2, zn_bs, i0, zn_gd, t0, h50.1, n4, zd_f, zd_f, show (0 : Int32) = nI 0 from rfl, show (1 : Int32) = nI 1 from rfl]
  have fin : ∀ a b : Nat, sn 0 = a → sn 1 = b → ∃ z, fX9_digest_B309 K (sr (sr (sr (sr K 0 (sr (sr (sr (sr K 0 (N 0)) 1 (N 1)) 2 (N 2)) 8 (N 8) 0)) 1 (sr (sr (sr (sr K 0 (N 0)) 1 (N 1)) 2 (N 2)) 8 (N 8) 1)) 2 (sr (sr (sr (sr K 0 (N 0)) 1 (N 1)) 2 (N 2)) 8 (N 8) 2)) 8 (sr (sr (sr (sr K 0 (N 0)) 1 (N 1)) 2 (N 2)) 8 (N 8) 8)) ((31 : Int64) * ((31 : Int64) * ((31 : Int64) * ((31 : Int64) * zd (zd (s0 + x.toInt64) (nI (zs_uw S (S 1 0)))) (nI hc) + b1) + b2) + (nI a).toInt64)) (nI b) = some z ∧ (z.1 = zd_tx sn len (K 6) (zd_b2 b1 b2 (zd (zd (s0 + x.toInt64) (nI (zs_uw S (S 1 0)))) (nI hc))) ∧ z.2 0 = N 0 ∧ RK (z.2 1) S) := by
    intro a b ha hb
    obtain ⟨z, z1, z2, z3⟩ := zk_dg309 (K := K) (S := S) (len := len) (N := (sr (sr (sr (sr K 0 (sr (sr (sr (sr K 0 (N 0)) 1 (N 1)) 2 (N 2)) 8 (N 8) 0)) 1 (sr (sr (sr (sr K 0 (N 0)) 1 (N 1)) 2 (N 2)) 8 (N 8) 1)) 2 (sr (sr (sr (sr K 0 (N 0)) 1 (N 1)) 2 (N 2)) 8 (N 8) 2)) 8 (sr (sr (sr (sr K 0 (N 0)) 1 (N 1)) 2 (N 2)) 8 (N 8) 8))) hN n8 hl ((31 : Int64) * ((31 : Int64) * ((31 : Int64) * ((31 : Int64) * zd (zd (s0 + x.toInt64) (nI (zs_uw S (S 1 0)))) (nI hc) + b1) + b2) + (nI a).toInt64)) b
    refine ⟨z, z1, z2.trans ?_, z3⟩
    subst ha hb
    rfl
  have bb : ∀ a, a < 2 → (nI a = 0 ↔ a = 0) := fun a ha => by
    rw [show (0 : Int32) = nI 0 from rfl, nI_eq (by omega) (by omega)]
  by_cases q0 : sn 0 = 0
  · rw [q0, if_pos rfl]
    unfold fX9_digest_B292
    rw [i1, zn_gd, t1, h51.1]
    by_cases q1 : sn 1 = 0
    · rw [q1, if_pos (show nI 0 = 0 from rfl)]
      exact fin 0 0 q0 q1
    · have q1' : sn 1 = 1 := by omega
      rw [q1', if_neg (show ¬ nI 1 = 0 by decide)]
      exact fin 0 1 q0 q1'
  · have q0' : sn 0 = 1 := by omega
    rw [q0', if_neg (show ¬ nI 1 = nI 0 by decide)]
    unfold fX9_digest_B292
    rw [i1, zn_gd, t1, h51.1]
    by_cases q1 : sn 1 = 0
    · rw [q1, if_pos (show nI 0 = 0 from rfl)]
      exact fin 1 0 q0' q1
    · have q1' : sn 1 = 1 := by omega
      rw [q1', if_neg (show ¬ nI 1 = 0 by decide)]
      exact fin 1 1 q0' q1'
theorem zk_dg19 {N : Mem} {b : Nat} (hb : b = if S 1 0 = 0 then 0 else 1) (hN : RK (N 1) S) (g : GX u S) (h99 : S 99 0 = 0) (hu : u + 24 ≤ 200000) (n4 : N 0 4 = nI hc) (n8 : N 0 8 = nI len) (hl : len ≤ 60) (h5 : ∀ i, i < 2 → K 5 i = nI (sn i) ∧ sn i < 2) (hb1 : fJxe99ae_doubleToLongBits_ccdee (if S 6 3 = 0 then FP.dconst0 else FP.ddiv (FP.i2d (nI (S 6 2))) (FP.i2d (nI (S 6 3)))) = some b1) (hb2 : fJxe99ae_doubleToLongBits_ccdee (if zs_us S (S 1 0) = 0 then FP.dconst0 else FP.ddiv (FP.i2d (nI (zs_uw S (S 1 0)))) (FP.i2d (nI (zs_us S (S 1 0))))) = some b2) : ∃ z, fX9_digest_B19 K N (nI b) = some z ∧ (z.1 = zd_all S hc sn len (K 6) b1 b2 ∧ z.2 0 = N 0 ∧ RK (z.2 1) S) := by
  have hc12 := g.c12
  have i0 : inb (0 : Int32) 304 = true := by decide
  have i4 : inb (4 : Int32) 304 = true := by decide
  have i5 : inb (5 : Int32) 304 = true := by decide
  have i6 : inb (6 : Int32) 304 = true := by decide
  have i7 : inb (7 : Int32) 304 = true := by decide
  have t0 : (0 : Int32).toNatClampNeg = 0 := rfl
  have t4 : (4 : Int32).toNatClampNeg = 4 := by decide
  have t5 : (5 : Int32).toNatClampNeg = 5 := by decide
  have t6 : (6 : Int32).toNatClampNeg = 6 := by decide
  have t7 : (7 : Int32).toNatClampNeg = 7 := by decide
  unfold fX9_digest_B19
  rw [i0, zn_gd, t0, hN.1, zd_f]
  refine zk_digest_L41 (K := K) (S := S) g (c0 := N 0) 4349 (fun N n0 hN => ?_) (S 1 0) 0 5000 _ (by omega) (by omega) rfl hN
  rw [zk_digestTower (K := sr (sr (sr (sr K 0 (N 0)) 1 (N 1)) 2 (N 2)) 8 (N 8)) (S := S) hN g, zn_bs, zk_digestKinds (K := sr (sr (sr (sr K 0 (N 0)) 1 (N 1)) 2 (N 2)) 8 (N 8)) (S := S) hN g, zn_bs, i7, zn_gd, t7, hN.2.2.2.2.1.2.2.2.2.2.1, zd_f]
  refine zk_digest_L94 (K := K) (S := S) g (c0 := N 0) _ (fun N' n0' hN' => ?_) (S 6 4) 0 5000 _ (by omega) (by have := g.lo.2.2.1; omega) rfl hN
  obtain ⟨y, e1, hy⟩ := zk_digestOrders (K := sr (sr (sr (sr K 0 (N' 0)) 1 (N' 1)) 2 (N' 2)) 8 (N' 8)) (S := S) hN' g h99 hu (zd_tr S (zd_ks S (zd_tw S (zd_shs S 4349 (S 1 0)))) (S 6 4))
  rw [e1, zn_bs, i4, zn_gd, i5, zn_gd, i6, zn_gd, t4, t5, t6]
  dsimp only
  rw [hy.2.2.2.2.1.2.2.1, hy.2.2.2.2.1.2.2.2.1, hy.2.2.2.2.1.2.2.2.2.1, zd_f, zd_f, zd_f]
  have n04 : N' 0 4 = nI hc := by rw [n0', n0]; exact n4
  have n08 : N' 0 8 = nI len := by rw [n0', n0]; exact n8
  by_cases c0 : S 1 0 = 0
  · rw [if_pos c0] at hb
    rw [hb, if_pos (show nI 0 = 0 from rfl)]
    unfold fX9_digest_B200
    rw [if_pos (show nI 0 = 0 from rfl)]
    obtain ⟨z, z1, z2, z3, z4⟩ := zk_dg217 (K := K) (S := S) (sn := sn) (hc := hc) (len := len) (b1 := b1) (b2 := b2) (N := (sr (sr (sr (sr K 0 (sr (sr (sr (sr K 0 (N' 0)) 1 (y 1)) 2 (y 2)) 8 (y 8) 0)) 1 (sr (sr (sr (sr K 0 (N' 0)) 1 (y 1)) 2 (y 2)) 8 (y 8) 1)) 2 (sr (sr (sr (sr K 0 (N' 0)) 1 (y 1)) 2 (y 2)) 8 (y 8) 2)) 8 (sr (sr (sr (sr K 0 (N' 0)) 1 (y 1)) 2 (y 2)) 8 (y 8) 8))) hy g n04 n08 hl h5 hb1 hb2 ((31 : Int64) * ((31 : Int64) * zd (zd (zd (zd_or2 S (zd_tr S (zd_ks S (zd_tw S (zd_shs S 4349 (S 1 0)))) (S 6 4))) (nI (S 6 2))) (nI (S 6 3))) (nI (S 0 4)) + (0 : Int32).toInt64)) (0 : Int32)
    refine ⟨z, z1, z2.trans ?_, z3.trans (n0'.trans n0), z4⟩
    unfold zd_all zd_ac
    rw [show zs_hv S (S 1 0) = 0 by rw [c0]; rfl, show zs_mu S 0 (S 1 0) = 0 by rw [c0]; rfl]
    rfl
  · rw [if_neg c0] at hb
    have p0 : 0 < S 1 0 := by omega
    have ph := zs_hv_p (S := S) (S 1 0) p0
    have pm := zs_mu_p (S := S) (S 1 0) p0
    rw [hb, if_neg (show ¬ nI 1 = 0 by decide)]
    have e2 := zk_dearest (K := sr (sr (sr (sr K 0 (N' 0)) 1 (y 1)) 2 (y 2)) 8 (y 8)) (S := S) hy g p0
    have e3 := zk_favourite (K := (sr (sr (sr (sr K 0 (sr (sr (sr (sr K 0 (N' 0)) 1 (y 1)) 2 (y 2)) 8 (y 8) 0)) 1 (sr (sr (sr (sr K 0 (N' 0)) 1 (y 1)) 2 (y 2)) 8 (y 8) 1)) 2 (sr (sr (sr (sr K 0 (N' 0)) 1 (y 1)) 2 (y 2)) 8 (y 8) 2)) 8 (sr (sr (sr (sr K 0 (N' 0)) 1 (y 1)) 2 (y 2)) 8 (y 8) 8))) (S := S) hy g p0
    rw [e2, zn_bs]
    unfold fX9_digest_B200
    rw [if_neg (show ¬ nI 1 = 0 by decide), e3, zn_bs, show (1 : Int32) = nI 1 from rfl, nI_add, nI_add, show zs_hv S (S 1 0) - 1 + 1 = zs_hv S (S 1 0) by omega, show zs_mu S 0 (S 1 0) - 1 + 1 = zs_mu S 0 (S 1 0) by omega]
    obtain ⟨z, z1, z2, z3, z4⟩ := zk_dg217 (K := K) (S := S) (sn := sn) (hc := hc) (len := len) (b1 := b1) (b2 := b2) (N := (sr (sr (sr (sr K 0 (sr (sr (sr (sr K 0 (N' 0)) 1 (y 1)) 2 (y 2)) 8 (y 8) 0)) 1 (sr (sr (sr (sr K 0 (N' 0)) 1 (y 1)) 2 (y 2)) 8 (y 8) 1)) 2 (sr (sr (sr (sr K 0 (N' 0)) 1 (y 1)) 2 (y 2)) 8 (y 8) 2)) 8 (sr (sr (sr (sr K 0 (N' 0)) 1 (y 1)) 2 (y 2)) 8 (y 8) 8))) hy g n04 n08 hl h5 hb1 hb2 ((31 : Int64) * ((31 : Int64) * zd (zd (zd (zd_or2 S (zd_tr S (zd_ks S (zd_tw S (zd_shs S 4349 (S 1 0)))) (S 6 4))) (nI (S 6 2))) (nI (S 6 3))) (nI (S 0 4)) + (nI (zs_hv S (S 1 0))).toInt64)) (nI (zs_mu S 0 (S 1 0)))
    refine ⟨z, z1, z2.trans ?_, z3.trans (n0'.trans n0), z4⟩
    rfl
theorem zk_digest (hK : RK (K 1) S) (g : GX u S) (h99 : S 99 0 = 0) (hu : u + 24 ≤ 200000) (n4 : K 0 4 = nI hc) (n8 : K 0 8 = nI len) (hl : len ≤ 60) (h5 : ∀ i, i < 2 → K 5 i = nI (sn i) ∧ sn i < 2) (hb1 : fJxe99ae_doubleToLongBits_ccdee (if S 6 3 = 0 then FP.dconst0 else FP.ddiv (FP.i2d (nI (S 6 2))) (FP.i2d (nI (S 6 3)))) = some b1) (hb2 : fJxe99ae_doubleToLongBits_ccdee (if zs_us S (S 1 0) = 0 then FP.dconst0 else FP.ddiv (FP.i2d (nI (zs_uw S (S 1 0)))) (FP.i2d (nI (zs_us S (S 1 0))))) = some b2) : ∃ z, fX9_digest K = some z ∧ z.1 = zd_all S hc sn len (K 6) b1 b2 ∧ z.2 0 4 = K 0 4 ∧ z.2 0 8 = K 0 8 ∧ RK (z.2 1) S := by
  have hc12 := g.c12
  have i0 : inb (0 : Int32) 304 = true := by decide
  have t0 : (0 : Int32).toNatClampNeg = 0 := rfl
  unfold fX9_digest
  rw [i0, zn_gd, t0, hK.1]
  by_cases c0 : S 1 0 = 0
  · rw [c0, if_pos (show nI 0 ≤ 0 by decide)]
    obtain ⟨z, z1, z2, z3, z4⟩ := zk_dg19 (K := K) (S := S) (sn := sn) (hc := hc) (len := len) (b1 := b1) (b2 := b2) (N := sr K 0 (upd (K 0) 0 (0 : Int32))) (b := 0) (by rw [if_pos c0]) hK g h99 hu n4 n8 hl h5 hb1 hb2
    refine ⟨z, z1, z2, ?_, ?_, z4⟩ <;> rw [z3] <;> rfl
  · rw [if_neg (show ¬ nI (S 1 0) ≤ 0 from nI_ge (show 0 < S 1 0 by omega) (by omega))]
    obtain ⟨z, z1, z2, z3, z4⟩ := zk_dg19 (K := K) (S := S) (sn := sn) (hc := hc) (len := len) (b1 := b1) (b2 := b2) (N := sr K 0 (upd (K 0) 0 (0 : Int32))) (b := 1) (by rw [if_neg c0]) hK g h99 hu n4 n8 hl h5 hb1 hb2
    refine ⟨z, z1, z2, ?_, ?_, z4⟩ <;> rw [z3] <;> rfl
end
theorem zs_uw_lt {S : SM} {u : Nat} (g : GX u S) : zs_uw S (S 1 0) < 2 ^ 31 := by
  have hc := g.c12
  have h := fb_sm_bound (f := fun f => zs_way (S 3 f) * S 4 f) (c := 21 * 200000 ) (n := S 1 0) (fun f hf => by
    have b := zs_way_le (p := S 3 f) (g.1.2.2.1 f hf).2.2.1
    have c := Nat.le_trans (g.2.2.2.2.2.2.2.1 f hf) g.2.2.2.2.2.2.2.2.2.2
    exact Nat.mul_le_mul b c)
  have h2 : zs_uw S (S 1 0) = fb_sm (fun f => zs_way (S 3 f) * S 4 f) (S 1 0) := rfl
  have h3 := Nat.mul_le_mul_right (21 * 200000) hc
  omega
theorem zt_digest : St_digest ZI := by
  intro n C M K hn h gg hgg
  obtain ⟨S, T, hc, ⟨hX, hK, g, h99⟩, hH, hB⟩ := id h
  have gn := g.nx hn
  obtain ⟨h1, h2, h3, h4, h5⟩ := id hH
  obtain ⟨len, l1, l2, l3, l4⟩ := id hB
  have b3 : S 6 3 ≤ 200000 := Nat.le_trans g.2.2.2.2.2.2.2.2.2.1 g.2.2.2.2.2.2.2.2.2.2
  have b2 : S 6 2 ≤ 8000000 := Nat.le_trans g.2.2.2.2.2.2.2.2.1 (by have := g.2.2.2.2.2.2.2.2.2.2; omega)
  obtain ⟨y1, p1, q1⟩ := zb_all (a := S 6 2) (b := S 6 3) (by omega) (by omega)
  obtain ⟨y2, p2, q2⟩ := zb_all (a := zs_uw S (S 1 0)) (b := zs_us S (S 1 0)) (zs_uw_lt g) (zs_us_lt g)
  have k5 : ∀ i, i < 2 → K 5 i = nI (if (gg i).isNone = true then 0 else 1) ∧ (if (gg i).isNone = true then 0 else 1) < 2 := fun i hi => by
    rcases h5 i hi with ⟨a, b⟩ | ⟨N, a, b, -⟩
    · have z : (gg i).isNone = true := (hgg i hi).mpr (by rw [a]; rfl)
      rw [if_pos z]
      exact ⟨b, by omega⟩
    · have z : ¬ (gg i).isNone = true := fun z => by
        have := (hgg i hi).mp z
        rw [a] at this
        cases this
      rw [if_neg z]
      exact ⟨b, by omega⟩
  obtain ⟨z, e1, e2⟩ := zx_digest (M := M) (S := S) (u := 192 * n) (hc := hc) (len := len) (sn := fun i => if (gg i).isNone = true then 0 else 1) (gg := gg) (b1 := y1) (b2 := y2) hX g h99 (by omega) h1 p1 p2 (fun i _ => rfl) l2 l1
  obtain ⟨y, e3, e4, e5, e6, e7⟩ := zk_digest (K := K) (S := S) (u := 192 * n) (hc := hc) (len := len) (sn := fun i => if (gg i).isNone = true then 0 else 1) (b1 := y1) (b2 := y2) hK g h99 (by omega) h2 l3 l1 k5 q1 q2
  have ee : zd_all S hc (fun i => if (gg i).isNone = true then 0 else 1) len (M 37) y1 y2 = zd_all S hc (fun i => if (gg i).isNone = true then 0 else 1) len (K 6) y1 y2 := by
    unfold zd_all zd_tx
    refine zs_it_c (fun i x hi => ?_)
    obtain ⟨c, -, -, a, b⟩ := l4 i hi
    show zd x (M 37 i) = zd x (K 6 i)
    rw [a, b]
  exact ⟨z, y, e1, e3, e2.trans (ee.trans e4.symm), ZI.gen hn hH hB (hX.of rfl rfl rfl rfl rfl rfl rfl rfl rfl rfl rfl rfl rfl rfl rfl ) e7 gn h99 rfl rfl rfl e5 e6 rfl rfl rfl rfl⟩
