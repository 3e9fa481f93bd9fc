set_option maxHeartbeats 400000
/-! an order is served: the class's end; all orders -/
noncomputable def zs_set (S : SM) (r : Nat) : Nat := Classical.epsilon (fun v => zs_best S r v)
theorem zs_set_of {S : SM} {r v : Nat} (h : zs_best S r v) : zs_set S r = v := zs_best_u (Classical.epsilon_spec (p := fun v => zs_best S r v) ⟨v, h⟩) h
noncomputable def zo_srv (S : SM) (r : Nat) : SM := zo_serve S r (zs_set S r)
noncomputable def zo_cost (S : SM) (r : Nat) : Nat := zo_loop (zo_on S) r (zs_set S r) (S 1 0) 6 2 - S 6 2
theorem zo_put_62 (S : SM) (p : Nat) : zo_put S p 6 2 = S 6 2 + zs_way p := rfl
theorem zo_bring_62 (S : SM) (f : Nat) : zo_bring S f 6 2 = S 6 2 + zs_to S f := rfl
theorem zo_step_62 (r set f : Nat) (X : SM) : zo_step r set f X 6 2 = X 6 2 + (if set.testBit f = true then zs_to X f + zs_way (zs_sp (zo_t X f r)) else 0) := by
  unfold zo_step
  split
  · rw [zo_put_62]
    unfold zo_t
    rw [zo_give_6, zo_bring_62, Nat.add_assoc]
  · rfl
theorem zo_loop_62 (S : SM) (r set : Nat) : ∀ n, S 6 2 ≤ zo_loop S r set n 6 2
  | 0 => Nat.le_refl _
  | n + 1 => by
    have h := zo_loop_62 S r set n
    show S 6 2 ≤ zo_step r set n (zo_loop S r set n) 6 2
    rw [zo_step_62]
    omega
section
variable {M K : Mem} {S : SM} {u : Nat}
theorem zs_best_lt {r v : Nat} (g : GX u S) (h : zs_best S r v) : v < 2 ^ 12 := Nat.lt_of_lt_of_le h.1 (zn_full12 g.c12)
theorem zx_serveOne (h : RX M S) (g : GX u S) (h99 : S 99 0 = 0) (hw : S 1 1 = 0) {r : Nat} (hr : r < S 14 0) (hcan : zs_can S r = true) (hu : u + 24 ≤ 200000) : ∃ z, fX6_serveOne M (nI r) = some (nI (zo_cost S r), z) ∧ RX z (zo_srv S r) ∧ z = sr (sr (sr (sr (sr (sr (sr (sr (sr (sr (sr M 0 (z 0)) 1 (z 1)) 3 (z 3)) 4 (z 4)) 5 (z 5)) 6 (z 6)) 7 (z 7)) 8 (z 8)) 13 (z 13)) 14 (z 14)) 15 (z 15) := by
  obtain ⟨v, e1, hb⟩ := zx_choice h g hr hcan
  have ev := zs_set_of hb
  have e2 := h.2.1.2.2.1
  obtain ⟨a1, a2, a3, a4, a5, a6, a7⟩ := zo_loop_r (zo_on S) r v hw (S 1 0)
  have hc := g.c12
  have h8 := g.o8
  unfold fX6_serveOne
  rw [e1, zn_bs, e2, show (0 : Int32) = nI 0 from rfl]
  refine zx_serve_L (S := zo_on S) (set := v) (b := S 6 2) g.on rfl hw hr (zs_best_lt g hb) hu (fun N hN => ?_) (S 1 0) 0 5000 M (Nat.zero_add _) (by omega) ?_
  · have h14 : zo_loop (zo_on S) r v (zo_on S 1 0) 14 0 = S 14 0 := by rw [show zo_on S 1 0 = S 1 0 from rfl, a3]; rfl
    refine zn_bk1 (zx_remove (S := zo_loop (zo_on S) r v (zo_on S 1 0)) hN.2.1.2.2.2.2.2.2 hN.r15 (by omega) (by omega)) (fun z hz => ?_)
    obtain ⟨hz0, hz1⟩ := hz
    have e6 : N 6 2 - nI (S 6 2) = nI (zo_cost S r) := by
      unfold zo_cost
      rw [ev, show N 6 2 = nI (zo_loop (zo_on S) r v (S 1 0) 6 2) from hN.2.1.2.2.1, pk_sub (show S 6 2 ≤ _ from zo_loop_62 (zo_on S) r v (S 1 0))]
    rw [e6]
    refine ⟨_, rfl, ?_, rfl⟩
    unfold zo_srv
    rw [ev]
    refine ⟨⟨hN.c, hN.w, hN.r2, hN.r3, hN.r4, hN.r5⟩, ⟨hN.2.1.1, hN.2.1.2.1, hN.2.1.2.2.1, hN.2.1.2.2.2.1, hN.2.1.2.2.2.2.1, ?_, hz0⟩, hN.r7, hN.r8, hN.r10, hN.r11, hN.r12, hN.r13, hz1⟩
    show N 0 4 + (1 : Int32) = nI (zo_loop (zo_on S) r v (S 1 0) 0 4 + 1)
    rw [show N 0 4 = nI (zo_loop (zo_on S) r v (S 1 0) 0 4) from hN.2.1.2.2.2.2.2.1]
    exact nI_1 _
  · exact h.of rfl rfl rfl rfl rfl rfl rfl rfl rfl rfl rfl rfl rfl rfl rfl
/-- the first order that can be served, and 1; 0 if there is none -/
def zs_fs (S : SM) : Nat := bif zs_any (zs_can S) (S 14 0) 0 then zs_first (zs_can S) (S 14 0) 0 + 1 else 0
theorem zs_fs_le (S : SM) : zs_fs S ≤ S 14 0 := by
  unfold zs_fs
  cases e : zs_any (zs_can S) (S 14 0) 0
  · exact Nat.zero_le _
  · have := (zs_first_s _ _ _ e).2.1
    show zs_first _ _ _ + 1 ≤ _
    omega
theorem zs_fs_can {S : SM} (h : 0 < zs_fs S) : zs_can S (zs_fs S - 1) = true := by
  unfold zs_fs at h ⊢
  cases e : zs_any (zs_can S) (S 14 0) 0
  · rw [e] at h
    exact absurd h (Nat.lt_irrefl 0)
  · exact (zs_first_s _ _ _ e).2.2.1
theorem zx_firstServable_L (h : RX M S) (g : GX u S) (k1 : Int32 → Option Int32) (k2 : Unit → Option Int32) : ∀ d r n, r + d = S 14 0 → d < n → fX6_firstServable_L2 M n k1 k2 (nI r) = bif zs_any (zs_can S) d r then k1 (nI (zs_first (zs_can S) d r)) else k2 () := by
  have h8 := g.o8
  have h14 := h.2.1.2.2.2.2.2.2
  intro d
  induction d with
  | zero =>
    intro r n hr_ hn
    obtain ⟨m, rfl⟩ : ∃ m, n = m + 1 := ⟨n - 1, by omega⟩
    have c : S 14 0 ≤ r := by omega
    have ef : r = S 14 0 := by omega
    rw [fX6_firstServable_L2]
    simp (disch := omega) only [li0, li1, li2, li3, li4, li5, li6, li7, li8, li9, li10, li12, li13, li14, li15, li19, li20, li31, li33, li40, li42, li44, li48, li57, li60, li99, li100, li126, li150, li176, li177, li187, li197, li207, li208, li223, li304, li608, li1520, li1824, nI_add, pk_mul, nI_clamp, nI_leI, nI_ltI, nI_eq, zn_inb, zn_gd, zn_bs, zn_isb, not_true_eq_false, not_false_eq_true, ↓reduceIte, pk_div, pk_sub, zn_rem20, zn_rem2, zn_m1, zn_eqw, zn_weq, zn_weq2, zn_wlt0, zn_wltn, zn_win, zn_wcl, zn_wadd, Nat.not_lt_zero, Nat.one_ne_zero, Nat.zero_ne_one, Nat.le_refl, Nat.zero_le, zn_sel_r, zn_sel_l, h14, c]
    try rw [ef]
    try rfl
  | succ d ih =>
    intro r n hr_ hn
    obtain ⟨m, rfl⟩ : ∃ m, n = m + 1 := ⟨n - 1, by omega⟩
    have c : ¬ S 14 0 ≤ r := by omega
    have ih1 := ih (r + 1) m (by omega) (by omega)
    have e := zx_isServable h g (r := r) (by omega)
    rw [zs_any, zs_first, fX6_firstServable_L2]
    cases q : zs_can S r
    · rw [q] at e
      simp (disch := omega) only [li0, li1, li2, li3, li4, li5, li6, li7, li8, li9, li10, li12, li13, li14, li15, li19, li20, li31, li33, li40, li42, li44, li48, li57, li60, li99, li100, li126, li150, li176, li177, li187, li197, li207, li208, li223, li304, li608, li1520, li1824, nI_add, pk_mul, nI_clamp, nI_leI, nI_ltI, nI_eq, zn_inb, zn_gd, zn_bs, zn_isb, not_true_eq_false, not_false_eq_true, ↓reduceIte, pk_div, pk_sub, zn_rem20, zn_rem2, zn_m1, zn_eqw, zn_weq, zn_weq2, zn_wlt0, zn_wltn, zn_win, zn_wcl, zn_wadd, Nat.not_lt_zero, Nat.one_ne_zero, Nat.zero_ne_one, Nat.le_refl, Nat.zero_le, zn_sel_r, zn_sel_l, h14, c, e, cond_false, Bool.false_or]
      exact ih1
    · rw [q] at e
      simp (disch := omega) only [li0, li1, li2, li3, li4, li5, li6, li7, li8, li9, li10, li12, li13, li14, li15, li19, li20, li31, li33, li40, li42, li44, li48, li57, li60, li99, li100, li126, li150, li176, li177, li187, li197, li207, li208, li223, li304, li608, li1520, li1824, nI_add, pk_mul, nI_clamp, nI_leI, nI_ltI, nI_eq, zn_inb, zn_gd, zn_bs, zn_isb, not_true_eq_false, not_false_eq_true, ↓reduceIte, pk_div, pk_sub, zn_rem20, zn_rem2, zn_m1, zn_eqw, zn_weq, zn_weq2, zn_wlt0, zn_wltn, zn_win, zn_wcl, zn_wadd, Nat.not_lt_zero, Nat.one_ne_zero, Nat.zero_ne_one, Nat.le_refl, Nat.zero_le, zn_sel_r, zn_sel_l, h14, c, e, cond_true, Bool.true_or]
theorem zx_firstServable (h : RX M S) (g : GX u S) : fX6_firstServable M = some (wI (zs_fs S)) := by
  unfold fX6_firstServable zs_fs
  refine (zx_firstServable_L h g _ _ (S 14 0) 0 5000 (by omega) (by have := g.o8; omega)).trans ?_
  cases zs_any (zs_can S) (S 14 0) 0
  · rfl
  · show some (nI _) = some (wI (_ + 1))
    rw [wI_s]
noncomputable def zo_all : Nat → SM → SM × Nat
  | 0, S => (S, 0)
  | n + 1, S => if zs_fs S = 0 then (S, 0) else ((zo_all n (zo_srv S (zs_fs S - 1))).1, zo_cost S (zs_fs S - 1) + (zo_all n (zo_srv S (zs_fs S - 1))).2)
theorem zo_srv_r (S : SM) (r : Nat) (hw : S 1 1 = 0) : zo_srv S r 1 0 = S 1 0 ∧ zo_srv S r 1 1 = 0 ∧ zo_srv S r 14 0 = S 14 0 - 1 ∧ zo_srv S r 99 0 = 0 ∧ zo_srv S r 6 1 = S 6 1 ∧ zo_srv S r 0 4 = S 0 4 + 1 := zo_serve_r S r _ hw
theorem zx_serveEach_L : ∀ d (S : SM) (u t n a : Nat) (N : Mem), t + d = 8 → d < n → RX (sr (sr (sr (sr (sr (sr (sr (sr (sr (sr (sr M 0 (N 0)) 1 (N 1)) 3 (N 3)) 4 (N 4)) 5 (N 5)) 6 (N 6)) 7 (N 7)) 8 (N 8)) 13 (N 13)) 14 (N 14)) 15 (N 15)) S → GX u S → S 99 0 = 0 → S 1 1 = 0 → u + 24 * d ≤ 200000 → ∃ z, fX6_serveEach_L4 M n (fun (N : Mem) (l1 : Int32) => some (l1, (sr (sr (sr (sr (sr (sr (sr (sr (sr (sr (sr M 0 (N 0)) 1 (N 1)) 3 (N 3)) 4 (N 4)) 5 (N 5)) 6 (N 6)) 7 (N 7)) 8 (N 8)) 13 (N 13)) 14 (N 14)) 15 (N 15)))) (fun (N : Mem) (l1 : Int32) => some (l1, (sr (sr (sr (sr (sr (sr (sr (sr (sr (sr (sr M 0 (N 0)) 1 (N 1)) 3 (N 3)) 4 (N 4)) 5 (N 5)) 6 (N 6)) 7 (N 7)) 8 (N 8)) 13 (N 13)) 14 (N 14)) 15 (N 15)))) N (nI a) (nI t) = some (nI (a + (zo_all d S).2), z) ∧ RX z (zo_all d S).1 ∧ z = sr (sr (sr (sr (sr (sr (sr (sr (sr (sr (sr M 0 (z 0)) 1 (z 1)) 3 (z 3)) 4 (z 4)) 5 (z 5)) 6 (z 6)) 7 (z 7)) 8 (z 8)) 13 (z 13)) 14 (z 14)) 15 (z 15) := by
  intro d
  induction d with
  | zero =>
    intro S u t n a N ht hn h g h99 hw hu
    obtain ⟨m, rfl⟩ : ∃ m, n = m + 1 := ⟨n - 1, by omega⟩
    have c : 8 ≤ t := by omega
    rw [fX6_serveEach_L4]
    simp (disch := omega) only [li0, li1, li2, li3, li4, li5, li6, li7, li8, li9, li10, li12, li13, li14, li15, li19, li20, li31, li33, li40, li42, li44, li48, li57, li60, li99, li100, li126, li150, li176, li177, li187, li197, li207, li208, li223, li304, li608, li1520, li1824, nI_add, pk_mul, nI_clamp, nI_leI, nI_ltI, nI_eq, zn_inb, zn_gd, zn_bs, zn_isb, not_true_eq_false, not_false_eq_true, ↓reduceIte, pk_div, pk_sub, zn_rem20, zn_rem2, zn_m1, zn_eqw, zn_weq, zn_weq2, zn_wlt0, zn_wltn, zn_win, zn_wcl, zn_wadd, Nat.not_lt_zero, Nat.one_ne_zero, Nat.zero_ne_one, Nat.le_refl, Nat.zero_le, zn_sel_r, zn_sel_l, c]
    refine ⟨_, rfl, ?_, rfl⟩
    exact h.of rfl rfl rfl rfl rfl rfl rfl rfl rfl rfl rfl rfl rfl rfl rfl
  | succ d ih =>
    intro S u t n a N ht hn h g h99 hw hu
    obtain ⟨m, rfl⟩ : ∃ m, n = m + 1 := ⟨n - 1, by omega⟩
    have c : ¬ 8 ≤ t := by omega
    have e := zx_firstServable h g
    have fl := zs_fs_le S
    have h8 := g.o8
    rw [fX6_serveEach_L4, zo_all]
    by_cases q : zs_fs S = 0
    · rw [if_pos q]
      simp (disch := omega) only [li0, li1, li2, li3, li4, li5, li6, li7, li8, li9, li10, li12, li13, li14, li15, li19, li20, li31, li33, li40, li42, li44, li48, li57, li60, li99, li100, li126, li150, li176, li177, li187, li197, li207, li208, li223, li304, li608, li1520, li1824, nI_add, pk_mul, nI_clamp, nI_leI, nI_ltI, nI_eq, zn_inb, zn_gd, zn_bs, zn_isb, not_true_eq_false, not_false_eq_true, ↓reduceIte, pk_div, pk_sub, zn_rem20, zn_rem2, zn_m1, zn_eqw, zn_weq, zn_weq2, zn_wlt0, zn_wltn, zn_win, zn_wcl, zn_wadd, Nat.not_lt_zero, Nat.one_ne_zero, Nat.zero_ne_one, Nat.le_refl, Nat.zero_le, zn_sel_r, zn_sel_l, c, e, eq_true q]
      refine ⟨_, rfl, ?_, rfl⟩
      exact h.of rfl rfl rfl rfl rfl rfl rfl rfl rfl rfl rfl rfl rfl rfl rfl
    · rw [if_neg q]
      have q0 : 0 < zs_fs S := by omega
      rw [wI_p q0] at e
      have q2 : ¬ 0 = zs_fs S - 1 + 1 := by omega
      simp (disch := omega) only [li0, li1, li2, li3, li4, li5, li6, li7, li8, li9, li10, li12, li13, li14, li15, li19, li20, li31, li33, li40, li42, li44, li48, li57, li60, li99, li100, li126, li150, li176, li177, li187, li197, li207, li208, li223, li304, li608, li1520, li1824, nI_add, pk_mul, nI_clamp, nI_leI, nI_ltI, nI_eq, zn_inb, zn_gd, zn_bs, zn_isb, not_true_eq_false, not_false_eq_true, ↓reduceIte, pk_div, pk_sub, zn_rem20, zn_rem2, zn_m1, zn_eqw, zn_weq, zn_weq2, zn_wlt0, zn_wltn, zn_win, zn_wcl, zn_wadd, Nat.not_lt_zero, Nat.one_ne_zero, Nat.zero_ne_one, Nat.le_refl, Nat.zero_le, zn_sel_r, zn_sel_l, c, e, q2]
      refine zn_bk2 (zx_serveOne h g h99 hw (r := zs_fs S - 1) (by omega) (zs_fs_can q0) (by omega)) (fun z hz => ?_)
      obtain ⟨h1, ez⟩ := hz
      obtain ⟨a1, a2, a3, a4, a5, a6⟩ := zo_srv_r S (zs_fs S - 1) hw
      have g1 : GX (u + 24) (zo_srv S (zs_fs S - 1)) := g.serve h99 hw (by omega) (by omega)
      rw [show a + (zo_cost S (zs_fs S - 1) + (zo_all d (zo_srv S (zs_fs S - 1))).2) = (a + zo_cost S (zs_fs S - 1)) + (zo_all d (zo_srv S (zs_fs S - 1))).2 by omega]
      simp only [nI_add]
      refine ih (zo_srv S (zs_fs S - 1)) (u + 24) (t + 1) m (a + zo_cost S (zs_fs S - 1)) _ (by omega) (by omega) ?_ g1 a4 a2 (by omega)
      exact h1.of rfl rfl (congrFun ez 2).symm rfl rfl rfl rfl rfl rfl (congrFun ez 10).symm (congrFun ez 11).symm (congrFun ez 12).symm rfl rfl rfl
theorem zx_serveEach (h : RX M S) (g : GX u S) (h99 : S 99 0 = 0) (hw : S 1 1 = 0) (hu : u + 192 ≤ 200000) : ∃ z, fX6_serveEach M = some (nI (zo_all 8 S).2, z) ∧ RX z (zo_all 8 S).1 ∧ z = sr (sr (sr (sr (sr (sr (sr (sr (sr (sr (sr M 0 (z 0)) 1 (z 1)) 3 (z 3)) 4 (z 4)) 5 (z 5)) 6 (z 6)) 7 (z 7)) 8 (z 8)) 13 (z 13)) 14 (z 14)) 15 (z 15) := by
  have e := zx_serveEach_L (M := M) 8 S u 0 5000 0 M (by omega) (by omega) (h.of rfl rfl rfl rfl rfl rfl rfl rfl rfl rfl rfl rfl rfl rfl rfl) g h99 hw (by omega)
  rw [Nat.zero_add] at e
  unfold fX6_serveEach
  exact e
theorem zo_all_r (hw : S 1 1 = 0) (h99 : S 99 0 = 0) (g : GX u S) : ∀ n, u + 24 * n ≤ 200000 → GX (u + 24 * n) (zo_all n S).1 ∧ (zo_all n S).1 99 0 = 0 ∧ (zo_all n S).1 1 1 = 0 := by
  intro n
  induction n generalizing S u with
  | zero =>
    intro _
    exact ⟨g, h99, hw⟩
  | succ n ih =>
    intro hu
    rw [zo_all]
    by_cases q : zs_fs S = 0
    · rw [if_pos q]
      exact ⟨g.mono (by omega) hu, h99, hw⟩
    · rw [if_neg q]
      have fl := zs_fs_le S
      obtain ⟨a1, a2, a3, a4, a5, a6⟩ := zo_srv_r S (zs_fs S - 1) hw
      have g1 : GX (u + 24) (zo_srv S (zs_fs S - 1)) := g.serve h99 hw (by omega) (by omega)
      have := ih a2 a4 g1 (by omega)
      rwa [show u + 24 + 24 * n = u + 24 * (n + 1) by omega] at this
end

