set_option maxHeartbeats 400000
/-! an order is served: the class -/
/-- the shelf's turn, if it is in the set -/
def zo_t (X : SM) (f r : Nat) : SM := zo_give (zo_bring X f) f r 10
def zo_step (r set f : Nat) (X : SM) : SM := if set.testBit f = true then zo_put (zo_t X f r) (zs_sp (zo_t X f r)) else X
def zo_loop (S : SM) (r set : Nat) : Nat → SM := zs_it (fun f X => zo_step r set f X) S
/-- during the serving the order may want nothing -/
def zo_on (S : SM) : SM := sw S 99 (fun _ => 1)
def zo_off (S : SM) : SM := sw S 99 (fun _ => 0)
def zo_serve (S : SM) (r set : Nat) : SM := zo_off (sw (zo_drop (zo_loop (zo_on S) r set (S 1 0)) r) 0 (uw (zo_loop (zo_on S) r set (S 1 0) 0) 4 (zo_loop (zo_on S) r set (S 1 0) 0 4 + 1)))
theorem zo_put_1 (S : SM) (p : Nat) : zo_put S p 1 = uw (S 1) 1 0 := rfl
theorem zo_put_14 (S : SM) (p : Nat) : zo_put S p 14 = S 14 := rfl
theorem zo_put_99 (S : SM) (p : Nat) : zo_put S p 99 = S 99 := rfl
theorem zo_put_61 (S : SM) (p : Nat) : zo_put S p 6 1 = S 6 1 := rfl
theorem zo_put_0 (S : SM) (p : Nat) : zo_put S p 0 = S 0 := rfl
theorem zo_put_15 (S : SM) (p : Nat) : zo_put S p 15 = S 15 := rfl
theorem zo_step_r (r set f : Nat) (X : SM) (hX : X 1 1 = 0) : zo_step r set f X 1 0 = X 1 0 ∧ zo_step r set f X 1 1 = 0 ∧ zo_step r set f X 14 = X 14 ∧ zo_step r set f X 99 = X 99 ∧ zo_step r set f X 6 1 = X 6 1 ∧ zo_step r set f X 0 = X 0 ∧ (∀ i, i < r * 10 ∨ r * 10 + 10 ≤ i → zo_step r set f X 15 i = X 15 i) := by
  unfold zo_step
  by_cases q : set.testBit f = true
  · rw [if_pos q, zo_put_1, zo_put_14, zo_put_99, zo_put_61, zo_put_0, zo_put_15]
    unfold zo_t
    rw [zo_give_1, zo_give_14, zo_give_99, zo_give_6, zo_give_0]
    exact ⟨rfl, rfl, rfl, rfl, rfl, rfl, fun i hi => zo_give_15 (zo_bring X f) f r hi 10 (Nat.le_refl _)⟩
  · rw [if_neg q]
    exact ⟨rfl, hX, rfl, rfl, rfl, rfl, fun _ _ => rfl⟩
theorem zo_t_w (X : SM) (f r : Nat) : zo_t X f r 1 1 = f + 1 ∧ zo_t X f r 1 0 = X 1 0 := by
  unfold zo_t
  rw [zo_give_1]
  exact ⟨rfl, rfl⟩
theorem GX.t {X : SM} {u f r : Nat} (g : GX u X) (h99 : X 99 0 = 1) (hf : f < X 1 0) (hu : u < 200000) : GX (u + 1) (zo_t X f r) := (g.bring hf hu).give h99 10
theorem GX.step {X : SM} {u f r set : Nat} (g : GX u X) (h99 : X 99 0 = 1) (hf : f < X 1 0) (hu : u + 2 ≤ 200000) : GX (u + 2) (zo_step r set f X) := by
  unfold zo_step
  split
  · have g1 := g.t (r := r) h99 hf (by omega)
    have e := zo_t_w X f r
    have fit := zs_sp_fit g1.1 (by omega)
    exact g1.put (by omega) fit.1 fit.2 (by omega)
  · obtain ⟨a, b1, b2, b3, b4, b5, b6, b10, b11, b12, b13⟩ := id g
    exact ⟨a, b1, b2, b3, b4, b5, b6, fun i hi => by have := b10 i hi; omega, by omega, by omega, by omega⟩
theorem GX.mono {X : SM} {u v : Nat} (g : GX u X) (h : u ≤ v) (hv : v ≤ 200000) : GX v X := by
  obtain ⟨a, b1, b2, b3, b4, b5, b6, b10, b11, b12, b13⟩ := id g
  exact ⟨a, b1, b2, b3, b4, b5, b6, fun i hi => by have := b10 i hi; omega, by omega, by omega, hv⟩
theorem zo_loop_r (S : SM) (r set : Nat) (hw : S 1 1 = 0) : ∀ n, zo_loop S r set n 1 0 = S 1 0 ∧ zo_loop S r set n 1 1 = 0 ∧ zo_loop S r set n 14 = S 14 ∧ zo_loop S r set n 99 = S 99 ∧ zo_loop S r set n 6 1 = S 6 1 ∧ zo_loop S r set n 0 = S 0 ∧ (∀ i, i < r * 10 ∨ r * 10 + 10 ≤ i → zo_loop S r set n 15 i = S 15 i)
  | 0 => ⟨rfl, hw, rfl, rfl, rfl, rfl, fun _ _ => rfl⟩
  | n + 1 => by
    obtain ⟨a1, a2, a3, a4, a5, a6, a7⟩ := zo_loop_r S r set hw n
    obtain ⟨b1, b2, b3, b4, b5, b6, b7⟩ := zo_step_r r set n (zo_loop S r set n) a2
    exact ⟨b1.trans a1, b2, b3.trans a3, b4.trans a4, b5.trans a5, b6.trans a6, fun i hi => (b7 i hi).trans (a7 i hi)⟩
theorem GX.loop {S : SM} {u r set : Nat} (g : GX u S) (h99 : S 99 0 = 1) (hw : S 1 1 = 0) (hu : u + 24 ≤ 200000) : ∀ n, n ≤ S 1 0 → GX (u + 2 * n) (zo_loop S r set n)
  | 0, _ => g
  | n + 1, h => by
    have hc := g.c12
    obtain ⟨a1, a2, a3, a4, a5, a6, a7⟩ := zo_loop_r S r set hw n
    have g1 := GX.loop (r := r) (set := set) g h99 hw hu n (by omega)
    exact g1.step (by rw [a4]; exact h99) (by rw [a1]; exact h) (by omega)
theorem GX.on {S : SM} {u : Nat} (g : GX u S) : GX u (zo_on S) := by
  obtain ⟨a, b1, b2, b3, b4, b5, b6, b10, b11, b12, b13⟩ := id g
  refine ⟨a, b1, b2, b3, b4, fun h => ?_, b6, b10, b11, b12, b13⟩
  have : (1 : Nat) = 0 := h
  omega
theorem zo_serve_r (S : SM) (r set : Nat) (hw : S 1 1 = 0) : zo_serve S r set 1 0 = S 1 0 ∧ zo_serve S r set 1 1 = 0 ∧ zo_serve S r set 14 0 = S 14 0 - 1 ∧ zo_serve S r set 99 0 = 0 ∧ zo_serve S r set 6 1 = S 6 1 ∧ zo_serve S r set 0 4 = S 0 4 + 1 := by
  obtain ⟨a1, a2, a3, a4, a5, a6, a7⟩ := zo_loop_r (zo_on S) r set hw (S 1 0)
  refine ⟨a1, a2, ?_, rfl, a5, ?_⟩
  · show uw (zo_loop (zo_on S) r set (S 1 0) 14) 0 (zo_loop (zo_on S) r set (S 1 0) 14 0 - 1) 0 = _
    rw [uw_s, a3]
    rfl
  · show uw (zo_loop (zo_on S) r set (S 1 0) 0) 4 (zo_loop (zo_on S) r set (S 1 0) 0 4 + 1) 4 = _
    rw [uw_s, a6]
    rfl
theorem GX.serve {S : SM} {u r set : Nat} (g : GX u S) (h99 : S 99 0 = 0) (hw : S 1 1 = 0) (hr : r < S 14 0) (hu : u + 24 ≤ 200000) : GX (u + 24) (zo_serve S r set) := by
  have hc := g.c12
  obtain ⟨a1, a2, a3, a4, a5, a6, a7⟩ := zo_loop_r (zo_on S) r set hw (S 1 0)
  have g1 := (g.on.loop (r := r) (set := set) rfl hw hu (S 1 0) (Nat.le_refl _)).mono (v := u + 24) (by omega) hu
  have w1 := g.w1 h99
  have g14 : ∀ i, zo_loop (zo_on S) r set (S 1 0) 14 i = S 14 i := fun i => by rw [a3]; rfl
  obtain ⟨b, b1, b2, b3, b4, b5, b6, b10, b11, b12, b13⟩ := id g1
  have c14 : uw (zo_loop (zo_on S) r set (S 1 0) 14) 0 (zo_loop (zo_on S) r set (S 1 0) 14 0 - 1) 0 = S 14 0 - 1 := by rw [uw_s, g14]
  have r15 : ∀ i, zo_drop (zo_loop (zo_on S) r set (S 1 0)) r 15 i = if r * 10 ≤ i ∧ i < (S 14 0 - 1) * 10 then zo_loop (zo_on S) r set (S 1 0) 15 (i + 10) else zo_loop (zo_on S) r set (S 1 0) 15 i := fun i => by
    show (if r * 10 ≤ i ∧ i < (zo_loop (zo_on S) r set (S 1 0) 14 0 - 1) * 10 then _ else _) = _
    rw [g14]
  refine ⟨b, b1, b2, ?_, ?_, ?_, b6, b10, b11, b12, b13⟩
  · show uw (zo_loop (zo_on S) r set (S 1 0) 14) 0 (zo_loop (zo_on S) r set (S 1 0) 14 0 - 1) 0 ≤ 8
    have := g.o8
    omega
  · intro q k hq hk
    have hq2 : q < S 14 0 - 1 := by rw [← c14]; exact hq
    show zo_drop (zo_loop (zo_on S) r set (S 1 0)) r 15 (q * 10 + k) ≤ 20
    rw [r15]
    split
    · have := b4 (q + 1) k (by rw [g14]; omega) hk
      rwa [show (q + 1) * 10 + k = q * 10 + k + 10 by omega] at this
    · exact b4 q k (by rw [g14]; omega) hk
  · intro _ q hq
    have hq2 : q < S 14 0 - 1 := by rw [← c14]; exact hq
    by_cases e : q < r
    · obtain ⟨k, hk, h1⟩ := w1 q (by omega)
      refine ⟨k, hk, ?_⟩
      show 1 ≤ zo_drop (zo_loop (zo_on S) r set (S 1 0)) r 15 (q * 10 + k)
      rw [r15, if_neg (by omega), a7 _ (by omega)]
      exact h1
    · obtain ⟨k, hk, h1⟩ := w1 (q + 1) (by omega)
      refine ⟨k, hk, ?_⟩
      show 1 ≤ zo_drop (zo_loop (zo_on S) r set (S 1 0)) r 15 (q * 10 + k)
      rw [r15, if_pos (by omega), a7 _ (by omega), show q * 10 + k + 10 = (q + 1) * 10 + k by omega]
      exact h1
section
variable {M : Mem} {S : SM} {u : Nat}
theorem zx_serve_L {r set b : Nat} (g : GX u S) (h99 : S 99 0 = 1) (hw : S 1 1 = 0) (hr : r < S 14 0) (hs : set < 2 ^ 12) (hu : u + 24 ≤ 200000) {kx : Mem → Int32 → Int32 → Option (Int32 × Mem)} {v : Int32} {Q : Mem → Prop} (hk : ∀ N, RX (sr (sr (sr (sr (sr (sr (sr (sr (sr (sr (sr M 0 (N 0)) 1 (N 1)) 3 (N 3)) 4 (N 4)) 5 (N 5)) 6 (N 6)) 7 (N 7)) 8 (N 8)) 13 (N 13)) 14 (N 14)) 15 (N 15)) (zo_loop S r set (S 1 0)) → ∃ z, kx N (nI r) (nI b) = some (v, z) ∧ Q z) : ∀ d f n N, f + d = S 1 0 → d < n → RX (sr (sr (sr (sr (sr (sr (sr (sr (sr (sr (sr M 0 (N 0)) 1 (N 1)) 3 (N 3)) 4 (N 4)) 5 (N 5)) 6 (N 6)) 7 (N 7)) 8 (N 8)) 13 (N 13)) 14 (N 14)) 15 (N 15)) (zo_loop S r set f) → ∃ z, fX6_serveOne_L17 M n kx N (nI r) (nI b) (nI set) (nI f) = some (v, z) ∧ Q z := by
  have hc := g.c12
  intro d
  induction d with
  | zero =>
    intro f n N hf hn h
    obtain ⟨m, rfl⟩ : ∃ m, n = m + 1 := ⟨n - 1, by omega⟩
    have c : S 1 0 ≤ f := by omega
    have e0 : N 1 0 = nI (S 1 0) := h.c.trans (congrArg nI (zo_loop_r S r set hw f).1)
    rw [fX6_serveOne_L17]
    simp (disch := omega) only [li0, li1, li2, li3, li4, li5, li6, li7, li8, li9, li10, li12, li13, li14, li15, li19, li20, li31, li33, li40, li42, li44, li48, li57, li60, li99, li100, li126, li150, li176, li177, li187, li197, li207, li208, li223, li304, li608, li1520, li1824, nI_add, pk_mul, nI_clamp, nI_leI, nI_ltI, nI_eq, zn_inb, zn_gd, zn_bs, zn_isb, not_true_eq_false, not_false_eq_true, ↓reduceIte, pk_div, pk_sub, zn_rem20, zn_rem2, zn_m1, zn_eqw, zn_weq, zn_weq2, zn_wlt0, zn_wltn, zn_win, zn_wcl, zn_wadd, Nat.not_lt_zero, Nat.one_ne_zero, Nat.zero_ne_one, Nat.le_refl, Nat.zero_le, zn_sel_r, zn_sel_l, e0, c]
    refine hk _ ?_
    rw [← show f = S 1 0 by omega]
    exact h
  | succ d ih =>
    intro f n N hf hn h
    obtain ⟨m, rfl⟩ : ∃ m, n = m + 1 := ⟨n - 1, by omega⟩
    have c : ¬ S 1 0 ≤ f := by omega
    obtain ⟨a1, a2, a3, a4, a5, a6, a7⟩ := zo_loop_r S r set hw f
    have e0 : N 1 0 = nI (S 1 0) := h.c.trans (congrArg nI a1)
    have zb := zn_bit0 (n := set) (f := f) (by omega) (by omega)
    have g1 := g.loop (r := r) (set := set) h99 hw hu f (by omega)
    have es : zo_loop S r set (f + 1) = zo_step r set f (zo_loop S r set f) := rfl
    have ih1 := ih (f + 1) m
    rw [es] at ih1
    unfold zo_step at ih1
    rw [fX6_serveOne_L17]
    cases q : set.testBit f
    · have zb1 := zb.mpr q
      rw [q, if_neg (by decide)] at ih1
      simp (disch := omega) only [li0, li1, li2, li3, li4, li5, li6, li7, li8, li9, li10, li12, li13, li14, li15, li19, li20, li31, li33, li40, li42, li44, li48, li57, li60, li99, li100, li126, li150, li176, li177, li187, li197, li207, li208, li223, li304, li608, li1520, li1824, nI_add, pk_mul, nI_clamp, nI_leI, nI_ltI, nI_eq, zn_inb, zn_gd, zn_bs, zn_isb, not_true_eq_false, not_false_eq_true, ↓reduceIte, pk_div, pk_sub, zn_rem20, zn_rem2, zn_m1, zn_eqw, zn_weq, zn_weq2, zn_wlt0, zn_wltn, zn_win, zn_wcl, zn_wadd, Nat.not_lt_zero, Nat.one_ne_zero, Nat.zero_ne_one, Nat.le_refl, Nat.zero_le, zn_sel_r, zn_sel_l, e0, c, zb1, fX6_serveOne_B57]
      exact ih1 _ (by omega) (by omega) (h.of rfl rfl rfl rfl rfl rfl rfl rfl rfl rfl rfl rfl rfl rfl rfl)
    · have zb1 : ¬ ((nI set >>> (nI f &&& nI 31)) &&& nI 1 = nI 0) := by
        rw [zb, q]
        decide
      rw [q, if_pos rfl] at ih1
      have gb := g1.bring (f := f) (by omega) (by omega)
      have gt := g1.t (f := f) (r := r) (by rw [a4]; exact h99) (by omega) (by omega)
      have ew := zo_t_w (zo_loop S r set f) f r
      simp (disch := omega) only [li0, li1, li2, li3, li4, li5, li6, li7, li8, li9, li10, li12, li13, li14, li15, li19, li20, li31, li33, li40, li42, li44, li48, li57, li60, li99, li100, li126, li150, li176, li177, li187, li197, li207, li208, li223, li304, li608, li1520, li1824, nI_add, pk_mul, nI_clamp, nI_leI, nI_ltI, nI_eq, zn_inb, zn_gd, zn_bs, zn_isb, not_true_eq_false, not_false_eq_true, ↓reduceIte, pk_div, pk_sub, zn_rem20, zn_rem2, zn_m1, zn_eqw, zn_weq, zn_weq2, zn_wlt0, zn_wltn, zn_win, zn_wcl, zn_wadd, Nat.not_lt_zero, Nat.one_ne_zero, Nat.zero_ne_one, Nat.le_refl, Nat.zero_le, zn_sel_r, zn_sel_l, e0, c, zb1]
      refine zn_bk2 (zx_bring h g1 (by omega)) (fun z1 hq1 => ?_)
      obtain ⟨h1, ez1⟩ := hq1
      refine zn_bk1 (zx_give (S := zo_bring (zo_loop S r set f) f) (u := u + 2 * f + 1) ?_ gb ?_ ?_ ?_) (fun z2 hq2 => ?_)
      · exact h1.of (congrFun ez1 0).symm rfl (congrFun ez1 2).symm (congrFun ez1 3).symm rfl (congrFun ez1 5).symm rfl rfl rfl (congrFun ez1 10).symm (congrFun ez1 11).symm (congrFun ez1 12).symm (congrFun ez1 13).symm (congrFun ez1 14).symm (congrFun ez1 15).symm
      · exact (congrFun a4 0).trans h99
      · show f < zo_loop S r set f 1 0
        omega
      · show r < zo_loop S r set f 14 0
        rw [a3]
        exact hr
      · obtain ⟨h2, ez2⟩ := hq2
        refine zn_bk2 (zx_putBack (S := zo_t (zo_loop S r set f) f r) (u := u + 2 * f + 1) ?_ gt (by omega)) (fun z3 hq3 => ?_)
        · exact h2.of (congrFun ez2 0).symm (congrFun ez2 1).symm (congrFun ez2 2).symm (congrFun ez2 3).symm (congrFun ez2 4).symm rfl (congrFun ez2 6).symm (congrFun ez2 7).symm (congrFun ez2 8).symm (congrFun ez2 10).symm (congrFun ez2 11).symm (congrFun ez2 12).symm rfl (congrFun ez2 14).symm rfl
        · obtain ⟨h3, ez3⟩ := hq3
          simp only [fX6_serveOne_B57, li1, nI_add]
          refine ih1 _ (by omega) (by omega) ?_
          exact h3.of (congrFun ez3 0).symm rfl (congrFun ez3 2).symm rfl (congrFun ez3 4).symm (congrFun ez3 5).symm rfl rfl rfl (congrFun ez3 10).symm (congrFun ez3 11).symm (congrFun ez3 12).symm (congrFun ez3 13).symm (congrFun ez3 14).symm (congrFun ez3 15).symm
end

