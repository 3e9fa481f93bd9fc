set_option maxHeartbeats 400000
/-! calls that work on a copy, or aside -/
section
variable {n : Nat} {C : Nat → Option Mem} {M K M' K' : Mem} {S S' : SM} {T : Nat → SM} {hc : Nat}
theorem ZI.gen (hn : n < 512) (hH : ZH n C (M 33) (K 0 4) (K 3) (K 4) (K 5) T hc) (hB : ZB (M 36) (M 37) (K 0 8) (K 6)) (hX : RX (ofs 1 M') S') (hK : RK (K' 1) S') (g : GX (192 * (n + 1)) S') (h99 : S' 99 0 = 0) (e33 : M' 33 = M 33) (e36 : M' 36 = M 36) (e37 : M' 37 = M 37) (k4 : K' 0 4 = K 0 4) (k8 : K' 0 8 = K 0 8) (k3 : K' 3 = K 3) (k44 : K' 4 = K 4) (k5 : K' 5 = K 5) (k6 : K' 6 = K 6) : ZI (n + 1) C M' K' := by
  refine ⟨S', T, hc, ⟨hX, hK, g, h99⟩, ?_, ?_⟩
  · rw [e33, k4, k3, k44, k5]
    exact hH.up hn
  · rw [e36, e37, k8, k6]
    exact hB
theorem GX.nx (g : GX (192 * n) S) (hn : n < 512) : GX (192 * (n + 1)) S := g.mono (by omega) (by omega)
theorem zr_srv (hX : RX (ofs 1 M) S) {u r : Nat} (g : GX u S) (hr : r < S 14 0) : fX8_requireServable M (nI r) = some (if zs_can S r = true then .inr () else .inl "java/lang/IllegalStateException") := by
  have e := zx_isServable hX g hr
  unfold fX8_requireServable
  rw [e, zn_bs]
  cases zs_can S r
  · rfl
  · rfl
/-- ticks by sums: the sum so far, and the lift's slot -/
def zs_st (S : SM) (set : Nat) : Nat → Nat × Nat := zs_it (fun f x => if set.testBit f = true then (x.1 + (zs_dif x.2 (S 3 f % 20) + 2 * zs_way (S 3 f)), S 3 f % 20) else x) (0, S 6 0)
theorem zs_st_lt {u : Nat} (g : GX u S) (set : Nat) : ∀ n, n ≤ S 1 0 → (zs_st S set n).2 < 20
  | 0, _ => g.lo.1
  | n + 1, h => by
    show (if set.testBit n = true then _ else _ : Nat × Nat).2 < 20
    split
    · exact Nat.mod_lt _ (by omega)
    · exact zs_st_lt g set n (by omega)
theorem zx_sumTicks_L {u : Nat} (h : RX M S) (g : GX u S) {set : Nat} (hs : set < 2 ^ 12) (kx : Int32 → Option Int32) : ∀ d f n, f + d = S 1 0 → d < n → fX6_sumTicks_L13 M n kx (nI set) (nI (zs_st S set f).1) (nI (zs_st S set f).2) (nI f) = kx (nI (zs_st S set (S 1 0)).1) := by
  have hc := g.c12
  intro d
  induction d with
  | zero =>
    intro f n hf_ hn
    obtain ⟨m, rfl⟩ : ∃ m, n = m + 1 := ⟨n - 1, by omega⟩
    have c : S 1 0 ≤ f := by omega
    have ef : f = S 1 0 := by omega
    rw [fX6_sumTicks_L13]
    simp (disch := omega) only [li0, li1, li2, li3, li4, li5, li6, li7, li8, li9, li10, li12, li13, li14, li15, li19, li20, li31, li33, li40, li42, li44, li48, li57, li60, li99, li100, li126, li150, li176, li177, li187, li197, li207, li208, li223, li304, li608, li1520, li1824, nI_add, pk_mul, nI_clamp, nI_leI, nI_ltI, nI_eq, zn_inb, zn_gd, zn_bs, zn_isb, not_true_eq_false, not_false_eq_true, ↓reduceIte, pk_div, pk_sub, zn_rem20, zn_rem2, zn_m1, zn_eqw, zn_weq, zn_weq2, zn_wlt0, zn_wltn, zn_win, zn_wcl, zn_wadd, Nat.not_lt_zero, Nat.one_ne_zero, Nat.zero_ne_one, Nat.le_refl, Nat.zero_le, zn_sel_r, zn_sel_l, h.c, c]
    try rw [ef]
    try rfl
  | succ d ih =>
    intro f n hf_ hn
    obtain ⟨m, rfl⟩ : ∃ m, n = m + 1 := ⟨n - 1, by omega⟩
    have c : ¬ S 1 0 ≤ f := by omega
    have ih1 := ih (f + 1) m (by omega) (by omega)
    have b := g.1.2.2.1 f (by omega)
    have l := zs_st_lt g set f (by omega)
    have e1 := h.r3 f (by omega)
    have e2 := zx_wayOf (p := S 3 f) (by omega)
    have zb := zn_bit0 (n := set) (f := f) (by omega) (by omega)
    have ea := zn_abs (a := (zs_st S set f).2) (b := S 3 f % 20) (by omega) (by omega)
    rw [show zs_st S set (f + 1) = if set.testBit f = true then ((zs_st S set f).1 + (zs_dif (zs_st S set f).2 (S 3 f % 20) + 2 * zs_way (S 3 f)), S 3 f % 20) else zs_st S set f from rfl] at ih1
    rw [fX6_sumTicks_L13]
    cases q : set.testBit f
    · have zb1 := zb.mpr q
      rw [q, if_neg (by decide)] at ih1
      simp (disch := omega) only [li0, li1, li2, li3, li4, li5, li6, li7, li8, li9, li10, li12, li13, li14, li15, li19, li20, li31, li33, li40, li42, li44, li48, li57, li60, li99, li100, li126, li150, li176, li177, li187, li197, li207, li208, li223, li304, li608, li1520, li1824, nI_add, pk_mul, nI_clamp, nI_leI, nI_ltI, nI_eq, zn_inb, zn_gd, zn_bs, zn_isb, not_true_eq_false, not_false_eq_true, ↓reduceIte, pk_div, pk_sub, zn_rem20, zn_rem2, zn_m1, zn_eqw, zn_weq, zn_weq2, zn_wlt0, zn_wltn, zn_win, zn_wcl, zn_wadd, Nat.not_lt_zero, Nat.one_ne_zero, Nat.zero_ne_one, Nat.le_refl, Nat.zero_le, zn_sel_r, zn_sel_l, h.c, c, zb1, fX6_sumTicks_B73]
      exact ih1
    · have zb1 : ¬ ((nI set >>> (nI f &&& nI 31)) &&& nI 1 = nI 0) := by
        rw [zb, q]
        decide
      rw [q, if_pos rfl] at ih1
      rw [h.c, if_neg (nI_ge (show _ < _ by omega) (by omega)), show (31 : Int32) = nI 31 from rfl, show (1 : Int32) = nI 1 from rfl, show (0 : Int32) = nI 0 from rfl, if_neg zb1, nI_clamp (by omega), zn_inb (by omega) (by omega), zn_gd, e1, e2, zn_bs, show (20 : Int32) = nI 20 from rfl, show (2 : Int32) = nI 2 from rfl, pk_rem (by omega) (by omega) (by omega), ea, fX6_sumTicks_B73, pk_mul, nI_add, nI_add, show (1 : Int32) = nI 1 from rfl, nI_add]
      exact ih1
theorem zx_sumTicks {u : Nat} (h : RX M S) (g : GX u S) {set : Nat} (hs : set < 2 ^ 12) : fX6_sumTicks M (nI set) = some (nI (zs_st S set (S 1 0)).1) := by
  have e := h.2.1.1
  unfold fX6_sumTicks
  rw [e]
  exact zx_sumTicks_L h g hs (fun (l2 : Int32) => some l2) (S 1 0) 0 5000 (by omega) (by have := g.c12; omega)
theorem zo_give_3' (X : SM) (f r : Nat) : zo_t X f r 3 = X 3 := zo_give_3 _ f r 10
theorem zo_give_6' (X : SM) (f r : Nat) : zo_t X f r 6 = zo_bring X f 6 := zo_give_6 _ f r 10
theorem zo_bring_61 (X : SM) (f : Nat) : zo_bring X f 6 1 = X 6 1 := rfl
theorem zo_put_60 (X : SM) (p : Nat) : zo_put X p 6 0 = p % 20 := rfl
theorem zo_put_3 (X : SM) (p : Nat) : zo_put X p 3 = uw (X 3) (X 1 1 - 1) p := rfl
theorem zo_loop_sums (S : SM) (r set : Nat) (hw : S 1 1 = 0) (hk : S 6 1 = 1) : ∀ n, zo_loop S r set n 3 = S 3 ∧ zo_loop S r set n 6 0 = (zs_st S set n).2 ∧ zo_loop S r set n 6 2 = S 6 2 + (zs_st S set n).1
  | 0 => ⟨rfl, rfl, rfl⟩
  | n + 1 => by
    obtain ⟨a1, a2, a3⟩ := zo_loop_sums S r set hw hk n
    obtain ⟨b1, b2, b3, b4, b5, b6, b7⟩ := zo_loop_r S r set hw n
    have es : zo_loop S r set (n + 1) = zo_step r set n (zo_loop S r set n) := rfl
    have et : zs_st S set (n + 1) = if set.testBit n = true then ((zs_st S set n).1 + (zs_dif (zs_st S set n).2 (S 3 n % 20) + 2 * zs_way (S 3 n)), S 3 n % 20) else zs_st S set n := rfl
    rw [es, et]
    have ew := zo_t_w (zo_loop S r set n) n r
    have e61 : zo_t (zo_loop S r set n) n r 6 1 = 1 := by
      rw [zo_give_6', zo_bring_61, b5, hk]
    have esp : zs_sp (zo_t (zo_loop S r set n) n r) = S 3 n := by
      unfold zs_sp
      rw [if_neg (by omega), zo_give_3', ew.1, a1, Nat.add_sub_cancel]
    have s62 := zo_step_62 r set n (zo_loop S r set n)
    by_cases q : set.testBit n = true
    · rw [if_pos q] at s62
      rw [if_pos q, s62, esp, a3]
      unfold zo_step
      rw [if_pos q, esp, zo_put_60, zo_put_3, zo_give_3', ew.1, Nat.add_sub_cancel, a1, uw_id rfl]
      refine ⟨rfl, rfl, ?_⟩
      show _ = S 6 2 + ((zs_st S set n).1 + (zs_dif (zs_st S set n).2 (S 3 n % 20) + 2 * zs_way (S 3 n)))
      unfold zs_to
      rw [a1, a2]
      omega
    · rw [if_neg q] at s62
      rw [if_neg q, s62, a3]
      unfold zo_step
      rw [if_neg q]
      exact ⟨a1, a2, rfl⟩
theorem zs_st_cost {r v : Nat} (hv : zs_best S r v) (hw : S 1 1 = 0) (hk : S 6 1 = 1) : (zs_st S v (S 1 0)).1 = zo_cost S r := by
  have h := (zo_loop_sums (zo_on S) r v hw hk (S 1 0)).2.2
  unfold zo_cost
  rw [zs_set_of hv, h]
  show _ = S 6 2 + (zs_st S v (S 1 0)).1 - S 6 2
  omega
end
theorem zt_cheapestOrder : St_cheapestOrder ZI := by
  intro n C M K  hn h
  obtain ⟨S, T, hc, ⟨hX, hK, g, h99⟩, hH, hB⟩ := id h
  have hc12 := g.c12
  have h8 := g.o8
  have lo := g.lo
  have hw12 := g.1.2.1
  have hT : RT (ofs 2 M) S := hX.t
  have hK0 : RK ((sr K 0 (upd (K 0) 0 (nI 0))) 1) S := hK
  have gn := g.nx hn
  have e4 := zr_win hX (by omega)
  obtain ⟨yk0, ec, hyk⟩ := zk_cheapest (K := (sr K 0 (upd (K 0) 0 (nI 0)))) hK0 g h99 (by omega)
  by_cases c1 : S 1 1 = 0
  · rw [if_pos c1] at e4
    obtain ⟨zf, ef, hzf⟩ := zx_findCheapest hX g h99 c1 (by omega)
    have ech : zs_ch S = (zs_cp S (S 14 0)).1 := if_pos c1
    rw [ech] at ec
    have bcp := (zs_cp_le g h99 c1 (by omega) (S 14 0)).1
    obtain ⟨z1, z2⟩ := zf
    have hz1 : z1 = wI (zs_cp S (S 14 0)).1 := hzf
    subst hz1
    by_cases c2 : (zs_cp S (S 14 0)).1 = 0
    · rw [c2] at ec ef
      have ex : fX8_cheapestOrder M  = some (.inl "java/lang/IllegalStateException", (sr (sr (sr (sr (sr (sr (sr (sr (sr (sr (sr (sr (sr (sr (sr M 17 (z2 17)) 18 (z2 18)) 19 (z2 19)) 20 (z2 20)) 21 (z2 21)) 22 (z2 22)) 23 (z2 23)) 24 (z2 24)) 25 (z2 25)) 27 (z2 27)) 28 (z2 28)) 29 (z2 29)) 30 (z2 30)) 31 (z2 31)) 32 (z2 32))) := by
        unfold fX8_cheapestOrder
        simp (disch := omega) only [li0, li1, li2, li3, li4, li5, li6, li7, li8, li9, li10, li12, li13, li14, li15, li19, li20, li31, li33, li40, li42, li44, li48, li57, li60, li99, li100, li126, li150, li176, li177, li187, li197, li207, li208, li223, li304, li608, li1520, li1824, nI_add, pk_mul, nI_clamp, nI_leI, nI_ltI, nI_eq, zn_inb, zn_gd, zn_bs, zn_isb, not_true_eq_false, not_false_eq_true, ↓reduceIte, pk_div, pk_sub, zn_rem20, zn_rem2, zn_m1, zn_eqw, zn_weq, zn_weq2, zn_wlt0, zn_wltn, zn_win, zn_wcl, zn_wadd, Nat.not_lt_zero, Nat.one_ne_zero, Nat.zero_ne_one, Nat.le_refl, Nat.zero_le, zn_sel_r, zn_sel_l, e4, ef]
      obtain ⟨y, ek, y0, y4, y8, yk⟩ : ∃ y : Int32 × Mem, fX9_cheapestOrder K  = some y ∧ y.2 0 0 = nI 1 ∧ y.2 0 4 = K 0 4 ∧ y.2 0 8 = K 0 8 ∧ RK (y.2 1) S := by
        unfold fX9_cheapestOrder
        simp (disch := omega) only [li0, li1, li2, li3, li4, li5, li6, li7, li8, li9, li10, li12, li13, li14, li15, li19, li20, li31, li33, li40, li42, li44, li48, li57, li60, li99, li100, li126, li150, li176, li177, li187, li197, li207, li208, li223, li304, li608, li1520, li1824, nI_add, pk_mul, nI_clamp, nI_leI, nI_ltI, nI_eq, zn_inb, zn_gd, zn_bs, zn_isb, not_true_eq_false, not_false_eq_true, ↓reduceIte, pk_div, pk_sub, zn_rem20, zn_rem2, zn_m1, zn_eqw, zn_weq, zn_weq2, zn_wlt0, zn_wltn, zn_win, zn_wcl, zn_wadd, Nat.not_lt_zero, Nat.one_ne_zero, Nat.zero_ne_one, Nat.le_refl, Nat.zero_le, zn_sel_r, zn_sel_l, fX9_fails, ec, fX9_cheapestOrder_B24]
        exact ⟨_, rfl, rfl, rfl, rfl, hyk⟩
      exact ⟨_, _, _, y, ex, Or.inr ⟨0, _, rfl, rfl, rfl⟩, ek, y0, (fun u hu => by cases hu), ZI.gen hn hH hB (hX.of rfl rfl rfl rfl rfl rfl rfl rfl rfl rfl rfl rfl rfl rfl rfl ) yk gn h99 rfl rfl rfl y4 y8 rfl rfl rfl rfl⟩
    · have ex : fX8_cheapestOrder M  = some (.inr (wI (zs_cp S (S 14 0)).1), (sr (sr (sr (sr (sr (sr (sr (sr (sr (sr (sr (sr (sr (sr (sr M 17 (z2 17)) 18 (z2 18)) 19 (z2 19)) 20 (z2 20)) 21 (z2 21)) 22 (z2 22)) 23 (z2 23)) 24 (z2 24)) 25 (z2 25)) 27 (z2 27)) 28 (z2 28)) 29 (z2 29)) 30 (z2 30)) 31 (z2 31)) 32 (z2 32))) := by
        unfold fX8_cheapestOrder
        simp (disch := omega) only [li0, li1, li2, li3, li4, li5, li6, li7, li8, li9, li10, li12, li13, li14, li15, li19, li20, li31, li33, li40, li42, li44, li48, li57, li60, li99, li100, li126, li150, li176, li177, li187, li197, li207, li208, li223, li304, li608, li1520, li1824, nI_add, pk_mul, nI_clamp, nI_leI, nI_ltI, nI_eq, zn_inb, zn_gd, zn_bs, zn_isb, not_true_eq_false, not_false_eq_true, ↓reduceIte, pk_div, pk_sub, zn_rem20, zn_rem2, zn_m1, zn_eqw, zn_weq, zn_weq2, zn_wlt0, zn_wltn, zn_win, zn_wcl, zn_wadd, Nat.not_lt_zero, Nat.one_ne_zero, Nat.zero_ne_one, Nat.le_refl, Nat.zero_le, zn_sel_r, zn_sel_l, e4, ef, c2]
      obtain ⟨y, ek, y0, y4, y8, yk, y1⟩ : ∃ y : Int32 × Mem, fX9_cheapestOrder K  = some y ∧ y.2 0 0 = nI 0 ∧ y.2 0 4 = K 0 4 ∧ y.2 0 8 = K 0 8 ∧ RK (y.2 1) S ∧ wI (zs_cp S (S 14 0)).1 = y.1 := by
        unfold fX9_cheapestOrder
        simp (disch := omega) only [li0, li1, li2, li3, li4, li5, li6, li7, li8, li9, li10, li12, li13, li14, li15, li19, li20, li31, li33, li40, li42, li44, li48, li57, li60, li99, li100, li126, li150, li176, li177, li187, li197, li207, li208, li223, li304, li608, li1520, li1824, nI_add, pk_mul, nI_clamp, nI_leI, nI_ltI, nI_eq, zn_inb, zn_gd, zn_bs, zn_isb, not_true_eq_false, not_false_eq_true, ↓reduceIte, pk_div, pk_sub, zn_rem20, zn_rem2, zn_m1, zn_eqw, zn_weq, zn_weq2, zn_wlt0, zn_wltn, zn_win, zn_wcl, zn_wadd, Nat.not_lt_zero, Nat.one_ne_zero, Nat.zero_ne_one, Nat.le_refl, Nat.zero_le, zn_sel_r, zn_sel_l, fX9_fails, ec, c2, fX9_cheapestOrder_B24]
        exact ⟨_, rfl, rfl, rfl, rfl, hyk, rfl⟩
      exact ⟨_, _, _, y, ex, Or.inl ⟨_, rfl, rfl⟩, ek, y0, (fun u hu => by cases hu; exact y1), ZI.gen hn hH hB (hX.of rfl rfl rfl rfl rfl rfl rfl rfl rfl rfl rfl rfl rfl rfl rfl ) yk gn h99 rfl rfl rfl y4 y8 rfl rfl rfl rfl⟩
  · rw [if_neg c1] at e4
    have ech : zs_ch S = 0 := if_neg c1
    rw [ech] at ec
    have ex : fX8_cheapestOrder M  = some (.inl "java/lang/IllegalStateException", M) := by
      unfold fX8_cheapestOrder
      simp (disch := omega) only [li0, li1, li2, li3, li4, li5, li6, li7, li8, li9, li10, li12, li13, li14, li15, li19, li20, li31, li33, li40, li42, li44, li48, li57, li60, li99, li100, li126, li150, li176, li177, li187, li197, li207, li208, li223, li304, li608, li1520, li1824, nI_add, pk_mul, nI_clamp, nI_leI, nI_ltI, nI_eq, zn_inb, zn_gd, zn_bs, zn_isb, not_true_eq_false, not_false_eq_true, ↓reduceIte, pk_div, pk_sub, zn_rem20, zn_rem2, zn_m1, zn_eqw, zn_weq, zn_weq2, zn_wlt0, zn_wltn, zn_win, zn_wcl, zn_wadd, Nat.not_lt_zero, Nat.one_ne_zero, Nat.zero_ne_one, Nat.le_refl, Nat.zero_le, zn_sel_r, zn_sel_l, e4]
    obtain ⟨y, ek, y0, y4, y8, yk⟩ : ∃ y : Int32 × Mem, fX9_cheapestOrder K  = some y ∧ y.2 0 0 = nI 1 ∧ y.2 0 4 = K 0 4 ∧ y.2 0 8 = K 0 8 ∧ RK (y.2 1) S := by
      unfold fX9_cheapestOrder
      simp (disch := omega) only [li0, li1, li2, li3, li4, li5, li6, li7, li8, li9, li10, li12, li13, li14, li15, li19, li20, li31, li33, li40, li42, li44, li48, li57, li60, li99, li100, li126, li150, li176, li177, li187, li197, li207, li208, li223, li304, li608, li1520, li1824, nI_add, pk_mul, nI_clamp, nI_leI, nI_ltI, nI_eq, zn_inb, zn_gd, zn_bs, zn_isb, not_true_eq_false, not_false_eq_true, ↓reduceIte, pk_div, pk_sub, zn_rem20, zn_rem2, zn_m1, zn_eqw, zn_weq, zn_weq2, zn_wlt0, zn_wltn, zn_win, zn_wcl, zn_wadd, Nat.not_lt_zero, Nat.one_ne_zero, Nat.zero_ne_one, Nat.le_refl, Nat.zero_le, zn_sel_r, zn_sel_l, fX9_fails, ec, fX9_cheapestOrder_B24]
      exact ⟨_, rfl, rfl, rfl, rfl, hyk⟩
    exact ⟨_, _, _, y, ex, Or.inr ⟨0, _, rfl, rfl, rfl⟩, ek, y0, (fun u hu => by cases hu), ZI.gen hn hH hB (hX.of rfl rfl rfl rfl rfl rfl rfl rfl rfl rfl rfl rfl rfl rfl rfl ) yk gn h99 rfl rfl rfl y4 y8 rfl rfl rfl rfl⟩
theorem zt_ticksByServing : St_ticksByServing ZI := by
  intro n C M K x1 hn h
  obtain ⟨S, T, hc, ⟨hX, hK, g, h99⟩, hH, hB⟩ := id h
  have hc12 := g.c12
  have h8 := g.o8
  have lo := g.lo
  have hw12 := g.1.2.1
  have hT : RT (ofs 2 M) S := hX.t
  have hK0 : RK ((sr K 0 (upd (K 0) 0 (nI 0))) 1) S := hK
  have gn := g.nx hn
  have e4 := zr_win hX (by omega)
  have e5 := zk_hasWindow (K := (sr K 0 (upd (K 0) 0 (nI 0)))) hK0 (by omega)
  rcases zr_order hX h8 x1 with ⟨f, hf, rfl, e1, e2⟩ | ⟨e1, e2⟩
  · have e3 := e2 (sr K 0 (upd (K 0) 0 (nI 0))) hK0
    have e6 := zr_srv hX g hf
    have e7 := zk_canBe (K := (sr K 0 (upd (K 0) 0 (nI 0)))) hK0 g hf
    by_cases c1 : S 1 1 = 0
    · rw [if_pos c1] at e4 e5
      cases q : zs_can S f
      · rw [q, if_neg (by decide)] at e6
        rw [q, cond_false] at e7
        have ex : fX8_ticksByServing M (nI f) = some (.inl "java/lang/IllegalStateException", M) := by
          unfold fX8_ticksByServing
          simp (disch := omega) only [li0, li1, li2, li3, li4, li5, li6, li7, li8, li9, li10, li12, li13, li14, li15, li19, li20, li31, li33, li40, li42, li44, li48, li57, li60, li99, li100, li126, li150, li176, li177, li187, li197, li207, li208, li223, li304, li608, li1520, li1824, nI_add, pk_mul, nI_clamp, nI_leI, nI_ltI, nI_eq, zn_inb, zn_gd, zn_bs, zn_isb, not_true_eq_false, not_false_eq_true, ↓reduceIte, pk_div, pk_sub, zn_rem20, zn_rem2, zn_m1, zn_eqw, zn_weq, zn_weq2, zn_wlt0, zn_wltn, zn_win, zn_wcl, zn_wadd, Nat.not_lt_zero, Nat.one_ne_zero, Nat.zero_ne_one, Nat.le_refl, Nat.zero_le, zn_sel_r, zn_sel_l, e1, e4, e6]
        obtain ⟨y, ek, y0, y4, y8, yk⟩ : ∃ y : Int32 × Mem, fX9_ticksByServing K (nI f) = some y ∧ y.2 0 0 = nI 2 ∧ y.2 0 4 = K 0 4 ∧ y.2 0 8 = K 0 8 ∧ RK (y.2 1) S := by
          unfold fX9_ticksByServing
          simp (disch := omega) only [li0, li1, li2, li3, li4, li5, li6, li7, li8, li9, li10, li12, li13, li14, li15, li19, li20, li31, li33, li40, li42, li44, li48, li57, li60, li99, li100, li126, li150, li176, li177, li187, li197, li207, li208, li223, li304, li608, li1520, li1824, nI_add, pk_mul, nI_clamp, nI_leI, nI_ltI, nI_eq, zn_inb, zn_gd, zn_bs, zn_isb, not_true_eq_false, not_false_eq_true, ↓reduceIte, pk_div, pk_sub, zn_rem20, zn_rem2, zn_m1, zn_eqw, zn_weq, zn_weq2, zn_wlt0, zn_wltn, zn_win, zn_wcl, zn_wadd, Nat.not_lt_zero, Nat.one_ne_zero, Nat.zero_ne_one, Nat.le_refl, Nat.zero_le, zn_sel_r, zn_sel_l, fX9_fails, e3, e5, e7, fX9_ticksByServing_B34, fX9_ticksByServing_B47]
          exact ⟨_, rfl, rfl, rfl, rfl, hK⟩
        exact ⟨_, _, _, y, ex, Or.inr ⟨1, _, rfl, rfl, rfl⟩, ek, y0, (fun u hu => by cases hu), ZI.gen hn hH hB (hX.of rfl rfl rfl rfl rfl rfl rfl rfl rfl rfl rfl rfl rfl rfl rfl ) yk gn h99 rfl rfl rfl y4 y8 rfl rfl rfl rfl⟩
      · rw [q, if_pos rfl] at e6
        rw [q, cond_true] at e7
        obtain ⟨ya, ea, hya⟩ := zk_servesAside (K := (sr K 0 (upd (K 0) 0 (nI 0)))) hK0 g h99 c1 hf q (by omega)
        obtain ⟨yc, ec, hyc⟩ := zx_copyFrom (M := pk [17, 18, 19, 20, 21, 22, 23, 24, 25, 26, 27, 28, 29, 30, 31, 32, 1, 2, 3, 4, 5, 6, 7, 8, 9, 10, 11, 12, 13, 14, 15, 16] M) (S := S) hX lo.2.1 lo.2.2.2
        obtain ⟨zo, eo, hzo⟩ := zx_serveOne (M := ofs 17 (sr (sr (sr (sr (sr (sr (sr (sr (sr (sr (sr (sr (sr (sr (sr M 17 (yc 0)) 18 (yc 1)) 19 (yc 2)) 20 (yc 3)) 21 (yc 4)) 22 (yc 5)) 23 (yc 6)) 24 (yc 7)) 25 (yc 8)) 27 (yc 10)) 28 (yc 11)) 29 (yc 12)) 30 (yc 13)) 31 (yc 14)) 32 (yc 15))) (S := S) (u := 192 * n) (hyc.of rfl rfl rfl rfl rfl rfl rfl rfl rfl rfl rfl rfl rfl rfl rfl ) g h99 c1 hf q (by omega)
        obtain ⟨z2, ex⟩ : ∃ z2, fX8_ticksByServing M (nI f) = some (.inr (nI (zo_cost S f)), z2) := by
          unfold fX8_ticksByServing
          simp (disch := omega) only [li0, li1, li2, li3, li4, li5, li6, li7, li8, li9, li10, li12, li13, li14, li15, li19, li20, li31, li33, li40, li42, li44, li48, li57, li60, li99, li100, li126, li150, li176, li177, li187, li197, li207, li208, li223, li304, li608, li1520, li1824, nI_add, pk_mul, nI_clamp, nI_leI, nI_ltI, nI_eq, zn_inb, zn_gd, zn_bs, zn_isb, not_true_eq_false, not_false_eq_true, ↓reduceIte, pk_div, pk_sub, zn_rem20, zn_rem2, zn_m1, zn_eqw, zn_weq, zn_weq2, zn_wlt0, zn_wltn, zn_win, zn_wcl, zn_wadd, Nat.not_lt_zero, Nat.one_ne_zero, Nat.zero_ne_one, Nat.le_refl, Nat.zero_le, zn_sel_r, zn_sel_l, e1, e4, e6, ec, eo]
          exact ⟨_, rfl⟩
        obtain ⟨y, ek, y0, y4, y8, yk, y1⟩ : ∃ y : Int32 × Mem, fX9_ticksByServing K (nI f) = some y ∧ y.2 0 0 = nI 0 ∧ y.2 0 4 = K 0 4 ∧ y.2 0 8 = K 0 8 ∧ RK (y.2 1) S ∧ nI (zo_cost S f) = y.1 := by
          unfold fX9_ticksByServing
          simp (disch := omega) only [li0, li1, li2, li3, li4, li5, li6, li7, li8, li9, li10, li12, li13, li14, li15, li19, li20, li31, li33, li40, li42, li44, li48, li57, li60, li99, li100, li126, li150, li176, li177, li187, li197, li207, li208, li223, li304, li608, li1520, li1824, nI_add, pk_mul, nI_clamp, nI_leI, nI_ltI, nI_eq, zn_inb, zn_gd, zn_bs, zn_isb, not_true_eq_false, not_false_eq_true, ↓reduceIte, pk_div, pk_sub, zn_rem20, zn_rem2, zn_m1, zn_eqw, zn_weq, zn_weq2, zn_wlt0, zn_wltn, zn_win, zn_wcl, zn_wadd, Nat.not_lt_zero, Nat.one_ne_zero, Nat.zero_ne_one, Nat.le_refl, Nat.zero_le, zn_sel_r, zn_sel_l, fX9_fails, e3, e5, e7, ea, fX9_ticksByServing_B34, fX9_ticksByServing_B47]
          exact ⟨_, rfl, rfl, rfl, rfl, hya, rfl⟩
        exact ⟨_, _, _, y, ex, Or.inl ⟨_, rfl, rfl⟩, ek, y0, (fun u hu => by cases hu; exact y1), ZI.gen hn hH hB (hX.of rfl rfl rfl rfl rfl rfl rfl rfl rfl rfl rfl rfl rfl rfl rfl ) yk gn h99 rfl rfl rfl y4 y8 rfl rfl rfl rfl⟩
    · rw [if_neg c1] at e4 e5
      have ex : fX8_ticksByServing M (nI f) = some (.inl "java/lang/IllegalStateException", M) := by
        unfold fX8_ticksByServing
        simp (disch := omega) only [li0, li1, li2, li3, li4, li5, li6, li7, li8, li9, li10, li12, li13, li14, li15, li19, li20, li31, li33, li40, li42, li44, li48, li57, li60, li99, li100, li126, li150, li176, li177, li187, li197, li207, li208, li223, li304, li608, li1520, li1824, nI_add, pk_mul, nI_clamp, nI_leI, nI_ltI, nI_eq, zn_inb, zn_gd, zn_bs, zn_isb, not_true_eq_false, not_false_eq_true, ↓reduceIte, pk_div, pk_sub, zn_rem20, zn_rem2, zn_m1, zn_eqw, zn_weq, zn_weq2, zn_wlt0, zn_wltn, zn_win, zn_wcl, zn_wadd, Nat.not_lt_zero, Nat.one_ne_zero, Nat.zero_ne_one, Nat.le_refl, Nat.zero_le, zn_sel_r, zn_sel_l, e1, e4]
      obtain ⟨y, ek, y0, y4, y8, yk⟩ : ∃ y : Int32 × Mem, fX9_ticksByServing K (nI f) = some y ∧ y.2 0 0 = nI 2 ∧ y.2 0 4 = K 0 4 ∧ y.2 0 8 = K 0 8 ∧ RK (y.2 1) S := by
        unfold fX9_ticksByServing
        simp (disch := omega) only [li0, li1, li2, li3, li4, li5, li6, li7, li8, li9, li10, li12, li13, li14, li15, li19, li20, li31, li33, li40, li42, li44, li48, li57, li60, li99, li100, li126, li150, li176, li177, li187, li197, li207, li208, li223, li304, li608, li1520, li1824, nI_add, pk_mul, nI_clamp, nI_leI, nI_ltI, nI_eq, zn_inb, zn_gd, zn_bs, zn_isb, not_true_eq_false, not_false_eq_true, ↓reduceIte, pk_div, pk_sub, zn_rem20, zn_rem2, zn_m1, zn_eqw, zn_weq, zn_weq2, zn_wlt0, zn_wltn, zn_win, zn_wcl, zn_wadd, Nat.not_lt_zero, Nat.one_ne_zero, Nat.zero_ne_one, Nat.le_refl, Nat.zero_le, zn_sel_r, zn_sel_l, fX9_fails, e3, e5, fX9_ticksByServing_B34, fX9_ticksByServing_B47]
        exact ⟨_, rfl, rfl, rfl, rfl, hK⟩
      exact ⟨_, _, _, y, ex, Or.inr ⟨1, _, rfl, rfl, rfl⟩, ek, y0, (fun u hu => by cases hu), ZI.gen hn hH hB (hX.of rfl rfl rfl rfl rfl rfl rfl rfl rfl rfl rfl rfl rfl rfl rfl ) yk gn h99 rfl rfl rfl y4 y8 rfl rfl rfl rfl⟩
  · have e3 := e2 (sr K 0 (upd (K 0) 0 (nI 0))) hK0
    have ex : fX8_ticksByServing M x1 = some (.inl "java/lang/IndexOutOfBoundsException", M) := by
      unfold fX8_ticksByServing
      simp (disch := omega) only [li0, li1, li2, li3, li4, li5, li6, li7, li8, li9, li10, li12, li13, li14, li15, li19, li20, li31, li33, li40, li42, li44, li48, li57, li60, li99, li100, li126, li150, li176, li177, li187, li197, li207, li208, li223, li304, li608, li1520, li1824, nI_add, pk_mul, nI_clamp, nI_leI, nI_ltI, nI_eq, zn_inb, zn_gd, zn_bs, zn_isb, not_true_eq_false, not_false_eq_true, ↓reduceIte, pk_div, pk_sub, zn_rem20, zn_rem2, zn_m1, zn_eqw, zn_weq, zn_weq2, zn_wlt0, zn_wltn, zn_win, zn_wcl, zn_wadd, Nat.not_lt_zero, Nat.one_ne_zero, Nat.zero_ne_one, Nat.le_refl, Nat.zero_le, zn_sel_r, zn_sel_l, e1]
    obtain ⟨y, ek, y0, y4, y8, yk⟩ : ∃ y : Int32 × Mem, fX9_ticksByServing K x1 = some y ∧ y.2 0 0 = nI 1 ∧ y.2 0 4 = K 0 4 ∧ y.2 0 8 = K 0 8 ∧ RK (y.2 1) S := by
      unfold fX9_ticksByServing
      simp (disch := omega) only [li0, li1, li2, li3, li4, li5, li6, li7, li8, li9, li10, li12, li13, li14, li15, li19, li20, li31, li33, li40, li42, li44, li48, li57, li60, li99, li100, li126, li150, li176, li177, li187, li197, li207, li208, li223, li304, li608, li1520, li1824, nI_add, pk_mul, nI_clamp, nI_leI, nI_ltI, nI_eq, zn_inb, zn_gd, zn_bs, zn_isb, not_true_eq_false, not_false_eq_true, ↓reduceIte, pk_div, pk_sub, zn_rem20, zn_rem2, zn_m1, zn_eqw, zn_weq, zn_weq2, zn_wlt0, zn_wltn, zn_win, zn_wcl, zn_wadd, Nat.not_lt_zero, Nat.one_ne_zero, Nat.zero_ne_one, Nat.le_refl, Nat.zero_le, zn_sel_r, zn_sel_l, fX9_fails, e3, fX9_ticksByServing_B34, fX9_ticksByServing_B47]
      exact ⟨_, rfl, rfl, rfl, rfl, hK⟩
    exact ⟨_, _, _, y, ex, Or.inr ⟨0, _, rfl, rfl, rfl⟩, ek, y0, (fun u hu => by cases hu), ZI.gen hn hH hB (hX.of rfl rfl rfl rfl rfl rfl rfl rfl rfl rfl rfl rfl rfl rfl rfl ) yk gn h99 rfl rfl rfl y4 y8 rfl rfl rfl rfl⟩
theorem zt_ticksBySums : St_ticksBySums ZI := by
  intro n C M K x1 hn h
  obtain ⟨S, T, hc, ⟨hX, hK, g, h99⟩, hH, hB⟩ := id h
  have hc12 := g.c12
  have h8 := g.o8
  have lo := g.lo
  have hw12 := g.1.2.1
  have hT : RT (ofs 2 M) S := hX.t
  have hK0 : RK ((sr K 0 (upd (K 0) 0 (nI 0))) 1) S := hK
  have gn := g.nx hn
  have e4 := zr_win hX (by omega)
  have e5 := zk_hasWindow (K := (sr K 0 (upd (K 0) 0 (nI 0)))) hK0 (by omega)
  rcases zr_order hX h8 x1 with ⟨f, hf, rfl, e1, e2⟩ | ⟨e1, e2⟩
  · have e3 := e2 (sr K 0 (upd (K 0) 0 (nI 0))) hK0
    have e6 := zr_srv hX g hf
    have e7 := zk_canBe (K := (sr K 0 (upd (K 0) 0 (nI 0)))) hK0 g hf
    by_cases c1 : S 1 1 = 0
    · rw [if_pos c1] at e4 e5
      cases q : zs_can S f
      · rw [q, if_neg (by decide)] at e6
        rw [q, cond_false] at e7
        have ex : fX8_ticksBySums M (nI f) = some (.inl "java/lang/IllegalStateException") := by
          unfold fX8_ticksBySums
          simp (disch := omega) only [li0, li1, li2, li3, li4, li5, li6, li7, li8, li9, li10, li12, li13, li14, li15, li19, li20, li31, li33, li40, li42, li44, li48, li57, li60, li99, li100, li126, li150, li176, li177, li187, li197, li207, li208, li223, li304, li608, li1520, li1824, nI_add, pk_mul, nI_clamp, nI_leI, nI_ltI, nI_eq, zn_inb, zn_gd, zn_bs, zn_isb, not_true_eq_false, not_false_eq_true, ↓reduceIte, pk_div, pk_sub, zn_rem20, zn_rem2, zn_m1, zn_eqw, zn_weq, zn_weq2, zn_wlt0, zn_wltn, zn_win, zn_wcl, zn_wadd, Nat.not_lt_zero, Nat.one_ne_zero, Nat.zero_ne_one, Nat.le_refl, Nat.zero_le, zn_sel_r, zn_sel_l, e1, e4, e6]
        obtain ⟨y, ek, y0, y4, y8, yk⟩ : ∃ y : Int32 × Mem, fX9_ticksBySums K (nI f) = some y ∧ y.2 0 0 = nI 2 ∧ y.2 0 4 = K 0 4 ∧ y.2 0 8 = K 0 8 ∧ RK (y.2 1) S := by
          unfold fX9_ticksBySums
          simp (disch := omega) only [li0, li1, li2, li3, li4, li5, li6, li7, li8, li9, li10, li12, li13, li14, li15, li19, li20, li31, li33, li40, li42, li44, li48, li57, li60, li99, li100, li126, li150, li176, li177, li187, li197, li207, li208, li223, li304, li608, li1520, li1824, nI_add, pk_mul, nI_clamp, nI_leI, nI_ltI, nI_eq, zn_inb, zn_gd, zn_bs, zn_isb, not_true_eq_false, not_false_eq_true, ↓reduceIte, pk_div, pk_sub, zn_rem20, zn_rem2, zn_m1, zn_eqw, zn_weq, zn_weq2, zn_wlt0, zn_wltn, zn_win, zn_wcl, zn_wadd, Nat.not_lt_zero, Nat.one_ne_zero, Nat.zero_ne_one, Nat.le_refl, Nat.zero_le, zn_sel_r, zn_sel_l, fX9_fails, e3, e5, e7, fX9_ticksBySums_B43, fX9_ticksBySums_B56]
          exact ⟨_, rfl, rfl, rfl, rfl, hK⟩
        exact ⟨_, _, y, ex, Or.inr ⟨1, _, rfl, rfl, rfl⟩, ek, y0, (fun u hu => by cases hu), ZI.gen hn hH hB (hX.of rfl rfl rfl rfl rfl rfl rfl rfl rfl rfl rfl rfl rfl rfl rfl ) yk gn h99 rfl rfl rfl y4 y8 rfl rfl rfl rfl⟩
      · rw [q, if_pos rfl] at e6
        rw [q, cond_true] at e7
        obtain ⟨ya, ea, hya⟩ := zk_servesAside (K := (sr K 0 (upd (K 0) 0 (nI 0)))) hK0 g h99 c1 hf q (by omega)
        have m1 : M 7 1 = nI (S 6 1) := hX.2.1.2.1
        have m2 := hK.2.2.2.2.1.2.1
        have lo2 := lo.2.1
        by_cases c2 : S 6 1 = 0
        · rw [c2] at m1 m2
          have ex : fX8_ticksBySums M (nI f) = some (.inl "java/lang/IllegalStateException") := by
            unfold fX8_ticksBySums
            simp (disch := omega) only [li0, li1, li2, li3, li4, li5, li6, li7, li8, li9, li10, li12, li13, li14, li15, li19, li20, li31, li33, li40, li42, li44, li48, li57, li60, li99, li100, li126, li150, li176, li177, li187, li197, li207, li208, li223, li304, li608, li1520, li1824, nI_add, pk_mul, nI_clamp, nI_leI, nI_ltI, nI_eq, zn_inb, zn_gd, zn_bs, zn_isb, not_true_eq_false, not_false_eq_true, ↓reduceIte, pk_div, pk_sub, zn_rem20, zn_rem2, zn_m1, zn_eqw, zn_weq, zn_weq2, zn_wlt0, zn_wltn, zn_win, zn_wcl, zn_wadd, Nat.not_lt_zero, Nat.one_ne_zero, Nat.zero_ne_one, Nat.le_refl, Nat.zero_le, zn_sel_r, zn_sel_l, e1, e4, e6, m1]
          obtain ⟨y, ek, y0, y4, y8, yk⟩ : ∃ y : Int32 × Mem, fX9_ticksBySums K (nI f) = some y ∧ y.2 0 0 = nI 2 ∧ y.2 0 4 = K 0 4 ∧ y.2 0 8 = K 0 8 ∧ RK (y.2 1) S := by
            unfold fX9_ticksBySums
            simp (disch := omega) only [li0, li1, li2, li3, li4, li5, li6, li7, li8, li9, li10, li12, li13, li14, li15, li19, li20, li31, li33, li40, li42, li44, li48, li57, li60, li99, li100, li126, li150, li176, li177, li187, li197, li207, li208, li223, li304, li608, li1520, li1824, nI_add, pk_mul, nI_clamp, nI_leI, nI_ltI, nI_eq, zn_inb, zn_gd, zn_bs, zn_isb, not_true_eq_false, not_false_eq_true, ↓reduceIte, pk_div, pk_sub, zn_rem20, zn_rem2, zn_m1, zn_eqw, zn_weq, zn_weq2, zn_wlt0, zn_wltn, zn_win, zn_wcl, zn_wadd, Nat.not_lt_zero, Nat.one_ne_zero, Nat.zero_ne_one, Nat.le_refl, Nat.zero_le, zn_sel_r, zn_sel_l, fX9_fails, e3, e5, e7, m2, fX9_ticksBySums_B43, fX9_ticksBySums_B56]
            exact ⟨_, rfl, rfl, rfl, rfl, hK⟩
          exact ⟨_, _, y, ex, Or.inr ⟨1, _, rfl, rfl, rfl⟩, ek, y0, (fun u hu => by cases hu), ZI.gen hn hH hB (hX.of rfl rfl rfl rfl rfl rfl rfl rfl rfl rfl rfl rfl rfl rfl rfl ) yk gn h99 rfl rfl rfl y4 y8 rfl rfl rfl rfl⟩
        · have c3 : S 6 1 = 1 := by omega
          rw [c3] at m1 m2
          obtain ⟨v, ev, hv⟩ := zx_choice hX g hf q
          have es := zx_sumTicks hX g (zs_best_lt g hv)
          rw [zs_st_cost hv c1 c3] at es
          have ex : fX8_ticksBySums M (nI f) = some (.inr (nI (zo_cost S f))) := by
            unfold fX8_ticksBySums
            simp (disch := omega) only [li0, li1, li2, li3, li4, li5, li6, li7, li8, li9, li10, li12, li13, li14, li15, li19, li20, li31, li33, li40, li42, li44, li48, li57, li60, li99, li100, li126, li150, li176, li177, li187, li197, li207, li208, li223, li304, li608, li1520, li1824, nI_add, pk_mul, nI_clamp, nI_leI, nI_ltI, nI_eq, zn_inb, zn_gd, zn_bs, zn_isb, not_true_eq_false, not_false_eq_true, ↓reduceIte, pk_div, pk_sub, zn_rem20, zn_rem2, zn_m1, zn_eqw, zn_weq, zn_weq2, zn_wlt0, zn_wltn, zn_win, zn_wcl, zn_wadd, Nat.not_lt_zero, Nat.one_ne_zero, Nat.zero_ne_one, Nat.le_refl, Nat.zero_le, zn_sel_r, zn_sel_l, e1, e4, e6, m1, ev, es]
          obtain ⟨y, ek, y0, y4, y8, yk, y1⟩ : ∃ y : Int32 × Mem, fX9_ticksBySums K (nI f) = some y ∧ y.2 0 0 = nI 0 ∧ y.2 0 4 = K 0 4 ∧ y.2 0 8 = K 0 8 ∧ RK (y.2 1) S ∧ nI (zo_cost S f) = y.1 := by
            unfold fX9_ticksBySums
            simp (disch := omega) only [li0, li1, li2, li3, li4, li5, li6, li7, li8, li9, li10, li12, li13, li14, li15, li19, li20, li31, li33, li40, li42, li44, li48, li57, li60, li99, li100, li126, li150, li176, li177, li187, li197, li207, li208, li223, li304, li608, li1520, li1824, nI_add, pk_mul, nI_clamp, nI_leI, nI_ltI, nI_eq, zn_inb, zn_gd, zn_bs, zn_isb, not_true_eq_false, not_false_eq_true, ↓reduceIte, pk_div, pk_sub, zn_rem20, zn_rem2, zn_m1, zn_eqw, zn_weq, zn_weq2, zn_wlt0, zn_wltn, zn_win, zn_wcl, zn_wadd, Nat.not_lt_zero, Nat.one_ne_zero, Nat.zero_ne_one, Nat.le_refl, Nat.zero_le, zn_sel_r, zn_sel_l, fX9_fails, e3, e5, e7, m2, ea, fX9_ticksBySums_B43, fX9_ticksBySums_B56]
            exact ⟨_, rfl, rfl, rfl, rfl, hya, rfl⟩
          exact ⟨_, _, y, ex, Or.inl ⟨_, rfl, rfl⟩, ek, y0, (fun u hu => by cases hu; exact y1), ZI.gen hn hH hB (hX.of rfl rfl rfl rfl rfl rfl rfl rfl rfl rfl rfl rfl rfl rfl rfl ) yk gn h99 rfl rfl rfl y4 y8 rfl rfl rfl rfl⟩
    · rw [if_neg c1] at e4 e5
      have ex : fX8_ticksBySums M (nI f) = some (.inl "java/lang/IllegalStateException") := by
        unfold fX8_ticksBySums
        simp (disch := omega) only [li0, li1, li2, li3, li4, li5, li6, li7, li8, li9, li10, li12, li13, li14, li15, li19, li20, li31, li33, li40, li42, li44, li48, li57, li60, li99, li100, li126, li150, li176, li177, li187, li197, li207, li208, li223, li304, li608, li1520, li1824, nI_add, pk_mul, nI_clamp, nI_leI, nI_ltI, nI_eq, zn_inb, zn_gd, zn_bs, zn_isb, not_true_eq_false, not_false_eq_true, ↓reduceIte, pk_div, pk_sub, zn_rem20, zn_rem2, zn_m1, zn_eqw, zn_weq, zn_weq2, zn_wlt0, zn_wltn, zn_win, zn_wcl, zn_wadd, Nat.not_lt_zero, Nat.one_ne_zero, Nat.zero_ne_one, Nat.le_refl, Nat.zero_le, zn_sel_r, zn_sel_l, e1, e4]
      obtain ⟨y, ek, y0, y4, y8, yk⟩ : ∃ y : Int32 × Mem, fX9_ticksBySums K (nI f) = some y ∧ y.2 0 0 = nI 2 ∧ y.2 0 4 = K 0 4 ∧ y.2 0 8 = K 0 8 ∧ RK (y.2 1) S := by
        unfold fX9_ticksBySums
        simp (disch := omega) only [li0, li1, li2, li3, li4, li5, li6, li7, li8, li9, li10, li12, li13, li14, li15, li19, li20, li31, li33, li40, li42, li44, li48, li57, li60, li99, li100, li126, li150, li176, li177, li187, li197, li207, li208, li223, li304, li608, li1520, li1824, nI_add, pk_mul, nI_clamp, nI_leI, nI_ltI, nI_eq, zn_inb, zn_gd, zn_bs, zn_isb, not_true_eq_false, not_false_eq_true, ↓reduceIte, pk_div, pk_sub, zn_rem20, zn_rem2, zn_m1, zn_eqw, zn_weq, zn_weq2, zn_wlt0, zn_wltn, zn_win, zn_wcl, zn_wadd, Nat.not_lt_zero, Nat.one_ne_zero, Nat.zero_ne_one, Nat.le_refl, Nat.zero_le, zn_sel_r, zn_sel_l, fX9_fails, e3, e5, fX9_ticksBySums_B43, fX9_ticksBySums_B56]
        exact ⟨_, rfl, rfl, rfl, rfl, hK⟩
      exact ⟨_, _, y, ex, Or.inr ⟨1, _, rfl, rfl, rfl⟩, ek, y0, (fun u hu => by cases hu), ZI.gen hn hH hB (hX.of rfl rfl rfl rfl rfl rfl rfl rfl rfl rfl rfl rfl rfl rfl rfl ) yk gn h99 rfl rfl rfl y4 y8 rfl rfl rfl rfl⟩
  · have e3 := e2 (sr K 0 (upd (K 0) 0 (nI 0))) hK0
    have ex : fX8_ticksBySums M x1 = some (.inl "java/lang/IndexOutOfBoundsException") := by
      unfold fX8_ticksBySums
      simp (disch := omega) only [li0, li1, li2, li3, li4, li5, li6, li7, li8, li9, li10, li12, li13, li14, li15, li19, li20, li31, li33, li40, li42, li44, li48, li57, li60, li99, li100, li126, li150, li176, li177, li187, li197, li207, li208, li223, li304, li608, li1520, li1824, nI_add, pk_mul, nI_clamp, nI_leI, nI_ltI, nI_eq, zn_inb, zn_gd, zn_bs, zn_isb, not_true_eq_false, not_false_eq_true, ↓reduceIte, pk_div, pk_sub, zn_rem20, zn_rem2, zn_m1, zn_eqw, zn_weq, zn_weq2, zn_wlt0, zn_wltn, zn_win, zn_wcl, zn_wadd, Nat.not_lt_zero, Nat.one_ne_zero, Nat.zero_ne_one, Nat.le_refl, Nat.zero_le, zn_sel_r, zn_sel_l, e1]
    obtain ⟨y, ek, y0, y4, y8, yk⟩ : ∃ y : Int32 × Mem, fX9_ticksBySums K x1 = some y ∧ y.2 0 0 = nI 1 ∧ y.2 0 4 = K 0 4 ∧ y.2 0 8 = K 0 8 ∧ RK (y.2 1) S := by
      unfold fX9_ticksBySums
      simp (disch := omega) only [li0, li1, li2, li3, li4, li5, li6, li7, li8, li9, li10, li12, li13, li14, li15, li19, li20, li31, li33, li40, li42, li44, li48, li57, li60, li99, li100, li126, li150, li176, li177, li187, li197, li207, li208, li223, li304, li608, li1520, li1824, nI_add, pk_mul, nI_clamp, nI_leI, nI_ltI, nI_eq, zn_inb, zn_gd, zn_bs, zn_isb, not_true_eq_false, not_false_eq_true, ↓reduceIte, pk_div, pk_sub, zn_rem20, zn_rem2, zn_m1, zn_eqw, zn_weq, zn_weq2, zn_wlt0, zn_wltn, zn_win, zn_wcl, zn_wadd, Nat.not_lt_zero, Nat.one_ne_zero, Nat.zero_ne_one, Nat.le_refl, Nat.zero_le, zn_sel_r, zn_sel_l, fX9_fails, e3, fX9_ticksBySums_B43, fX9_ticksBySums_B56]
      exact ⟨_, rfl, rfl, rfl, rfl, hK⟩
    exact ⟨_, _, y, ex, Or.inr ⟨0, _, rfl, rfl, rfl⟩, ek, y0, (fun u hu => by cases hu), ZI.gen hn hH hB (hX.of rfl rfl rfl rfl rfl rfl rfl rfl rfl rfl rfl rfl rfl rfl rfl ) yk gn h99 rfl rfl rfl y4 y8 rfl rfl rfl rfl⟩
theorem zt_servable : St_servable ZI := by
  intro n C M K  hn h
  obtain ⟨S, T, hc, ⟨hX, hK, g, h99⟩, hH, hB⟩ := id h
  have hc12 := g.c12
  have h8 := g.o8
  have lo := g.lo
  have hw12 := g.1.2.1
  have hT : RT (ofs 2 M) S := hX.t
  have hK0 : RK ((sr K 0 (upd (K 0) 0 (nI 0))) 1) S := hK
  have gn := g.nx hn
  have e4 := zr_win hX (by omega)
  have e5 := zk_hasWindow (K := (sr K 0 (upd (K 0) 0 (nI 0)))) hK0 (by omega)
  by_cases c1 : S 1 1 = 0
  · rw [if_pos c1] at e4 e5
    obtain ⟨yc, ec, hyc⟩ := zx_copyFrom (M := pk [17, 18, 19, 20, 21, 22, 23, 24, 25, 26, 27, 28, 29, 30, 31, 32, 1, 2, 3, 4, 5, 6, 7, 8, 9, 10, 11, 12, 13, 14, 15, 16] M) (S := S) hX lo.2.1 lo.2.2.2
    obtain ⟨zo, eo, hzo, -⟩ := zx_serveEach (M := ofs 17 (sr (sr (sr (sr (sr (sr (sr (sr (sr (sr (sr (sr (sr (sr (sr M 17 (yc 0)) 18 (yc 1)) 19 (yc 2)) 20 (yc 3)) 21 (yc 4)) 22 (yc 5)) 23 (yc 6)) 24 (yc 7)) 25 (yc 8)) 27 (yc 10)) 28 (yc 11)) 29 (yc 12)) 30 (yc 13)) 31 (yc 14)) 32 (yc 15))) (S := S) (u := 192 * n) (hyc.of rfl rfl rfl rfl rfl rfl rfl rfl rfl rfl rfl rfl rfl rfl rfl ) g h99 c1 (by omega)
    have v1 : zo 0 4 = nI ((zo_all 8 S).1 0 4) := hzo.2.1.2.2.2.2.2.1
    have v2 : M 1 4 = nI (S 0 4) := hX.2.1.2.2.2.2.2.1
    obtain ⟨z2, ex⟩ : ∃ z2, fX8_servable M = some (.inr (nI ((zo_all 8 S).1 0 4) - nI (S 0 4)), z2) := by
      unfold fX8_servable
      simp only [e4, ec, eo, zn_bs, zn_sel_r, v1, v2]
      exact ⟨_, rfl⟩
    obtain ⟨ya, ea, hya⟩ := zk_putAside (K := (sr K 0 (upd (K 0) 0 (nI 0))))
    obtain ⟨yb, eb, hyb⟩ := zk_servesAll (K := sr (sr K 0 (upd (K 0) 0 (nI 0))) 2 (ya 2)) (S := S) (u := 192 * n) hK0 g h99 c1 (by omega)
    obtain ⟨yd, ed, hyd⟩ := zk_takeBack (K := sr (sr (sr (sr K 0 (upd (K 0) 0 (nI 0))) 1 (yb 1)) 2 (ya 2)) 8 (yb 8))
    have yk0 : RK (yd 1) S := hK0.of hc12 h8 (fun i hi => (hyd i hi).trans (hya i hi))
    have w1 : yb 1 6 = nI ((zo_all 8 S).1 0 4) := hyb.2.2.2.2.1.2.2.2.2.1
    have w2 : yd 1 6 = nI (S 0 4) := yk0.2.2.2.2.1.2.2.2.2.1
    obtain ⟨y, ek, y0, y4, y8, yk, y1⟩ : ∃ y : Int32 × Mem, fX9_servable K = some y ∧ y.2 0 0 = nI 0 ∧ y.2 0 4 = K 0 4 ∧ y.2 0 8 = K 0 8 ∧ RK (y.2 1) S ∧ nI ((zo_all 8 S).1 0 4) - nI (S 0 4) = y.1 := by
      unfold fX9_servable
      simp only [li0, li6, e5, ea, eb, ed, zn_bs, zn_inb (show 6 < 304 by omega) (by omega), zn_gd, nI_clamp (show 6 < 2 ^ 31 by omega), w1, w2, ↓reduceIte]
      exact ⟨_, rfl, rfl, rfl, rfl, yk0, rfl⟩
    exact ⟨_, _, _, y, ex, Or.inl ⟨_, rfl, rfl⟩, ek, y0, (fun u hu => by cases hu; exact y1), ZI.gen hn hH hB (hX.of rfl rfl rfl rfl rfl rfl rfl rfl rfl rfl rfl rfl rfl rfl rfl ) yk gn h99 rfl rfl rfl y4 y8 rfl rfl rfl rfl⟩
  · rw [if_neg c1] at e4 e5
    have ex : fX8_servable M  = some (.inl "java/lang/IllegalStateException", M) := by
      unfold fX8_servable
      simp (disch := omega) only [li0, li1, li2, li3, li4, li5, li6, li7, li8, li9, li10, li12, li13, li14, li15, li19, li20, li31, li33, li40, li42, li44, li48, li57, li60, li99, li100, li126, li150, li176, li177, li187, li197, li207, li208, li223, li304, li608, li1520, li1824, nI_add, pk_mul, nI_clamp, nI_leI, nI_ltI, nI_eq, zn_inb, zn_gd, zn_bs, zn_isb, not_true_eq_false, not_false_eq_true, ↓reduceIte, pk_div, pk_sub, zn_rem20, zn_rem2, zn_m1, zn_eqw, zn_weq, zn_weq2, zn_wlt0, zn_wltn, zn_win, zn_wcl, zn_wadd, Nat.not_lt_zero, Nat.one_ne_zero, Nat.zero_ne_one, Nat.le_refl, Nat.zero_le, zn_sel_r, zn_sel_l, e4]
    obtain ⟨y, ek, y0, y4, y8, yk⟩ : ∃ y : Int32 × Mem, fX9_servable K  = some y ∧ y.2 0 0 = nI 1 ∧ y.2 0 4 = K 0 4 ∧ y.2 0 8 = K 0 8 ∧ RK (y.2 1) S := by
      unfold fX9_servable
      simp (disch := omega) only [li0, li1, li2, li3, li4, li5, li6, li7, li8, li9, li10, li12, li13, li14, li15, li19, li20, li31, li33, li40, li42, li44, li48, li57, li60, li99, li100, li126, li150, li176, li177, li187, li197, li207, li208, li223, li304, li608, li1520, li1824, nI_add, pk_mul, nI_clamp, nI_leI, nI_ltI, nI_eq, zn_inb, zn_gd, zn_bs, zn_isb, not_true_eq_false, not_false_eq_true, ↓reduceIte, pk_div, pk_sub, zn_rem20, zn_rem2, zn_m1, zn_eqw, zn_weq, zn_weq2, zn_wlt0, zn_wltn, zn_win, zn_wcl, zn_wadd, Nat.not_lt_zero, Nat.one_ne_zero, Nat.zero_ne_one, Nat.le_refl, Nat.zero_le, zn_sel_r, zn_sel_l, fX9_fails, e5]
      exact ⟨_, rfl, rfl, rfl, rfl, hK⟩
    exact ⟨_, _, _, y, ex, Or.inr ⟨0, _, rfl, rfl, rfl⟩, ek, y0, (fun u hu => by cases hu), ZI.gen hn hH hB (hX.of rfl rfl rfl rfl rfl rfl rfl rfl rfl rfl rfl rfl rfl rfl rfl ) yk gn h99 rfl rfl rfl y4 y8 rfl rfl rfl rfl⟩
