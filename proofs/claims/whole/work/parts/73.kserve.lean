set_option maxHeartbeats 400000
/-! an order is served: the reference -/
section
variable {K : Mem} {S : SM} {u : Nat}
theorem zk_gives_L {f r : Nat} {X : SM} {W : Nat → Nat} (hf : f < X 1 0) (hc : X 1 0 ≤ 12) (g : ∀ n, n ≤ 10 → (∀ k, k < 10 → zo_give X f r n 5 (f * 10 + k) ≤ 150 ∧ zo_give X f r n 15 (r * 10 + k) ≤ 20)) {kx : Mem → Option Mem} {Q : Mem → Prop} (hk : ∀ N, RK (N 1) (sw (zo_give X f r 10) 15 W) → rn 10 (N 8) (fun k => zo_give X f r 10 15 (r * 10 + k)) → ∃ z, kx N = some z ∧ Q z) : ∀ d k n N, k + d = 10 → d < n → RK (N 1) (sw (zo_give X f r k) 15 W) → rn 10 (N 8) (fun j => zo_give X f r k 15 (r * 10 + j)) → ∃ z, fX9_gives_L9 K n kx N (nI f) (nI k) = some z ∧ Q z := by
  intro d
  induction d with
  | zero =>
    intro k n N hk_ hn h h8
    obtain ⟨m, rfl⟩ : ∃ m, n = m + 1 := ⟨n - 1, by omega⟩
    obtain rfl : k = 10 := by omega
    rw [fX9_gives_L9]
    simp (disch := omega) only [li0, li1, li2, li3, li4, li5, li6, li7, li8, li9, li10, li12, li13, li14, li15, li19, li20, li31, li33, li40, li42, li44, li48, li57, li60, li99, li100, li126, li150, li176, li177, li187, li197, li207, li208, li223, li304, li608, li1520, li1824, nI_add, pk_mul, nI_clamp, nI_leI, nI_ltI, nI_eq, zn_inb, zn_gd, zn_bs, zn_isb, not_true_eq_false, not_false_eq_true, ↓reduceIte, pk_div, pk_sub, zn_rem20, zn_rem2, zn_m1, zn_eqw, zn_weq, zn_weq2, zn_wlt0, zn_wltn, zn_win, zn_wcl, zn_wadd, Nat.not_lt_zero, Nat.one_ne_zero, Nat.zero_ne_one, Nat.le_refl, Nat.zero_le, zn_sel_r, zn_sel_l]
    exact hk _ h h8
  | succ d ih =>
    intro k n N hk_ hn h h8
    obtain ⟨m, rfl⟩ : ∃ m, n = m + 1 := ⟨n - 1, by omega⟩
    have c : ¬ 10 ≤ k := by omega
    have e1 : zo_give X f r k 1 = X 1 := zo_give_1 X f r k
    have hf1 : f < sw (zo_give X f r k) 15 W 1 0 := by
      show f < zo_give X f r k 1 0
      rw [e1]
      exact hf
    have hc1 : sw (zo_give X f r k) 15 W 1 0 ≤ 12 := by
      show zo_give X f r k 1 0 ≤ 12
      rw [e1]
      exact hc
    obtain ⟨b1, b2⟩ := g k (by omega) k (by omega)
    have o1 : fX9_of (sr (sr K 1 (N 1)) 8 (N 8)) (nI f) (nI (4 + k)) = some (nI (zo_give X f r k 5 (f * 10 + k))) := zk_of4 (K := sr (sr K 1 (N 1)) 8 (N 8)) h hc1 hf1 (by omega)
    have n8 : N 8 k = nI (zo_give X f r k 15 (r * 10 + k)) := h8 k (by omega)
    have ml := zo_m_le f r k (zo_give X f r k)
    have l1 : fX9_lay (sr (sr K 1 (N 1)) 8 (N 8)) (nI f) (nI (4 + k)) (nI (zo_give X f r k 5 (f * 10 + k) - zo_m f r k (zo_give X f r k))) = some (sr (sr (sr K 1 (N 1)) 8 (N 8)) 1 (upd (N 1) (9 + 14 * f + (4 + k)) (nI (zo_give X f r k 5 (f * 10 + k) - zo_m f r k (zo_give X f r k))))) := zk_lay4 hc hf (by omega) _
    have h13 := (h.2.2.2.2.2.1 k (by omega)).2.2
    have s13 : upd (N 1) (9 + 14 * f + (4 + k)) (nI (zo_give X f r k 5 (f * 10 + k) - zo_m f r k (zo_give X f r k))) (197 + k) - nI (zo_m f r k (zo_give X f r k)) = nI (zo_give X f r k 12 k) - nI (zo_give X f r k 13 k + zo_m f r k (zo_give X f r k)) := by
      rw [up_n (by omega), h13, ← nI_add, zn_sub_add]
      rfl
    have fin : ∃ z, fX9_gives_L9 K m kx (sr (sr K 1 (upd (upd (N 1) (9 + 14 * f + (4 + k)) (nI (zo_give X f r k 5 (f * 10 + k) - zo_m f r k (zo_give X f r k)))) (197 + k) (nI (zo_give X f r k 12 k) - nI (zo_give X f r k 13 k + zo_m f r k (zo_give X f r k))))) 8 (upd (N 8) k (nI (zo_give X f r k 15 (r * 10 + k) - zo_m f r k (zo_give X f r k))))) (nI f) (nI (k + 1)) = some z ∧ Q z := by
      refine ih (k + 1) m _ (by omega) (by omega) ?_ ?_
      · have h1 := (h.ut hc1 hf1 (show k < 10 by omega) (zo_give X f r k 5 (f * 10 + k) - zo_m f r k (zo_give X f r k))).un13 hc1 (show k < 10 by omega) (zo_give X f r k 13 k + zo_m f r k (zo_give X f r k))
        exact h1.row rfl rfl rfl rfl rfl rfl rfl rfl rfl rfl rfl rfl rfl rfl rfl
      · intro j hj
        show upd (N 8) k (nI (zo_give X f r k 15 (r * 10 + k) - zo_m f r k (zo_give X f r k))) j = nI (uw (zo_give X f r k 15) (r * 10 + k) (zo_give X f r k 15 (r * 10 + k) - zo_m f r k (zo_give X f r k)) (r * 10 + j))
        by_cases e : j = k
        · subst e
          rw [up_s, uw_s]
        · rw [up_n e, uw_n (by omega)]
          exact h8 j hj
    have r1 : sr (sr (sr K 1 (N 1)) 8 (N 8)) 1 (upd (N 1) (9 + 14 * f + (4 + k)) (nI (zo_give X f r k 5 (f * 10 + k) - zo_m f r k (zo_give X f r k)))) 1 = upd (N 1) (9 + 14 * f + (4 + k)) (nI (zo_give X f r k 5 (f * 10 + k) - zo_m f r k (zo_give X f r k))) := rfl
    have r2 : sr (sr K 1 (N 1)) 8 (N 8) 1 = N 1 := rfl
    have r3 : sr (sr K 1 (N 1)) 8 (N 8) 8 = N 8 := rfl
    rw [fX9_gives_L9]
    by_cases q : zo_give X f r k 15 (r * 10 + k) ≤ zo_give X f r k 5 (f * 10 + k)
    · have em : zo_m f r k (zo_give X f r k) = zo_give X f r k 15 (r * 10 + k) := by
        unfold zo_m
        split <;> omega
      rw [em] at fin l1 s13 r1
      simp (disch := omega) only [li0, li1, li2, li3, li4, li5, li6, li7, li8, li9, li10, li12, li13, li14, li15, li19, li20, li31, li33, li40, li42, li44, li48, li57, li60, li99, li100, li126, li150, li176, li177, li187, li197, li207, li208, li223, li304, li608, li1520, li1824, nI_add, pk_mul, nI_clamp, nI_leI, nI_ltI, nI_eq, zn_inb, zn_gd, zn_bs, zn_isb, not_true_eq_false, not_false_eq_true, ↓reduceIte, pk_div, pk_sub, zn_rem20, zn_rem2, zn_m1, zn_eqw, zn_weq, zn_weq2, zn_wlt0, zn_wltn, zn_win, zn_wcl, zn_wadd, Nat.not_lt_zero, Nat.one_ne_zero, Nat.zero_ne_one, Nat.le_refl, Nat.zero_le, zn_sel_r, zn_sel_l, c, o1, n8, q, fX9_gives_B49, r2, r3]
      rw [l1, zn_bs, r1, s13]
      exact fin
    · have em : zo_m f r k (zo_give X f r k) = zo_give X f r k 5 (f * 10 + k) := by
        unfold zo_m
        split <;> omega
      rw [em] at fin l1 s13 r1
      simp (disch := omega) only [li0, li1, li2, li3, li4, li5, li6, li7, li8, li9, li10, li12, li13, li14, li15, li19, li20, li31, li33, li40, li42, li44, li48, li57, li60, li99, li100, li126, li150, li176, li177, li187, li197, li207, li208, li223, li304, li608, li1520, li1824, nI_add, pk_mul, nI_clamp, nI_leI, nI_ltI, nI_eq, zn_inb, zn_gd, zn_bs, zn_isb, not_true_eq_false, not_false_eq_true, ↓reduceIte, pk_div, pk_sub, zn_rem20, zn_rem2, zn_m1, zn_eqw, zn_weq, zn_weq2, zn_wlt0, zn_wltn, zn_win, zn_wcl, zn_wadd, Nat.not_lt_zero, Nat.one_ne_zero, Nat.zero_ne_one, Nat.le_refl, Nat.zero_le, zn_sel_r, zn_sel_l, c, o1, n8, q, fX9_gives_B49, r2, r3]
      rw [l1, zn_bs, r1, s13]
      exact fin
theorem zk_gives {f r : Nat} {X : SM} {W : Nat → Nat} (h : RK (K 1) (sw X 15 W)) (h8 : rn 10 (K 8) (fun k => X 15 (r * 10 + k))) (g : GX u X) (h99 : X 99 0 = 1) (hw : X 1 1 = f + 1) (hr : r < X 14 0) : ∃ z, fX9_gives K = some z ∧ RK (z 1) (sw (zo_give X f r 10) 15 W) ∧ rn 10 (z 8) (fun k => zo_give X f r 10 15 (r * 10 + k)) := by
  have hw2 := g.1.2.1
  have hf : f < X 1 0 := by omega
  have e1 : K 1 1 = nI f := h.2.1.trans (by show wI (X 1 1) = nI f; rw [hw, wI_s])
  unfold fX9_gives
  simp (disch := omega) only [li0, li1, li2, li3, li4, li5, li6, li7, li8, li9, li10, li12, li13, li14, li15, li19, li20, li31, li33, li40, li42, li44, li48, li57, li60, li99, li100, li126, li150, li176, li177, li187, li197, li207, li208, li223, li304, li608, li1520, li1824, nI_add, pk_mul, nI_clamp, nI_leI, nI_ltI, nI_eq, zn_inb, zn_gd, zn_bs, zn_isb, not_true_eq_false, not_false_eq_true, ↓reduceIte, pk_div, pk_sub, zn_rem20, zn_rem2, zn_m1, zn_eqw, zn_weq, zn_weq2, zn_wlt0, zn_wltn, zn_win, zn_wcl, zn_wadd, Nat.not_lt_zero, Nat.one_ne_zero, Nat.zero_ne_one, Nat.le_refl, Nat.zero_le, zn_sel_r, zn_sel_l, e1]
  refine zk_gives_L (X := X) (r := r) (W := W) hf g.c12 (fun n hn k hk => ?_) (fun N h1 h2 => ⟨_, rfl, h1, h2⟩) 10 0 5000 K (by omega) (by omega) h h8
  have gg := g.give (f := f) (r := r) h99 n
  exact ⟨gg.th f k (by rw [zo_give_1]; exact hf) hk, gg.wn r k (by rw [zo_give_14]; exact hr) hk⟩
theorem zk_drops_L {c r : Nat} {g : Nat → Int32} (hc : c ≤ 7) {kx : Mem → Option Mem} {Q : Mem → Prop} (hk : ∀ N, (∀ i, i < 304 → N 1 i = if 223 + 10 * r ≤ i ∧ i < 223 + 10 * c then g (i + 10) else g i) → ∃ z, kx N = some z ∧ Q z) : ∀ d j n N, j + d = 10 * c → 10 * r ≤ j → d < n → N 1 8 = nI c → g 8 = nI c → (∀ i, i < 304 → N 1 i = if 223 + 10 * r ≤ i ∧ i < 223 + j then g (i + 10) else g i) → ∃ z, fX9_drops_L16 K n kx N (nI j) = some z ∧ Q z := by
  intro d
  induction d with
  | zero =>
    intro j n N hj hr hn h0 hg h1
    obtain ⟨m, rfl⟩ : ∃ m, n = m + 1 := ⟨n - 1, by omega⟩
    have q : 10 * c ≤ j := by omega
    rw [fX9_drops_L16]
    simp (disch := omega) only [li0, li1, li2, li3, li4, li5, li6, li7, li8, li9, li10, li12, li13, li14, li15, li19, li20, li31, li33, li40, li42, li44, li48, li57, li60, li99, li100, li126, li150, li176, li177, li187, li197, li207, li208, li223, li304, li608, li1520, li1824, nI_add, pk_mul, nI_clamp, nI_leI, nI_ltI, nI_eq, zn_inb, zn_gd, zn_bs, zn_isb, not_true_eq_false, not_false_eq_true, ↓reduceIte, pk_div, pk_sub, zn_rem20, zn_rem2, zn_m1, zn_eqw, zn_weq, zn_weq2, zn_wlt0, zn_wltn, zn_win, zn_wcl, zn_wadd, Nat.not_lt_zero, Nat.one_ne_zero, Nat.zero_ne_one, Nat.le_refl, Nat.zero_le, zn_sel_r, zn_sel_l, h0, q]
    exact hk _ (by rw [show 10 * c = j by omega]; exact h1)
  | succ d ih =>
    intro j n N hj hr hn h0 hg h1
    obtain ⟨m, rfl⟩ : ∃ m, n = m + 1 := ⟨n - 1, by omega⟩
    have q : ¬ 10 * c ≤ j := by omega
    rw [fX9_drops_L16]
    simp (disch := omega) only [li0, li1, li2, li3, li4, li5, li6, li7, li8, li9, li10, li12, li13, li14, li15, li19, li20, li31, li33, li40, li42, li44, li48, li57, li60, li99, li100, li126, li150, li176, li177, li187, li197, li207, li208, li223, li304, li608, li1520, li1824, nI_add, pk_mul, nI_clamp, nI_leI, nI_ltI, nI_eq, zn_inb, zn_gd, zn_bs, zn_isb, not_true_eq_false, not_false_eq_true, ↓reduceIte, pk_div, pk_sub, zn_rem20, zn_rem2, zn_m1, zn_eqw, zn_weq, zn_weq2, zn_wlt0, zn_wltn, zn_win, zn_wcl, zn_wadd, Nat.not_lt_zero, Nat.one_ne_zero, Nat.zero_ne_one, Nat.le_refl, Nat.zero_le, zn_sel_r, zn_sel_l, h0, q]
    refine ih (j + 1) m _ (by omega) (by omega) (by omega) ((up_n (by omega)).trans h0) hg (fun i hi => ?_)
    show upd (N 1) (223 + j) (N 1 (223 + j + 10)) i = _
    by_cases e : i = 223 + j
    · subst e
      rw [up_s, if_pos (by omega), h1 _ (by omega), if_neg (by omega)]
    · rw [up_n e, h1 i hi]
      by_cases b : 223 + 10 * r ≤ i ∧ i < 223 + j
      · rw [if_pos b, if_pos (by omega)]
      · rw [if_neg b, if_neg (by omega)]
theorem zk_drops {s0 : SM} (h : RK (K 1) s0) (hc : s0 1 0 ≤ 12) (h8 : s0 14 0 ≤ 8) {x : Nat} (hx : x < s0 14 0) : ∃ z, fX9_drops K (nI x) = some z ∧ RK (z 1) (zo_drop s0 x) := by
  have e8 := h.2.2.2.2.1.2.2.2.2.2.2
  unfold fX9_drops
  simp (disch := omega) only [li0, li1, li2, li3, li4, li5, li6, li7, li8, li9, li10, li12, li13, li14, li15, li19, li20, li31, li33, li40, li42, li44, li48, li57, li60, li99, li100, li126, li150, li176, li177, li187, li197, li207, li208, li223, li304, li608, li1520, li1824, nI_add, pk_mul, nI_clamp, nI_leI, nI_ltI, nI_eq, zn_inb, zn_gd, zn_bs, zn_isb, not_true_eq_false, not_false_eq_true, ↓reduceIte, pk_div, pk_sub, zn_rem20, zn_rem2, zn_m1, zn_eqw, zn_weq, zn_weq2, zn_wlt0, zn_wltn, zn_win, zn_wcl, zn_wadd, Nat.not_lt_zero, Nat.one_ne_zero, Nat.zero_ne_one, Nat.le_refl, Nat.zero_le, zn_sel_r, zn_sel_l, e8]
  refine zk_drops_L (c := s0 14 0 - 1) (r := x) (g := upd (K 1) 8 (nI (s0 14 0 - 1))) (by omega) (fun N hN => ⟨_, rfl, ?_⟩) (10 * (s0 14 0 - 1) - 10 * x) (10 * x) 5000 _ (by omega) (by omega) (by omega) (show upd (K 1) 8 _ 8 = _ from up_s _ _ _) (up_s _ _ _) (fun i hi => by rw [if_neg (by omega)]; rfl)
  have lo : ∀ i, i < 223 → i ≠ 8 → N 1 i = K 1 i := fun i hi hn => by
    rw [hN i (by omega), if_neg (by omega), up_n hn]
  exact ⟨((lo _ (by omega) (by omega)).trans h.1), ((lo _ (by omega) (by omega)).trans h.2.1), fun f hf => have hf : f < s0 1 0 := hf; ⟨((lo _ (by omega) (by omega)).trans (h.2.2.1 f hf).1), ((lo _ (by omega) (by omega)).trans (h.2.2.1 f hf).2.1), ((lo _ (by omega) (by omega)).trans (h.2.2.1 f hf).2.2.1), ((lo _ (by omega) (by omega)).trans (h.2.2.1 f hf).2.2.2)⟩, fun f k hf hk => have hf : f < s0 1 0 := hf; ((lo _ (by omega) (by omega)).trans (h.2.2.2.1 f k hf hk)), ⟨((lo _ (by omega) (by omega)).trans h.2.2.2.2.1.1), ((lo _ (by omega) (by omega)).trans h.2.2.2.2.1.2.1), ((lo _ (by omega) (by omega)).trans h.2.2.2.2.1.2.2.1), ((lo _ (by omega) (by omega)).trans h.2.2.2.2.1.2.2.2.1), ((lo _ (by omega) (by omega)).trans h.2.2.2.2.1.2.2.2.2.1), ((lo _ (by omega) (by omega)).trans h.2.2.2.2.1.2.2.2.2.2.1), ((hN 8 (by omega)).trans (by rw [if_neg (by omega)]; exact up_s _ _ _))⟩, fun k hk => ⟨((lo _ (by omega) (by omega)).trans (h.2.2.2.2.2.1 k hk).1), ((lo _ (by omega) (by omega)).trans (h.2.2.2.2.2.1 k hk).2.1), ((lo _ (by omega) (by omega)).trans (h.2.2.2.2.2.1 k hk).2.2)⟩, fun i hi => ⟨((lo _ (by omega) (by omega)).trans (h.2.2.2.2.2.2.1 i hi).1), ((lo _ (by omega) (by omega)).trans (h.2.2.2.2.2.2.1 i hi).2)⟩, fun r k hr hk => have hr : r < s0 14 0 - 1 := hr; (by
  show N 1 (223 + 10 * r + k) = nI (if x * 10 ≤ r * 10 + k ∧ r * 10 + k < (s0 14 0 - 1) * 10 then s0 15 (r * 10 + k + 10) else s0 15 (r * 10 + k))
  rw [hN _ (by omega)]
  by_cases q : x ≤ r
  · rw [if_pos (by omega), if_pos (by omega), up_n (by omega)]
    have := h.2.2.2.2.2.2.2 (r + 1) k (by omega) hk
    rwa [show 223 + 10 * (r + 1) + k = 223 + 10 * r + k + 10 by omega, show (r + 1) * 10 + k = r * 10 + k + 10 by omega] at this
  · rw [if_neg (by omega), if_neg (by omega), up_n (by omega)]
    exact h.2.2.2.2.2.2.2 r k (by omega) hk)⟩
theorem RK.h15 {s : Nat → Int32} {X : SM} {W : Nat → Nat} (h : RK s (sw X 15 W)) (e : ∀ r k, r < X 14 0 → k < 10 → W (r * 10 + k) = X 15 (r * 10 + k)) : RK s X := ⟨h.1, h.2.1, h.2.2.1, h.2.2.2.1, h.2.2.2.2.1, h.2.2.2.2.2.1, h.2.2.2.2.2.2.1, fun r k hr hk => (h.2.2.2.2.2.2.2 r k hr hk).trans (congrArg nI (e r k hr hk))⟩
theorem zk_need_L {r b v : Nat} (h : RK (K 1) S) (g : GX u S) (hr : r < S 14 0) {kx : Mem → Int32 → Int32 → Int32 → Option (Int32 × Mem)} {w : Int32} {Q : Mem → Prop} (hk : ∀ N, N 1 = K 1 → rn 10 (N 8) (fun k => S 15 (r * 10 + k)) → ∃ z, kx N (nI r) (nI b) (nI v) = some (w, z) ∧ Q z) : ∀ d k n N, k + d = 10 → d < n → N 1 = K 1 → (∀ j, j < k → N 8 j = nI (S 15 (r * 10 + j))) → ∃ z, fX9_serves_L11 K n kx N (nI r) (nI b) (nI v) (nI k) = some (w, z) ∧ Q z := by
  have h8 := g.o8
  intro d
  induction d with
  | zero =>
    intro k n N hk_ hn h1 h2
    obtain ⟨m, rfl⟩ : ∃ m, n = m + 1 := ⟨n - 1, by omega⟩
    have c : 10 ≤ k := by omega
    rw [fX9_serves_L11]
    simp (disch := omega) only [li0, li1, li2, li3, li4, li5, li6, li7, li8, li9, li10, li12, li13, li14, li15, li19, li20, li31, li33, li40, li42, li44, li48, li57, li60, li99, li100, li126, li150, li176, li177, li187, li197, li207, li208, li223, li304, li608, li1520, li1824, nI_add, pk_mul, nI_clamp, nI_leI, nI_ltI, nI_eq, zn_inb, zn_gd, zn_bs, zn_isb, not_true_eq_false, not_false_eq_true, ↓reduceIte, pk_div, pk_sub, zn_rem20, zn_rem2, zn_m1, zn_eqw, zn_weq, zn_weq2, zn_wlt0, zn_wltn, zn_win, zn_wcl, zn_wadd, Nat.not_lt_zero, Nat.one_ne_zero, Nat.zero_ne_one, Nat.le_refl, Nat.zero_le, zn_sel_r, zn_sel_l, c]
    exact hk _ h1 (fun j hj => h2 j (by omega))
  | succ d ih =>
    intro k n N hk_ hn h1 h2
    obtain ⟨m, rfl⟩ : ∃ m, n = m + 1 := ⟨n - 1, by omega⟩
    have c : ¬ 10 ≤ k := by omega
    have hN : RK ((sr (sr K 1 (N 1)) 8 (N 8)) 1) S := by
      show RK (N 1) S
      rw [h1]
      exact h
    have e := zk_wants hN g hr (k := k) (by omega)
    rw [fX9_serves_L11]
    simp (disch := omega) only [li0, li1, li2, li3, li4, li5, li6, li7, li8, li9, li10, li12, li13, li14, li15, li19, li20, li31, li33, li40, li42, li44, li48, li57, li60, li99, li100, li126, li150, li176, li177, li187, li197, li207, li208, li223, li304, li608, li1520, li1824, nI_add, pk_mul, nI_clamp, nI_leI, nI_ltI, nI_eq, zn_inb, zn_gd, zn_bs, zn_isb, not_true_eq_false, not_false_eq_true, ↓reduceIte, pk_div, pk_sub, zn_rem20, zn_rem2, zn_m1, zn_eqw, zn_weq, zn_weq2, zn_wlt0, zn_wltn, zn_win, zn_wcl, zn_wadd, Nat.not_lt_zero, Nat.one_ne_zero, Nat.zero_ne_one, Nat.le_refl, Nat.zero_le, zn_sel_r, zn_sel_l, c, e]
    refine ih (k + 1) m _ (by omega) (by omega) h1 (fun j hj => ?_)
    show upd (N 8) k (nI (S 15 (r * 10 + k))) j = _
    by_cases q : j = k
    · subst q
      exact up_s _ _ _
    · rw [up_n q]
      exact h2 j (by omega)
theorem sw_15_1 (Y : SM) (W : Nat → Nat) : sw Y 15 W 1 = Y 1 := rfl
theorem zs_sp_15 (Y : SM) (W : Nat → Nat) : zs_sp (sw Y 15 W) = zs_sp Y := rfl
theorem zs_to_15 (Y : SM) (W : Nat → Nat) (f : Nat) : zs_to (sw Y 15 W) f = zs_to Y f := rfl
theorem RK.put15 {s : Nat → Int32} {Y : SM} {W : Nat → Nat} {p : Nat} (h : RK s (zo_put (sw Y 15 W) p)) : RK s (sw (zo_put Y p) 15 W) := h.row rfl rfl rfl rfl rfl rfl rfl rfl rfl rfl rfl rfl rfl rfl rfl
theorem RK.bring15 {s : Nat → Int32} {Y : SM} {W : Nat → Nat} {f : Nat} (h : RK s (zo_bring (sw Y 15 W) f)) : RK s (sw (zo_bring Y f) 15 W) := h.row rfl rfl rfl rfl rfl rfl rfl rfl rfl rfl rfl rfl rfl rfl rfl
theorem zk_serve_L {r set : Nat} (g : GX u S) (h99 : S 99 0 = 1) (hw : S 1 1 = 0) (hr : r < S 14 0) (hs : set < 2 ^ 12) (hu : u + 24 ≤ 200000) {kx : Mem → Int32 → Int32 → Option (Int32 × Mem)} {w : Int32} {Q : Mem → Prop} (hk : ∀ N, RK (N 1) (sw (zo_loop S r set (S 1 0)) 15 (S 15)) → ∃ z, kx N (nI r) (nI (zo_loop S r set (S 1 0) 6 2 - S 6 2)) = some (w, z) ∧ Q z) : ∀ d f n N, f + d = S 1 0 → d < n → RK (N 1) (sw (zo_loop S r set f) 15 (S 15)) → rn 10 (N 8) (fun k => zo_loop S r set f 15 (r * 10 + k)) → ∃ z, fX9_serves_L41 K n kx N (nI r) (nI (zo_loop S r set f 6 2 - S 6 2)) (nI set) (nI f) = some (w, z) ∧ Q z := by
  have hc := g.c12
  intro d
  induction d with
  | zero =>
    intro f n N hf hn h h8
    obtain ⟨m, rfl⟩ : ∃ m, n = m + 1 := ⟨n - 1, by omega⟩
    have c : S 1 0 ≤ f := by omega
    have e0 : N 1 0 = nI (S 1 0) := h.1.trans (congrArg nI (zo_loop_r S r set hw f).1)
    rw [fX9_serves_L41]
    simp (disch := omega) only [li0, li1, li2, li3, li4, li5, li6, li7, li8, li9, li10, li12, li13, li14, li15, li19, li20, li31, li33, li40, li42, li44, li48, li57, li60, li99, li100, li126, li150, li176, li177, li187, li197, li207, li208, li223, li304, li608, li1520, li1824, nI_add, pk_mul, nI_clamp, nI_leI, nI_ltI, nI_eq, zn_inb, zn_gd, zn_bs, zn_isb, not_true_eq_false, not_false_eq_true, ↓reduceIte, pk_div, pk_sub, zn_rem20, zn_rem2, zn_m1, zn_eqw, zn_weq, zn_weq2, zn_wlt0, zn_wltn, zn_win, zn_wcl, zn_wadd, Nat.not_lt_zero, Nat.one_ne_zero, Nat.zero_ne_one, Nat.le_refl, Nat.zero_le, zn_sel_r, zn_sel_l, e0, c]
    rw [show f = S 1 0 by omega]
    refine hk _ ?_
    rw [show f = S 1 0 by omega] at h
    exact h
  | succ d ih =>
    intro f n N hf hn h h8
    obtain ⟨m, rfl⟩ : ∃ m, n = m + 1 := ⟨n - 1, by omega⟩
    have c : ¬ S 1 0 ≤ f := by omega
    obtain ⟨a1, a2, a3, a4, a5, a6, a7⟩ := zo_loop_r S r set hw f
    have e0 : N 1 0 = nI (S 1 0) := h.1.trans (congrArg nI a1)
    have zb := zn_bit1 (n := set) (f := f) (by omega) (by omega)
    have g1 := g.loop (r := r) (set := set) h99 hw hu f (by omega)
    have es : zo_loop S r set (f + 1) = zo_step r set f (zo_loop S r set f) := rfl
    have l62 := zo_loop_62 S r set f
    have s62 := zo_step_62 r set f (zo_loop S r set f)
    have ih1 := ih (f + 1) m
    rw [es, s62] at ih1
    unfold zo_step at ih1
    rw [fX9_serves_L41]
    cases q : set.testBit f
    · have zb1 : ¬ ((nI set >>> (nI f &&& nI 31)) &&& nI 1 = nI 1) := by
        rw [zb, q]
        decide
      rw [q, if_neg (by decide), if_neg (by decide), Nat.add_zero] at ih1
      simp (disch := omega) only [li0, li1, li2, li3, li4, li5, li6, li7, li8, li9, li10, li12, li13, li14, li15, li19, li20, li31, li33, li40, li42, li44, li48, li57, li60, li99, li100, li126, li150, li176, li177, li187, li197, li207, li208, li223, li304, li608, li1520, li1824, nI_add, pk_mul, nI_clamp, nI_leI, nI_ltI, nI_eq, zn_inb, zn_gd, zn_bs, zn_isb, not_true_eq_false, not_false_eq_true, ↓reduceIte, pk_div, pk_sub, zn_rem20, zn_rem2, zn_m1, zn_eqw, zn_weq, zn_weq2, zn_wlt0, zn_wltn, zn_win, zn_wcl, zn_wadd, Nat.not_lt_zero, Nat.one_ne_zero, Nat.zero_ne_one, Nat.le_refl, Nat.zero_le, zn_sel_r, zn_sel_l, e0, c, zb1, fX9_serves_B86]
      exact ih1 _ (by omega) (by omega) h h8
    · have zb1 := zb.mpr q
      rw [q, if_pos rfl, if_pos rfl] at ih1
      have gb := g1.bring (f := f) (by omega) (by omega)
      have gt := g1.t (f := f) (r := r) (by rw [a4]; exact h99) (by omega) (by omega)
      have ew := zo_t_w (zo_loop S r set f) f r
      have g15 : ∀ {v : Nat} {Y : SM}, GX v Y → Y 99 0 = 1 → Y 14 0 = S 14 0 → GX v (sw Y 15 (S 15)) := by
        intro v Y gY hY h14
        obtain ⟨b, b1, b2, b3, b4, b5, b6, b10, b11, b12, b13⟩ := id gY
        refine ⟨b, b1, b2, b3, fun i k hi hk => ?_, fun h => ?_, b6, b10, b11, b12, b13⟩
        · have hi2 : i < Y 14 0 := hi
          exact g.wn i k (by omega) hk
        · have : Y 99 0 = 0 := h
          omega
      have h99f : zo_loop S r set f 99 0 = 1 := by rw [a4]; exact h99
      have h14f : zo_loop S r set f 14 0 = S 14 0 := by rw [a3]
      have gA := g15 g1 h99f h14f
      have gT := g15 gt ((congrFun (zo_give_99 _ f r 10) 0).trans h99f) ((congrFun (zo_give_14 _ f r 10) 0).trans h14f)
      simp (disch := omega) only [li0, li1, li2, li3, li4, li5, li6, li7, li8, li9, li10, li12, li13, li14, li15, li19, li20, li31, li33, li40, li42, li44, li48, li57, li60, li99, li100, li126, li150, li176, li177, li187, li197, li207, li208, li223, li304, li608, li1520, li1824, nI_add, pk_mul, nI_clamp, nI_leI, nI_ltI, nI_eq, zn_inb, zn_gd, zn_bs, zn_isb, not_true_eq_false, not_false_eq_true, ↓reduceIte, pk_div, pk_sub, zn_rem20, zn_rem2, zn_m1, zn_eqw, zn_weq, zn_weq2, zn_wlt0, zn_wltn, zn_win, zn_wcl, zn_wadd, Nat.not_lt_zero, Nat.one_ne_zero, Nat.zero_ne_one, Nat.le_refl, Nat.zero_le, zn_sel_r, zn_sel_l, e0, c, zb1]
      refine zn_bk2 (zk_fetchesIt (K := sr (sr K 1 (N 1)) 8 (N 8)) (S := sw (zo_loop S r set f) 15 (S 15)) (u := u + 2 * f) h gA (by show f < zo_loop S r set f 1 0; omega)) (fun z1 h1 => ?_)
      refine zn_bk1 (zk_gives (X := zo_bring (zo_loop S r set f) f) (W := S 15) (u := u + 2 * f + 1) (f := f) (r := r) ?_ ?_ gb h99f rfl (by show r < zo_loop S r set f 14 0; omega)) (fun z2 hz2 => ?_)
      · exact h1.bring15
      · exact h8
      · obtain ⟨h2, h28⟩ := hz2
        have h2t : RK (z2 1) (sw (zo_t (zo_loop S r set f) f r) 15 (S 15)) := h2
        have e5 := zk_stowPlace (K := sr (sr K 1 (z2 1)) 8 (z2 8)) (S := sw (zo_t (zo_loop S r set f) f r) 15 (S 15)) h2t gT (by rw [sw_15_1]; omega)
        rw [zs_sp_15] at e5
        have fit := zs_sp_fit gt.1 (by omega)
        rw [e5, zn_bs]
        refine zn_bk2 (zk_stows (K := sr (sr K 1 (z2 1)) 8 (z2 8)) (S := sw (zo_t (zo_loop S r set f) f r) 15 (S 15)) (u := u + 2 * f + 1) h2t gT (by rw [sw_15_1]; omega) fit.1) (fun z3 h3 => ?_)
        have ea : zo_loop S r set f 6 2 - S 6 2 + zs_to (sw (zo_loop S r set f) 15 (S 15)) f + zs_way (zs_sp (zo_t (zo_loop S r set f) f r)) = zo_loop S r set f 6 2 + (zs_to (zo_loop S r set f) f + zs_way (zs_sp (zo_t (zo_loop S r set f) f r))) - S 6 2 := by
          rw [zs_to_15]
          omega
        simp only [fX9_serves_B86, li1, nI_add, ea]
        refine ih1 _ (by omega) (by omega) ?_ ?_
        · exact h3.put15
        · rw [zo_put_15]
          exact h28
theorem zk_serves (h : RK (K 1) S) (g : GX u S) (h99 : S 99 0 = 0) (hw : S 1 1 = 0) {r : Nat} (hr : r < S 14 0) (hcan : zs_can S r = true) (hu : u + 24 ≤ 200000) : ∃ z, fX9_serves K (nI r) = some (nI (zo_cost S r), z) ∧ RK (z 1) (zo_srv S r) := by
  obtain ⟨v, e1, hb⟩ := zk_chosen h g h99 hr hcan
  have ev := zs_set_of hb
  have hc := g.c12
  have h8 := g.o8
  obtain ⟨a1, a2, a3, a4, a5, a6, a7⟩ := zo_loop_r (zo_on S) r v hw (S 1 0)
  have hcost : zo_cost S r = zo_loop (zo_on S) r v (S 1 0) 6 2 - S 6 2 := by unfold zo_cost; rw [ev]
  unfold fX9_serves
  rw [e1, zn_bs, show (0 : Int32) = nI 0 from rfl]
  refine zk_need_L (b := 0) (v := v) h g hr (fun N h1 h2 => ?_) 10 0 5000 K (by omega) (by omega) rfl (fun j hj => absurd hj (by omega))
  have hst : zo_loop (zo_on S) r v 0 6 2 - zo_on S 6 2 = 0 := Nat.sub_self _
  have key := zk_serve_L (K := K) (S := zo_on S) (set := v) (r := r) (u := u) (w := nI (zo_cost S r)) (Q := fun z => RK (z 1) (zo_srv S r)) g.on rfl hw hr (zs_best_lt g hb) hu (kx := fun (N : Mem) (l1 : Int32) (l2 : Int32) => (fX9_drops (sr (sr K 1 (N 1)) 8 (N 8)) l1).bind fun r94 => gd (inb (6 : Int32) 304) (gd (inb (6 : Int32) 304) (some (l2, (sr (sr K 1 (upd (r94 1) (6 : Int32).toNatClampNeg (((r94 1) (6 : Int32).toNatClampNeg) + (1 : Int32)))) 8 (N 8)))))) (fun N hN => ?_) (S 1 0) 0 5000 (sr (sr K 1 (N 1)) 8 (N 8)) (Nat.zero_add _) (by omega) (by show RK (N 1) _; rw [h1]; exact h.row rfl rfl rfl rfl rfl rfl rfl rfl rfl rfl rfl rfl rfl rfl rfl) h2
  · rw [hst] at key
    exact key
  · have hN2 : RK (N 1) (sw (zo_loop (zo_on S) r v (S 1 0)) 15 (S 15)) := hN
    have hc2 : sw (zo_loop (zo_on S) r v (S 1 0)) 15 (S 15) 1 0 ≤ 12 := by
      show zo_loop (zo_on S) r v (S 1 0) 1 0 ≤ 12
      rw [a1]
      exact hc
    have h14 : zo_loop (zo_on S) r v (S 1 0) 14 0 = S 14 0 := by rw [a3]; rfl
    refine zn_bk1 (zk_drops (K := sr (sr K 1 (N 1)) 8 (N 8)) (s0 := sw (zo_loop (zo_on S) r v (S 1 0)) 15 (S 15)) hN2 hc2 (by show zo_loop (zo_on S) r v (S 1 0) 14 0 ≤ 8; omega) (x := r) (by show r < zo_loop (zo_on S) r v (S 1 0) 14 0; omega)) (fun z hz => ?_)
    have hz2 : RK (z 1) (zo_drop (zo_loop (zo_on S) r v (S 1 0)) r) := by
      refine RK.h15 (W := zo_drop (sw (zo_loop (zo_on S) r v (S 1 0)) 15 (S 15)) r 15) (hz.row rfl rfl rfl rfl rfl rfl rfl rfl rfl rfl rfl rfl rfl rfl rfl) (fun q k hq hk => ?_)
      have hq2 : q < S 14 0 - 1 := by rw [← h14]; exact hq
      show (if r * 10 ≤ q * 10 + k ∧ q * 10 + k < (zo_loop (zo_on S) r v (S 1 0) 14 0 - 1) * 10 then S 15 (q * 10 + k + 10) else S 15 (q * 10 + k)) = (if r * 10 ≤ q * 10 + k ∧ q * 10 + k < (zo_loop (zo_on S) r v (S 1 0) 14 0 - 1) * 10 then zo_loop (zo_on S) r v (S 1 0) 15 (q * 10 + k + 10) else zo_loop (zo_on S) r v (S 1 0) 15 (q * 10 + k))
      rw [h14]
      by_cases b : r ≤ q
      · rw [if_pos (by omega), if_pos (by omega), a7 _ (by omega)]
        rfl
      · rw [if_neg (by omega), if_neg (by omega), a7 _ (by omega)]
        rfl
    have e6 : z 1 6 = nI (zo_loop (zo_on S) r v (S 1 0) 0 4) := hz2.2.2.2.2.1.2.2.2.2.1
    have hz3 := hz2.u6 (zo_loop (zo_on S) r v (S 1 0) 0 4 + 1)
    simp (disch := omega) only [li0, li1, li2, li3, li4, li5, li6, li7, li8, li9, li10, li12, li13, li14, li15, li19, li20, li31, li33, li40, li42, li44, li48, li57, li60, li99, li100, li126, li150, li176, li177, li187, li197, li207, li208, li223, li304, li608, li1520, li1824, nI_add, pk_mul, nI_clamp, nI_leI, nI_ltI, nI_eq, zn_inb, zn_gd, zn_bs, zn_isb, not_true_eq_false, not_false_eq_true, ↓reduceIte, pk_div, pk_sub, zn_rem20, zn_rem2, zn_m1, zn_eqw, zn_weq, zn_weq2, zn_wlt0, zn_wltn, zn_win, zn_wcl, zn_wadd, Nat.not_lt_zero, Nat.one_ne_zero, Nat.zero_ne_one, Nat.le_refl, Nat.zero_le, zn_sel_r, zn_sel_l, e6]
    rw [hcost]
    refine ⟨_, rfl, ?_⟩
    unfold zo_srv
    rw [ev]
    exact hz3.row rfl rfl rfl rfl rfl rfl rfl rfl rfl rfl rfl rfl rfl rfl rfl
end
