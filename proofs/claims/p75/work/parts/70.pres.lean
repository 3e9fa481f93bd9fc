set_option maxHeartbeats 400000
/-! what the changes keep -/
theorem zs_way_le {p : Nat} (hp : p < 40) : zs_way p ≤ 21 := by
  unfold zs_way
  omega
theorem zs_dif_le {a b : Nat} (ha : a < 20) (hb : b < 20) : zs_dif a b ≤ 19 := by
  unfold zs_dif
  split <;> omega
theorem zs_to_le {S : SM} {u f : Nat} (g : GX u S) (hf : f < S 1 0) : zs_to S f ≤ 40 := by
  have b := g.1.2.2.1 f hf
  have h1 := zs_way_le (p := S 3 f) (by omega)
  have h2 := zs_dif_le (a := S 6 0) (b := S 3 f % 20) g.lo.1 (by omega)
  unfold zs_to
  omega
theorem zo_sh_lt {x : Nat} {g : Nat → Nat} (hx : x < 2) (h : ∀ i, i < 8 → g i < 2) : ∀ i, i < 8 → zo_sh x g i < 2 := by
  intro i hi
  unfold zo_sh
  split
  · exact hx
  · exact h _ (by omega)
theorem GX.bring {S : SM} {u f : Nat} (g : GX u S) (hf : f < S 1 0) (hu : u < 200000) : GX (u + 1) (zo_bring S f) := by
  have t := zs_to_le g hf
  obtain ⟨⟨a1, a2, a3, a4, a5, a6⟩, b1, b2, b3, b4, b5, ⟨b6, b7, b8, b9⟩, b10, b11, b12, b13⟩ := id g
  have us : ∀ i, i < S 1 0 → uw (S 4) f (S 4 f + 1) i ≤ u + 1 := by
    intro i hi
    unfold uw
    split
    · have := b10 f hf
      omega
    · have := b10 i hi
      omega
  refine ⟨⟨a1, ?_, a3, fun i hi => Nat.lt_of_le_of_lt (us i hi) (by omega), a5, a6⟩, b1, b2, b3, b4, b5, ⟨?_, b7, ?_, zo_sh_lt (by omega) b9⟩, us, ?_, ?_, by omega⟩
  · show f + 1 ≤ S 1 0
    omega
  · show 0 < 20
    omega
  · show min (S 6 4 + 1) 8 ≤ 8
    omega
  · show S 6 2 + zs_to S f ≤ 40 * (u + 1)
    omega
  · show S 6 3 + 1 ≤ u + 1
    omega
theorem zs_fit_apart {S : SM} {u : Nat} (g : GX u S) {x p : Nat} (hx : S 1 1 = x + 1) (hx2 : x < S 1 0) (h : zs_fq (zs_tq S) (S 2 x) p = true) {f : Nat} (hf : f < S 1 0) (hn : f ≠ x) : p + S 2 x ≤ S 3 f ∨ S 3 f + S 2 f ≤ p := by
  have bf := g.1.2.2.1 f hf
  have bx := g.1.2.2.1 x hx2
  obtain ⟨h1, h2⟩ := of_decide_eq_true h
  rcases Nat.lt_or_ge (S 3 f) (p + S 2 x) with q | q
  · rcases Nat.lt_or_ge p (S 3 f + S 2 f) with q2 | q2
    · exfalso
      have h3 := zs_none0.mp (h2 (S 3 f - p) (by omega)) f hf
      have h4 := of_decide_eq_false h3
      exact h4 (by omega)
    · exact Or.inr q2
  · exact Or.inl q
theorem GX.put {S : SM} {u p : Nat} (g : GX u S) (hw : 0 < S 1 1) (hp : p < 40) (h : zs_fq (zs_tq S) (S 2 (S 1 1 - 1)) p = true) (hu : u < 200000) : GX (u + 1) (zo_put S p) := by
  have w := zs_way_le hp
  have hw2 := g.1.2.1
  have ap := fun {f : Nat} => zs_fit_apart g (x := S 1 1 - 1) (p := p) (by omega) (by omega) h (f := f)
  have h1 := (of_decide_eq_true h).1
  obtain ⟨⟨a1, a2, a3, a4, a5, a6⟩, b1, b2, b3, b4, b5, ⟨b6, b7, b8, b9⟩, b10, b11, b12, b13⟩ := id g
  refine ⟨⟨a1, Nat.zero_le _, ?_, a4, a5, ?_⟩, b1, b2, b3, b4, b5, ⟨?_, b7, ?_, zo_sh_lt (by omega) b9⟩, fun i hi => Nat.le_succ_of_le (b10 i hi), ?_, ?_, by omega⟩
  · intro f hf
    have hf2 : f < S 1 0 := hf
    have := a3 f hf2
    show 1 ≤ S 2 f ∧ S 2 f ≤ 4 ∧ uw (S 3) (S 1 1 - 1) p f < 40 ∧ uw (S 3) (S 1 1 - 1) p f % 20 + S 2 f ≤ 20
    by_cases e : f = S 1 1 - 1
    · rw [e, uw_s]
      rw [e] at this
      omega
    · rw [uw_n e]
      exact this
  · intro f k hfk hk
    have hk2 : k < S 1 0 := hk
    have := a6 f k hfk hk2
    show uw (S 3) (S 1 1 - 1) p f + S 2 f ≤ uw (S 3) (S 1 1 - 1) p k ∨ uw (S 3) (S 1 1 - 1) p k + S 2 k ≤ uw (S 3) (S 1 1 - 1) p f
    by_cases e : f = S 1 1 - 1
    · have e2 : k ≠ S 1 1 - 1 := by omega
      rw [e, uw_s, uw_n e2]
      exact ap hk2 e2
    · rw [uw_n e]
      by_cases e2 : k = S 1 1 - 1
      · rw [e2, uw_s]
        have := ap (f := f) (by omega) e
        omega
      · rw [uw_n e2]
        exact this
  · exact Nat.mod_lt _ (by omega)
  · show min (S 6 4 + 1) 8 ≤ 8
    omega
  · show S 6 2 + zs_way p ≤ 40 * (u + 1)
    omega
  · show S 6 3 + 0 ≤ u + 1
    omega
/-! a shelf gives what is wanted -/
def zo_m (f r k : Nat) (X : SM) : Nat := if X 15 (r * 10 + k) < X 5 (f * 10 + k) then X 15 (r * 10 + k) else X 5 (f * 10 + k)
def zo_gs (f r k : Nat) (X : SM) : SM := sw (sw (sw X 5 (uw (X 5) (f * 10 + k) (X 5 (f * 10 + k) - zo_m f r k X))) 13 (uw (X 13) k (X 13 k + zo_m f r k X))) 15 (uw (X 15) (r * 10 + k) (X 15 (r * 10 + k) - zo_m f r k X))
def zo_give (S : SM) (f r : Nat) : Nat → SM := zs_it (fun k X => zo_gs f r k X) S
theorem zo_m_le (f r k : Nat) (X : SM) : zo_m f r k X ≤ X 5 (f * 10 + k) ∧ zo_m f r k X ≤ X 15 (r * 10 + k) := by
  unfold zo_m
  split <;> omega
theorem uw_le {g : Nat → Nat} {k v : Nat} (h : v ≤ g k) (i : Nat) : uw g k v i ≤ g i := by
  unfold uw
  split
  · rename_i e
    rw [e]
    exact h
  · exact Nat.le_refl _
theorem GX.gs {X : SM} {u f r k : Nat} (g : GX u X) (h99 : X 99 0 = 1) : GX u (zo_gs f r k X) := by
  obtain ⟨⟨a1, a2, a3, a4, a5, a6⟩, b1, b2, b3, b4, b5, b6, b10, b11, b12, b13⟩ := id g
  have l5 := uw_le (g := X 5) (k := f * 10 + k) (v := X 5 (f * 10 + k) - zo_m f r k X) (Nat.sub_le _ _)
  have l15 := uw_le (g := X 15) (k := r * 10 + k) (v := X 15 (r * 10 + k) - zo_m f r k X) (Nat.sub_le _ _)
  refine ⟨⟨a1, a2, a3, a4, fun i j hi hj => Nat.le_trans (l5 _) (a5 i j hi hj), a6⟩, b1, fun i hi => Nat.le_trans ?_ (b2 i hi), b3, fun i j hi hj => Nat.le_trans (l15 _) (b4 i j hi hj), fun h => ?_, b6, b10, b11, b12, b13⟩
  · exact fb_sm_le (fun j _ => Nat.mul_le_mul_right _ (l5 _))
  · have : X 99 0 = 0 := h
    omega
theorem zo_give_99 (S : SM) (f r : Nat) : ∀ n, zo_give S f r n 99 = S 99
  | 0 => rfl
  | n + 1 => zo_give_99 S f r n
theorem zo_give_1 (S : SM) (f r : Nat) : ∀ n, zo_give S f r n 1 = S 1
  | 0 => rfl
  | n + 1 => zo_give_1 S f r n
theorem zo_give_6 (S : SM) (f r : Nat) : ∀ n, zo_give S f r n 6 = S 6
  | 0 => rfl
  | n + 1 => zo_give_6 S f r n
theorem zo_give_14 (S : SM) (f r : Nat) : ∀ n, zo_give S f r n 14 = S 14
  | 0 => rfl
  | n + 1 => zo_give_14 S f r n
theorem zo_give_0 (S : SM) (f r : Nat) : ∀ n, zo_give S f r n 0 = S 0
  | 0 => rfl
  | n + 1 => zo_give_0 S f r n
theorem zo_give_15 (S : SM) (f r : Nat) {i : Nat} (hi : i < r * 10 ∨ r * 10 + 10 ≤ i) : ∀ n, n ≤ 10 → zo_give S f r n 15 i = S 15 i
  | 0, _ => rfl
  | n + 1, h => (uw_n (show i ≠ r * 10 + n by omega)).trans (zo_give_15 S f r hi n (by omega))
theorem GX.give {S : SM} {u f r : Nat} (g : GX u S) (h99 : S 99 0 = 1) : ∀ n, GX u (zo_give S f r n)
  | 0 => g
  | n + 1 => (GX.give g h99 n).gs (by rw [zo_give_99]; exact h99)
theorem zx_change {T : Mem} {f k : Nat} (hf : f < 12) (hk : k < 10) (v : Int32) : fX7_change T (nI f) (nI k) v = some (T 4 (f * 10 + k) + v, sr T 4 (upd (T 4) (f * 10 + k) (T 4 (f * 10 + k) + v))) := by
  unfold fX7_change
  simp (disch := omega) only [li0, li1, li2, li3, li4, li5, li6, li7, li8, li9, li10, li12, li13, li14, li15, li19, li20, li31, li33, li40, li42, li44, li48, li57, li60, li99, li100, li126, li150, li176, li177, li187, li197, li207, li208, li223, li304, li608, li1520, li1824, nI_add, pk_mul, nI_clamp, nI_leI, nI_ltI, nI_eq, zn_inb, zn_gd, zn_bs, zn_isb, not_true_eq_false, not_false_eq_true, ↓reduceIte, pk_div, pk_sub, zn_rem20, zn_rem2, zn_m1, zn_eqw, zn_weq, zn_weq2, zn_wlt0, zn_wltn, zn_win, zn_wcl, zn_wadd, Nat.not_lt_zero, Nat.one_ne_zero, Nat.zero_ne_one, Nat.le_refl, Nat.zero_le, zn_sel_r, zn_sel_l, up_s]
theorem zn_addneg {a b : Nat} (h : b ≤ a) : nI a + -(nI b) = nI (a - b) := by
  rw [← Int32.sub_eq_add_neg, pk_sub h]
section
variable {M : Mem} {S : SM} {u : Nat}
theorem zx_give_L {f r : Nat} (hf : f < 12) (hr : r < 8) (g : ∀ n, n ≤ 10 → (∀ k, k < 10 → zo_give S f r n 5 (f * 10 + k) ≤ 150 ∧ zo_give S f r n 15 (r * 10 + k) ≤ 20)) {kx : Mem → Option Mem} {Q : Mem → Prop} (hk : ∀ N, RX (sr (sr (sr M 5 (N 5)) 13 (N 13)) 15 (N 15)) (zo_give S f r 10) → ∃ z, kx N = some z ∧ Q z) : ∀ d k n N, k + d = 10 → d < n → RX (sr (sr (sr M 5 (N 5)) 13 (N 13)) 15 (N 15)) (zo_give S f r k) → ∃ z, fX6_give_L2 M n kx N (nI f) (nI r) (nI k) = some z ∧ Q z := by
  intro d
  induction d with
  | zero =>
    intro k n N hk_ hn h
    obtain ⟨m, rfl⟩ : ∃ m, n = m + 1 := ⟨n - 1, by omega⟩
    obtain rfl : k = 10 := by omega
    rw [fX6_give_L2]
    simp (disch := omega) only [li0, li1, li2, li3, li4, li5, li6, li7, li8, li9, li10, li12, li13, li14, li15, li19, li20, li31, li33, li40, li42, li44, li48, li57, li60, li99, li100, li126, li150, li176, li177, li187, li197, li207, li208, li223, li304, li608, li1520, li1824, nI_add, pk_mul, nI_clamp, nI_leI, nI_ltI, nI_eq, zn_inb, zn_gd, zn_bs, zn_isb, not_true_eq_false, not_false_eq_true, ↓reduceIte, pk_div, pk_sub, zn_rem20, zn_rem2, zn_m1, zn_eqw, zn_weq, zn_weq2, zn_wlt0, zn_wltn, zn_win, zn_wcl, zn_wadd, Nat.not_lt_zero, Nat.one_ne_zero, Nat.zero_ne_one, Nat.le_refl, Nat.zero_le, zn_sel_r, zn_sel_l]
    exact hk _ h
  | succ d ih =>
    intro k n N hk_ hn h
    obtain ⟨m, rfl⟩ : ∃ m, n = m + 1 := ⟨n - 1, by omega⟩
    have c : ¬ 10 ≤ k := by omega
    have e1 := zx_countIn h.t hf (k := k) (by omega)
    have e2 := zx_wantedOf h hr (k := k) (by omega)
    obtain ⟨b1, b2⟩ := g k (by omega) k (by omega)
    have ml := zo_m_le f r k (zo_give S f r k)
    have em : (if nI (zo_give S f r k 15 (r * 10 + k)) < nI (zo_give S f r k 5 (f * 10 + k)) then nI (zo_give S f r k 15 (r * 10 + k)) else nI (zo_give S f r k 5 (f * 10 + k))) = nI (zo_m f r k (zo_give S f r k)) := by
      unfold zo_m
      by_cases q : zo_give S f r k 15 (r * 10 + k) < zo_give S f r k 5 (f * 10 + k)
      · rw [if_pos (nI_lt q (by omega)), if_pos q]
      · rw [if_neg (nI_nlt (by omega) (by omega)), if_neg q]
    have e3 := zx_change (T := ofs 1 (sr (sr (sr M 5 (N 5)) 13 (N 13)) 15 (N 15))) hf (k := k) (by omega) (-(nI (zo_m f r k (zo_give S f r k))))
    have v5 : ofs 1 (sr (sr (sr M 5 (N 5)) 13 (N 13)) 15 (N 15)) 4 (f * 10 + k) + -(nI (zo_m f r k (zo_give S f r k))) = nI (zo_give S f r k 5 (f * 10 + k) - zo_m f r k (zo_give S f r k)) := by
      rw [show ofs 1 (sr (sr (sr M 5 (N 5)) 13 (N 13)) 15 (N 15)) 4 (f * 10 + k) = nI (zo_give S f r k 5 (f * 10 + k)) from h.r5 _ (by omega), zn_addneg ml.1]
    rw [v5] at e3
    have v13 : N 13 k + nI (zo_m f r k (zo_give S f r k)) = nI (zo_give S f r k 13 k + zo_m f r k (zo_give S f r k)) := by
      rw [show N 13 k = nI (zo_give S f r k 13 k) from h.r13 k (by omega), nI_add]
    have v15 : N 15 (r * 10 + k) - nI (zo_m f r k (zo_give S f r k)) = nI (zo_give S f r k 15 (r * 10 + k) - zo_m f r k (zo_give S f r k)) := by
      rw [show N 15 (r * 10 + k) = nI (zo_give S f r k 15 (r * 10 + k)) from h.r15 _ (by omega), pk_sub ml.2]
    rw [fX6_give_L2]
    simp (disch := omega) only [li10, li1, pk_mul, nI_add, zn_inb, zn_gd, nI_clamp, nI_leI, c, ↓reduceIte, e1, e2, zn_bs, em, e3, v13, v15]
    refine ih (k + 1) m _ (by omega) (by omega) ?_
    refine ⟨⟨h.c, h.w, h.r2, h.r3, h.r4, ?_⟩, h.2.1, h.r7, h.r8, h.r10, h.r11, h.r12, ?_, ?_⟩
    · exact rn_up h.r5 (f * 10 + k) _
    · exact rn_up h.r13 k _
    · exact rn_up h.r15 (r * 10 + k) _
theorem zx_give (h : RX M S) (g : GX u S) (h99 : S 99 0 = 1) {f r : Nat} (hf : f < S 1 0) (hr : r < S 14 0) : ∃ z, fX6_give M (nI f) (nI r) = some z ∧ RX z (zo_give S f r 10) ∧ z = sr (sr (sr M 5 (z 5)) 13 (z 13)) 15 (z 15) := by
  have hc := g.c12
  have h8 := g.o8
  unfold fX6_give
  refine zx_give_L (by omega) (by omega) (fun n hn k hk => ?_) (fun N hN => ⟨_, rfl, hN, rfl⟩) 10 0 5000 M (by omega) (by omega) ?_
  · have gg := g.give (f := f) (r := r) h99 n
    refine ⟨gg.th f k (by rw [zo_give_1]; exact hf) hk, gg.wn r k (by rw [zo_give_14]; exact hr) hk⟩
  · exact h.of rfl rfl rfl rfl rfl rfl rfl rfl rfl rfl rfl rfl rfl rfl rfl
/-! the orders behind one that goes -/
def zo_drop (S : SM) (r : Nat) : SM := sw (sw S 14 (uw (S 14) 0 (S 14 0 - 1))) 15 (fun i => if r * 10 ≤ i ∧ i < (S 14 0 - 1) * 10 then S 15 (i + 10) else S 15 i)
theorem zn_cpk {a b c n0 n1 : Nat} (h0 : a + c ≤ n0) (h1 : b + c ≤ n1) (hn0 : n0 < 2 ^ 31) (hn1 : n1 < 2 ^ 31) : cpk (nI a) (nI b) (nI c) n0 n1 = true := by
  unfold cpk
  refine decide_eq_true ⟨nI_pos (by omega), nI_pos (by omega), nI_pos (by omega), ?_, ?_⟩
  · rw [nI_clamp (by omega), nI_clamp (by omega)]
    exact h0
  · rw [nI_clamp (by omega), nI_clamp (by omega)]
    exact h1
def zo_dm (g : Nat → Nat) (r j : Nat) : Nat → Nat := fun i => if r * 10 ≤ i ∧ i < j * 10 then g (i + 10) else g i
theorem zx_remove_L {O : Mem} {r c : Nat} (hc : c ≤ 8) (g : Nat → Nat) {kx : Mem → Option Mem} {Q : Mem → Prop} (hk : ∀ N, N 0 0 = nI c → rn 80 (N 1) (zo_dm g r (c - 1)) → ∃ z, kx N = some z ∧ Q z) : ∀ d j n N, j + d = c → r < j → d < n → N 0 0 = nI c → rn 80 (N 1) (zo_dm g r (j - 1)) → ∃ z, fX3_remove_L4 O n kx N (nI j) = some z ∧ Q z := by
  intro d
  induction d with
  | zero =>
    intro j n N hj hr hn h0 h1
    obtain ⟨m, rfl⟩ : ∃ m, n = m + 1 := ⟨n - 1, by omega⟩
    have q : c ≤ j := by omega
    rw [fX3_remove_L4]
    simp (disch := omega) only [li0, li1, li2, li3, li4, li5, li6, li7, li8, li9, li10, li12, li13, li14, li15, li19, li20, li31, li33, li40, li42, li44, li48, li57, li60, li99, li100, li126, li150, li176, li177, li187, li197, li207, li208, li223, li304, li608, li1520, li1824, nI_add, pk_mul, nI_clamp, nI_leI, nI_ltI, nI_eq, zn_inb, zn_gd, zn_bs, zn_isb, not_true_eq_false, not_false_eq_true, ↓reduceIte, pk_div, pk_sub, zn_rem20, zn_rem2, zn_m1, zn_eqw, zn_weq, zn_weq2, zn_wlt0, zn_wltn, zn_win, zn_wcl, zn_wadd, Nat.not_lt_zero, Nat.one_ne_zero, Nat.zero_ne_one, Nat.le_refl, Nat.zero_le, zn_sel_r, zn_sel_l, h0, q]
    exact hk _ h0 (by rw [show c = j by omega]; exact h1)
  | succ d ih =>
    intro j n N hj hr hn h0 h1
    obtain ⟨m, rfl⟩ : ∃ m, n = m + 1 := ⟨n - 1, by omega⟩
    have q : ¬ c ≤ j := by omega
    have e1 := zn_cpk (a := j * 10) (b := (j - 1) * 10) (c := 10) (n0 := 80) (n1 := 80) (by omega) (by omega) (by omega) (by omega)
    rw [fX3_remove_L4]
    simp (disch := omega) only [li0, li1, li2, li3, li4, li5, li6, li7, li8, li9, li10, li12, li13, li14, li15, li19, li20, li31, li33, li40, li42, li44, li48, li57, li60, li99, li100, li126, li150, li176, li177, li187, li197, li207, li208, li223, li304, li608, li1520, li1824, nI_add, pk_mul, nI_clamp, nI_leI, nI_ltI, nI_eq, zn_inb, zn_gd, zn_bs, zn_isb, not_true_eq_false, not_false_eq_true, ↓reduceIte, pk_div, pk_sub, zn_rem20, zn_rem2, zn_m1, zn_eqw, zn_weq, zn_weq2, zn_wlt0, zn_wltn, zn_win, zn_wcl, zn_wadd, Nat.not_lt_zero, Nat.one_ne_zero, Nat.zero_ne_one, Nat.le_refl, Nat.zero_le, zn_sel_r, zn_sel_l, h0, q, e1]
    refine ih (j + 1) m _ (by omega) (by omega) (by omega) h0 ?_
    show rn 80 (va_cpy (N 1) (N 1) (j * 10) ((j - 1) * 10) 10) _
    intro i hi
    unfold va_cpy zo_dm
    by_cases a : (j - 1) * 10 ≤ i ∧ i < (j - 1) * 10 + 10
    · rw [if_pos a, if_pos (by omega), h1 _ (by omega)]
      unfold zo_dm
      rw [if_neg (by omega)]
      congr 2
      omega
    · rw [if_neg a, h1 i hi]
      unfold zo_dm
      by_cases b : r * 10 ≤ i ∧ i < (j - 1) * 10
      · rw [if_pos b, if_pos (by omega)]
      · rw [if_neg b, if_neg (by omega)]
theorem zx_remove {O : Mem} (h0 : O 0 0 = nI (S 14 0)) (h1 : rn 80 (O 1) (S 15)) (hc : S 14 0 ≤ 8) {r : Nat} (hr : r < S 14 0) : ∃ z, fX3_remove O (nI r) = some z ∧ z 0 0 = nI (S 14 0 - 1) ∧ rn 80 (z 1) (zo_drop S r 15) := by
  unfold fX3_remove
  have e : nI r + (1 : Int32) = nI (r + 1) := nI_1 r
  rw [e]
  refine zx_remove_L (r := r) hc (S 15) (Q := fun z => z 0 0 = nI (S 14 0 - 1) ∧ rn 80 (z 1) (zo_drop S r 15)) ?_ (S 14 0 - (r + 1)) (r + 1) 5000 O (by omega) (by omega) (by omega) h0 ?_
  · intro N h2 h3
    refine ⟨_, rfl, ?_, h3⟩
    show N 0 0 - (1 : Int32) = _
    rw [h2, show (1 : Int32) = nI 1 from rfl, pk_sub (by omega)]
  · intro i hi
    rw [h1 i hi]
    unfold zo_dm
    rw [if_neg (by omega)]
end

