set_option maxHeartbeats 400000
/-! packing: the reference's side -/
section
variable {K : Mem} {S : SM} {A B : Nat → Int32} {Q : Int32 × Mem → Prop}
theorem zy_r1 (K : Mem) (a b : Nat → Int32) : sr (sr K 1 a) 2 b 1 = a := rfl
theorem zy_r2 (K : Mem) (a b : Nat → Int32) : sr (sr K 1 a) 2 b 2 = b := rfl
theorem zk_isAhead (h : RK (K 1) S) (hc : S 1 0 ≤ 12) (hu : ∀ f, f < S 1 0 → S 4 f < 2 ^ 28) {e f : Nat} (he : e < S 1 0) (hf : f < S 1 0) : fX9_isAhead K (nI e) (nI f) = some (nI (bif zy_B S e f then 1 else 0)) := by
  have e1 := zk_of3 h hc hf
  have e2 := zk_of3 h hc he
  have b1 := hu e he
  have b2 := hu f hf
  unfold fX9_isAhead
  rw [show (3 : Int32) = nI 3 from rfl, e1, zn_bs, e2, zn_bs, show (0 : Int32) = nI 0 from rfl]
  rcases Nat.lt_trichotomy (S 4 f) (S 4 e) with q | q | q
  · have z : nI (S 4 f) - nI (S 4 e) < nI 0 := pk_sneg (by omega) q
    rw [if_pos z, show zy_B S e f = true from decide_eq_true (Or.inl q)]
    rfl
  · rw [q, pk_sub (Nat.le_refl _), Nat.sub_self, if_neg (Int32.lt_irrefl), if_neg (fun a => a rfl)]
    by_cases z : e < f
    · rw [if_neg (nI_ge z (by omega)), show zy_B S e f = true from decide_eq_true (Or.inr ⟨q.symm, z⟩)]
      rfl
    · rw [if_pos (nI_le (by omega) (by omega)), show zy_B S e f = false from decide_eq_false (by omega)]
      rfl
  · have z : ¬ nI (S 4 f) - nI (S 4 e) < nI 0 := by
      rw [pk_sub (by omega)]
      exact nI_nlt (Nat.zero_le _) (by omega)
    have z2 : ¬ nI (S 4 f) - nI (S 4 e) = nI 0 := by
      rw [pk_sub (by omega), nI_eq (by omega) (by omega)]
      omega
    rw [if_neg z, if_pos z2, show zy_B S e f = false from decide_eq_false (by omega)]
    rfl
theorem zk_packs_L69 (hA : RK A S) (hc : S 1 0 ≤ 12) (hu : ∀ f, f < S 1 0 → S 4 f < 2 ^ 28) {l1 l2 l3 : Int32} {f : Nat} (hf : f < S 1 0) {kx : Mem → Int32 → Int32 → Int32 → Int32 → Int32 → Option (Int32 × Mem)} (hk : ∀ N, N 1 = A → N 2 = B → ∃ z, kx N l1 l2 l3 (nI f) (nI (zy_ah S f)) = some z ∧ Q z) : ∀ d e n N, e + d = S 1 0 → d < n → N 1 = A → N 2 = B → ∃ z, fX9_packs_L69 K n kx N l1 l2 l3 (nI f) (nI (fb_ct (fun e => zy_B S e f) e)) (nI e) = some z ∧ Q z := by
  intro d
  induction d with
  | zero =>
    intro e n N he hn n1 n2
    obtain ⟨m, rfl⟩ : ∃ m, n = m + 1 := ⟨n - 1, by omega⟩
    have c : S 1 0 ≤ e := by omega
    have h0 : N 1 0 = nI (S 1 0) := by rw [n1]; exact hA.1
    rw [fX9_packs_L69]
    simp (disch := omega) only [li0, li1, li2, li3, li4, li5, li6, li7, li8, li9, li10, li12, li13, li14, li15, li19, li20, li31, li33, li40, li42, li44, li48, li57, li60, li99, li100, li126, li150, li176, li177, li187, li197, li207, li208, li223, li304, li608, li1520, li1824, nI_add, pk_mul, nI_clamp, nI_leI, nI_ltI, nI_eq, zn_inb, zn_gd, zn_bs, zn_isb, not_true_eq_false, not_false_eq_true, ↓reduceIte, pk_div, pk_sub, zn_rem20, zn_rem2, zn_m1, zn_eqw, zn_weq, zn_weq2, zn_wlt0, zn_wltn, zn_win, zn_wcl, zn_wadd, Nat.not_lt_zero, Nat.one_ne_zero, Nat.zero_ne_one, Nat.le_refl, Nat.zero_le, zn_sel_r, zn_sel_l, h0, c]
    have ee : e = S 1 0 := by omega
    subst ee
    exact hk _ n1 n2
  | succ d ih =>
    intro e n N he hn n1 n2
    obtain ⟨m, rfl⟩ : ∃ m, n = m + 1 := ⟨n - 1, by omega⟩
    have c : ¬ S 1 0 ≤ e := by omega
    have h0 : N 1 0 = nI (S 1 0) := by rw [n1]; exact hA.1
    have ih1 := fun N => ih (e + 1) m N (by omega) (by omega)
    rw [fb_ct_succ] at ih1
    rw [fX9_packs_L69]
    by_cases q : e = f
    · subst q
      rw [zy_B_irr, if_neg (by decide), Nat.add_zero] at ih1
      simp (disch := omega) only [li0, li1, li2, li3, li4, li5, li6, li7, li8, li9, li10, li12, li13, li14, li15, li19, li20, li31, li33, li40, li42, li44, li48, li57, li60, li99, li100, li126, li150, li176, li177, li187, li197, li207, li208, li223, li304, li608, li1520, li1824, nI_add, pk_mul, nI_clamp, nI_leI, nI_ltI, nI_eq, zn_inb, zn_gd, zn_bs, zn_isb, not_true_eq_false, not_false_eq_true, ↓reduceIte, pk_div, pk_sub, zn_rem20, zn_rem2, zn_m1, zn_eqw, zn_weq, zn_weq2, zn_wlt0, zn_wltn, zn_win, zn_wcl, zn_wadd, Nat.not_lt_zero, Nat.one_ne_zero, Nat.zero_ne_one, Nat.le_refl, Nat.zero_le, zn_sel_r, zn_sel_l, h0, c, fX9_packs_B104, fX9_packs_B105, Nat.add_zero]
      exact ih1 _ n1 n2
    · have ea := zk_isAhead (K := sr (sr K 1 (N 1)) 2 (N 2)) (S := S) (show RK (N 1) S by rw [n1]; exact hA) hc hu (e := e) (f := f) (by omega) hf
      cases z : zy_B S e f
      · rw [z, cond_false] at ea
        rw [z, if_neg (by decide), Nat.add_zero] at ih1
        simp (disch := omega) only [li0, li1, li2, li3, li4, li5, li6, li7, li8, li9, li10, li12, li13, li14, li15, li19, li20, li31, li33, li40, li42, li44, li48, li57, li60, li99, li100, li126, li150, li176, li177, li187, li197, li207, li208, li223, li304, li608, li1520, li1824, nI_add, pk_mul, nI_clamp, nI_leI, nI_ltI, nI_eq, zn_inb, zn_gd, zn_bs, zn_isb, not_true_eq_false, not_false_eq_true, ↓reduceIte, pk_div, pk_sub, zn_rem20, zn_rem2, zn_m1, zn_eqw, zn_weq, zn_weq2, zn_wlt0, zn_wltn, zn_win, zn_wcl, zn_wadd, Nat.not_lt_zero, Nat.one_ne_zero, Nat.zero_ne_one, Nat.le_refl, Nat.zero_le, zn_sel_r, zn_sel_l, h0, c, eq_false q, ea, fX9_packs_B104, fX9_packs_B105, Nat.add_zero]
        exact ih1 _ n1 n2
      · rw [z, cond_true] at ea
        rw [z, if_pos rfl] at ih1
        simp (disch := omega) only [li0, li1, li2, li3, li4, li5, li6, li7, li8, li9, li10, li12, li13, li14, li15, li19, li20, li31, li33, li40, li42, li44, li48, li57, li60, li99, li100, li126, li150, li176, li177, li187, li197, li207, li208, li223, li304, li608, li1520, li1824, nI_add, pk_mul, nI_clamp, nI_leI, nI_ltI, nI_eq, zn_inb, zn_gd, zn_bs, zn_isb, not_true_eq_false, not_false_eq_true, ↓reduceIte, pk_div, pk_sub, zn_rem20, zn_rem2, zn_m1, zn_eqw, zn_weq, zn_weq2, zn_wlt0, zn_wltn, zn_win, zn_wcl, zn_wadd, Nat.not_lt_zero, Nat.one_ne_zero, Nat.zero_ne_one, Nat.le_refl, Nat.zero_le, zn_sel_r, zn_sel_l, h0, c, eq_false q, ea, fX9_packs_B104, fX9_packs_B105]
        exact ih1 _ n1 n2
theorem zy_ah_le (S : SM) (f : Nat) : zy_ah S f ≤ S 1 0 := fb_ct_le _ _
theorem zk_packs_skip (hA : RK A S) (hc : S 1 0 ≤ 12) (hu : ∀ f, f < S 1 0 → S 4 f < 2 ^ 28) {l1 l2 : Int32} {r : Nat} (hr : r ≤ 12) {kx : Mem → Int32 → Int32 → Int32 → Option (Int32 × Mem)} {n : Nat} : ∀ d f N, (∀ e, f ≤ e → e < f + d → zy_ah S e ≠ r) → f + d ≤ S 1 0 → N 1 = A → N 2 = B → (∀ N, N 1 = A → N 2 = B → ∃ z, fX9_packs_L52 K n kx N l1 l2 (nI r) (nI (f + d)) = some z ∧ Q z) → ∃ z, fX9_packs_L52 K (n + d) kx N l1 l2 (nI r) (nI f) = some z ∧ Q z := by
  intro d
  induction d with
  | zero =>
    intro f N _ _ n1 n2 hk
    exact hk N n1 n2
  | succ d ih =>
    intro f N hne hle n1 n2 hk
    have c : ¬ S 1 0 ≤ f := by omega
    have h0 : N 1 0 = nI (S 1 0) := by rw [n1]; exact hA.1
    have la := zy_ah_le S f
    have na := hne f (Nat.le_refl _) (by omega)
    rw [show n + (d + 1) = (n + d) + 1 from rfl, fX9_packs_L52]
    simp (disch := omega) only [li0, li1, li2, li3, li4, li5, li6, li7, li8, li9, li10, li12, li13, li14, li15, li19, li20, li31, li33, li40, li42, li44, li48, li57, li60, li99, li100, li126, li150, li176, li177, li187, li197, li207, li208, li223, li304, li608, li1520, li1824, nI_add, pk_mul, nI_clamp, nI_leI, nI_ltI, nI_eq, zn_inb, zn_gd, zn_bs, zn_isb, not_true_eq_false, not_false_eq_true, ↓reduceIte, pk_div, pk_sub, zn_rem20, zn_rem2, zn_m1, zn_eqw, zn_weq, zn_weq2, zn_wlt0, zn_wltn, zn_win, zn_wcl, zn_wadd, Nat.not_lt_zero, Nat.one_ne_zero, Nat.zero_ne_one, Nat.le_refl, Nat.zero_le, zn_sel_r, zn_sel_l, h0, c]
    refine zk_packs_L69 (S := S) (A := A) (B := B) hA hc hu (f := f) (by omega) (fun N m1 m2 => ?_) (S 1 0) 0 5000 _ (by omega) (by omega) n1 n2
    have na2 : ¬ nI (zy_ah S f) = nI r := by
      rw [nI_eq (by omega) (by omega)]
      exact na
    show ∃ z, (if ¬ nI (zy_ah S f) = nI r then _ else _) = some z ∧ Q z
    rw [if_pos na2]
    unfold fX9_packs_B206
    rw [show (1 : Int32) = nI 1 from rfl, nI_add]
    refine ih (f + 1) _ (fun e h1 h2 => hne e (by omega) (by omega)) (by omega) m1 m2 (fun N b1 b2 => ?_)
    rw [show f + 1 + d = f + (d + 1) by omega]
    exact hk N b1 b2
/-- the shelf whose turn it is -/
theorem zk_packs_at {P : SM} {S0 : SM} (hA : RK A P) (g : GK P) (hu : ∀ f, f < P 1 0 → P 4 f < 2 ^ 28) {a r v : Nat} (ha : a ≤ 12) (hr : r ≤ 12) (hv : v < P 1 0) (hah : zy_ah P v = r) (h3 : S0 3 v < 40) (hb1 : B (9 + 14 * v + 1) = nI (S0 3 v / 20)) (hb2 : B (9 + 14 * v + 2) = nI (S0 3 v % 20)) {kx : Mem → Int32 → Int32 → Int32 → Option (Int32 × Mem)} {n : Nat} (hn0 : zs_fp (zs_tq P) (P 2 v) = 0 → ∀ N x, N 1 = A → N 2 = B → ∃ z, fX9_packs_L52 K n kx N x (nI 0) (nI r) (nI (v + 1)) = some z ∧ Q z) (hn1 : ∀ p, zs_fp (zs_tq P) (P 2 v) = p + 1 → ∀ N, RK (N 1) (sw P 3 (uw (P 3) v p)) → N 2 = B → ∃ z, fX9_packs_L52 K n kx N (nI (a + (if p = S0 3 v then 0 else 1))) (nI 1) (nI r) (nI (v + 1)) = some z ∧ Q z) (N : Mem) (n1 : N 1 = A) (n2 : N 2 = B) : ∃ z, fX9_packs_L52 K (n + 1) kx N (nI a) (nI 1) (nI r) (nI v) = some z ∧ Q z := by
  have hc := g.1
  have c : ¬ P 1 0 ≤ v := by omega
  have h0 : N 1 0 = nI (P 1 0) := by rw [n1]; exact hA.1
  rw [fX9_packs_L52]
  simp (disch := omega) only [li0, li1, li2, li3, li4, li5, li6, li7, li8, li9, li10, li12, li13, li14, li15, li19, li20, li31, li33, li40, li42, li44, li48, li57, li60, li99, li100, li126, li150, li176, li177, li187, li197, li207, li208, li223, li304, li608, li1520, li1824, nI_add, pk_mul, nI_clamp, nI_leI, nI_ltI, nI_eq, zn_inb, zn_gd, zn_bs, zn_isb, not_true_eq_false, not_false_eq_true, ↓reduceIte, pk_div, pk_sub, zn_rem20, zn_rem2, zn_m1, zn_eqw, zn_weq, zn_weq2, zn_wlt0, zn_wltn, zn_win, zn_wcl, zn_wadd, Nat.not_lt_zero, Nat.one_ne_zero, Nat.zero_ne_one, Nat.le_refl, Nat.zero_le, zn_sel_r, zn_sel_l, h0, c]
  refine zk_packs_L69 (S := P) (A := A) (B := B) hA hc hu (f := v) hv (fun N m1 m2 => ?_) (P 1 0) 0 5000 _ (by omega) (by omega) n1 n2
  have e1 := zk_of0 (K := sr (sr K 1 (N 1)) 2 (N 2)) (S := P) (show RK (N 1) P by rw [m1]; exact hA) hc hv
  have gv := g.2.2.1 v hv
  have e2 := zk_place (K := sr (sr K 1 (N 1)) 2 (N 2)) (S := P) (show RK (N 1) P by rw [m1]; exact hA) g (w := P 2 v) (by omega)
  have i1 : inb (nI (9 + 14 * v + 1)) 304 = true := zn_inb (by omega) (by omega)
  have i2 : inb (nI (9 + 14 * v + 2)) 304 = true := zn_inb (by omega) (by omega)
  have x1 : N 2 (9 + 14 * v + 1) = nI (S0 3 v / 20) := by rw [m2]; exact hb1
  have x2 : N 2 (9 + 14 * v + 2) = nI (S0 3 v % 20) := by rw [m2]; exact hb2
  have es : 20 * (S0 3 v / 20) + S0 3 v % 20 = S0 3 v := by omega
  have n10 : ¬ nI 1 = nI 0 := by decide
  have ez : ∀ w, w < 2 ^ 30 → (wI w = nI (S0 3 v) ↔ w = S0 3 v + 1) := fun w hw => zn_weq2 (by omega) hw
  show ∃ z, (if ¬ nI (zy_ah P v) = nI r then _ else _) = some z ∧ Q z
  rw [hah, if_neg (fun a => a rfl), e1, zn_bs, e2, zn_bs, if_neg (show ¬ nI 1 = nI 0 by decide)]
  have fl := zs_fp_le (zs_tq P) (P 2 v)
  by_cases q : zs_fp (zs_tq P) (P 2 v) = 0
  · have hn := hn0 q
    have e3 : ¬ wI 0 = nI (S0 3 v) := by
      rw [ez 0 (by omega)]
      omega
    rw [q]
    simp (disch := omega) only [li0, li1, li2, li3, li4, li5, li6, li7, li8, li9, li10, li12, li13, li14, li15, li19, li20, li31, li33, li40, li42, li44, li48, li57, li60, li99, li100, li126, li150, li176, li177, li187, li197, li207, li208, li223, li304, li608, li1520, li1824, nI_add, pk_mul, nI_clamp, nI_leI, nI_ltI, nI_eq, zn_inb, zn_gd, zn_bs, zn_isb, not_true_eq_false, not_false_eq_true, ↓reduceIte, pk_div, pk_sub, zn_rem20, zn_rem2, zn_m1, zn_eqw, zn_weq, zn_weq2, zn_wlt0, zn_wltn, zn_win, zn_wcl, zn_wadd, Nat.not_lt_zero, Nat.one_ne_zero, Nat.zero_ne_one, Nat.le_refl, Nat.zero_le, zn_sel_r, zn_sel_l, fX9_packs_B157, fX9_packs_B158, fX9_packs_B192, fX9_packs_B206, zy_r1, zy_r2, x1, x2, es, e3]
    exact hn (sr (sr K 1 (N 1)) 2 (N 2)) _ m1 m2
  · have hq := Nat.pos_of_ne_zero q
    have hn := hn1 (zs_fp (zs_tq P) (P 2 v) - 1) (by omega)
    obtain ⟨fit1, -⟩ := zs_fp_fit hq
    rw [wI_p hq]
    generalize zs_fp (zs_tq P) (P 2 v) - 1 = p at hn fit1
    have pm : ¬ nI p = wI 0 := fun e => by
      have := (zn_eqw (f := p) (w := 0) (by omega) (by omega)).mp e
      omega
    obtain ⟨y, ey, hy⟩ := zk_puts (K := sr (sr K 1 (N 1)) 2 (N 2)) (S := P) (show RK (N 1) P by rw [m1]; exact hA) hc hv (p := p) (by omega)
    by_cases q2 : p = S0 3 v
    · rw [if_pos q2] at hn
      simp (disch := omega) only [li0, li1, li2, li3, li4, li5, li6, li7, li8, li9, li10, li12, li13, li14, li15, li19, li20, li31, li33, li40, li42, li44, li48, li57, li60, li99, li100, li126, li150, li176, li177, li187, li197, li207, li208, li223, li304, li608, li1520, li1824, nI_add, pk_mul, nI_clamp, nI_leI, nI_ltI, nI_eq, zn_inb, zn_gd, zn_bs, zn_isb, not_true_eq_false, not_false_eq_true, ↓reduceIte, pk_div, pk_sub, zn_rem20, zn_rem2, zn_m1, zn_eqw, zn_weq, zn_weq2, zn_wlt0, zn_wltn, zn_win, zn_wcl, zn_wadd, Nat.not_lt_zero, Nat.one_ne_zero, Nat.zero_ne_one, Nat.le_refl, Nat.zero_le, zn_sel_r, zn_sel_l, pm, fX9_packs_B158, fX9_packs_B192, fX9_packs_B206, zy_r1, zy_r2, x1, x2, es, eq_true q2, n10, ey]
      exact hn (sr (sr K 1 (y 1)) 2 (N 2)) hy m2
    · rw [if_neg q2] at hn
      simp (disch := omega) only [li0, li1, li2, li3, li4, li5, li6, li7, li8, li9, li10, li12, li13, li14, li15, li19, li20, li31, li33, li40, li42, li44, li48, li57, li60, li99, li100, li126, li150, li176, li177, li187, li197, li207, li208, li223, li304, li608, li1520, li1824, nI_add, pk_mul, nI_clamp, nI_leI, nI_ltI, nI_eq, zn_inb, zn_gd, zn_bs, zn_isb, not_true_eq_false, not_false_eq_true, ↓reduceIte, pk_div, pk_sub, zn_rem20, zn_rem2, zn_m1, zn_eqw, zn_weq, zn_weq2, zn_wlt0, zn_wltn, zn_win, zn_wcl, zn_wadd, Nat.not_lt_zero, Nat.one_ne_zero, Nat.zero_ne_one, Nat.le_refl, Nat.zero_le, zn_sel_r, zn_sel_l, pm, fX9_packs_B158, fX9_packs_B192, fX9_packs_B206, zy_r1, zy_r2, x1, x2, es, eq_false q2, n10, ey]
      exact hn (sr (sr K 1 (y 1)) 2 (N 2)) hy m2
theorem zk_packs_L35 {kx : Mem → Int32 → Int32 → Option (Int32 × Mem)} (g : GT S) (hw : S 1 1 = 0) (hB : ∀ f, f < S 1 0 → B (9 + 14 * f + 1) = nI (S 3 f / 20) ∧ B (9 + 14 * f + 2) = nI (S 3 f % 20)) (hk0 : zy_all S = none → ∀ N x, N 2 = B → ∃ z, kx N x (nI 0) = some z ∧ Q z) (hk1 : ∀ pl, zy_all S = some pl → ∀ N, RK (N 1) (zy_P S pl) → N 2 = B → ∃ z, kx N (nI (zy_mvd S pl (S 1 0))) (nI 1) = some z ∧ Q z) : ∀ d r lo pl N n, r + d = S 1 0 → d + 1 < n → zy_I S r lo pl → zy_go S d lo pl = zy_all S → RK (N 1) (zy_P S pl) → N 2 = B → ∃ z, fX9_packs_L35 K n kx N (nI (zy_mv S lo pl)) (nI 1) (nI r) = some z ∧ Q z := by
  have hc := g.1
  have n10 : ¬ nI 1 = nI 0 := by decide
  intro d
  induction d with
  | zero =>
    intro r lo pl N n hr hn hI hg hN n2
    obtain ⟨m, rfl⟩ : ∃ m, n = m + 1 := ⟨n - 1, by omega⟩
    have c : S 1 0 ≤ r := by omega
    have h0 : N 1 0 = nI (S 1 0) := hN.1
    rw [fX9_packs_L35]
    simp (disch := omega) only [li0, li1, li2, li3, li4, li5, li6, li7, li8, li9, li10, li12, li13, li14, li15, li19, li20, li31, li33, li40, li42, li44, li48, li57, li60, li99, li100, li126, li150, li176, li177, li187, li197, li207, li208, li223, li304, li608, li1520, li1824, nI_add, pk_mul, nI_clamp, nI_leI, nI_ltI, nI_eq, zn_inb, zn_gd, zn_bs, zn_isb, not_true_eq_false, not_false_eq_true, ↓reduceIte, pk_div, pk_sub, zn_rem20, zn_rem2, zn_m1, zn_eqw, zn_weq, zn_weq2, zn_wlt0, zn_wltn, zn_win, zn_wcl, zn_wadd, Nat.not_lt_zero, Nat.one_ne_zero, Nat.zero_ne_one, Nat.le_refl, Nat.zero_le, zn_sel_r, zn_sel_l, h0, c]
    rw [zy_mv_e (hI.2.1.trans (show r = S 1 0 by omega))]
    exact hk1 pl hg.symm _ hN n2
  | succ d ih =>
    intro r lo pl N n hr hn hI hg hN n2
    obtain ⟨m, rfl⟩ : ∃ m, n = m + 1 := ⟨n - 1, by omega⟩
    have c : ¬ S 1 0 ≤ r := by omega
    have h0 : N 1 0 = nI (S 1 0) := hN.1
    obtain ⟨v, a1, a2, a3, a4, a5, a6⟩ := zy_next hw hI (by omega)
    have gk := hI.2.2.2.2.2.2
    have hu : ∀ f, f < zy_P S pl 1 0 → zy_P S pl 4 f < 2 ^ 28 := g.2.2.2.1
    have mv12 : zy_mv S lo pl ≤ 12 := Nat.le_trans (fb_ct_le _ _) hc
    have b3 := (g.2.2.1 v a2).2.2.1
    rw [fX9_packs_L35]
    simp (disch := omega) only [li0, li1, li2, li3, li4, li5, li6, li7, li8, li9, li10, li12, li13, li14, li15, li19, li20, li31, li33, li40, li42, li44, li48, li57, li60, li99, li100, li126, li150, li176, li177, li187, li197, li207, li208, li223, li304, li608, li1520, li1824, nI_add, pk_mul, nI_clamp, nI_leI, nI_ltI, nI_eq, zn_inb, zn_gd, zn_bs, zn_isb, not_true_eq_false, not_false_eq_true, ↓reduceIte, pk_div, pk_sub, zn_rem20, zn_rem2, zn_m1, zn_eqw, zn_weq, zn_weq2, zn_wlt0, zn_wltn, zn_win, zn_wcl, zn_wadd, Nat.not_lt_zero, Nat.one_ne_zero, Nat.zero_ne_one, Nat.le_refl, Nat.zero_le, zn_sel_r, zn_sel_l, h0, c, n10]
    rw [show (5000 : Nat) = ((4999 - v + 0) + 1) + v by omega]
    unfold zy_go at hg
    rw [a1, Nat.add_sub_cancel] at hg
    refine zk_packs_skip (S := zy_P S pl) (A := N 1) (B := B) hN hc hu (r := r) (by omega) v 0 _ (fun e h1 h2 => a5 e (by omega) (by omega)) (show 0 + v ≤ S 1 0 by omega) rfl n2 (fun N1 m1 m2 => ?_)
    rw [Nat.zero_add]
    refine zk_packs_at (P := zy_P S pl) (S0 := S) (A := N 1) (B := B) hN gk hu (a := zy_mv S lo pl) (r := r) mv12 (by omega) a2 a4 b3 (hB v a2).1 (hB v a2).2 (fun hz N2 x p1 p2 => ?_) (fun p hp N2 p1 p2 => ?_) N1 m1 m2
    · have hz2 : zs_fp (zs_tq (zy_P S pl)) (S 2 v) = 0 := hz
      rw [if_pos hz2] at hg
      rw [show 4999 - v = (4999 - v - (S 1 0 - (v + 1))) + (S 1 0 - (v + 1)) by omega]
      refine zk_packs_skip (S := zy_P S pl) (A := N 1) (B := B) hN hc hu (r := r) (by omega) (S 1 0 - (v + 1)) (v + 1) _ (fun e h1 h2 => a5 e (by omega) (by omega)) (show v + 1 + (S 1 0 - (v + 1)) ≤ S 1 0 by omega) p1 p2 (fun N3 s1 s2 => ?_)
      rw [show v + 1 + (S 1 0 - (v + 1)) = S 1 0 by omega, show 4999 - v - (S 1 0 - (v + 1)) = (4999 - v - (S 1 0 - (v + 1)) - 1) + 1 by omega, fX9_packs_L52]
      have h3 : N3 1 0 = nI (S 1 0) := by rw [s1]; exact h0
      simp (disch := omega) only [li0, li1, li2, li3, li4, li5, li6, li7, li8, li9, li10, li12, li13, li14, li15, li19, li20, li31, li33, li40, li42, li44, li48, li57, li60, li99, li100, li126, li150, li176, li177, li187, li197, li207, li208, li223, li304, li608, li1520, li1824, nI_add, pk_mul, nI_clamp, nI_leI, nI_ltI, nI_eq, zn_inb, zn_gd, zn_bs, zn_isb, not_true_eq_false, not_false_eq_true, ↓reduceIte, pk_div, pk_sub, zn_rem20, zn_rem2, zn_m1, zn_eqw, zn_weq, zn_weq2, zn_wlt0, zn_wltn, zn_win, zn_wcl, zn_wadd, Nat.not_lt_zero, Nat.one_ne_zero, Nat.zero_ne_one, Nat.le_refl, Nat.zero_le, zn_sel_r, zn_sel_l, h3]
      obtain ⟨m2, rfl⟩ : ∃ m2, m = m2 + 1 := ⟨m - 1, by omega⟩
      rw [fX9_packs_L35]
      by_cases c3 : S 1 0 ≤ r + 1
      · simp (disch := omega) only [li0, li1, li2, li3, li4, li5, li6, li7, li8, li9, li10, li12, li13, li14, li15, li19, li20, li31, li33, li40, li42, li44, li48, li57, li60, li99, li100, li126, li150, li176, li177, li187, li197, li207, li208, li223, li304, li608, li1520, li1824, nI_add, pk_mul, nI_clamp, nI_leI, nI_ltI, nI_eq, zn_inb, zn_gd, zn_bs, zn_isb, not_true_eq_false, not_false_eq_true, ↓reduceIte, pk_div, pk_sub, zn_rem20, zn_rem2, zn_m1, zn_eqw, zn_weq, zn_weq2, zn_wlt0, zn_wltn, zn_win, zn_wcl, zn_wadd, Nat.not_lt_zero, Nat.one_ne_zero, Nat.zero_ne_one, Nat.le_refl, Nat.zero_le, zn_sel_r, zn_sel_l, zy_r1, zy_r2, h3, c3]
        exact hk0 hg.symm _ _ s2
      · simp (disch := omega) only [li0, li1, li2, li3, li4, li5, li6, li7, li8, li9, li10, li12, li13, li14, li15, li19, li20, li31, li33, li40, li42, li44, li48, li57, li60, li99, li100, li126, li150, li176, li177, li187, li197, li207, li208, li223, li304, li608, li1520, li1824, nI_add, pk_mul, nI_clamp, nI_leI, nI_ltI, nI_eq, zn_inb, zn_gd, zn_bs, zn_isb, not_true_eq_false, not_false_eq_true, ↓reduceIte, pk_div, pk_sub, zn_rem20, zn_rem2, zn_m1, zn_eqw, zn_weq, zn_weq2, zn_wlt0, zn_wltn, zn_win, zn_wcl, zn_wadd, Nat.not_lt_zero, Nat.one_ne_zero, Nat.zero_ne_one, Nat.le_refl, Nat.zero_le, zn_sel_r, zn_sel_l, zy_r1, zy_r2, h3, c3]
        exact hk0 hg.symm _ _ s2
    · have hp2 : zs_fp (zs_tq (zy_P S pl)) (S 2 v) = p + 1 := hp
      rw [if_neg (by omega), hp2, Nat.add_sub_cancel] at hg
      obtain ⟨fit1, fit2⟩ := zs_fp_fit (show 0 < zs_fp (zs_tq (zy_P S pl)) (S 2 v) by omega)
      rw [hp2, Nat.add_sub_cancel] at fit1 fit2
      have I2 := a6 p fit1 fit2
      have p1' : RK (N2 1) (zy_P S (uw pl v p)) := p1.row rfl rfl rfl rfl rfl rfl rfl rfl rfl rfl rfl rfl rfl rfl rfl
      rw [show 4999 - v = (4999 - v - (S 1 0 - (v + 1))) + (S 1 0 - (v + 1)) by omega]
      refine zk_packs_skip (S := zy_P S (uw pl v p)) (A := N2 1) (B := B) p1' hc hu (r := r) (by omega) (S 1 0 - (v + 1)) (v + 1) _ (fun e h1 h2 => a5 e (by omega) (by omega)) (show v + 1 + (S 1 0 - (v + 1)) ≤ S 1 0 by omega) rfl p2 (fun N3 s1 s2 => ?_)
      rw [show v + 1 + (S 1 0 - (v + 1)) = S 1 0 by omega, show 4999 - v - (S 1 0 - (v + 1)) = (4999 - v - (S 1 0 - (v + 1)) - 1) + 1 by omega, fX9_packs_L52]
      have h3 : N3 1 0 = nI (S 1 0) := by rw [s1]; exact p1'.1
      simp (disch := omega) only [li0, li1, li2, li3, li4, li5, li6, li7, li8, li9, li10, li12, li13, li14, li15, li19, li20, li31, li33, li40, li42, li44, li48, li57, li60, li99, li100, li126, li150, li176, li177, li187, li197, li207, li208, li223, li304, li608, li1520, li1824, nI_add, pk_mul, nI_clamp, nI_leI, nI_ltI, nI_eq, zn_inb, zn_gd, zn_bs, zn_isb, not_true_eq_false, not_false_eq_true, ↓reduceIte, pk_div, pk_sub, zn_rem20, zn_rem2, zn_m1, zn_eqw, zn_weq, zn_weq2, zn_wlt0, zn_wltn, zn_win, zn_wcl, zn_wadd, Nat.not_lt_zero, Nat.one_ne_zero, Nat.zero_ne_one, Nat.le_refl, Nat.zero_le, zn_sel_r, zn_sel_l, h3]
      rw [← zy_mv_s S pl p a2 a3]
      exact ih (r + 1) _ _ _ m (by omega) (by omega) I2 hg (by rw [s1]; exact p1') s2
theorem zk_packs_L10 {kx : Mem → Int32 → Int32 → Option (Int32 × Mem)} (g : GT S) {l1 l2 : Int32} (ho : S 14 0 ≤ 8) (hk : ∀ N, RK (N 1) (zy_P S (zy_pl0 S)) → N 2 = B → ∃ z, kx N l1 l2 = some z ∧ Q z) : ∀ d f n N, f + d = S 1 0 → d < n → RK (N 1) (zy_P S (fun i => if i < f then 40 + S 3 i % 20 else S 3 i)) → N 2 = B → ∃ z, fX9_packs_L10 K n kx N l1 l2 (nI f) = some z ∧ Q z := by
  have hc := g.1
  intro d
  induction d with
  | zero =>
    intro f n N hf hn hN n2
    obtain ⟨m, rfl⟩ : ∃ m, n = m + 1 := ⟨n - 1, by omega⟩
    have c : S 1 0 ≤ f := by omega
    have h0 : N 1 0 = nI (S 1 0) := hN.1
    rw [fX9_packs_L10]
    simp (disch := omega) only [li0, li1, li2, li3, li4, li5, li6, li7, li8, li9, li10, li12, li13, li14, li15, li19, li20, li31, li33, li40, li42, li44, li48, li57, li60, li99, li100, li126, li150, li176, li177, li187, li197, li207, li208, li223, li304, li608, li1520, li1824, nI_add, pk_mul, nI_clamp, nI_leI, nI_ltI, nI_eq, zn_inb, zn_gd, zn_bs, zn_isb, not_true_eq_false, not_false_eq_true, ↓reduceIte, pk_div, pk_sub, zn_rem20, zn_rem2, zn_m1, zn_eqw, zn_weq, zn_weq2, zn_wlt0, zn_wltn, zn_win, zn_wcl, zn_wadd, Nat.not_lt_zero, Nat.one_ne_zero, Nat.zero_ne_one, Nat.le_refl, Nat.zero_le, zn_sel_r, zn_sel_l, h0, c]
    have ef : f = S 1 0 := by omega
    rw [ef] at hN
    exact hk _ hN n2
  | succ d ih =>
    intro f n N hf hn hN n2
    obtain ⟨m, rfl⟩ : ∃ m, n = m + 1 := ⟨n - 1, by omega⟩
    have c : ¬ S 1 0 ≤ f := by omega
    have h0 : N 1 0 = nI (S 1 0) := hN.1
    have b := (g.2.2.1 f (by omega)).2.2.1
    have e1 := zk_lay1 (K := sr (sr K 1 (N 1)) 2 (N 2)) (S := S) hc (f := f) (by omega) 2
    rw [fX9_packs_L10]
    simp (disch := omega) only [li0, li1, li2, li3, li4, li5, li6, li7, li8, li9, li10, li12, li13, li14, li15, li19, li20, li31, li33, li40, li42, li44, li48, li57, li60, li99, li100, li126, li150, li176, li177, li187, li197, li207, li208, li223, li304, li608, li1520, li1824, nI_add, pk_mul, nI_clamp, nI_leI, nI_ltI, nI_eq, zn_inb, zn_gd, zn_bs, zn_isb, not_true_eq_false, not_false_eq_true, ↓reduceIte, pk_div, pk_sub, zn_rem20, zn_rem2, zn_m1, zn_eqw, zn_weq, zn_weq2, zn_wlt0, zn_wltn, zn_win, zn_wcl, zn_wadd, Nat.not_lt_zero, Nat.one_ne_zero, Nat.zero_ne_one, Nat.le_refl, Nat.zero_le, zn_sel_r, zn_sel_l, h0, c, e1]
    refine ih (f + 1) m _ (by omega) (by omega) ?_ n2
    have hf1 : f < S 1 0 := by omega
    have hu := (hN.up (show zy_P S (fun i => if i < f then 40 + S 3 i % 20 else S 3 i) 1 0 ≤ 12 from hc) (x := f) hf1 (40 + S 3 f % 20))
    have h2 : N 1 (9 + 14 * f + 2) = nI (S 3 f % 20) := by
      have := (hN.2.2.1 f hf1).2.2.1
      rw [show zy_P S (fun i => if i < f then 40 + S 3 i % 20 else S 3 i) 3 f = S 3 f from if_neg (Nat.lt_irrefl f)] at this
      exact this
    have hu2 := RK.of (s' := upd (N 1) (9 + 14 * f + 1) (nI 2)) hu hc ho (fun i hi => ?_)
    · refine hu2.row rfl rfl rfl ?_ rfl rfl rfl rfl rfl rfl rfl rfl rfl rfl rfl
      show (fun i => if i < f + 1 then 40 + S 3 i % 20 else S 3 i) = uw (fun i => if i < f then 40 + S 3 i % 20 else S 3 i) f (40 + S 3 f % 20)
      funext i
      unfold uw
      by_cases q : i = f
      · rw [if_pos q, q, if_pos (Nat.lt_succ_self f)]
      · rw [if_neg q]
        show _ = (if i < f then 40 + S 3 i % 20 else S 3 i)
        by_cases q2 : i < f
        · rw [if_pos q2, if_pos (by omega)]
        · rw [if_neg q2, if_neg (by omega)]
    · rw [show (40 + S 3 f % 20) / 20 = 2 by omega, show (40 + S 3 f % 20) % 20 = S 3 f % 20 by omega]
      unfold upd
      by_cases q : i = 9 + 14 * f + 2
      · rw [if_pos q, if_neg (by omega), q, h2]
      · rw [if_neg q]
theorem zk_packs {u : Nat} (h : RK (K 1) S) (g : GX u S) (hw : S 1 1 = 0) : ∃ z, fX9_packs K = some z ∧ ((∀ i, i < 304 → z.2 2 i = K 1 i) ∧ ((zy_all S = none ∧ z.1 = wI 0) ∨ (∃ pl, zy_all S = some pl ∧ z.1 = nI (zy_mvd S pl (S 1 0)) ∧ RK (z.2 1) (zy_P S pl)))) := by
  have hc := g.c12
  obtain ⟨r, e, er⟩ := zk_putAside (K := K)
  have hB : ∀ f, f < S 1 0 → r 2 (9 + 14 * f + 1) = nI (S 3 f / 20) ∧ r 2 (9 + 14 * f + 2) = nI (S 3 f % 20) := fun f hf => by
    have := h.2.2.1 f hf
    rw [er _ (by omega), er _ (by omega)]
    exact ⟨this.2.1, this.2.2.1⟩
  have mv0 : zy_mv S 0 (zy_pl0 S) = 0 := fb_ct_zero.mpr (fun k _ => by rw [Nat.zero_testBit, Bool.false_and])
  unfold fX9_packs
  rw [e, zn_bs]
  refine zk_packs_L10 (S := S) (B := r 2) (K := K) g.1 g.o8 (fun N hN n2 => ?_) (S 1 0) 0 5000 _ (by omega) (by omega) ?_ rfl
  · refine (fun w => ?_) (zk_packs_L35 (K := K) (S := S) (B := r 2) (Q := fun z => (∀ i, i < 304 → z.2 2 i = K 1 i) ∧ ((zy_all S = none ∧ z.1 = wI 0) ∨ (∃ pl, zy_all S = some pl ∧ z.1 = nI (zy_mvd S pl (S 1 0)) ∧ RK (z.2 1) (zy_P S pl)))) (kx := (fun (N : Mem) (l1 : Int32) (l2 : Int32) => if l2 = 0 then (fX9_packs_B227 K  (sr (sr K 1 (N 1)) 2 (N 2)) (-1 : Int32)) else (fX9_packs_B227 K  (sr (sr K 1 (N 1)) 2 (N 2)) l1))) g.1 hw hB (fun q N x m2 => ?_) (fun pl q N m1 m2 => ?_) (S 1 0) 0 0 (zy_pl0 S) (sr (sr K 1 (N 1)) 2 (N 2)) 5000 (by omega) (by omega) (zy_I0 g.1) rfl hN n2)
    · rw [mv0] at w
      exact w
    · refine ⟨_, rfl, fun i hi => ?_, Or.inl ⟨q, rfl⟩⟩
      show N 2 i = K 1 i
      rw [m2]
      exact er i hi
    · refine ⟨_, rfl, fun i hi => ?_, Or.inr ⟨pl, q, rfl, m1⟩⟩
      show N 2 i = K 1 i
      rw [m2]
      exact er i hi
  · refine RK.row (S := S) h rfl rfl rfl ?_ rfl rfl rfl rfl rfl rfl rfl rfl rfl rfl rfl
    show (fun i => if i < 0 then 40 + S 3 i % 20 else S 3 i) = S 3
    funext i
    exact if_neg (Nat.not_lt_zero i)
theorem zk_packsAside {u : Nat} (h : RK (K 1) S) (g : GX u S) (hw : S 1 1 = 0) : ∃ z, fX9_packsAside K = some z ∧ (RK (z.2 1) S ∧ ((zy_all S = none ∧ z.1 = wI 0) ∨ (∃ pl, zy_all S = some pl ∧ z.1 = nI (zy_mvd S pl (S 1 0))))) := by
  obtain ⟨z, e1, e2, e3⟩ := zk_packs h g hw
  obtain ⟨y, e4, e5⟩ := zk_takeBack (K := sr (sr K 1 (z.2 1)) 2 (z.2 2))
  unfold fX9_packsAside
  rw [e1, zn_bs, e4, zn_bs]
  refine ⟨_, rfl, RK.of h g.c12 g.o8 (fun i hi => (e5 i hi).trans (e2 i hi)), ?_⟩
  rcases e3 with e3 | ⟨pl, a, b, -⟩
  · exact Or.inl e3
  · exact Or.inr ⟨pl, a, b⟩
end
