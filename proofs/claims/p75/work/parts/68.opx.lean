set_option maxHeartbeats 400000
/-! changes told by numbers; the class's lift and things -/
theorem zn_bk2 {α β γ δ : Type} {o : Option (α × γ)} {v : α} {P : γ → Prop} {kx : α × γ → Option (β × δ)} {w : β} {Q : δ → Prop} (e : ∃ z, o = some (v, z) ∧ P z) (hk : ∀ z, P z → ∃ y, kx (v, z) = some (w, y) ∧ Q y) : ∃ y, o.bind kx = some (w, y) ∧ Q y := by
  obtain ⟨z, h1, h2⟩ := e
  subst h1
  exact hk z h2
theorem zn_bk1 {β γ δ : Type} {o : Option γ} {P : γ → Prop} {kx : γ → Option (β × δ)} {w : β} {Q : δ → Prop} (e : ∃ z, o = some z ∧ P z) (hk : ∀ z, P z → ∃ y, kx z = some (w, y) ∧ Q y) : ∃ y, o.bind kx = some (w, y) ∧ Q y := by
  obtain ⟨z, h1, h2⟩ := e
  subst h1
  exact hk z h2
theorem zn_bk0 {γ δ : Type} {o : Option γ} {P : γ → Prop} {kx : γ → Option δ} {Q : δ → Prop} (e : ∃ z, o = some z ∧ P z) (hk : ∀ z, P z → ∃ y, kx z = some y ∧ Q y) : ∃ y, o.bind kx = some y ∧ Q y := by
  obtain ⟨z, h1, h2⟩ := e
  subst h1
  exact hk z h2
theorem RX.of {M M' : Mem} {S : SM} (h : RX M S) (e0 : M' 0 = M 0) (e1 : M' 1 = M 1) (e2 : M' 2 = M 2) (e3 : M' 3 = M 3) (e4 : M' 4 = M 4) (e5 : M' 5 = M 5) (e6 : M' 6 = M 6) (e7 : M' 7 = M 7) (e8 : M' 8 = M 8) (e10 : M' 10 = M 10) (e11 : M' 11 = M 11) (e12 : M' 12 = M 12) (e13 : M' 13 = M 13) (e14 : M' 14 = M 14) (e15 : M' 15 = M 15) : RX M' S := by
  have t1 : ofs 1 M' 0 = M 1 := e1
  have t2 : ofs 1 M' 1 = M 2 := e2
  have t3 : ofs 1 M' 2 = M 3 := e3
  have t4 : ofs 1 M' 3 = M 4 := e4
  have t5 : ofs 1 M' 4 = M 5 := e5
  unfold RX RT
  rw [t1, t2, t3, t4, t5, e0, e6, e7, e8, e10, e11, e12, e13, e14, e15]
  exact h
theorem zn_addw (j : Nat) : nI (j + 1) + wI 0 = nI j := pk_m1 j
def zo_sh (x : Nat) (g : Nat → Nat) : Nat → Nat := fun i => if i = 0 then x else g (i - 1)
def zo_note (S : SM) (t b : Nat) : SM := sw (sw (sw S 6 (uw (uw (S 6) 2 (S 6 2 + t)) 4 (min (S 6 4 + 1) 8))) 7 (zo_sh t (S 7))) 8 (zo_sh b (S 8))
def zo_go (S : SM) (t b e : Nat) : SM := zo_note (sw S 6 (uw (uw (S 6) 0 e) 3 (S 6 3 + b))) t b
def zo_bring (S : SM) (f : Nat) : SM := zo_go (sw (sw S 1 (uw (S 1) 1 (f + 1))) 4 (uw (S 4) f (S 4 f + 1))) (zs_to S f) 1 0
def zo_put (S : SM) (p : Nat) : SM := zo_go (sw (sw S 1 (uw (S 1) 1 0)) 3 (uw (S 3) (S 1 1 - 1) p)) (zs_way p) 0 (p % 20)
/-- the lift's rows alone -/
def zRL (L : Mem) (S : SM) : Prop := (L 0 0 = nI (S 6 0) ∧ L 0 1 = nI (S 6 1) ∧ L 0 2 = nI (S 6 2) ∧ L 0 3 = nI (S 6 3) ∧ L 0 4 = nI (S 6 4)) ∧ rn 8 (L 1) (S 7) ∧ rn 8 (L 2) (S 8)
theorem RX.l {M : Mem} {S : SM} (h : RX M S) : zRL (ofs 6 M) S := ⟨⟨h.2.1.1, h.2.1.2.1, h.2.1.2.2.1, h.2.1.2.2.2.1, h.2.1.2.2.2.2.1⟩, h.r7, h.r8⟩
def zo_mid (g : Nat → Nat) (j : Nat) : Nat → Nat := fun i => if j < i then g (i - 1) else g i
theorem zo_mid_7 (g : Nat → Nat) {f : Nat → Int32} (h : rn 8 f g) : rn 8 f (zo_mid g 7) := fun i hi => by
  unfold zo_mid
  rw [if_neg (by omega)]
  exact h i hi
theorem zo_mid_s {g : Nat → Nat} {f : Nat → Int32} {j : Nat} (hj : j < 7) (h : rn 8 f (zo_mid g (j + 1))) : rn 8 (upd f (j + 1) (f j)) (zo_mid g j) := fun i hi => by
  unfold zo_mid upd
  by_cases e : i = j + 1
  · rw [if_pos e, if_pos (by omega), h j (by omega), e]
    unfold zo_mid
    rw [if_neg (by omega)]
    rfl
  · rw [if_neg e, h i hi]
    unfold zo_mid
    by_cases q : j < i
    · rw [if_pos q, if_pos (by omega)]
    · rw [if_neg q, if_neg (by omega)]
theorem zo_mid_0 {g : Nat → Nat} {f : Nat → Int32} (h : rn 8 f (zo_mid g 0)) (x : Nat) : rn 8 (upd f 0 (nI x)) (zo_sh x g) := fun i hi => by
  unfold upd zo_sh
  by_cases e : i = 0
  · rw [if_pos e, if_pos e]
  · rw [if_neg e, if_neg e, h i hi]
    unfold zo_mid
    rw [if_pos (by omega)]
section
variable {L M : Mem} {S : SM} {u : Nat}
theorem zx_go_L {t b e : Nat} (hb : ∀ i, i < 8 → S 8 i < 2) {kx : Mem → Int32 → Int32 → Int32 → Option Mem} {Q : Mem → Prop} (hk : ∀ N, N 0 = L 0 → rn 8 (N 1) (zo_mid (S 7) 0) → rn 8 (N 2) (zo_mid (S 8) 0) → ∃ z, kx N (nI t) (nI b) (nI e) = some z ∧ Q z) : ∀ j n N, j ≤ 7 → j < n → N 0 = L 0 → rn 8 (N 1) (zo_mid (S 7) j) → rn 8 (N 2) (zo_mid (S 8) j) → ∃ z, fX2_go_L4 L n kx N (nI t) (nI b) (nI e) (nI j) = some z ∧ Q z := by
  intro j
  induction j with
  | zero =>
    intro n N _ hn h0 h1 h2
    obtain ⟨m, rfl⟩ : ∃ m, n = m + 1 := ⟨n - 1, by omega⟩
    rw [fX2_go_L4]
    simp (disch := omega) only [li0, li1, li2, li3, li4, li5, li6, li7, li8, li9, li10, li12, li13, li14, li15, li19, li20, li31, li33, li40, li42, li44, li48, li57, li60, li99, li100, li126, li150, li176, li177, li187, li197, li207, li208, li223, li304, li608, li1520, li1824, nI_add, pk_mul, nI_clamp, nI_leI, nI_ltI, nI_eq, zn_inb, zn_gd, zn_bs, zn_isb, not_true_eq_false, not_false_eq_true, ↓reduceIte, pk_div, pk_sub, zn_rem20, zn_rem2, zn_m1, zn_eqw, zn_weq, zn_weq2, zn_wlt0, zn_wltn, zn_win, zn_wcl, zn_wadd, Nat.not_lt_zero, Nat.one_ne_zero, Nat.zero_ne_one, Nat.le_refl, Nat.zero_le, zn_sel_r, zn_sel_l]
    exact hk _ h0 h1 h2
  | succ j ih =>
    intro n N hj hn h0 h1 h2
    obtain ⟨m, rfl⟩ : ∃ m, n = m + 1 := ⟨n - 1, by omega⟩
    have c : ¬ j + 1 ≤ 0 := by omega
    have e1 : isb (N 2 j) = true := by
      rw [h2 j (by omega)]
      refine zn_isb ?_
      unfold zo_mid
      rw [if_neg (by omega)]
      exact hb j (by omega)
    rw [fX2_go_L4]
    simp (disch := omega) only [li0, li1, li2, li3, li4, li5, li6, li7, li8, li9, li10, li12, li13, li14, li15, li19, li20, li31, li33, li40, li42, li44, li48, li57, li60, li99, li100, li126, li150, li176, li177, li187, li197, li207, li208, li223, li304, li608, li1520, li1824, nI_add, pk_mul, nI_clamp, nI_leI, nI_ltI, nI_eq, zn_inb, zn_gd, zn_bs, zn_isb, not_true_eq_false, not_false_eq_true, ↓reduceIte, pk_div, pk_sub, zn_rem20, zn_rem2, zn_m1, zn_eqw, zn_weq, zn_weq2, zn_wlt0, zn_wltn, zn_win, zn_wcl, zn_wadd, Nat.not_lt_zero, Nat.one_ne_zero, Nat.zero_ne_one, Nat.le_refl, Nat.zero_le, zn_sel_r, zn_sel_l, c, e1, Nat.add_sub_cancel, zn_addw]
    refine ih m _ (by omega) (by omega) ?_ ?_ ?_
    · exact h0
    · exact zo_mid_s (by omega) h1
    · exact zo_mid_s (by omega) h2
theorem zx_go (h : zRL L S) (hb : ∀ i, i < 8 → S 8 i < 2) (hm : S 6 4 ≤ 8) {t b e : Nat} (hb2 : b < 2) : ∃ z, fX2_go L (nI t) (nI b) (nI e) = some z ∧ zRL z (zo_go S t b e) := by
  unfold fX2_go
  refine zx_go_L hb ?_ 7 5000 L (by omega) (by omega) rfl (zo_mid_7 _ h.2.1) (zo_mid_7 _ h.2.2)
  intro N h0 h1 h2
  have e3 : N 0 3 = nI (S 6 3) := by rw [h0]; exact h.1.2.2.2.1
  have e4 : N 0 4 = nI (S 6 4) := by rw [h0]; exact h.1.2.2.2.2
  have e2 : N 0 2 = nI (S 6 2) := by rw [h0]; exact h.1.2.2.1
  have e1 : N 0 1 = nI (S 6 1) := by rw [h0]; exact h.1.2.1
  have em : (if nI 8 < nI (S 6 4 + 1) then nI 8 else nI (S 6 4 + 1)) = nI (min (S 6 4 + 1) 8) := by
    by_cases q : 8 < S 6 4 + 1
    · rw [if_pos (nI_lt q (by omega))]
      congr 1
      omega
    · rw [if_neg (nI_nlt (by omega) (by omega))]
      congr 1
      omega
  simp (disch := omega) only [li0, li1, li8, zn_inb, zn_gd, zn_isb, nI_eq, e4, nI_add, em, e2, e3, nI_clamp]
  by_cases q : b = 0
  · subst q
    simp (disch := omega) only [↓reduceIte, fX2_go_B100]
    refine ⟨_, rfl, ⟨rfl, e1, rfl, ?_, rfl⟩, zo_mid_0 h1 t, zo_mid_0 h2 0⟩
    exact nI_add _ _
  · obtain rfl : b = 1 := by omega
    simp (disch := omega) only [↓reduceIte, fX2_go_B100, Nat.one_ne_zero]
    refine ⟨_, rfl, ⟨rfl, e1, rfl, ?_, rfl⟩, zo_mid_0 h1 t, zo_mid_0 h2 1⟩
    exact nI_add _ _
theorem zx_bring (h : RX M S) (g : GX u S) {f : Nat} (hf : f < S 1 0) : ∃ z, fX6_bring M (nI f) = some (nI (zs_to S f), z) ∧ RX z (zo_bring S f) ∧ z = sr (sr (sr (sr (sr M 1 (z 1)) 4 (z 4)) 6 (z 6)) 7 (z 7)) 8 (z 8) := by
  have hc := g.c12
  have e1 := zx_ticksToBring h g hf
  obtain ⟨l, e2, hl⟩ := zx_go h.l g.lo.2.2.2 g.lo.2.2.1 (t := zs_to S f) (b := 1) (e := 0) (by omega)
  have e3 := h.r4 f (by omega)
  unfold fX6_bring
  simp (disch := omega) only [li0, li1, li2, li3, li4, li5, li6, li7, li8, li9, li10, li12, li13, li14, li15, li19, li20, li31, li33, li40, li42, li44, li48, li57, li60, li99, li100, li126, li150, li176, li177, li187, li197, li207, li208, li223, li304, li608, li1520, li1824, nI_add, pk_mul, nI_clamp, nI_leI, nI_ltI, nI_eq, zn_inb, zn_gd, zn_bs, zn_isb, not_true_eq_false, not_false_eq_true, ↓reduceIte, pk_div, pk_sub, zn_rem20, zn_rem2, zn_m1, zn_eqw, zn_weq, zn_weq2, zn_wlt0, zn_wltn, zn_win, zn_wcl, zn_wadd, Nat.not_lt_zero, Nat.one_ne_zero, Nat.zero_ne_one, Nat.le_refl, Nat.zero_le, zn_sel_r, zn_sel_l, e1, e2, e3]
  refine ⟨_, rfl, ⟨⟨h.c, ?_, h.r2, h.r3, rn_up h.r4 f (S 4 f + 1), h.r5⟩, ⟨hl.1.1, hl.1.2.1, hl.1.2.2.1, hl.1.2.2.2.1, hl.1.2.2.2.2, h.2.1.2.2.2.2.2.1, h.2.1.2.2.2.2.2.2⟩, hl.2.1, hl.2.2, h.r10, h.r11, h.r12, h.r13, h.r15⟩, rfl⟩
  show nI f = wI (f + 1)
  rw [wI_s]
theorem zx_putAt (h : RX M S) (g : GX u S) (hw : 0 < S 1 1) {p : Nat} (hp : p < 40) : ∃ z, fX6_putAt M (nI p) = some (nI (zs_way p), z) ∧ RX z (zo_put S p) ∧ z = sr (sr (sr (sr (sr M 1 (z 1)) 3 (z 3)) 6 (z 6)) 7 (z 7)) 8 (z 8) := by
  have hc := g.c12
  have hw2 := g.1.2.1
  have e1 := zx_wayOf hp
  obtain ⟨l, e2, hl⟩ := zx_go h.l g.lo.2.2.2 g.lo.2.2.1 (t := zs_way p) (b := 0) (e := p % 20) (by omega)
  have c1 : ¬ S 1 1 < 0 + 1 := by omega
  have c2 : S 1 1 < S 1 0 + 1 := by omega
  rw [show p % 20 + 2 * (p / 20) = zs_way p from rfl] at e1
  unfold fX6_putAt
  simp (disch := omega) only [li0, li1, li2, li3, li4, li5, li6, li7, li8, li9, li10, li12, li13, li14, li15, li19, li20, li31, li33, li40, li42, li44, li48, li57, li60, li99, li100, li126, li150, li176, li177, li187, li197, li207, li208, li223, li304, li608, li1520, li1824, nI_add, pk_mul, nI_clamp, nI_leI, nI_ltI, nI_eq, zn_inb, zn_gd, zn_bs, zn_isb, not_true_eq_false, not_false_eq_true, ↓reduceIte, pk_div, pk_sub, zn_rem20, zn_rem2, zn_m1, zn_eqw, zn_weq, zn_weq2, zn_wlt0, zn_wltn, zn_win, zn_wcl, zn_wadd, Nat.not_lt_zero, Nat.one_ne_zero, Nat.zero_ne_one, Nat.le_refl, Nat.zero_le, zn_sel_r, zn_sel_l, h.w, h.c, c1, c2, e1, e2]
  refine ⟨_, rfl, ?_⟩
  exact ⟨⟨⟨h.c, rfl, h.r2, rn_up h.r3 (S 1 1 - 1) p, h.r4, h.r5⟩, ⟨hl.1.1, hl.1.2.1, hl.1.2.2.1, hl.1.2.2.2.1, hl.1.2.2.2.2, h.2.1.2.2.2.2.2.1, h.2.1.2.2.2.2.2.2⟩, hl.2.1, hl.2.2, h.r10, h.r11, h.r12, h.r13, h.r15⟩, rfl⟩
/-- where the shelf at the window is stowed -/
def zs_sp (S : SM) : Nat := if S 6 1 = 0 then zs_fp (zs_tq S) (S 2 (S 1 1 - 1)) - 1 else S 3 (S 1 1 - 1)
/-- the window's shelf could come back to where it was -/
theorem zs_own (g : GT S) (hw : 0 < S 1 1) : zs_fq (zs_tq S) (S 2 (S 1 1 - 1)) (S 3 (S 1 1 - 1)) = true := by
  have hw2 := g.2.1
  have b := g.2.2.1 (S 1 1 - 1) (by omega)
  refine decide_eq_true ⟨b.2.2.2, fun i hi => zs_none0.mpr fun f hf => decide_eq_false ?_⟩
  rintro ⟨a1, a2, a3⟩
  rcases Nat.lt_trichotomy f (S 1 1 - 1) with q | q | q
  · have := g.2.2.2.2.2 f (S 1 1 - 1) q (by omega)
    omega
  · omega
  · have := g.2.2.2.2.2 (S 1 1 - 1) f q hf
    omega
theorem zs_pk_on {p : Nat} (hp : p < 40) : ∃ k, k < 40 ∧ zs_pk k = p := ⟨2 * (p % 20) + p / 20, by omega, by unfold zs_pk; omega⟩
theorem zs_fp_s {q : Nat → Bool} {w p : Nat} (hp : p < 40) (h : zs_fq q w p = true) : 0 < zs_fp q w := by
  obtain ⟨k, hk, rfl⟩ := zs_pk_on hp
  unfold zs_fp
  rw [zs_any0.mpr ⟨k, hk, h⟩]
  show 0 < zs_pk _ + 1
  omega
theorem zs_fp_fit {q : Nat → Bool} {w : Nat} (h : 0 < zs_fp q w) : zs_fp q w - 1 < 40 ∧ zs_fq q w (zs_fp q w - 1) = true := by
  unfold zs_fp at h ⊢
  cases e : zs_any (fun k => zs_fq q w (zs_pk k)) 40 0
  · rw [e] at h
    exact absurd h (Nat.lt_irrefl 0)
  · obtain ⟨-, b, c, -⟩ := zs_first_s _ _ _ e
    show zs_pk _ + 1 - 1 < 40 ∧ zs_fq q w (zs_pk _ + 1 - 1) = true
    rw [Nat.add_sub_cancel]
    exact ⟨zs_pk_lt (by omega), c⟩
theorem zs_sp_fit (g : GT S) (hw : 0 < S 1 1) : zs_sp S < 40 ∧ zs_fq (zs_tq S) (S 2 (S 1 1 - 1)) (zs_sp S) = true := by
  have hw2 := g.2.1
  have b := g.2.2.1 (S 1 1 - 1) (by omega)
  unfold zs_sp
  split
  · exact zs_fp_fit (zs_fp_s b.2.2.1 (zs_own g hw))
  · exact ⟨b.2.2.1, zs_own g hw⟩
theorem zx_putBack (h : RX M S) (g : GX u S) (hw : 0 < S 1 1) : ∃ z, fX6_putBack M = some (nI (zs_way (zs_sp S)), z) ∧ RX z (zo_put S (zs_sp S)) ∧ z = sr (sr (sr (sr (sr M 1 (z 1)) 3 (z 3)) 6 (z 6)) 7 (z 7)) 8 (z 8) := by
  have hc := g.c12
  have hw2 := g.1.2.1
  have b := g.1.2.2.1 (S 1 1 - 1) (by omega)
  have lo := g.lo
  have c1 : ¬ S 1 1 < 0 + 1 := by omega
  have c4 : ¬ 0 = zs_sp S + 1 := by omega
  have c2 : S 1 1 < S 1 0 + 1 := by omega
  have fit := zs_sp_fit g.1 hw
  have e2 := h.2.1.2.1
  have e3 := h.r2 (S 1 1 - 1) (by omega)
  have e4 := h.r3 (S 1 1 - 1) (by omega)
  unfold fX6_putBack
  by_cases k : S 6 1 = 0
  · have e5 := zx_firstFree h.t g.1 (w := S 2 (S 1 1 - 1)) (by omega)
    have fp := zs_fp_s b.2.2.1 (zs_own g.1 hw)
    have fl := zs_fp_le (zs_tq S) (S 2 (S 1 1 - 1))
    have c3 : ¬ zs_fp (zs_tq S) (S 2 (S 1 1 - 1)) = 0 := by omega
    have es : wI (zs_fp (zs_tq S) (S 2 (S 1 1 - 1))) = nI (zs_sp S) := by
      unfold zs_sp
      rw [if_pos k, wI_p fp]
    simp (disch := omega) only [li0, li1, li2, li3, li4, li5, li6, li7, li8, li9, li10, li12, li13, li14, li15, li19, li20, li31, li33, li40, li42, li44, li48, li57, li60, li99, li100, li126, li150, li176, li177, li187, li197, li207, li208, li223, li304, li608, li1520, li1824, nI_add, pk_mul, nI_clamp, nI_leI, nI_ltI, nI_eq, zn_inb, zn_gd, zn_bs, zn_isb, not_true_eq_false, not_false_eq_true, ↓reduceIte, pk_div, pk_sub, zn_rem20, zn_rem2, zn_m1, zn_eqw, zn_weq, zn_weq2, zn_wlt0, zn_wltn, zn_win, zn_wcl, zn_wadd, Nat.not_lt_zero, Nat.one_ne_zero, Nat.zero_ne_one, Nat.le_refl, Nat.zero_le, zn_sel_r, zn_sel_l, h.w, h.c, c1, c2, e2, eq_true k, e3, e5, fX6_putBack_B55, c3, c4, fX6_putBack_B75, es]
    refine zn_bk2 (zx_putAt ?_ g hw fit.1) (fun z hzq => ?_)
    · exact h.of rfl rfl rfl rfl rfl rfl rfl rfl rfl rfl rfl rfl rfl rfl rfl
    obtain ⟨hz, -⟩ := hzq
    refine ⟨_, rfl, ?_⟩
    exact ⟨⟨⟨hz.c, hz.w, h.r2, hz.r3, h.r4, h.r5⟩, ⟨hz.2.1.1, hz.2.1.2.1, hz.2.1.2.2.1, hz.2.1.2.2.2.1, hz.2.1.2.2.2.2.1, h.2.1.2.2.2.2.2.1, h.2.1.2.2.2.2.2.2⟩, hz.r7, hz.r8, h.r10, h.r11, h.r12, h.r13, h.r15⟩, rfl⟩
  · have es : M 3 (S 1 1 - 1) = nI (zs_sp S) := by
      unfold zs_sp
      rw [if_neg k, e4]
    simp (disch := omega) only [li0, li1, li2, li3, li4, li5, li6, li7, li8, li9, li10, li12, li13, li14, li15, li19, li20, li31, li33, li40, li42, li44, li48, li57, li60, li99, li100, li126, li150, li176, li177, li187, li197, li207, li208, li223, li304, li608, li1520, li1824, nI_add, pk_mul, nI_clamp, nI_leI, nI_ltI, nI_eq, zn_inb, zn_gd, zn_bs, zn_isb, not_true_eq_false, not_false_eq_true, ↓reduceIte, pk_div, pk_sub, zn_rem20, zn_rem2, zn_m1, zn_eqw, zn_weq, zn_weq2, zn_wlt0, zn_wltn, zn_win, zn_wcl, zn_wadd, Nat.not_lt_zero, Nat.one_ne_zero, Nat.zero_ne_one, Nat.le_refl, Nat.zero_le, zn_sel_r, zn_sel_l, h.w, h.c, c1, c2, e2, k, fX6_putBack_B55, fX6_putBack_B75, es]
    refine zn_bk2 (zx_putAt ?_ g hw fit.1) (fun z hzq => ?_)
    · exact h.of rfl rfl rfl rfl rfl rfl rfl rfl rfl rfl rfl rfl rfl rfl rfl
    obtain ⟨hz, -⟩ := hzq
    refine ⟨_, rfl, ?_⟩
    exact ⟨⟨⟨hz.c, hz.w, h.r2, hz.r3, h.r4, h.r5⟩, ⟨hz.2.1.1, hz.2.1.2.1, hz.2.1.2.2.1, hz.2.1.2.2.2.1, hz.2.1.2.2.2.2.1, h.2.1.2.2.2.2.2.1, h.2.1.2.2.2.2.2.2⟩, hz.r7, hz.r8, h.r10, h.r11, h.r12, h.r13, h.r15⟩, rfl⟩
end

