/-! the choice of an order: the fewest shelves, the least set -/
def zs_best (S : SM) (r v : Nat) : Prop := v < 2 ^ S 1 0 ∧ zs_en S r v = true ∧ ∀ t, t < 2 ^ S 1 0 → zs_en S r t = true → zs_bits v < zs_bits t ∨ (zs_bits v = zs_bits t ∧ v ≤ t)
theorem zs_best_u {S : SM} {r v w : Nat} (h1 : zs_best S r v) (h2 : zs_best S r w) : v = w := by
  have a := h1.2.2 w h2.1 h2.2.1
  have b := h2.2.2 v h1.1 h1.2.1
  omega
theorem zs_bits_mono {v w : Nat} (h : ∀ j, j < 12 → v.testBit j = true → w.testBit j = true) : zs_bits v ≤ zs_bits w := by
  refine fb_sm_le (fun j hj => ?_)
  have q := h j hj
  rw [zn_tb, zn_tb, decide_eq_true_eq, decide_eq_true_eq] at q
  have q1 : v / 2 ^ j % 2 < 2 := Nat.mod_lt _ (by decide)
  show v / 2 ^ j % 2 ≤ w / 2 ^ j % 2
  omega
theorem fb_sm_eq {f g : Nat → Nat} {n : Nat} (h : ∀ k, k < n → f k ≤ g k) (e : fb_sm f n = fb_sm g n) : ∀ k, k < n → f k = g k := by
  have h1 : fb_sm g n = fb_sm (fun k => f k + (g k - f k)) n := fb_sm_cong (fun k hk => by
    have := h k hk
    omega)
  rw [fb_sm_add] at h1
  have h2 := fb_sm_zero (show fb_sm (fun k => g k - f k) n = 0 by omega)
  intro k hk
  have h3 := h2 k hk
  have h4 := h k hk
  have h5 : g k - f k = 0 := h3
  omega
theorem zs_bits_strict {v w : Nat} (hv : v < 2 ^ 12) (hw : w < 2 ^ 12) (h : ∀ j, j < 12 → v.testBit j = true → w.testBit j = true) (n : v ≠ w) : zs_bits v < zs_bits w := by
  have m := zs_bits_mono h
  rcases Nat.lt_or_ge (zs_bits v) (zs_bits w) with q | q
  · exact q
  · exfalso
    apply n
    have z := fb_sm_eq (f := fun j => v / 2 ^ j % 2) (g := fun j => w / 2 ^ j % 2) (n := 12) (fun j hj => by
      have q := h j hj
      rw [zn_tb, zn_tb, decide_eq_true_eq, decide_eq_true_eq] at q
      have q1 : v / 2 ^ j % 2 < 2 := Nat.mod_lt _ (by decide)
      show v / 2 ^ j % 2 ≤ w / 2 ^ j % 2
      omega) (show zs_bits v = zs_bits w by omega)
    apply Nat.eq_of_testBit_eq
    intro i
    by_cases hi : i < 12
    · rw [zn_tb, zn_tb]
      have z1 : v / 2 ^ i % 2 = w / 2 ^ i % 2 := z i hi
      rw [z1]
    · rw [Nat.testBit_lt_two_pow (Nat.lt_of_lt_of_le hv (Nat.pow_le_pow_right (by decide) (by omega))), Nat.testBit_lt_two_pow (Nat.lt_of_lt_of_le hw (Nat.pow_le_pow_right (by decide) (by omega)))]
theorem zs_bits_le (v : Nat) : zs_bits v ≤ 12 := by
  have := fb_sm_bound (f := fun j => v / 2 ^ j % 2) (c := 1) (n := 12) (fun j _ => by
    have : v / 2 ^ j % 2 < 2 := Nat.mod_lt _ (by decide)
    omega)
  exact this
theorem zs_bits_pos {v : Nat} (h : 0 < v) (h2 : v < 2 ^ 12) : 0 < zs_bits v := by
  refine Nat.pos_of_ne_zero fun e => ?_
  have z := fb_sm_zero e
  have : v = 0 := by
    apply Nat.eq_of_testBit_eq
    intro i
    rw [Nat.zero_testBit]
    by_cases hi : i < 12
    · rw [zn_tb]
      have := z i hi
      exact decide_eq_false (by omega)
    · exact Nat.testBit_lt_two_pow (Nat.lt_of_lt_of_le h2 (Nat.pow_le_pow_right (by decide) (by omega)))
  omega
theorem zs_en_iff {S : SM} {r set : Nat} : zs_en S r set = true ↔ ∀ k, k < 10 → S 15 (r * 10 + k) ≤ zs_sum S set k (S 1 0) := by
  unfold zs_en
  rw [Bool.not_eq_true', zs_none0]
  constructor
  · intro h k hk
    have := of_decide_eq_false (h k hk)
    omega
  · intro h k hk
    exact decide_eq_false (by have := h k hk; omega)
theorem zs_sum_0 (S : SM) (k n : Nat) : zs_sum S 0 k n = 0 := by
  have h := fb_sm_bound (f := fun f => if (0 : Nat).testBit f then S 5 (f * 10 + k) else 0) (c := 0) (n := n) (fun f _ => by
    rw [Nat.zero_testBit]
    exact Nat.le_refl _)
  unfold zs_sum
  omega
section
variable {M K : Mem} {S : SM} {u : Nat}
/-! the class's choice: among the subsets of the useful shelves -/
theorem zx_bitCount_all : (List.range 4096).all (fun v => decide (fJ6_bitCount_0f7a4 (nI v) = some (nI (zs_bits v)))) = true := by decide +kernel
theorem zx_bitCount {v : Nat} (hv : v < 2 ^ 12) : fJ6_bitCount_0f7a4 (nI v) = some (nI (zs_bits v)) := of_decide_eq_true (List.all_eq_true.mp zx_bitCount_all v (List.mem_range.mpr hv))
def zs_ufk (S : SM) (r f k : Nat) : Bool := decide (0 < S 15 (r * 10 + k) ∧ 0 < S 5 (f * 10 + k))
def zs_uf (S : SM) (r f : Nat) : Bool := zs_any (zs_ufk S r f) 10 0
def zs_us1 (v f : Nat) (b : Bool) : Nat := if b = true then v ||| 2 ^ f else v
def zs_useful (S : SM) (r : Nat) : Nat → Nat := zs_it (fun f v => zs_us1 v f (zs_uf S r f)) 0
theorem zs_us1_lt {v f : Nat} {b : Bool} (hv : v < 2 ^ 12) (hf : f < 12) : zs_us1 v f b < 2 ^ 12 := by
  unfold zs_us1
  split
  · exact Nat.or_lt_two_pow hv (Nat.pow_lt_pow_right (by decide) hf)
  · exact hv
theorem zs_us1_or (v f : Nat) (a b : Bool) : zs_us1 (zs_us1 v f a) f b = zs_us1 v f (a || b) := by
  unfold zs_us1
  cases a
  · cases b <;> rfl
  · cases b
    · rfl
    · show v ||| 2 ^ f ||| 2 ^ f = v ||| 2 ^ f
      rw [Nat.or_assoc, Nat.or_self]
theorem zx_useful_L1 (h : RX M S) (g : GX u S) {r f : Nat} (hr : r < S 14 0) (hf : f < S 1 0) (kx : Int32 → Int32 → Int32 → Option Int32) : ∀ d k n v, k + d = 10 → v < 2 ^ 12 → d < n → fX6_usefulShelves_L18 M n kx (nI r) (nI v) (nI f) (nI k) = kx (nI r) (nI (zs_us1 v f (zs_any (zs_ufk S r f) d k))) (nI f) := by
  have hc := g.c12
  have h8 := g.o8
  intro d
  induction d with
  | zero =>
    intro k n v hk hv hn
    obtain ⟨m, rfl⟩ : ∃ m, n = m + 1 := ⟨n - 1, by omega⟩
    have c : 10 ≤ k := by omega
    rw [fX6_usefulShelves_L18]
    simp (disch := omega) only [li0, li1, li2, li3, li4, li5, li6, li7, li8, li9, li10, li12, li13, li14, li15, li19, li20, li31, li33, li40, li42, li44, li48, li57, li60, li99, li100, li126, li150, li176, li177, li187, li197, li207, li208, li223, li304, li608, li1520, li1824, nI_add, pk_mul, nI_clamp, nI_leI, nI_ltI, nI_eq, zn_inb, zn_gd, zn_bs, zn_isb, not_true_eq_false, not_false_eq_true, ↓reduceIte, pk_div, pk_sub, zn_rem20, zn_rem2, zn_m1, zn_eqw, zn_weq, zn_weq2, zn_wlt0, zn_wltn, zn_win, zn_wcl, zn_wadd, Nat.not_lt_zero, Nat.one_ne_zero, Nat.zero_ne_one, Nat.le_refl, Nat.zero_le, zn_sel_r, zn_sel_l, c]
    rfl
  | succ d ih =>
    intro k n v hk hv hn
    obtain ⟨m, rfl⟩ : ∃ m, n = m + 1 := ⟨n - 1, by omega⟩
    have c : ¬ 10 ≤ k := by omega
    have e1 := zx_wantedOf h (r := r) (k := k) (by omega) (by omega)
    have e2 := zx_countIn h.t (f := f) (k := k) (by omega) (by omega)
    have b1 := g.wn r k hr (by omega)
    have b2 := g.th f k hf (by omega)
    have e3 := zn_1shl (k := f) (by omega)
    have p : 2 ^ f < 2 ^ 12 := Nat.pow_lt_pow_right (by decide) (by omega)
    rw [zs_any, ← zs_us1_or, fX6_usefulShelves_L18]
    by_cases z1 : S 15 (r * 10 + k) ≤ 0
    · rw [show zs_ufk S r f k = false from decide_eq_false (by omega)]
      simp (disch := omega) only [li0, li1, li2, li3, li4, li5, li6, li7, li8, li9, li10, li12, li13, li14, li15, li19, li20, li31, li33, li40, li42, li44, li48, li57, li60, li99, li100, li126, li150, li176, li177, li187, li197, li207, li208, li223, li304, li608, li1520, li1824, nI_add, pk_mul, nI_clamp, nI_leI, nI_ltI, nI_eq, zn_inb, zn_gd, zn_bs, zn_isb, not_true_eq_false, not_false_eq_true, ↓reduceIte, pk_div, pk_sub, zn_rem20, zn_rem2, zn_m1, zn_eqw, zn_weq, zn_weq2, zn_wlt0, zn_wltn, zn_win, zn_wcl, zn_wadd, Nat.not_lt_zero, Nat.one_ne_zero, Nat.zero_ne_one, Nat.le_refl, Nat.zero_le, zn_sel_r, zn_sel_l, c, e1, z1, fX6_usefulShelves_B57]
      exact ih (k + 1) m v (by omega) hv (by omega)
    · by_cases z2 : S 5 (f * 10 + k) ≤ 0
      · rw [show zs_ufk S r f k = false from decide_eq_false (by omega)]
        simp (disch := omega) only [li0, li1, li2, li3, li4, li5, li6, li7, li8, li9, li10, li12, li13, li14, li15, li19, li20, li31, li33, li40, li42, li44, li48, li57, li60, li99, li100, li126, li150, li176, li177, li187, li197, li207, li208, li223, li304, li608, li1520, li1824, nI_add, pk_mul, nI_clamp, nI_leI, nI_ltI, nI_eq, zn_inb, zn_gd, zn_bs, zn_isb, not_true_eq_false, not_false_eq_true, ↓reduceIte, pk_div, pk_sub, zn_rem20, zn_rem2, zn_m1, zn_eqw, zn_weq, zn_weq2, zn_wlt0, zn_wltn, zn_win, zn_wcl, zn_wadd, Nat.not_lt_zero, Nat.one_ne_zero, Nat.zero_ne_one, Nat.le_refl, Nat.zero_le, zn_sel_r, zn_sel_l, c, e1, e2, z1, z2, fX6_usefulShelves_B57]
        exact ih (k + 1) m v (by omega) hv (by omega)
      · rw [show zs_ufk S r f k = true from decide_eq_true (by omega)]
        simp (disch := omega) only [li0, li1, li2, li3, li4, li5, li6, li7, li8, li9, li10, li12, li13, li14, li15, li19, li20, li31, li33, li40, li42, li44, li48, li57, li60, li99, li100, li126, li150, li176, li177, li187, li197, li207, li208, li223, li304, li608, li1520, li1824, nI_add, pk_mul, nI_clamp, nI_leI, nI_ltI, nI_eq, zn_inb, zn_gd, zn_bs, zn_isb, not_true_eq_false, not_false_eq_true, ↓reduceIte, pk_div, pk_sub, zn_rem20, zn_rem2, zn_m1, zn_eqw, zn_weq, zn_weq2, zn_wlt0, zn_wltn, zn_win, zn_wcl, zn_wadd, Nat.not_lt_zero, Nat.one_ne_zero, Nat.zero_ne_one, Nat.le_refl, Nat.zero_le, zn_sel_r, zn_sel_l, c, e1, e2, e3, z1, z2, zn_or, fX6_usefulShelves_B57]
        exact ih (k + 1) m (v ||| 2 ^ f) (by omega) (Nat.or_lt_two_pow hv p) (by omega)
theorem zs_useful_lt (S : SM) (r : Nat) : ∀ n, n ≤ 12 → zs_useful S r n < 2 ^ 12
  | 0, _ => by
    show 0 < 2 ^ 12
    decide
  | n + 1, h => zs_us1_lt (zs_useful_lt S r n (by omega)) (by omega)
theorem zs_useful_bit (S : SM) (r : Nat) : ∀ n i, (zs_useful S r n).testBit i = (decide (i < n) && zs_uf S r i)
  | 0, i => by
    show (0 : Nat).testBit i = _
    rw [Nat.zero_testBit]
    simp
  | n + 1, i => by
    have ih := zs_useful_bit S r n i
    show (zs_us1 (zs_useful S r n) n (zs_uf S r n)).testBit i = _
    unfold zs_us1
    by_cases e : i = n
    · subst e
      cases q : zs_uf S r i
      · simp [ih, q]
      · simp [q, Nat.testBit_or, Nat.testBit_two_pow_self]
    · have e1 : decide (i < n + 1) = decide (i < n) := by
        congr 1
        apply propext
        omega
      rw [e1, ← ih]
      split
      · rw [Nat.testBit_or, Nat.testBit_two_pow_of_ne (fun a => e a.symm), Bool.or_false]
      · rfl
theorem zs_useful_cnt (S : SM) (r : Nat) : zs_useful S r (S 1 0) < 2 ^ S 1 0 := by
  apply Nat.lt_pow_two_of_testBit
  intro i hi
  rw [zs_useful_bit, decide_eq_false (by omega), Bool.false_and]
theorem zx_useful_L (h : RX M S) (g : GX u S) {r : Nat} (hr : r < S 14 0) (kx : Int32 → Option Int32) : ∀ d f n, f + d = S 1 0 → d < n → fX6_usefulShelves_L4 M n kx (nI r) (nI (zs_useful S r f)) (nI f) = kx (nI (zs_useful S r (S 1 0))) := by
  have hc := g.c12
  intro d
  induction d with
  | zero =>
    intro f n hf_ hn
    obtain ⟨m, rfl⟩ : ∃ m, n = m + 1 := ⟨n - 1, by omega⟩
    have c : S 1 0 ≤ f := by omega
    have ef : f = S 1 0 := by omega
    rw [fX6_usefulShelves_L4]
    simp (disch := omega) only [li0, li1, li2, li3, li4, li5, li6, li7, li8, li9, li10, li12, li13, li14, li15, li19, li20, li31, li33, li40, li42, li44, li48, li57, li60, li99, li100, li126, li150, li176, li177, li187, li197, li207, li208, li223, li304, li608, li1520, li1824, nI_add, pk_mul, nI_clamp, nI_leI, nI_ltI, nI_eq, zn_inb, zn_gd, zn_bs, zn_isb, not_true_eq_false, not_false_eq_true, ↓reduceIte, pk_div, pk_sub, zn_rem20, zn_rem2, zn_m1, zn_eqw, zn_weq, zn_weq2, zn_wlt0, zn_wltn, zn_win, zn_wcl, zn_wadd, Nat.not_lt_zero, Nat.one_ne_zero, Nat.zero_ne_one, Nat.le_refl, Nat.zero_le, zn_sel_r, zn_sel_l, h.c, c]
    try rw [ef]
    try rfl
  | succ d ih =>
    intro f n hf_ hn
    obtain ⟨m, rfl⟩ : ∃ m, n = m + 1 := ⟨n - 1, by omega⟩
    have c : ¬ S 1 0 ≤ f := by omega
    have ih1 := ih (f + 1) m (by omega) (by omega)
    have e := zx_useful_L1 h g hr (show f < S 1 0 by omega) (fun (l1 : Int32) (l2 : Int32) (l3 : Int32) => fX6_usefulShelves_L4 M m kx l1 l2 (l3 + (1 : Int32))) 10 0 5000 (zs_useful S r f) (by omega) (zs_useful_lt S r f (by omega)) (by omega)
    rw [fX6_usefulShelves_L4, h.c, if_neg (nI_ge (show _ < _ by omega) (by omega))]
    refine e.trans ?_
    show fX6_usefulShelves_L4 M m kx (nI r) _ (nI f + nI 1) = _
    rw [nI_add]
    exact ih1
theorem zx_useful (h : RX M S) (g : GX u S) {r : Nat} (hr : r < S 14 0) : fX6_usefulShelves M (nI r) = some (nI (zs_useful S r (S 1 0))) := by
  unfold fX6_usefulShelves
  exact zx_useful_L h g hr (fun (l2 : Int32) => some l2) (S 1 0) 0 5000 (by omega) (by have := g.c12; omega)
/-- a set's useful part serves as well -/
theorem zs_sum_useful (S : SM) {r t k : Nat} (hk : k < 10) (hw : 0 < S 15 (r * 10 + k)) : zs_sum S (t &&& zs_useful S r (S 1 0)) k (S 1 0) = zs_sum S t k (S 1 0) := by
  refine fb_sm_cong (fun f hf => ?_)
  show (if (t &&& zs_useful S r (S 1 0)).testBit f = true then S 5 (f * 10 + k) else 0) = if t.testBit f = true then S 5 (f * 10 + k) else 0
  rw [Nat.testBit_and, zs_useful_bit, decide_eq_true hf, Bool.true_and]
  by_cases z : 0 < S 5 (f * 10 + k)
  · have : zs_uf S r f = true := zs_any0.mpr ⟨k, hk, decide_eq_true ⟨hw, z⟩⟩
    rw [this, Bool.and_true]
  · rw [show S 5 (f * 10 + k) = 0 by omega]
    split <;> split <;> rfl
theorem zs_en_useful {S : SM} {r t : Nat} (h : zs_en S r t = true) : zs_en S r (t &&& zs_useful S r (S 1 0)) = true := by
  rw [zs_en_iff] at h ⊢
  intro k hk
  by_cases z : 0 < S 15 (r * 10 + k)
  · rw [zs_sum_useful S hk z]
    exact h k hk
  · omega
/-- the best so far, among the sets of useful shelves below s -/
def zs_bsu (S : SM) (r best s : Nat) : Prop := best &&& zs_useful S r (S 1 0) = best ∧ zs_en S r best = true ∧ (best < s ∨ best = zs_useful S r (S 1 0)) ∧ ∀ t, t < s → t &&& zs_useful S r (S 1 0) = t → zs_en S r t = true → zs_bits best < zs_bits t ∨ (zs_bits best = zs_bits t ∧ best ≤ t)
theorem zn_andnot {l w : Nat} (hl : l < 2 ^ 12) (hw : w < 2 ^ 12) : nI l &&& (nI w ^^^ (-1 : Int32)) = nI 0 ↔ l &&& w = l := by
  have key : nI l &&& (nI w ^^^ (-1 : Int32)) = nI (l &&& (w ^^^ 4095)) := by
    apply Int32.toBitVec_inj.1
    show BitVec.ofNat 32 l &&& (BitVec.ofNat 32 w ^^^ 4294967295#32) = BitVec.ofNat 32 (l &&& (w ^^^ 4095))
    apply BitVec.eq_of_getLsbD_eq
    intro i hi
    simp only [BitVec.getLsbD_and, BitVec.getLsbD_xor, BitVec.getLsbD_ofNat, hi, decide_true, Bool.true_and, Nat.testBit_and, Nat.testBit_xor]
    rw [show (4294967295 : Nat) = 2 ^ 32 - 1 from rfl, show (4095 : Nat) = 2 ^ 12 - 1 from rfl, Nat.testBit_two_pow_sub_one, Nat.testBit_two_pow_sub_one, decide_eq_true hi]
    by_cases q : i < 12
    · rw [decide_eq_true q]
    · rw [Nat.testBit_lt_two_pow (Nat.lt_of_lt_of_le hl (Nat.pow_le_pow_right (by decide) (by omega))), Bool.false_and, Bool.false_and]
  have hb : l &&& (w ^^^ 4095) < 2 ^ 12 := Nat.and_lt_two_pow _ (Nat.xor_lt_two_pow hw (by decide))
  rw [key, nI_eq (by omega) (by omega)]
  constructor
  · intro e
    apply Nat.eq_of_testBit_eq
    intro i
    have e1 : (l &&& (w ^^^ 4095)).testBit i = false := by rw [e]; exact Nat.zero_testBit i
    rw [Nat.testBit_and, Nat.testBit_xor, show (4095 : Nat) = 2 ^ 12 - 1 from rfl, Nat.testBit_two_pow_sub_one] at e1
    rw [Nat.testBit_and]
    by_cases q : i < 12
    · rw [decide_eq_true q] at e1
      revert e1
      cases l.testBit i <;> cases w.testBit i <;> decide
    · rw [Nat.testBit_lt_two_pow (Nat.lt_of_lt_of_le hl (Nat.pow_le_pow_right (by decide) (by omega))), Bool.false_and]
  · intro e
    apply Nat.eq_of_testBit_eq
    intro i
    have e1 : (l &&& w).testBit i = l.testBit i := by rw [e]
    rw [Nat.testBit_and] at e1
    rw [Nat.testBit_and, Nat.testBit_xor, show (4095 : Nat) = 2 ^ 12 - 1 from rfl, Nat.testBit_two_pow_sub_one, Nat.zero_testBit]
    by_cases q : i < 12
    · rw [decide_eq_true q]
      revert e1
      cases l.testBit i <;> cases w.testBit i <;> decide
    · rw [Nat.testBit_lt_two_pow (Nat.lt_of_lt_of_le hl (Nat.pow_le_pow_right (by decide) (by omega))), Bool.false_and]
theorem zx_choice_L (h : RX M S) (g : GX u S) {r : Nat} (hr : r < S 14 0) (kx : Int32 → Option Int32) : ∀ d s n best, s + d = zs_useful S r (S 1 0) → d < n → zs_bsu S r best s → ∃ v, fX6_choice_L17 M n kx (nI r) (nI (zs_useful S r (S 1 0))) (nI best) (nI (zs_bits best)) (nI s) = kx (nI v) ∧ zs_bsu S r v (zs_useful S r (S 1 0)) := by
  have hc := g.c12
  have hu := zs_useful_lt S r (S 1 0) hc
  intro d
  induction d with
  | zero =>
    intro s n best hs hn hb
    obtain ⟨m, rfl⟩ : ∃ m, n = m + 1 := ⟨n - 1, by omega⟩
    have es : s = zs_useful S r (S 1 0) := by omega
    refine ⟨best, ?_, by rw [es] at hb; exact hb⟩
    rw [fX6_choice_L17, if_pos (nI_le (show _ ≤ _ by omega) (by omega))]
  | succ d ih =>
    intro s n best hs hn hb
    obtain ⟨m, rfl⟩ : ∃ m, n = m + 1 := ⟨n - 1, by omega⟩
    obtain ⟨a1, a2, a3, a4⟩ := id hb
    have z := zn_andnot (l := s) (w := zs_useful S r (S 1 0)) (by omega) hu
    have b0 := zs_bits_le best
    have b2 := zs_bits_le s
    have e2 := zx_bitCount (v := s) (by omega)
    have e3 := zx_isEnough h g hr (set := s) (by omega)
    rw [fX6_choice_L17, if_neg (nI_ge (show _ < _ by omega) (by omega)), show (0 : Int32) = nI 0 from rfl]
    by_cases c1 : s &&& zs_useful S r (S 1 0) = s
    · rw [if_neg (fun a => a (z.mpr c1)), e2, zn_bs]
      by_cases c2 : zs_bits best ≤ zs_bits s
      · have hb2 : zs_bsu S r best (s + 1) := by
          refine ⟨a1, a2, by omega, fun t ht h1 h2 => ?_⟩
          by_cases q : t < s
          · exact a4 t q h1 h2
          · rw [show t = s by omega]
            rcases a3 with a3 | a3
            · omega
            · have := zs_bits_strict (v := s) (w := zs_useful S r (S 1 0)) (by omega) hu (fun j _ hj => by
                rw [← c1, Nat.testBit_and, Bool.and_eq_true] at hj
                exact hj.2) (by omega)
              rw [← a3] at this
              omega
        obtain ⟨v, h1, h2⟩ := ih (s + 1) m best (by omega) (by omega) hb2
        refine ⟨v, ?_, h2⟩
        rw [if_pos (nI_le c2 (by omega)), fX6_choice_B62, show (1 : Int32) = nI 1 from rfl, nI_add]
        exact h1
      · rw [if_neg (nI_ge (show _ < _ by omega) (by omega)), e3, zn_bs]
        cases q : zs_en S r s
        · have hb2 : zs_bsu S r best (s + 1) := by
            refine ⟨a1, a2, by omega, fun t ht h1 h2 => ?_⟩
            by_cases q1 : t < s
            · exact a4 t q1 h1 h2
            · rw [show t = s by omega, q] at h2
              cases h2
          obtain ⟨v, h1, h2⟩ := ih (s + 1) m best (by omega) (by omega) hb2
          refine ⟨v, ?_, h2⟩
          rw [cond_false, if_pos rfl, fX6_choice_B62, show (1 : Int32) = nI 1 from rfl, nI_add]
          exact h1
        · have hb2 : zs_bsu S r s (s + 1) := by
            refine ⟨c1, q, by omega, fun t ht h1 h2 => ?_⟩
            by_cases q1 : t < s
            · have := a4 t q1 h1 h2
              omega
            · rw [show t = s by omega]
              omega
          obtain ⟨v, h1, h2⟩ := ih (s + 1) m s (by omega) (by omega) hb2
          refine ⟨v, ?_, h2⟩
          rw [cond_true, if_neg (show ¬ nI 1 = nI 0 by decide), zn_bs, fX6_choice_B62, show (1 : Int32) = nI 1 from rfl, nI_add]
          exact h1
    · have hb2 : zs_bsu S r best (s + 1) := by
        refine ⟨a1, a2, by omega, fun t ht h1 h2 => ?_⟩
        by_cases q : t < s
        · exact a4 t q h1 h2
        · rw [show t = s by omega] at h1
          exact absurd h1 c1
      obtain ⟨v, h1, h2⟩ := ih (s + 1) m best (by omega) (by omega) hb2
      refine ⟨v, ?_, h2⟩
      rw [if_pos (fun a => c1 (z.mp a)), fX6_choice_B62, show (1 : Int32) = nI 1 from rfl, nI_add]
      exact h1
theorem zs_and_le (a b : Nat) : a &&& b ≤ a := Nat.and_le_left
theorem zx_choice (h : RX M S) (g : GX u S) {r : Nat} (hr : r < S 14 0) (hcan : zs_can S r = true) : ∃ v, fX6_choice M (nI r) = some (nI v) ∧ zs_best S r v := by
  have hc := g.c12
  have hu := zs_useful_lt S r (S 1 0) hc
  have hu2 := zs_useful_cnt S r
  have e1 := zx_useful h g hr
  have e2 := zx_bitCount hu
  have eu : zs_en S r (zs_useful S r (S 1 0)) = true := by
    have h1 := zs_en_useful (S := S) (r := r) (t := 2 ^ S 1 0 - 1) (by rw [zs_en_full]; exact hcan)
    have h2 : (2 ^ S 1 0 - 1) &&& zs_useful S r (S 1 0) = zs_useful S r (S 1 0) := by
      rw [Nat.and_comm, Nat.and_two_pow_sub_one_eq_mod, Nat.mod_eq_of_lt hu2]
    rwa [h2] at h1
  obtain ⟨v, h1, h2⟩ := zx_choice_L h g hr (fun (l3 : Int32) => some l3) (zs_useful S r (S 1 0)) 0 5000 (zs_useful S r (S 1 0)) (by omega) (by omega) ⟨Nat.and_self _, eu, Or.inr rfl, fun t ht => absurd ht (by omega)⟩
  refine ⟨v, ?_, ?_⟩
  · unfold fX6_choice
    rw [e1, zn_bs, e2, zn_bs]
    exact h1
  · obtain ⟨a1, a2, a3, a4⟩ := h2
    refine ⟨by omega, a2, fun t ht he => ?_⟩
    have h3 := zs_en_useful he
    have h4 : zs_bits (t &&& zs_useful S r (S 1 0)) ≤ zs_bits t := zs_bits_mono (fun j _ hj => by
      rw [Nat.testBit_and, Bool.and_eq_true] at hj
      exact hj.1)
    have h5 := zs_and_le t (zs_useful S r (S 1 0))
    have h6 : t &&& zs_useful S r (S 1 0) ≤ zs_useful S r (S 1 0) := Nat.and_le_right
    have h7 : (t &&& zs_useful S r (S 1 0)) &&& zs_useful S r (S 1 0) = t &&& zs_useful S r (S 1 0) := by rw [Nat.and_assoc, Nat.and_self]
    have key : zs_bits v < zs_bits (t &&& zs_useful S r (S 1 0)) ∨ (zs_bits v = zs_bits (t &&& zs_useful S r (S 1 0)) ∧ v ≤ t &&& zs_useful S r (S 1 0)) := by
      by_cases q : t &&& zs_useful S r (S 1 0) < zs_useful S r (S 1 0)
      · exact a4 _ q h7 h3
      · have e : t &&& zs_useful S r (S 1 0) = zs_useful S r (S 1 0) := by omega
        rw [e]
        have h8 : zs_bits v ≤ zs_bits (zs_useful S r (S 1 0)) := zs_bits_mono (fun j _ hj => by
          rw [← a1, Nat.testBit_and, Bool.and_eq_true] at hj
          exact hj.2)
        omega
    omega
end

