/-! numbers: literals, bounds, -1 as 'none' -/
theorem li0 : (0 : Int32) = nI 0 := by decide
theorem li1 : (1 : Int32) = nI 1 := by decide
theorem li2 : (2 : Int32) = nI 2 := by decide
theorem li3 : (3 : Int32) = nI 3 := by decide
theorem li4 : (4 : Int32) = nI 4 := by decide
theorem li5 : (5 : Int32) = nI 5 := by decide
theorem li6 : (6 : Int32) = nI 6 := by decide
theorem li7 : (7 : Int32) = nI 7 := by decide
theorem li8 : (8 : Int32) = nI 8 := by decide
theorem li9 : (9 : Int32) = nI 9 := by decide
theorem li10 : (10 : Int32) = nI 10 := by decide
theorem li12 : (12 : Int32) = nI 12 := by decide
theorem li13 : (13 : Int32) = nI 13 := by decide
theorem li14 : (14 : Int32) = nI 14 := by decide
theorem li15 : (15 : Int32) = nI 15 := by decide
theorem li19 : (19 : Int32) = nI 19 := by decide
theorem li20 : (20 : Int32) = nI 20 := by decide
theorem li31 : (31 : Int32) = nI 31 := by decide
theorem li33 : (33 : Int32) = nI 33 := by decide
theorem li40 : (40 : Int32) = nI 40 := by decide
theorem li42 : (42 : Int32) = nI 42 := by decide
theorem li44 : (44 : Int32) = nI 44 := by decide
theorem li48 : (48 : Int32) = nI 48 := by decide
theorem li57 : (57 : Int32) = nI 57 := by decide
theorem li60 : (60 : Int32) = nI 60 := by decide
theorem li99 : (99 : Int32) = nI 99 := by decide
theorem li100 : (100 : Int32) = nI 100 := by decide
theorem li126 : (126 : Int32) = nI 126 := by decide
theorem li150 : (150 : Int32) = nI 150 := by decide
theorem li176 : (176 : Int32) = nI 176 := by decide
theorem li177 : (177 : Int32) = nI 177 := by decide
theorem li187 : (187 : Int32) = nI 187 := by decide
theorem li197 : (197 : Int32) = nI 197 := by decide
theorem li207 : (207 : Int32) = nI 207 := by decide
theorem li208 : (208 : Int32) = nI 208 := by decide
theorem li223 : (223 : Int32) = nI 223 := by decide
theorem li304 : (304 : Int32) = nI 304 := by decide
theorem li608 : (608 : Int32) = nI 608 := by decide
theorem li1520 : (1520 : Int32) = nI 1520 := by decide
theorem li1824 : (1824 : Int32) = nI 1824 := by decide
def fb_sm (f : Nat → Nat) : Nat → Nat
  | 0 => 0
  | n + 1 => fb_sm f n + f n
theorem fb_sm_succ (f : Nat → Nat) (n : Nat) : fb_sm f (n + 1) = fb_sm f n + f n := rfl
theorem fb_sm_cong {f g : Nat → Nat} : ∀ {n : Nat}, (∀ k, k < n → f k = g k) → fb_sm f n = fb_sm g n
  | 0, _ => rfl
  | n + 1, h => by rw [fb_sm_succ, fb_sm_succ, fb_sm_cong (fun k hk => h k (by omega)), h n (by omega)]
theorem fb_sm_out (f : Nat → Nat) (v : Nat) {i n : Nat} (h : n ≤ i) : fb_sm (fun k => if k = i then v else f k) n = fb_sm f n :=
  fb_sm_cong fun k hk => if_neg (by omega)
theorem fb_sm_upd (f : Nat → Nat) (v : Nat) {i : Nat} : ∀ {n : Nat}, i < n → fb_sm (fun k => if k = i then v else f k) n + f i = fb_sm f n + v
  | 0, h => absurd h (Nat.not_lt_zero i)
  | n + 1, h => by
    rw [fb_sm_succ, fb_sm_succ]
    rcases Nat.lt_or_ge i n with q | q
    · have := fb_sm_upd f v q
      have e : (if n = i then v else f n) = f n := if_neg (by omega)
      rw [e]
      omega
    · have e : i = n := by omega
      subst e
      rw [fb_sm_out f v (Nat.le_refl _)]
      simp only [if_true]
      omega
theorem fb_sm_add (f g : Nat → Nat) : ∀ n, fb_sm (fun k => f k + g k) n = fb_sm f n + fb_sm g n
  | 0 => rfl
  | n + 1 => by
    have h := fb_sm_add f g n
    rw [fb_sm_succ, fb_sm_succ, fb_sm_succ, h]
    omega
theorem fb_sm_le {f g : Nat → Nat} : ∀ {n : Nat}, (∀ k, k < n → f k ≤ g k) → fb_sm f n ≤ fb_sm g n
  | 0, _ => Nat.le_refl _
  | n + 1, h => by
    have h1 := fb_sm_le (n := n) (f := f) (g := g) (fun k hk => h k (by omega))
    have h2 := h n (by omega)
    rw [fb_sm_succ, fb_sm_succ]
    omega
theorem fb_sm_const (c : Nat) : ∀ n, fb_sm (fun _ => c) n = n * c
  | 0 => by rw [Nat.zero_mul]; rfl
  | n + 1 => by rw [fb_sm_succ, fb_sm_const c n, Nat.succ_mul]
theorem fb_sm_bound {f : Nat → Nat} {c n : Nat} (h : ∀ k, k < n → f k ≤ c) : fb_sm f n ≤ n * c := by
  rw [← fb_sm_const c n]
  exact fb_sm_le h
theorem fb_sm_mono (f : Nat → Nat) (m : Nat) : ∀ n, fb_sm f m ≤ fb_sm f (m + n)
  | 0 => Nat.le_refl _
  | n + 1 => by
    have h := fb_sm_mono f m n
    show fb_sm f m ≤ fb_sm f (m + n + 1)
    rw [fb_sm_succ]
    omega
theorem fb_sm_part (f : Nat → Nat) {i n : Nat} (h : i < n) : fb_sm f i + f i ≤ fb_sm f n := by
  have := fb_sm_mono f (i + 1) (n - (i + 1))
  rw [fb_sm_succ, show i + 1 + (n - (i + 1)) = n by omega] at this
  exact this
theorem fb_sm_split (f : Nat → Nat) (m : Nat) : ∀ n, fb_sm f (m + n) = fb_sm f m + fb_sm (fun k => f (m + k)) n
  | 0 => rfl
  | n + 1 => by
    have h := fb_sm_split f m n
    show fb_sm f (m + n + 1) = _
    rw [fb_sm_succ, fb_sm_succ, h, Nat.add_assoc]
theorem fb_sm_zero {f : Nat → Nat} {n : Nat} (h : fb_sm f n = 0) : ∀ k, k < n → f k = 0 := fun k hk => by
  have := fb_sm_part f hk
  omega
theorem zn_bs0 {α β : Type} {o : Option α} {a : α} (h : o = some a) (f : α → Option β) : o.bind f = f a := by
  subst h
  rfl
theorem zn_bs {α β : Type} (a : α) (f : α → Option β) : (some a).bind f = f a := zn_bs0 rfl f
theorem zn_sel0 {α β γ : Type} {x : α ⊕ β} {b : β} (h : x = Sum.inr b) (f : α → γ) (g : β → γ) : sel x f g = g b := by
  subst h
  rfl
theorem zn_sel1 {α β γ : Type} {x : α ⊕ β} {b : α} (h : x = Sum.inl b) (f : α → γ) (g : β → γ) : sel x f g = f b := by
  subst h
  rfl
theorem zn_sel_r {α β γ : Type} (b : β) (f : α → γ) (g : β → γ) : sel (Sum.inr b) f g = g b := zn_sel0 rfl f g
theorem zn_sel_l {α β γ : Type} (b : α) (f : α → γ) (g : β → γ) : sel (Sum.inl b) f g = f b := zn_sel1 rfl f g
theorem zn_gd0 {α : Type} {b : Bool} (h : b = true) (x : Option α) : gd b x = x := by
  subst h
  rfl
theorem zn_gd {α : Type} (x : Option α) : gd true x = x := zn_gd0 rfl x
theorem zn_inb {x n : Nat} (h : x < n) (hn : n < 2 ^ 31) : inb (nI x) n = true := by
  unfold inb
  exact decide_eq_true (nI_in h hn)
theorem zn_isb {x : Nat} (h : x < 2) : isb (nI x) = true := by
  rcases (show x = 0 ∨ x = 1 by omega) with rfl | rfl <;> rfl
theorem zn_rem20 (a : Nat) : a - a / 20 * 20 = a % 20 := by omega
theorem zn_rem2 (a : Nat) : a - a / 2 * 2 = a % 2 := by omega
def wI (w : Nat) : Int32 := nI w - 1
theorem wI_0 : wI 0 = -1 := by decide
theorem wI_s (f : Nat) : wI (f + 1) = nI f := nI_pred f
theorem wI_p {w : Nat} (h : 0 < w) : wI w = nI (w - 1) := by
  obtain ⟨k, rfl⟩ : ∃ k, w = k + 1 := ⟨w - 1, by omega⟩
  exact wI_s k
theorem zn_m1 : -(nI 1) = wI 0 := by decide
theorem zn_eqw {f w : Nat} (hf : f < 2 ^ 30) (hw : w < 2 ^ 30) : nI f = wI w ↔ w = f + 1 := by
  rcases Nat.eq_zero_or_pos w with rfl | h
  · refine ⟨fun e => ?_, fun e => by omega⟩
    have h1 := nI_toInt (n := f) (by omega)
    rw [e] at h1
    have h2 : (wI 0).toInt = -1 := by decide
    omega
  · rw [wI_p h, nI_eq (by omega) (by omega)]
    omega
theorem zn_weq2 {f w : Nat} (hf : f < 2 ^ 30) (hw : w < 2 ^ 30) : wI w = nI f ↔ w = f + 1 := by rw [eq_comm, zn_eqw hf hw]
theorem zn_weq {a w : Nat} (ha : a < 2 ^ 30) (hw : w < 2 ^ 30) : wI a = wI w ↔ a = w := by
  rcases Nat.eq_zero_or_pos a with rfl | h
  · rcases Nat.eq_zero_or_pos w with rfl | h2
    · exact ⟨fun _ => rfl, fun _ => rfl⟩
    · rw [wI_p h2, eq_comm, zn_eqw (by omega) (by omega)]
      omega
  · rw [wI_p h, zn_eqw (by omega) hw]
    omega
theorem zn_wlt0 {w : Nat} (hw : w < 2 ^ 30) : wI w < nI 0 ↔ w = 0 := by
  rcases Nat.eq_zero_or_pos w with rfl | h
  · exact ⟨fun _ => rfl, fun _ => by decide⟩
  · rw [wI_p h, nI_ltI (by omega) (by omega)]
    omega
theorem zn_wltn {w c : Nat} (hw : w < 2 ^ 30) (hc : c < 2 ^ 30) : wI w < nI c ↔ w < c + 1 := by
  rcases Nat.eq_zero_or_pos w with rfl | h
  · refine ⟨fun _ => by omega, fun _ => ?_⟩
    refine Int32.lt_iff_toInt_lt.mpr ?_
    rw [nI_toInt (by omega), show (wI 0).toInt = -1 by decide]
    omega
  · rw [wI_p h, nI_ltI (by omega) (by omega)]
    omega
theorem zn_wle {w c : Nat} (hw : w < 2 ^ 30) (hc : c < 2 ^ 30) : wI w ≤ nI c ↔ w ≤ c + 1 := by
  rcases Nat.eq_zero_or_pos w with rfl | h
  · refine ⟨fun _ => by omega, fun _ => ?_⟩
    refine Int32.le_iff_toInt_le.mpr ?_
    rw [nI_toInt (by omega), show (wI 0).toInt = -1 by decide]
    omega
  · rw [wI_p h, nI_leI (by omega) (by omega)]
    omega
theorem zn_win {w n : Nat} (h : 0 < w) (h2 : w ≤ n) (hn : n < 2 ^ 31) : inb (wI w) n = true := by
  rw [wI_p h]
  exact zn_inb (by omega) hn
theorem zn_wcl {w : Nat} (h : 0 < w) (hn : w < 2 ^ 31) : (wI w).toNatClampNeg = w - 1 := by
  rw [wI_p h, nI_clamp (by omega)]
theorem zn_wadd (w : Nat) : wI w + nI 1 = nI w := by
  unfold wI
  show nI w - 1 + 1 = nI w
  exact Int32.sub_add_cancel _ _
theorem zn_wsub {w : Nat} (h : 0 < w) : wI w - nI 1 = wI (w - 1) := by
  rw [wI_p h]
  rfl
/-! bits -/
theorem zn_s32 : ∀ n, n < 32 → ((nI n &&& nI 31).toBitVec.smod 32).toNat = n := by decide +kernel
theorem zn_shl {a b : Nat} (hb : b < 32) (h : a * 2 ^ b < 2 ^ 32) : nI a <<< (nI b &&& nI 31) = nI (a * 2 ^ b) := pk_shlN _ b (zn_s32 b hb) h
theorem zn_shr {a b : Nat} (hb : b < 32) (h : a < 2 ^ 31) : nI a >>> (nI b &&& nI 31) = nI (a / 2 ^ b) := pk_shrN h _ b (zn_s32 b hb)
theorem zn_and (a b : Nat) : nI a &&& nI b = nI (a &&& b) := by
  apply Int32.toBitVec_inj.1
  show BitVec.ofNat 32 a &&& BitVec.ofNat 32 b = BitVec.ofNat 32 (a &&& b)
  apply BitVec.eq_of_getLsbD_eq
  intro i hi
  simp [hi]
theorem zn_or (a b : Nat) : nI a ||| nI b = nI (a ||| b) := by
  apply Int32.toBitVec_inj.1
  show BitVec.ofNat 32 a ||| BitVec.ofNat 32 b = BitVec.ofNat 32 (a ||| b)
  apply BitVec.eq_of_getLsbD_eq
  intro i hi
  simp [hi]
theorem zn_bit {n f : Nat} (hn : n < 2 ^ 31) (hf : f < 31) : (nI n >>> (nI f &&& nI 31)) &&& nI 1 = nI (n / 2 ^ f % 2) := by
  rw [zn_shr (by omega) hn, zn_and, Nat.and_one_is_mod]
theorem zn_tb (n f : Nat) : n.testBit f = decide (n / 2 ^ f % 2 = 1) := Nat.testBit_eq_decide_div_mod_eq
theorem zn_bit0 {n f : Nat} (hn : n < 2 ^ 31) (hf : f < 31) : (nI n >>> (nI f &&& nI 31)) &&& nI 1 = nI 0 ↔ n.testBit f = false := by
  rw [zn_bit hn hf, nI_eq (by omega) (by omega), zn_tb]
  have : n / 2 ^ f % 2 < 2 := Nat.mod_lt _ (by decide)
  simp only [decide_eq_false_iff_not]
  omega
theorem zn_bit1 {n f : Nat} (hn : n < 2 ^ 31) (hf : f < 31) : (nI n >>> (nI f &&& nI 31)) &&& nI 1 = nI 1 ↔ n.testBit f = true := by
  rw [zn_bit hn hf, nI_eq (by omega) (by omega), zn_tb]
  simp only [decide_eq_true_eq]
theorem zn_tbdiv (t s i : Nat) : (t / 2 ^ s).testBit i = t.testBit (s + i) := by
  rw [← Nat.shiftRight_eq_div_pow, Nat.testBit_shiftRight]
theorem zn_win0 (t s h : Nat) : t / 2 ^ s % 2 ^ h = 0 ↔ ∀ i, i < h → t.testBit (s + i) = false := by
  constructor
  · intro e i hi
    have h1 : (t / 2 ^ s % 2 ^ h).testBit i = false := by rw [e]; exact Nat.zero_testBit i
    rw [Nat.testBit_mod_two_pow, zn_tbdiv] at h1
    simpa [hi] using h1
  · intro a
    apply Nat.eq_of_testBit_eq
    intro i
    rw [Nat.testBit_mod_two_pow, zn_tbdiv, Nat.zero_testBit]
    by_cases hi : i < h
    · simp [hi, a i hi]
    · simp [hi]
theorem zn_p20 {h : Nat} (hh : h ≤ 20) : 2 ^ h ≤ 2 ^ 20 := Nat.pow_le_pow_right (by decide) hh
theorem zn_mask {h : Nat} (hh : h ≤ 20) : (nI 1 <<< (nI h &&& nI 31)) - nI 1 = nI (2 ^ h - 1) := by
  have h1 := zn_p20 hh
  have h2 := Nat.two_pow_pos h
  rw [zn_shl (by omega) (by omega), Nat.one_mul, pk_sub (by omega)]
theorem zn_row {s h : Nat} (hh : h ≤ 20) (hs : s + h ≤ 20) : nI (2 ^ h - 1) <<< (nI s &&& nI 31) = nI ((2 ^ h - 1) * 2 ^ s) := by
  refine zn_shl (by omega) ?_
  have h1 : (2 ^ h - 1) * 2 ^ s ≤ 2 ^ h * 2 ^ s := Nat.mul_le_mul_right _ (Nat.sub_le _ _)
  rw [← Nat.pow_add] at h1
  have h2 := zn_p20 (h := h + s) (by omega)
  omega
theorem zn_rowlt {s h : Nat} (hs : s + h ≤ 20) : (2 ^ h - 1) * 2 ^ s < 2 ^ 20 := by
  have h1 : (2 ^ h - 1) * 2 ^ s < 2 ^ h * 2 ^ s := Nat.mul_lt_mul_of_pos_right (by have := Nat.two_pow_pos h; omega) (Nat.two_pow_pos s)
  rw [← Nat.pow_add] at h1
  have h2 := zn_p20 (h := h + s) (by omega)
  omega
theorem zn_rowbit (s h i : Nat) : ((2 ^ h - 1) * 2 ^ s).testBit i = decide (s ≤ i ∧ i < s + h) := by
  rw [← Nat.shiftLeft_eq, Nat.testBit_shiftLeft, Nat.testBit_two_pow_sub_one]
  by_cases h1 : s ≤ i
  · simp [h1]
    omega
  · simp [h1]
/-! state of numbers -/
abbrev SM : Type := Nat → Nat → Nat
def sw (S : SM) (j : Nat) (g : Nat → Nat) : SM := fun i => if i = j then g else S i
def uw (g : Nat → Nat) (k v : Nat) : Nat → Nat := fun i => if i = k then v else g i
theorem uw_s (g : Nat → Nat) (k v : Nat) : uw g k v k = v := if_pos rfl
theorem uw_n {g : Nat → Nat} {k i v : Nat} (h : i ≠ k) : uw g k v i = g i := if_neg h
theorem up_s (g : Nat → Int32) (k : Nat) (v : Int32) : upd g k v k = v := if_pos rfl
theorem up_n {g : Nat → Int32} {k i : Nat} {v : Int32} (h : i ≠ k) : upd g k v i = g i := if_neg h
/-- a row of ints that holds numbers -/
def rn (n : Nat) (g : Nat → Int32) (v : Nat → Nat) : Prop := ∀ i, i < n → g i = nI (v i)
theorem rn_up {n : Nat} {g : Nat → Int32} {v : Nat → Nat} (h : rn n g v) (k x : Nat) : rn n (upd g k (nI x)) (uw v k x) := by
  intro i hi
  unfold upd uw
  by_cases e : i = k
  · rw [if_pos e, if_pos e]
  · rw [if_neg e, if_neg e]
    exact h i hi
