set_option maxHeartbeats 400000
/-! the property: what the numbers of a state give -/
theorem zs_gp_s (q : Nat → Bool) (side : Nat) : ∀ n, (∀ i, i < (zs_gp q side n).2 → q (20 * side + (n - 1 - i)) = false) ∧ (zs_gp q side n).2 ≤ n ∧ ∃ m, m ≤ n ∧ (zs_gp q side n).1 ≤ (zs_gp q side m).2
  | 0 => ⟨fun i hi => absurd hi (Nat.not_lt_zero i), Nat.le_refl _, 0, Nat.le_refl _, Nat.le_refl _⟩
  | n + 1 => by
    obtain ⟨a, b, m, hm, d⟩ := zs_gp_s q side n
    have e : zs_gp q side (n + 1) = (if (zs_gp q side n).1 < (bif q (20 * side + n) then 0 else (zs_gp q side n).2 + 1) then (bif q (20 * side + n) then 0 else (zs_gp q side n).2 + 1) else (zs_gp q side n).1, bif q (20 * side + n) then 0 else (zs_gp q side n).2 + 1) := rfl
    have e2 : (zs_gp q side (n + 1)).2 = bif q (20 * side + n) then 0 else (zs_gp q side n).2 + 1 := by rw [e]
    have e1 : (zs_gp q side (n + 1)).1 = if (zs_gp q side n).1 < (bif q (20 * side + n) then 0 else (zs_gp q side n).2 + 1) then (bif q (20 * side + n) then 0 else (zs_gp q side n).2 + 1) else (zs_gp q side n).1 := by rw [e]
    refine ⟨?_, ?_, ?_⟩
    · rw [e2]
      cases z : q (20 * side + n)
      · intro i hi
        rw [cond_false] at hi
        by_cases k : i = 0
        · rw [k, show n + 1 - 1 - 0 = n by omega]
          exact z
        · have := a (i - 1) (by omega)
          rw [show n + 1 - 1 - i = n - 1 - (i - 1) by omega]
          exact this
      · intro i hi
        rw [cond_true] at hi
        exact absurd hi (Nat.not_lt_zero i)
    · rw [e2]
      cases q (20 * side + n)
      · rw [cond_false]
        omega
      · exact Nat.zero_le _
    · by_cases k : (zs_gp q side n).1 < (bif q (20 * side + n) then 0 else (zs_gp q side n).2 + 1)
      · refine ⟨n + 1, Nat.le_refl _, ?_⟩
        rw [e1, if_pos k, e2]
        exact Nat.le_refl _
      · refine ⟨m, by omega, ?_⟩
        rw [e1, if_neg k]
        exact d
theorem zs_gp_fit {q : Nat → Bool} {side h : Nat} (hs : side < 2) (h0 : 0 < h) (hg : h ≤ (zs_gp q side 20).1) : 0 < zs_fp q h := by
  obtain ⟨-, -, m, hm, d⟩ := zs_gp_s q side 20
  obtain ⟨a, b, -⟩ := zs_gp_s q side m
  refine zs_fp_s (p := 20 * side + (m - h)) (by omega) (decide_eq_true ⟨by omega, fun i hi => ?_⟩)
  have := a (h - 1 - i) (by omega)
  rw [show 20 * side + (m - 1 - (h - 1 - i)) = 20 * side + (m - h) + i by omega] at this
  exact this
theorem zs_ho_own {S : SM} (g : GT S) {f p : Nat} (hf : f < S 1 0) (hw : ¬ S 1 1 = f + 1) (h1 : S 3 f ≤ p) (h2 : p < S 3 f + S 2 f) : zs_ho S p = f + 1 := by
  have b := g.2.2.1 f hf
  have o : zs_oc S p f = true := decide_eq_true ⟨hw, h1, h2⟩
  have a : zs_any (zs_oc S p) (S 1 0) 0 = true := zs_any0.mpr ⟨f, hf, o⟩
  obtain ⟨-, c, d, -⟩ := zs_first_s _ _ _ a
  have e := zs_oc_one g.k (p := p) (by omega) (by omega) hf d o
  unfold zs_ho
  rw [a, cond_true, e]
theorem zs_hv_max (S : SM) : ∀ n f, f < n → 0 < zs_hv S n ∧ zs_wt S f ≤ zs_wt S (zs_hv S n - 1)
  | 0, f, h => absurd h (Nat.not_lt_zero f)
  | n + 1, f, h => by
    have e : zs_hv S (n + 1) = if zs_hv S n = 0 ∨ ¬ zs_wt S n ≤ zs_wt S (zs_hv S n - 1) then n + 1 else zs_hv S n := rfl
    have l := zs_hv_le S n
    by_cases k : zs_hv S n = 0 ∨ ¬ zs_wt S n ≤ zs_wt S (zs_hv S n - 1)
    · rw [e, if_pos k, Nat.add_sub_cancel]
      refine ⟨by omega, ?_⟩
      by_cases z : f = n
      · rw [z]
        exact Nat.le_refl _
      · have := zs_hv_max S n f (by omega)
        rcases k with k | k
        · omega
        · omega
    · rw [e, if_neg k]
      by_cases z : f = n
      · rw [z]
        omega
      · exact zs_hv_max S n f (by omega)
theorem zs_mu_max (S : SM) {n f : Nat} (h : f < n) : 0 < zs_mu S 0 n ∧ S 4 f ≤ S 4 (zs_mu S 0 n - 1) := by
  rcases zs_mu_s S 0 n with ⟨-, b⟩ | ⟨v, a, -, -, d⟩
  · have := b f h
    rw [Nat.zero_testBit] at this
    cases this
  · rw [a, Nat.add_sub_cancel]
    refine ⟨by omega, ?_⟩
    rcases d f h (Nat.zero_testBit f) with e | e
    · rw [e]
      exact Nat.le_refl _
    · have := of_decide_eq_true e
      omega
theorem zs_short_lt (S : SM) : ∀ n, zs_short S n < 2 ^ n
  | 0 => Nat.zero_lt_one
  | n + 1 => by
    have ih := zs_short_lt S n
    have e : zs_short S (n + 1) = if zs_miss S n ≤ 0 then zs_short S n else zs_short S n ||| 2 ^ n := rfl
    have p : 2 ^ n < 2 ^ (n + 1) := Nat.pow_lt_pow_right (by decide) (by omega)
    rw [e]
    split
    · omega
    · exact Nat.or_lt_two_pow (by omega) p
theorem zs_short_bit (S : SM) (k : Nat) : ∀ n, (zs_short S n).testBit k = decide (k < n ∧ 0 < zs_miss S k)
  | 0 => by
    rw [show zs_short S 0 = 0 from rfl, Nat.zero_testBit, decide_eq_false (by omega)]
  | n + 1 => by
    have ih := zs_short_bit S k n
    have e : zs_short S (n + 1) = if zs_miss S n ≤ 0 then zs_short S n else zs_short S n ||| 2 ^ n := rfl
    rw [e]
    by_cases z : zs_miss S n ≤ 0
    · rw [if_pos z, ih]
      apply decide_eq_decide.mpr
      constructor
      · rintro ⟨a, b⟩
        exact ⟨by omega, b⟩
      · rintro ⟨a, b⟩
        refine ⟨?_, b⟩
        rcases Nat.lt_or_ge k n with y | y
        · exact y
        · rw [show k = n by omega] at b
          omega
    · rw [if_neg z, zy_bit, ih]
      by_cases y : k = n
      · rw [if_pos y, y, decide_eq_true ⟨by omega, by omega⟩]
      · rw [if_neg y]
        apply decide_eq_decide.mpr
        omega
/-! stocks told in two ways -/
def ZJ (S : SM) : Prop := ∀ k, k < 10 → S 12 k = S 13 k + zs_stock S k
theorem zs_wt0 {S : SM} {f : Nat} (hw : ∀ k, k < 10 → 1 ≤ S 10 k) (h : zs_wt S f = 0) : ∀ k, k < 10 → S 5 (f * 10 + k) = 0 := fun k hk => by
  have := fb_sm_zero (f := fun k => S 5 (f * 10 + k) * S 10 k) (n := 10) h k hk
  rcases Nat.mul_eq_zero.mp this with e | e
  · exact e
  · have := hw k hk
    omega
theorem zs_bare0 {S : SM} {f : Nat} (h : ∀ k, k < 10 → S 5 (f * 10 + k) = 0) : zs_bare S f = true := by
  unfold zs_bare
  rw [show zs_any (fun k => decide (0 < S 5 (f * 10 + k))) 10 0 = false from zs_none0.mpr (fun k hk => decide_eq_false (by rw [h k hk]; omega))]
  rfl
theorem ZJ.add {S : SM} (h : ZJ S) (p w : Nat) : ZJ (zo_add S p w) := fun k hk => by
  have e : zs_stock (zo_add S p w) k = zs_stock S k := by
    show fb_sm (fun f => zo_z (S 5) (S 1 0) (f * 10 + k)) (S 1 0 + 1) = _
    rw [fb_sm_succ]
    have z : zo_z (S 5) (S 1 0) (S 1 0 * 10 + k) = 0 := by
      unfold zo_z
      rw [if_pos (by omega)]
    rw [z, Nat.add_zero]
    exact fb_sm_cong (fun f hf => by
      show zo_z (S 5) (S 1 0) (f * 10 + k) = _
      unfold zo_z
      rw [if_neg (by omega)])
  rw [e]
  exact h k hk
theorem fb_sm_del (f : Nat → Nat) (v : Nat) : ∀ n, v ≤ n → fb_sm (fun i => if v ≤ i then f (i + 1) else f i) n + f v = fb_sm f (n + 1)
  | 0, h => by
    have : v = 0 := by omega
    subst this
    rfl
  | n + 1, h => by
    rw [fb_sm_succ, fb_sm_succ f (n + 1)]
    by_cases e : v ≤ n
    · have ih := fb_sm_del f v n e
      rw [if_pos e]
      omega
    · have ev : v = n + 1 := by omega
      rw [if_neg e]
      have : fb_sm (fun i => if v ≤ i then f (i + 1) else f i) n = fb_sm f n := fb_sm_cong (fun k hk => if_neg (by omega))
      rw [this, ev, fb_sm_succ]
theorem ZJ.scrap {S : SM} (h : ZJ S) {f : Nat} (hf : f < S 1 0) (h0 : ∀ k, k < 10 → S 5 (f * 10 + k) = 0) : ZJ (zo_scrap S f) := fun k hk => by
  have e : zs_stock (zo_scrap S f) k = zs_stock S k := by
    show fb_sm (fun i => zo_dm (S 5) f (S 1 0 - 1) (i * 10 + k)) (S 1 0 - 1) = fb_sm (fun i => S 5 (i * 10 + k)) (S 1 0)
    have d := fb_sm_del (fun i => S 5 (i * 10 + k)) f (S 1 0 - 1) (by omega)
    rw [show S 1 0 - 1 + 1 = S 1 0 by omega] at d
    have z := h0 k hk
    have c : fb_sm (fun i => zo_dm (S 5) f (S 1 0 - 1) (i * 10 + k)) (S 1 0 - 1) = fb_sm (fun i => if f ≤ i then S 5 ((i + 1) * 10 + k) else S 5 (i * 10 + k)) (S 1 0 - 1) := fb_sm_cong (fun i hi => by
      show zo_dm (S 5) f (S 1 0 - 1) (i * 10 + k) = _
      unfold zo_dm
      by_cases e : f ≤ i
      · rw [if_pos e, if_pos (by omega), show i * 10 + k + 10 = (i + 1) * 10 + k by omega]
      · rw [if_neg e, if_neg (by omega)])
    rw [c]
    omega
  rw [e]
  exact h k hk
theorem ZJ.row {S S' : SM} (h : ZJ S) (e1 : S' 1 0 = S 1 0) (e5 : S' 5 = S 5) (e12 : S' 12 = S 12) (e13 : S' 13 = S 13) : ZJ S' := fun k hk => by
  have e : zs_stock S' k = zs_stock S k := by
    unfold zs_stock
    rw [e1, e5]
  rw [e, e12, e13]
  exact h k hk
theorem zs_stock_u (S S' : SM) {f k v : Nat} (hf : f < S 1 0) (hk : k < 10) (e1 : S' 1 0 = S 1 0) (e5 : S' 5 = uw (S 5) (f * 10 + k) v) : ∀ j, j < 10 → zs_stock S' j + (if j = k then S 5 (f * 10 + k) else 0) = zs_stock S j + (if j = k then v else 0) := fun j hj => by
  unfold zs_stock
  rw [e1, e5]
  by_cases q : j = k
  · subst q
    rw [if_pos rfl, if_pos rfl]
    have := fb_sm_upd (fun i => S 5 (i * 10 + j)) v hf
    rw [← this]
    congr 1
    exact fb_sm_cong (fun i _ => by
      show uw (S 5) (f * 10 + j) v (i * 10 + j) = if i = f then v else S 5 (i * 10 + j)
      by_cases e : i = f
      · rw [if_pos e, e, uw_s]
      · rw [if_neg e, uw_n (by omega)])
  · rw [if_neg q, if_neg q]
    congr 1
    exact fb_sm_cong (fun i _ => by
      show uw (S 5) (f * 10 + k) v (i * 10 + j) = S 5 (i * 10 + j)
      rw [uw_n (by omega)])
theorem ZJ.fill {S : SM} (h : ZJ S) {f k m : Nat} (hf : f < S 1 0) (hk : k < 10) : ZJ (sw (sw S 5 (uw (S 5) (f * 10 + k) (S 5 (f * 10 + k) + m))) 12 (uw (S 12) k (S 12 k + m))) := fun j hj => by
  have u := zs_stock_u S (sw (sw S 5 (uw (S 5) (f * 10 + k) (S 5 (f * 10 + k) + m))) 12 (uw (S 12) k (S 12 k + m))) (v := S 5 (f * 10 + k) + m) hf hk rfl rfl j hj
  have hj2 := h j hj
  show uw (S 12) k (S 12 k + m) j = S 13 j + _
  by_cases q : j = k
  · subst q
    rw [uw_s]
    rw [if_pos rfl, if_pos rfl] at u
    omega
  · rw [uw_n q]
    rw [if_neg q, if_neg q] at u
    omega
theorem ZJ.take {S : SM} (h : ZJ S) {f k m : Nat} (hf : f < S 1 0) (hk : k < 10) (hm : m ≤ S 5 (f * 10 + k)) : ZJ (sw (sw S 5 (uw (S 5) (f * 10 + k) (S 5 (f * 10 + k) - m))) 13 (uw (S 13) k (S 13 k + m))) := fun j hj => by
  have u := zs_stock_u S (sw (sw S 5 (uw (S 5) (f * 10 + k) (S 5 (f * 10 + k) - m))) 13 (uw (S 13) k (S 13 k + m))) (v := S 5 (f * 10 + k) - m) hf hk rfl rfl j hj
  have hj2 := h j hj
  show S 12 j = uw (S 13) k (S 13 k + m) j + _
  by_cases q : j = k
  · subst q
    rw [uw_s]
    rw [if_pos rfl, if_pos rfl] at u
    omega
  · rw [uw_n q]
    rw [if_neg q, if_neg q] at u
    omega
theorem ZJ.gs {X : SM} (h : ZJ X) {f r k : Nat} (hf : f < X 1 0) (hk : k < 10) : ZJ (zo_gs f r k X) := by
  have t := ZJ.take h (m := zo_m f r k X) hf hk (zo_m_le f r k X).1
  exact t.row rfl rfl rfl rfl
theorem ZJ.give {S : SM} (h : ZJ S) {f r : Nat} (hf : f < S 1 0) : ∀ n, n ≤ 10 → ZJ (zo_give S f r n)
  | 0, _ => h
  | n + 1, hn => by
    have ih := ZJ.give h hf (r := r) n (by omega)
    refine ZJ.gs ih ?_ (by omega)
    rw [zo_give_1]
    exact hf
theorem zo_bring_10 (S : SM) (f : Nat) : zo_bring S f 1 0 = S 1 0 := rfl
theorem ZJ.t {S : SM} (h : ZJ S) {f r : Nat} (hf : f < S 1 0) : ZJ (zo_t S f r) := by
  have hb : ZJ (zo_bring S f) := h.row rfl rfl rfl rfl
  unfold zo_t
  exact ZJ.give hb (by rw [zo_bring_10]; exact hf) 10 (Nat.le_refl _)
theorem zo_t_10 (S : SM) (f r : Nat) : zo_t S f r 1 0 = S 1 0 := by
  unfold zo_t
  rw [zo_give_1]
  exact zo_bring_10 S f
theorem ZJ.put {Y : SM} (h : ZJ Y) (p : Nat) : ZJ (zo_put Y p) := h.row rfl rfl rfl rfl
theorem ZJ.fin {Y : SM} (h : ZJ Y) (r : Nat) (w : Nat → Nat) : ZJ (zo_off (sw (zo_drop Y r) 0 w)) := h.row rfl rfl rfl rfl
theorem zo_fin_10 (Y : SM) (r : Nat) (w : Nat → Nat) : zo_off (sw (zo_drop Y r) 0 w) 1 0 = Y 1 0 := rfl
theorem zo_step_10 (r set f : Nat) (X : SM) : zo_step r set f X 1 0 = X 1 0 := by
  unfold zo_step
  split
  · rw [zo_put_1, uw_n (by decide)]
    exact zo_t_10 X f r
  · rfl
theorem ZJ.loop {S : SM} (h : ZJ S) (r set : Nat) : ∀ n, n ≤ S 1 0 → ZJ (zo_loop S r set n) ∧ zo_loop S r set n 1 0 = S 1 0
  | 0, _ => ⟨h, rfl⟩
  | n + 1, hn => by
    obtain ⟨a, b⟩ := ZJ.loop h r set n (by omega)
    have e : zo_loop S r set (n + 1) = zo_step r set n (zo_loop S r set n) := rfl
    rw [e]
    refine ⟨?_, (zo_step_10 r set n _).trans b⟩
    unfold zo_step
    split
    · exact (a.t (f := n) (r := r) (by omega)).put _
    · exact a
theorem ZJ.srv {S : SM} (h : ZJ S) (r : Nat) : ZJ (zo_srv S r) ∧ zo_srv S r 1 0 = S 1 0 := by
  have h1 : ZJ (zo_on S) := h.row rfl rfl rfl rfl
  obtain ⟨a, b⟩ := ZJ.loop (S := zo_on S) h1 r (zs_set S r) (S 1 0) (Nat.le_refl _)
  unfold zo_srv zo_serve
  exact ⟨a.fin r _, (zo_fin_10 _ r _).trans b⟩
theorem ZJ.all : ∀ (d : Nat) (S : SM), ZJ S → ZJ (zo_all d S).1 ∧ (zo_all d S).1 1 0 = S 1 0
  | 0, S, h => ⟨h, rfl⟩
  | d + 1, S, h => by
    rw [zo_all]
    by_cases q : zs_fs S = 0
    · rw [if_pos q]
      exact ⟨h, rfl⟩
    · rw [if_neg q]
      obtain ⟨a, b⟩ := h.srv (zs_fs S - 1)
      obtain ⟨c, e⟩ := ZJ.all d (zo_srv S (zs_fs S - 1)) a
      exact ⟨c, e.trans b⟩
theorem zs_set_pos {S : SM} {u r v : Nat} (g : GX u S) (h99 : S 99 0 = 0) (hr : r < S 14 0) (hv : zs_best S r v) : 0 < zs_bits v := by
  obtain ⟨k, hk, h1⟩ := g.w1 h99 r hr
  refine zs_bits_pos ?_ (zs_best_lt g hv)
  refine Nat.pos_of_ne_zero (fun z => ?_)
  have e := hv.2.1
  unfold zs_en at e
  have n : zs_any (zs_less S r v) 10 0 = false := by
    cases q : zs_any (zs_less S r v) 10 0
    · rfl
    · rw [q] at e
      cases e
  have := of_decide_eq_false (zs_none0.mp n k hk)
  rw [z] at this
  have s0 : zs_sum S 0 k (S 1 0) = 0 := by
    have : ∀ n, zs_sum S 0 k n = 0 := fun n => by
      induction n with
      | zero => rfl
      | succ n ih =>
        show zs_sum S 0 k n + (if (0 : Nat).testBit n then S 5 (n * 10 + k) else 0) = 0
        rw [ih, Nat.zero_testBit]
        rfl
    exact this _
  rw [s0] at this
  omega
