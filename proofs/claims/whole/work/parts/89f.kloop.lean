set_option maxHeartbeats 400000
/-! the order's text, all of it read by the reference -/
theorem zq_s_pos {t : Nat → Nat} {len q : Nat} (h : 0 < zq_s t len q) : q < len := by
  unfold zq_s at h
  split at h
  · assumption
  · omega
theorem zq_part_le {t : Nat → Nat} {len p k : Nat} {W : Nat → Nat} (hp : p ≤ len) : (zq_part (zq_s t len) p k W).2.1 ≤ len ∧ ((zq_part (zq_s t len) p k W).1 = true → p < (zq_part (zq_s t len) p k W).2.1 ∧ (zq_part (zq_s t len) p k W).2.2.1 ≤ 10) := by
  have a0 := zq_s_pos (t := t) (len := len) (q := p)
  have a1 := zq_s_pos (t := t) (len := len) (q := p + 1)
  have a2 := zq_s_pos (t := t) (len := len) (q := p + 2)
  have a3 := zq_s_pos (t := t) (len := len) (q := p + 3)
  unfold zq_part
  split
  · rename_i q0
    split
    · rename_i q1
      split
      · rename_i q2
        split
        · rename_i q3
          exact ⟨by show p + 4 ≤ len; omega, fun _ => ⟨by show p < p + 4; omega, by show zq_s t len p - 47 ≤ 10; omega⟩⟩
        · exact ⟨by show p + 3 ≤ len; omega, fun _ => ⟨by show p < p + 3; omega, by show zq_s t len p - 47 ≤ 10; omega⟩⟩
      · exact ⟨by show p + 2 ≤ len; omega, fun x => by cases x⟩
    · exact ⟨by show p + 1 ≤ len; omega, fun x => by cases x⟩
  · exact ⟨hp, fun x => by cases x⟩
section
variable {K : Mem} {t : Nat → Nat} {len : Nat}
theorem zn_sr0 (K : Mem) (a b : Nat → Int32) : sr (sr K 0 a) 7 b 0 = a := Eq.trans rfl rfl
theorem zn_sr7 (K : Mem) (a b : Nat → Int32) : sr (sr K 0 a) 7 b 7 = b := Eq.trans rfl rfl
theorem zk_loop0 {N : Mem} (h : N 0 10 = nI 0) (kx : Mem → Option (Int32 × Mem)) (n : Nat) (l : Int32) : fX9_readsOrder_L37 K (n + 1) kx N l = kx (sr (sr K 0 (N 0)) 7 (N 7)) := by
  rw [fX9_readsOrder_L37]
  simp (disch := omega) only [li0, li1, li2, li3, li4, li5, li6, li7, li8, li9, li10, li12, li13, li14, li15, li19, li20, li31, li33, li40, li42, li44, li48, li57, li60, li99, li100, li126, li150, li176, li177, li187, li197, li207, li208, li223, li304, li608, li1520, li1824, nI_add, pk_mul, nI_clamp, nI_leI, nI_ltI, nI_eq, zn_inb, zn_gd, zn_bs, zn_isb, not_true_eq_false, not_false_eq_true, ↓reduceIte, pk_div, pk_sub, zn_rem20, zn_rem2, zn_m1, zn_eqw, zn_weq, zn_weq2, zn_wlt0, zn_wltn, zn_win, zn_wcl, zn_wadd, Nat.not_lt_zero, Nat.one_ne_zero, Nat.zero_ne_one, Nat.le_refl, Nat.zero_le, zn_sel_r, zn_sel_l, h]
theorem zk_loop (hl : len ≤ 60) (ht : ∀ i, i < len → t i ≤ 126) {c0 c4 : Int32} {kx : Mem → Option (Int32 × Mem)} {Q : Int32 × Mem → Prop} : ∀ d p n (N : Mem) k W, len ≤ p + d → p ≤ len → d + 1 < n → k ≤ 10 → zq_at (sr (sr K 0 (N 0)) 7 (N 7)) len p 1 t → rn 10 (N 7) W → N 0 0 = c0 → N 0 4 = c4 → (∀ N : Mem, zq_at (sr (sr K 0 (N 0)) 7 (N 7)) len (zq_loop (zq_s t len) len d p k W).2.1 (bif (zq_loop (zq_s t len) len d p k W).1 then 1 else 0) t → rn 10 (N 7) (zq_loop (zq_s t len) len d p k W).2.2 → N 0 0 = c0 → N 0 4 = c4 → ∃ z, kx N = some z ∧ Q z) → ∃ z, fX9_readsOrder_L37 K n kx N (wI k) = some z ∧ Q z := by
  intro d
  induction d with
  | zero =>
    intro p n N k W hd hp hn hk ha hW n0 n4 hx
    obtain ⟨m, rfl⟩ : ∃ m, n = m + 1 := ⟨n - 1, by omega⟩
    have b1 : N 0 10 = nI 1 := ha.2.2.1
    have b2 : N 0 8 = nI len := ha.1
    have b3 : N 0 9 = nI p := ha.2.1
    have c : len ≤ p := by omega
    rw [fX9_readsOrder_L37]
    simp (disch := omega) only [li0, li1, li2, li3, li4, li5, li6, li7, li8, li9, li10, li12, li13, li14, li15, li19, li20, li31, li33, li40, li42, li44, li48, li57, li60, li99, li100, li126, li150, li176, li177, li187, li197, li207, li208, li223, li304, li608, li1520, li1824, nI_add, pk_mul, nI_clamp, nI_leI, nI_ltI, nI_eq, zn_inb, zn_gd, zn_bs, zn_isb, not_true_eq_false, not_false_eq_true, ↓reduceIte, pk_div, pk_sub, zn_rem20, zn_rem2, zn_m1, zn_eqw, zn_weq, zn_weq2, zn_wlt0, zn_wltn, zn_win, zn_wcl, zn_wadd, Nat.not_lt_zero, Nat.one_ne_zero, Nat.zero_ne_one, Nat.le_refl, Nat.zero_le, zn_sel_r, zn_sel_l, b1, b2, b3, c]
    exact hx _ ha hW n0 n4
  | succ d ih =>
    intro p n N k W hd hp hn hk ha hW n0 n4 hx
    obtain ⟨m, rfl⟩ : ∃ m, n = m + 1 + 1 := ⟨n - 2, by omega⟩
    have b1 : N 0 10 = nI 1 := ha.2.2.1
    have b2 : N 0 8 = nI len := ha.1
    have b3 : N 0 9 = nI p := ha.2.1
    have s0 := zq_s_le ht p
    have es := zk_sign hl (show p < 2 ^ 20 by omega) ha
    rw [zq_loop] at hx
    rw [fX9_readsOrder_L37]
    by_cases c : len ≤ p
    · rw [if_pos c] at hx
      simp (disch := omega) only [li0, li1, li2, li3, li4, li5, li6, li7, li8, li9, li10, li12, li13, li14, li15, li19, li20, li31, li33, li40, li42, li44, li48, li57, li60, li99, li100, li126, li150, li176, li177, li187, li197, li207, li208, li223, li304, li608, li1520, li1824, nI_add, pk_mul, nI_clamp, nI_leI, nI_ltI, nI_eq, zn_inb, zn_gd, zn_bs, zn_isb, not_true_eq_false, not_false_eq_true, ↓reduceIte, pk_div, pk_sub, zn_rem20, zn_rem2, zn_m1, zn_eqw, zn_weq, zn_weq2, zn_wlt0, zn_wltn, zn_win, zn_wcl, zn_wadd, Nat.not_lt_zero, Nat.one_ne_zero, Nat.zero_ne_one, Nat.le_refl, Nat.zero_le, zn_sel_r, zn_sel_l, b1, b2, b3, c]
      exact hx _ ha hW n0 n4
    · rw [if_neg c] at hx
      by_cases q : zq_s t len p = 44 ∧ k < 10
      · rw [if_pos q] at hx
        have wl : ¬ nI 9 ≤ wI k := fun a => by
          have := (zn_lew (a := 9) (k := k) (by omega) (by omega)).mp a
          omega
        have wl2 := eq_false wl
        have q1 := q.1
        have a2 : zq_at (sr (sr K 0 (upd (upd (N 0) 10 (nI 1)) 9 (nI (p + 1)))) 7 (N 7)) len (p + 1) 1 t := ⟨ha.1, rfl, rfl, ha.2.2.2⟩
        obtain ⟨v, z, e1, e2, e3, e4, e5, e6⟩ := zk_readsPart (K := sr (sr K 0 (upd (upd (N 0) 10 (nI 1)) 9 (nI (p + 1)))) 7 (N 7)) hl (show p + 1 ≤ 60 by omega) ht a2 hk hW
        obtain ⟨l1, l2⟩ := zq_part_le (t := t) (len := len) (p := p + 1) (k := k) (W := W) (by omega)
        simp (disch := omega) only [li0, li1, li2, li3, li4, li5, li6, li7, li8, li9, li10, li12, li13, li14, li15, li19, li20, li31, li33, li40, li42, li44, li48, li57, li60, li99, li100, li126, li150, li176, li177, li187, li197, li207, li208, li223, li304, li608, li1520, li1824, nI_add, pk_mul, nI_clamp, nI_leI, nI_ltI, nI_eq, zn_inb, zn_gd, zn_bs, zn_isb, not_true_eq_false, not_false_eq_true, ↓reduceIte, pk_div, pk_sub, zn_rem20, zn_rem2, zn_m1, zn_eqw, zn_weq, zn_weq2, zn_wlt0, zn_wltn, zn_win, zn_wcl, zn_wadd, Nat.not_lt_zero, Nat.one_ne_zero, Nat.zero_ne_one, Nat.le_refl, Nat.zero_le, zn_sel_r, zn_sel_l, b1, b2, b3, c, es, q1, wl2, fX9_readsOrder_B76, fX9_readsOrder_B96, zn_sr0, zn_sr7, up_s, e1]
        cases b : (zq_part (zq_s t len) (p + 1) k W).1
        · rw [b, cond_false] at hx e2
          have o : sr (sr K 0 (z 0)) 7 (z 7) 0 10 = nI 0 := e2.2.2.1
          rw [zk_loop0 o]
          exact hx _ e2 e3 (e5.trans n0) (e6.trans n4)
        · rw [b, cond_true] at hx e2
          obtain ⟨l3, l4⟩ := l2 b
          rw [e4 b]
          exact ih _ (m + 1) (sr (sr K 0 (z 0)) 7 (z 7)) _ _ (by omega) l1 (by omega) l4 e2 e3 (e5.trans n0) (e6.trans n4) hx
      · rw [if_neg q] at hx
        have fin : ∃ z, fX9_readsOrder_L37 K (m + 1) kx (sr (sr K 0 (upd (upd (N 0) 10 (nI 0)) 9 (nI p + nI 0))) 7 (N 7)) (wI k) = some z ∧ Q z := by
          rw [zk_loop0 (show upd (upd (N 0) 10 (nI 0)) 9 (nI p + nI 0) 10 = nI 0 from rfl)]
          exact hx _ ⟨ha.1, (Int32.add_zero _ : nI p + 0 = nI p), rfl, ha.2.2.2⟩ hW n0 n4
        rw [nI_add] at fin
        by_cases x : zq_s t len p = 44
        · have wl2 := eq_true ((zn_lew (a := 9) (k := k) (by omega) (by omega)).mpr (by omega))
          simp (disch := omega) only [li0, li1, li2, li3, li4, li5, li6, li7, li8, li9, li10, li12, li13, li14, li15, li19, li20, li31, li33, li40, li42, li44, li48, li57, li60, li99, li100, li126, li150, li176, li177, li187, li197, li207, li208, li223, li304, li608, li1520, li1824, nI_add, pk_mul, nI_clamp, nI_leI, nI_ltI, nI_eq, zn_inb, zn_gd, zn_bs, zn_isb, not_true_eq_false, not_false_eq_true, ↓reduceIte, pk_div, pk_sub, zn_rem20, zn_rem2, zn_m1, zn_eqw, zn_weq, zn_weq2, zn_wlt0, zn_wltn, zn_win, zn_wcl, zn_wadd, Nat.not_lt_zero, Nat.one_ne_zero, Nat.zero_ne_one, Nat.le_refl, Nat.zero_le, zn_sel_r, zn_sel_l, b1, b2, b3, c, es, x, wl2, fX9_readsOrder_B75, fX9_readsOrder_B76, fX9_readsOrder_B96, zn_sr0, zn_sr7, up_s]
          exact fin
        · simp (disch := omega) only [li0, li1, li2, li3, li4, li5, li6, li7, li8, li9, li10, li12, li13, li14, li15, li19, li20, li31, li33, li40, li42, li44, li48, li57, li60, li99, li100, li126, li150, li176, li177, li187, li197, li207, li208, li223, li304, li608, li1520, li1824, nI_add, pk_mul, nI_clamp, nI_leI, nI_ltI, nI_eq, zn_inb, zn_gd, zn_bs, zn_isb, not_true_eq_false, not_false_eq_true, ↓reduceIte, pk_div, pk_sub, zn_rem20, zn_rem2, zn_m1, zn_eqw, zn_weq, zn_weq2, zn_wlt0, zn_wltn, zn_win, zn_wcl, zn_wadd, Nat.not_lt_zero, Nat.one_ne_zero, Nat.zero_ne_one, Nat.le_refl, Nat.zero_le, zn_sel_r, zn_sel_l, b1, b2, b3, c, es, x, fX9_readsOrder_B75, fX9_readsOrder_B76, fX9_readsOrder_B96, zn_sr0, zn_sr7, up_s]
          exact fin
end
