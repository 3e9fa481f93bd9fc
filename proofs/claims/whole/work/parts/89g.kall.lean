set_option maxHeartbeats 400000
/-! the order's text: the reference's whole reading -/
def zq_all (s : Nat → Nat) (len : Nat) : Bool × Nat × (Nat → Nat) := bif (zq_part s 0 0 (fun _ => 0)).1 then zq_loop s len len (zq_part s 0 0 (fun _ => 0)).2.1 (zq_part s 0 0 (fun _ => 0)).2.2.1 (zq_part s 0 0 (fun _ => 0)).2.2.2 else (false, (zq_part s 0 0 (fun _ => 0)).2.1, (zq_part s 0 0 (fun _ => 0)).2.2.2)
section
variable {K : Mem} {t : Nat → Nat} {len : Nat}
theorem zk_clean {c0 : Nat → Int32} {kx : Mem → Option (Int32 × Mem)} {Q : Int32 × Mem → Prop} (hk : ∀ N : Mem, N 0 = c0 → (∀ i, i < 10 → N 7 i = nI 0) → ∃ z, kx (sr (sr K 0 (N 0)) 7 (N 7)) = some z ∧ Q z) : ∀ d j n (N : Mem), j + d = 10 → d < n → N 0 = c0 → (∀ i, i < j → N 7 i = nI 0) → ∃ z, fX9_readsOrder_L12 K n kx N (nI j) = some z ∧ Q z := by
  intro d
  induction d with
  | zero =>
    intro j n N hj hn h0 h1
    obtain ⟨m, rfl⟩ : ∃ m, n = m + 1 := ⟨n - 1, by omega⟩
    obtain rfl : j = 10 := by omega
    rw [fX9_readsOrder_L12]
    simp (disch := omega) only [li0, li1, li2, li3, li4, li5, li6, li7, li8, li9, li10, li12, li13, li14, li15, li19, li20, li31, li33, li40, li42, li44, li48, li57, li60, li99, li100, li126, li150, li176, li177, li187, li197, li207, li208, li223, li304, li608, li1520, li1824, nI_add, pk_mul, nI_clamp, nI_leI, nI_ltI, nI_eq, zn_inb, zn_gd, zn_bs, zn_isb, not_true_eq_false, not_false_eq_true, ↓reduceIte, pk_div, pk_sub, zn_rem20, zn_rem2, zn_m1, zn_eqw, zn_weq, zn_weq2, zn_wlt0, zn_wltn, zn_win, zn_wcl, zn_wadd, Nat.not_lt_zero, Nat.one_ne_zero, Nat.zero_ne_one, Nat.le_refl, Nat.zero_le, zn_sel_r, zn_sel_l]
    exact hk _ h0 h1
  | succ d ih =>
    intro j n N hj hn h0 h1
    obtain ⟨m, rfl⟩ : ∃ m, n = m + 1 := ⟨n - 1, by omega⟩
    have c : ¬ 10 ≤ j := by omega
    rw [fX9_readsOrder_L12]
    simp (disch := omega) only [li0, li1, li2, li3, li4, li5, li6, li7, li8, li9, li10, li12, li13, li14, li15, li19, li20, li31, li33, li40, li42, li44, li48, li57, li60, li99, li100, li126, li150, li176, li177, li187, li197, li207, li208, li223, li304, li608, li1520, li1824, nI_add, pk_mul, nI_clamp, nI_leI, nI_ltI, nI_eq, zn_inb, zn_gd, zn_bs, zn_isb, not_true_eq_false, not_false_eq_true, ↓reduceIte, pk_div, pk_sub, zn_rem20, zn_rem2, zn_m1, zn_eqw, zn_weq, zn_weq2, zn_wlt0, zn_wltn, zn_win, zn_wcl, zn_wadd, Nat.not_lt_zero, Nat.one_ne_zero, Nat.zero_ne_one, Nat.le_refl, Nat.zero_le, zn_sel_r, zn_sel_l, c]
    refine ih (j + 1) m _ (by omega) (by omega) h0 (fun i hi => ?_)
    show upd (N 7) j (nI 0) i = nI 0
    by_cases e : i = j
    · rw [e, up_s]
    · rw [up_n e]
      exact h1 i (by omega)
theorem zk_readsOrder (hl : len ≤ 60) (ht : ∀ i, i < len → t i ≤ 126) (h8 : K 0 8 = nI len) (h6 : ∀ i, i < len → K 6 i = nI (t i)) : ∃ z, fX9_readsOrder K = some (nI (bif (zq_all (zq_s t len) len).1 then 1 else 0), z) ∧ z 0 9 = nI (zq_all (zq_s t len) len).2.1 ∧ rn 10 (z 7) (zq_all (zq_s t len) len).2.2 ∧ z 0 8 = nI len ∧ z 0 0 = K 0 0 ∧ z 0 4 = K 0 4 := by
  have key : ∃ z, fX9_readsOrder K = some z ∧ (z.1 = nI (bif (zq_all (zq_s t len) len).1 then 1 else 0) ∧ z.2 0 9 = nI (zq_all (zq_s t len) len).2.1 ∧ rn 10 (z.2 7) (zq_all (zq_s t len) len).2.2 ∧ z.2 0 8 = nI len ∧ z.2 0 0 = K 0 0 ∧ z.2 0 4 = K 0 4) := by
    unfold fX9_readsOrder
    simp (disch := omega) only [li0, li1, li2, li3, li4, li5, li6, li7, li8, li9, li10, li12, li13, li14, li15, li19, li20, li31, li33, li40, li42, li44, li48, li57, li60, li99, li100, li126, li150, li176, li177, li187, li197, li207, li208, li223, li304, li608, li1520, li1824, nI_add, pk_mul, nI_clamp, nI_leI, nI_ltI, nI_eq, zn_inb, zn_gd, zn_bs, zn_isb, not_true_eq_false, not_false_eq_true, ↓reduceIte, pk_div, pk_sub, zn_rem20, zn_rem2, zn_m1, zn_eqw, zn_weq, zn_weq2, zn_wlt0, zn_wltn, zn_win, zn_wcl, zn_wadd, Nat.not_lt_zero, Nat.one_ne_zero, Nat.zero_ne_one, Nat.le_refl, Nat.zero_le, zn_sel_r, zn_sel_l]
    refine zk_clean (K := K) (c0 := upd (upd (K 0) 9 (nI 0)) 10 (nI 1)) (Q := fun z => z.1 = nI (bif (zq_all (zq_s t len) len).1 then 1 else 0) ∧ z.2 0 9 = nI (zq_all (zq_s t len) len).2.1 ∧ rn 10 (z.2 7) (zq_all (zq_s t len) len).2.2 ∧ z.2 0 8 = nI len ∧ z.2 0 0 = K 0 0 ∧ z.2 0 4 = K 0 4) (fun N n0 n7 => ?_) 10 0 5000 _ (by omega) (by omega) rfl (fun i hi => absurd hi (Nat.not_lt_zero _))
    have f0 : N 0 0 = K 0 0 := by rw [n0]; rfl
    have f4 : N 0 4 = K 0 4 := by rw [n0]; rfl
    have f8 : N 0 8 = nI len := by rw [n0]; exact h8
    have f9 : N 0 9 = nI 0 := by rw [n0]; rfl
    have f10 : N 0 10 = nI 1 := by rw [n0]; rfl
    obtain ⟨v, z, e1, e2, e3, e4, e5, e6⟩ := zk_readsPart (K := sr (sr K 0 (N 0)) 7 (N 7)) (p := 0) (k := 0) (W := fun _ => 0) hl (Nat.zero_le _) ht ⟨f8, f9, f10, h6⟩ (Nat.zero_le _) n7
    obtain ⟨l1, l2⟩ := zq_part_le (t := t) (len := len) (p := 0) (k := 0) (W := fun _ => 0) (Nat.zero_le _)
    rw [zn_sr0, zn_sr7]
    simp (disch := omega) only [li0, li1, li2, li3, li4, li5, li6, li7, li8, li9, li10, li12, li13, li14, li15, li19, li20, li31, li33, li40, li42, li44, li48, li57, li60, li99, li100, li126, li150, li176, li177, li187, li197, li207, li208, li223, li304, li608, li1520, li1824, nI_add, pk_mul, nI_clamp, nI_leI, nI_ltI, nI_eq, zn_inb, zn_gd, zn_bs, zn_isb, not_true_eq_false, not_false_eq_true, ↓reduceIte, pk_div, pk_sub, zn_rem20, zn_rem2, zn_m1, zn_eqw, zn_weq, zn_weq2, zn_wlt0, zn_wltn, zn_win, zn_wcl, zn_wadd, Nat.not_lt_zero, Nat.one_ne_zero, Nat.zero_ne_one, Nat.le_refl, Nat.zero_le, zn_sel_r, zn_sel_l, e1]
    unfold zq_all
    cases b : (zq_part (zq_s t len) 0 0 (fun _ => 0)).1
    · rw [b, cond_false] at e2
      have o : sr (sr K 0 (z 0)) 7 (z 7) 0 10 = nI 0 := e2.2.2.1
      rw [zk_loop0 o]
      simp (disch := omega) only [li0, li1, li2, li3, li4, li5, li6, li7, li8, li9, li10, li12, li13, li14, li15, li19, li20, li31, li33, li40, li42, li44, li48, li57, li60, li99, li100, li126, li150, li176, li177, li187, li197, li207, li208, li223, li304, li608, li1520, li1824, nI_add, pk_mul, nI_clamp, nI_leI, nI_ltI, nI_eq, zn_inb, zn_gd, zn_bs, zn_isb, not_true_eq_false, not_false_eq_true, ↓reduceIte, pk_div, pk_sub, zn_rem20, zn_rem2, zn_m1, zn_eqw, zn_weq, zn_weq2, zn_wlt0, zn_wltn, zn_win, zn_wcl, zn_wadd, Nat.not_lt_zero, Nat.one_ne_zero, Nat.zero_ne_one, Nat.le_refl, Nat.zero_le, zn_sel_r, zn_sel_l, zn_sr0, zn_sr7, cond_false]
      have o2 : z 0 10 = nI 0 := o
      simp (disch := omega) only [li0, li1, li2, li3, li4, li5, li6, li7, li8, li9, li10, li12, li13, li14, li15, li19, li20, li31, li33, li40, li42, li44, li48, li57, li60, li99, li100, li126, li150, li176, li177, li187, li197, li207, li208, li223, li304, li608, li1520, li1824, nI_add, pk_mul, nI_clamp, nI_leI, nI_ltI, nI_eq, zn_inb, zn_gd, zn_bs, zn_isb, not_true_eq_false, not_false_eq_true, ↓reduceIte, pk_div, pk_sub, zn_rem20, zn_rem2, zn_m1, zn_eqw, zn_weq, zn_weq2, zn_wlt0, zn_wltn, zn_win, zn_wcl, zn_wadd, Nat.not_lt_zero, Nat.one_ne_zero, Nat.zero_ne_one, Nat.le_refl, Nat.zero_le, zn_sel_r, zn_sel_l, o2]
      exact ⟨_, rfl, rfl, e2.2.1, e3, e2.1, e5.trans f0, e6.trans f4⟩
    · rw [b, cond_true] at e2
      obtain ⟨l3, l4⟩ := l2 b
      rw [e4 b]
      refine zk_loop hl ht (c0 := K 0 0) (c4 := K 0 4) len _ 5000 (sr (sr K 0 (z 0)) 7 (z 7)) _ _ (by omega) l1 (by omega) l4 e2 e3 (e5.trans f0) (e6.trans f4) (fun N g1 g2 g3 g4 => ?_)
      rw [cond_true]
      have o : N 0 10 = nI (bif (zq_loop (zq_s t len) len len (zq_part (zq_s t len) 0 0 fun _ => 0).2.1 (zq_part (zq_s t len) 0 0 fun _ => 0).2.2.1 (zq_part (zq_s t len) 0 0 fun _ => 0).2.2.2).1 then 1 else 0) := g1.2.2.1
      have o2 : isb (N 0 10) = true := by
        rw [o]
        cases (zq_loop (zq_s t len) len len (zq_part (zq_s t len) 0 0 fun _ => 0).2.1 (zq_part (zq_s t len) 0 0 fun _ => 0).2.2.1 (zq_part (zq_s t len) 0 0 fun _ => 0).2.2.2).1 <;> rfl
      rw [o2, zn_gd]
      exact ⟨_, rfl, o, g1.2.1, g2, g1.1, g3, g4⟩
  obtain ⟨⟨z1, z2⟩, e, a, b⟩ := key
  have a : z1 = _ := a
  subst a
  exact ⟨z2, e, b⟩
end
