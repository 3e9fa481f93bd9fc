set_option maxHeartbeats 400000
/-! calls that change the state and can be undone -/
section
variable {n u : Nat} {C C2 : Nat → Option Mem} {M K M' K' : Mem} {S S' : SM} {T : Nat → SM} {hc : Nat}
theorem ZI.gen2 {m33 m36 m37 k3 k4 k5 k6 : Nat → Int32} {k04 k08 : Int32} (hH : ZH (n + 1) C m33 k04 k3 k4 k5 T hc) (hB : ZB m36 m37 k08 k6) (hX : RX (ofs 1 M') S') (hK : RK (K' 1) S') (g : GX (192 * (n + 1)) S') (h99 : S' 99 0 = 0) (e33 : M' 33 = m33) (e36 : M' 36 = m36) (e37 : M' 37 = m37) (e04 : K' 0 4 = k04) (e08 : K' 0 8 = k08) (e3 : K' 3 = k3) (e4 : K' 4 = k4) (e5 : K' 5 = k5) (e6 : K' 6 = k6) : ZI (n + 1) C M' K' := by
  refine ⟨S', T, hc, ⟨hX, hK, g, h99⟩, ?_, ?_⟩
  · rw [e33, e04, e3, e4, e5]
    exact hH
  · rw [e36, e37, e08, e6]
    exact hB
theorem zh_T_cases {Q : SM → Prop} (hS : Q S) (hT : ∀ i, i < hc → Q (T i)) (h6 : hc ≤ 6) : ∀ i, i < zh_n hc → Q (zh_T hc T S i) := by
  intro i hi
  unfold zh_n at hi
  unfold zh_T
  by_cases c : hc < 6
  · rw [if_pos c] at hi
    simp only [if_pos c]
    by_cases q : i = hc
    · rw [if_pos q]
      exact hS
    · rw [if_neg q]
      exact hT i (by omega)
  · rw [if_neg c] at hi
    simp only [if_neg c]
    by_cases q : i = 5
    · rw [if_pos q]
      exact hS
    · rw [if_neg q]
      exact hT (i + 1) (by omega)
theorem ZI.save (hn : n < 512) (hS : ZS n (ofs 1 M) (K 1) S) (hH : ZH n C (M 33) (K 0 4) (K 3) (K 4) (K 5) T hc) {P K0 : Mem} (hP : RX (ofs 3 P) S) (hP0 : P 0 0 = M 33 0) (hK1 : K0 1 = K 1) (hK3 : K0 3 = K 3) (hK4 : K0 0 4 = K 0 4) : ∃ q r, fX1_save C P = some q ∧ fX9_records K0 = some r ∧ ZH (n + 1) q.2 (q.1 0) (r 0 4) (r 3) (K 4) (K 5) (fun i => if i < 6 then zh_T hc T S i else T i) (zh_n hc) ∧ (∀ i, i ≠ 4 → r 0 i = K0 0 i) := by
  obtain ⟨hX, hK, g, h99⟩ := hS
  obtain ⟨a1, a2, a3, a4, a5⟩ := id hH
  obtain ⟨q, e1, q0, q1, q2⟩ := zx_save (C := C) (T := T) a3 (hP0.trans a1) hP g.lo.2.1 g.lo.2.2.2 (fun i hi => by
    obtain ⟨N, b1, b2⟩ := a4 i hi
    exact ⟨N, b1, b2.1⟩)
  obtain ⟨r, e2, r0, r1, r2⟩ := zk_records (K := K0) (S := S) (T := T) a3 (hK4.trans a2) (by rw [hK1]; exact hK) ⟨g.c12, g.o8⟩ (fun i hi => by
    obtain ⟨N, b1, b2⟩ := a4 i hi
    rw [hK3]
    exact ⟨b2.2.1, b2.2.2.1.c12, b2.2.2.1.o8⟩)
  have z6 : zh_n hc ≤ 6 := by
    unfold zh_n
    split <;> omega
  refine ⟨q, r, e1, e2, ⟨q0, r1, z6, fun i hi => ?_, fun i hi => ?_⟩, r0⟩
  · obtain ⟨N, b1, b2⟩ := q1 i hi
    have i6 : i < 6 := by omega
    simp only [if_pos i6]
    refine ⟨N, b1, b2, r2 i hi, ?_, ?_⟩
    · exact zh_T_cases (Q := fun X => GX (192 * (n + 1)) X) (g.nx hn) (fun j hj => by
        obtain ⟨N, b1, b2⟩ := a4 j hj
        exact b2.2.2.1.nx hn) a3 i hi
    · exact zh_T_cases (Q := fun X => X 99 0 = 0) h99 (fun j hj => by
        obtain ⟨N, b1, b2⟩ := a4 j hj
        exact b2.2.2.2) a3 i hi
  · have i6 : ¬ 6 + i < 6 := by omega
    simp only [if_neg i6]
    rcases a5 i hi with b | ⟨N, b1, b2, b3⟩
    · exact Or.inl ⟨(q2 i).trans b.1, b.2⟩
    · exact Or.inr ⟨N, (q2 i).trans b1, b2, b3.up hn⟩
/-! what single changes keep -/
theorem GX.least (g : GX u S) {k v : Nat} (hv : v ≤ 99) : GX u (sw S 11 (uw (S 11) k v)) := by
  obtain ⟨a, b1, b2, b3, b4, b5, b6, b10, b11, b12, b13⟩ := id g
  refine ⟨a, fun i hi => ?_, b2, b3, b4, b5, b6, b10, b11, b12, b13⟩
  have := b1 i hi
  refine ⟨this.1, this.2.1, ?_⟩
  show uw (S 11) k v i ≤ 99
  unfold uw
  split
  · exact hv
  · exact this.2.2
theorem zs_wt_w (S : SM) {k : Nat} (hk : k < 10) (w f : Nat) : zs_wt (sw S 10 (uw (S 10) k w)) f + S 5 (f * 10 + k) * S 10 k = zs_wt S f + S 5 (f * 10 + k) * w := by
  have h := fb_sm_upd (fun j => S 5 (f * 10 + j) * S 10 j) (S 5 (f * 10 + k) * w) hk
  have e : zs_wt (sw S 10 (uw (S 10) k w)) f = fb_sm (fun j => if j = k then S 5 (f * 10 + k) * w else S 5 (f * 10 + j) * S 10 j) 10 := fb_sm_cong (fun j _ => by
    show S 5 (f * 10 + j) * uw (S 10) k w j = _
    unfold uw
    by_cases q : j = k
    · rw [if_pos q, if_pos q, q]
    · rw [if_neg q, if_neg q])
  rw [e]
  exact h
theorem GX.weight (g : GX u S) {k w : Nat} (hk : k < 10) (h1 : 1 ≤ w) (h9 : w ≤ 9) (ok : zs_any (zs_heavier S k w) (S 1 0) 0 = false) : GX u (sw S 10 (uw (S 10) k w)) := by
  obtain ⟨a, b1, b2, b3, b4, b5, b6, b10, b11, b12, b13⟩ := id g
  refine ⟨a, fun i hi => ?_, fun f hf => ?_, b3, b4, b5, b6, b10, b11, b12, b13⟩
  · have := b1 i hi
    refine ⟨?_, ?_, this.2.2⟩
    · show 1 ≤ uw (S 10) k w i
      unfold uw
      split
      · exact h1
      · exact this.1
    · show uw (S 10) k w i ≤ 9
      unfold uw
      split
      · exact h9
      · exact this.2.1
  · have e := zs_wt_w S hk w f
    have h := of_decide_eq_false (zs_none0.mp ok f hf)
    have q : S 1 0 = sw S 10 (uw (S 10) k w) 1 0 := rfl
    omega
theorem GX.rule (g : GX u S) {v : Nat} (hv : v < 2) : GX u (sw S 6 (uw (S 6) 1 v)) := by
  obtain ⟨a, b1, b2, b3, b4, b5, ⟨c1, c2, c3, c4⟩, b10, b11, b12, b13⟩ := id g
  exact ⟨a, b1, b2, b3, b4, b5, ⟨c1, hv, c3, c4⟩, b10, b11, b12, b13⟩
theorem zs_wt_t (S : SM) {f k : Nat} (hk : k < 10) (v x : Nat) : zs_wt (sw S 5 (uw (S 5) (f * 10 + k) v)) x = if x = f then zs_wt S f + v * S 10 k - S 5 (f * 10 + k) * S 10 k else zs_wt S x := by
  by_cases q : x = f
  · rw [if_pos q, q]
    have h := fb_sm_upd (fun j => S 5 (f * 10 + j) * S 10 j) (v * S 10 k) hk
    have e : zs_wt (sw S 5 (uw (S 5) (f * 10 + k) v)) f = fb_sm (fun j => if j = k then v * S 10 k else S 5 (f * 10 + j) * S 10 j) 10 := fb_sm_cong (fun j _ => by
      show uw (S 5) (f * 10 + k) v (f * 10 + j) * S 10 j = _
      by_cases q : j = k
      · rw [if_pos q, q, uw_s]
      · rw [if_neg q, uw_n (by omega)])
    rw [e]
    have h2 : fb_sm (fun j => S 5 (f * 10 + j) * S 10 j) 10 = zs_wt S f := rfl
    omega
  · rw [if_neg q]
    exact fb_sm_cong (fun j hj => by
      show uw (S 5) (f * 10 + k) v (x * 10 + j) * S 10 j = _
      rw [uw_n (by omega)])
theorem GX.things (g : GX u S) {f k v : Nat} (hk : k < 10) (hv : zs_wt S f + v * S 10 k ≤ 150 + S 5 (f * 10 + k) * S 10 k) (hf : f < S 1 0) : GX u (sw S 5 (uw (S 5) (f * 10 + k) v)) := by
  obtain ⟨⟨a1, a2, a3, a4, a5, a6⟩, b1, b2, b3, b4, b5, b6, b10, b11, b12, b13⟩ := id g
  have wt : ∀ x, x < S 1 0 → zs_wt (sw S 5 (uw (S 5) (f * 10 + k) v)) x ≤ 150 := by
    intro x hx
    rw [zs_wt_t S hk]
    split
    · omega
    · exact b2 x hx
  refine ⟨⟨a1, a2, a3, a4, fun x j hx hj => ?_, a6⟩, b1, wt, b3, b4, b5, b6, b10, b11, b12, b13⟩
  have hw := wt x hx
  have hp := fb_sm_part (fun j => uw (S 5) (f * 10 + k) v (x * 10 + j) * S 10 j) hj
  have hw2 : fb_sm (fun j => uw (S 5) (f * 10 + k) v (x * 10 + j) * S 10 j) 10 ≤ 150 := hw
  have h1 := (b1 j hj).1
  have h2 : uw (S 5) (f * 10 + k) v (x * 10 + j) * 1 ≤ uw (S 5) (f * 10 + k) v (x * 10 + j) * S 10 j := Nat.mul_le_mul_left _ h1
  show uw (S 5) (f * 10 + k) v (x * 10 + j) ≤ 150
  have h3 : uw (S 5) (f * 10 + k) v (x * 10 + j) * S 10 j ≤ 150 := by omega
  omega
theorem GX.row12 (g : GX u S) (v : Nat → Nat) : GX u (sw S 12 v) := g
theorem GX.row13 (g : GX u S) (v : Nat → Nat) : GX u (sw S 13 v) := g
theorem GX.drop (g : GX u S) (h99 : S 99 0 = 0) {r : Nat} (hr : r < S 14 0) : GX u (zo_drop S r) := by
  obtain ⟨a, b1, b2, b3, b4, b5, b6, b10, b11, b12, b13⟩ := id g
  have c14 : zo_drop S r 14 0 = S 14 0 - 1 := (show uw (S 14) 0 (S 14 0 - 1) 0 = _ from uw_s _ _ _)
  have r15 : ∀ i, zo_drop S r 15 i = if r * 10 ≤ i ∧ i < (S 14 0 - 1) * 10 then S 15 (i + 10) else S 15 i := fun i => rfl
  refine ⟨a, b1, b2, ?_, fun q k hq hk => ?_, fun _ q hq => ?_, b6, b10, b11, b12, b13⟩
  · rw [c14]
    omega
  · rw [c14] at hq
    rw [r15]
    split
    · have := b4 (q + 1) k (by omega) hk
      rwa [show (q + 1) * 10 + k = q * 10 + k + 10 by omega] at this
    · exact b4 q k (by omega) hk
  · rw [c14] at hq
    by_cases e : q < r
    · obtain ⟨k, hk, h1⟩ := b5 h99 q (by omega)
      refine ⟨k, hk, ?_⟩
      rw [r15, if_neg (by omega)]
      exact h1
    · obtain ⟨k, hk, h1⟩ := b5 h99 (q + 1) (by omega)
      refine ⟨k, hk, ?_⟩
      rw [r15, if_pos (by omega), show q * 10 + k + 10 = (q + 1) * 10 + k by omega]
      exact h1
theorem zn_sub_plus (a b c : Nat) : nI a - nI b + nI c = nI (a + c) - nI b := by
  rw [Int32.sub_eq_add_neg, Int32.add_assoc, Int32.add_comm (-nI b), ← Int32.add_assoc, nI_add, ← Int32.sub_eq_add_neg]
theorem zn_sub_minus (a b c : Nat) : nI a - nI b + -(nI c) = nI a - nI (b + c) := by
  rw [← nI_add, zn_sub_add, ← Int32.sub_eq_add_neg]
theorem zk_addsUp (h : RK (K 1) S) (g : GX u S) {f k m : Nat} (hw : S 1 1 = f + 1) (hk : k < 10) : ∃ z, fX9_adds K (nI k) (nI m) = some (nI (S 5 (f * 10 + k) + m), z) ∧ RK (z 1) (sw (sw S 5 (uw (S 5) (f * 10 + k) (S 5 (f * 10 + k) + m))) 12 (uw (S 12) k (S 12 k + m))) := by
  have hc := g.c12
  have hw2 := g.1.2.1
  have hf : f < S 1 0 := by omega
  have e1 : K 1 1 = nI f := h.2.1.trans (by rw [hw, wI_s])
  have e2 := zk_of4 h hc hf hk
  have e3 := zk_lay4 (K := K) hc hf hk (S 5 (f * 10 + k) + m)
  have h1 := h.ut hc hf hk (S 5 (f * 10 + k) + m)
  have h2 := h1.un12 hc hk (S 12 k + m)
  have e4 : upd (K 1) (9 + 14 * f + (4 + k)) (nI (S 5 (f * 10 + k) + m)) (197 + k) = nI (S 12 k) - nI (S 13 k) := (h1.2.2.2.2.2.1 k hk).2.2
  have r1 : sr K 1 (upd (K 1) (9 + 14 * f + (4 + k)) (nI (S 5 (f * 10 + k) + m))) 1 = upd (K 1) (9 + 14 * f + (4 + k)) (nI (S 5 (f * 10 + k) + m)) := rfl
  have h2' : RK (upd (upd (K 1) (9 + 14 * f + (4 + k)) (nI (S 5 (f * 10 + k) + m))) (197 + k) (nI (S 12 k + m) - nI (S 13 k))) (sw (sw S 5 (uw (S 5) (f * 10 + k) (S 5 (f * 10 + k) + m))) 12 (uw (S 12) k (S 12 k + m))) := h2
  have e5 := zk_of4 (K := sr K 1 (upd (upd (K 1) (9 + 14 * f + (4 + k)) (nI (S 5 (f * 10 + k) + m))) (197 + k) (nI (S 12 k + m) - nI (S 13 k)))) h2' hc hf hk
  rw [show (sw (sw S 5 (uw (S 5) (f * 10 + k) (S 5 (f * 10 + k) + m))) 12 (uw (S 12) k (S 12 k + m))) 5 (f * 10 + k) = S 5 (f * 10 + k) + m from uw_s _ _ _] at e5
  unfold fX9_adds
  simp (disch := omega) only [li1, li4, li197, zn_inb, zn_gd, nI_clamp, nI_add, e1, e2, zn_bs, e3, r1, e4, zn_sub_plus, e5]
  exact ⟨_, rfl, h2'⟩
theorem zk_addsDown (h : RK (K 1) S) (g : GX u S) {f k m : Nat} (hw : S 1 1 = f + 1) (hk : k < 10) (hm : m ≤ S 5 (f * 10 + k)) : ∃ z, fX9_adds K (nI k) (-(nI m)) = some (nI (S 5 (f * 10 + k) - m), z) ∧ RK (z 1) (sw (sw S 5 (uw (S 5) (f * 10 + k) (S 5 (f * 10 + k) - m))) 13 (uw (S 13) k (S 13 k + m))) := by
  have hc := g.c12
  have hw2 := g.1.2.1
  have hf : f < S 1 0 := by omega
  have e1 : K 1 1 = nI f := h.2.1.trans (by rw [hw, wI_s])
  have e2 := zk_of4 h hc hf hk
  have e3 := zk_lay4 (K := K) hc hf hk (S 5 (f * 10 + k) - m)
  have h1 := h.ut hc hf hk (S 5 (f * 10 + k) - m)
  have h2 := h1.un13 hc hk (S 13 k + m)
  have e4 : upd (K 1) (9 + 14 * f + (4 + k)) (nI (S 5 (f * 10 + k) - m)) (197 + k) = nI (S 12 k) - nI (S 13 k) := (h1.2.2.2.2.2.1 k hk).2.2
  have r1 : sr K 1 (upd (K 1) (9 + 14 * f + (4 + k)) (nI (S 5 (f * 10 + k) - m))) 1 = upd (K 1) (9 + 14 * f + (4 + k)) (nI (S 5 (f * 10 + k) - m)) := rfl
  have h2' : RK (upd (upd (K 1) (9 + 14 * f + (4 + k)) (nI (S 5 (f * 10 + k) - m))) (197 + k) (nI (S 12 k) - nI (S 13 k + m))) (sw (sw S 5 (uw (S 5) (f * 10 + k) (S 5 (f * 10 + k) - m))) 13 (uw (S 13) k (S 13 k + m))) := h2
  have e5 := zk_of4 (K := sr K 1 (upd (upd (K 1) (9 + 14 * f + (4 + k)) (nI (S 5 (f * 10 + k) - m))) (197 + k) (nI (S 12 k) - nI (S 13 k + m)))) h2' hc hf hk
  rw [show (sw (sw S 5 (uw (S 5) (f * 10 + k) (S 5 (f * 10 + k) - m))) 13 (uw (S 13) k (S 13 k + m))) 5 (f * 10 + k) = S 5 (f * 10 + k) - m from uw_s _ _ _] at e5
  have ea := zn_addneg hm
  unfold fX9_adds
  simp (disch := omega) only [li1, li4, li197, zn_inb, zn_gd, nI_clamp, nI_add, e1, e2, zn_bs, ea, e3, r1, e4, zn_sub_minus, e5]
  exact ⟨_, rfl, h2'⟩
end
theorem zt_fetch : St_fetch ZI := by
  intro n C M K x1 hn h
  obtain ⟨S, T, hc, ⟨hX, hK, g, h99⟩, hH, hB⟩ := id h
  have hc12 := g.c12
  have h8 := g.o8
  have lo := g.lo
  have hw12 := g.1.2.1
  have hT : RT (ofs 2 M) S := hX.t
  have hK0 : RK ((sr K 0 (upd (K 0) 0 (nI 0))) 1) S := hK
  have gn := g.nx hn
  obtain ⟨q, r, es, er, hH', r0⟩ := ZI.save (P := (pk [33, 34, 35, 1, 2, 3, 4, 5, 6, 7, 8, 9, 10, 11, 12, 13, 14, 15, 16] M)) (K0 := (sr K 0 (upd (K 0) 0 (nI 0)))) hn ⟨hX, hK, g, h99⟩ hH (hX.of rfl rfl rfl rfl rfl rfl rfl rfl rfl rfl rfl rfl rfl rfl rfl ) rfl rfl rfl rfl
  have rt : r 0 0 = nI 0 := (r0 0 (by omega)).trans rfl
  have r8 : r 0 8 = K 0 8 := (r0 8 (by omega)).trans rfl
  have hKR : RK ((sr (sr K 0 (r 0)) 3 (r 3)) 1) S := hK
  have e4 := zr_win hX (by omega)
  have e5 := zk_hasWindow (K := (sr K 0 (upd (K 0) 0 (nI 0)))) hK0 (by omega)
  rcases zr_shelf hX hc12 x1 with ⟨f, hf, rfl, e1, e2⟩ | ⟨e1, e2⟩
  · have e3 := e2 (sr K 0 (upd (K 0) 0 (nI 0))) hK0
    by_cases c1 : S 1 1 = 0
    · rw [if_pos c1] at e4 e5
      obtain ⟨zb, eb, hzb, ezb⟩ := zx_bring (M := ofs 1 (sr M 33 (q.1 0))) (S := S) (hX.of rfl rfl rfl rfl rfl rfl rfl rfl rfl rfl rfl rfl rfl rfl rfl ) g hf
      obtain ⟨yb, ef, hyb⟩ := zk_fetchesIt (K := (sr (sr K 0 (r 0)) 3 (r 3))) (S := S) hKR g hf
      obtain ⟨z1, z2, ex, hx2, e33, e36, e37⟩ : ∃ z1 z2, fX8_fetch C M (nI f) = some (.inr z1, z2, q.2) ∧ RX (ofs 1 z2) (zo_bring S f) ∧ z2 33 = q.1 0 ∧ z2 36 = M 36 ∧ z2 37 = M 37 ∧ z1 = nI (zs_to S f) := by
        unfold fX8_fetch
        simp (disch := omega) only [li0, li1, li2, li3, li4, li5, li6, li7, li8, li9, li10, li12, li13, li14, li15, li19, li20, li31, li33, li40, li42, li44, li48, li57, li60, li99, li100, li126, li150, li176, li177, li187, li197, li207, li208, li223, li304, li608, li1520, li1824, nI_add, pk_mul, nI_clamp, nI_leI, nI_ltI, nI_eq, zn_inb, zn_gd, zn_bs, zn_isb, not_true_eq_false, not_false_eq_true, ↓reduceIte, pk_div, pk_sub, zn_rem20, zn_rem2, zn_m1, zn_eqw, zn_weq, zn_weq2, zn_wlt0, zn_wltn, zn_win, zn_wcl, zn_wadd, Nat.not_lt_zero, Nat.one_ne_zero, Nat.zero_ne_one, Nat.le_refl, Nat.zero_le, zn_sel_r, zn_sel_l, e1, e4, es, eb, inrs, Option.map_some]
        exact ⟨_, _, rfl, hzb.of (congrFun ezb 0).symm rfl (congrFun ezb 2).symm (congrFun ezb 3).symm rfl (congrFun ezb 5).symm rfl rfl rfl (congrFun ezb 10).symm (congrFun ezb 11).symm (congrFun ezb 12).symm (congrFun ezb 13).symm (congrFun ezb 14).symm (congrFun ezb 15).symm, rfl, rfl, rfl, rfl⟩
      obtain ⟨e37, ev⟩ := e37
      obtain ⟨y, ek, y0, y4, y8, yk, y3, y1⟩ : ∃ y : Int32 × Mem, fX9_fetch K (nI f) = some y ∧ y.2 0 0 = nI 0 ∧ y.2 0 4 = r 0 4 ∧ y.2 0 8 = K 0 8 ∧ RK (y.2 1) (zo_bring S f) ∧ y.2 3 = r 3 ∧ nI (zs_to S f) = y.1 := by
        unfold fX9_fetch
        simp (disch := omega) only [li0, li1, li2, li3, li4, li5, li6, li7, li8, li9, li10, li12, li13, li14, li15, li19, li20, li31, li33, li40, li42, li44, li48, li57, li60, li99, li100, li126, li150, li176, li177, li187, li197, li207, li208, li223, li304, li608, li1520, li1824, nI_add, pk_mul, nI_clamp, nI_leI, nI_ltI, nI_eq, zn_inb, zn_gd, zn_bs, zn_isb, not_true_eq_false, not_false_eq_true, ↓reduceIte, pk_div, pk_sub, zn_rem20, zn_rem2, zn_m1, zn_eqw, zn_weq, zn_weq2, zn_wlt0, zn_wltn, zn_win, zn_wcl, zn_wadd, Nat.not_lt_zero, Nat.one_ne_zero, Nat.zero_ne_one, Nat.le_refl, Nat.zero_le, zn_sel_r, zn_sel_l, e3, e5, er, ef]
        exact ⟨_, rfl, rt, rfl, r8, hyb, rfl, rfl⟩
      exact ⟨_, _, z2, q.2, y, ex, Or.inl ⟨_, rfl, rfl⟩, (fun E hE => by cases hE), ek, y0, (fun u hu => by cases hu; exact ev.trans y1), ZI.gen2 hH' hB hx2 yk ((g.bring hf (by omega)).mono (by omega) (by omega)) (h99) e33 e36 e37 y4 y8 y3 rfl rfl rfl⟩
    · rw [if_neg c1] at e4 e5
      have ex : fX8_fetch C M (nI f) = some (.inl "java/lang/IllegalStateException", M, C) := by
        unfold fX8_fetch
        simp (disch := omega) only [li0, li1, li2, li3, li4, li5, li6, li7, li8, li9, li10, li12, li13, li14, li15, li19, li20, li31, li33, li40, li42, li44, li48, li57, li60, li99, li100, li126, li150, li176, li177, li187, li197, li207, li208, li223, li304, li608, li1520, li1824, nI_add, pk_mul, nI_clamp, nI_leI, nI_ltI, nI_eq, zn_inb, zn_gd, zn_bs, zn_isb, not_true_eq_false, not_false_eq_true, ↓reduceIte, pk_div, pk_sub, zn_rem20, zn_rem2, zn_m1, zn_eqw, zn_weq, zn_weq2, zn_wlt0, zn_wltn, zn_win, zn_wcl, zn_wadd, Nat.not_lt_zero, Nat.one_ne_zero, Nat.zero_ne_one, Nat.le_refl, Nat.zero_le, zn_sel_r, zn_sel_l, e1, e4]
      obtain ⟨y, ek, y0, y4, y8, yk, y3⟩ : ∃ y : Int32 × Mem, fX9_fetch K (nI f) = some y ∧ y.2 0 0 = nI (1 + 1) ∧ y.2 0 4 = K 0 4 ∧ y.2 0 8 = K 0 8 ∧ RK (y.2 1) S ∧ y.2 3 = K 3 := by
        unfold fX9_fetch
        simp (disch := omega) only [li0, li1, li2, li3, li4, li5, li6, li7, li8, li9, li10, li12, li13, li14, li15, li19, li20, li31, li33, li40, li42, li44, li48, li57, li60, li99, li100, li126, li150, li176, li177, li187, li197, li207, li208, li223, li304, li608, li1520, li1824, nI_add, pk_mul, nI_clamp, nI_leI, nI_ltI, nI_eq, zn_inb, zn_gd, zn_bs, zn_isb, not_true_eq_false, not_false_eq_true, ↓reduceIte, pk_div, pk_sub, zn_rem20, zn_rem2, zn_m1, zn_eqw, zn_weq, zn_weq2, zn_wlt0, zn_wltn, zn_win, zn_wcl, zn_wadd, Nat.not_lt_zero, Nat.one_ne_zero, Nat.zero_ne_one, Nat.le_refl, Nat.zero_le, zn_sel_r, zn_sel_l, fX9_fails, e3, e5]
        exact ⟨_, rfl, rfl, rfl, rfl, hK, rfl⟩
      exact ⟨_, _, M, C, y, ex, Or.inr ⟨1, _, rfl, rfl, rfl⟩, fun _ _ => rfl, ek, y0, (fun u hu => by cases hu), ZI.gen hn hH hB hX yk gn h99 rfl rfl rfl y4 y8 y3 rfl rfl rfl⟩
  · have e3 := e2 (sr K 0 (upd (K 0) 0 (nI 0))) hK0
    have ex : fX8_fetch C M x1 = some (.inl "java/lang/IndexOutOfBoundsException", M, C) := by
      unfold fX8_fetch
      simp (disch := omega) only [li0, li1, li2, li3, li4, li5, li6, li7, li8, li9, li10, li12, li13, li14, li15, li19, li20, li31, li33, li40, li42, li44, li48, li57, li60, li99, li100, li126, li150, li176, li177, li187, li197, li207, li208, li223, li304, li608, li1520, li1824, nI_add, pk_mul, nI_clamp, nI_leI, nI_ltI, nI_eq, zn_inb, zn_gd, zn_bs, zn_isb, not_true_eq_false, not_false_eq_true, ↓reduceIte, pk_div, pk_sub, zn_rem20, zn_rem2, zn_m1, zn_eqw, zn_weq, zn_weq2, zn_wlt0, zn_wltn, zn_win, zn_wcl, zn_wadd, Nat.not_lt_zero, Nat.one_ne_zero, Nat.zero_ne_one, Nat.le_refl, Nat.zero_le, zn_sel_r, zn_sel_l, e1]
    obtain ⟨y, ek, y0, y4, y8, yk, y3⟩ : ∃ y : Int32 × Mem, fX9_fetch K x1 = some y ∧ y.2 0 0 = nI (0 + 1) ∧ y.2 0 4 = K 0 4 ∧ y.2 0 8 = K 0 8 ∧ RK (y.2 1) S ∧ y.2 3 = K 3 := by
      unfold fX9_fetch
      simp (disch := omega) only [li0, li1, li2, li3, li4, li5, li6, li7, li8, li9, li10, li12, li13, li14, li15, li19, li20, li31, li33, li40, li42, li44, li48, li57, li60, li99, li100, li126, li150, li176, li177, li187, li197, li207, li208, li223, li304, li608, li1520, li1824, nI_add, pk_mul, nI_clamp, nI_leI, nI_ltI, nI_eq, zn_inb, zn_gd, zn_bs, zn_isb, not_true_eq_false, not_false_eq_true, ↓reduceIte, pk_div, pk_sub, zn_rem20, zn_rem2, zn_m1, zn_eqw, zn_weq, zn_weq2, zn_wlt0, zn_wltn, zn_win, zn_wcl, zn_wadd, Nat.not_lt_zero, Nat.one_ne_zero, Nat.zero_ne_one, Nat.le_refl, Nat.zero_le, zn_sel_r, zn_sel_l, fX9_fails, e3]
      exact ⟨_, rfl, rfl, rfl, rfl, hK, rfl⟩
    exact ⟨_, _, M, C, y, ex, Or.inr ⟨0, _, rfl, rfl, rfl⟩, fun _ _ => rfl, ek, y0, (fun u hu => by cases hu), ZI.gen hn hH hB hX yk gn h99 rfl rfl rfl y4 y8 y3 rfl rfl rfl⟩
theorem zt_stow : St_stow ZI := by
  intro n C M K  hn h
  obtain ⟨S, T, hc, ⟨hX, hK, g, h99⟩, hH, hB⟩ := id h
  have hc12 := g.c12
  have h8 := g.o8
  have lo := g.lo
  have hw12 := g.1.2.1
  have hT : RT (ofs 2 M) S := hX.t
  have hK0 : RK ((sr K 0 (upd (K 0) 0 (nI 0))) 1) S := hK
  have gn := g.nx hn
  obtain ⟨q, r, es, er, hH', r0⟩ := ZI.save (P := (pk [33, 34, 35, 1, 2, 3, 4, 5, 6, 7, 8, 9, 10, 11, 12, 13, 14, 15, 16] M)) (K0 := (sr K 0 (upd (K 0) 0 (nI 0)))) hn ⟨hX, hK, g, h99⟩ hH (hX.of rfl rfl rfl rfl rfl rfl rfl rfl rfl rfl rfl rfl rfl rfl rfl ) rfl rfl rfl rfl
  have rt : r 0 0 = nI 0 := (r0 0 (by omega)).trans rfl
  have r8 : r 0 8 = K 0 8 := (r0 8 (by omega)).trans rfl
  have hKR : RK ((sr (sr K 0 (r 0)) 3 (r 3)) 1) S := hK
  have e4 := zr_at hX hc12 hw12
  have e5 := zk_hasWindow (K := (sr K 0 (upd (K 0) 0 (nI 0)))) hK0 (by omega)
  by_cases c1 : S 1 1 = 0
  · rw [if_pos c1] at e4 e5
    have ex : fX8_stow C M  = some (.inl "java/lang/IllegalStateException", M, C) := by
      unfold fX8_stow
      simp (disch := omega) only [li0, li1, li2, li3, li4, li5, li6, li7, li8, li9, li10, li12, li13, li14, li15, li19, li20, li31, li33, li40, li42, li44, li48, li57, li60, li99, li100, li126, li150, li176, li177, li187, li197, li207, li208, li223, li304, li608, li1520, li1824, nI_add, pk_mul, nI_clamp, nI_leI, nI_ltI, nI_eq, zn_inb, zn_gd, zn_bs, zn_isb, not_true_eq_false, not_false_eq_true, ↓reduceIte, pk_div, pk_sub, zn_rem20, zn_rem2, zn_m1, zn_eqw, zn_weq, zn_weq2, zn_wlt0, zn_wltn, zn_win, zn_wcl, zn_wadd, Nat.not_lt_zero, Nat.one_ne_zero, Nat.zero_ne_one, Nat.le_refl, Nat.zero_le, zn_sel_r, zn_sel_l, e4]
    obtain ⟨y, ek, y0, y4, y8, yk, y3⟩ : ∃ y : Int32 × Mem, fX9_stow K  = some y ∧ y.2 0 0 = nI (0 + 1) ∧ y.2 0 4 = K 0 4 ∧ y.2 0 8 = K 0 8 ∧ RK (y.2 1) S ∧ y.2 3 = K 3 := by
      unfold fX9_stow
      simp (disch := omega) only [li0, li1, li2, li3, li4, li5, li6, li7, li8, li9, li10, li12, li13, li14, li15, li19, li20, li31, li33, li40, li42, li44, li48, li57, li60, li99, li100, li126, li150, li176, li177, li187, li197, li207, li208, li223, li304, li608, li1520, li1824, nI_add, pk_mul, nI_clamp, nI_leI, nI_ltI, nI_eq, zn_inb, zn_gd, zn_bs, zn_isb, not_true_eq_false, not_false_eq_true, ↓reduceIte, pk_div, pk_sub, zn_rem20, zn_rem2, zn_m1, zn_eqw, zn_weq, zn_weq2, zn_wlt0, zn_wltn, zn_win, zn_wcl, zn_wadd, Nat.not_lt_zero, Nat.one_ne_zero, Nat.zero_ne_one, Nat.le_refl, Nat.zero_le, zn_sel_r, zn_sel_l, fX9_fails, e5]
      exact ⟨_, rfl, rfl, rfl, rfl, hK, rfl⟩
    exact ⟨_, _, M, C, y, ex, Or.inr ⟨0, _, rfl, rfl, rfl⟩, fun _ _ => rfl, ek, y0, (fun u hu => by cases hu), ZI.gen hn hH hB hX yk gn h99 rfl rfl rfl y4 y8 y3 rfl rfl rfl⟩
  · rw [if_neg c1] at e4 e5
    have hw0 : 0 < S 1 1 := by omega
    have fit := zs_sp_fit g.1 hw0
    obtain ⟨zb, eb, hzb, ezb⟩ := zx_putBack (M := ofs 1 (sr M 33 (q.1 0))) (S := S) (hX.of rfl rfl rfl rfl rfl rfl rfl rfl rfl rfl rfl rfl rfl rfl rfl ) g hw0
    have esp := zk_stowPlace (K := (sr (sr K 0 (r 0)) 3 (r 3))) (S := S) hKR g hw0
    obtain ⟨yb, ef, hyb⟩ := zk_stows (K := (sr (sr K 0 (r 0)) 3 (r 3))) (S := S) hKR g hw0 fit.1
    obtain ⟨z1, z2, ex, hx2, e33, e36, e37⟩ : ∃ z1 z2, fX8_stow C M  = some (.inr z1, z2, q.2) ∧ RX (ofs 1 z2) (zo_put S (zs_sp S)) ∧ z2 33 = q.1 0 ∧ z2 36 = M 36 ∧ z2 37 = M 37 ∧ z1 = nI (zs_way (zs_sp S)) := by
      unfold fX8_stow
      simp (disch := omega) only [li0, li1, li2, li3, li4, li5, li6, li7, li8, li9, li10, li12, li13, li14, li15, li19, li20, li31, li33, li40, li42, li44, li48, li57, li60, li99, li100, li126, li150, li176, li177, li187, li197, li207, li208, li223, li304, li608, li1520, li1824, nI_add, pk_mul, nI_clamp, nI_leI, nI_ltI, nI_eq, zn_inb, zn_gd, zn_bs, zn_isb, not_true_eq_false, not_false_eq_true, ↓reduceIte, pk_div, pk_sub, zn_rem20, zn_rem2, zn_m1, zn_eqw, zn_weq, zn_weq2, zn_wlt0, zn_wltn, zn_win, zn_wcl, zn_wadd, Nat.not_lt_zero, Nat.one_ne_zero, Nat.zero_ne_one, Nat.le_refl, Nat.zero_le, zn_sel_r, zn_sel_l, e4, es, eb, inrs, Option.map_some]
      exact ⟨_, _, rfl, hzb.of (congrFun ezb 0).symm rfl (congrFun ezb 2).symm rfl (congrFun ezb 4).symm (congrFun ezb 5).symm rfl rfl rfl (congrFun ezb 10).symm (congrFun ezb 11).symm (congrFun ezb 12).symm (congrFun ezb 13).symm (congrFun ezb 14).symm (congrFun ezb 15).symm, rfl, rfl, rfl, rfl⟩
    obtain ⟨e37, ev⟩ := e37
    obtain ⟨y, ek, y0, y4, y8, yk, y3, y1⟩ : ∃ y : Int32 × Mem, fX9_stow K  = some y ∧ y.2 0 0 = nI 0 ∧ y.2 0 4 = r 0 4 ∧ y.2 0 8 = K 0 8 ∧ RK (y.2 1) (zo_put S (zs_sp S)) ∧ y.2 3 = r 3 ∧ nI (zs_way (zs_sp S)) = y.1 := by
      unfold fX9_stow
      simp (disch := omega) only [li0, li1, li2, li3, li4, li5, li6, li7, li8, li9, li10, li12, li13, li14, li15, li19, li20, li31, li33, li40, li42, li44, li48, li57, li60, li99, li100, li126, li150, li176, li177, li187, li197, li207, li208, li223, li304, li608, li1520, li1824, nI_add, pk_mul, nI_clamp, nI_leI, nI_ltI, nI_eq, zn_inb, zn_gd, zn_bs, zn_isb, not_true_eq_false, not_false_eq_true, ↓reduceIte, pk_div, pk_sub, zn_rem20, zn_rem2, zn_m1, zn_eqw, zn_weq, zn_weq2, zn_wlt0, zn_wltn, zn_win, zn_wcl, zn_wadd, Nat.not_lt_zero, Nat.one_ne_zero, Nat.zero_ne_one, Nat.le_refl, Nat.zero_le, zn_sel_r, zn_sel_l, e5, er, esp, ef]
      exact ⟨_, rfl, rt, rfl, r8, hyb, rfl, rfl⟩
    exact ⟨_, _, z2, q.2, y, ex, Or.inl ⟨_, rfl, rfl⟩, (fun E hE => by cases hE), ek, y0, (fun u hu => by cases hu; exact ev.trans y1), ZI.gen2 hH' hB hx2 yk ((g.put hw0 fit.1 fit.2 (by omega)).mono (by omega) (by omega)) (h99) e33 e36 e37 y4 y8 y3 rfl rfl rfl⟩
theorem zt_changeLeast : St_changeLeast ZI := by
  intro n C M K x1 x2 hn h
  obtain ⟨S, T, hc, ⟨hX, hK, g, h99⟩, hH, hB⟩ := id h
  have hc12 := g.c12
  have h8 := g.o8
  have lo := g.lo
  have hw12 := g.1.2.1
  have hT : RT (ofs 2 M) S := hX.t
  have hK0 : RK ((sr K 0 (upd (K 0) 0 (nI 0))) 1) S := hK
  have gn := g.nx hn
  obtain ⟨q, r, es, er, hH', r0⟩ := ZI.save (P := (pk [33, 34, 35, 1, 2, 3, 4, 5, 6, 7, 8, 9, 10, 11, 12, 13, 14, 15, 16] M)) (K0 := (sr K 0 (upd (K 0) 0 (nI 0)))) hn ⟨hX, hK, g, h99⟩ hH (hX.of rfl rfl rfl rfl rfl rfl rfl rfl rfl rfl rfl rfl rfl rfl rfl ) rfl rfl rfl rfl
  have rt : r 0 0 = nI 0 := (r0 0 (by omega)).trans rfl
  have r8 : r 0 8 = K 0 8 := (r0 8 (by omega)).trans rfl
  have hKR : RK ((sr (sr K 0 (r 0)) 3 (r 3)) 1) S := hK
  rcases zr_kind M x1 with ⟨k, hk, rfl, e1, e2⟩ | ⟨e1, e2⟩
  · rcases zr_in (lo := 0) (hi := 99) (by omega) (by omega) (by omega) x2 with ⟨v, v0, v9, rfl, e3⟩ | ⟨e3, e4⟩
    · have m1 : M 12 k = nI (S 11 k) := hX.r11 k hk
      have m2 := (hK.2.2.2.2.2.1 k hk).2.1
      obtain ⟨z1, z2, ex, hx2, e33, e36, e37⟩ : ∃ z1 z2, fX8_changeLeast C M (nI k) (nI v) = some (.inr z1, z2, q.2) ∧ RX (ofs 1 z2) (sw S 11 (uw (S 11) k v)) ∧ z2 33 = q.1 0 ∧ z2 36 = M 36 ∧ z2 37 = M 37 ∧ z1 = nI (S 11 k) := by
        unfold fX8_changeLeast
        simp (disch := omega) only [li0, li1, li2, li3, li4, li5, li6, li7, li8, li9, li10, li12, li13, li14, li15, li19, li20, li31, li33, li40, li42, li44, li48, li57, li60, li99, li100, li126, li150, li176, li177, li187, li197, li207, li208, li223, li304, li608, li1520, li1824, nI_add, pk_mul, nI_clamp, nI_leI, nI_ltI, nI_eq, zn_inb, zn_gd, zn_bs, zn_isb, not_true_eq_false, not_false_eq_true, ↓reduceIte, pk_div, pk_sub, zn_rem20, zn_rem2, zn_m1, zn_eqw, zn_weq, zn_weq2, zn_wlt0, zn_wltn, zn_win, zn_wcl, zn_wadd, Nat.not_lt_zero, Nat.one_ne_zero, Nat.zero_ne_one, Nat.le_refl, Nat.zero_le, zn_sel_r, zn_sel_l, e1, es, m1, v9, inrs, Option.map_some]
        exact ⟨_, _, rfl, ⟨hX.1, hX.2.1, hX.r7, hX.r8, hX.r10, rn_up hX.r11 k v, hX.r12, hX.r13, hX.r15⟩, rfl, rfl, rfl, rfl⟩
      obtain ⟨e37, ev⟩ := e37
      obtain ⟨y, ek, y0, y4, y8, yk, y3, y1⟩ : ∃ y : Int32 × Mem, fX9_changeLeast K (nI k) (nI v) = some y ∧ y.2 0 0 = nI 0 ∧ y.2 0 4 = r 0 4 ∧ y.2 0 8 = K 0 8 ∧ RK (y.2 1) (sw S 11 (uw (S 11) k v)) ∧ y.2 3 = r 3 ∧ nI (S 11 k) = y.1 := by
        unfold fX9_changeLeast fX9_sets
        simp (disch := omega) only [li0, li1, li2, li3, li4, li5, li6, li7, li8, li9, li10, li12, li13, li14, li15, li19, li20, li31, li33, li40, li42, li44, li48, li57, li60, li99, li100, li126, li150, li176, li177, li187, li197, li207, li208, li223, li304, li608, li1520, li1824, nI_add, pk_mul, nI_clamp, nI_leI, nI_ltI, nI_eq, zn_inb, zn_gd, zn_bs, zn_isb, not_true_eq_false, not_false_eq_true, ↓reduceIte, pk_div, pk_sub, zn_rem20, zn_rem2, zn_m1, zn_eqw, zn_weq, zn_weq2, zn_wlt0, zn_wltn, zn_win, zn_wcl, zn_wadd, Nat.not_lt_zero, Nat.one_ne_zero, Nat.zero_ne_one, Nat.le_refl, Nat.zero_le, zn_sel_r, zn_sel_l, e2, e3, er, m2]
        exact ⟨_, rfl, rt, rfl, r8, hK.ul hc12 hk v, rfl, m2.symm⟩
      exact ⟨_, _, z2, q.2, y, ex, Or.inl ⟨_, rfl, rfl⟩, (fun E hE => by cases hE), ek, y0, (fun u hu => by cases hu; exact ev.trans y1), ZI.gen2 hH' hB hx2 yk (gn.least v9) (h99) e33 e36 e37 y4 y8 y3 rfl rfl rfl⟩
    · have q1 : ∀ {β : Type} (a b : β), (if x2 < nI 0 then a else if x2 ≤ nI 99 then b else a) = a := by
        intro β a b
        rcases e4 with e4 | e4
        · exact if_pos e4
        · by_cases z : x2 < nI 0
          · exact if_pos z
          · rw [if_neg z, if_neg (fun z2 => Int32.lt_irrefl (Int32.lt_of_le_of_lt z2 e4))]
      have ex : fX8_changeLeast C M (nI k) x2 = some (.inl "java/lang/IllegalArgumentException", M, C) := by
        unfold fX8_changeLeast
        simp (disch := omega) only [li0, li1, li2, li3, li4, li5, li6, li7, li8, li9, li10, li12, li13, li14, li15, li19, li20, li31, li33, li40, li42, li44, li48, li57, li60, li99, li100, li126, li150, li176, li177, li187, li197, li207, li208, li223, li304, li608, li1520, li1824, nI_add, pk_mul, nI_clamp, nI_leI, nI_ltI, nI_eq, zn_inb, zn_gd, zn_bs, zn_isb, not_true_eq_false, not_false_eq_true, ↓reduceIte, pk_div, pk_sub, zn_rem20, zn_rem2, zn_m1, zn_eqw, zn_weq, zn_weq2, zn_wlt0, zn_wltn, zn_win, zn_wcl, zn_wadd, Nat.not_lt_zero, Nat.one_ne_zero, Nat.zero_ne_one, Nat.le_refl, Nat.zero_le, zn_sel_r, zn_sel_l, e1, q1]
      obtain ⟨y, ek, y0, y4, y8, yk, y3⟩ : ∃ y : Int32 × Mem, fX9_changeLeast K (nI k) x2 = some y ∧ y.2 0 0 = nI (1 + 1) ∧ y.2 0 4 = K 0 4 ∧ y.2 0 8 = K 0 8 ∧ RK (y.2 1) S ∧ y.2 3 = K 3 := by
        unfold fX9_changeLeast
        simp (disch := omega) only [li0, li1, li2, li3, li4, li5, li6, li7, li8, li9, li10, li12, li13, li14, li15, li19, li20, li31, li33, li40, li42, li44, li48, li57, li60, li99, li100, li126, li150, li176, li177, li187, li197, li207, li208, li223, li304, li608, li1520, li1824, nI_add, pk_mul, nI_clamp, nI_leI, nI_ltI, nI_eq, zn_inb, zn_gd, zn_bs, zn_isb, not_true_eq_false, not_false_eq_true, ↓reduceIte, pk_div, pk_sub, zn_rem20, zn_rem2, zn_m1, zn_eqw, zn_weq, zn_weq2, zn_wlt0, zn_wltn, zn_win, zn_wcl, zn_wadd, Nat.not_lt_zero, Nat.one_ne_zero, Nat.zero_ne_one, Nat.le_refl, Nat.zero_le, zn_sel_r, zn_sel_l, fX9_fails, e2, e3]
        exact ⟨_, rfl, rfl, rfl, rfl, hK, rfl⟩
      exact ⟨_, _, M, C, y, ex, Or.inr ⟨1, _, rfl, rfl, rfl⟩, fun _ _ => rfl, ek, y0, (fun u hu => by cases hu), ZI.gen hn hH hB hX yk gn h99 rfl rfl rfl y4 y8 y3 rfl rfl rfl⟩
  · have ex : fX8_changeLeast C M x1 x2 = some (.inl "java/lang/IndexOutOfBoundsException", M, C) := by
      unfold fX8_changeLeast
      simp (disch := omega) only [li0, li1, li2, li3, li4, li5, li6, li7, li8, li9, li10, li12, li13, li14, li15, li19, li20, li31, li33, li40, li42, li44, li48, li57, li60, li99, li100, li126, li150, li176, li177, li187, li197, li207, li208, li223, li304, li608, li1520, li1824, nI_add, pk_mul, nI_clamp, nI_leI, nI_ltI, nI_eq, zn_inb, zn_gd, zn_bs, zn_isb, not_true_eq_false, not_false_eq_true, ↓reduceIte, pk_div, pk_sub, zn_rem20, zn_rem2, zn_m1, zn_eqw, zn_weq, zn_weq2, zn_wlt0, zn_wltn, zn_win, zn_wcl, zn_wadd, Nat.not_lt_zero, Nat.one_ne_zero, Nat.zero_ne_one, Nat.le_refl, Nat.zero_le, zn_sel_r, zn_sel_l, e1]
    obtain ⟨y, ek, y0, y4, y8, yk, y3⟩ : ∃ y : Int32 × Mem, fX9_changeLeast K x1 x2 = some y ∧ y.2 0 0 = nI (0 + 1) ∧ y.2 0 4 = K 0 4 ∧ y.2 0 8 = K 0 8 ∧ RK (y.2 1) S ∧ y.2 3 = K 3 := by
      unfold fX9_changeLeast
      simp (disch := omega) only [li0, li1, li2, li3, li4, li5, li6, li7, li8, li9, li10, li12, li13, li14, li15, li19, li20, li31, li33, li40, li42, li44, li48, li57, li60, li99, li100, li126, li150, li176, li177, li187, li197, li207, li208, li223, li304, li608, li1520, li1824, nI_add, pk_mul, nI_clamp, nI_leI, nI_ltI, nI_eq, zn_inb, zn_gd, zn_bs, zn_isb, not_true_eq_false, not_false_eq_true, ↓reduceIte, pk_div, pk_sub, zn_rem20, zn_rem2, zn_m1, zn_eqw, zn_weq, zn_weq2, zn_wlt0, zn_wltn, zn_win, zn_wcl, zn_wadd, Nat.not_lt_zero, Nat.one_ne_zero, Nat.zero_ne_one, Nat.le_refl, Nat.zero_le, zn_sel_r, zn_sel_l, fX9_fails, e2]
      exact ⟨_, rfl, rfl, rfl, rfl, hK, rfl⟩
    exact ⟨_, _, M, C, y, ex, Or.inr ⟨0, _, rfl, rfl, rfl⟩, fun _ _ => rfl, ek, y0, (fun u hu => by cases hu), ZI.gen hn hH hB hX yk gn h99 rfl rfl rfl y4 y8 y3 rfl rfl rfl⟩
theorem zt_changeWeight : St_changeWeight ZI := by
  intro n C M K x1 x2 hn h
  obtain ⟨S, T, hc, ⟨hX, hK, g, h99⟩, hH, hB⟩ := id h
  have hc12 := g.c12
  have h8 := g.o8
  have lo := g.lo
  have hw12 := g.1.2.1
  have hT : RT (ofs 2 M) S := hX.t
  have hK0 : RK ((sr K 0 (upd (K 0) 0 (nI 0))) 1) S := hK
  have gn := g.nx hn
  obtain ⟨q, r, es, er, hH', r0⟩ := ZI.save (P := (pk [33, 34, 35, 1, 2, 3, 4, 5, 6, 7, 8, 9, 10, 11, 12, 13, 14, 15, 16] M)) (K0 := (sr K 0 (upd (K 0) 0 (nI 0)))) hn ⟨hX, hK, g, h99⟩ hH (hX.of rfl rfl rfl rfl rfl rfl rfl rfl rfl rfl rfl rfl rfl rfl rfl ) rfl rfl rfl rfl
  have rt : r 0 0 = nI 0 := (r0 0 (by omega)).trans rfl
  have r8 : r 0 8 = K 0 8 := (r0 8 (by omega)).trans rfl
  have hKR : RK ((sr (sr K 0 (r 0)) 3 (r 3)) 1) S := hK
  rcases zr_kind M x1 with ⟨k, hk, rfl, e1, e2⟩ | ⟨e1, e2⟩
  · rcases zr_in (lo := 1) (hi := 9) (by omega) (by omega) (by omega) x2 with ⟨v, v0, v9, rfl, e3⟩ | ⟨e3, e4⟩
    · have m1 : M 11 k = nI (S 10 k) := hX.r10 k hk
      have m2 := (hK.2.2.2.2.2.1 k hk).1
      have v1 : ¬ v < 1 := by omega
      have e5 := zx_wouldBeTooHeavy hX g hk v9
      have e6 := zk_canWeigh (K := (sr K 0 (upd (K 0) 0 (nI 0)))) hK0 g hk v9
      cases qh : zs_any (zs_heavier S k v) (S 1 0) 0
      · rw [qh, cond_false] at e5 e6
        obtain ⟨z1, z2, ex, hx2, e33, e36, e37⟩ : ∃ z1 z2, fX8_changeWeight C M (nI k) (nI v) = some (.inr z1, z2, q.2) ∧ RX (ofs 1 z2) (sw S 10 (uw (S 10) k v)) ∧ z2 33 = q.1 0 ∧ z2 36 = M 36 ∧ z2 37 = M 37 ∧ z1 = nI (S 10 k) := by
          unfold fX8_changeWeight
          simp (disch := omega) only [li0, li1, li2, li3, li4, li5, li6, li7, li8, li9, li10, li12, li13, li14, li15, li19, li20, li31, li33, li40, li42, li44, li48, li57, li60, li99, li100, li126, li150, li176, li177, li187, li197, li207, li208, li223, li304, li608, li1520, li1824, nI_add, pk_mul, nI_clamp, nI_leI, nI_ltI, nI_eq, zn_inb, zn_gd, zn_bs, zn_isb, not_true_eq_false, not_false_eq_true, ↓reduceIte, pk_div, pk_sub, zn_rem20, zn_rem2, zn_m1, zn_eqw, zn_weq, zn_weq2, zn_wlt0, zn_wltn, zn_win, zn_wcl, zn_wadd, Nat.not_lt_zero, Nat.one_ne_zero, Nat.zero_ne_one, Nat.le_refl, Nat.zero_le, zn_sel_r, zn_sel_l, e1, es, m1, v1, v9, e5, inrs, Option.map_some]
          exact ⟨_, _, rfl, ⟨hX.1, hX.2.1, hX.r7, hX.r8, rn_up hX.r10 k v, hX.r11, hX.r12, hX.r13, hX.r15⟩, rfl, rfl, rfl, rfl⟩
        obtain ⟨e37, ev⟩ := e37
        obtain ⟨y, ek, y0, y4, y8, yk, y3, y1⟩ : ∃ y : Int32 × Mem, fX9_changeWeight K (nI k) (nI v) = some y ∧ y.2 0 0 = nI 0 ∧ y.2 0 4 = r 0 4 ∧ y.2 0 8 = K 0 8 ∧ RK (y.2 1) (sw S 10 (uw (S 10) k v)) ∧ y.2 3 = r 3 ∧ nI (S 10 k) = y.1 := by
          unfold fX9_changeWeight fX9_sets
          simp (disch := omega) only [li0, li1, li2, li3, li4, li5, li6, li7, li8, li9, li10, li12, li13, li14, li15, li19, li20, li31, li33, li40, li42, li44, li48, li57, li60, li99, li100, li126, li150, li176, li177, li187, li197, li207, li208, li223, li304, li608, li1520, li1824, nI_add, pk_mul, nI_clamp, nI_leI, nI_ltI, nI_eq, zn_inb, zn_gd, zn_bs, zn_isb, not_true_eq_false, not_false_eq_true, ↓reduceIte, pk_div, pk_sub, zn_rem20, zn_rem2, zn_m1, zn_eqw, zn_weq, zn_weq2, zn_wlt0, zn_wltn, zn_win, zn_wcl, zn_wadd, Nat.not_lt_zero, Nat.one_ne_zero, Nat.zero_ne_one, Nat.le_refl, Nat.zero_le, zn_sel_r, zn_sel_l, e2, e3, e6, er, m2]
          exact ⟨_, rfl, rt, rfl, r8, hK.uwt hc12 hk v, rfl, m2.symm⟩
        exact ⟨_, _, z2, q.2, y, ex, Or.inl ⟨_, rfl, rfl⟩, (fun E hE => by cases hE), ek, y0, (fun u hu => by cases hu; exact ev.trans y1), ZI.gen2 hH' hB hx2 yk (gn.weight hk v0 v9 qh) (h99) e33 e36 e37 y4 y8 y3 rfl rfl rfl⟩
      · rw [qh, cond_true] at e5 e6
        have ex : fX8_changeWeight C M (nI k) (nI v) = some (.inl "java/lang/IllegalStateException", M, C) := by
          unfold fX8_changeWeight
          simp (disch := omega) only [li0, li1, li2, li3, li4, li5, li6, li7, li8, li9, li10, li12, li13, li14, li15, li19, li20, li31, li33, li40, li42, li44, li48, li57, li60, li99, li100, li126, li150, li176, li177, li187, li197, li207, li208, li223, li304, li608, li1520, li1824, nI_add, pk_mul, nI_clamp, nI_leI, nI_ltI, nI_eq, zn_inb, zn_gd, zn_bs, zn_isb, not_true_eq_false, not_false_eq_true, ↓reduceIte, pk_div, pk_sub, zn_rem20, zn_rem2, zn_m1, zn_eqw, zn_weq, zn_weq2, zn_wlt0, zn_wltn, zn_win, zn_wcl, zn_wadd, Nat.not_lt_zero, Nat.one_ne_zero, Nat.zero_ne_one, Nat.le_refl, Nat.zero_le, zn_sel_r, zn_sel_l, e1, v1, v9, e5]
        obtain ⟨y, ek, y0, y4, y8, yk, y3⟩ : ∃ y : Int32 × Mem, fX9_changeWeight K (nI k) (nI v) = some y ∧ y.2 0 0 = nI (2 + 1) ∧ y.2 0 4 = K 0 4 ∧ y.2 0 8 = K 0 8 ∧ RK (y.2 1) S ∧ y.2 3 = K 3 := by
          unfold fX9_changeWeight
          simp (disch := omega) only [li0, li1, li2, li3, li4, li5, li6, li7, li8, li9, li10, li12, li13, li14, li15, li19, li20, li31, li33, li40, li42, li44, li48, li57, li60, li99, li100, li126, li150, li176, li177, li187, li197, li207, li208, li223, li304, li608, li1520, li1824, nI_add, pk_mul, nI_clamp, nI_leI, nI_ltI, nI_eq, zn_inb, zn_gd, zn_bs, zn_isb, not_true_eq_false, not_false_eq_true, ↓reduceIte, pk_div, pk_sub, zn_rem20, zn_rem2, zn_m1, zn_eqw, zn_weq, zn_weq2, zn_wlt0, zn_wltn, zn_win, zn_wcl, zn_wadd, Nat.not_lt_zero, Nat.one_ne_zero, Nat.zero_ne_one, Nat.le_refl, Nat.zero_le, zn_sel_r, zn_sel_l, fX9_fails, e2, e3, e6]
          exact ⟨_, rfl, rfl, rfl, rfl, hK, rfl⟩
        exact ⟨_, _, M, C, y, ex, Or.inr ⟨2, _, rfl, rfl, rfl⟩, fun _ _ => rfl, ek, y0, (fun u hu => by cases hu), ZI.gen hn hH hB hX yk gn h99 rfl rfl rfl y4 y8 y3 rfl rfl rfl⟩
    · have q1 : ∀ {β : Type} (a b : β), (if x2 < nI 1 then a else if x2 ≤ nI 9 then b else a) = a := by
        intro β a b
        rcases e4 with e4 | e4
        · exact if_pos e4
        · by_cases z : x2 < nI 1
          · exact if_pos z
          · rw [if_neg z, if_neg (fun z2 => Int32.lt_irrefl (Int32.lt_of_le_of_lt z2 e4))]
      have ex : fX8_changeWeight C M (nI k) x2 = some (.inl "java/lang/IllegalArgumentException", M, C) := by
        unfold fX8_changeWeight
        simp (disch := omega) only [li0, li1, li2, li3, li4, li5, li6, li7, li8, li9, li10, li12, li13, li14, li15, li19, li20, li31, li33, li40, li42, li44, li48, li57, li60, li99, li100, li126, li150, li176, li177, li187, li197, li207, li208, li223, li304, li608, li1520, li1824, nI_add, pk_mul, nI_clamp, nI_leI, nI_ltI, nI_eq, zn_inb, zn_gd, zn_bs, zn_isb, not_true_eq_false, not_false_eq_true, ↓reduceIte, pk_div, pk_sub, zn_rem20, zn_rem2, zn_m1, zn_eqw, zn_weq, zn_weq2, zn_wlt0, zn_wltn, zn_win, zn_wcl, zn_wadd, Nat.not_lt_zero, Nat.one_ne_zero, Nat.zero_ne_one, Nat.le_refl, Nat.zero_le, zn_sel_r, zn_sel_l, e1, q1]
      obtain ⟨y, ek, y0, y4, y8, yk, y3⟩ : ∃ y : Int32 × Mem, fX9_changeWeight K (nI k) x2 = some y ∧ y.2 0 0 = nI (1 + 1) ∧ y.2 0 4 = K 0 4 ∧ y.2 0 8 = K 0 8 ∧ RK (y.2 1) S ∧ y.2 3 = K 3 := by
        unfold fX9_changeWeight
        simp (disch := omega) only [li0, li1, li2, li3, li4, li5, li6, li7, li8, li9, li10, li12, li13, li14, li15, li19, li20, li31, li33, li40, li42, li44, li48, li57, li60, li99, li100, li126, li150, li176, li177, li187, li197, li207, li208, li223, li304, li608, li1520, li1824, nI_add, pk_mul, nI_clamp, nI_leI, nI_ltI, nI_eq, zn_inb, zn_gd, zn_bs, zn_isb, not_true_eq_false, not_false_eq_true, ↓reduceIte, pk_div, pk_sub, zn_rem20, zn_rem2, zn_m1, zn_eqw, zn_weq, zn_weq2, zn_wlt0, zn_wltn, zn_win, zn_wcl, zn_wadd, Nat.not_lt_zero, Nat.one_ne_zero, Nat.zero_ne_one, Nat.le_refl, Nat.zero_le, zn_sel_r, zn_sel_l, fX9_fails, e2, e3]
        exact ⟨_, rfl, rfl, rfl, rfl, hK, rfl⟩
      exact ⟨_, _, M, C, y, ex, Or.inr ⟨1, _, rfl, rfl, rfl⟩, fun _ _ => rfl, ek, y0, (fun u hu => by cases hu), ZI.gen hn hH hB hX yk gn h99 rfl rfl rfl y4 y8 y3 rfl rfl rfl⟩
  · have ex : fX8_changeWeight C M x1 x2 = some (.inl "java/lang/IndexOutOfBoundsException", M, C) := by
      unfold fX8_changeWeight
      simp (disch := omega) only [li0, li1, li2, li3, li4, li5, li6, li7, li8, li9, li10, li12, li13, li14, li15, li19, li20, li31, li33, li40, li42, li44, li48, li57, li60, li99, li100, li126, li150, li176, li177, li187, li197, li207, li208, li223, li304, li608, li1520, li1824, nI_add, pk_mul, nI_clamp, nI_leI, nI_ltI, nI_eq, zn_inb, zn_gd, zn_bs, zn_isb, not_true_eq_false, not_false_eq_true, ↓reduceIte, pk_div, pk_sub, zn_rem20, zn_rem2, zn_m1, zn_eqw, zn_weq, zn_weq2, zn_wlt0, zn_wltn, zn_win, zn_wcl, zn_wadd, Nat.not_lt_zero, Nat.one_ne_zero, Nat.zero_ne_one, Nat.le_refl, Nat.zero_le, zn_sel_r, zn_sel_l, e1]
    obtain ⟨y, ek, y0, y4, y8, yk, y3⟩ : ∃ y : Int32 × Mem, fX9_changeWeight K x1 x2 = some y ∧ y.2 0 0 = nI (0 + 1) ∧ y.2 0 4 = K 0 4 ∧ y.2 0 8 = K 0 8 ∧ RK (y.2 1) S ∧ y.2 3 = K 3 := by
      unfold fX9_changeWeight
      simp (disch := omega) only [li0, li1, li2, li3, li4, li5, li6, li7, li8, li9, li10, li12, li13, li14, li15, li19, li20, li31, li33, li40, li42, li44, li48, li57, li60, li99, li100, li126, li150, li176, li177, li187, li197, li207, li208, li223, li304, li608, li1520, li1824, nI_add, pk_mul, nI_clamp, nI_leI, nI_ltI, nI_eq, zn_inb, zn_gd, zn_bs, zn_isb, not_true_eq_false, not_false_eq_true, ↓reduceIte, pk_div, pk_sub, zn_rem20, zn_rem2, zn_m1, zn_eqw, zn_weq, zn_weq2, zn_wlt0, zn_wltn, zn_win, zn_wcl, zn_wadd, Nat.not_lt_zero, Nat.one_ne_zero, Nat.zero_ne_one, Nat.le_refl, Nat.zero_le, zn_sel_r, zn_sel_l, fX9_fails, e2]
      exact ⟨_, rfl, rfl, rfl, rfl, hK, rfl⟩
    exact ⟨_, _, M, C, y, ex, Or.inr ⟨0, _, rfl, rfl, rfl⟩, fun _ _ => rfl, ek, y0, (fun u hu => by cases hu), ZI.gen hn hH hB hX yk gn h99 rfl rfl rfl y4 y8 y3 rfl rfl rfl⟩
theorem zt_cancel : St_cancel ZI := by
  intro n C M K x1 hn h
  obtain ⟨S, T, hc, ⟨hX, hK, g, h99⟩, hH, hB⟩ := id h
  have hc12 := g.c12
  have h8 := g.o8
  have lo := g.lo
  have hw12 := g.1.2.1
  have hT : RT (ofs 2 M) S := hX.t
  have hK0 : RK ((sr K 0 (upd (K 0) 0 (nI 0))) 1) S := hK
  have gn := g.nx hn
  obtain ⟨q, r, es, er, hH', r0⟩ := ZI.save (P := (pk [33, 34, 35, 1, 2, 3, 4, 5, 6, 7, 8, 9, 10, 11, 12, 13, 14, 15, 16] M)) (K0 := (sr K 0 (upd (K 0) 0 (nI 0)))) hn ⟨hX, hK, g, h99⟩ hH (hX.of rfl rfl rfl rfl rfl rfl rfl rfl rfl rfl rfl rfl rfl rfl rfl ) rfl rfl rfl rfl
  have rt : r 0 0 = nI 0 := (r0 0 (by omega)).trans rfl
  have r8 : r 0 8 = K 0 8 := (r0 8 (by omega)).trans rfl
  have hKR : RK ((sr (sr K 0 (r 0)) 3 (r 3)) 1) S := hK
  rcases zr_order hX h8 x1 with ⟨f, hf, rfl, e1, e2⟩ | ⟨e1, e2⟩
  · have e3 := e2 (sr K 0 (upd (K 0) 0 (nI 0))) hK0
    have e4 := zx_sumG (O := ofs 15 (sr M 33 (q.1 0))) (S := S) hX.r15 (r := f) (by omega)
    obtain ⟨zb, eb, hz0, hz1⟩ := zx_remove (O := ofs 15 (sr M 33 (q.1 0))) (S := S) hX.2.1.2.2.2.2.2.2 hX.r15 h8 hf
    have e5 := zk_wantedMany (K := (sr (sr K 0 (r 0)) 3 (r 3))) (S := S) hKR g hf
    obtain ⟨yb, ef, hyb⟩ := zk_drops (K := (sr (sr K 0 (r 0)) 3 (r 3))) (s0 := S) hKR hc12 h8 hf
    obtain ⟨z1, z2, ex, hx2, e33, e36, e37⟩ : ∃ z1 z2, fX8_cancel C M (nI f) = some (.inr z1, z2, q.2) ∧ RX (ofs 1 z2) (zo_drop S f) ∧ z2 33 = q.1 0 ∧ z2 36 = M 36 ∧ z2 37 = M 37 ∧ z1 = nI (zs_wm S f) := by
      unfold fX8_cancel
      simp (disch := omega) only [li0, li1, li2, li3, li4, li5, li6, li7, li8, li9, li10, li12, li13, li14, li15, li19, li20, li31, li33, li40, li42, li44, li48, li57, li60, li99, li100, li126, li150, li176, li177, li187, li197, li207, li208, li223, li304, li608, li1520, li1824, nI_add, pk_mul, nI_clamp, nI_leI, nI_ltI, nI_eq, zn_inb, zn_gd, zn_bs, zn_isb, not_true_eq_false, not_false_eq_true, ↓reduceIte, pk_div, pk_sub, zn_rem20, zn_rem2, zn_m1, zn_eqw, zn_weq, zn_weq2, zn_wlt0, zn_wltn, zn_win, zn_wcl, zn_wadd, Nat.not_lt_zero, Nat.one_ne_zero, Nat.zero_ne_one, Nat.le_refl, Nat.zero_le, zn_sel_r, zn_sel_l, e1, es, e4, eb, inrs, Option.map_some]
      exact ⟨_, _, rfl, ⟨hX.1, ⟨hX.2.1.1, hX.2.1.2.1, hX.2.1.2.2.1, hX.2.1.2.2.2.1, hX.2.1.2.2.2.2.1, hX.2.1.2.2.2.2.2.1, hz0⟩, hX.r7, hX.r8, hX.r10, hX.r11, hX.r12, hX.r13, hz1⟩, rfl, rfl, rfl, rfl⟩
    obtain ⟨e37, ev⟩ := e37
    obtain ⟨y, ek, y0, y4, y8, yk, y3, y1⟩ : ∃ y : Int32 × Mem, fX9_cancel K (nI f) = some y ∧ y.2 0 0 = nI 0 ∧ y.2 0 4 = r 0 4 ∧ y.2 0 8 = K 0 8 ∧ RK (y.2 1) (zo_drop S f) ∧ y.2 3 = r 3 ∧ nI (zs_wm S f) = y.1 := by
      unfold fX9_cancel
      simp (disch := omega) only [li0, li1, li2, li3, li4, li5, li6, li7, li8, li9, li10, li12, li13, li14, li15, li19, li20, li31, li33, li40, li42, li44, li48, li57, li60, li99, li100, li126, li150, li176, li177, li187, li197, li207, li208, li223, li304, li608, li1520, li1824, nI_add, pk_mul, nI_clamp, nI_leI, nI_ltI, nI_eq, zn_inb, zn_gd, zn_bs, zn_isb, not_true_eq_false, not_false_eq_true, ↓reduceIte, pk_div, pk_sub, zn_rem20, zn_rem2, zn_m1, zn_eqw, zn_weq, zn_weq2, zn_wlt0, zn_wltn, zn_win, zn_wcl, zn_wadd, Nat.not_lt_zero, Nat.one_ne_zero, Nat.zero_ne_one, Nat.le_refl, Nat.zero_le, zn_sel_r, zn_sel_l, e3, er, e5, ef]
      exact ⟨_, rfl, rt, rfl, r8, hyb, rfl, rfl⟩
    exact ⟨_, _, z2, q.2, y, ex, Or.inl ⟨_, rfl, rfl⟩, (fun E hE => by cases hE), ek, y0, (fun u hu => by cases hu; exact ev.trans y1), ZI.gen2 hH' hB hx2 yk (gn.drop h99 hf) (h99) e33 e36 e37 y4 y8 y3 rfl rfl rfl⟩
  · have e3 := e2 (sr K 0 (upd (K 0) 0 (nI 0))) hK0
    have ex : fX8_cancel C M x1 = some (.inl "java/lang/IndexOutOfBoundsException", M, C) := by
      unfold fX8_cancel
      simp (disch := omega) only [li0, li1, li2, li3, li4, li5, li6, li7, li8, li9, li10, li12, li13, li14, li15, li19, li20, li31, li33, li40, li42, li44, li48, li57, li60, li99, li100, li126, li150, li176, li177, li187, li197, li207, li208, li223, li304, li608, li1520, li1824, nI_add, pk_mul, nI_clamp, nI_leI, nI_ltI, nI_eq, zn_inb, zn_gd, zn_bs, zn_isb, not_true_eq_false, not_false_eq_true, ↓reduceIte, pk_div, pk_sub, zn_rem20, zn_rem2, zn_m1, zn_eqw, zn_weq, zn_weq2, zn_wlt0, zn_wltn, zn_win, zn_wcl, zn_wadd, Nat.not_lt_zero, Nat.one_ne_zero, Nat.zero_ne_one, Nat.le_refl, Nat.zero_le, zn_sel_r, zn_sel_l, e1]
    obtain ⟨y, ek, y0, y4, y8, yk, y3⟩ : ∃ y : Int32 × Mem, fX9_cancel K x1 = some y ∧ y.2 0 0 = nI (0 + 1) ∧ y.2 0 4 = K 0 4 ∧ y.2 0 8 = K 0 8 ∧ RK (y.2 1) S ∧ y.2 3 = K 3 := by
      unfold fX9_cancel
      simp (disch := omega) only [li0, li1, li2, li3, li4, li5, li6, li7, li8, li9, li10, li12, li13, li14, li15, li19, li20, li31, li33, li40, li42, li44, li48, li57, li60, li99, li100, li126, li150, li176, li177, li187, li197, li207, li208, li223, li304, li608, li1520, li1824, nI_add, pk_mul, nI_clamp, nI_leI, nI_ltI, nI_eq, zn_inb, zn_gd, zn_bs, zn_isb, not_true_eq_false, not_false_eq_true, ↓reduceIte, pk_div, pk_sub, zn_rem20, zn_rem2, zn_m1, zn_eqw, zn_weq, zn_weq2, zn_wlt0, zn_wltn, zn_win, zn_wcl, zn_wadd, Nat.not_lt_zero, Nat.one_ne_zero, Nat.zero_ne_one, Nat.le_refl, Nat.zero_le, zn_sel_r, zn_sel_l, fX9_fails, e3]
      exact ⟨_, rfl, rfl, rfl, rfl, hK, rfl⟩
    exact ⟨_, _, M, C, y, ex, Or.inr ⟨0, _, rfl, rfl, rfl⟩, fun _ _ => rfl, ek, y0, (fun u hu => by cases hu), ZI.gen hn hH hB hX yk gn h99 rfl rfl rfl y4 y8 y3 rfl rfl rfl⟩
