set_option maxHeartbeats 400000
/-! what holds after n calls; the ways in which a call ends -/
def ZS (n : Nat) (M1 : Mem) (k1 : Nat → Int32) (S : SM) : Prop := RX M1 S ∧ RK k1 S ∧ GX (192 * n) S ∧ S 99 0 = 0
def ZH (n : Nat) (C : Nat → Option Mem) (m33 : Nat → Int32) (k04 : Int32) (k3 k4 k5 : Nat → Int32) (T : Nat → SM) (hc : Nat) : Prop := m33 0 = nI hc ∧ k04 = nI hc ∧ hc ≤ 6 ∧ (∀ i, i < hc → ∃ N, C i = some N ∧ ZS n N (fun j => k3 (304 * i + j)) (T i)) ∧ (∀ i, i < 2 → (C (6 + i) = none ∧ k5 i = nI 0) ∨ (∃ N, C (6 + i) = some N ∧ k5 i = nI 1 ∧ ZS n N (fun j => k4 (304 * i + j)) (T (6 + i))))
def ZB (m36 m37 : Nat → Int32) (k08 : Int32) (k6 : Nat → Int32) : Prop := ∃ len, len ≤ 60 ∧ m36 0 = nI len ∧ k08 = nI len ∧ ∀ i, i < len → ∃ c, 33 ≤ c ∧ c ≤ 126 ∧ m37 i = nI c ∧ k6 i = nI c
def ZI (n : Nat) (C : Nat → Option Mem) (M K : Mem) : Prop := ∃ (S : SM) (T : Nat → SM) (hc : Nat), ZS n (ofs 1 M) (K 1) S ∧ ZH n C (M 33) (K 0 4) (K 3) (K 4) (K 5) T hc ∧ ZB (M 36) (M 37) (K 0 8) (K 6)
theorem ZS.up {n : Nat} {M1 : Mem} {k1 : Nat → Int32} {S : SM} (h : ZS n M1 k1 S) (hn : n < 512) : ZS (n + 1) M1 k1 S := ⟨h.1, h.2.1, h.2.2.1.mono (by omega) (by omega), h.2.2.2⟩
theorem ZH.up {n : Nat} {C : Nat → Option Mem} {m33 : Nat → Int32} {k04 : Int32} {k3 k4 k5 : Nat → Int32} {T : Nat → SM} {hc : Nat} (h : ZH n C m33 k04 k3 k4 k5 T hc) (hn : n < 512) : ZH (n + 1) C m33 k04 k3 k4 k5 T hc := by
  obtain ⟨a1, a2, a3, a4, a5⟩ := h
  refine ⟨a1, a2, a3, fun i hi => ?_, fun i hi => ?_⟩
  · obtain ⟨N, b1, b2⟩ := a4 i hi
    exact ⟨N, b1, b2.up hn⟩
  · rcases a5 i hi with b | ⟨N, b1, b2, b3⟩
    · exact Or.inl b
    · exact Or.inr ⟨N, b1, b2, b3.up hn⟩
section
variable {n : Nat} {C : Nat → Option Mem} {M K : Mem} {S : SM} {u : Nat}
theorem ZI.up (h : ZI n C M K) (hn : n < 512) : ZI (n + 1) C M K := by
  obtain ⟨S, T, hc, a, b, c⟩ := h
  exact ⟨S, T, hc, a.up hn, b.up hn, c⟩
/-- only what the reference has thrown, and its place in the buffer, are other -/
theorem ZI.thr (h : ZI n C M K) (hn : n < 512) {y : Nat → Int32} (y4 : y 4 = K 0 4) (y8 : y 8 = K 0 8) : ZI (n + 1) C M (sr K 0 y) := by
  obtain ⟨S, T, hc, a, b, c⟩ := h
  refine ⟨S, T, hc, a.up hn, ?_, ?_⟩
  · show ZH (n + 1) C (M 33) (y 4) (K 3) (K 4) (K 5) T hc
    rw [y4]
    exact b.up hn
  · show ZB (M 36) (M 37) (y 8) (K 6)
    rw [y8]
    exact c
theorem zf_ok {l : List String} (h : ZI n C M K) (hn : n < 512) {fx : Option (String ⊕ Int32)} {fk : Option (Int32 × Mem)} {v : Int32} {y : Int32 × Mem} (ex : fx = some (.inr v)) (ek : fk = some y) (y0 : y.2 0 0 = nI 0) (y4 : y.2 0 4 = K 0 4) (y8 : y.2 0 8 = K 0 8) (y1 : v = y.1) : ∃ (r : String ⊕ Int32) (kk : Int32) (y : Int32 × Mem), fx = some r ∧ Ans l r kk ∧ fk = some y ∧ (sr K 0 (y.2 0)) 0 0 = kk ∧ (∀ u, r = .inr u → u = y.1) ∧ ZI (n + 1) C M (sr K 0 (y.2 0)) :=
  ⟨_, nI 0, y, ex, Or.inl ⟨v, rfl, rfl⟩, ek, y0, fun u hu => by cases hu; exact y1, h.thr hn y4 y8⟩
theorem zf_no {l : List String} (h : ZI n C M K) (hn : n < 512) {fx : Option (String ⊕ Int32)} {fk : Option (Int32 × Mem)} {E : String} {i : Nat} {y : Int32 × Mem} (hl : l[i]? = some E) (ex : fx = some (.inl E)) (ek : fk = some y) (y0 : y.2 0 0 = nI (i + 1)) (y4 : y.2 0 4 = K 0 4) (y8 : y.2 0 8 = K 0 8) : ∃ (r : String ⊕ Int32) (kk : Int32) (y : Int32 × Mem), fx = some r ∧ Ans l r kk ∧ fk = some y ∧ (sr K 0 (y.2 0)) 0 0 = kk ∧ (∀ u, r = .inr u → u = y.1) ∧ ZI (n + 1) C M (sr K 0 (y.2 0)) :=
  ⟨_, nI (i + 1), y, ex, Or.inr ⟨i, E, hl, rfl, rfl⟩, ek, y0, fun u hu => (by cases hu), h.thr hn y4 y8⟩
theorem zf_nul (h : ZI n C M K) (hn : n < 512) {fx : Option Int32} {fk : Option (Int32 × Mem)} {v : Int32} {y : Int32 × Mem} (ex : fx = some v) (ek : fk = some y) (y4 : y.2 0 4 = K 0 4) (y8 : y.2 0 8 = K 0 8) (y1 : v = y.1) : ∃ (z : Int32) (y : Int32 × Mem), fx = some z ∧ fk = some y ∧ (z = y.1) ∧ ZI (n + 1) C M (sr K 0 (y.2 0)) := ⟨v, y, ex, ek, y1, h.thr hn y4 y8⟩
/-! arguments in and out of range -/
theorem zr_in {lo hi : Nat} (hlo : lo < 2 ^ 30) (hhi : hi < 2 ^ 30) (hl : lo ≤ hi) (a : Int32) : (∃ j, lo ≤ j ∧ j ≤ hi ∧ a = nI j ∧ fX9_in a (nI lo) (nI hi) = some (nI 1)) ∨ (fX9_in a (nI lo) (nI hi) = some (nI 0) ∧ (a < nI lo ∨ nI hi < a)) := by
  have e0 : isb 0 = true := rfl
  unfold fX9_in
  by_cases c : a < nI lo
  · right
    rw [if_pos c]
    exact ⟨rfl, Or.inl c⟩
  · by_cases c2 : nI hi < a
    · right
      rw [if_neg c, if_pos c2]
      exact ⟨rfl, Or.inr c2⟩
    · left
      have h0 : ¬ a < 0 := fun q => c (Int32.lt_of_lt_of_le q (nI_pos' (by omega)))
      obtain ⟨j, hj, rfl⟩ := nI_of h0
      rw [nI_ltI (by omega) (by omega)] at c c2
      refine ⟨j, by omega, by omega, rfl, ?_⟩
      rw [if_neg (by rw [nI_ltI (by omega) (by omega)]; exact c), if_neg (by rw [nI_ltI (by omega) (by omega)]; exact c2)]
      rfl
theorem zr_inw {c : Nat} (hc : c < 2 ^ 30) (a : Int32) : (∃ j, j < c ∧ a = nI j ∧ fX9_in a (nI 0) (wI c) = some (nI 1)) ∨ (fX9_in a (nI 0) (wI c) = some (nI 0) ∧ (a < nI 0 ∨ nI c ≤ a)) := by
  rcases Nat.eq_zero_or_pos c with rfl | hp
  · right
    by_cases q : a < nI 0
    · unfold fX9_in
      rw [if_pos q]
      exact ⟨rfl, Or.inl q⟩
    · obtain ⟨j, hj, rfl⟩ := nI_of (x := a) q
      have q2 : wI 0 < nI j := by
        refine Int32.lt_iff_toInt_lt.mpr ?_
        rw [nI_toInt hj, show (wI 0).toInt = -1 by decide]
        omega
      unfold fX9_in
      rw [if_neg q, if_pos q2]
      exact ⟨rfl, Or.inr (nI_le (Nat.zero_le _) hj)⟩
  · rw [wI_p hp]
    rcases zr_in (lo := 0) (hi := c - 1) (by omega) (by omega) (by omega) a with ⟨j, h1, h2, h3, h4⟩ | ⟨h1, h2⟩
    · exact Or.inl ⟨j, by omega, h3, h4⟩
    · refine Or.inr ⟨h1, ?_⟩
      rcases h2 with h2 | h2
      · exact Or.inl h2
      · right
        have h0 : ¬ a < 0 := fun q => Int32.lt_irrefl (Int32.lt_trans (Int32.lt_trans q (Int32.lt_of_le_of_lt (nI_pos' (n := c - 1) (by omega)) h2)) q |> fun _ => Int32.lt_of_lt_of_le q (Int32.le_of_lt (Int32.lt_of_le_of_lt (nI_pos' (n := c - 1) (by omega)) h2)))
        obtain ⟨j, hj, rfl⟩ := nI_of h0
        rw [nI_ltI (by omega) (by omega)] at h2
        exact nI_le (by omega) hj
theorem zr_rng {c : Nat} (hc : c < 2 ^ 30) {a : Int32} (h : a < nI 0 ∨ nI c ≤ a) {β : Type} {x y z : β} : (if a < 0 then x else if a < nI c then y else x) = x := by
  rcases h with h | h
  · exact if_pos h
  · by_cases q : a < 0
    · exact if_pos q
    · rw [if_neg q, if_neg (fun r => Int32.lt_irrefl (Int32.lt_of_lt_of_le r h))]
theorem zr_shelf (hX : RX (ofs 1 M) S) (hc : S 1 0 ≤ 12) (a : Int32) : (∃ f, f < S 1 0 ∧ a = nI f ∧ fX8_requireShelf M a = some (.inr ()) ∧ (∀ K' : Mem, RK (K' 1) S → fX9_isShelf K' a = some (nI 1))) ∨ (fX8_requireShelf M a = some (.inl "java/lang/IndexOutOfBoundsException") ∧ (∀ K' : Mem, RK (K' 1) S → fX9_isShelf K' a = some (nI 0))) := by
  have e1 : M 2 0 = nI (S 1 0) := hX.c
  have w : nI (S 1 0) - nI 1 = wI (S 1 0) := rfl
  rcases zr_inw (c := S 1 0) (by omega) a with ⟨f, hf, rfl, e⟩ | ⟨e, h⟩
  · left
    refine ⟨f, hf, rfl, ?_, fun K' hK => ?_⟩
    · unfold fX8_requireShelf
      rw [if_neg (nI_pos (by omega)), e1, if_pos (nI_lt hf (by omega))]
    · unfold fX9_isShelf
      rw [show inb (0 : Int32) 304 = true from by decide, zn_gd, show (0 : Int32).toNatClampNeg = 0 from by decide, hK.1, show (1 : Int32) = nI 1 from rfl, show (0 : Int32) = nI 0 from rfl, w, e]
      rfl
  · right
    refine ⟨?_, fun K' hK => ?_⟩
    · unfold fX8_requireShelf fX8_requireShelf_B18
      rw [e1]
      exact zr_rng (z := some (.inr ())) (by omega) h
    · unfold fX9_isShelf
      rw [show inb (0 : Int32) 304 = true from by decide, zn_gd, show (0 : Int32).toNatClampNeg = 0 from by decide, hK.1, show (1 : Int32) = nI 1 from rfl, show (0 : Int32) = nI 0 from rfl, w, e]
      rfl
theorem zr_order (hX : RX (ofs 1 M) S) (hc : S 14 0 ≤ 8) (a : Int32) : (∃ f, f < S 14 0 ∧ a = nI f ∧ fX8_requireOrder M a = some (.inr ()) ∧ (∀ K' : Mem, RK (K' 1) S → fX9_isOrder K' a = some (nI 1))) ∨ (fX8_requireOrder M a = some (.inl "java/lang/IndexOutOfBoundsException") ∧ (∀ K' : Mem, RK (K' 1) S → fX9_isOrder K' a = some (nI 0))) := by
  have e1 : M 15 0 = nI (S 14 0) := hX.2.1.2.2.2.2.2.2
  have w : nI (S 14 0) - nI 1 = wI (S 14 0) := rfl
  rcases zr_inw (c := S 14 0) (by omega) a with ⟨f, hf, rfl, e⟩ | ⟨e, h⟩
  · left
    refine ⟨f, hf, rfl, ?_, fun K' hK => ?_⟩
    · unfold fX8_requireOrder
      rw [if_neg (nI_pos (by omega)), e1, if_pos (nI_lt hf (by omega))]
    · unfold fX9_isOrder
      rw [show inb (8 : Int32) 304 = true from by decide, zn_gd, show (8 : Int32).toNatClampNeg = 8 from by decide, hK.2.2.2.2.1.2.2.2.2.2.2, show (1 : Int32) = nI 1 from rfl, show (0 : Int32) = nI 0 from rfl, w, e]
      rfl
  · right
    refine ⟨?_, fun K' hK => ?_⟩
    · unfold fX8_requireOrder fX8_requireOrder_B18
      rw [e1]
      exact zr_rng (z := some (.inr ())) (by omega) h
    · unfold fX9_isOrder
      rw [show inb (8 : Int32) 304 = true from by decide, zn_gd, show (8 : Int32).toNatClampNeg = 8 from by decide, hK.2.2.2.2.1.2.2.2.2.2.2, show (1 : Int32) = nI 1 from rfl, show (0 : Int32) = nI 0 from rfl, w, e]
      rfl
theorem zr_kind (M : Mem) (a : Int32) : (∃ k, k < 10 ∧ a = nI k ∧ fX8_requireKind M a = some (.inr ()) ∧ fX9_isKind a = some (nI 1)) ∨ (fX8_requireKind M a = some (.inl "java/lang/IndexOutOfBoundsException") ∧ fX9_isKind a = some (nI 0)) := by
  have w : (9 : Int32) = wI 10 := by decide
  rcases zr_inw (c := 10) (by omega) a with ⟨f, hf, rfl, e⟩ | ⟨e, h⟩
  · left
    refine ⟨f, hf, rfl, ?_, ?_⟩
    · unfold fX8_requireKind
      rw [if_neg (nI_pos (by omega)), show (10 : Int32) = nI 10 from rfl, if_pos (nI_lt hf (by omega))]
    · unfold fX9_isKind
      rw [w, show (0 : Int32) = nI 0 from rfl, e]
      rfl
  · right
    refine ⟨?_, ?_⟩
    · unfold fX8_requireKind fX8_requireKind_B10
      exact zr_rng (c := 10) (z := some (.inr ())) (by omega) h
    · unfold fX9_isKind
      rw [w, show (0 : Int32) = nI 0 from rfl, e]
      rfl
theorem zr_side (M : Mem) (a : Int32) : (∃ k, k < 2 ∧ a = nI k ∧ fX8_requireSide M a = some (.inr ()) ∧ fX9_in a (nI 0) (nI 1) = some (nI 1)) ∨ (fX8_requireSide M a = some (.inl "java/lang/IndexOutOfBoundsException") ∧ fX9_in a (nI 0) (nI 1) = some (nI 0)) := by
  have w : wI 2 = nI 1 := by decide
  rcases zr_inw (c := 2) (by omega) a with ⟨f, hf, rfl, e⟩ | ⟨e, h⟩
  · left
    rw [w] at e
    refine ⟨f, hf, rfl, ?_, e⟩
    unfold fX8_requireSide
    rw [if_neg (nI_pos (by omega)), show (2 : Int32) = nI 2 from rfl, if_pos (nI_lt hf (by omega))]
  · right
    rw [w] at e
    refine ⟨?_, e⟩
    unfold fX8_requireSide fX8_requireSide_B9
    exact zr_rng (c := 2) (z := some (.inr ())) (by omega) h
theorem zr_trip (hX : RX (ofs 1 M) S) (hc : S 6 4 ≤ 8) (a : Int32) : (∃ f, f < S 6 4 ∧ a = nI f ∧ fX8_requireTrip M a = some (.inr ()) ∧ fX9_in a (nI 0) (nI (S 6 4) - nI 1) = some (nI 1)) ∨ (fX8_requireTrip M a = some (.inl "java/lang/IndexOutOfBoundsException") ∧ fX9_in a (nI 0) (nI (S 6 4) - nI 1) = some (nI 0)) := by
  have e1 : M 7 4 = nI (S 6 4) := hX.2.1.2.2.2.2.1
  have w : nI (S 6 4) - nI 1 = wI (S 6 4) := rfl
  rw [w]
  rcases zr_inw (c := S 6 4) (by omega) a with ⟨f, hf, rfl, e⟩ | ⟨e, h⟩
  · left
    refine ⟨f, hf, rfl, ?_, e⟩
    unfold fX8_requireTrip
    rw [if_neg (nI_pos (by omega)), e1, if_pos (nI_lt hf (by omega))]
  · right
    refine ⟨?_, e⟩
    unfold fX8_requireTrip fX8_requireTrip_B18
    rw [e1]
    exact zr_rng (z := some (.inr ())) (by omega) h
theorem zr_slot (M : Mem) (a b : Int32) : (∃ s t, s < 2 ∧ t < 20 ∧ a = nI s ∧ b = nI t ∧ fX8_requireSlot M a b = some (.inr ()) ∧ fX9_isSpot a b = some (nI 1)) ∨ (fX8_requireSlot M a b = some (.inl "java/lang/IndexOutOfBoundsException") ∧ fX9_isSpot a b = some (nI 0)) := by
  have w : (19 : Int32) = wI 20 := by decide
  unfold fX8_requireSlot fX9_isSpot
  rw [show (0 : Int32) = nI 0 from rfl, show (1 : Int32) = nI 1 from rfl, w]
  rcases zr_side M a with ⟨s, hs, rfl, e1, e2⟩ | ⟨e1, e2⟩
  · rw [e1, e2, zn_bs, zn_bs, zn_sel_r, if_neg (show ¬ nI 1 = nI 0 by decide)]
    rcases zr_inw (c := 20) (by omega) b with ⟨t, ht, rfl, e⟩ | ⟨e, h⟩
    · left
      refine ⟨s, t, hs, ht, rfl, rfl, ?_, ?_⟩
      · rw [if_neg (nI_nlt (Nat.zero_le _) (by omega)), show (20 : Int32) = nI 20 from rfl, if_pos (nI_lt ht (by omega))]
      · rw [e, zn_bs, if_neg (show ¬ nI 1 = nI 0 by decide)]
        rfl
    · right
      refine ⟨?_, ?_⟩
      · unfold fX8_requireSlot_B15
        exact zr_rng (c := 20) (z := some (.inr ())) (by omega) h
      · rw [e, zn_bs, if_pos rfl]
        rfl
  · right
    rw [e1, e2, zn_bs, zn_bs, zn_sel_l, if_pos rfl]
    exact ⟨rfl, rfl⟩
theorem zr_win (hX : RX (ofs 1 M) S) (hw : S 1 1 ≤ 12) : fX8_requireEmptyWindow M = some (if S 1 1 = 0 then .inr () else .inl "java/lang/IllegalStateException") := by
  have e1 : M 2 1 = wI (S 1 1) := hX.w
  unfold fX8_requireEmptyWindow
  by_cases c : S 1 1 = 0
  · rw [e1, if_pos c, c, if_pos (show wI 0 = -1 from rfl)]
  · rw [e1, if_neg c, if_neg (by rw [← wI_0, zn_weq (by omega) (by omega)]; exact c)]
theorem zr_at (hX : RX (ofs 1 M) S) (hc : S 1 0 ≤ 12) (hw : S 1 1 ≤ S 1 0) : fX8_requireShelfAtWindow M = some (if S 1 1 = 0 then .inl "java/lang/IllegalStateException" else .inr ()) := by
  have e1 : M 2 1 = wI (S 1 1) := hX.w
  have e2 : M 2 0 = nI (S 1 0) := hX.c
  unfold fX8_requireShelfAtWindow
  by_cases c : S 1 1 = 0
  · rw [e1, if_pos c, c, if_pos (show wI 0 < 0 by decide)]
    rfl
  · rw [e1, e2, if_neg c, wI_p (by omega), if_neg (nI_pos (by omega)), if_pos (nI_lt (by omega) (by omega))]
end
