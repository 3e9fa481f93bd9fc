def inrs {β γ : Type} (x : Option (β × γ)) : Option ((String ⊕ β) × γ) := x.map (fun q => (Sum.inr q.1, q.2))
theorem inrs_s {β γ : Type} {x : Option (β × γ)} {b : β} {g : γ} (h : inrs x = some (Sum.inr b, g)) : x = some (b, g) := by
  cases x with
  | none => cases h
  | some q =>
    obtain ⟨q1, q2⟩ := q
    have h2 := Option.some.inj h
    cases h2
    rfl
theorem inrs_no {β γ : Type} {x : Option (β × γ)} {E : String} {g : γ} : ¬ inrs x = some (Sum.inl E, g) := by
  intro h
  cases x with
  | none => cases h
  | some q =>
    have h2 := Option.some.inj h
    cases h2
theorem sr_sr (M : Mem) (i : Nat) (f g : Nat → Int32) : sr (sr M i f) i g = sr M i g := by
  funext j
  unfold sr
  cases Nat.beq j i <;> rfl
theorem sr_at (M : Mem) (i : Nat) (f : Nat → Int32) : sr M i f i = f := by
  unfold sr
  rw [show Nat.beq i i = true from Nat.beq_refl i]
  rfl
theorem fX1_put_rows {C : Nat → Option Mem} {M : Mem} {z : Mem × (Nat → Option Mem)} (h : fX1_put C M = some z) : z.1 = sr M 0 (z.1 0) := by
  unfold fX1_put at h
  obtain ⟨-, h⟩ := gd_s h
  obtain ⟨N, -, h⟩ := bi_s h
  obtain ⟨r, -, h⟩ := bi_s h
  have e := so_e h
  subst e
  exact (congrArg (sr M 0) (sr_at M 0 (upd (M 0) 0 (M 0 0 + 1)))).symm
theorem fX1_save_rows {C : Nat → Option Mem} {M : Mem} {z : Mem × (Nat → Option Mem)} (h : fX1_save C M = some z) : z.1 = sr M 0 (z.1 0) := by
  unfold fX1_save at h
  by_cases c : M 0 0 < 6
  · exact fX1_put_rows (it_t h c)
  · have e := fX1_put_rows (it_f h c)
    rw [sr_sr] at e
    exact e
section
variable {p : Program} {l : Launch} {e : Env} {R : Room} {s : State} {m : MethodId} {args : Array Value} {below : List Frame} {meth : Method} {c : Code} {H H0 : Heap} {locs : List Loc} {cells slots mc ms : Nat} {Q : State → Prop} {ls : Array Slot} {pc : Nat} {rest st0 : List Value} {A0 : Nat → Prop} {free : Addr → Prop}
theorem vx_thrH {D : va_G} {cI cZ : ClassId} {w : va_W} {E : String} {AX : Nat → Prop} {A1 : Nat → Prop} (hr : vx_Run p l e R s m args below meth c H locs cells slots mc ms (F0 m pc ls st0) rest (fun _ _ _ => False) (vx_X (S := Unit) (fun _ => True) (fun E' _ t => E' = E ∧ WE D cI cZ w A1 t) AX) free) (hS : va_S A0 H0 H locs) (hAX : ∀ q, q < H.size → AX q → A0 q) (hf : ∀ q, free q → A0 q)
    (kx : ∀ (ce : Cell) (q9 : Addr) (t : State) (H1 : Heap) (locs1 : List Loc), t.heap = H1 → s.vm.Alike t.vm → va_P D vwCl w H1 → va_D A1 w → H.size ≤ H1.size → (∀ q : Nat, q < H.size → ¬ AX q → H1[q]? = H[q]?) → va_S A0 H0 H1 locs1 → H1[q9]? = some ce → ce.vm = .none → s.vm.findClass E = some ce.cls → vx_W p l e R s m args below meth c H1 locs1 (cells + mc) (slots + ms) Q (F0 m pc ls rest) q9) : W p l e R s m args below meth c H locs cells slots Q (F0 m pc ls st0) := by
  intro T hT X
  rcases hr T hT X with ⟨v, st₀, t, T', L, h0, X', hL, e1, e2, hq, st⟩ | ⟨q, st₀, t, T', L, E2, ce, h0, X', hL, e1, e2, ⟨u, hp, ⟨hE, hP1, hD1⟩, hF⟩, hce, hcv, hcl, st⟩
  · exact hq.elim
  · obtain ⟨k1, k2, k3⟩ := vx_keep h0 e1 hS hAX hf hL hF
    subst hE
    obtain ⟨t2, a1, b1⟩ := kx ce q t T'.heap (locs ++ L) e1.symm (by rw [← e2]; exact X'.warmed.alike) (by rw [e1]; exact hP1) hD1 k1 k2 k3 (by rw [e1]; exact hce) hcv hcl T' rfl X'
    exact ⟨t2, st.trans a1, b1⟩
end
def fX8_addShelf (C : Nat → Option Mem) (M : Mem) (a1 : Int32) : Option ((String ⊕ Int32) × Mem × (Nat → Option Mem)) := (fX8_requireHeight M a1).bind fun r2 => sel r2 (fun E9 => some (Sum.inl E9, M, C)) (fun r2 => if (M 2 0) < (12 : Int32) then ((fX8_requireEmptyWindow M ).bind fun r31 => sel r31 (fun E9 => some (Sum.inl E9, M, C)) (fun r31 => (fX7_firstFree (ofs 2 M) a1).bind fun r42 => if ¬ r42 = (-1 : Int32) then (inrs ((fX1_save C (pk [33, 34, 35, 1, 2, 3, 4, 5, 6, 7, 8, 9, 10, 11, 12, 13, 14, 15, 16] M)).bind fun q69 => (fX7_addAt (ofs 2 (sr M 33 (q69.1 0))) r42 a1).bind fun r81 => some (r81.1, (sr (sr (sr (sr (sr (sr M 2 (r81.2 0)) 3 (r81.2 1)) 4 (r81.2 2)) 5 (r81.2 3)) 6 (r81.2 4)) 33 (q69.1 0)), q69.2))) else (some (Sum.inl "java/lang/IllegalStateException", M, C)))) else (some (Sum.inl "java/lang/IllegalStateException", M, C)))
def fX8_scrap (C : Nat → Option Mem) (M : Mem) (a1 : Int32) : Option ((String ⊕ Int32) × Mem × (Nat → Option Mem)) := (fX8_requireShelf M a1).bind fun r2 => sel r2 (fun E9 => some (Sum.inl E9, M, C)) (fun r2 => if ¬ a1 = (M 2 1) then ((fX7_isEmpty (ofs 2 M) a1).bind fun r37 => if ¬ r37 = 0 then (inrs ((fX1_save C (pk [33, 34, 35, 1, 2, 3, 4, 5, 6, 7, 8, 9, 10, 11, 12, 13, 14, 15, 16] M)).bind fun q61 => gd (inb a1 12) ((fX7_remove (ofs 2 (sr M 33 (q61.1 0))) a1).bind fun r85 => some ((M 3 a1.toNatClampNeg), (sr (sr (sr (sr (sr (sr M 2 (r85 0)) 3 (r85 1)) 4 (r85 2)) 5 (r85 3)) 6 (r85 4)) 33 (q61.1 0)), q61.2)))) else (some (Sum.inl "java/lang/IllegalStateException", M, C))) else (some (Sum.inl "java/lang/IllegalStateException", M, C)))
def fX8_fetch (C : Nat → Option Mem) (M : Mem) (a1 : Int32) : Option ((String ⊕ Int32) × Mem × (Nat → Option Mem)) := (fX8_requireShelf M a1).bind fun r2 => sel r2 (fun E9 => some (Sum.inl E9, M, C)) (fun r2 => (fX8_requireEmptyWindow M ).bind fun r6 => sel r6 (fun E9 => some (Sum.inl E9, M, C)) (fun r6 => inrs ((fX1_save C (pk [33, 34, 35, 1, 2, 3, 4, 5, 6, 7, 8, 9, 10, 11, 12, 13, 14, 15, 16] M)).bind fun q17 => (fX6_bring (ofs 1 (sr M 33 (q17.1 0))) a1).bind fun r25 => some (r25.1, (sr (sr (sr (sr (sr (sr M 2 (r25.2 1)) 5 (r25.2 4)) 7 (r25.2 6)) 8 (r25.2 7)) 9 (r25.2 8)) 33 (q17.1 0)), q17.2))))
def fX8_stow (C : Nat → Option Mem) (M : Mem)  : Option ((String ⊕ Int32) × Mem × (Nat → Option Mem)) := (fX8_requireShelfAtWindow M ).bind fun r1 => sel r1 (fun E9 => some (Sum.inl E9, M, C)) (fun r1 => inrs ((fX1_save C (pk [33, 34, 35, 1, 2, 3, 4, 5, 6, 7, 8, 9, 10, 11, 12, 13, 14, 15, 16] M)).bind fun q12 => (fX6_putBack (ofs 1 (sr M 33 (q12.1 0))) ).bind fun r19 => some (r19.1, (sr (sr (sr (sr (sr (sr M 2 (r19.2 1)) 4 (r19.2 3)) 7 (r19.2 6)) 8 (r19.2 7)) 9 (r19.2 8)) 33 (q12.1 0)), q12.2)))
def fX8_fill (C : Nat → Option Mem) (M : Mem) (a1 : Int32) (a2 : Int32) : Option ((String ⊕ Int32) × Mem × (Nat → Option Mem)) := (fX8_requireKind M a1).bind fun r2 => sel r2 (fun E9 => some (Sum.inl E9, M, C)) (fun r2 => (fX8_requireMany M a2).bind fun r7 => sel r7 (fun E9 => some (Sum.inl E9, M, C)) (fun r7 => (fX8_requireShelfAtWindow M ).bind fun r11 => sel r11 (fun E9 => some (Sum.inl E9, M, C)) (fun r11 => (fX6_weighShelf (ofs 1 M) (M 2 1)).bind fun r30 => gd (inb a1 10) (if (r30 + (a2 * (M 11 a1.toNatClampNeg))) ≤ (150 : Int32) then (inrs ((fX1_save C (pk [33, 34, 35, 1, 2, 3, 4, 5, 6, 7, 8, 9, 10, 11, 12, 13, 14, 15, 16] M)).bind fun q72 => gd (inb a1 10) (gd (inb a1 10) ((fX7_change (ofs 2 (sr (sr M 13 (upd (M 13) a1.toNatClampNeg ((M 13 a1.toNatClampNeg) + a2))) 33 (q72.1 0))) (M 2 1) a1 a2).bind fun r101 => some (r101.1, (sr (sr (sr M 6 (r101.2 4)) 13 (upd (M 13) a1.toNatClampNeg ((M 13 a1.toNatClampNeg) + a2))) 33 (q72.1 0)), q72.2))))) else (some (Sum.inl "java/lang/IllegalStateException", M, C))))))
def fX8_take (C : Nat → Option Mem) (M : Mem) (a1 : Int32) (a2 : Int32) : Option ((String ⊕ Int32) × Mem × (Nat → Option Mem)) := (fX8_requireKind M a1).bind fun r2 => sel r2 (fun E9 => some (Sum.inl E9, M, C)) (fun r2 => (fX8_requireMany M a2).bind fun r7 => sel r7 (fun E9 => some (Sum.inl E9, M, C)) (fun r7 => (fX8_requireShelfAtWindow M ).bind fun r11 => sel r11 (fun E9 => some (Sum.inl E9, M, C)) (fun r11 => (fX7_countIn (ofs 2 M) (M 2 1) a1).bind fun r34 => if a2 ≤ r34 then (inrs ((fX1_save C (pk [33, 34, 35, 1, 2, 3, 4, 5, 6, 7, 8, 9, 10, 11, 12, 13, 14, 15, 16] M)).bind fun q59 => gd (inb a1 10) (gd (inb a1 10) ((fX7_change (ofs 2 (sr (sr M 14 (upd (M 14) a1.toNatClampNeg ((M 14 a1.toNatClampNeg) + a2))) 33 (q59.1 0))) (M 2 1) a1 (-a2)).bind fun r89 => some (r89.1, (sr (sr (sr M 6 (r89.2 4)) 14 (upd (M 14) a1.toNatClampNeg ((M 14 a1.toNatClampNeg) + a2))) 33 (q59.1 0)), q59.2))))) else (some (Sum.inl "java/lang/IllegalStateException", M, C)))))
def fX8_accept (C : Nat → Option Mem) (M : Mem)  : Option ((String ⊕ Int32) × Mem × (Nat → Option Mem)) := (fX5_isOrder (ofs 36 M) ).bind fun r4 => if ¬ r4.1 = 0 then (if (M 15 0) < (8 : Int32) then (inrs ((fX1_save C (pk [33, 34, 35, 1, 2, 3, 4, 5, 6, 7, 8, 9, 10, 11, 12, 13, 14, 15, 16] (sr (sr M 38 (r4.2 2)) 39 (r4.2 3)))).bind fun q53 => (fX3_add (pk [15, 16, 39] (sr (sr (sr M 33 (q53.1 0)) 38 (r4.2 2)) 39 (r4.2 3))) ).bind fun r73 => some (r73.1, (sr (sr (sr (sr (sr (sr M 15 (r73.2 0)) 16 (r73.2 1)) 33 (q53.1 0)) 36 (upd (M 36) 0 (0 : Int32))) 38 (r4.2 2)) 39 (r4.2 3)), q53.2))) else (some (Sum.inl "java/lang/IllegalStateException", (sr (sr M 38 (r4.2 2)) 39 (r4.2 3)), C))) else (some (Sum.inl "java/lang/IllegalArgumentException", (sr (sr M 38 (r4.2 2)) 39 (r4.2 3)), C))
def fX8_serveAll (C : Nat → Option Mem) (M : Mem)  : Option ((String ⊕ Int32) × Mem × (Nat → Option Mem)) := (fX8_requireEmptyWindow M ).bind fun r1 => sel r1 (fun E9 => some (Sum.inl E9, M, C)) (fun r1 => inrs ((fX1_save C (pk [33, 34, 35, 1, 2, 3, 4, 5, 6, 7, 8, 9, 10, 11, 12, 13, 14, 15, 16] M)).bind fun q12 => (fX6_serveEach (ofs 1 (sr M 33 (q12.1 0))) ).bind fun r19 => some (r19.1, (sr (sr (sr (sr (sr (sr (sr (sr (sr (sr (sr (sr M 1 (r19.2 0)) 2 (r19.2 1)) 4 (r19.2 3)) 5 (r19.2 4)) 6 (r19.2 5)) 7 (r19.2 6)) 8 (r19.2 7)) 9 (r19.2 8)) 14 (r19.2 13)) 15 (r19.2 14)) 16 (r19.2 15)) 33 (q12.1 0)), q12.2)))
def fX8_changeLeast (C : Nat → Option Mem) (M : Mem) (a1 : Int32) (a2 : Int32) : Option ((String ⊕ Int32) × Mem × (Nat → Option Mem)) := (fX8_requireKind M a1).bind fun r2 => sel r2 (fun E9 => some (Sum.inl E9, M, C)) (fun r2 => if a2 < 0 then (some (Sum.inl "java/lang/IllegalArgumentException", M, C)) else (if a2 ≤ (99 : Int32) then (inrs ((fX1_save C (pk [33, 34, 35, 1, 2, 3, 4, 5, 6, 7, 8, 9, 10, 11, 12, 13, 14, 15, 16] M)).bind fun q33 => gd (inb a1 10) (gd (inb a1 10) (some ((M 12 a1.toNatClampNeg), (sr (sr M 12 (upd (M 12) a1.toNatClampNeg a2)) 33 (q33.1 0)), q33.2))))) else (some (Sum.inl "java/lang/IllegalArgumentException", M, C))))
def fX8_turnRule (C : Nat → Option Mem) (M : Mem)  : Option ((String ⊕ Int32) × Mem × (Nat → Option Mem)) := inrs ((fX1_save C (pk [33, 34, 35, 1, 2, 3, 4, 5, 6, 7, 8, 9, 10, 11, 12, 13, 14, 15, 16] M)).bind fun q8 => if ¬ (M 7 1) = 0 then (gd (isb (0 : Int32)) (gd (isb (0 : Int32)) (some ((0 : Int32), (sr (sr M 7 (upd (M 7) 1 (0 : Int32))) 33 (q8.1 0)), q8.2)))) else (gd (isb (1 : Int32)) (gd (isb (1 : Int32)) (some ((1 : Int32), (sr (sr M 7 (upd (M 7) 1 (1 : Int32))) 33 (q8.1 0)), q8.2)))))
def fX8_undo (C : Nat → Option Mem) (M : Mem)  : Option ((String ⊕ Unit) × Mem × (Nat → Option Mem)) := (fX1_restoreLatest C (pk [33, 34, 35, 1, 2, 3, 4, 5, 6, 7, 8, 9, 10, 11, 12, 13, 14, 15, 16] M)).bind fun q8 => if ¬ q8.1 = 0 then (some (Sum.inr (), (sr (sr (sr (sr (sr (sr (sr (sr (sr (sr (sr (sr (sr (sr (sr (sr (sr M 1 (q8.2 3)) 2 (q8.2 4)) 3 (q8.2 5)) 4 (q8.2 6)) 5 (q8.2 7)) 6 (q8.2 8)) 7 (q8.2 9)) 8 (q8.2 10)) 9 (q8.2 11)) 10 (q8.2 12)) 11 (q8.2 13)) 12 (q8.2 14)) 13 (q8.2 15)) 14 (q8.2 16)) 15 (q8.2 17)) 16 (q8.2 18)) 33 (q8.2 0)), C)) else (some (Sum.inl "java/lang/IllegalStateException", (sr (sr (sr (sr (sr (sr (sr (sr (sr (sr (sr (sr (sr (sr (sr (sr (sr M 1 (q8.2 3)) 2 (q8.2 4)) 3 (q8.2 5)) 4 (q8.2 6)) 5 (q8.2 7)) 6 (q8.2 8)) 7 (q8.2 9)) 8 (q8.2 10)) 9 (q8.2 11)) 10 (q8.2 12)) 11 (q8.2 13)) 12 (q8.2 14)) 13 (q8.2 15)) 14 (q8.2 16)) 15 (q8.2 17)) 16 (q8.2 18)) 33 (q8.2 0)), C))
