abbrev tys9 (cI cZ cS cL : ClassId) : List (ClassId × FieldType) := [(cI, .int), (cZ, .boolean), (cS, .object "GlideShelves$State"), (cL, .long)]
def ncs : List (String × String) := [("java/lang/IllegalStateException", "java/lang/IllegalArgumentException"), ("java/lang/IllegalStateException", "java/lang/IndexOutOfBoundsException"), ("java/lang/IllegalArgumentException", "java/lang/IllegalStateException"), ("java/lang/IllegalArgumentException", "java/lang/IndexOutOfBoundsException"), ("java/lang/IndexOutOfBoundsException", "java/lang/IllegalStateException"), ("java/lang/IndexOutOfBoundsException", "java/lang/IllegalArgumentException")]
abbrev wL (cI cZ cS cL : ClassId) (f g : Nat → Option Nat) (o : Nat) (fl : Nat → Int64) (a : Nat → Nat) (M : Mem) : va_W := (o, .inl (cL, 1, .inr (.inl fl))) :: wX8 cI cZ cS f g a M
def NC (U : State) : Prop := ∀ q ∈ ncs, va_Nc q.1 q.2 U
def T9 (D : va_G) (cI cZ cS cL : ClassId) (ws : va_W) (sz : Nat) (U : State) : Prop := U.heap.size = sz ∧ va_P D vwCl ws U.heap ∧ va_K D vwCl (tys9 cI cZ cS cL) U ∧ va_D (fun _ => True) ws ∧ NW U ∧ EX (va_A ws sz) U U.heap ∧ NC U
theorem T9.blind {D : va_G} {cI cZ cS cL : ClassId} {ws : va_W} {sz : Nat} {av : List Value} : FrameBlind (va_Pc av (T9 D cI cZ cS cL ws sz)) := fun a U g mk q => by
  obtain ⟨q0, q1, qP, qK, qD, qN, qE, qC⟩ := q
  exact ⟨q0, q1, qP, va_K.moved (u := U) (U := U.calling g mk a) (Vm.Alike.refl U.vm) qK, qD, NW.same (u := U) (U := U.calling g mk a) rfl qN, EX.same (u := U) (U := U.calling g mk a) rfl (Vm.Alike.refl U.vm) qE, fun q hq => va_Nc.moved (u := U) (U := U.calling g mk a) (Vm.Alike.refl U.vm) (qC q hq)⟩
theorem T9.pre {D : va_G} {cI cZ cS cL : ClassId} {ws : va_W} {av : List Value} {s : State} {H : Heap} {A : Nat → Prop} (hP : va_P D vwCl ws H) (hK : va_K D vwCl (tys9 cI cZ cS cL) s) (hD : va_D A ws) (hN : NW s) (hE : EX (va_A ws H.size) s H) (hC : NC s) : ∀ U : State, U.heap = H → s.WarmedH U.vm → va_Pc av (T9 D cI cZ cS cL ws H.size) av.toArray U := fun U hU hW => ⟨rfl, by rw [hU], by rw [hU]; exact hP, va_K.moved hW.alike hK, hD.weaken (fun _ _ _ _ => trivial), NW.warm hW hN, by rw [hU]; exact EX.moved hW hE, fun q hq => va_Nc.moved hW.alike (hC q hq)⟩
/-- what a helper answers: 0, or the place of the exception's name in its list -/
def Ans {α : Type} (l : List String) (r : String ⊕ α) (k : Int32) : Prop := (∃ v, r = .inr v ∧ k = 0) ∨ ∃ (i : Nat) (E : String), l[i]? = some E ∧ r = .inl E ∧ k = Int32.ofNat (i + 1)
def cvZ (v : Int32) : Int64 := if v = 0 then 0 else 1
set_option maxHeartbeats 4000000 in
set_option maxRecDepth 100000 in
theorem w_L_addShelf (l : Launch) (hst : l.stackTraces = false) (dC : Nat → ClassId) (dI : Nat → Nat → Nat) (cI cZ cS cL : ClassId) (hs : HS) (o : Nat) (fl : Nat → Int64) (a : Nat → Nat) (sz : Nat) (M : Mem) (a1 : Int32) (r : String ⊕ Int32) (kk : Int32) (z2 : Mem) (z3 : Nat → Option Mem) (hf : fX8_addShelf (cts hs) M a1 = some (r, z2, z3)) (hA9 : Ans ["java/lang/IllegalArgumentException", "java/lang/IllegalStateException"] r kk) (hC : ∀ E, r = .inl E → z3 = cts hs) : Met l yL_addShelf wsL_addShelf ({ frames := 8, cells := 16, slots := 316, locals := 153 } : Room) (va_Pc [.ref (a 0), .int a1, .ref o] (T9 (dC, dI) cI cZ cS cL ((wL cI cZ cS cL (fS hs) (fG hs) o fl a M) ++ RW cI cZ hs) sz)) (va_Qi (S := HS × (Nat → Int64)) (fun k u => k = kk ∧ cts u.1 = z3 ∧ ∀ v, r = .inr v → u.2 0 = v.toInt64) (fun u t => WE (dC, dI) cI cZ ((wL cI cZ cS cL (fS u.1) (fG u.1) o u.2 a z2) ++ RW cI cZ u.1) (va_A ((wL cI cZ cS cL (fS hs) (fG hs) o fl a M) ++ RW cI cZ hs) sz) t) (va_A ((wL cI cZ cS cL (fS hs) (fG hs) o fl a M) ++ RW cI cZ hs) sz)) 16 316 (va_A ((wL cI cZ cS cL (fS hs) (fG hs) o fl a M) ++ RW cI cZ hs) sz) := by
  refine va_MetW (cc := cL_addShelf) (maxL := 4) (ret := (some .int)) (hh := [(0, 9, 12, 13), (0, 9, 15, 15)]) (by decide) rfl ?_
  intro p e s m args below meth c s₁ B hml hv
  obtain ⟨rfl, hsz, hP, hK, hD0, hNW, hEX, hNC⟩ := hv
  have hx := B.exec
  have hb := B.bytes
  have hr := B.returns
  have hts := atoms_spec (ws := wsL_addShelf) B.pre
  have hown : s.vm.findClass RL = some m.cls := findClass_of_methodNamed B.named
  have htab : c.exceptionTable.toList = tableOf [(0, 9, 12, 13), (0, 9, 15, 15)] := vx_table (x := yL_law) B (hts (.codeWith yL_addShelf cL_addShelf 4 (some .int) [(0, 9, 12, 13), (0, 9, 15, 15)]) List.mem_cons_self)
  have hK8 : va_K (dC, dI) vwCl (tys8 cI cZ cS) s := hK.sub (tys' := tys8 cI cZ cS) [0, 1, 2] rfl
  have hcl13 := hts (.classLink RL 13 "java/lang/IllegalArgumentException") (by decide +kernel)
  have hcl15 := hts (.classLink RL 15 "java/lang/IllegalStateException") (by decide +kernel)
  subst hsz
  have hD := hD0.self (sz := s.heap.size)
  generalize hAe : va_A ((wL cI cZ cS cL (fS hs) (fG hs) o fl a M) ++ RW cI cZ hs) s.heap.size = A at hD hEX ⊢
  have hA : ∀ q : Nat, s.heap.size ≤ q → A q := fun q h => by rw [← hAe]; exact Or.inr h
  have hS : va_S A s.heap s.heap [] := va_S.rf
  have hl := lv_entry ([.ref (a 0), .int a1, .ref o]) (n := 4) (Nat.le_of_ble_eq_true rfl)
  rw [lg_entry_eq]
  generalize (lg_sl ([.ref (a 0), .int a1, .ref o]) ++ List.replicate (4 - (lg_sl ([.ref (a 0), .int a1, .ref o])).length) Slot.unset).toArray = ls at hl ⊢
  have hl : lv_has ls 4 [(0, .ref (a 0)), (1, .int a1), (2, .ref o)] := hl
  suffices hgo : ∀ (H : Heap) (locs : List Loc), va_P (dC, dI) vwCl ((wL cI cZ cS cL (fS hs) (fG hs) o fl a M) ++ RW cI cZ hs) H → va_D A ((wL cI cZ cS cL (fS hs) (fG hs) o fl a M) ++ RW cI cZ hs) → va_S A s.heap H locs → W p l e (headSpec wsL_addShelf ({ frames := 8, cells := 16, slots := 316, locals := 153 } : Room)).room s m ([.ref (a 0), .int a1, .ref o] : List Value).toArray below meth c H locs 0 0 (MQ below (va_Qi (S := HS × (Nat → Int64)) (fun k u => k = kk ∧ cts u.1 = z3 ∧ ∀ v, r = .inr v → u.2 0 = v.toInt64) (fun u t => WE (dC, dI) cI cZ ((wL cI cZ cS cL (fS u.1) (fG u.1) o u.2 a z2) ++ RW cI cZ u.1) A t) A) ([.ref (a 0), .int a1, .ref o] : List Value).toArray s 16 316 A) (F0 m 0 ls []) from hgo _ _ hP hD hS
  intro H locs hP hD hS
  refine lv_aload_n hx hb dL_addShelf_0 rfl (lv_at hl 2 rfl) ?_
  refine lv_iconst (v := (0 : Int32)) hx hb dL_addShelf_1 (by decide) ?_
  refine lv_aload_n hx hb dL_addShelf_2 rfl (lv_at hl 0 rfl) ?_
  refine lv_iload_n hx hb dL_addShelf_3 rfl (lv_at hl 1 rfl) ?_
  have hPc := hP.part (X := (wL cI cZ cS cL (fS hs) (fG hs) o fl a M)) (cx := (wX8 cI cZ cS (fS hs) (fG hs) a M)) [1, 2, 3, 4, 5, 6, 7, 8, 9, 10, 11, 12, 13, 14, 15, 16, 17, 18, 19, 20, 21, 22, 23, 24, 25, 26, 27, 28, 29, 30, 31, 32, 33, 34, 35, 36, 37, 38, 39, 40, 41, 42] rfl
  have hDc := hD.part (X := (wL cI cZ cS cL (fS hs) (fG hs) o fl a M)) (cx := (wX8 cI cZ cS (fS hs) (fG hs) a M)) [1, 2, 3, 4, 5, 6, 7, 8, 9, 10, 11, 12, 13, 14, 15, 16, 17, 18, 19, 20, 21, 22, 23, 24, 25, 26, 27, 28, 29, 30, 31, 32, 33, 34, 35, 36, 37, 38, 39, 40, 41, 42] (by decide) rfl
  have hFc := va_freeP (X := (wL cI cZ cS cL (fS hs) (fG hs) o fl a M)) (cx := (wX8 cI cZ cS (fS hs) (fG hs) a M)) hD hS hA [1, 2, 3, 4, 5, 6, 7, 8, 9, 10, 11, 12, 13, 14, 15, 16, 17, 18, 19, 20, 21, 22, 23, 24, 25, 26, 27, 28, 29, 30, 31, 32, 33, 34, 35, 36, 37, 38, 39, 40, 41, 42] rfl
  rcases hA9 with ⟨v, hr9, hk9⟩ | ⟨i9, E9, hi9, hr9, hk9⟩
  · subst hr9
    subst hk9
    refine va_calli (va_runV (As := [.int a1]) (rest := [.int (0 : Int32), .ref o]) ⟨hx, hb, hml, hown, hts⟩ (n_X8_addShelf l dC dI cI cZ cS hs a H.size M a1 v z2 z3 hf) (cwV 1 hts gL_addShelf_X8_addShelf rfl rfl rfl (by decide +kernel) ⟨Nat.le_of_ble_eq_true rfl, Nat.le_of_ble_eq_true rfl⟩) ⟨WR8.blind, va_recv hK hP (ci := 8) (q0 := 1) rfl rfl, WR8.pre hPc hK8 hDc hNW⟩ rfl rfl hl.1 rfl (lv_room (Nat.le_of_ble_eq_true rfl)) dL_addShelf_4 ⟨Nat.le_of_ble_eq_true rfl, Nat.le_of_ble_eq_true rfl⟩) hS (fun q _ h => hFc q h) hFc (fun rv hs1 t H1 locs ht hvm hw hB hz1 hk1 hS => ?_)
    obtain ⟨hP1, hD1⟩ := hB
    rw [ht] at hP1
    obtain ⟨hw1, hw2⟩ := hw
    rw [hw1]
    obtain ⟨hP, hD⟩ := va_joinP (X := (wL cI cZ cS cL (fS hs) (fG hs) o fl a M)) (cx := (wX8 cI cZ cS (fS hs) (fG hs) a M)) (wr := [(o, .inl (cL, 1, .inr (.inl fl)))]) (rx := (wX8 cI cZ cS (fS hs1) (fG hs1) a z2)) hP hD [1, 2, 3, 4, 5, 6, 7, 8, 9, 10, 11, 12, 13, 14, 15, 16, 17, 18, 19, 20, 21, 22, 23, 24, 25, 26, 27, 28, 29, 30, 31, 32, 33, 34, 35, 36, 37, 38, 39, 40, 41, 42] [0] rfl rfl (by decide) (by decide) hk1 hFc hP1 hD1
    have hP : va_P (dC, dI) vwCl ((wL cI cZ cS cL (fS hs1) (fG hs1) o fl a z2) ++ RW cI cZ hs1) H1 := hP
    have hD : va_D A ((wL cI cZ cS cL (fS hs1) (fG hs1) o fl a z2) ++ RW cI cZ hs1) := hD
    generalize H1 = H at hP hS ⊢
    refine lv_i2l (v := v.toInt64) hx hb dL_addShelf_7 rfl ?_
    refine va_last (D := (dC, dI)) (f := fl) hx hb hK hP hD hS 0 3 rfl rfl (inb_in rfl) dL_addShelf_8 (fun H locs hP hD hS => ?_)
    have hP : va_P (dC, dI) vwCl ((wL cI cZ cS cL (fS hs1) (fG hs1) o (vp_updL fl 0 v.toInt64) a z2) ++ RW cI cZ hs1) H := hP
    have hD : va_D A ((wL cI cZ cS cL (fS hs1) (fG hs1) o (vp_updL fl 0 v.toInt64) a z2) ++ RW cI cZ hs1) := hD
    refine lv_goto (tgt := 18) hx hb dL_addShelf_9 (by decide) ?_
    refine lv_iconst (v := (0 : Int32)) hx hb dL_addShelf_18 (by decide) ?_
    refine W.widen (k := 16) (n := 316) (Nat.le_of_ble_eq_true rfl) (Nat.le_of_ble_eq_true rfl) ?_
    exact W.iret hx hb hr (fun t ht hW => ⟨⟨_, (hs1, (vp_updL fl 0 v.toInt64)), rfl, ⟨rfl, hw2, fun v9 h9 => by cases h9; rfl⟩, WE.mk hP hD ht⟩, hS.F ht⟩) hS.2.2 dL_addShelf_19
  · subst hr9
    have hz3 := hC E9 rfl
    subst hz3
    refine vx_thrH (vx_runV (As := [.int a1]) (rest := [.int (0 : Int32), .ref o]) ⟨hx, hb, hml, hown, hts⟩ (t_X8_addShelf l hst dC dI cI cZ cS hs a _ M a1 E9 z2 (cts hs) hf) (cwV 1 hts gL_addShelf_X8_addShelf rfl rfl rfl (by decide +kernel) ⟨Nat.le_of_ble_eq_true rfl, Nat.le_of_ble_eq_true rfl⟩) ⟨T8.blind, va_recv hK hP (ci := 8) (q0 := 1) rfl rfl, T8.pre hPc hK8 hDc hNW (hEX.at hS hFc)⟩ rfl rfl hl.1 rfl (lv_room (Nat.le_of_ble_eq_true rfl)) dL_addShelf_4 ⟨Nat.le_of_ble_eq_true rfl, Nat.le_of_ble_eq_true rfl⟩) hS (fun q _ h => hFc q h) hFc (fun ce q9 t H1 locs1 ht hal hP1 hD1 hz1 hk1 hS hce hcv hcl => ?_)
    obtain ⟨hP, hD⟩ := va_joinP (X := (wL cI cZ cS cL (fS hs) (fG hs) o fl a M)) (cx := (wX8 cI cZ cS (fS hs) (fG hs) a M)) (wr := [(o, .inl (cL, 1, .inr (.inl fl)))]) (rx := (wX8 cI cZ cS (fS hs) (fG hs) a z2)) hP hD [1, 2, 3, 4, 5, 6, 7, 8, 9, 10, 11, 12, 13, 14, 15, 16, 17, 18, 19, 20, 21, 22, 23, 24, 25, 26, 27, 28, 29, 30, 31, 32, 33, 34, 35, 36, 37, 38, 39, 40, 41, 42] [0] rfl rfl (by decide) (by decide) hk1 hFc hP1 hD1
    have hP : va_P (dC, dI) vwCl ((wL cI cZ cS cL (fS hs) (fG hs) o fl a z2) ++ RW cI cZ hs) H1 := hP
    have hD : va_D A ((wL cI cZ cS cL (fS hs) (fG hs) o fl a z2) ++ RW cI cZ hs) := hD
    generalize H1 = H at hP hS hce ⊢
    rcases (show i9 = 0 ∨ i9 = 1 by have h7 := (List.getElem?_eq_some_iff.mp hi9).1; simp only [List.length] at h7; omega) with rfl | rfl
    · cases hi9
      refine vx_catch (own := RL) (name := "java/lang/IllegalArgumentException") hown [] ⟨0, 9, 12, 13⟩ [⟨0, 9, 15, 15⟩] htab (fun z hz => nomatch hz) rfl (by decide) hcl13 ((nc178 hNW).use rfl) hce hcv hcl ?_
      refine lv_astore_n (lv' := [(3, .ref q9), (0, .ref (a 0)), (1, .int a1), (2, .ref o)]) hx hb dL_addShelf_12 rfl hl (by decide) rfl (fun ls hl => ?_)
      refine lv_iconst (v := (1 : Int32)) hx hb dL_addShelf_13 (by decide) ?_
      refine W.widen (k := 16) (n := 316) (Nat.le_of_ble_eq_true rfl) (Nat.le_of_ble_eq_true rfl) ?_
      exact W.iret hx hb hr (fun t ht hW => ⟨⟨_, (hs, fl), rfl, ⟨hk9.symm, rfl, fun v9 h9 => by cases h9⟩, WE.mk hP hD ht⟩, hS.F ht⟩) hS.2.2 dL_addShelf_14
    · cases hi9
      refine vx_catch (own := RL) (name := "java/lang/IllegalStateException") hown [⟨0, 9, 12, 13⟩] ⟨0, 9, 15, 15⟩ [] htab (fun z hz => by
      rcases (show z = ⟨0, 9, 12, 13⟩ by simpa using hz) with rfl
      · exact Or.inr ⟨by decide, "java/lang/IllegalArgumentException", hcl13, hNC ("java/lang/IllegalStateException", "java/lang/IllegalArgumentException") (List.mem_of_getElem? (i := 0) rfl)⟩) rfl (by decide) hcl15 ((nc58 hNW).use rfl) hce hcv hcl ?_
      refine lv_astore_n (lv' := [(3, .ref q9), (0, .ref (a 0)), (1, .int a1), (2, .ref o)]) hx hb dL_addShelf_15 rfl hl (by decide) rfl (fun ls hl => ?_)
      refine lv_iconst (v := (2 : Int32)) hx hb dL_addShelf_16 (by decide) ?_
      refine W.widen (k := 16) (n := 316) (Nat.le_of_ble_eq_true rfl) (Nat.le_of_ble_eq_true rfl) ?_
      exact W.iret hx hb hr (fun t ht hW => ⟨⟨_, (hs, fl), rfl, ⟨hk9.symm, rfl, fun v9 h9 => by cases h9⟩, WE.mk hP hD ht⟩, hS.F ht⟩) hS.2.2 dL_addShelf_17
set_option maxHeartbeats 4000000 in
set_option maxRecDepth 100000 in
theorem w_L_scrap (l : Launch) (hst : l.stackTraces = false) (dC : Nat → ClassId) (dI : Nat → Nat → Nat) (cI cZ cS cL : ClassId) (hs : HS) (o : Nat) (fl : Nat → Int64) (a : Nat → Nat) (sz : Nat) (M : Mem) (a1 : Int32) (r : String ⊕ Int32) (kk : Int32) (z2 : Mem) (z3 : Nat → Option Mem) (hf : fX8_scrap (cts hs) M a1 = some (r, z2, z3)) (hA9 : Ans ["java/lang/IndexOutOfBoundsException", "java/lang/IllegalStateException"] r kk) (hC : ∀ E, r = .inl E → z3 = cts hs) : Met l yL_scrap wsL_scrap ({ frames := 8, cells := 16, slots := 316, locals := 153 } : Room) (va_Pc [.ref (a 0), .int a1, .ref o] (T9 (dC, dI) cI cZ cS cL ((wL cI cZ cS cL (fS hs) (fG hs) o fl a M) ++ RW cI cZ hs) sz)) (va_Qi (S := HS × (Nat → Int64)) (fun k u => k = kk ∧ cts u.1 = z3 ∧ ∀ v, r = .inr v → u.2 0 = v.toInt64) (fun u t => WE (dC, dI) cI cZ ((wL cI cZ cS cL (fS u.1) (fG u.1) o u.2 a z2) ++ RW cI cZ u.1) (va_A ((wL cI cZ cS cL (fS hs) (fG hs) o fl a M) ++ RW cI cZ hs) sz) t) (va_A ((wL cI cZ cS cL (fS hs) (fG hs) o fl a M) ++ RW cI cZ hs) sz)) 16 316 (va_A ((wL cI cZ cS cL (fS hs) (fG hs) o fl a M) ++ RW cI cZ hs) sz) := by
  refine va_MetW (cc := cL_scrap) (maxL := 4) (ret := (some .int)) (hh := [(0, 9, 12, 20), (0, 9, 15, 15)]) (by decide) rfl ?_
  intro p e s m args below meth c s₁ B hml hv
  obtain ⟨rfl, hsz, hP, hK, hD0, hNW, hEX, hNC⟩ := hv
  have hx := B.exec
  have hb := B.bytes
  have hr := B.returns
  have hts := atoms_spec (ws := wsL_scrap) B.pre
  have hown : s.vm.findClass RL = some m.cls := findClass_of_methodNamed B.named
  have htab : c.exceptionTable.toList = tableOf [(0, 9, 12, 20), (0, 9, 15, 15)] := vx_table (x := yL_law) B (hts (.codeWith yL_scrap cL_scrap 4 (some .int) [(0, 9, 12, 20), (0, 9, 15, 15)]) List.mem_cons_self)
  have hK8 : va_K (dC, dI) vwCl (tys8 cI cZ cS) s := hK.sub (tys' := tys8 cI cZ cS) [0, 1, 2] rfl
  have hcl20 := hts (.classLink RL 20 "java/lang/IndexOutOfBoundsException") (by decide +kernel)
  have hcl15 := hts (.classLink RL 15 "java/lang/IllegalStateException") (by decide +kernel)
  subst hsz
  have hD := hD0.self (sz := s.heap.size)
  generalize hAe : va_A ((wL cI cZ cS cL (fS hs) (fG hs) o fl a M) ++ RW cI cZ hs) s.heap.size = A at hD hEX ⊢
  have hA : ∀ q : Nat, s.heap.size ≤ q → A q := fun q h => by rw [← hAe]; exact Or.inr h
  have hS : va_S A s.heap s.heap [] := va_S.rf
  have hl := lv_entry ([.ref (a 0), .int a1, .ref o]) (n := 4) (Nat.le_of_ble_eq_true rfl)
  rw [lg_entry_eq]
  generalize (lg_sl ([.ref (a 0), .int a1, .ref o]) ++ List.replicate (4 - (lg_sl ([.ref (a 0), .int a1, .ref o])).length) Slot.unset).toArray = ls at hl ⊢
  have hl : lv_has ls 4 [(0, .ref (a 0)), (1, .int a1), (2, .ref o)] := hl
  suffices hgo : ∀ (H : Heap) (locs : List Loc), va_P (dC, dI) vwCl ((wL cI cZ cS cL (fS hs) (fG hs) o fl a M) ++ RW cI cZ hs) H → va_D A ((wL cI cZ cS cL (fS hs) (fG hs) o fl a M) ++ RW cI cZ hs) → va_S A s.heap H locs → W p l e (headSpec wsL_scrap ({ frames := 8, cells := 16, slots := 316, locals := 153 } : Room)).room s m ([.ref (a 0), .int a1, .ref o] : List Value).toArray below meth c H locs 0 0 (MQ below (va_Qi (S := HS × (Nat → Int64)) (fun k u => k = kk ∧ cts u.1 = z3 ∧ ∀ v, r = .inr v → u.2 0 = v.toInt64) (fun u t => WE (dC, dI) cI cZ ((wL cI cZ cS cL (fS u.1) (fG u.1) o u.2 a z2) ++ RW cI cZ u.1) A t) A) ([.ref (a 0), .int a1, .ref o] : List Value).toArray s 16 316 A) (F0 m 0 ls []) from hgo _ _ hP hD hS
  intro H locs hP hD hS
  refine lv_aload_n hx hb dL_scrap_0 rfl (lv_at hl 2 rfl) ?_
  refine lv_iconst (v := (0 : Int32)) hx hb dL_scrap_1 (by decide) ?_
  refine lv_aload_n hx hb dL_scrap_2 rfl (lv_at hl 0 rfl) ?_
  refine lv_iload_n hx hb dL_scrap_3 rfl (lv_at hl 1 rfl) ?_
  have hPc := hP.part (X := (wL cI cZ cS cL (fS hs) (fG hs) o fl a M)) (cx := (wX8 cI cZ cS (fS hs) (fG hs) a M)) [1, 2, 3, 4, 5, 6, 7, 8, 9, 10, 11, 12, 13, 14, 15, 16, 17, 18, 19, 20, 21, 22, 23, 24, 25, 26, 27, 28, 29, 30, 31, 32, 33, 34, 35, 36, 37, 38, 39, 40, 41, 42] rfl
  have hDc := hD.part (X := (wL cI cZ cS cL (fS hs) (fG hs) o fl a M)) (cx := (wX8 cI cZ cS (fS hs) (fG hs) a M)) [1, 2, 3, 4, 5, 6, 7, 8, 9, 10, 11, 12, 13, 14, 15, 16, 17, 18, 19, 20, 21, 22, 23, 24, 25, 26, 27, 28, 29, 30, 31, 32, 33, 34, 35, 36, 37, 38, 39, 40, 41, 42] (by decide) rfl
  have hFc := va_freeP (X := (wL cI cZ cS cL (fS hs) (fG hs) o fl a M)) (cx := (wX8 cI cZ cS (fS hs) (fG hs) a M)) hD hS hA [1, 2, 3, 4, 5, 6, 7, 8, 9, 10, 11, 12, 13, 14, 15, 16, 17, 18, 19, 20, 21, 22, 23, 24, 25, 26, 27, 28, 29, 30, 31, 32, 33, 34, 35, 36, 37, 38, 39, 40, 41, 42] rfl
  rcases hA9 with ⟨v, hr9, hk9⟩ | ⟨i9, E9, hi9, hr9, hk9⟩
  · subst hr9
    subst hk9
    refine va_calli (va_runV (As := [.int a1]) (rest := [.int (0 : Int32), .ref o]) ⟨hx, hb, hml, hown, hts⟩ (n_X8_scrap l dC dI cI cZ cS hs a H.size M a1 v z2 z3 hf) (cwV 1 hts gL_scrap_X8_scrap rfl rfl rfl (by decide +kernel) ⟨Nat.le_of_ble_eq_true rfl, Nat.le_of_ble_eq_true rfl⟩) ⟨WR8.blind, va_recv hK hP (ci := 8) (q0 := 1) rfl rfl, WR8.pre hPc hK8 hDc hNW⟩ rfl rfl hl.1 rfl (lv_room (Nat.le_of_ble_eq_true rfl)) dL_scrap_4 ⟨Nat.le_of_ble_eq_true rfl, Nat.le_of_ble_eq_true rfl⟩) hS (fun q _ h => hFc q h) hFc (fun rv hs1 t H1 locs ht hvm hw hB hz1 hk1 hS => ?_)
    obtain ⟨hP1, hD1⟩ := hB
    rw [ht] at hP1
    obtain ⟨hw1, hw2⟩ := hw
    rw [hw1]
    obtain ⟨hP, hD⟩ := va_joinP (X := (wL cI cZ cS cL (fS hs) (fG hs) o fl a M)) (cx := (wX8 cI cZ cS (fS hs) (fG hs) a M)) (wr := [(o, .inl (cL, 1, .inr (.inl fl)))]) (rx := (wX8 cI cZ cS (fS hs1) (fG hs1) a z2)) hP hD [1, 2, 3, 4, 5, 6, 7, 8, 9, 10, 11, 12, 13, 14, 15, 16, 17, 18, 19, 20, 21, 22, 23, 24, 25, 26, 27, 28, 29, 30, 31, 32, 33, 34, 35, 36, 37, 38, 39, 40, 41, 42] [0] rfl rfl (by decide) (by decide) hk1 hFc hP1 hD1
    have hP : va_P (dC, dI) vwCl ((wL cI cZ cS cL (fS hs1) (fG hs1) o fl a z2) ++ RW cI cZ hs1) H1 := hP
    have hD : va_D A ((wL cI cZ cS cL (fS hs1) (fG hs1) o fl a z2) ++ RW cI cZ hs1) := hD
    generalize H1 = H at hP hS ⊢
    refine lv_i2l (v := v.toInt64) hx hb dL_scrap_7 rfl ?_
    refine va_last (D := (dC, dI)) (f := fl) hx hb hK hP hD hS 0 3 rfl rfl (inb_in rfl) dL_scrap_8 (fun H locs hP hD hS => ?_)
    have hP : va_P (dC, dI) vwCl ((wL cI cZ cS cL (fS hs1) (fG hs1) o (vp_updL fl 0 v.toInt64) a z2) ++ RW cI cZ hs1) H := hP
    have hD : va_D A ((wL cI cZ cS cL (fS hs1) (fG hs1) o (vp_updL fl 0 v.toInt64) a z2) ++ RW cI cZ hs1) := hD
    refine lv_goto (tgt := 18) hx hb dL_scrap_9 (by decide) ?_
    refine lv_iconst (v := (0 : Int32)) hx hb dL_scrap_18 (by decide) ?_
    refine W.widen (k := 16) (n := 316) (Nat.le_of_ble_eq_true rfl) (Nat.le_of_ble_eq_true rfl) ?_
    exact W.iret hx hb hr (fun t ht hW => ⟨⟨_, (hs1, (vp_updL fl 0 v.toInt64)), rfl, ⟨rfl, hw2, fun v9 h9 => by cases h9; rfl⟩, WE.mk hP hD ht⟩, hS.F ht⟩) hS.2.2 dL_scrap_19
  · subst hr9
    have hz3 := hC E9 rfl
    subst hz3
    refine vx_thrH (vx_runV (As := [.int a1]) (rest := [.int (0 : Int32), .ref o]) ⟨hx, hb, hml, hown, hts⟩ (t_X8_scrap l hst dC dI cI cZ cS hs a _ M a1 E9 z2 (cts hs) hf) (cwV 1 hts gL_scrap_X8_scrap rfl rfl rfl (by decide +kernel) ⟨Nat.le_of_ble_eq_true rfl, Nat.le_of_ble_eq_true rfl⟩) ⟨T8.blind, va_recv hK hP (ci := 8) (q0 := 1) rfl rfl, T8.pre hPc hK8 hDc hNW (hEX.at hS hFc)⟩ rfl rfl hl.1 rfl (lv_room (Nat.le_of_ble_eq_true rfl)) dL_scrap_4 ⟨Nat.le_of_ble_eq_true rfl, Nat.le_of_ble_eq_true rfl⟩) hS (fun q _ h => hFc q h) hFc (fun ce q9 t H1 locs1 ht hal hP1 hD1 hz1 hk1 hS hce hcv hcl => ?_)
    obtain ⟨hP, hD⟩ := va_joinP (X := (wL cI cZ cS cL (fS hs) (fG hs) o fl a M)) (cx := (wX8 cI cZ cS (fS hs) (fG hs) a M)) (wr := [(o, .inl (cL, 1, .inr (.inl fl)))]) (rx := (wX8 cI cZ cS (fS hs) (fG hs) a z2)) hP hD [1, 2, 3, 4, 5, 6, 7, 8, 9, 10, 11, 12, 13, 14, 15, 16, 17, 18, 19, 20, 21, 22, 23, 24, 25, 26, 27, 28, 29, 30, 31, 32, 33, 34, 35, 36, 37, 38, 39, 40, 41, 42] [0] rfl rfl (by decide) (by decide) hk1 hFc hP1 hD1
    have hP : va_P (dC, dI) vwCl ((wL cI cZ cS cL (fS hs) (fG hs) o fl a z2) ++ RW cI cZ hs) H1 := hP
    have hD : va_D A ((wL cI cZ cS cL (fS hs) (fG hs) o fl a z2) ++ RW cI cZ hs) := hD
    generalize H1 = H at hP hS hce ⊢
    rcases (show i9 = 0 ∨ i9 = 1 by have h7 := (List.getElem?_eq_some_iff.mp hi9).1; simp only [List.length] at h7; omega) with rfl | rfl
    · cases hi9
      refine vx_catch (own := RL) (name := "java/lang/IndexOutOfBoundsException") hown [] ⟨0, 9, 12, 20⟩ [⟨0, 9, 15, 15⟩] htab (fun z hz => nomatch hz) rfl (by decide) hcl20 ((nc422 hNW).use rfl) hce hcv hcl ?_
      refine lv_astore_n (lv' := [(3, .ref q9), (0, .ref (a 0)), (1, .int a1), (2, .ref o)]) hx hb dL_scrap_12 rfl hl (by decide) rfl (fun ls hl => ?_)
      refine lv_iconst (v := (1 : Int32)) hx hb dL_scrap_13 (by decide) ?_
      refine W.widen (k := 16) (n := 316) (Nat.le_of_ble_eq_true rfl) (Nat.le_of_ble_eq_true rfl) ?_
      exact W.iret hx hb hr (fun t ht hW => ⟨⟨_, (hs, fl), rfl, ⟨hk9.symm, rfl, fun v9 h9 => by cases h9⟩, WE.mk hP hD ht⟩, hS.F ht⟩) hS.2.2 dL_scrap_14
    · cases hi9
      refine vx_catch (own := RL) (name := "java/lang/IllegalStateException") hown [⟨0, 9, 12, 20⟩] ⟨0, 9, 15, 15⟩ [] htab (fun z hz => by
      rcases (show z = ⟨0, 9, 12, 20⟩ by simpa using hz) with rfl
      · exact Or.inr ⟨by decide, "java/lang/IndexOutOfBoundsException", hcl20, hNC ("java/lang/IllegalStateException", "java/lang/IndexOutOfBoundsException") (List.mem_of_getElem? (i := 1) rfl)⟩) rfl (by decide) hcl15 ((nc58 hNW).use rfl) hce hcv hcl ?_
      refine lv_astore_n (lv' := [(3, .ref q9), (0, .ref (a 0)), (1, .int a1), (2, .ref o)]) hx hb dL_scrap_15 rfl hl (by decide) rfl (fun ls hl => ?_)
      refine lv_iconst (v := (2 : Int32)) hx hb dL_scrap_16 (by decide) ?_
      refine W.widen (k := 16) (n := 316) (Nat.le_of_ble_eq_true rfl) (Nat.le_of_ble_eq_true rfl) ?_
      exact W.iret hx hb hr (fun t ht hW => ⟨⟨_, (hs, fl), rfl, ⟨hk9.symm, rfl, fun v9 h9 => by cases h9⟩, WE.mk hP hD ht⟩, hS.F ht⟩) hS.2.2 dL_scrap_17
set_option maxHeartbeats 4000000 in
set_option maxRecDepth 100000 in
theorem w_L_fetch (l : Launch) (hst : l.stackTraces = false) (dC : Nat → ClassId) (dI : Nat → Nat → Nat) (cI cZ cS cL : ClassId) (hs : HS) (o : Nat) (fl : Nat → Int64) (a : Nat → Nat) (sz : Nat) (M : Mem) (a1 : Int32) (r : String ⊕ Int32) (kk : Int32) (z2 : Mem) (z3 : Nat → Option Mem) (hf : fX8_fetch (cts hs) M a1 = some (r, z2, z3)) (hA9 : Ans ["java/lang/IndexOutOfBoundsException", "java/lang/IllegalStateException"] r kk) (hC : ∀ E, r = .inl E → z3 = cts hs) : Met l yL_fetch wsL_fetch ({ frames := 8, cells := 16, slots := 316, locals := 152 } : Room) (va_Pc [.ref (a 0), .int a1, .ref o] (T9 (dC, dI) cI cZ cS cL ((wL cI cZ cS cL (fS hs) (fG hs) o fl a M) ++ RW cI cZ hs) sz)) (va_Qi (S := HS × (Nat → Int64)) (fun k u => k = kk ∧ cts u.1 = z3 ∧ ∀ v, r = .inr v → u.2 0 = v.toInt64) (fun u t => WE (dC, dI) cI cZ ((wL cI cZ cS cL (fS u.1) (fG u.1) o u.2 a z2) ++ RW cI cZ u.1) (va_A ((wL cI cZ cS cL (fS hs) (fG hs) o fl a M) ++ RW cI cZ hs) sz) t) (va_A ((wL cI cZ cS cL (fS hs) (fG hs) o fl a M) ++ RW cI cZ hs) sz)) 16 316 (va_A ((wL cI cZ cS cL (fS hs) (fG hs) o fl a M) ++ RW cI cZ hs) sz) := by
  refine va_MetW (cc := cL_fetch) (maxL := 4) (ret := (some .int)) (hh := [(0, 9, 12, 20), (0, 9, 15, 15)]) (by decide) rfl ?_
  intro p e s m args below meth c s₁ B hml hv
  obtain ⟨rfl, hsz, hP, hK, hD0, hNW, hEX, hNC⟩ := hv
  have hx := B.exec
  have hb := B.bytes
  have hr := B.returns
  have hts := atoms_spec (ws := wsL_fetch) B.pre
  have hown : s.vm.findClass RL = some m.cls := findClass_of_methodNamed B.named
  have htab : c.exceptionTable.toList = tableOf [(0, 9, 12, 20), (0, 9, 15, 15)] := vx_table (x := yL_law) B (hts (.codeWith yL_fetch cL_fetch 4 (some .int) [(0, 9, 12, 20), (0, 9, 15, 15)]) List.mem_cons_self)
  have hK8 : va_K (dC, dI) vwCl (tys8 cI cZ cS) s := hK.sub (tys' := tys8 cI cZ cS) [0, 1, 2] rfl
  have hcl20 := hts (.classLink RL 20 "java/lang/IndexOutOfBoundsException") (by decide +kernel)
  have hcl15 := hts (.classLink RL 15 "java/lang/IllegalStateException") (by decide +kernel)
  subst hsz
  have hD := hD0.self (sz := s.heap.size)
  generalize hAe : va_A ((wL cI cZ cS cL (fS hs) (fG hs) o fl a M) ++ RW cI cZ hs) s.heap.size = A at hD hEX ⊢
  have hA : ∀ q : Nat, s.heap.size ≤ q → A q := fun q h => by rw [← hAe]; exact Or.inr h
  have hS : va_S A s.heap s.heap [] := va_S.rf
  have hl := lv_entry ([.ref (a 0), .int a1, .ref o]) (n := 4) (Nat.le_of_ble_eq_true rfl)
  rw [lg_entry_eq]
  generalize (lg_sl ([.ref (a 0), .int a1, .ref o]) ++ List.replicate (4 - (lg_sl ([.ref (a 0), .int a1, .ref o])).length) Slot.unset).toArray = ls at hl ⊢
  have hl : lv_has ls 4 [(0, .ref (a 0)), (1, .int a1), (2, .ref o)] := hl
  suffices hgo : ∀ (H : Heap) (locs : List Loc), va_P (dC, dI) vwCl ((wL cI cZ cS cL (fS hs) (fG hs) o fl a M) ++ RW cI cZ hs) H → va_D A ((wL cI cZ cS cL (fS hs) (fG hs) o fl a M) ++ RW cI cZ hs) → va_S A s.heap H locs → W p l e (headSpec wsL_fetch ({ frames := 8, cells := 16, slots := 316, locals := 152 } : Room)).room s m ([.ref (a 0), .int a1, .ref o] : List Value).toArray below meth c H locs 0 0 (MQ below (va_Qi (S := HS × (Nat → Int64)) (fun k u => k = kk ∧ cts u.1 = z3 ∧ ∀ v, r = .inr v → u.2 0 = v.toInt64) (fun u t => WE (dC, dI) cI cZ ((wL cI cZ cS cL (fS u.1) (fG u.1) o u.2 a z2) ++ RW cI cZ u.1) A t) A) ([.ref (a 0), .int a1, .ref o] : List Value).toArray s 16 316 A) (F0 m 0 ls []) from hgo _ _ hP hD hS
  intro H locs hP hD hS
  refine lv_aload_n hx hb dL_fetch_0 rfl (lv_at hl 2 rfl) ?_
  refine lv_iconst (v := (0 : Int32)) hx hb dL_fetch_1 (by decide) ?_
  refine lv_aload_n hx hb dL_fetch_2 rfl (lv_at hl 0 rfl) ?_
  refine lv_iload_n hx hb dL_fetch_3 rfl (lv_at hl 1 rfl) ?_
  have hPc := hP.part (X := (wL cI cZ cS cL (fS hs) (fG hs) o fl a M)) (cx := (wX8 cI cZ cS (fS hs) (fG hs) a M)) [1, 2, 3, 4, 5, 6, 7, 8, 9, 10, 11, 12, 13, 14, 15, 16, 17, 18, 19, 20, 21, 22, 23, 24, 25, 26, 27, 28, 29, 30, 31, 32, 33, 34, 35, 36, 37, 38, 39, 40, 41, 42] rfl
  have hDc := hD.part (X := (wL cI cZ cS cL (fS hs) (fG hs) o fl a M)) (cx := (wX8 cI cZ cS (fS hs) (fG hs) a M)) [1, 2, 3, 4, 5, 6, 7, 8, 9, 10, 11, 12, 13, 14, 15, 16, 17, 18, 19, 20, 21, 22, 23, 24, 25, 26, 27, 28, 29, 30, 31, 32, 33, 34, 35, 36, 37, 38, 39, 40, 41, 42] (by decide) rfl
  have hFc := va_freeP (X := (wL cI cZ cS cL (fS hs) (fG hs) o fl a M)) (cx := (wX8 cI cZ cS (fS hs) (fG hs) a M)) hD hS hA [1, 2, 3, 4, 5, 6, 7, 8, 9, 10, 11, 12, 13, 14, 15, 16, 17, 18, 19, 20, 21, 22, 23, 24, 25, 26, 27, 28, 29, 30, 31, 32, 33, 34, 35, 36, 37, 38, 39, 40, 41, 42] rfl
  rcases hA9 with ⟨v, hr9, hk9⟩ | ⟨i9, E9, hi9, hr9, hk9⟩
  · subst hr9
    subst hk9
    refine va_calli (va_runV (As := [.int a1]) (rest := [.int (0 : Int32), .ref o]) ⟨hx, hb, hml, hown, hts⟩ (n_X8_fetch l dC dI cI cZ cS hs a H.size M a1 v z2 z3 hf) (cwV 1 hts gL_fetch_X8_fetch rfl rfl rfl (by decide +kernel) ⟨Nat.le_of_ble_eq_true rfl, Nat.le_of_ble_eq_true rfl⟩) ⟨WR8.blind, va_recv hK hP (ci := 8) (q0 := 1) rfl rfl, WR8.pre hPc hK8 hDc hNW⟩ rfl rfl hl.1 rfl (lv_room (Nat.le_of_ble_eq_true rfl)) dL_fetch_4 ⟨Nat.le_of_ble_eq_true rfl, Nat.le_of_ble_eq_true rfl⟩) hS (fun q _ h => hFc q h) hFc (fun rv hs1 t H1 locs ht hvm hw hB hz1 hk1 hS => ?_)
    obtain ⟨hP1, hD1⟩ := hB
    rw [ht] at hP1
    obtain ⟨hw1, hw2⟩ := hw
    rw [hw1]
    obtain ⟨hP, hD⟩ := va_joinP (X := (wL cI cZ cS cL (fS hs) (fG hs) o fl a M)) (cx := (wX8 cI cZ cS (fS hs) (fG hs) a M)) (wr := [(o, .inl (cL, 1, .inr (.inl fl)))]) (rx := (wX8 cI cZ cS (fS hs1) (fG hs1) a z2)) hP hD [1, 2, 3, 4, 5, 6, 7, 8, 9, 10, 11, 12, 13, 14, 15, 16, 17, 18, 19, 20, 21, 22, 23, 24, 25, 26, 27, 28, 29, 30, 31, 32, 33, 34, 35, 36, 37, 38, 39, 40, 41, 42] [0] rfl rfl (by decide) (by decide) hk1 hFc hP1 hD1
    have hP : va_P (dC, dI) vwCl ((wL cI cZ cS cL (fS hs1) (fG hs1) o fl a z2) ++ RW cI cZ hs1) H1 := hP
    have hD : va_D A ((wL cI cZ cS cL (fS hs1) (fG hs1) o fl a z2) ++ RW cI cZ hs1) := hD
    generalize H1 = H at hP hS ⊢
    refine lv_i2l (v := v.toInt64) hx hb dL_fetch_7 rfl ?_
    refine va_last (D := (dC, dI)) (f := fl) hx hb hK hP hD hS 0 3 rfl rfl (inb_in rfl) dL_fetch_8 (fun H locs hP hD hS => ?_)
    have hP : va_P (dC, dI) vwCl ((wL cI cZ cS cL (fS hs1) (fG hs1) o (vp_updL fl 0 v.toInt64) a z2) ++ RW cI cZ hs1) H := hP
    have hD : va_D A ((wL cI cZ cS cL (fS hs1) (fG hs1) o (vp_updL fl 0 v.toInt64) a z2) ++ RW cI cZ hs1) := hD
    refine lv_goto (tgt := 18) hx hb dL_fetch_9 (by decide) ?_
    refine lv_iconst (v := (0 : Int32)) hx hb dL_fetch_18 (by decide) ?_
    refine W.widen (k := 16) (n := 316) (Nat.le_of_ble_eq_true rfl) (Nat.le_of_ble_eq_true rfl) ?_
    exact W.iret hx hb hr (fun t ht hW => ⟨⟨_, (hs1, (vp_updL fl 0 v.toInt64)), rfl, ⟨rfl, hw2, fun v9 h9 => by cases h9; rfl⟩, WE.mk hP hD ht⟩, hS.F ht⟩) hS.2.2 dL_fetch_19
  · subst hr9
    have hz3 := hC E9 rfl
    subst hz3
    refine vx_thrH (vx_runV (As := [.int a1]) (rest := [.int (0 : Int32), .ref o]) ⟨hx, hb, hml, hown, hts⟩ (t_X8_fetch l hst dC dI cI cZ cS hs a _ M a1 E9 z2 (cts hs) hf) (cwV 1 hts gL_fetch_X8_fetch rfl rfl rfl (by decide +kernel) ⟨Nat.le_of_ble_eq_true rfl, Nat.le_of_ble_eq_true rfl⟩) ⟨T8.blind, va_recv hK hP (ci := 8) (q0 := 1) rfl rfl, T8.pre hPc hK8 hDc hNW (hEX.at hS hFc)⟩ rfl rfl hl.1 rfl (lv_room (Nat.le_of_ble_eq_true rfl)) dL_fetch_4 ⟨Nat.le_of_ble_eq_true rfl, Nat.le_of_ble_eq_true rfl⟩) hS (fun q _ h => hFc q h) hFc (fun ce q9 t H1 locs1 ht hal hP1 hD1 hz1 hk1 hS hce hcv hcl => ?_)
    obtain ⟨hP, hD⟩ := va_joinP (X := (wL cI cZ cS cL (fS hs) (fG hs) o fl a M)) (cx := (wX8 cI cZ cS (fS hs) (fG hs) a M)) (wr := [(o, .inl (cL, 1, .inr (.inl fl)))]) (rx := (wX8 cI cZ cS (fS hs) (fG hs) a z2)) hP hD [1, 2, 3, 4, 5, 6, 7, 8, 9, 10, 11, 12, 13, 14, 15, 16, 17, 18, 19, 20, 21, 22, 23, 24, 25, 26, 27, 28, 29, 30, 31, 32, 33, 34, 35, 36, 37, 38, 39, 40, 41, 42] [0] rfl rfl (by decide) (by decide) hk1 hFc hP1 hD1
    have hP : va_P (dC, dI) vwCl ((wL cI cZ cS cL (fS hs) (fG hs) o fl a z2) ++ RW cI cZ hs) H1 := hP
    have hD : va_D A ((wL cI cZ cS cL (fS hs) (fG hs) o fl a z2) ++ RW cI cZ hs) := hD
    generalize H1 = H at hP hS hce ⊢
    rcases (show i9 = 0 ∨ i9 = 1 by have h7 := (List.getElem?_eq_some_iff.mp hi9).1; simp only [List.length] at h7; omega) with rfl | rfl
    · cases hi9
      refine vx_catch (own := RL) (name := "java/lang/IndexOutOfBoundsException") hown [] ⟨0, 9, 12, 20⟩ [⟨0, 9, 15, 15⟩] htab (fun z hz => nomatch hz) rfl (by decide) hcl20 ((nc422 hNW).use rfl) hce hcv hcl ?_
      refine lv_astore_n (lv' := [(3, .ref q9), (0, .ref (a 0)), (1, .int a1), (2, .ref o)]) hx hb dL_fetch_12 rfl hl (by decide) rfl (fun ls hl => ?_)
      refine lv_iconst (v := (1 : Int32)) hx hb dL_fetch_13 (by decide) ?_
      refine W.widen (k := 16) (n := 316) (Nat.le_of_ble_eq_true rfl) (Nat.le_of_ble_eq_true rfl) ?_
      exact W.iret hx hb hr (fun t ht hW => ⟨⟨_, (hs, fl), rfl, ⟨hk9.symm, rfl, fun v9 h9 => by cases h9⟩, WE.mk hP hD ht⟩, hS.F ht⟩) hS.2.2 dL_fetch_14
    · cases hi9
      refine vx_catch (own := RL) (name := "java/lang/IllegalStateException") hown [⟨0, 9, 12, 20⟩] ⟨0, 9, 15, 15⟩ [] htab (fun z hz => by
      rcases (show z = ⟨0, 9, 12, 20⟩ by simpa using hz) with rfl
      · exact Or.inr ⟨by decide, "java/lang/IndexOutOfBoundsException", hcl20, hNC ("java/lang/IllegalStateException", "java/lang/IndexOutOfBoundsException") (List.mem_of_getElem? (i := 1) rfl)⟩) rfl (by decide) hcl15 ((nc58 hNW).use rfl) hce hcv hcl ?_
      refine lv_astore_n (lv' := [(3, .ref q9), (0, .ref (a 0)), (1, .int a1), (2, .ref o)]) hx hb dL_fetch_15 rfl hl (by decide) rfl (fun ls hl => ?_)
      refine lv_iconst (v := (2 : Int32)) hx hb dL_fetch_16 (by decide) ?_
      refine W.widen (k := 16) (n := 316) (Nat.le_of_ble_eq_true rfl) (Nat.le_of_ble_eq_true rfl) ?_
      exact W.iret hx hb hr (fun t ht hW => ⟨⟨_, (hs, fl), rfl, ⟨hk9.symm, rfl, fun v9 h9 => by cases h9⟩, WE.mk hP hD ht⟩, hS.F ht⟩) hS.2.2 dL_fetch_17
set_option maxHeartbeats 4000000 in
set_option maxRecDepth 100000 in
theorem w_L_stow (l : Launch) (hst : l.stackTraces = false) (dC : Nat → ClassId) (dI : Nat → Nat → Nat) (cI cZ cS cL : ClassId) (hs : HS) (o : Nat) (fl : Nat → Int64) (a : Nat → Nat) (sz : Nat) (M : Mem) (r : String ⊕ Int32) (kk : Int32) (z2 : Mem) (z3 : Nat → Option Mem) (hf : fX8_stow (cts hs) M  = some (r, z2, z3)) (hA9 : Ans ["java/lang/IllegalStateException"] r kk) (hC : ∀ E, r = .inl E → z3 = cts hs) : Met l yL_stow wsL_stow ({ frames := 8, cells := 16, slots := 316, locals := 150 } : Room) (va_Pc [.ref (a 0), .ref o] (T9 (dC, dI) cI cZ cS cL ((wL cI cZ cS cL (fS hs) (fG hs) o fl a M) ++ RW cI cZ hs) sz)) (va_Qi (S := HS × (Nat → Int64)) (fun k u => k = kk ∧ cts u.1 = z3 ∧ ∀ v, r = .inr v → u.2 0 = v.toInt64) (fun u t => WE (dC, dI) cI cZ ((wL cI cZ cS cL (fS u.1) (fG u.1) o u.2 a z2) ++ RW cI cZ u.1) (va_A ((wL cI cZ cS cL (fS hs) (fG hs) o fl a M) ++ RW cI cZ hs) sz) t) (va_A ((wL cI cZ cS cL (fS hs) (fG hs) o fl a M) ++ RW cI cZ hs) sz)) 16 316 (va_A ((wL cI cZ cS cL (fS hs) (fG hs) o fl a M) ++ RW cI cZ hs) sz) := by
  refine va_MetW (cc := cL_stow) (maxL := 3) (ret := (some .int)) (hh := [(0, 8, 11, 15)]) (by decide) rfl ?_
  intro p e s m args below meth c s₁ B hml hv
  obtain ⟨rfl, hsz, hP, hK, hD0, hNW, hEX, hNC⟩ := hv
  have hx := B.exec
  have hb := B.bytes
  have hr := B.returns
  have hts := atoms_spec (ws := wsL_stow) B.pre
  have hown : s.vm.findClass RL = some m.cls := findClass_of_methodNamed B.named
  have htab : c.exceptionTable.toList = tableOf [(0, 8, 11, 15)] := vx_table (x := yL_law) B (hts (.codeWith yL_stow cL_stow 3 (some .int) [(0, 8, 11, 15)]) List.mem_cons_self)
  have hK8 : va_K (dC, dI) vwCl (tys8 cI cZ cS) s := hK.sub (tys' := tys8 cI cZ cS) [0, 1, 2] rfl
  have hcl15 := hts (.classLink RL 15 "java/lang/IllegalStateException") (by decide +kernel)
  subst hsz
  have hD := hD0.self (sz := s.heap.size)
  generalize hAe : va_A ((wL cI cZ cS cL (fS hs) (fG hs) o fl a M) ++ RW cI cZ hs) s.heap.size = A at hD hEX ⊢
  have hA : ∀ q : Nat, s.heap.size ≤ q → A q := fun q h => by rw [← hAe]; exact Or.inr h
  have hS : va_S A s.heap s.heap [] := va_S.rf
  have hl := lv_entry ([.ref (a 0), .ref o]) (n := 3) (Nat.le_of_ble_eq_true rfl)
  rw [lg_entry_eq]
  generalize (lg_sl ([.ref (a 0), .ref o]) ++ List.replicate (3 - (lg_sl ([.ref (a 0), .ref o])).length) Slot.unset).toArray = ls at hl ⊢
  have hl : lv_has ls 3 [(0, .ref (a 0)), (1, .ref o)] := hl
  suffices hgo : ∀ (H : Heap) (locs : List Loc), va_P (dC, dI) vwCl ((wL cI cZ cS cL (fS hs) (fG hs) o fl a M) ++ RW cI cZ hs) H → va_D A ((wL cI cZ cS cL (fS hs) (fG hs) o fl a M) ++ RW cI cZ hs) → va_S A s.heap H locs → W p l e (headSpec wsL_stow ({ frames := 8, cells := 16, slots := 316, locals := 150 } : Room)).room s m ([.ref (a 0), .ref o] : List Value).toArray below meth c H locs 0 0 (MQ below (va_Qi (S := HS × (Nat → Int64)) (fun k u => k = kk ∧ cts u.1 = z3 ∧ ∀ v, r = .inr v → u.2 0 = v.toInt64) (fun u t => WE (dC, dI) cI cZ ((wL cI cZ cS cL (fS u.1) (fG u.1) o u.2 a z2) ++ RW cI cZ u.1) A t) A) ([.ref (a 0), .ref o] : List Value).toArray s 16 316 A) (F0 m 0 ls []) from hgo _ _ hP hD hS
  intro H locs hP hD hS
  refine lv_aload_n hx hb dL_stow_0 rfl (lv_at hl 1 rfl) ?_
  refine lv_iconst (v := (0 : Int32)) hx hb dL_stow_1 (by decide) ?_
  refine lv_aload_n hx hb dL_stow_2 rfl (lv_at hl 0 rfl) ?_
  have hPc := hP.part (X := (wL cI cZ cS cL (fS hs) (fG hs) o fl a M)) (cx := (wX8 cI cZ cS (fS hs) (fG hs) a M)) [1, 2, 3, 4, 5, 6, 7, 8, 9, 10, 11, 12, 13, 14, 15, 16, 17, 18, 19, 20, 21, 22, 23, 24, 25, 26, 27, 28, 29, 30, 31, 32, 33, 34, 35, 36, 37, 38, 39, 40, 41, 42] rfl
  have hDc := hD.part (X := (wL cI cZ cS cL (fS hs) (fG hs) o fl a M)) (cx := (wX8 cI cZ cS (fS hs) (fG hs) a M)) [1, 2, 3, 4, 5, 6, 7, 8, 9, 10, 11, 12, 13, 14, 15, 16, 17, 18, 19, 20, 21, 22, 23, 24, 25, 26, 27, 28, 29, 30, 31, 32, 33, 34, 35, 36, 37, 38, 39, 40, 41, 42] (by decide) rfl
  have hFc := va_freeP (X := (wL cI cZ cS cL (fS hs) (fG hs) o fl a M)) (cx := (wX8 cI cZ cS (fS hs) (fG hs) a M)) hD hS hA [1, 2, 3, 4, 5, 6, 7, 8, 9, 10, 11, 12, 13, 14, 15, 16, 17, 18, 19, 20, 21, 22, 23, 24, 25, 26, 27, 28, 29, 30, 31, 32, 33, 34, 35, 36, 37, 38, 39, 40, 41, 42] rfl
  rcases hA9 with ⟨v, hr9, hk9⟩ | ⟨i9, E9, hi9, hr9, hk9⟩
  · subst hr9
    subst hk9
    refine va_calli (va_runV (As := []) (rest := [.int (0 : Int32), .ref o]) ⟨hx, hb, hml, hown, hts⟩ (n_X8_stow l dC dI cI cZ cS hs a H.size M v z2 z3 hf) (cwV 0 hts gL_stow_X8_stow rfl rfl rfl (by decide +kernel) ⟨Nat.le_of_ble_eq_true rfl, Nat.le_of_ble_eq_true rfl⟩) ⟨WR8.blind, va_recv hK hP (ci := 8) (q0 := 1) rfl rfl, WR8.pre hPc hK8 hDc hNW⟩ rfl rfl hl.1 rfl (lv_room (Nat.le_of_ble_eq_true rfl)) dL_stow_3 ⟨Nat.le_of_ble_eq_true rfl, Nat.le_of_ble_eq_true rfl⟩) hS (fun q _ h => hFc q h) hFc (fun rv hs1 t H1 locs ht hvm hw hB hz1 hk1 hS => ?_)
    obtain ⟨hP1, hD1⟩ := hB
    rw [ht] at hP1
    obtain ⟨hw1, hw2⟩ := hw
    rw [hw1]
    obtain ⟨hP, hD⟩ := va_joinP (X := (wL cI cZ cS cL (fS hs) (fG hs) o fl a M)) (cx := (wX8 cI cZ cS (fS hs) (fG hs) a M)) (wr := [(o, .inl (cL, 1, .inr (.inl fl)))]) (rx := (wX8 cI cZ cS (fS hs1) (fG hs1) a z2)) hP hD [1, 2, 3, 4, 5, 6, 7, 8, 9, 10, 11, 12, 13, 14, 15, 16, 17, 18, 19, 20, 21, 22, 23, 24, 25, 26, 27, 28, 29, 30, 31, 32, 33, 34, 35, 36, 37, 38, 39, 40, 41, 42] [0] rfl rfl (by decide) (by decide) hk1 hFc hP1 hD1
    have hP : va_P (dC, dI) vwCl ((wL cI cZ cS cL (fS hs1) (fG hs1) o fl a z2) ++ RW cI cZ hs1) H1 := hP
    have hD : va_D A ((wL cI cZ cS cL (fS hs1) (fG hs1) o fl a z2) ++ RW cI cZ hs1) := hD
    generalize H1 = H at hP hS ⊢
    refine lv_i2l (v := v.toInt64) hx hb dL_stow_6 rfl ?_
    refine va_last (D := (dC, dI)) (f := fl) hx hb hK hP hD hS 0 3 rfl rfl (inb_in rfl) dL_stow_7 (fun H locs hP hD hS => ?_)
    have hP : va_P (dC, dI) vwCl ((wL cI cZ cS cL (fS hs1) (fG hs1) o (vp_updL fl 0 v.toInt64) a z2) ++ RW cI cZ hs1) H := hP
    have hD : va_D A ((wL cI cZ cS cL (fS hs1) (fG hs1) o (vp_updL fl 0 v.toInt64) a z2) ++ RW cI cZ hs1) := hD
    refine lv_goto (tgt := 14) hx hb dL_stow_8 (by decide) ?_
    refine lv_iconst (v := (0 : Int32)) hx hb dL_stow_14 (by decide) ?_
    refine W.widen (k := 16) (n := 316) (Nat.le_of_ble_eq_true rfl) (Nat.le_of_ble_eq_true rfl) ?_
    exact W.iret hx hb hr (fun t ht hW => ⟨⟨_, (hs1, (vp_updL fl 0 v.toInt64)), rfl, ⟨rfl, hw2, fun v9 h9 => by cases h9; rfl⟩, WE.mk hP hD ht⟩, hS.F ht⟩) hS.2.2 dL_stow_15
  · subst hr9
    have hz3 := hC E9 rfl
    subst hz3
    refine vx_thrH (vx_runV (As := []) (rest := [.int (0 : Int32), .ref o]) ⟨hx, hb, hml, hown, hts⟩ (t_X8_stow l hst dC dI cI cZ cS hs a _ M E9 z2 (cts hs) hf) (cwV 0 hts gL_stow_X8_stow rfl rfl rfl (by decide +kernel) ⟨Nat.le_of_ble_eq_true rfl, Nat.le_of_ble_eq_true rfl⟩) ⟨T8.blind, va_recv hK hP (ci := 8) (q0 := 1) rfl rfl, T8.pre hPc hK8 hDc hNW (hEX.at hS hFc)⟩ rfl rfl hl.1 rfl (lv_room (Nat.le_of_ble_eq_true rfl)) dL_stow_3 ⟨Nat.le_of_ble_eq_true rfl, Nat.le_of_ble_eq_true rfl⟩) hS (fun q _ h => hFc q h) hFc (fun ce q9 t H1 locs1 ht hal hP1 hD1 hz1 hk1 hS hce hcv hcl => ?_)
    obtain ⟨hP, hD⟩ := va_joinP (X := (wL cI cZ cS cL (fS hs) (fG hs) o fl a M)) (cx := (wX8 cI cZ cS (fS hs) (fG hs) a M)) (wr := [(o, .inl (cL, 1, .inr (.inl fl)))]) (rx := (wX8 cI cZ cS (fS hs) (fG hs) a z2)) hP hD [1, 2, 3, 4, 5, 6, 7, 8, 9, 10, 11, 12, 13, 14, 15, 16, 17, 18, 19, 20, 21, 22, 23, 24, 25, 26, 27, 28, 29, 30, 31, 32, 33, 34, 35, 36, 37, 38, 39, 40, 41, 42] [0] rfl rfl (by decide) (by decide) hk1 hFc hP1 hD1
    have hP : va_P (dC, dI) vwCl ((wL cI cZ cS cL (fS hs) (fG hs) o fl a z2) ++ RW cI cZ hs) H1 := hP
    have hD : va_D A ((wL cI cZ cS cL (fS hs) (fG hs) o fl a z2) ++ RW cI cZ hs) := hD
    generalize H1 = H at hP hS hce ⊢
    rcases (show i9 = 0 by have h7 := (List.getElem?_eq_some_iff.mp hi9).1; simp only [List.length] at h7; omega) with rfl
    · cases hi9
      refine vx_catch (own := RL) (name := "java/lang/IllegalStateException") hown [] ⟨0, 8, 11, 15⟩ [] htab (fun z hz => nomatch hz) rfl (by decide) hcl15 ((nc58 hNW).use rfl) hce hcv hcl ?_
      refine lv_astore_n (lv' := [(2, .ref q9), (0, .ref (a 0)), (1, .ref o)]) hx hb dL_stow_11 rfl hl (by decide) rfl (fun ls hl => ?_)
      refine lv_iconst (v := (1 : Int32)) hx hb dL_stow_12 (by decide) ?_
      refine W.widen (k := 16) (n := 316) (Nat.le_of_ble_eq_true rfl) (Nat.le_of_ble_eq_true rfl) ?_
      exact W.iret hx hb hr (fun t ht hW => ⟨⟨_, (hs, fl), rfl, ⟨hk9.symm, rfl, fun v9 h9 => by cases h9⟩, WE.mk hP hD ht⟩, hS.F ht⟩) hS.2.2 dL_stow_13
set_option maxHeartbeats 4000000 in
set_option maxRecDepth 100000 in
theorem w_L_stowAt (l : Launch) (hst : l.stackTraces = false) (dC : Nat → ClassId) (dI : Nat → Nat → Nat) (cI cZ cS cL : ClassId) (hs : HS) (o : Nat) (fl : Nat → Int64) (a : Nat → Nat) (sz : Nat) (M : Mem) (a1 : Int32) (a2 : Int32) (r : String ⊕ Int32) (kk : Int32) (z2 : Mem) (z3 : Nat → Option Mem) (hf : fX8_stowAt (cts hs) M a1 a2 = some (r, z2, z3)) (hA9 : Ans ["java/lang/IndexOutOfBoundsException", "java/lang/IllegalStateException"] r kk) (hC : ∀ E, r = .inl E → z3 = cts hs) : Met l yL_stowAt wsL_stowAt ({ frames := 9, cells := 16, slots := 316, locals := 176 } : Room) (va_Pc [.ref (a 0), .int a1, .int a2, .ref o] (T9 (dC, dI) cI cZ cS cL ((wL cI cZ cS cL (fS hs) (fG hs) o fl a M) ++ RW cI cZ hs) sz)) (va_Qi (S := HS × (Nat → Int64)) (fun k u => k = kk ∧ cts u.1 = z3 ∧ ∀ v, r = .inr v → u.2 0 = v.toInt64) (fun u t => WE (dC, dI) cI cZ ((wL cI cZ cS cL (fS u.1) (fG u.1) o u.2 a z2) ++ RW cI cZ u.1) (va_A ((wL cI cZ cS cL (fS hs) (fG hs) o fl a M) ++ RW cI cZ hs) sz) t) (va_A ((wL cI cZ cS cL (fS hs) (fG hs) o fl a M) ++ RW cI cZ hs) sz)) 16 316 (va_A ((wL cI cZ cS cL (fS hs) (fG hs) o fl a M) ++ RW cI cZ hs) sz) := by
  refine va_MetW (cc := cL_stowAt) (maxL := 5) (ret := (some .int)) (hh := [(0, 10, 13, 20), (0, 10, 17, 15)]) (by decide) rfl ?_
  intro p e s m args below meth c s₁ B hml hv
  obtain ⟨rfl, hsz, hP, hK, hD0, hNW, hEX, hNC⟩ := hv
  have hx := B.exec
  have hb := B.bytes
  have hr := B.returns
  have hts := atoms_spec (ws := wsL_stowAt) B.pre
  have hown : s.vm.findClass RL = some m.cls := findClass_of_methodNamed B.named
  have htab : c.exceptionTable.toList = tableOf [(0, 10, 13, 20), (0, 10, 17, 15)] := vx_table (x := yL_law) B (hts (.codeWith yL_stowAt cL_stowAt 5 (some .int) [(0, 10, 13, 20), (0, 10, 17, 15)]) List.mem_cons_self)
  have hK8 : va_K (dC, dI) vwCl (tys8 cI cZ cS) s := hK.sub (tys' := tys8 cI cZ cS) [0, 1, 2] rfl
  have hcl20 := hts (.classLink RL 20 "java/lang/IndexOutOfBoundsException") (by decide +kernel)
  have hcl15 := hts (.classLink RL 15 "java/lang/IllegalStateException") (by decide +kernel)
  subst hsz
  have hD := hD0.self (sz := s.heap.size)
  generalize hAe : va_A ((wL cI cZ cS cL (fS hs) (fG hs) o fl a M) ++ RW cI cZ hs) s.heap.size = A at hD hEX ⊢
  have hA : ∀ q : Nat, s.heap.size ≤ q → A q := fun q h => by rw [← hAe]; exact Or.inr h
  have hS : va_S A s.heap s.heap [] := va_S.rf
  have hl := lv_entry ([.ref (a 0), .int a1, .int a2, .ref o]) (n := 5) (Nat.le_of_ble_eq_true rfl)
  rw [lg_entry_eq]
  generalize (lg_sl ([.ref (a 0), .int a1, .int a2, .ref o]) ++ List.replicate (5 - (lg_sl ([.ref (a 0), .int a1, .int a2, .ref o])).length) Slot.unset).toArray = ls at hl ⊢
  have hl : lv_has ls 5 [(0, .ref (a 0)), (1, .int a1), (2, .int a2), (3, .ref o)] := hl
  suffices hgo : ∀ (H : Heap) (locs : List Loc), va_P (dC, dI) vwCl ((wL cI cZ cS cL (fS hs) (fG hs) o fl a M) ++ RW cI cZ hs) H → va_D A ((wL cI cZ cS cL (fS hs) (fG hs) o fl a M) ++ RW cI cZ hs) → va_S A s.heap H locs → W p l e (headSpec wsL_stowAt ({ frames := 9, cells := 16, slots := 316, locals := 176 } : Room)).room s m ([.ref (a 0), .int a1, .int a2, .ref o] : List Value).toArray below meth c H locs 0 0 (MQ below (va_Qi (S := HS × (Nat → Int64)) (fun k u => k = kk ∧ cts u.1 = z3 ∧ ∀ v, r = .inr v → u.2 0 = v.toInt64) (fun u t => WE (dC, dI) cI cZ ((wL cI cZ cS cL (fS u.1) (fG u.1) o u.2 a z2) ++ RW cI cZ u.1) A t) A) ([.ref (a 0), .int a1, .int a2, .ref o] : List Value).toArray s 16 316 A) (F0 m 0 ls []) from hgo _ _ hP hD hS
  intro H locs hP hD hS
  refine lv_aload_n hx hb dL_stowAt_0 rfl (lv_at hl 3 rfl) ?_
  refine lv_iconst (v := (0 : Int32)) hx hb dL_stowAt_1 (by decide) ?_
  refine lv_aload_n hx hb dL_stowAt_2 rfl (lv_at hl 0 rfl) ?_
  refine lv_iload_n hx hb dL_stowAt_3 rfl (lv_at hl 1 rfl) ?_
  refine lv_iload_n hx hb dL_stowAt_4 rfl (lv_at hl 2 rfl) ?_
  have hPc := hP.part (X := (wL cI cZ cS cL (fS hs) (fG hs) o fl a M)) (cx := (wX8 cI cZ cS (fS hs) (fG hs) a M)) [1, 2, 3, 4, 5, 6, 7, 8, 9, 10, 11, 12, 13, 14, 15, 16, 17, 18, 19, 20, 21, 22, 23, 24, 25, 26, 27, 28, 29, 30, 31, 32, 33, 34, 35, 36, 37, 38, 39, 40, 41, 42] rfl
  have hDc := hD.part (X := (wL cI cZ cS cL (fS hs) (fG hs) o fl a M)) (cx := (wX8 cI cZ cS (fS hs) (fG hs) a M)) [1, 2, 3, 4, 5, 6, 7, 8, 9, 10, 11, 12, 13, 14, 15, 16, 17, 18, 19, 20, 21, 22, 23, 24, 25, 26, 27, 28, 29, 30, 31, 32, 33, 34, 35, 36, 37, 38, 39, 40, 41, 42] (by decide) rfl
  have hFc := va_freeP (X := (wL cI cZ cS cL (fS hs) (fG hs) o fl a M)) (cx := (wX8 cI cZ cS (fS hs) (fG hs) a M)) hD hS hA [1, 2, 3, 4, 5, 6, 7, 8, 9, 10, 11, 12, 13, 14, 15, 16, 17, 18, 19, 20, 21, 22, 23, 24, 25, 26, 27, 28, 29, 30, 31, 32, 33, 34, 35, 36, 37, 38, 39, 40, 41, 42] rfl
  rcases hA9 with ⟨v, hr9, hk9⟩ | ⟨i9, E9, hi9, hr9, hk9⟩
  · subst hr9
    subst hk9
    refine va_calli (va_runV (As := [.int a1, .int a2]) (rest := [.int (0 : Int32), .ref o]) ⟨hx, hb, hml, hown, hts⟩ (n_X8_stowAt l dC dI cI cZ cS hs a H.size M a1 a2 v z2 z3 hf) (cwV 2 hts gL_stowAt_X8_stowAt rfl rfl rfl (by decide +kernel) ⟨Nat.le_of_ble_eq_true rfl, Nat.le_of_ble_eq_true rfl⟩) ⟨WR8.blind, va_recv hK hP (ci := 8) (q0 := 1) rfl rfl, WR8.pre hPc hK8 hDc hNW⟩ rfl rfl hl.1 rfl (lv_room (Nat.le_of_ble_eq_true rfl)) dL_stowAt_5 ⟨Nat.le_of_ble_eq_true rfl, Nat.le_of_ble_eq_true rfl⟩) hS (fun q _ h => hFc q h) hFc (fun rv hs1 t H1 locs ht hvm hw hB hz1 hk1 hS => ?_)
    obtain ⟨hP1, hD1⟩ := hB
    rw [ht] at hP1
    obtain ⟨hw1, hw2⟩ := hw
    rw [hw1]
    obtain ⟨hP, hD⟩ := va_joinP (X := (wL cI cZ cS cL (fS hs) (fG hs) o fl a M)) (cx := (wX8 cI cZ cS (fS hs) (fG hs) a M)) (wr := [(o, .inl (cL, 1, .inr (.inl fl)))]) (rx := (wX8 cI cZ cS (fS hs1) (fG hs1) a z2)) hP hD [1, 2, 3, 4, 5, 6, 7, 8, 9, 10, 11, 12, 13, 14, 15, 16, 17, 18, 19, 20, 21, 22, 23, 24, 25, 26, 27, 28, 29, 30, 31, 32, 33, 34, 35, 36, 37, 38, 39, 40, 41, 42] [0] rfl rfl (by decide) (by decide) hk1 hFc hP1 hD1
    have hP : va_P (dC, dI) vwCl ((wL cI cZ cS cL (fS hs1) (fG hs1) o fl a z2) ++ RW cI cZ hs1) H1 := hP
    have hD : va_D A ((wL cI cZ cS cL (fS hs1) (fG hs1) o fl a z2) ++ RW cI cZ hs1) := hD
    generalize H1 = H at hP hS ⊢
    refine lv_i2l (v := v.toInt64) hx hb dL_stowAt_8 rfl ?_
    refine va_last (D := (dC, dI)) (f := fl) hx hb hK hP hD hS 0 3 rfl rfl (inb_in rfl) dL_stowAt_9 (fun H locs hP hD hS => ?_)
    have hP : va_P (dC, dI) vwCl ((wL cI cZ cS cL (fS hs1) (fG hs1) o (vp_updL fl 0 v.toInt64) a z2) ++ RW cI cZ hs1) H := hP
    have hD : va_D A ((wL cI cZ cS cL (fS hs1) (fG hs1) o (vp_updL fl 0 v.toInt64) a z2) ++ RW cI cZ hs1) := hD
    refine lv_goto (tgt := 21) hx hb dL_stowAt_10 (by decide) ?_
    refine lv_iconst (v := (0 : Int32)) hx hb dL_stowAt_21 (by decide) ?_
    refine W.widen (k := 16) (n := 316) (Nat.le_of_ble_eq_true rfl) (Nat.le_of_ble_eq_true rfl) ?_
    exact W.iret hx hb hr (fun t ht hW => ⟨⟨_, (hs1, (vp_updL fl 0 v.toInt64)), rfl, ⟨rfl, hw2, fun v9 h9 => by cases h9; rfl⟩, WE.mk hP hD ht⟩, hS.F ht⟩) hS.2.2 dL_stowAt_22
  · subst hr9
    have hz3 := hC E9 rfl
    subst hz3
    refine vx_thrH (vx_runV (As := [.int a1, .int a2]) (rest := [.int (0 : Int32), .ref o]) ⟨hx, hb, hml, hown, hts⟩ (t_X8_stowAt l hst dC dI cI cZ cS hs a _ M a1 a2 E9 z2 (cts hs) hf) (cwV 2 hts gL_stowAt_X8_stowAt rfl rfl rfl (by decide +kernel) ⟨Nat.le_of_ble_eq_true rfl, Nat.le_of_ble_eq_true rfl⟩) ⟨T8.blind, va_recv hK hP (ci := 8) (q0 := 1) rfl rfl, T8.pre hPc hK8 hDc hNW (hEX.at hS hFc)⟩ rfl rfl hl.1 rfl (lv_room (Nat.le_of_ble_eq_true rfl)) dL_stowAt_5 ⟨Nat.le_of_ble_eq_true rfl, Nat.le_of_ble_eq_true rfl⟩) hS (fun q _ h => hFc q h) hFc (fun ce q9 t H1 locs1 ht hal hP1 hD1 hz1 hk1 hS hce hcv hcl => ?_)
    obtain ⟨hP, hD⟩ := va_joinP (X := (wL cI cZ cS cL (fS hs) (fG hs) o fl a M)) (cx := (wX8 cI cZ cS (fS hs) (fG hs) a M)) (wr := [(o, .inl (cL, 1, .inr (.inl fl)))]) (rx := (wX8 cI cZ cS (fS hs) (fG hs) a z2)) hP hD [1, 2, 3, 4, 5, 6, 7, 8, 9, 10, 11, 12, 13, 14, 15, 16, 17, 18, 19, 20, 21, 22, 23, 24, 25, 26, 27, 28, 29, 30, 31, 32, 33, 34, 35, 36, 37, 38, 39, 40, 41, 42] [0] rfl rfl (by decide) (by decide) hk1 hFc hP1 hD1
    have hP : va_P (dC, dI) vwCl ((wL cI cZ cS cL (fS hs) (fG hs) o fl a z2) ++ RW cI cZ hs) H1 := hP
    have hD : va_D A ((wL cI cZ cS cL (fS hs) (fG hs) o fl a z2) ++ RW cI cZ hs) := hD
    generalize H1 = H at hP hS hce ⊢
    rcases (show i9 = 0 ∨ i9 = 1 by have h7 := (List.getElem?_eq_some_iff.mp hi9).1; simp only [List.length] at h7; omega) with rfl | rfl
    · cases hi9
      refine vx_catch (own := RL) (name := "java/lang/IndexOutOfBoundsException") hown [] ⟨0, 10, 13, 20⟩ [⟨0, 10, 17, 15⟩] htab (fun z hz => nomatch hz) rfl (by decide) hcl20 ((nc422 hNW).use rfl) hce hcv hcl ?_
      refine lv_astore (lv' := [(4, .ref q9), (0, .ref (a 0)), (1, .int a1), (2, .int a2), (3, .ref o)]) hx hb dL_stowAt_13 hl (by decide) rfl (fun ls hl => ?_)
      refine lv_iconst (v := (1 : Int32)) hx hb dL_stowAt_15 (by decide) ?_
      refine W.widen (k := 16) (n := 316) (Nat.le_of_ble_eq_true rfl) (Nat.le_of_ble_eq_true rfl) ?_
      exact W.iret hx hb hr (fun t ht hW => ⟨⟨_, (hs, fl), rfl, ⟨hk9.symm, rfl, fun v9 h9 => by cases h9⟩, WE.mk hP hD ht⟩, hS.F ht⟩) hS.2.2 dL_stowAt_16
    · cases hi9
      refine vx_catch (own := RL) (name := "java/lang/IllegalStateException") hown [⟨0, 10, 13, 20⟩] ⟨0, 10, 17, 15⟩ [] htab (fun z hz => by
      rcases (show z = ⟨0, 10, 13, 20⟩ by simpa using hz) with rfl
      · exact Or.inr ⟨by decide, "java/lang/IndexOutOfBoundsException", hcl20, hNC ("java/lang/IllegalStateException", "java/lang/IndexOutOfBoundsException") (List.mem_of_getElem? (i := 1) rfl)⟩) rfl (by decide) hcl15 ((nc58 hNW).use rfl) hce hcv hcl ?_
      refine lv_astore (lv' := [(4, .ref q9), (0, .ref (a 0)), (1, .int a1), (2, .int a2), (3, .ref o)]) hx hb dL_stowAt_17 hl (by decide) rfl (fun ls hl => ?_)
      refine lv_iconst (v := (2 : Int32)) hx hb dL_stowAt_19 (by decide) ?_
      refine W.widen (k := 16) (n := 316) (Nat.le_of_ble_eq_true rfl) (Nat.le_of_ble_eq_true rfl) ?_
      exact W.iret hx hb hr (fun t ht hW => ⟨⟨_, (hs, fl), rfl, ⟨hk9.symm, rfl, fun v9 h9 => by cases h9⟩, WE.mk hP hD ht⟩, hS.F ht⟩) hS.2.2 dL_stowAt_20
set_option maxHeartbeats 4000000 in
set_option maxRecDepth 100000 in
theorem w_L_pack (l : Launch) (hst : l.stackTraces = false) (dC : Nat → ClassId) (dI : Nat → Nat → Nat) (cI cZ cS cL : ClassId) (hs : HS) (o : Nat) (fl : Nat → Int64) (a : Nat → Nat) (sz : Nat) (M : Mem) (r : String ⊕ Int32) (kk : Int32) (z2 : Mem) (z3 : Nat → Option Mem) (hf : fX8_pack (cts hs) M  = some (r, z2, z3)) (hA9 : Ans ["java/lang/IllegalStateException"] r kk) (hC : ∀ E, r = .inl E → z3 = cts hs) : Met l yL_pack wsL_pack ({ frames := 9, cells := 16, slots := 316, locals := 171 } : Room) (va_Pc [.ref (a 0), .ref o] (T9 (dC, dI) cI cZ cS cL ((wL cI cZ cS cL (fS hs) (fG hs) o fl a M) ++ RW cI cZ hs) sz)) (va_Qi (S := HS × (Nat → Int64)) (fun k u => k = kk ∧ cts u.1 = z3 ∧ ∀ v, r = .inr v → u.2 0 = v.toInt64) (fun u t => WE (dC, dI) cI cZ ((wL cI cZ cS cL (fS u.1) (fG u.1) o u.2 a z2) ++ RW cI cZ u.1) (va_A ((wL cI cZ cS cL (fS hs) (fG hs) o fl a M) ++ RW cI cZ hs) sz) t) (va_A ((wL cI cZ cS cL (fS hs) (fG hs) o fl a M) ++ RW cI cZ hs) sz)) 16 316 (va_A ((wL cI cZ cS cL (fS hs) (fG hs) o fl a M) ++ RW cI cZ hs) sz) := by
  refine va_MetW (cc := cL_pack) (maxL := 3) (ret := (some .int)) (hh := [(0, 8, 11, 15)]) (by decide) rfl ?_
  intro p e s m args below meth c s₁ B hml hv
  obtain ⟨rfl, hsz, hP, hK, hD0, hNW, hEX, hNC⟩ := hv
  have hx := B.exec
  have hb := B.bytes
  have hr := B.returns
  have hts := atoms_spec (ws := wsL_pack) B.pre
  have hown : s.vm.findClass RL = some m.cls := findClass_of_methodNamed B.named
  have htab : c.exceptionTable.toList = tableOf [(0, 8, 11, 15)] := vx_table (x := yL_law) B (hts (.codeWith yL_pack cL_pack 3 (some .int) [(0, 8, 11, 15)]) List.mem_cons_self)
  have hK8 : va_K (dC, dI) vwCl (tys8 cI cZ cS) s := hK.sub (tys' := tys8 cI cZ cS) [0, 1, 2] rfl
  have hcl15 := hts (.classLink RL 15 "java/lang/IllegalStateException") (by decide +kernel)
  subst hsz
  have hD := hD0.self (sz := s.heap.size)
  generalize hAe : va_A ((wL cI cZ cS cL (fS hs) (fG hs) o fl a M) ++ RW cI cZ hs) s.heap.size = A at hD hEX ⊢
  have hA : ∀ q : Nat, s.heap.size ≤ q → A q := fun q h => by rw [← hAe]; exact Or.inr h
  have hS : va_S A s.heap s.heap [] := va_S.rf
  have hl := lv_entry ([.ref (a 0), .ref o]) (n := 3) (Nat.le_of_ble_eq_true rfl)
  rw [lg_entry_eq]
  generalize (lg_sl ([.ref (a 0), .ref o]) ++ List.replicate (3 - (lg_sl ([.ref (a 0), .ref o])).length) Slot.unset).toArray = ls at hl ⊢
  have hl : lv_has ls 3 [(0, .ref (a 0)), (1, .ref o)] := hl
  suffices hgo : ∀ (H : Heap) (locs : List Loc), va_P (dC, dI) vwCl ((wL cI cZ cS cL (fS hs) (fG hs) o fl a M) ++ RW cI cZ hs) H → va_D A ((wL cI cZ cS cL (fS hs) (fG hs) o fl a M) ++ RW cI cZ hs) → va_S A s.heap H locs → W p l e (headSpec wsL_pack ({ frames := 9, cells := 16, slots := 316, locals := 171 } : Room)).room s m ([.ref (a 0), .ref o] : List Value).toArray below meth c H locs 0 0 (MQ below (va_Qi (S := HS × (Nat → Int64)) (fun k u => k = kk ∧ cts u.1 = z3 ∧ ∀ v, r = .inr v → u.2 0 = v.toInt64) (fun u t => WE (dC, dI) cI cZ ((wL cI cZ cS cL (fS u.1) (fG u.1) o u.2 a z2) ++ RW cI cZ u.1) A t) A) ([.ref (a 0), .ref o] : List Value).toArray s 16 316 A) (F0 m 0 ls []) from hgo _ _ hP hD hS
  intro H locs hP hD hS
  refine lv_aload_n hx hb dL_pack_0 rfl (lv_at hl 1 rfl) ?_
  refine lv_iconst (v := (0 : Int32)) hx hb dL_pack_1 (by decide) ?_
  refine lv_aload_n hx hb dL_pack_2 rfl (lv_at hl 0 rfl) ?_
  have hPc := hP.part (X := (wL cI cZ cS cL (fS hs) (fG hs) o fl a M)) (cx := (wX8 cI cZ cS (fS hs) (fG hs) a M)) [1, 2, 3, 4, 5, 6, 7, 8, 9, 10, 11, 12, 13, 14, 15, 16, 17, 18, 19, 20, 21, 22, 23, 24, 25, 26, 27, 28, 29, 30, 31, 32, 33, 34, 35, 36, 37, 38, 39, 40, 41, 42] rfl
  have hDc := hD.part (X := (wL cI cZ cS cL (fS hs) (fG hs) o fl a M)) (cx := (wX8 cI cZ cS (fS hs) (fG hs) a M)) [1, 2, 3, 4, 5, 6, 7, 8, 9, 10, 11, 12, 13, 14, 15, 16, 17, 18, 19, 20, 21, 22, 23, 24, 25, 26, 27, 28, 29, 30, 31, 32, 33, 34, 35, 36, 37, 38, 39, 40, 41, 42] (by decide) rfl
  have hFc := va_freeP (X := (wL cI cZ cS cL (fS hs) (fG hs) o fl a M)) (cx := (wX8 cI cZ cS (fS hs) (fG hs) a M)) hD hS hA [1, 2, 3, 4, 5, 6, 7, 8, 9, 10, 11, 12, 13, 14, 15, 16, 17, 18, 19, 20, 21, 22, 23, 24, 25, 26, 27, 28, 29, 30, 31, 32, 33, 34, 35, 36, 37, 38, 39, 40, 41, 42] rfl
  rcases hA9 with ⟨v, hr9, hk9⟩ | ⟨i9, E9, hi9, hr9, hk9⟩
  · subst hr9
    subst hk9
    refine va_calli (va_runV (As := []) (rest := [.int (0 : Int32), .ref o]) ⟨hx, hb, hml, hown, hts⟩ (n_X8_pack l dC dI cI cZ cS hs a H.size M v z2 z3 hf) (cwV 0 hts gL_pack_X8_pack rfl rfl rfl (by decide +kernel) ⟨Nat.le_of_ble_eq_true rfl, Nat.le_of_ble_eq_true rfl⟩) ⟨WR8.blind, va_recv hK hP (ci := 8) (q0 := 1) rfl rfl, WR8.pre hPc hK8 hDc hNW⟩ rfl rfl hl.1 rfl (lv_room (Nat.le_of_ble_eq_true rfl)) dL_pack_3 ⟨Nat.le_of_ble_eq_true rfl, Nat.le_of_ble_eq_true rfl⟩) hS (fun q _ h => hFc q h) hFc (fun rv hs1 t H1 locs ht hvm hw hB hz1 hk1 hS => ?_)
    obtain ⟨hP1, hD1⟩ := hB
    rw [ht] at hP1
    obtain ⟨hw1, hw2⟩ := hw
    rw [hw1]
    obtain ⟨hP, hD⟩ := va_joinP (X := (wL cI cZ cS cL (fS hs) (fG hs) o fl a M)) (cx := (wX8 cI cZ cS (fS hs) (fG hs) a M)) (wr := [(o, .inl (cL, 1, .inr (.inl fl)))]) (rx := (wX8 cI cZ cS (fS hs1) (fG hs1) a z2)) hP hD [1, 2, 3, 4, 5, 6, 7, 8, 9, 10, 11, 12, 13, 14, 15, 16, 17, 18, 19, 20, 21, 22, 23, 24, 25, 26, 27, 28, 29, 30, 31, 32, 33, 34, 35, 36, 37, 38, 39, 40, 41, 42] [0] rfl rfl (by decide) (by decide) hk1 hFc hP1 hD1
    have hP : va_P (dC, dI) vwCl ((wL cI cZ cS cL (fS hs1) (fG hs1) o fl a z2) ++ RW cI cZ hs1) H1 := hP
    have hD : va_D A ((wL cI cZ cS cL (fS hs1) (fG hs1) o fl a z2) ++ RW cI cZ hs1) := hD
    generalize H1 = H at hP hS ⊢
    refine lv_i2l (v := v.toInt64) hx hb dL_pack_6 rfl ?_
    refine va_last (D := (dC, dI)) (f := fl) hx hb hK hP hD hS 0 3 rfl rfl (inb_in rfl) dL_pack_7 (fun H locs hP hD hS => ?_)
    have hP : va_P (dC, dI) vwCl ((wL cI cZ cS cL (fS hs1) (fG hs1) o (vp_updL fl 0 v.toInt64) a z2) ++ RW cI cZ hs1) H := hP
    have hD : va_D A ((wL cI cZ cS cL (fS hs1) (fG hs1) o (vp_updL fl 0 v.toInt64) a z2) ++ RW cI cZ hs1) := hD
    refine lv_goto (tgt := 14) hx hb dL_pack_8 (by decide) ?_
    refine lv_iconst (v := (0 : Int32)) hx hb dL_pack_14 (by decide) ?_
    refine W.widen (k := 16) (n := 316) (Nat.le_of_ble_eq_true rfl) (Nat.le_of_ble_eq_true rfl) ?_
    exact W.iret hx hb hr (fun t ht hW => ⟨⟨_, (hs1, (vp_updL fl 0 v.toInt64)), rfl, ⟨rfl, hw2, fun v9 h9 => by cases h9; rfl⟩, WE.mk hP hD ht⟩, hS.F ht⟩) hS.2.2 dL_pack_15
  · subst hr9
    have hz3 := hC E9 rfl
    subst hz3
    refine vx_thrH (vx_runV (As := []) (rest := [.int (0 : Int32), .ref o]) ⟨hx, hb, hml, hown, hts⟩ (t_X8_pack l hst dC dI cI cZ cS hs a _ M E9 z2 (cts hs) hf) (cwV 0 hts gL_pack_X8_pack rfl rfl rfl (by decide +kernel) ⟨Nat.le_of_ble_eq_true rfl, Nat.le_of_ble_eq_true rfl⟩) ⟨T8.blind, va_recv hK hP (ci := 8) (q0 := 1) rfl rfl, T8.pre hPc hK8 hDc hNW (hEX.at hS hFc)⟩ rfl rfl hl.1 rfl (lv_room (Nat.le_of_ble_eq_true rfl)) dL_pack_3 ⟨Nat.le_of_ble_eq_true rfl, Nat.le_of_ble_eq_true rfl⟩) hS (fun q _ h => hFc q h) hFc (fun ce q9 t H1 locs1 ht hal hP1 hD1 hz1 hk1 hS hce hcv hcl => ?_)
    obtain ⟨hP, hD⟩ := va_joinP (X := (wL cI cZ cS cL (fS hs) (fG hs) o fl a M)) (cx := (wX8 cI cZ cS (fS hs) (fG hs) a M)) (wr := [(o, .inl (cL, 1, .inr (.inl fl)))]) (rx := (wX8 cI cZ cS (fS hs) (fG hs) a z2)) hP hD [1, 2, 3, 4, 5, 6, 7, 8, 9, 10, 11, 12, 13, 14, 15, 16, 17, 18, 19, 20, 21, 22, 23, 24, 25, 26, 27, 28, 29, 30, 31, 32, 33, 34, 35, 36, 37, 38, 39, 40, 41, 42] [0] rfl rfl (by decide) (by decide) hk1 hFc hP1 hD1
    have hP : va_P (dC, dI) vwCl ((wL cI cZ cS cL (fS hs) (fG hs) o fl a z2) ++ RW cI cZ hs) H1 := hP
    have hD : va_D A ((wL cI cZ cS cL (fS hs) (fG hs) o fl a z2) ++ RW cI cZ hs) := hD
    generalize H1 = H at hP hS hce ⊢
    rcases (show i9 = 0 by have h7 := (List.getElem?_eq_some_iff.mp hi9).1; simp only [List.length] at h7; omega) with rfl
    · cases hi9
      refine vx_catch (own := RL) (name := "java/lang/IllegalStateException") hown [] ⟨0, 8, 11, 15⟩ [] htab (fun z hz => nomatch hz) rfl (by decide) hcl15 ((nc58 hNW).use rfl) hce hcv hcl ?_
      refine lv_astore_n (lv' := [(2, .ref q9), (0, .ref (a 0)), (1, .ref o)]) hx hb dL_pack_11 rfl hl (by decide) rfl (fun ls hl => ?_)
      refine lv_iconst (v := (1 : Int32)) hx hb dL_pack_12 (by decide) ?_
      refine W.widen (k := 16) (n := 316) (Nat.le_of_ble_eq_true rfl) (Nat.le_of_ble_eq_true rfl) ?_
      exact W.iret hx hb hr (fun t ht hW => ⟨⟨_, (hs, fl), rfl, ⟨hk9.symm, rfl, fun v9 h9 => by cases h9⟩, WE.mk hP hD ht⟩, hS.F ht⟩) hS.2.2 dL_pack_13
set_option maxHeartbeats 4000000 in
set_option maxRecDepth 100000 in
theorem w_L_fill (l : Launch) (hst : l.stackTraces = false) (dC : Nat → ClassId) (dI : Nat → Nat → Nat) (cI cZ cS cL : ClassId) (hs : HS) (o : Nat) (fl : Nat → Int64) (a : Nat → Nat) (sz : Nat) (M : Mem) (a1 : Int32) (a2 : Int32) (r : String ⊕ Int32) (kk : Int32) (z2 : Mem) (z3 : Nat → Option Mem) (hf : fX8_fill (cts hs) M a1 a2 = some (r, z2, z3)) (hA9 : Ans ["java/lang/IndexOutOfBoundsException", "java/lang/IllegalArgumentException", "java/lang/IllegalStateException"] r kk) (hC : ∀ E, r = .inl E → z3 = cts hs) : Met l yL_fill wsL_fill ({ frames := 8, cells := 16, slots := 316, locals := 154 } : Room) (va_Pc [.ref (a 0), .int a1, .int a2, .ref o] (T9 (dC, dI) cI cZ cS cL ((wL cI cZ cS cL (fS hs) (fG hs) o fl a M) ++ RW cI cZ hs) sz)) (va_Qi (S := HS × (Nat → Int64)) (fun k u => k = kk ∧ cts u.1 = z3 ∧ ∀ v, r = .inr v → u.2 0 = v.toInt64) (fun u t => WE (dC, dI) cI cZ ((wL cI cZ cS cL (fS u.1) (fG u.1) o u.2 a z2) ++ RW cI cZ u.1) (va_A ((wL cI cZ cS cL (fS hs) (fG hs) o fl a M) ++ RW cI cZ hs) sz) t) (va_A ((wL cI cZ cS cL (fS hs) (fG hs) o fl a M) ++ RW cI cZ hs) sz)) 16 316 (va_A ((wL cI cZ cS cL (fS hs) (fG hs) o fl a M) ++ RW cI cZ hs) sz) := by
  refine va_MetW (cc := cL_fill) (maxL := 5) (ret := (some .int)) (hh := [(0, 10, 13, 20), (0, 10, 17, 13), (0, 10, 21, 15)]) (by decide) rfl ?_
  intro p e s m args below meth c s₁ B hml hv
  obtain ⟨rfl, hsz, hP, hK, hD0, hNW, hEX, hNC⟩ := hv
  have hx := B.exec
  have hb := B.bytes
  have hr := B.returns
  have hts := atoms_spec (ws := wsL_fill) B.pre
  have hown : s.vm.findClass RL = some m.cls := findClass_of_methodNamed B.named
  have htab : c.exceptionTable.toList = tableOf [(0, 10, 13, 20), (0, 10, 17, 13), (0, 10, 21, 15)] := vx_table (x := yL_law) B (hts (.codeWith yL_fill cL_fill 5 (some .int) [(0, 10, 13, 20), (0, 10, 17, 13), (0, 10, 21, 15)]) List.mem_cons_self)
  have hK8 : va_K (dC, dI) vwCl (tys8 cI cZ cS) s := hK.sub (tys' := tys8 cI cZ cS) [0, 1, 2] rfl
  have hcl20 := hts (.classLink RL 20 "java/lang/IndexOutOfBoundsException") (by decide +kernel)
  have hcl13 := hts (.classLink RL 13 "java/lang/IllegalArgumentException") (by decide +kernel)
  have hcl15 := hts (.classLink RL 15 "java/lang/IllegalStateException") (by decide +kernel)
  subst hsz
  have hD := hD0.self (sz := s.heap.size)
  generalize hAe : va_A ((wL cI cZ cS cL (fS hs) (fG hs) o fl a M) ++ RW cI cZ hs) s.heap.size = A at hD hEX ⊢
  have hA : ∀ q : Nat, s.heap.size ≤ q → A q := fun q h => by rw [← hAe]; exact Or.inr h
  have hS : va_S A s.heap s.heap [] := va_S.rf
  have hl := lv_entry ([.ref (a 0), .int a1, .int a2, .ref o]) (n := 5) (Nat.le_of_ble_eq_true rfl)
  rw [lg_entry_eq]
  generalize (lg_sl ([.ref (a 0), .int a1, .int a2, .ref o]) ++ List.replicate (5 - (lg_sl ([.ref (a 0), .int a1, .int a2, .ref o])).length) Slot.unset).toArray = ls at hl ⊢
  have hl : lv_has ls 5 [(0, .ref (a 0)), (1, .int a1), (2, .int a2), (3, .ref o)] := hl
  suffices hgo : ∀ (H : Heap) (locs : List Loc), va_P (dC, dI) vwCl ((wL cI cZ cS cL (fS hs) (fG hs) o fl a M) ++ RW cI cZ hs) H → va_D A ((wL cI cZ cS cL (fS hs) (fG hs) o fl a M) ++ RW cI cZ hs) → va_S A s.heap H locs → W p l e (headSpec wsL_fill ({ frames := 8, cells := 16, slots := 316, locals := 154 } : Room)).room s m ([.ref (a 0), .int a1, .int a2, .ref o] : List Value).toArray below meth c H locs 0 0 (MQ below (va_Qi (S := HS × (Nat → Int64)) (fun k u => k = kk ∧ cts u.1 = z3 ∧ ∀ v, r = .inr v → u.2 0 = v.toInt64) (fun u t => WE (dC, dI) cI cZ ((wL cI cZ cS cL (fS u.1) (fG u.1) o u.2 a z2) ++ RW cI cZ u.1) A t) A) ([.ref (a 0), .int a1, .int a2, .ref o] : List Value).toArray s 16 316 A) (F0 m 0 ls []) from hgo _ _ hP hD hS
  intro H locs hP hD hS
  refine lv_aload_n hx hb dL_fill_0 rfl (lv_at hl 3 rfl) ?_
  refine lv_iconst (v := (0 : Int32)) hx hb dL_fill_1 (by decide) ?_
  refine lv_aload_n hx hb dL_fill_2 rfl (lv_at hl 0 rfl) ?_
  refine lv_iload_n hx hb dL_fill_3 rfl (lv_at hl 1 rfl) ?_
  refine lv_iload_n hx hb dL_fill_4 rfl (lv_at hl 2 rfl) ?_
  have hPc := hP.part (X := (wL cI cZ cS cL (fS hs) (fG hs) o fl a M)) (cx := (wX8 cI cZ cS (fS hs) (fG hs) a M)) [1, 2, 3, 4, 5, 6, 7, 8, 9, 10, 11, 12, 13, 14, 15, 16, 17, 18, 19, 20, 21, 22, 23, 24, 25, 26, 27, 28, 29, 30, 31, 32, 33, 34, 35, 36, 37, 38, 39, 40, 41, 42] rfl
  have hDc := hD.part (X := (wL cI cZ cS cL (fS hs) (fG hs) o fl a M)) (cx := (wX8 cI cZ cS (fS hs) (fG hs) a M)) [1, 2, 3, 4, 5, 6, 7, 8, 9, 10, 11, 12, 13, 14, 15, 16, 17, 18, 19, 20, 21, 22, 23, 24, 25, 26, 27, 28, 29, 30, 31, 32, 33, 34, 35, 36, 37, 38, 39, 40, 41, 42] (by decide) rfl
  have hFc := va_freeP (X := (wL cI cZ cS cL (fS hs) (fG hs) o fl a M)) (cx := (wX8 cI cZ cS (fS hs) (fG hs) a M)) hD hS hA [1, 2, 3, 4, 5, 6, 7, 8, 9, 10, 11, 12, 13, 14, 15, 16, 17, 18, 19, 20, 21, 22, 23, 24, 25, 26, 27, 28, 29, 30, 31, 32, 33, 34, 35, 36, 37, 38, 39, 40, 41, 42] rfl
  rcases hA9 with ⟨v, hr9, hk9⟩ | ⟨i9, E9, hi9, hr9, hk9⟩
  · subst hr9
    subst hk9
    refine va_calli (va_runV (As := [.int a1, .int a2]) (rest := [.int (0 : Int32), .ref o]) ⟨hx, hb, hml, hown, hts⟩ (n_X8_fill l dC dI cI cZ cS hs a H.size M a1 a2 v z2 z3 hf) (cwV 2 hts gL_fill_X8_fill rfl rfl rfl (by decide +kernel) ⟨Nat.le_of_ble_eq_true rfl, Nat.le_of_ble_eq_true rfl⟩) ⟨WR8.blind, va_recv hK hP (ci := 8) (q0 := 1) rfl rfl, WR8.pre hPc hK8 hDc hNW⟩ rfl rfl hl.1 rfl (lv_room (Nat.le_of_ble_eq_true rfl)) dL_fill_5 ⟨Nat.le_of_ble_eq_true rfl, Nat.le_of_ble_eq_true rfl⟩) hS (fun q _ h => hFc q h) hFc (fun rv hs1 t H1 locs ht hvm hw hB hz1 hk1 hS => ?_)
    obtain ⟨hP1, hD1⟩ := hB
    rw [ht] at hP1
    obtain ⟨hw1, hw2⟩ := hw
    rw [hw1]
    obtain ⟨hP, hD⟩ := va_joinP (X := (wL cI cZ cS cL (fS hs) (fG hs) o fl a M)) (cx := (wX8 cI cZ cS (fS hs) (fG hs) a M)) (wr := [(o, .inl (cL, 1, .inr (.inl fl)))]) (rx := (wX8 cI cZ cS (fS hs1) (fG hs1) a z2)) hP hD [1, 2, 3, 4, 5, 6, 7, 8, 9, 10, 11, 12, 13, 14, 15, 16, 17, 18, 19, 20, 21, 22, 23, 24, 25, 26, 27, 28, 29, 30, 31, 32, 33, 34, 35, 36, 37, 38, 39, 40, 41, 42] [0] rfl rfl (by decide) (by decide) hk1 hFc hP1 hD1
    have hP : va_P (dC, dI) vwCl ((wL cI cZ cS cL (fS hs1) (fG hs1) o fl a z2) ++ RW cI cZ hs1) H1 := hP
    have hD : va_D A ((wL cI cZ cS cL (fS hs1) (fG hs1) o fl a z2) ++ RW cI cZ hs1) := hD
    generalize H1 = H at hP hS ⊢
    refine lv_i2l (v := v.toInt64) hx hb dL_fill_8 rfl ?_
    refine va_last (D := (dC, dI)) (f := fl) hx hb hK hP hD hS 0 3 rfl rfl (inb_in rfl) dL_fill_9 (fun H locs hP hD hS => ?_)
    have hP : va_P (dC, dI) vwCl ((wL cI cZ cS cL (fS hs1) (fG hs1) o (vp_updL fl 0 v.toInt64) a z2) ++ RW cI cZ hs1) H := hP
    have hD : va_D A ((wL cI cZ cS cL (fS hs1) (fG hs1) o (vp_updL fl 0 v.toInt64) a z2) ++ RW cI cZ hs1) := hD
    refine lv_goto (tgt := 25) hx hb dL_fill_10 (by decide) ?_
    refine lv_iconst (v := (0 : Int32)) hx hb dL_fill_25 (by decide) ?_
    refine W.widen (k := 16) (n := 316) (Nat.le_of_ble_eq_true rfl) (Nat.le_of_ble_eq_true rfl) ?_
    exact W.iret hx hb hr (fun t ht hW => ⟨⟨_, (hs1, (vp_updL fl 0 v.toInt64)), rfl, ⟨rfl, hw2, fun v9 h9 => by cases h9; rfl⟩, WE.mk hP hD ht⟩, hS.F ht⟩) hS.2.2 dL_fill_26
  · subst hr9
    have hz3 := hC E9 rfl
    subst hz3
    refine vx_thrH (vx_runV (As := [.int a1, .int a2]) (rest := [.int (0 : Int32), .ref o]) ⟨hx, hb, hml, hown, hts⟩ (t_X8_fill l hst dC dI cI cZ cS hs a _ M a1 a2 E9 z2 (cts hs) hf) (cwV 2 hts gL_fill_X8_fill rfl rfl rfl (by decide +kernel) ⟨Nat.le_of_ble_eq_true rfl, Nat.le_of_ble_eq_true rfl⟩) ⟨T8.blind, va_recv hK hP (ci := 8) (q0 := 1) rfl rfl, T8.pre hPc hK8 hDc hNW (hEX.at hS hFc)⟩ rfl rfl hl.1 rfl (lv_room (Nat.le_of_ble_eq_true rfl)) dL_fill_5 ⟨Nat.le_of_ble_eq_true rfl, Nat.le_of_ble_eq_true rfl⟩) hS (fun q _ h => hFc q h) hFc (fun ce q9 t H1 locs1 ht hal hP1 hD1 hz1 hk1 hS hce hcv hcl => ?_)
    obtain ⟨hP, hD⟩ := va_joinP (X := (wL cI cZ cS cL (fS hs) (fG hs) o fl a M)) (cx := (wX8 cI cZ cS (fS hs) (fG hs) a M)) (wr := [(o, .inl (cL, 1, .inr (.inl fl)))]) (rx := (wX8 cI cZ cS (fS hs) (fG hs) a z2)) hP hD [1, 2, 3, 4, 5, 6, 7, 8, 9, 10, 11, 12, 13, 14, 15, 16, 17, 18, 19, 20, 21, 22, 23, 24, 25, 26, 27, 28, 29, 30, 31, 32, 33, 34, 35, 36, 37, 38, 39, 40, 41, 42] [0] rfl rfl (by decide) (by decide) hk1 hFc hP1 hD1
    have hP : va_P (dC, dI) vwCl ((wL cI cZ cS cL (fS hs) (fG hs) o fl a z2) ++ RW cI cZ hs) H1 := hP
    have hD : va_D A ((wL cI cZ cS cL (fS hs) (fG hs) o fl a z2) ++ RW cI cZ hs) := hD
    generalize H1 = H at hP hS hce ⊢
    rcases (show i9 = 0 ∨ i9 = 1 ∨ i9 = 2 by have h7 := (List.getElem?_eq_some_iff.mp hi9).1; simp only [List.length] at h7; omega) with rfl | rfl | rfl
    · cases hi9
      refine vx_catch (own := RL) (name := "java/lang/IndexOutOfBoundsException") hown [] ⟨0, 10, 13, 20⟩ [⟨0, 10, 17, 13⟩, ⟨0, 10, 21, 15⟩] htab (fun z hz => nomatch hz) rfl (by decide) hcl20 ((nc422 hNW).use rfl) hce hcv hcl ?_
      refine lv_astore (lv' := [(4, .ref q9), (0, .ref (a 0)), (1, .int a1), (2, .int a2), (3, .ref o)]) hx hb dL_fill_13 hl (by decide) rfl (fun ls hl => ?_)
      refine lv_iconst (v := (1 : Int32)) hx hb dL_fill_15 (by decide) ?_
      refine W.widen (k := 16) (n := 316) (Nat.le_of_ble_eq_true rfl) (Nat.le_of_ble_eq_true rfl) ?_
      exact W.iret hx hb hr (fun t ht hW => ⟨⟨_, (hs, fl), rfl, ⟨hk9.symm, rfl, fun v9 h9 => by cases h9⟩, WE.mk hP hD ht⟩, hS.F ht⟩) hS.2.2 dL_fill_16
    · cases hi9
      refine vx_catch (own := RL) (name := "java/lang/IllegalArgumentException") hown [⟨0, 10, 13, 20⟩] ⟨0, 10, 17, 13⟩ [⟨0, 10, 21, 15⟩] htab (fun z hz => by
      rcases (show z = ⟨0, 10, 13, 20⟩ by simpa using hz) with rfl
      · exact Or.inr ⟨by decide, "java/lang/IndexOutOfBoundsException", hcl20, hNC ("java/lang/IllegalArgumentException", "java/lang/IndexOutOfBoundsException") (List.mem_of_getElem? (i := 3) rfl)⟩) rfl (by decide) hcl13 ((nc178 hNW).use rfl) hce hcv hcl ?_
      refine lv_astore (lv' := [(4, .ref q9), (0, .ref (a 0)), (1, .int a1), (2, .int a2), (3, .ref o)]) hx hb dL_fill_17 hl (by decide) rfl (fun ls hl => ?_)
      refine lv_iconst (v := (2 : Int32)) hx hb dL_fill_19 (by decide) ?_
      refine W.widen (k := 16) (n := 316) (Nat.le_of_ble_eq_true rfl) (Nat.le_of_ble_eq_true rfl) ?_
      exact W.iret hx hb hr (fun t ht hW => ⟨⟨_, (hs, fl), rfl, ⟨hk9.symm, rfl, fun v9 h9 => by cases h9⟩, WE.mk hP hD ht⟩, hS.F ht⟩) hS.2.2 dL_fill_20
    · cases hi9
      refine vx_catch (own := RL) (name := "java/lang/IllegalStateException") hown [⟨0, 10, 13, 20⟩, ⟨0, 10, 17, 13⟩] ⟨0, 10, 21, 15⟩ [] htab (fun z hz => by
      rcases (show z = ⟨0, 10, 13, 20⟩ ∨ z = ⟨0, 10, 17, 13⟩ by simpa using hz) with rfl | rfl
      · exact Or.inr ⟨by decide, "java/lang/IndexOutOfBoundsException", hcl20, hNC ("java/lang/IllegalStateException", "java/lang/IndexOutOfBoundsException") (List.mem_of_getElem? (i := 1) rfl)⟩
      · exact Or.inr ⟨by decide, "java/lang/IllegalArgumentException", hcl13, hNC ("java/lang/IllegalStateException", "java/lang/IllegalArgumentException") (List.mem_of_getElem? (i := 0) rfl)⟩) rfl (by decide) hcl15 ((nc58 hNW).use rfl) hce hcv hcl ?_
      refine lv_astore (lv' := [(4, .ref q9), (0, .ref (a 0)), (1, .int a1), (2, .int a2), (3, .ref o)]) hx hb dL_fill_21 hl (by decide) rfl (fun ls hl => ?_)
      refine lv_iconst (v := (3 : Int32)) hx hb dL_fill_23 (by decide) ?_
      refine W.widen (k := 16) (n := 316) (Nat.le_of_ble_eq_true rfl) (Nat.le_of_ble_eq_true rfl) ?_
      exact W.iret hx hb hr (fun t ht hW => ⟨⟨_, (hs, fl), rfl, ⟨hk9.symm, rfl, fun v9 h9 => by cases h9⟩, WE.mk hP hD ht⟩, hS.F ht⟩) hS.2.2 dL_fill_24
set_option maxHeartbeats 4000000 in
set_option maxRecDepth 100000 in
theorem w_L_take (l : Launch) (hst : l.stackTraces = false) (dC : Nat → ClassId) (dI : Nat → Nat → Nat) (cI cZ cS cL : ClassId) (hs : HS) (o : Nat) (fl : Nat → Int64) (a : Nat → Nat) (sz : Nat) (M : Mem) (a1 : Int32) (a2 : Int32) (r : String ⊕ Int32) (kk : Int32) (z2 : Mem) (z3 : Nat → Option Mem) (hf : fX8_take (cts hs) M a1 a2 = some (r, z2, z3)) (hA9 : Ans ["java/lang/IndexOutOfBoundsException", "java/lang/IllegalArgumentException", "java/lang/IllegalStateException"] r kk) (hC : ∀ E, r = .inl E → z3 = cts hs) : Met l yL_take wsL_take ({ frames := 8, cells := 16, slots := 316, locals := 154 } : Room) (va_Pc [.ref (a 0), .int a1, .int a2, .ref o] (T9 (dC, dI) cI cZ cS cL ((wL cI cZ cS cL (fS hs) (fG hs) o fl a M) ++ RW cI cZ hs) sz)) (va_Qi (S := HS × (Nat → Int64)) (fun k u => k = kk ∧ cts u.1 = z3 ∧ ∀ v, r = .inr v → u.2 0 = v.toInt64) (fun u t => WE (dC, dI) cI cZ ((wL cI cZ cS cL (fS u.1) (fG u.1) o u.2 a z2) ++ RW cI cZ u.1) (va_A ((wL cI cZ cS cL (fS hs) (fG hs) o fl a M) ++ RW cI cZ hs) sz) t) (va_A ((wL cI cZ cS cL (fS hs) (fG hs) o fl a M) ++ RW cI cZ hs) sz)) 16 316 (va_A ((wL cI cZ cS cL (fS hs) (fG hs) o fl a M) ++ RW cI cZ hs) sz) := by
  refine va_MetW (cc := cL_take) (maxL := 5) (ret := (some .int)) (hh := [(0, 10, 13, 20), (0, 10, 17, 13), (0, 10, 21, 15)]) (by decide) rfl ?_
  intro p e s m args below meth c s₁ B hml hv
  obtain ⟨rfl, hsz, hP, hK, hD0, hNW, hEX, hNC⟩ := hv
  have hx := B.exec
  have hb := B.bytes
  have hr := B.returns
  have hts := atoms_spec (ws := wsL_take) B.pre
  have hown : s.vm.findClass RL = some m.cls := findClass_of_methodNamed B.named
  have htab : c.exceptionTable.toList = tableOf [(0, 10, 13, 20), (0, 10, 17, 13), (0, 10, 21, 15)] := vx_table (x := yL_law) B (hts (.codeWith yL_take cL_take 5 (some .int) [(0, 10, 13, 20), (0, 10, 17, 13), (0, 10, 21, 15)]) List.mem_cons_self)
  have hK8 : va_K (dC, dI) vwCl (tys8 cI cZ cS) s := hK.sub (tys' := tys8 cI cZ cS) [0, 1, 2] rfl
  have hcl20 := hts (.classLink RL 20 "java/lang/IndexOutOfBoundsException") (by decide +kernel)
  have hcl13 := hts (.classLink RL 13 "java/lang/IllegalArgumentException") (by decide +kernel)
  have hcl15 := hts (.classLink RL 15 "java/lang/IllegalStateException") (by decide +kernel)
  subst hsz
  have hD := hD0.self (sz := s.heap.size)
  generalize hAe : va_A ((wL cI cZ cS cL (fS hs) (fG hs) o fl a M) ++ RW cI cZ hs) s.heap.size = A at hD hEX ⊢
  have hA : ∀ q : Nat, s.heap.size ≤ q → A q := fun q h => by rw [← hAe]; exact Or.inr h
  have hS : va_S A s.heap s.heap [] := va_S.rf
  have hl := lv_entry ([.ref (a 0), .int a1, .int a2, .ref o]) (n := 5) (Nat.le_of_ble_eq_true rfl)
  rw [lg_entry_eq]
  generalize (lg_sl ([.ref (a 0), .int a1, .int a2, .ref o]) ++ List.replicate (5 - (lg_sl ([.ref (a 0), .int a1, .int a2, .ref o])).length) Slot.unset).toArray = ls at hl ⊢
  have hl : lv_has ls 5 [(0, .ref (a 0)), (1, .int a1), (2, .int a2), (3, .ref o)] := hl
  suffices hgo : ∀ (H : Heap) (locs : List Loc), va_P (dC, dI) vwCl ((wL cI cZ cS cL (fS hs) (fG hs) o fl a M) ++ RW cI cZ hs) H → va_D A ((wL cI cZ cS cL (fS hs) (fG hs) o fl a M) ++ RW cI cZ hs) → va_S A s.heap H locs → W p l e (headSpec wsL_take ({ frames := 8, cells := 16, slots := 316, locals := 154 } : Room)).room s m ([.ref (a 0), .int a1, .int a2, .ref o] : List Value).toArray below meth c H locs 0 0 (MQ below (va_Qi (S := HS × (Nat → Int64)) (fun k u => k = kk ∧ cts u.1 = z3 ∧ ∀ v, r = .inr v → u.2 0 = v.toInt64) (fun u t => WE (dC, dI) cI cZ ((wL cI cZ cS cL (fS u.1) (fG u.1) o u.2 a z2) ++ RW cI cZ u.1) A t) A) ([.ref (a 0), .int a1, .int a2, .ref o] : List Value).toArray s 16 316 A) (F0 m 0 ls []) from hgo _ _ hP hD hS
  intro H locs hP hD hS
  refine lv_aload_n hx hb dL_take_0 rfl (lv_at hl 3 rfl) ?_
  refine lv_iconst (v := (0 : Int32)) hx hb dL_take_1 (by decide) ?_
  refine lv_aload_n hx hb dL_take_2 rfl (lv_at hl 0 rfl) ?_
  refine lv_iload_n hx hb dL_take_3 rfl (lv_at hl 1 rfl) ?_
  refine lv_iload_n hx hb dL_take_4 rfl (lv_at hl 2 rfl) ?_
  have hPc := hP.part (X := (wL cI cZ cS cL (fS hs) (fG hs) o fl a M)) (cx := (wX8 cI cZ cS (fS hs) (fG hs) a M)) [1, 2, 3, 4, 5, 6, 7, 8, 9, 10, 11, 12, 13, 14, 15, 16, 17, 18, 19, 20, 21, 22, 23, 24, 25, 26, 27, 28, 29, 30, 31, 32, 33, 34, 35, 36, 37, 38, 39, 40, 41, 42] rfl
  have hDc := hD.part (X := (wL cI cZ cS cL (fS hs) (fG hs) o fl a M)) (cx := (wX8 cI cZ cS (fS hs) (fG hs) a M)) [1, 2, 3, 4, 5, 6, 7, 8, 9, 10, 11, 12, 13, 14, 15, 16, 17, 18, 19, 20, 21, 22, 23, 24, 25, 26, 27, 28, 29, 30, 31, 32, 33, 34, 35, 36, 37, 38, 39, 40, 41, 42] (by decide) rfl
  have hFc := va_freeP (X := (wL cI cZ cS cL (fS hs) (fG hs) o fl a M)) (cx := (wX8 cI cZ cS (fS hs) (fG hs) a M)) hD hS hA [1, 2, 3, 4, 5, 6, 7, 8, 9, 10, 11, 12, 13, 14, 15, 16, 17, 18, 19, 20, 21, 22, 23, 24, 25, 26, 27, 28, 29, 30, 31, 32, 33, 34, 35, 36, 37, 38, 39, 40, 41, 42] rfl
  rcases hA9 with ⟨v, hr9, hk9⟩ | ⟨i9, E9, hi9, hr9, hk9⟩
  · subst hr9
    subst hk9
    refine va_calli (va_runV (As := [.int a1, .int a2]) (rest := [.int (0 : Int32), .ref o]) ⟨hx, hb, hml, hown, hts⟩ (n_X8_take l dC dI cI cZ cS hs a H.size M a1 a2 v z2 z3 hf) (cwV 2 hts gL_take_X8_take rfl rfl rfl (by decide +kernel) ⟨Nat.le_of_ble_eq_true rfl, Nat.le_of_ble_eq_true rfl⟩) ⟨WR8.blind, va_recv hK hP (ci := 8) (q0 := 1) rfl rfl, WR8.pre hPc hK8 hDc hNW⟩ rfl rfl hl.1 rfl (lv_room (Nat.le_of_ble_eq_true rfl)) dL_take_5 ⟨Nat.le_of_ble_eq_true rfl, Nat.le_of_ble_eq_true rfl⟩) hS (fun q _ h => hFc q h) hFc (fun rv hs1 t H1 locs ht hvm hw hB hz1 hk1 hS => ?_)
    obtain ⟨hP1, hD1⟩ := hB
    rw [ht] at hP1
    obtain ⟨hw1, hw2⟩ := hw
    rw [hw1]
    obtain ⟨hP, hD⟩ := va_joinP (X := (wL cI cZ cS cL (fS hs) (fG hs) o fl a M)) (cx := (wX8 cI cZ cS (fS hs) (fG hs) a M)) (wr := [(o, .inl (cL, 1, .inr (.inl fl)))]) (rx := (wX8 cI cZ cS (fS hs1) (fG hs1) a z2)) hP hD [1, 2, 3, 4, 5, 6, 7, 8, 9, 10, 11, 12, 13, 14, 15, 16, 17, 18, 19, 20, 21, 22, 23, 24, 25, 26, 27, 28, 29, 30, 31, 32, 33, 34, 35, 36, 37, 38, 39, 40, 41, 42] [0] rfl rfl (by decide) (by decide) hk1 hFc hP1 hD1
    have hP : va_P (dC, dI) vwCl ((wL cI cZ cS cL (fS hs1) (fG hs1) o fl a z2) ++ RW cI cZ hs1) H1 := hP
    have hD : va_D A ((wL cI cZ cS cL (fS hs1) (fG hs1) o fl a z2) ++ RW cI cZ hs1) := hD
    generalize H1 = H at hP hS ⊢
    refine lv_i2l (v := v.toInt64) hx hb dL_take_8 rfl ?_
    refine va_last (D := (dC, dI)) (f := fl) hx hb hK hP hD hS 0 3 rfl rfl (inb_in rfl) dL_take_9 (fun H locs hP hD hS => ?_)
    have hP : va_P (dC, dI) vwCl ((wL cI cZ cS cL (fS hs1) (fG hs1) o (vp_updL fl 0 v.toInt64) a z2) ++ RW cI cZ hs1) H := hP
    have hD : va_D A ((wL cI cZ cS cL (fS hs1) (fG hs1) o (vp_updL fl 0 v.toInt64) a z2) ++ RW cI cZ hs1) := hD
    refine lv_goto (tgt := 25) hx hb dL_take_10 (by decide) ?_
    refine lv_iconst (v := (0 : Int32)) hx hb dL_take_25 (by decide) ?_
    refine W.widen (k := 16) (n := 316) (Nat.le_of_ble_eq_true rfl) (Nat.le_of_ble_eq_true rfl) ?_
    exact W.iret hx hb hr (fun t ht hW => ⟨⟨_, (hs1, (vp_updL fl 0 v.toInt64)), rfl, ⟨rfl, hw2, fun v9 h9 => by cases h9; rfl⟩, WE.mk hP hD ht⟩, hS.F ht⟩) hS.2.2 dL_take_26
  · subst hr9
    have hz3 := hC E9 rfl
    subst hz3
    refine vx_thrH (vx_runV (As := [.int a1, .int a2]) (rest := [.int (0 : Int32), .ref o]) ⟨hx, hb, hml, hown, hts⟩ (t_X8_take l hst dC dI cI cZ cS hs a _ M a1 a2 E9 z2 (cts hs) hf) (cwV 2 hts gL_take_X8_take rfl rfl rfl (by decide +kernel) ⟨Nat.le_of_ble_eq_true rfl, Nat.le_of_ble_eq_true rfl⟩) ⟨T8.blind, va_recv hK hP (ci := 8) (q0 := 1) rfl rfl, T8.pre hPc hK8 hDc hNW (hEX.at hS hFc)⟩ rfl rfl hl.1 rfl (lv_room (Nat.le_of_ble_eq_true rfl)) dL_take_5 ⟨Nat.le_of_ble_eq_true rfl, Nat.le_of_ble_eq_true rfl⟩) hS (fun q _ h => hFc q h) hFc (fun ce q9 t H1 locs1 ht hal hP1 hD1 hz1 hk1 hS hce hcv hcl => ?_)
    obtain ⟨hP, hD⟩ := va_joinP (X := (wL cI cZ cS cL (fS hs) (fG hs) o fl a M)) (cx := (wX8 cI cZ cS (fS hs) (fG hs) a M)) (wr := [(o, .inl (cL, 1, .inr (.inl fl)))]) (rx := (wX8 cI cZ cS (fS hs) (fG hs) a z2)) hP hD [1, 2, 3, 4, 5, 6, 7, 8, 9, 10, 11, 12, 13, 14, 15, 16, 17, 18, 19, 20, 21, 22, 23, 24, 25, 26, 27, 28, 29, 30, 31, 32, 33, 34, 35, 36, 37, 38, 39, 40, 41, 42] [0] rfl rfl (by decide) (by decide) hk1 hFc hP1 hD1
    have hP : va_P (dC, dI) vwCl ((wL cI cZ cS cL (fS hs) (fG hs) o fl a z2) ++ RW cI cZ hs) H1 := hP
    have hD : va_D A ((wL cI cZ cS cL (fS hs) (fG hs) o fl a z2) ++ RW cI cZ hs) := hD
    generalize H1 = H at hP hS hce ⊢
    rcases (show i9 = 0 ∨ i9 = 1 ∨ i9 = 2 by have h7 := (List.getElem?_eq_some_iff.mp hi9).1; simp only [List.length] at h7; omega) with rfl | rfl | rfl
    · cases hi9
      refine vx_catch (own := RL) (name := "java/lang/IndexOutOfBoundsException") hown [] ⟨0, 10, 13, 20⟩ [⟨0, 10, 17, 13⟩, ⟨0, 10, 21, 15⟩] htab (fun z hz => nomatch hz) rfl (by decide) hcl20 ((nc422 hNW).use rfl) hce hcv hcl ?_
      refine lv_astore (lv' := [(4, .ref q9), (0, .ref (a 0)), (1, .int a1), (2, .int a2), (3, .ref o)]) hx hb dL_take_13 hl (by decide) rfl (fun ls hl => ?_)
      refine lv_iconst (v := (1 : Int32)) hx hb dL_take_15 (by decide) ?_
      refine W.widen (k := 16) (n := 316) (Nat.le_of_ble_eq_true rfl) (Nat.le_of_ble_eq_true rfl) ?_
      exact W.iret hx hb hr (fun t ht hW => ⟨⟨_, (hs, fl), rfl, ⟨hk9.symm, rfl, fun v9 h9 => by cases h9⟩, WE.mk hP hD ht⟩, hS.F ht⟩) hS.2.2 dL_take_16
    · cases hi9
      refine vx_catch (own := RL) (name := "java/lang/IllegalArgumentException") hown [⟨0, 10, 13, 20⟩] ⟨0, 10, 17, 13⟩ [⟨0, 10, 21, 15⟩] htab (fun z hz => by
      rcases (show z = ⟨0, 10, 13, 20⟩ by simpa using hz) with rfl
      · exact Or.inr ⟨by decide, "java/lang/IndexOutOfBoundsException", hcl20, hNC ("java/lang/IllegalArgumentException", "java/lang/IndexOutOfBoundsException") (List.mem_of_getElem? (i := 3) rfl)⟩) rfl (by decide) hcl13 ((nc178 hNW).use rfl) hce hcv hcl ?_
      refine lv_astore (lv' := [(4, .ref q9), (0, .ref (a 0)), (1, .int a1), (2, .int a2), (3, .ref o)]) hx hb dL_take_17 hl (by decide) rfl (fun ls hl => ?_)
      refine lv_iconst (v := (2 : Int32)) hx hb dL_take_19 (by decide) ?_
      refine W.widen (k := 16) (n := 316) (Nat.le_of_ble_eq_true rfl) (Nat.le_of_ble_eq_true rfl) ?_
      exact W.iret hx hb hr (fun t ht hW => ⟨⟨_, (hs, fl), rfl, ⟨hk9.symm, rfl, fun v9 h9 => by cases h9⟩, WE.mk hP hD ht⟩, hS.F ht⟩) hS.2.2 dL_take_20
    · cases hi9
      refine vx_catch (own := RL) (name := "java/lang/IllegalStateException") hown [⟨0, 10, 13, 20⟩, ⟨0, 10, 17, 13⟩] ⟨0, 10, 21, 15⟩ [] htab (fun z hz => by
      rcases (show z = ⟨0, 10, 13, 20⟩ ∨ z = ⟨0, 10, 17, 13⟩ by simpa using hz) with rfl | rfl
      · exact Or.inr ⟨by decide, "java/lang/IndexOutOfBoundsException", hcl20, hNC ("java/lang/IllegalStateException", "java/lang/IndexOutOfBoundsException") (List.mem_of_getElem? (i := 1) rfl)⟩
      · exact Or.inr ⟨by decide, "java/lang/IllegalArgumentException", hcl13, hNC ("java/lang/IllegalStateException", "java/lang/IllegalArgumentException") (List.mem_of_getElem? (i := 0) rfl)⟩) rfl (by decide) hcl15 ((nc58 hNW).use rfl) hce hcv hcl ?_
      refine lv_astore (lv' := [(4, .ref q9), (0, .ref (a 0)), (1, .int a1), (2, .int a2), (3, .ref o)]) hx hb dL_take_21 hl (by decide) rfl (fun ls hl => ?_)
      refine lv_iconst (v := (3 : Int32)) hx hb dL_take_23 (by decide) ?_
      refine W.widen (k := 16) (n := 316) (Nat.le_of_ble_eq_true rfl) (Nat.le_of_ble_eq_true rfl) ?_
      exact W.iret hx hb hr (fun t ht hW => ⟨⟨_, (hs, fl), rfl, ⟨hk9.symm, rfl, fun v9 h9 => by cases h9⟩, WE.mk hP hD ht⟩, hS.F ht⟩) hS.2.2 dL_take_24
set_option maxHeartbeats 4000000 in
set_option maxRecDepth 100000 in
theorem w_L_accept (l : Launch) (hst : l.stackTraces = false) (dC : Nat → ClassId) (dI : Nat → Nat → Nat) (cI cZ cS cL : ClassId) (hs : HS) (o : Nat) (fl : Nat → Int64) (a : Nat → Nat) (sz : Nat) (M : Mem) (r : String ⊕ Int32) (kk : Int32) (z2 : Mem) (z3 : Nat → Option Mem) (hf : fX8_accept (cts hs) M  = some (r, z2, z3)) (hA9 : Ans ["java/lang/IllegalArgumentException", "java/lang/IllegalStateException"] r kk) (hC : ∀ E, r = .inl E → z3 = cts hs) : Met l yL_accept wsL_accept ({ frames := 7, cells := 16, slots := 316, locals := 145 } : Room) (va_Pc [.ref (a 0), .ref o] (T9 (dC, dI) cI cZ cS cL ((wL cI cZ cS cL (fS hs) (fG hs) o fl a M) ++ RW cI cZ hs) sz)) (va_Qi (S := HS × (Nat → Int64)) (fun k u => k = kk ∧ cts u.1 = z3 ∧ ∀ v, r = .inr v → u.2 0 = v.toInt64) (fun u t => WE (dC, dI) cI cZ ((wL cI cZ cS cL (fS u.1) (fG u.1) o u.2 a z2) ++ RW cI cZ u.1) (va_A ((wL cI cZ cS cL (fS hs) (fG hs) o fl a M) ++ RW cI cZ hs) sz) t) (va_A ((wL cI cZ cS cL (fS hs) (fG hs) o fl a M) ++ RW cI cZ hs) sz)) 16 316 (va_A ((wL cI cZ cS cL (fS hs) (fG hs) o fl a M) ++ RW cI cZ hs) sz) := by
  refine va_MetW (cc := cL_accept) (maxL := 3) (ret := (some .int)) (hh := [(0, 8, 11, 13), (0, 8, 14, 15)]) (by decide) rfl ?_
  intro p e s m args below meth c s₁ B hml hv
  obtain ⟨rfl, hsz, hP, hK, hD0, hNW, hEX, hNC⟩ := hv
  have hx := B.exec
  have hb := B.bytes
  have hr := B.returns
  have hts := atoms_spec (ws := wsL_accept) B.pre
  have hown : s.vm.findClass RL = some m.cls := findClass_of_methodNamed B.named
  have htab : c.exceptionTable.toList = tableOf [(0, 8, 11, 13), (0, 8, 14, 15)] := vx_table (x := yL_law) B (hts (.codeWith yL_accept cL_accept 3 (some .int) [(0, 8, 11, 13), (0, 8, 14, 15)]) List.mem_cons_self)
  have hK8 : va_K (dC, dI) vwCl (tys8 cI cZ cS) s := hK.sub (tys' := tys8 cI cZ cS) [0, 1, 2] rfl
  have hcl13 := hts (.classLink RL 13 "java/lang/IllegalArgumentException") (by decide +kernel)
  have hcl15 := hts (.classLink RL 15 "java/lang/IllegalStateException") (by decide +kernel)
  subst hsz
  have hD := hD0.self (sz := s.heap.size)
  generalize hAe : va_A ((wL cI cZ cS cL (fS hs) (fG hs) o fl a M) ++ RW cI cZ hs) s.heap.size = A at hD hEX ⊢
  have hA : ∀ q : Nat, s.heap.size ≤ q → A q := fun q h => by rw [← hAe]; exact Or.inr h
  have hS : va_S A s.heap s.heap [] := va_S.rf
  have hl := lv_entry ([.ref (a 0), .ref o]) (n := 3) (Nat.le_of_ble_eq_true rfl)
  rw [lg_entry_eq]
  generalize (lg_sl ([.ref (a 0), .ref o]) ++ List.replicate (3 - (lg_sl ([.ref (a 0), .ref o])).length) Slot.unset).toArray = ls at hl ⊢
  have hl : lv_has ls 3 [(0, .ref (a 0)), (1, .ref o)] := hl
  suffices hgo : ∀ (H : Heap) (locs : List Loc), va_P (dC, dI) vwCl ((wL cI cZ cS cL (fS hs) (fG hs) o fl a M) ++ RW cI cZ hs) H → va_D A ((wL cI cZ cS cL (fS hs) (fG hs) o fl a M) ++ RW cI cZ hs) → va_S A s.heap H locs → W p l e (headSpec wsL_accept ({ frames := 7, cells := 16, slots := 316, locals := 145 } : Room)).room s m ([.ref (a 0), .ref o] : List Value).toArray below meth c H locs 0 0 (MQ below (va_Qi (S := HS × (Nat → Int64)) (fun k u => k = kk ∧ cts u.1 = z3 ∧ ∀ v, r = .inr v → u.2 0 = v.toInt64) (fun u t => WE (dC, dI) cI cZ ((wL cI cZ cS cL (fS u.1) (fG u.1) o u.2 a z2) ++ RW cI cZ u.1) A t) A) ([.ref (a 0), .ref o] : List Value).toArray s 16 316 A) (F0 m 0 ls []) from hgo _ _ hP hD hS
  intro H locs hP hD hS
  refine lv_aload_n hx hb dL_accept_0 rfl (lv_at hl 1 rfl) ?_
  refine lv_iconst (v := (0 : Int32)) hx hb dL_accept_1 (by decide) ?_
  refine lv_aload_n hx hb dL_accept_2 rfl (lv_at hl 0 rfl) ?_
  have hPc := hP.part (X := (wL cI cZ cS cL (fS hs) (fG hs) o fl a M)) (cx := (wX8 cI cZ cS (fS hs) (fG hs) a M)) [1, 2, 3, 4, 5, 6, 7, 8, 9, 10, 11, 12, 13, 14, 15, 16, 17, 18, 19, 20, 21, 22, 23, 24, 25, 26, 27, 28, 29, 30, 31, 32, 33, 34, 35, 36, 37, 38, 39, 40, 41, 42] rfl
  have hDc := hD.part (X := (wL cI cZ cS cL (fS hs) (fG hs) o fl a M)) (cx := (wX8 cI cZ cS (fS hs) (fG hs) a M)) [1, 2, 3, 4, 5, 6, 7, 8, 9, 10, 11, 12, 13, 14, 15, 16, 17, 18, 19, 20, 21, 22, 23, 24, 25, 26, 27, 28, 29, 30, 31, 32, 33, 34, 35, 36, 37, 38, 39, 40, 41, 42] (by decide) rfl
  have hFc := va_freeP (X := (wL cI cZ cS cL (fS hs) (fG hs) o fl a M)) (cx := (wX8 cI cZ cS (fS hs) (fG hs) a M)) hD hS hA [1, 2, 3, 4, 5, 6, 7, 8, 9, 10, 11, 12, 13, 14, 15, 16, 17, 18, 19, 20, 21, 22, 23, 24, 25, 26, 27, 28, 29, 30, 31, 32, 33, 34, 35, 36, 37, 38, 39, 40, 41, 42] rfl
  rcases hA9 with ⟨v, hr9, hk9⟩ | ⟨i9, E9, hi9, hr9, hk9⟩
  · subst hr9
    subst hk9
    refine va_calli (va_runV (As := []) (rest := [.int (0 : Int32), .ref o]) ⟨hx, hb, hml, hown, hts⟩ (n_X8_accept l dC dI cI cZ cS hs a H.size M v z2 z3 hf) (cwV 0 hts gL_accept_X8_accept rfl rfl rfl (by decide +kernel) ⟨Nat.le_of_ble_eq_true rfl, Nat.le_of_ble_eq_true rfl⟩) ⟨WR8.blind, va_recv hK hP (ci := 8) (q0 := 1) rfl rfl, WR8.pre hPc hK8 hDc hNW⟩ rfl rfl hl.1 rfl (lv_room (Nat.le_of_ble_eq_true rfl)) dL_accept_3 ⟨Nat.le_of_ble_eq_true rfl, Nat.le_of_ble_eq_true rfl⟩) hS (fun q _ h => hFc q h) hFc (fun rv hs1 t H1 locs ht hvm hw hB hz1 hk1 hS => ?_)
    obtain ⟨hP1, hD1⟩ := hB
    rw [ht] at hP1
    obtain ⟨hw1, hw2⟩ := hw
    rw [hw1]
    obtain ⟨hP, hD⟩ := va_joinP (X := (wL cI cZ cS cL (fS hs) (fG hs) o fl a M)) (cx := (wX8 cI cZ cS (fS hs) (fG hs) a M)) (wr := [(o, .inl (cL, 1, .inr (.inl fl)))]) (rx := (wX8 cI cZ cS (fS hs1) (fG hs1) a z2)) hP hD [1, 2, 3, 4, 5, 6, 7, 8, 9, 10, 11, 12, 13, 14, 15, 16, 17, 18, 19, 20, 21, 22, 23, 24, 25, 26, 27, 28, 29, 30, 31, 32, 33, 34, 35, 36, 37, 38, 39, 40, 41, 42] [0] rfl rfl (by decide) (by decide) hk1 hFc hP1 hD1
    have hP : va_P (dC, dI) vwCl ((wL cI cZ cS cL (fS hs1) (fG hs1) o fl a z2) ++ RW cI cZ hs1) H1 := hP
    have hD : va_D A ((wL cI cZ cS cL (fS hs1) (fG hs1) o fl a z2) ++ RW cI cZ hs1) := hD
    generalize H1 = H at hP hS ⊢
    refine lv_i2l (v := v.toInt64) hx hb dL_accept_6 rfl ?_
    refine va_last (D := (dC, dI)) (f := fl) hx hb hK hP hD hS 0 3 rfl rfl (inb_in rfl) dL_accept_7 (fun H locs hP hD hS => ?_)
    have hP : va_P (dC, dI) vwCl ((wL cI cZ cS cL (fS hs1) (fG hs1) o (vp_updL fl 0 v.toInt64) a z2) ++ RW cI cZ hs1) H := hP
    have hD : va_D A ((wL cI cZ cS cL (fS hs1) (fG hs1) o (vp_updL fl 0 v.toInt64) a z2) ++ RW cI cZ hs1) := hD
    refine lv_goto (tgt := 17) hx hb dL_accept_8 (by decide) ?_
    refine lv_iconst (v := (0 : Int32)) hx hb dL_accept_17 (by decide) ?_
    refine W.widen (k := 16) (n := 316) (Nat.le_of_ble_eq_true rfl) (Nat.le_of_ble_eq_true rfl) ?_
    exact W.iret hx hb hr (fun t ht hW => ⟨⟨_, (hs1, (vp_updL fl 0 v.toInt64)), rfl, ⟨rfl, hw2, fun v9 h9 => by cases h9; rfl⟩, WE.mk hP hD ht⟩, hS.F ht⟩) hS.2.2 dL_accept_18
  · subst hr9
    have hz3 := hC E9 rfl
    subst hz3
    refine vx_thrH (vx_runV (As := []) (rest := [.int (0 : Int32), .ref o]) ⟨hx, hb, hml, hown, hts⟩ (t_X8_accept l hst dC dI cI cZ cS hs a _ M E9 z2 (cts hs) hf) (cwV 0 hts gL_accept_X8_accept rfl rfl rfl (by decide +kernel) ⟨Nat.le_of_ble_eq_true rfl, Nat.le_of_ble_eq_true rfl⟩) ⟨T8.blind, va_recv hK hP (ci := 8) (q0 := 1) rfl rfl, T8.pre hPc hK8 hDc hNW (hEX.at hS hFc)⟩ rfl rfl hl.1 rfl (lv_room (Nat.le_of_ble_eq_true rfl)) dL_accept_3 ⟨Nat.le_of_ble_eq_true rfl, Nat.le_of_ble_eq_true rfl⟩) hS (fun q _ h => hFc q h) hFc (fun ce q9 t H1 locs1 ht hal hP1 hD1 hz1 hk1 hS hce hcv hcl => ?_)
    obtain ⟨hP, hD⟩ := va_joinP (X := (wL cI cZ cS cL (fS hs) (fG hs) o fl a M)) (cx := (wX8 cI cZ cS (fS hs) (fG hs) a M)) (wr := [(o, .inl (cL, 1, .inr (.inl fl)))]) (rx := (wX8 cI cZ cS (fS hs) (fG hs) a z2)) hP hD [1, 2, 3, 4, 5, 6, 7, 8, 9, 10, 11, 12, 13, 14, 15, 16, 17, 18, 19, 20, 21, 22, 23, 24, 25, 26, 27, 28, 29, 30, 31, 32, 33, 34, 35, 36, 37, 38, 39, 40, 41, 42] [0] rfl rfl (by decide) (by decide) hk1 hFc hP1 hD1
    have hP : va_P (dC, dI) vwCl ((wL cI cZ cS cL (fS hs) (fG hs) o fl a z2) ++ RW cI cZ hs) H1 := hP
    have hD : va_D A ((wL cI cZ cS cL (fS hs) (fG hs) o fl a z2) ++ RW cI cZ hs) := hD
    generalize H1 = H at hP hS hce ⊢
    rcases (show i9 = 0 ∨ i9 = 1 by have h7 := (List.getElem?_eq_some_iff.mp hi9).1; simp only [List.length] at h7; omega) with rfl | rfl
    · cases hi9
      refine vx_catch (own := RL) (name := "java/lang/IllegalArgumentException") hown [] ⟨0, 8, 11, 13⟩ [⟨0, 8, 14, 15⟩] htab (fun z hz => nomatch hz) rfl (by decide) hcl13 ((nc178 hNW).use rfl) hce hcv hcl ?_
      refine lv_astore_n (lv' := [(2, .ref q9), (0, .ref (a 0)), (1, .ref o)]) hx hb dL_accept_11 rfl hl (by decide) rfl (fun ls hl => ?_)
      refine lv_iconst (v := (1 : Int32)) hx hb dL_accept_12 (by decide) ?_
      refine W.widen (k := 16) (n := 316) (Nat.le_of_ble_eq_true rfl) (Nat.le_of_ble_eq_true rfl) ?_
      exact W.iret hx hb hr (fun t ht hW => ⟨⟨_, (hs, fl), rfl, ⟨hk9.symm, rfl, fun v9 h9 => by cases h9⟩, WE.mk hP hD ht⟩, hS.F ht⟩) hS.2.2 dL_accept_13
    · cases hi9
      refine vx_catch (own := RL) (name := "java/lang/IllegalStateException") hown [⟨0, 8, 11, 13⟩] ⟨0, 8, 14, 15⟩ [] htab (fun z hz => by
      rcases (show z = ⟨0, 8, 11, 13⟩ by simpa using hz) with rfl
      · exact Or.inr ⟨by decide, "java/lang/IllegalArgumentException", hcl13, hNC ("java/lang/IllegalStateException", "java/lang/IllegalArgumentException") (List.mem_of_getElem? (i := 0) rfl)⟩) rfl (by decide) hcl15 ((nc58 hNW).use rfl) hce hcv hcl ?_
      refine lv_astore_n (lv' := [(2, .ref q9), (0, .ref (a 0)), (1, .ref o)]) hx hb dL_accept_14 rfl hl (by decide) rfl (fun ls hl => ?_)
      refine lv_iconst (v := (2 : Int32)) hx hb dL_accept_15 (by decide) ?_
      refine W.widen (k := 16) (n := 316) (Nat.le_of_ble_eq_true rfl) (Nat.le_of_ble_eq_true rfl) ?_
      exact W.iret hx hb hr (fun t ht hW => ⟨⟨_, (hs, fl), rfl, ⟨hk9.symm, rfl, fun v9 h9 => by cases h9⟩, WE.mk hP hD ht⟩, hS.F ht⟩) hS.2.2 dL_accept_16
set_option maxHeartbeats 4000000 in
set_option maxRecDepth 100000 in
theorem w_L_cancel (l : Launch) (hst : l.stackTraces = false) (dC : Nat → ClassId) (dI : Nat → Nat → Nat) (cI cZ cS cL : ClassId) (hs : HS) (o : Nat) (fl : Nat → Int64) (a : Nat → Nat) (sz : Nat) (M : Mem) (a1 : Int32) (r : String ⊕ Int32) (kk : Int32) (z2 : Mem) (z3 : Nat → Option Mem) (hf : fX8_cancel (cts hs) M a1 = some (r, z2, z3)) (hA9 : Ans ["java/lang/IndexOutOfBoundsException"] r kk) (hC : ∀ E, r = .inl E → z3 = cts hs) : Met l yL_cancel wsL_cancel ({ frames := 8, cells := 16, slots := 316, locals := 153 } : Room) (va_Pc [.ref (a 0), .int a1, .ref o] (T9 (dC, dI) cI cZ cS cL ((wL cI cZ cS cL (fS hs) (fG hs) o fl a M) ++ RW cI cZ hs) sz)) (va_Qi (S := HS × (Nat → Int64)) (fun k u => k = kk ∧ cts u.1 = z3 ∧ ∀ v, r = .inr v → u.2 0 = v.toInt64) (fun u t => WE (dC, dI) cI cZ ((wL cI cZ cS cL (fS u.1) (fG u.1) o u.2 a z2) ++ RW cI cZ u.1) (va_A ((wL cI cZ cS cL (fS hs) (fG hs) o fl a M) ++ RW cI cZ hs) sz) t) (va_A ((wL cI cZ cS cL (fS hs) (fG hs) o fl a M) ++ RW cI cZ hs) sz)) 16 316 (va_A ((wL cI cZ cS cL (fS hs) (fG hs) o fl a M) ++ RW cI cZ hs) sz) := by
  refine va_MetW (cc := cL_cancel) (maxL := 4) (ret := (some .int)) (hh := [(0, 9, 12, 20)]) (by decide) rfl ?_
  intro p e s m args below meth c s₁ B hml hv
  obtain ⟨rfl, hsz, hP, hK, hD0, hNW, hEX, hNC⟩ := hv
  have hx := B.exec
  have hb := B.bytes
  have hr := B.returns
  have hts := atoms_spec (ws := wsL_cancel) B.pre
  have hown : s.vm.findClass RL = some m.cls := findClass_of_methodNamed B.named
  have htab : c.exceptionTable.toList = tableOf [(0, 9, 12, 20)] := vx_table (x := yL_law) B (hts (.codeWith yL_cancel cL_cancel 4 (some .int) [(0, 9, 12, 20)]) List.mem_cons_self)
  have hK8 : va_K (dC, dI) vwCl (tys8 cI cZ cS) s := hK.sub (tys' := tys8 cI cZ cS) [0, 1, 2] rfl
  have hcl20 := hts (.classLink RL 20 "java/lang/IndexOutOfBoundsException") (by decide +kernel)
  subst hsz
  have hD := hD0.self (sz := s.heap.size)
  generalize hAe : va_A ((wL cI cZ cS cL (fS hs) (fG hs) o fl a M) ++ RW cI cZ hs) s.heap.size = A at hD hEX ⊢
  have hA : ∀ q : Nat, s.heap.size ≤ q → A q := fun q h => by rw [← hAe]; exact Or.inr h
  have hS : va_S A s.heap s.heap [] := va_S.rf
  have hl := lv_entry ([.ref (a 0), .int a1, .ref o]) (n := 4) (Nat.le_of_ble_eq_true rfl)
  rw [lg_entry_eq]
  generalize (lg_sl ([.ref (a 0), .int a1, .ref o]) ++ List.replicate (4 - (lg_sl ([.ref (a 0), .int a1, .ref o])).length) Slot.unset).toArray = ls at hl ⊢
  have hl : lv_has ls 4 [(0, .ref (a 0)), (1, .int a1), (2, .ref o)] := hl
  suffices hgo : ∀ (H : Heap) (locs : List Loc), va_P (dC, dI) vwCl ((wL cI cZ cS cL (fS hs) (fG hs) o fl a M) ++ RW cI cZ hs) H → va_D A ((wL cI cZ cS cL (fS hs) (fG hs) o fl a M) ++ RW cI cZ hs) → va_S A s.heap H locs → W p l e (headSpec wsL_cancel ({ frames := 8, cells := 16, slots := 316, locals := 153 } : Room)).room s m ([.ref (a 0), .int a1, .ref o] : List Value).toArray below meth c H locs 0 0 (MQ below (va_Qi (S := HS × (Nat → Int64)) (fun k u => k = kk ∧ cts u.1 = z3 ∧ ∀ v, r = .inr v → u.2 0 = v.toInt64) (fun u t => WE (dC, dI) cI cZ ((wL cI cZ cS cL (fS u.1) (fG u.1) o u.2 a z2) ++ RW cI cZ u.1) A t) A) ([.ref (a 0), .int a1, .ref o] : List Value).toArray s 16 316 A) (F0 m 0 ls []) from hgo _ _ hP hD hS
  intro H locs hP hD hS
  refine lv_aload_n hx hb dL_cancel_0 rfl (lv_at hl 2 rfl) ?_
  refine lv_iconst (v := (0 : Int32)) hx hb dL_cancel_1 (by decide) ?_
  refine lv_aload_n hx hb dL_cancel_2 rfl (lv_at hl 0 rfl) ?_
  refine lv_iload_n hx hb dL_cancel_3 rfl (lv_at hl 1 rfl) ?_
  have hPc := hP.part (X := (wL cI cZ cS cL (fS hs) (fG hs) o fl a M)) (cx := (wX8 cI cZ cS (fS hs) (fG hs) a M)) [1, 2, 3, 4, 5, 6, 7, 8, 9, 10, 11, 12, 13, 14, 15, 16, 17, 18, 19, 20, 21, 22, 23, 24, 25, 26, 27, 28, 29, 30, 31, 32, 33, 34, 35, 36, 37, 38, 39, 40, 41, 42] rfl
  have hDc := hD.part (X := (wL cI cZ cS cL (fS hs) (fG hs) o fl a M)) (cx := (wX8 cI cZ cS (fS hs) (fG hs) a M)) [1, 2, 3, 4, 5, 6, 7, 8, 9, 10, 11, 12, 13, 14, 15, 16, 17, 18, 19, 20, 21, 22, 23, 24, 25, 26, 27, 28, 29, 30, 31, 32, 33, 34, 35, 36, 37, 38, 39, 40, 41, 42] (by decide) rfl
  have hFc := va_freeP (X := (wL cI cZ cS cL (fS hs) (fG hs) o fl a M)) (cx := (wX8 cI cZ cS (fS hs) (fG hs) a M)) hD hS hA [1, 2, 3, 4, 5, 6, 7, 8, 9, 10, 11, 12, 13, 14, 15, 16, 17, 18, 19, 20, 21, 22, 23, 24, 25, 26, 27, 28, 29, 30, 31, 32, 33, 34, 35, 36, 37, 38, 39, 40, 41, 42] rfl
  rcases hA9 with ⟨v, hr9, hk9⟩ | ⟨i9, E9, hi9, hr9, hk9⟩
  · subst hr9
    subst hk9
    refine va_calli (va_runV (As := [.int a1]) (rest := [.int (0 : Int32), .ref o]) ⟨hx, hb, hml, hown, hts⟩ (n_X8_cancel l dC dI cI cZ cS hs a H.size M a1 v z2 z3 hf) (cwV 1 hts gL_cancel_X8_cancel rfl rfl rfl (by decide +kernel) ⟨Nat.le_of_ble_eq_true rfl, Nat.le_of_ble_eq_true rfl⟩) ⟨WR8.blind, va_recv hK hP (ci := 8) (q0 := 1) rfl rfl, WR8.pre hPc hK8 hDc hNW⟩ rfl rfl hl.1 rfl (lv_room (Nat.le_of_ble_eq_true rfl)) dL_cancel_4 ⟨Nat.le_of_ble_eq_true rfl, Nat.le_of_ble_eq_true rfl⟩) hS (fun q _ h => hFc q h) hFc (fun rv hs1 t H1 locs ht hvm hw hB hz1 hk1 hS => ?_)
    obtain ⟨hP1, hD1⟩ := hB
    rw [ht] at hP1
    obtain ⟨hw1, hw2⟩ := hw
    rw [hw1]
    obtain ⟨hP, hD⟩ := va_joinP (X := (wL cI cZ cS cL (fS hs) (fG hs) o fl a M)) (cx := (wX8 cI cZ cS (fS hs) (fG hs) a M)) (wr := [(o, .inl (cL, 1, .inr (.inl fl)))]) (rx := (wX8 cI cZ cS (fS hs1) (fG hs1) a z2)) hP hD [1, 2, 3, 4, 5, 6, 7, 8, 9, 10, 11, 12, 13, 14, 15, 16, 17, 18, 19, 20, 21, 22, 23, 24, 25, 26, 27, 28, 29, 30, 31, 32, 33, 34, 35, 36, 37, 38, 39, 40, 41, 42] [0] rfl rfl (by decide) (by decide) hk1 hFc hP1 hD1
    have hP : va_P (dC, dI) vwCl ((wL cI cZ cS cL (fS hs1) (fG hs1) o fl a z2) ++ RW cI cZ hs1) H1 := hP
    have hD : va_D A ((wL cI cZ cS cL (fS hs1) (fG hs1) o fl a z2) ++ RW cI cZ hs1) := hD
    generalize H1 = H at hP hS ⊢
    refine lv_i2l (v := v.toInt64) hx hb dL_cancel_7 rfl ?_
    refine va_last (D := (dC, dI)) (f := fl) hx hb hK hP hD hS 0 3 rfl rfl (inb_in rfl) dL_cancel_8 (fun H locs hP hD hS => ?_)
    have hP : va_P (dC, dI) vwCl ((wL cI cZ cS cL (fS hs1) (fG hs1) o (vp_updL fl 0 v.toInt64) a z2) ++ RW cI cZ hs1) H := hP
    have hD : va_D A ((wL cI cZ cS cL (fS hs1) (fG hs1) o (vp_updL fl 0 v.toInt64) a z2) ++ RW cI cZ hs1) := hD
    refine lv_goto (tgt := 15) hx hb dL_cancel_9 (by decide) ?_
    refine lv_iconst (v := (0 : Int32)) hx hb dL_cancel_15 (by decide) ?_
    refine W.widen (k := 16) (n := 316) (Nat.le_of_ble_eq_true rfl) (Nat.le_of_ble_eq_true rfl) ?_
    exact W.iret hx hb hr (fun t ht hW => ⟨⟨_, (hs1, (vp_updL fl 0 v.toInt64)), rfl, ⟨rfl, hw2, fun v9 h9 => by cases h9; rfl⟩, WE.mk hP hD ht⟩, hS.F ht⟩) hS.2.2 dL_cancel_16
  · subst hr9
    have hz3 := hC E9 rfl
    subst hz3
    refine vx_thrH (vx_runV (As := [.int a1]) (rest := [.int (0 : Int32), .ref o]) ⟨hx, hb, hml, hown, hts⟩ (t_X8_cancel l hst dC dI cI cZ cS hs a _ M a1 E9 z2 (cts hs) hf) (cwV 1 hts gL_cancel_X8_cancel rfl rfl rfl (by decide +kernel) ⟨Nat.le_of_ble_eq_true rfl, Nat.le_of_ble_eq_true rfl⟩) ⟨T8.blind, va_recv hK hP (ci := 8) (q0 := 1) rfl rfl, T8.pre hPc hK8 hDc hNW (hEX.at hS hFc)⟩ rfl rfl hl.1 rfl (lv_room (Nat.le_of_ble_eq_true rfl)) dL_cancel_4 ⟨Nat.le_of_ble_eq_true rfl, Nat.le_of_ble_eq_true rfl⟩) hS (fun q _ h => hFc q h) hFc (fun ce q9 t H1 locs1 ht hal hP1 hD1 hz1 hk1 hS hce hcv hcl => ?_)
    obtain ⟨hP, hD⟩ := va_joinP (X := (wL cI cZ cS cL (fS hs) (fG hs) o fl a M)) (cx := (wX8 cI cZ cS (fS hs) (fG hs) a M)) (wr := [(o, .inl (cL, 1, .inr (.inl fl)))]) (rx := (wX8 cI cZ cS (fS hs) (fG hs) a z2)) hP hD [1, 2, 3, 4, 5, 6, 7, 8, 9, 10, 11, 12, 13, 14, 15, 16, 17, 18, 19, 20, 21, 22, 23, 24, 25, 26, 27, 28, 29, 30, 31, 32, 33, 34, 35, 36, 37, 38, 39, 40, 41, 42] [0] rfl rfl (by decide) (by decide) hk1 hFc hP1 hD1
    have hP : va_P (dC, dI) vwCl ((wL cI cZ cS cL (fS hs) (fG hs) o fl a z2) ++ RW cI cZ hs) H1 := hP
    have hD : va_D A ((wL cI cZ cS cL (fS hs) (fG hs) o fl a z2) ++ RW cI cZ hs) := hD
    generalize H1 = H at hP hS hce ⊢
    rcases (show i9 = 0 by have h7 := (List.getElem?_eq_some_iff.mp hi9).1; simp only [List.length] at h7; omega) with rfl
    · cases hi9
      refine vx_catch (own := RL) (name := "java/lang/IndexOutOfBoundsException") hown [] ⟨0, 9, 12, 20⟩ [] htab (fun z hz => nomatch hz) rfl (by decide) hcl20 ((nc422 hNW).use rfl) hce hcv hcl ?_
      refine lv_astore_n (lv' := [(3, .ref q9), (0, .ref (a 0)), (1, .int a1), (2, .ref o)]) hx hb dL_cancel_12 rfl hl (by decide) rfl (fun ls hl => ?_)
      refine lv_iconst (v := (1 : Int32)) hx hb dL_cancel_13 (by decide) ?_
      refine W.widen (k := 16) (n := 316) (Nat.le_of_ble_eq_true rfl) (Nat.le_of_ble_eq_true rfl) ?_
      exact W.iret hx hb hr (fun t ht hW => ⟨⟨_, (hs, fl), rfl, ⟨hk9.symm, rfl, fun v9 h9 => by cases h9⟩, WE.mk hP hD ht⟩, hS.F ht⟩) hS.2.2 dL_cancel_14
set_option maxHeartbeats 4000000 in
set_option maxRecDepth 100000 in
theorem w_L_serve (l : Launch) (hst : l.stackTraces = false) (dC : Nat → ClassId) (dI : Nat → Nat → Nat) (cI cZ cS cL : ClassId) (hs : HS) (o : Nat) (fl : Nat → Int64) (a : Nat → Nat) (sz : Nat) (M : Mem) (a1 : Int32) (r : String ⊕ Int32) (kk : Int32) (z2 : Mem) (z3 : Nat → Option Mem) (hf : fX8_serve (cts hs) M a1 = some (r, z2, z3)) (hA9 : Ans ["java/lang/IndexOutOfBoundsException", "java/lang/IllegalStateException"] r kk) (hC : ∀ E, r = .inl E → z3 = cts hs) : Met l yL_serve wsL_serve ({ frames := 8, cells := 16, slots := 316, locals := 154 } : Room) (va_Pc [.ref (a 0), .int a1, .ref o] (T9 (dC, dI) cI cZ cS cL ((wL cI cZ cS cL (fS hs) (fG hs) o fl a M) ++ RW cI cZ hs) sz)) (va_Qi (S := HS × (Nat → Int64)) (fun k u => k = kk ∧ cts u.1 = z3 ∧ ∀ v, r = .inr v → u.2 0 = v.toInt64) (fun u t => WE (dC, dI) cI cZ ((wL cI cZ cS cL (fS u.1) (fG u.1) o u.2 a z2) ++ RW cI cZ u.1) (va_A ((wL cI cZ cS cL (fS hs) (fG hs) o fl a M) ++ RW cI cZ hs) sz) t) (va_A ((wL cI cZ cS cL (fS hs) (fG hs) o fl a M) ++ RW cI cZ hs) sz)) 16 316 (va_A ((wL cI cZ cS cL (fS hs) (fG hs) o fl a M) ++ RW cI cZ hs) sz) := by
  refine va_MetW (cc := cL_serve) (maxL := 4) (ret := (some .int)) (hh := [(0, 9, 12, 20), (0, 9, 15, 15)]) (by decide) rfl ?_
  intro p e s m args below meth c s₁ B hml hv
  obtain ⟨rfl, hsz, hP, hK, hD0, hNW, hEX, hNC⟩ := hv
  have hx := B.exec
  have hb := B.bytes
  have hr := B.returns
  have hts := atoms_spec (ws := wsL_serve) B.pre
  have hown : s.vm.findClass RL = some m.cls := findClass_of_methodNamed B.named
  have htab : c.exceptionTable.toList = tableOf [(0, 9, 12, 20), (0, 9, 15, 15)] := vx_table (x := yL_law) B (hts (.codeWith yL_serve cL_serve 4 (some .int) [(0, 9, 12, 20), (0, 9, 15, 15)]) List.mem_cons_self)
  have hK8 : va_K (dC, dI) vwCl (tys8 cI cZ cS) s := hK.sub (tys' := tys8 cI cZ cS) [0, 1, 2] rfl
  have hcl20 := hts (.classLink RL 20 "java/lang/IndexOutOfBoundsException") (by decide +kernel)
  have hcl15 := hts (.classLink RL 15 "java/lang/IllegalStateException") (by decide +kernel)
  subst hsz
  have hD := hD0.self (sz := s.heap.size)
  generalize hAe : va_A ((wL cI cZ cS cL (fS hs) (fG hs) o fl a M) ++ RW cI cZ hs) s.heap.size = A at hD hEX ⊢
  have hA : ∀ q : Nat, s.heap.size ≤ q → A q := fun q h => by rw [← hAe]; exact Or.inr h
  have hS : va_S A s.heap s.heap [] := va_S.rf
  have hl := lv_entry ([.ref (a 0), .int a1, .ref o]) (n := 4) (Nat.le_of_ble_eq_true rfl)
  rw [lg_entry_eq]
  generalize (lg_sl ([.ref (a 0), .int a1, .ref o]) ++ List.replicate (4 - (lg_sl ([.ref (a 0), .int a1, .ref o])).length) Slot.unset).toArray = ls at hl ⊢
  have hl : lv_has ls 4 [(0, .ref (a 0)), (1, .int a1), (2, .ref o)] := hl
  suffices hgo : ∀ (H : Heap) (locs : List Loc), va_P (dC, dI) vwCl ((wL cI cZ cS cL (fS hs) (fG hs) o fl a M) ++ RW cI cZ hs) H → va_D A ((wL cI cZ cS cL (fS hs) (fG hs) o fl a M) ++ RW cI cZ hs) → va_S A s.heap H locs → W p l e (headSpec wsL_serve ({ frames := 8, cells := 16, slots := 316, locals := 154 } : Room)).room s m ([.ref (a 0), .int a1, .ref o] : List Value).toArray below meth c H locs 0 0 (MQ below (va_Qi (S := HS × (Nat → Int64)) (fun k u => k = kk ∧ cts u.1 = z3 ∧ ∀ v, r = .inr v → u.2 0 = v.toInt64) (fun u t => WE (dC, dI) cI cZ ((wL cI cZ cS cL (fS u.1) (fG u.1) o u.2 a z2) ++ RW cI cZ u.1) A t) A) ([.ref (a 0), .int a1, .ref o] : List Value).toArray s 16 316 A) (F0 m 0 ls []) from hgo _ _ hP hD hS
  intro H locs hP hD hS
  refine lv_aload_n hx hb dL_serve_0 rfl (lv_at hl 2 rfl) ?_
  refine lv_iconst (v := (0 : Int32)) hx hb dL_serve_1 (by decide) ?_
  refine lv_aload_n hx hb dL_serve_2 rfl (lv_at hl 0 rfl) ?_
  refine lv_iload_n hx hb dL_serve_3 rfl (lv_at hl 1 rfl) ?_
  have hPc := hP.part (X := (wL cI cZ cS cL (fS hs) (fG hs) o fl a M)) (cx := (wX8 cI cZ cS (fS hs) (fG hs) a M)) [1, 2, 3, 4, 5, 6, 7, 8, 9, 10, 11, 12, 13, 14, 15, 16, 17, 18, 19, 20, 21, 22, 23, 24, 25, 26, 27, 28, 29, 30, 31, 32, 33, 34, 35, 36, 37, 38, 39, 40, 41, 42] rfl
  have hDc := hD.part (X := (wL cI cZ cS cL (fS hs) (fG hs) o fl a M)) (cx := (wX8 cI cZ cS (fS hs) (fG hs) a M)) [1, 2, 3, 4, 5, 6, 7, 8, 9, 10, 11, 12, 13, 14, 15, 16, 17, 18, 19, 20, 21, 22, 23, 24, 25, 26, 27, 28, 29, 30, 31, 32, 33, 34, 35, 36, 37, 38, 39, 40, 41, 42] (by decide) rfl
  have hFc := va_freeP (X := (wL cI cZ cS cL (fS hs) (fG hs) o fl a M)) (cx := (wX8 cI cZ cS (fS hs) (fG hs) a M)) hD hS hA [1, 2, 3, 4, 5, 6, 7, 8, 9, 10, 11, 12, 13, 14, 15, 16, 17, 18, 19, 20, 21, 22, 23, 24, 25, 26, 27, 28, 29, 30, 31, 32, 33, 34, 35, 36, 37, 38, 39, 40, 41, 42] rfl
  rcases hA9 with ⟨v, hr9, hk9⟩ | ⟨i9, E9, hi9, hr9, hk9⟩
  · subst hr9
    subst hk9
    refine va_calli (va_runV (As := [.int a1]) (rest := [.int (0 : Int32), .ref o]) ⟨hx, hb, hml, hown, hts⟩ (n_X8_serve l dC dI cI cZ cS hs a H.size M a1 v z2 z3 hf) (cwV 1 hts gL_serve_X8_serve rfl rfl rfl (by decide +kernel) ⟨Nat.le_of_ble_eq_true rfl, Nat.le_of_ble_eq_true rfl⟩) ⟨WR8.blind, va_recv hK hP (ci := 8) (q0 := 1) rfl rfl, WR8.pre hPc hK8 hDc hNW⟩ rfl rfl hl.1 rfl (lv_room (Nat.le_of_ble_eq_true rfl)) dL_serve_4 ⟨Nat.le_of_ble_eq_true rfl, Nat.le_of_ble_eq_true rfl⟩) hS (fun q _ h => hFc q h) hFc (fun rv hs1 t H1 locs ht hvm hw hB hz1 hk1 hS => ?_)
    obtain ⟨hP1, hD1⟩ := hB
    rw [ht] at hP1
    obtain ⟨hw1, hw2⟩ := hw
    rw [hw1]
    obtain ⟨hP, hD⟩ := va_joinP (X := (wL cI cZ cS cL (fS hs) (fG hs) o fl a M)) (cx := (wX8 cI cZ cS (fS hs) (fG hs) a M)) (wr := [(o, .inl (cL, 1, .inr (.inl fl)))]) (rx := (wX8 cI cZ cS (fS hs1) (fG hs1) a z2)) hP hD [1, 2, 3, 4, 5, 6, 7, 8, 9, 10, 11, 12, 13, 14, 15, 16, 17, 18, 19, 20, 21, 22, 23, 24, 25, 26, 27, 28, 29, 30, 31, 32, 33, 34, 35, 36, 37, 38, 39, 40, 41, 42] [0] rfl rfl (by decide) (by decide) hk1 hFc hP1 hD1
    have hP : va_P (dC, dI) vwCl ((wL cI cZ cS cL (fS hs1) (fG hs1) o fl a z2) ++ RW cI cZ hs1) H1 := hP
    have hD : va_D A ((wL cI cZ cS cL (fS hs1) (fG hs1) o fl a z2) ++ RW cI cZ hs1) := hD
    generalize H1 = H at hP hS ⊢
    refine lv_i2l (v := v.toInt64) hx hb dL_serve_7 rfl ?_
    refine va_last (D := (dC, dI)) (f := fl) hx hb hK hP hD hS 0 3 rfl rfl (inb_in rfl) dL_serve_8 (fun H locs hP hD hS => ?_)
    have hP : va_P (dC, dI) vwCl ((wL cI cZ cS cL (fS hs1) (fG hs1) o (vp_updL fl 0 v.toInt64) a z2) ++ RW cI cZ hs1) H := hP
    have hD : va_D A ((wL cI cZ cS cL (fS hs1) (fG hs1) o (vp_updL fl 0 v.toInt64) a z2) ++ RW cI cZ hs1) := hD
    refine lv_goto (tgt := 18) hx hb dL_serve_9 (by decide) ?_
    refine lv_iconst (v := (0 : Int32)) hx hb dL_serve_18 (by decide) ?_
    refine W.widen (k := 16) (n := 316) (Nat.le_of_ble_eq_true rfl) (Nat.le_of_ble_eq_true rfl) ?_
    exact W.iret hx hb hr (fun t ht hW => ⟨⟨_, (hs1, (vp_updL fl 0 v.toInt64)), rfl, ⟨rfl, hw2, fun v9 h9 => by cases h9; rfl⟩, WE.mk hP hD ht⟩, hS.F ht⟩) hS.2.2 dL_serve_19
  · subst hr9
    have hz3 := hC E9 rfl
    subst hz3
    refine vx_thrH (vx_runV (As := [.int a1]) (rest := [.int (0 : Int32), .ref o]) ⟨hx, hb, hml, hown, hts⟩ (t_X8_serve l hst dC dI cI cZ cS hs a _ M a1 E9 z2 (cts hs) hf) (cwV 1 hts gL_serve_X8_serve rfl rfl rfl (by decide +kernel) ⟨Nat.le_of_ble_eq_true rfl, Nat.le_of_ble_eq_true rfl⟩) ⟨T8.blind, va_recv hK hP (ci := 8) (q0 := 1) rfl rfl, T8.pre hPc hK8 hDc hNW (hEX.at hS hFc)⟩ rfl rfl hl.1 rfl (lv_room (Nat.le_of_ble_eq_true rfl)) dL_serve_4 ⟨Nat.le_of_ble_eq_true rfl, Nat.le_of_ble_eq_true rfl⟩) hS (fun q _ h => hFc q h) hFc (fun ce q9 t H1 locs1 ht hal hP1 hD1 hz1 hk1 hS hce hcv hcl => ?_)
    obtain ⟨hP, hD⟩ := va_joinP (X := (wL cI cZ cS cL (fS hs) (fG hs) o fl a M)) (cx := (wX8 cI cZ cS (fS hs) (fG hs) a M)) (wr := [(o, .inl (cL, 1, .inr (.inl fl)))]) (rx := (wX8 cI cZ cS (fS hs) (fG hs) a z2)) hP hD [1, 2, 3, 4, 5, 6, 7, 8, 9, 10, 11, 12, 13, 14, 15, 16, 17, 18, 19, 20, 21, 22, 23, 24, 25, 26, 27, 28, 29, 30, 31, 32, 33, 34, 35, 36, 37, 38, 39, 40, 41, 42] [0] rfl rfl (by decide) (by decide) hk1 hFc hP1 hD1
    have hP : va_P (dC, dI) vwCl ((wL cI cZ cS cL (fS hs) (fG hs) o fl a z2) ++ RW cI cZ hs) H1 := hP
    have hD : va_D A ((wL cI cZ cS cL (fS hs) (fG hs) o fl a z2) ++ RW cI cZ hs) := hD
    generalize H1 = H at hP hS hce ⊢
    rcases (show i9 = 0 ∨ i9 = 1 by have h7 := (List.getElem?_eq_some_iff.mp hi9).1; simp only [List.length] at h7; omega) with rfl | rfl
    · cases hi9
      refine vx_catch (own := RL) (name := "java/lang/IndexOutOfBoundsException") hown [] ⟨0, 9, 12, 20⟩ [⟨0, 9, 15, 15⟩] htab (fun z hz => nomatch hz) rfl (by decide) hcl20 ((nc422 hNW).use rfl) hce hcv hcl ?_
      refine lv_astore_n (lv' := [(3, .ref q9), (0, .ref (a 0)), (1, .int a1), (2, .ref o)]) hx hb dL_serve_12 rfl hl (by decide) rfl (fun ls hl => ?_)
      refine lv_iconst (v := (1 : Int32)) hx hb dL_serve_13 (by decide) ?_
      refine W.widen (k := 16) (n := 316) (Nat.le_of_ble_eq_true rfl) (Nat.le_of_ble_eq_true rfl) ?_
      exact W.iret hx hb hr (fun t ht hW => ⟨⟨_, (hs, fl), rfl, ⟨hk9.symm, rfl, fun v9 h9 => by cases h9⟩, WE.mk hP hD ht⟩, hS.F ht⟩) hS.2.2 dL_serve_14
    · cases hi9
      refine vx_catch (own := RL) (name := "java/lang/IllegalStateException") hown [⟨0, 9, 12, 20⟩] ⟨0, 9, 15, 15⟩ [] htab (fun z hz => by
      rcases (show z = ⟨0, 9, 12, 20⟩ by simpa using hz) with rfl
      · exact Or.inr ⟨by decide, "java/lang/IndexOutOfBoundsException", hcl20, hNC ("java/lang/IllegalStateException", "java/lang/IndexOutOfBoundsException") (List.mem_of_getElem? (i := 1) rfl)⟩) rfl (by decide) hcl15 ((nc58 hNW).use rfl) hce hcv hcl ?_
      refine lv_astore_n (lv' := [(3, .ref q9), (0, .ref (a 0)), (1, .int a1), (2, .ref o)]) hx hb dL_serve_15 rfl hl (by decide) rfl (fun ls hl => ?_)
      refine lv_iconst (v := (2 : Int32)) hx hb dL_serve_16 (by decide) ?_
      refine W.widen (k := 16) (n := 316) (Nat.le_of_ble_eq_true rfl) (Nat.le_of_ble_eq_true rfl) ?_
      exact W.iret hx hb hr (fun t ht hW => ⟨⟨_, (hs, fl), rfl, ⟨hk9.symm, rfl, fun v9 h9 => by cases h9⟩, WE.mk hP hD ht⟩, hS.F ht⟩) hS.2.2 dL_serve_17
set_option maxHeartbeats 4000000 in
set_option maxRecDepth 100000 in
theorem w_L_serveAll (l : Launch) (hst : l.stackTraces = false) (dC : Nat → ClassId) (dI : Nat → Nat → Nat) (cI cZ cS cL : ClassId) (hs : HS) (o : Nat) (fl : Nat → Int64) (a : Nat → Nat) (sz : Nat) (M : Mem) (r : String ⊕ Int32) (kk : Int32) (z2 : Mem) (z3 : Nat → Option Mem) (hf : fX8_serveAll (cts hs) M  = some (r, z2, z3)) (hA9 : Ans ["java/lang/IllegalStateException"] r kk) (hC : ∀ E, r = .inl E → z3 = cts hs) : Met l yL_serveAll wsL_serveAll ({ frames := 8, cells := 16, slots := 316, locals := 176 } : Room) (va_Pc [.ref (a 0), .ref o] (T9 (dC, dI) cI cZ cS cL ((wL cI cZ cS cL (fS hs) (fG hs) o fl a M) ++ RW cI cZ hs) sz)) (va_Qi (S := HS × (Nat → Int64)) (fun k u => k = kk ∧ cts u.1 = z3 ∧ ∀ v, r = .inr v → u.2 0 = v.toInt64) (fun u t => WE (dC, dI) cI cZ ((wL cI cZ cS cL (fS u.1) (fG u.1) o u.2 a z2) ++ RW cI cZ u.1) (va_A ((wL cI cZ cS cL (fS hs) (fG hs) o fl a M) ++ RW cI cZ hs) sz) t) (va_A ((wL cI cZ cS cL (fS hs) (fG hs) o fl a M) ++ RW cI cZ hs) sz)) 16 316 (va_A ((wL cI cZ cS cL (fS hs) (fG hs) o fl a M) ++ RW cI cZ hs) sz) := by
  refine va_MetW (cc := cL_serveAll) (maxL := 3) (ret := (some .int)) (hh := [(0, 8, 11, 15)]) (by decide) rfl ?_
  intro p e s m args below meth c s₁ B hml hv
  obtain ⟨rfl, hsz, hP, hK, hD0, hNW, hEX, hNC⟩ := hv
  have hx := B.exec
  have hb := B.bytes
  have hr := B.returns
  have hts := atoms_spec (ws := wsL_serveAll) B.pre
  have hown : s.vm.findClass RL = some m.cls := findClass_of_methodNamed B.named
  have htab : c.exceptionTable.toList = tableOf [(0, 8, 11, 15)] := vx_table (x := yL_law) B (hts (.codeWith yL_serveAll cL_serveAll 3 (some .int) [(0, 8, 11, 15)]) List.mem_cons_self)
  have hK8 : va_K (dC, dI) vwCl (tys8 cI cZ cS) s := hK.sub (tys' := tys8 cI cZ cS) [0, 1, 2] rfl
  have hcl15 := hts (.classLink RL 15 "java/lang/IllegalStateException") (by decide +kernel)
  subst hsz
  have hD := hD0.self (sz := s.heap.size)
  generalize hAe : va_A ((wL cI cZ cS cL (fS hs) (fG hs) o fl a M) ++ RW cI cZ hs) s.heap.size = A at hD hEX ⊢
  have hA : ∀ q : Nat, s.heap.size ≤ q → A q := fun q h => by rw [← hAe]; exact Or.inr h
  have hS : va_S A s.heap s.heap [] := va_S.rf
  have hl := lv_entry ([.ref (a 0), .ref o]) (n := 3) (Nat.le_of_ble_eq_true rfl)
  rw [lg_entry_eq]
  generalize (lg_sl ([.ref (a 0), .ref o]) ++ List.replicate (3 - (lg_sl ([.ref (a 0), .ref o])).length) Slot.unset).toArray = ls at hl ⊢
  have hl : lv_has ls 3 [(0, .ref (a 0)), (1, .ref o)] := hl
  suffices hgo : ∀ (H : Heap) (locs : List Loc), va_P (dC, dI) vwCl ((wL cI cZ cS cL (fS hs) (fG hs) o fl a M) ++ RW cI cZ hs) H → va_D A ((wL cI cZ cS cL (fS hs) (fG hs) o fl a M) ++ RW cI cZ hs) → va_S A s.heap H locs → W p l e (headSpec wsL_serveAll ({ frames := 8, cells := 16, slots := 316, locals := 176 } : Room)).room s m ([.ref (a 0), .ref o] : List Value).toArray below meth c H locs 0 0 (MQ below (va_Qi (S := HS × (Nat → Int64)) (fun k u => k = kk ∧ cts u.1 = z3 ∧ ∀ v, r = .inr v → u.2 0 = v.toInt64) (fun u t => WE (dC, dI) cI cZ ((wL cI cZ cS cL (fS u.1) (fG u.1) o u.2 a z2) ++ RW cI cZ u.1) A t) A) ([.ref (a 0), .ref o] : List Value).toArray s 16 316 A) (F0 m 0 ls []) from hgo _ _ hP hD hS
  intro H locs hP hD hS
  refine lv_aload_n hx hb dL_serveAll_0 rfl (lv_at hl 1 rfl) ?_
  refine lv_iconst (v := (0 : Int32)) hx hb dL_serveAll_1 (by decide) ?_
  refine lv_aload_n hx hb dL_serveAll_2 rfl (lv_at hl 0 rfl) ?_
  have hPc := hP.part (X := (wL cI cZ cS cL (fS hs) (fG hs) o fl a M)) (cx := (wX8 cI cZ cS (fS hs) (fG hs) a M)) [1, 2, 3, 4, 5, 6, 7, 8, 9, 10, 11, 12, 13, 14, 15, 16, 17, 18, 19, 20, 21, 22, 23, 24, 25, 26, 27, 28, 29, 30, 31, 32, 33, 34, 35, 36, 37, 38, 39, 40, 41, 42] rfl
  have hDc := hD.part (X := (wL cI cZ cS cL (fS hs) (fG hs) o fl a M)) (cx := (wX8 cI cZ cS (fS hs) (fG hs) a M)) [1, 2, 3, 4, 5, 6, 7, 8, 9, 10, 11, 12, 13, 14, 15, 16, 17, 18, 19, 20, 21, 22, 23, 24, 25, 26, 27, 28, 29, 30, 31, 32, 33, 34, 35, 36, 37, 38, 39, 40, 41, 42] (by decide) rfl
  have hFc := va_freeP (X := (wL cI cZ cS cL (fS hs) (fG hs) o fl a M)) (cx := (wX8 cI cZ cS (fS hs) (fG hs) a M)) hD hS hA [1, 2, 3, 4, 5, 6, 7, 8, 9, 10, 11, 12, 13, 14, 15, 16, 17, 18, 19, 20, 21, 22, 23, 24, 25, 26, 27, 28, 29, 30, 31, 32, 33, 34, 35, 36, 37, 38, 39, 40, 41, 42] rfl
  rcases hA9 with ⟨v, hr9, hk9⟩ | ⟨i9, E9, hi9, hr9, hk9⟩
  · subst hr9
    subst hk9
    refine va_calli (va_runV (As := []) (rest := [.int (0 : Int32), .ref o]) ⟨hx, hb, hml, hown, hts⟩ (n_X8_serveAll l dC dI cI cZ cS hs a H.size M v z2 z3 hf) (cwV 0 hts gL_serveAll_X8_serveAll rfl rfl rfl (by decide +kernel) ⟨Nat.le_of_ble_eq_true rfl, Nat.le_of_ble_eq_true rfl⟩) ⟨WR8.blind, va_recv hK hP (ci := 8) (q0 := 1) rfl rfl, WR8.pre hPc hK8 hDc hNW⟩ rfl rfl hl.1 rfl (lv_room (Nat.le_of_ble_eq_true rfl)) dL_serveAll_3 ⟨Nat.le_of_ble_eq_true rfl, Nat.le_of_ble_eq_true rfl⟩) hS (fun q _ h => hFc q h) hFc (fun rv hs1 t H1 locs ht hvm hw hB hz1 hk1 hS => ?_)
    obtain ⟨hP1, hD1⟩ := hB
    rw [ht] at hP1
    obtain ⟨hw1, hw2⟩ := hw
    rw [hw1]
    obtain ⟨hP, hD⟩ := va_joinP (X := (wL cI cZ cS cL (fS hs) (fG hs) o fl a M)) (cx := (wX8 cI cZ cS (fS hs) (fG hs) a M)) (wr := [(o, .inl (cL, 1, .inr (.inl fl)))]) (rx := (wX8 cI cZ cS (fS hs1) (fG hs1) a z2)) hP hD [1, 2, 3, 4, 5, 6, 7, 8, 9, 10, 11, 12, 13, 14, 15, 16, 17, 18, 19, 20, 21, 22, 23, 24, 25, 26, 27, 28, 29, 30, 31, 32, 33, 34, 35, 36, 37, 38, 39, 40, 41, 42] [0] rfl rfl (by decide) (by decide) hk1 hFc hP1 hD1
    have hP : va_P (dC, dI) vwCl ((wL cI cZ cS cL (fS hs1) (fG hs1) o fl a z2) ++ RW cI cZ hs1) H1 := hP
    have hD : va_D A ((wL cI cZ cS cL (fS hs1) (fG hs1) o fl a z2) ++ RW cI cZ hs1) := hD
    generalize H1 = H at hP hS ⊢
    refine lv_i2l (v := v.toInt64) hx hb dL_serveAll_6 rfl ?_
    refine va_last (D := (dC, dI)) (f := fl) hx hb hK hP hD hS 0 3 rfl rfl (inb_in rfl) dL_serveAll_7 (fun H locs hP hD hS => ?_)
    have hP : va_P (dC, dI) vwCl ((wL cI cZ cS cL (fS hs1) (fG hs1) o (vp_updL fl 0 v.toInt64) a z2) ++ RW cI cZ hs1) H := hP
    have hD : va_D A ((wL cI cZ cS cL (fS hs1) (fG hs1) o (vp_updL fl 0 v.toInt64) a z2) ++ RW cI cZ hs1) := hD
    refine lv_goto (tgt := 14) hx hb dL_serveAll_8 (by decide) ?_
    refine lv_iconst (v := (0 : Int32)) hx hb dL_serveAll_14 (by decide) ?_
    refine W.widen (k := 16) (n := 316) (Nat.le_of_ble_eq_true rfl) (Nat.le_of_ble_eq_true rfl) ?_
    exact W.iret hx hb hr (fun t ht hW => ⟨⟨_, (hs1, (vp_updL fl 0 v.toInt64)), rfl, ⟨rfl, hw2, fun v9 h9 => by cases h9; rfl⟩, WE.mk hP hD ht⟩, hS.F ht⟩) hS.2.2 dL_serveAll_15
  · subst hr9
    have hz3 := hC E9 rfl
    subst hz3
    refine vx_thrH (vx_runV (As := []) (rest := [.int (0 : Int32), .ref o]) ⟨hx, hb, hml, hown, hts⟩ (t_X8_serveAll l hst dC dI cI cZ cS hs a _ M E9 z2 (cts hs) hf) (cwV 0 hts gL_serveAll_X8_serveAll rfl rfl rfl (by decide +kernel) ⟨Nat.le_of_ble_eq_true rfl, Nat.le_of_ble_eq_true rfl⟩) ⟨T8.blind, va_recv hK hP (ci := 8) (q0 := 1) rfl rfl, T8.pre hPc hK8 hDc hNW (hEX.at hS hFc)⟩ rfl rfl hl.1 rfl (lv_room (Nat.le_of_ble_eq_true rfl)) dL_serveAll_3 ⟨Nat.le_of_ble_eq_true rfl, Nat.le_of_ble_eq_true rfl⟩) hS (fun q _ h => hFc q h) hFc (fun ce q9 t H1 locs1 ht hal hP1 hD1 hz1 hk1 hS hce hcv hcl => ?_)
    obtain ⟨hP, hD⟩ := va_joinP (X := (wL cI cZ cS cL (fS hs) (fG hs) o fl a M)) (cx := (wX8 cI cZ cS (fS hs) (fG hs) a M)) (wr := [(o, .inl (cL, 1, .inr (.inl fl)))]) (rx := (wX8 cI cZ cS (fS hs) (fG hs) a z2)) hP hD [1, 2, 3, 4, 5, 6, 7, 8, 9, 10, 11, 12, 13, 14, 15, 16, 17, 18, 19, 20, 21, 22, 23, 24, 25, 26, 27, 28, 29, 30, 31, 32, 33, 34, 35, 36, 37, 38, 39, 40, 41, 42] [0] rfl rfl (by decide) (by decide) hk1 hFc hP1 hD1
    have hP : va_P (dC, dI) vwCl ((wL cI cZ cS cL (fS hs) (fG hs) o fl a z2) ++ RW cI cZ hs) H1 := hP
    have hD : va_D A ((wL cI cZ cS cL (fS hs) (fG hs) o fl a z2) ++ RW cI cZ hs) := hD
    generalize H1 = H at hP hS hce ⊢
    rcases (show i9 = 0 by have h7 := (List.getElem?_eq_some_iff.mp hi9).1; simp only [List.length] at h7; omega) with rfl
    · cases hi9
      refine vx_catch (own := RL) (name := "java/lang/IllegalStateException") hown [] ⟨0, 8, 11, 15⟩ [] htab (fun z hz => nomatch hz) rfl (by decide) hcl15 ((nc58 hNW).use rfl) hce hcv hcl ?_
      refine lv_astore_n (lv' := [(2, .ref q9), (0, .ref (a 0)), (1, .ref o)]) hx hb dL_serveAll_11 rfl hl (by decide) rfl (fun ls hl => ?_)
      refine lv_iconst (v := (1 : Int32)) hx hb dL_serveAll_12 (by decide) ?_
      refine W.widen (k := 16) (n := 316) (Nat.le_of_ble_eq_true rfl) (Nat.le_of_ble_eq_true rfl) ?_
      exact W.iret hx hb hr (fun t ht hW => ⟨⟨_, (hs, fl), rfl, ⟨hk9.symm, rfl, fun v9 h9 => by cases h9⟩, WE.mk hP hD ht⟩, hS.F ht⟩) hS.2.2 dL_serveAll_13
set_option maxHeartbeats 4000000 in
set_option maxRecDepth 100000 in
theorem w_L_changeLeast (l : Launch) (hst : l.stackTraces = false) (dC : Nat → ClassId) (dI : Nat → Nat → Nat) (cI cZ cS cL : ClassId) (hs : HS) (o : Nat) (fl : Nat → Int64) (a : Nat → Nat) (sz : Nat) (M : Mem) (a1 : Int32) (a2 : Int32) (r : String ⊕ Int32) (kk : Int32) (z2 : Mem) (z3 : Nat → Option Mem) (hf : fX8_changeLeast (cts hs) M a1 a2 = some (r, z2, z3)) (hA9 : Ans ["java/lang/IndexOutOfBoundsException", "java/lang/IllegalArgumentException"] r kk) (hC : ∀ E, r = .inl E → z3 = cts hs) : Met l yL_changeLeast wsL_changeLeast ({ frames := 8, cells := 16, slots := 316, locals := 154 } : Room) (va_Pc [.ref (a 0), .int a1, .int a2, .ref o] (T9 (dC, dI) cI cZ cS cL ((wL cI cZ cS cL (fS hs) (fG hs) o fl a M) ++ RW cI cZ hs) sz)) (va_Qi (S := HS × (Nat → Int64)) (fun k u => k = kk ∧ cts u.1 = z3 ∧ ∀ v, r = .inr v → u.2 0 = v.toInt64) (fun u t => WE (dC, dI) cI cZ ((wL cI cZ cS cL (fS u.1) (fG u.1) o u.2 a z2) ++ RW cI cZ u.1) (va_A ((wL cI cZ cS cL (fS hs) (fG hs) o fl a M) ++ RW cI cZ hs) sz) t) (va_A ((wL cI cZ cS cL (fS hs) (fG hs) o fl a M) ++ RW cI cZ hs) sz)) 16 316 (va_A ((wL cI cZ cS cL (fS hs) (fG hs) o fl a M) ++ RW cI cZ hs) sz) := by
  refine va_MetW (cc := cL_changeLeast) (maxL := 5) (ret := (some .int)) (hh := [(0, 10, 13, 20), (0, 10, 17, 13)]) (by decide) rfl ?_
  intro p e s m args below meth c s₁ B hml hv
  obtain ⟨rfl, hsz, hP, hK, hD0, hNW, hEX, hNC⟩ := hv
  have hx := B.exec
  have hb := B.bytes
  have hr := B.returns
  have hts := atoms_spec (ws := wsL_changeLeast) B.pre
  have hown : s.vm.findClass RL = some m.cls := findClass_of_methodNamed B.named
  have htab : c.exceptionTable.toList = tableOf [(0, 10, 13, 20), (0, 10, 17, 13)] := vx_table (x := yL_law) B (hts (.codeWith yL_changeLeast cL_changeLeast 5 (some .int) [(0, 10, 13, 20), (0, 10, 17, 13)]) List.mem_cons_self)
  have hK8 : va_K (dC, dI) vwCl (tys8 cI cZ cS) s := hK.sub (tys' := tys8 cI cZ cS) [0, 1, 2] rfl
  have hcl20 := hts (.classLink RL 20 "java/lang/IndexOutOfBoundsException") (by decide +kernel)
  have hcl13 := hts (.classLink RL 13 "java/lang/IllegalArgumentException") (by decide +kernel)
  subst hsz
  have hD := hD0.self (sz := s.heap.size)
  generalize hAe : va_A ((wL cI cZ cS cL (fS hs) (fG hs) o fl a M) ++ RW cI cZ hs) s.heap.size = A at hD hEX ⊢
  have hA : ∀ q : Nat, s.heap.size ≤ q → A q := fun q h => by rw [← hAe]; exact Or.inr h
  have hS : va_S A s.heap s.heap [] := va_S.rf
  have hl := lv_entry ([.ref (a 0), .int a1, .int a2, .ref o]) (n := 5) (Nat.le_of_ble_eq_true rfl)
  rw [lg_entry_eq]
  generalize (lg_sl ([.ref (a 0), .int a1, .int a2, .ref o]) ++ List.replicate (5 - (lg_sl ([.ref (a 0), .int a1, .int a2, .ref o])).length) Slot.unset).toArray = ls at hl ⊢
  have hl : lv_has ls 5 [(0, .ref (a 0)), (1, .int a1), (2, .int a2), (3, .ref o)] := hl
  suffices hgo : ∀ (H : Heap) (locs : List Loc), va_P (dC, dI) vwCl ((wL cI cZ cS cL (fS hs) (fG hs) o fl a M) ++ RW cI cZ hs) H → va_D A ((wL cI cZ cS cL (fS hs) (fG hs) o fl a M) ++ RW cI cZ hs) → va_S A s.heap H locs → W p l e (headSpec wsL_changeLeast ({ frames := 8, cells := 16, slots := 316, locals := 154 } : Room)).room s m ([.ref (a 0), .int a1, .int a2, .ref o] : List Value).toArray below meth c H locs 0 0 (MQ below (va_Qi (S := HS × (Nat → Int64)) (fun k u => k = kk ∧ cts u.1 = z3 ∧ ∀ v, r = .inr v → u.2 0 = v.toInt64) (fun u t => WE (dC, dI) cI cZ ((wL cI cZ cS cL (fS u.1) (fG u.1) o u.2 a z2) ++ RW cI cZ u.1) A t) A) ([.ref (a 0), .int a1, .int a2, .ref o] : List Value).toArray s 16 316 A) (F0 m 0 ls []) from hgo _ _ hP hD hS
  intro H locs hP hD hS
  refine lv_aload_n hx hb dL_changeLeast_0 rfl (lv_at hl 3 rfl) ?_
  refine lv_iconst (v := (0 : Int32)) hx hb dL_changeLeast_1 (by decide) ?_
  refine lv_aload_n hx hb dL_changeLeast_2 rfl (lv_at hl 0 rfl) ?_
  refine lv_iload_n hx hb dL_changeLeast_3 rfl (lv_at hl 1 rfl) ?_
  refine lv_iload_n hx hb dL_changeLeast_4 rfl (lv_at hl 2 rfl) ?_
  have hPc := hP.part (X := (wL cI cZ cS cL (fS hs) (fG hs) o fl a M)) (cx := (wX8 cI cZ cS (fS hs) (fG hs) a M)) [1, 2, 3, 4, 5, 6, 7, 8, 9, 10, 11, 12, 13, 14, 15, 16, 17, 18, 19, 20, 21, 22, 23, 24, 25, 26, 27, 28, 29, 30, 31, 32, 33, 34, 35, 36, 37, 38, 39, 40, 41, 42] rfl
  have hDc := hD.part (X := (wL cI cZ cS cL (fS hs) (fG hs) o fl a M)) (cx := (wX8 cI cZ cS (fS hs) (fG hs) a M)) [1, 2, 3, 4, 5, 6, 7, 8, 9, 10, 11, 12, 13, 14, 15, 16, 17, 18, 19, 20, 21, 22, 23, 24, 25, 26, 27, 28, 29, 30, 31, 32, 33, 34, 35, 36, 37, 38, 39, 40, 41, 42] (by decide) rfl
  have hFc := va_freeP (X := (wL cI cZ cS cL (fS hs) (fG hs) o fl a M)) (cx := (wX8 cI cZ cS (fS hs) (fG hs) a M)) hD hS hA [1, 2, 3, 4, 5, 6, 7, 8, 9, 10, 11, 12, 13, 14, 15, 16, 17, 18, 19, 20, 21, 22, 23, 24, 25, 26, 27, 28, 29, 30, 31, 32, 33, 34, 35, 36, 37, 38, 39, 40, 41, 42] rfl
  rcases hA9 with ⟨v, hr9, hk9⟩ | ⟨i9, E9, hi9, hr9, hk9⟩
  · subst hr9
    subst hk9
    refine va_calli (va_runV (As := [.int a1, .int a2]) (rest := [.int (0 : Int32), .ref o]) ⟨hx, hb, hml, hown, hts⟩ (n_X8_changeLeast l dC dI cI cZ cS hs a H.size M a1 a2 v z2 z3 hf) (cwV 2 hts gL_changeLeast_X8_changeLeast rfl rfl rfl (by decide +kernel) ⟨Nat.le_of_ble_eq_true rfl, Nat.le_of_ble_eq_true rfl⟩) ⟨WR8.blind, va_recv hK hP (ci := 8) (q0 := 1) rfl rfl, WR8.pre hPc hK8 hDc hNW⟩ rfl rfl hl.1 rfl (lv_room (Nat.le_of_ble_eq_true rfl)) dL_changeLeast_5 ⟨Nat.le_of_ble_eq_true rfl, Nat.le_of_ble_eq_true rfl⟩) hS (fun q _ h => hFc q h) hFc (fun rv hs1 t H1 locs ht hvm hw hB hz1 hk1 hS => ?_)
    obtain ⟨hP1, hD1⟩ := hB
    rw [ht] at hP1
    obtain ⟨hw1, hw2⟩ := hw
    rw [hw1]
    obtain ⟨hP, hD⟩ := va_joinP (X := (wL cI cZ cS cL (fS hs) (fG hs) o fl a M)) (cx := (wX8 cI cZ cS (fS hs) (fG hs) a M)) (wr := [(o, .inl (cL, 1, .inr (.inl fl)))]) (rx := (wX8 cI cZ cS (fS hs1) (fG hs1) a z2)) hP hD [1, 2, 3, 4, 5, 6, 7, 8, 9, 10, 11, 12, 13, 14, 15, 16, 17, 18, 19, 20, 21, 22, 23, 24, 25, 26, 27, 28, 29, 30, 31, 32, 33, 34, 35, 36, 37, 38, 39, 40, 41, 42] [0] rfl rfl (by decide) (by decide) hk1 hFc hP1 hD1
    have hP : va_P (dC, dI) vwCl ((wL cI cZ cS cL (fS hs1) (fG hs1) o fl a z2) ++ RW cI cZ hs1) H1 := hP
    have hD : va_D A ((wL cI cZ cS cL (fS hs1) (fG hs1) o fl a z2) ++ RW cI cZ hs1) := hD
    generalize H1 = H at hP hS ⊢
    refine lv_i2l (v := v.toInt64) hx hb dL_changeLeast_8 rfl ?_
    refine va_last (D := (dC, dI)) (f := fl) hx hb hK hP hD hS 0 3 rfl rfl (inb_in rfl) dL_changeLeast_9 (fun H locs hP hD hS => ?_)
    have hP : va_P (dC, dI) vwCl ((wL cI cZ cS cL (fS hs1) (fG hs1) o (vp_updL fl 0 v.toInt64) a z2) ++ RW cI cZ hs1) H := hP
    have hD : va_D A ((wL cI cZ cS cL (fS hs1) (fG hs1) o (vp_updL fl 0 v.toInt64) a z2) ++ RW cI cZ hs1) := hD
    refine lv_goto (tgt := 21) hx hb dL_changeLeast_10 (by decide) ?_
    refine lv_iconst (v := (0 : Int32)) hx hb dL_changeLeast_21 (by decide) ?_
    refine W.widen (k := 16) (n := 316) (Nat.le_of_ble_eq_true rfl) (Nat.le_of_ble_eq_true rfl) ?_
    exact W.iret hx hb hr (fun t ht hW => ⟨⟨_, (hs1, (vp_updL fl 0 v.toInt64)), rfl, ⟨rfl, hw2, fun v9 h9 => by cases h9; rfl⟩, WE.mk hP hD ht⟩, hS.F ht⟩) hS.2.2 dL_changeLeast_22
  · subst hr9
    have hz3 := hC E9 rfl
    subst hz3
    refine vx_thrH (vx_runV (As := [.int a1, .int a2]) (rest := [.int (0 : Int32), .ref o]) ⟨hx, hb, hml, hown, hts⟩ (t_X8_changeLeast l hst dC dI cI cZ cS hs a _ M a1 a2 E9 z2 (cts hs) hf) (cwV 2 hts gL_changeLeast_X8_changeLeast rfl rfl rfl (by decide +kernel) ⟨Nat.le_of_ble_eq_true rfl, Nat.le_of_ble_eq_true rfl⟩) ⟨T8.blind, va_recv hK hP (ci := 8) (q0 := 1) rfl rfl, T8.pre hPc hK8 hDc hNW (hEX.at hS hFc)⟩ rfl rfl hl.1 rfl (lv_room (Nat.le_of_ble_eq_true rfl)) dL_changeLeast_5 ⟨Nat.le_of_ble_eq_true rfl, Nat.le_of_ble_eq_true rfl⟩) hS (fun q _ h => hFc q h) hFc (fun ce q9 t H1 locs1 ht hal hP1 hD1 hz1 hk1 hS hce hcv hcl => ?_)
    obtain ⟨hP, hD⟩ := va_joinP (X := (wL cI cZ cS cL (fS hs) (fG hs) o fl a M)) (cx := (wX8 cI cZ cS (fS hs) (fG hs) a M)) (wr := [(o, .inl (cL, 1, .inr (.inl fl)))]) (rx := (wX8 cI cZ cS (fS hs) (fG hs) a z2)) hP hD [1, 2, 3, 4, 5, 6, 7, 8, 9, 10, 11, 12, 13, 14, 15, 16, 17, 18, 19, 20, 21, 22, 23, 24, 25, 26, 27, 28, 29, 30, 31, 32, 33, 34, 35, 36, 37, 38, 39, 40, 41, 42] [0] rfl rfl (by decide) (by decide) hk1 hFc hP1 hD1
    have hP : va_P (dC, dI) vwCl ((wL cI cZ cS cL (fS hs) (fG hs) o fl a z2) ++ RW cI cZ hs) H1 := hP
    have hD : va_D A ((wL cI cZ cS cL (fS hs) (fG hs) o fl a z2) ++ RW cI cZ hs) := hD
    generalize H1 = H at hP hS hce ⊢
    rcases (show i9 = 0 ∨ i9 = 1 by have h7 := (List.getElem?_eq_some_iff.mp hi9).1; simp only [List.length] at h7; omega) with rfl | rfl
    · cases hi9
      refine vx_catch (own := RL) (name := "java/lang/IndexOutOfBoundsException") hown [] ⟨0, 10, 13, 20⟩ [⟨0, 10, 17, 13⟩] htab (fun z hz => nomatch hz) rfl (by decide) hcl20 ((nc422 hNW).use rfl) hce hcv hcl ?_
      refine lv_astore (lv' := [(4, .ref q9), (0, .ref (a 0)), (1, .int a1), (2, .int a2), (3, .ref o)]) hx hb dL_changeLeast_13 hl (by decide) rfl (fun ls hl => ?_)
      refine lv_iconst (v := (1 : Int32)) hx hb dL_changeLeast_15 (by decide) ?_
      refine W.widen (k := 16) (n := 316) (Nat.le_of_ble_eq_true rfl) (Nat.le_of_ble_eq_true rfl) ?_
      exact W.iret hx hb hr (fun t ht hW => ⟨⟨_, (hs, fl), rfl, ⟨hk9.symm, rfl, fun v9 h9 => by cases h9⟩, WE.mk hP hD ht⟩, hS.F ht⟩) hS.2.2 dL_changeLeast_16
    · cases hi9
      refine vx_catch (own := RL) (name := "java/lang/IllegalArgumentException") hown [⟨0, 10, 13, 20⟩] ⟨0, 10, 17, 13⟩ [] htab (fun z hz => by
      rcases (show z = ⟨0, 10, 13, 20⟩ by simpa using hz) with rfl
      · exact Or.inr ⟨by decide, "java/lang/IndexOutOfBoundsException", hcl20, hNC ("java/lang/IllegalArgumentException", "java/lang/IndexOutOfBoundsException") (List.mem_of_getElem? (i := 3) rfl)⟩) rfl (by decide) hcl13 ((nc178 hNW).use rfl) hce hcv hcl ?_
      refine lv_astore (lv' := [(4, .ref q9), (0, .ref (a 0)), (1, .int a1), (2, .int a2), (3, .ref o)]) hx hb dL_changeLeast_17 hl (by decide) rfl (fun ls hl => ?_)
      refine lv_iconst (v := (2 : Int32)) hx hb dL_changeLeast_19 (by decide) ?_
      refine W.widen (k := 16) (n := 316) (Nat.le_of_ble_eq_true rfl) (Nat.le_of_ble_eq_true rfl) ?_
      exact W.iret hx hb hr (fun t ht hW => ⟨⟨_, (hs, fl), rfl, ⟨hk9.symm, rfl, fun v9 h9 => by cases h9⟩, WE.mk hP hD ht⟩, hS.F ht⟩) hS.2.2 dL_changeLeast_20
set_option maxHeartbeats 4000000 in
set_option maxRecDepth 100000 in
theorem w_L_changeWeight (l : Launch) (hst : l.stackTraces = false) (dC : Nat → ClassId) (dI : Nat → Nat → Nat) (cI cZ cS cL : ClassId) (hs : HS) (o : Nat) (fl : Nat → Int64) (a : Nat → Nat) (sz : Nat) (M : Mem) (a1 : Int32) (a2 : Int32) (r : String ⊕ Int32) (kk : Int32) (z2 : Mem) (z3 : Nat → Option Mem) (hf : fX8_changeWeight (cts hs) M a1 a2 = some (r, z2, z3)) (hA9 : Ans ["java/lang/IndexOutOfBoundsException", "java/lang/IllegalArgumentException", "java/lang/IllegalStateException"] r kk) (hC : ∀ E, r = .inl E → z3 = cts hs) : Met l yL_changeWeight wsL_changeWeight ({ frames := 8, cells := 16, slots := 316, locals := 154 } : Room) (va_Pc [.ref (a 0), .int a1, .int a2, .ref o] (T9 (dC, dI) cI cZ cS cL ((wL cI cZ cS cL (fS hs) (fG hs) o fl a M) ++ RW cI cZ hs) sz)) (va_Qi (S := HS × (Nat → Int64)) (fun k u => k = kk ∧ cts u.1 = z3 ∧ ∀ v, r = .inr v → u.2 0 = v.toInt64) (fun u t => WE (dC, dI) cI cZ ((wL cI cZ cS cL (fS u.1) (fG u.1) o u.2 a z2) ++ RW cI cZ u.1) (va_A ((wL cI cZ cS cL (fS hs) (fG hs) o fl a M) ++ RW cI cZ hs) sz) t) (va_A ((wL cI cZ cS cL (fS hs) (fG hs) o fl a M) ++ RW cI cZ hs) sz)) 16 316 (va_A ((wL cI cZ cS cL (fS hs) (fG hs) o fl a M) ++ RW cI cZ hs) sz) := by
  refine va_MetW (cc := cL_changeWeight) (maxL := 5) (ret := (some .int)) (hh := [(0, 10, 13, 20), (0, 10, 17, 13), (0, 10, 21, 15)]) (by decide) rfl ?_
  intro p e s m args below meth c s₁ B hml hv
  obtain ⟨rfl, hsz, hP, hK, hD0, hNW, hEX, hNC⟩ := hv
  have hx := B.exec
  have hb := B.bytes
  have hr := B.returns
  have hts := atoms_spec (ws := wsL_changeWeight) B.pre
  have hown : s.vm.findClass RL = some m.cls := findClass_of_methodNamed B.named
  have htab : c.exceptionTable.toList = tableOf [(0, 10, 13, 20), (0, 10, 17, 13), (0, 10, 21, 15)] := vx_table (x := yL_law) B (hts (.codeWith yL_changeWeight cL_changeWeight 5 (some .int) [(0, 10, 13, 20), (0, 10, 17, 13), (0, 10, 21, 15)]) List.mem_cons_self)
  have hK8 : va_K (dC, dI) vwCl (tys8 cI cZ cS) s := hK.sub (tys' := tys8 cI cZ cS) [0, 1, 2] rfl
  have hcl20 := hts (.classLink RL 20 "java/lang/IndexOutOfBoundsException") (by decide +kernel)
  have hcl13 := hts (.classLink RL 13 "java/lang/IllegalArgumentException") (by decide +kernel)
  have hcl15 := hts (.classLink RL 15 "java/lang/IllegalStateException") (by decide +kernel)
  subst hsz
  have hD := hD0.self (sz := s.heap.size)
  generalize hAe : va_A ((wL cI cZ cS cL (fS hs) (fG hs) o fl a M) ++ RW cI cZ hs) s.heap.size = A at hD hEX ⊢
  have hA : ∀ q : Nat, s.heap.size ≤ q → A q := fun q h => by rw [← hAe]; exact Or.inr h
  have hS : va_S A s.heap s.heap [] := va_S.rf
  have hl := lv_entry ([.ref (a 0), .int a1, .int a2, .ref o]) (n := 5) (Nat.le_of_ble_eq_true rfl)
  rw [lg_entry_eq]
  generalize (lg_sl ([.ref (a 0), .int a1, .int a2, .ref o]) ++ List.replicate (5 - (lg_sl ([.ref (a 0), .int a1, .int a2, .ref o])).length) Slot.unset).toArray = ls at hl ⊢
  have hl : lv_has ls 5 [(0, .ref (a 0)), (1, .int a1), (2, .int a2), (3, .ref o)] := hl
  suffices hgo : ∀ (H : Heap) (locs : List Loc), va_P (dC, dI) vwCl ((wL cI cZ cS cL (fS hs) (fG hs) o fl a M) ++ RW cI cZ hs) H → va_D A ((wL cI cZ cS cL (fS hs) (fG hs) o fl a M) ++ RW cI cZ hs) → va_S A s.heap H locs → W p l e (headSpec wsL_changeWeight ({ frames := 8, cells := 16, slots := 316, locals := 154 } : Room)).room s m ([.ref (a 0), .int a1, .int a2, .ref o] : List Value).toArray below meth c H locs 0 0 (MQ below (va_Qi (S := HS × (Nat → Int64)) (fun k u => k = kk ∧ cts u.1 = z3 ∧ ∀ v, r = .inr v → u.2 0 = v.toInt64) (fun u t => WE (dC, dI) cI cZ ((wL cI cZ cS cL (fS u.1) (fG u.1) o u.2 a z2) ++ RW cI cZ u.1) A t) A) ([.ref (a 0), .int a1, .int a2, .ref o] : List Value).toArray s 16 316 A) (F0 m 0 ls []) from hgo _ _ hP hD hS
  intro H locs hP hD hS
  refine lv_aload_n hx hb dL_changeWeight_0 rfl (lv_at hl 3 rfl) ?_
  refine lv_iconst (v := (0 : Int32)) hx hb dL_changeWeight_1 (by decide) ?_
  refine lv_aload_n hx hb dL_changeWeight_2 rfl (lv_at hl 0 rfl) ?_
  refine lv_iload_n hx hb dL_changeWeight_3 rfl (lv_at hl 1 rfl) ?_
  refine lv_iload_n hx hb dL_changeWeight_4 rfl (lv_at hl 2 rfl) ?_
  have hPc := hP.part (X := (wL cI cZ cS cL (fS hs) (fG hs) o fl a M)) (cx := (wX8 cI cZ cS (fS hs) (fG hs) a M)) [1, 2, 3, 4, 5, 6, 7, 8, 9, 10, 11, 12, 13, 14, 15, 16, 17, 18, 19, 20, 21, 22, 23, 24, 25, 26, 27, 28, 29, 30, 31, 32, 33, 34, 35, 36, 37, 38, 39, 40, 41, 42] rfl
  have hDc := hD.part (X := (wL cI cZ cS cL (fS hs) (fG hs) o fl a M)) (cx := (wX8 cI cZ cS (fS hs) (fG hs) a M)) [1, 2, 3, 4, 5, 6, 7, 8, 9, 10, 11, 12, 13, 14, 15, 16, 17, 18, 19, 20, 21, 22, 23, 24, 25, 26, 27, 28, 29, 30, 31, 32, 33, 34, 35, 36, 37, 38, 39, 40, 41, 42] (by decide) rfl
  have hFc := va_freeP (X := (wL cI cZ cS cL (fS hs) (fG hs) o fl a M)) (cx := (wX8 cI cZ cS (fS hs) (fG hs) a M)) hD hS hA [1, 2, 3, 4, 5, 6, 7, 8, 9, 10, 11, 12, 13, 14, 15, 16, 17, 18, 19, 20, 21, 22, 23, 24, 25, 26, 27, 28, 29, 30, 31, 32, 33, 34, 35, 36, 37, 38, 39, 40, 41, 42] rfl
  rcases hA9 with ⟨v, hr9, hk9⟩ | ⟨i9, E9, hi9, hr9, hk9⟩
  · subst hr9
    subst hk9
    refine va_calli (va_runV (As := [.int a1, .int a2]) (rest := [.int (0 : Int32), .ref o]) ⟨hx, hb, hml, hown, hts⟩ (n_X8_changeWeight l dC dI cI cZ cS hs a H.size M a1 a2 v z2 z3 hf) (cwV 2 hts gL_changeWeight_X8_changeWeight rfl rfl rfl (by decide +kernel) ⟨Nat.le_of_ble_eq_true rfl, Nat.le_of_ble_eq_true rfl⟩) ⟨WR8.blind, va_recv hK hP (ci := 8) (q0 := 1) rfl rfl, WR8.pre hPc hK8 hDc hNW⟩ rfl rfl hl.1 rfl (lv_room (Nat.le_of_ble_eq_true rfl)) dL_changeWeight_5 ⟨Nat.le_of_ble_eq_true rfl, Nat.le_of_ble_eq_true rfl⟩) hS (fun q _ h => hFc q h) hFc (fun rv hs1 t H1 locs ht hvm hw hB hz1 hk1 hS => ?_)
    obtain ⟨hP1, hD1⟩ := hB
    rw [ht] at hP1
    obtain ⟨hw1, hw2⟩ := hw
    rw [hw1]
    obtain ⟨hP, hD⟩ := va_joinP (X := (wL cI cZ cS cL (fS hs) (fG hs) o fl a M)) (cx := (wX8 cI cZ cS (fS hs) (fG hs) a M)) (wr := [(o, .inl (cL, 1, .inr (.inl fl)))]) (rx := (wX8 cI cZ cS (fS hs1) (fG hs1) a z2)) hP hD [1, 2, 3, 4, 5, 6, 7, 8, 9, 10, 11, 12, 13, 14, 15, 16, 17, 18, 19, 20, 21, 22, 23, 24, 25, 26, 27, 28, 29, 30, 31, 32, 33, 34, 35, 36, 37, 38, 39, 40, 41, 42] [0] rfl rfl (by decide) (by decide) hk1 hFc hP1 hD1
    have hP : va_P (dC, dI) vwCl ((wL cI cZ cS cL (fS hs1) (fG hs1) o fl a z2) ++ RW cI cZ hs1) H1 := hP
    have hD : va_D A ((wL cI cZ cS cL (fS hs1) (fG hs1) o fl a z2) ++ RW cI cZ hs1) := hD
    generalize H1 = H at hP hS ⊢
    refine lv_i2l (v := v.toInt64) hx hb dL_changeWeight_8 rfl ?_
    refine va_last (D := (dC, dI)) (f := fl) hx hb hK hP hD hS 0 3 rfl rfl (inb_in rfl) dL_changeWeight_9 (fun H locs hP hD hS => ?_)
    have hP : va_P (dC, dI) vwCl ((wL cI cZ cS cL (fS hs1) (fG hs1) o (vp_updL fl 0 v.toInt64) a z2) ++ RW cI cZ hs1) H := hP
    have hD : va_D A ((wL cI cZ cS cL (fS hs1) (fG hs1) o (vp_updL fl 0 v.toInt64) a z2) ++ RW cI cZ hs1) := hD
    refine lv_goto (tgt := 25) hx hb dL_changeWeight_10 (by decide) ?_
    refine lv_iconst (v := (0 : Int32)) hx hb dL_changeWeight_25 (by decide) ?_
    refine W.widen (k := 16) (n := 316) (Nat.le_of_ble_eq_true rfl) (Nat.le_of_ble_eq_true rfl) ?_
    exact W.iret hx hb hr (fun t ht hW => ⟨⟨_, (hs1, (vp_updL fl 0 v.toInt64)), rfl, ⟨rfl, hw2, fun v9 h9 => by cases h9; rfl⟩, WE.mk hP hD ht⟩, hS.F ht⟩) hS.2.2 dL_changeWeight_26
  · subst hr9
    have hz3 := hC E9 rfl
    subst hz3
    refine vx_thrH (vx_runV (As := [.int a1, .int a2]) (rest := [.int (0 : Int32), .ref o]) ⟨hx, hb, hml, hown, hts⟩ (t_X8_changeWeight l hst dC dI cI cZ cS hs a _ M a1 a2 E9 z2 (cts hs) hf) (cwV 2 hts gL_changeWeight_X8_changeWeight rfl rfl rfl (by decide +kernel) ⟨Nat.le_of_ble_eq_true rfl, Nat.le_of_ble_eq_true rfl⟩) ⟨T8.blind, va_recv hK hP (ci := 8) (q0 := 1) rfl rfl, T8.pre hPc hK8 hDc hNW (hEX.at hS hFc)⟩ rfl rfl hl.1 rfl (lv_room (Nat.le_of_ble_eq_true rfl)) dL_changeWeight_5 ⟨Nat.le_of_ble_eq_true rfl, Nat.le_of_ble_eq_true rfl⟩) hS (fun q _ h => hFc q h) hFc (fun ce q9 t H1 locs1 ht hal hP1 hD1 hz1 hk1 hS hce hcv hcl => ?_)
    obtain ⟨hP, hD⟩ := va_joinP (X := (wL cI cZ cS cL (fS hs) (fG hs) o fl a M)) (cx := (wX8 cI cZ cS (fS hs) (fG hs) a M)) (wr := [(o, .inl (cL, 1, .inr (.inl fl)))]) (rx := (wX8 cI cZ cS (fS hs) (fG hs) a z2)) hP hD [1, 2, 3, 4, 5, 6, 7, 8, 9, 10, 11, 12, 13, 14, 15, 16, 17, 18, 19, 20, 21, 22, 23, 24, 25, 26, 27, 28, 29, 30, 31, 32, 33, 34, 35, 36, 37, 38, 39, 40, 41, 42] [0] rfl rfl (by decide) (by decide) hk1 hFc hP1 hD1
    have hP : va_P (dC, dI) vwCl ((wL cI cZ cS cL (fS hs) (fG hs) o fl a z2) ++ RW cI cZ hs) H1 := hP
    have hD : va_D A ((wL cI cZ cS cL (fS hs) (fG hs) o fl a z2) ++ RW cI cZ hs) := hD
    generalize H1 = H at hP hS hce ⊢
    rcases (show i9 = 0 ∨ i9 = 1 ∨ i9 = 2 by have h7 := (List.getElem?_eq_some_iff.mp hi9).1; simp only [List.length] at h7; omega) with rfl | rfl | rfl
    · cases hi9
      refine vx_catch (own := RL) (name := "java/lang/IndexOutOfBoundsException") hown [] ⟨0, 10, 13, 20⟩ [⟨0, 10, 17, 13⟩, ⟨0, 10, 21, 15⟩] htab (fun z hz => nomatch hz) rfl (by decide) hcl20 ((nc422 hNW).use rfl) hce hcv hcl ?_
      refine lv_astore (lv' := [(4, .ref q9), (0, .ref (a 0)), (1, .int a1), (2, .int a2), (3, .ref o)]) hx hb dL_changeWeight_13 hl (by decide) rfl (fun ls hl => ?_)
      refine lv_iconst (v := (1 : Int32)) hx hb dL_changeWeight_15 (by decide) ?_
      refine W.widen (k := 16) (n := 316) (Nat.le_of_ble_eq_true rfl) (Nat.le_of_ble_eq_true rfl) ?_
      exact W.iret hx hb hr (fun t ht hW => ⟨⟨_, (hs, fl), rfl, ⟨hk9.symm, rfl, fun v9 h9 => by cases h9⟩, WE.mk hP hD ht⟩, hS.F ht⟩) hS.2.2 dL_changeWeight_16
    · cases hi9
      refine vx_catch (own := RL) (name := "java/lang/IllegalArgumentException") hown [⟨0, 10, 13, 20⟩] ⟨0, 10, 17, 13⟩ [⟨0, 10, 21, 15⟩] htab (fun z hz => by
      rcases (show z = ⟨0, 10, 13, 20⟩ by simpa using hz) with rfl
      · exact Or.inr ⟨by decide, "java/lang/IndexOutOfBoundsException", hcl20, hNC ("java/lang/IllegalArgumentException", "java/lang/IndexOutOfBoundsException") (List.mem_of_getElem? (i := 3) rfl)⟩) rfl (by decide) hcl13 ((nc178 hNW).use rfl) hce hcv hcl ?_
      refine lv_astore (lv' := [(4, .ref q9), (0, .ref (a 0)), (1, .int a1), (2, .int a2), (3, .ref o)]) hx hb dL_changeWeight_17 hl (by decide) rfl (fun ls hl => ?_)
      refine lv_iconst (v := (2 : Int32)) hx hb dL_changeWeight_19 (by decide) ?_
      refine W.widen (k := 16) (n := 316) (Nat.le_of_ble_eq_true rfl) (Nat.le_of_ble_eq_true rfl) ?_
      exact W.iret hx hb hr (fun t ht hW => ⟨⟨_, (hs, fl), rfl, ⟨hk9.symm, rfl, fun v9 h9 => by cases h9⟩, WE.mk hP hD ht⟩, hS.F ht⟩) hS.2.2 dL_changeWeight_20
    · cases hi9
      refine vx_catch (own := RL) (name := "java/lang/IllegalStateException") hown [⟨0, 10, 13, 20⟩, ⟨0, 10, 17, 13⟩] ⟨0, 10, 21, 15⟩ [] htab (fun z hz => by
      rcases (show z = ⟨0, 10, 13, 20⟩ ∨ z = ⟨0, 10, 17, 13⟩ by simpa using hz) with rfl | rfl
      · exact Or.inr ⟨by decide, "java/lang/IndexOutOfBoundsException", hcl20, hNC ("java/lang/IllegalStateException", "java/lang/IndexOutOfBoundsException") (List.mem_of_getElem? (i := 1) rfl)⟩
      · exact Or.inr ⟨by decide, "java/lang/IllegalArgumentException", hcl13, hNC ("java/lang/IllegalStateException", "java/lang/IllegalArgumentException") (List.mem_of_getElem? (i := 0) rfl)⟩) rfl (by decide) hcl15 ((nc58 hNW).use rfl) hce hcv hcl ?_
      refine lv_astore (lv' := [(4, .ref q9), (0, .ref (a 0)), (1, .int a1), (2, .int a2), (3, .ref o)]) hx hb dL_changeWeight_21 hl (by decide) rfl (fun ls hl => ?_)
      refine lv_iconst (v := (3 : Int32)) hx hb dL_changeWeight_23 (by decide) ?_
      refine W.widen (k := 16) (n := 316) (Nat.le_of_ble_eq_true rfl) (Nat.le_of_ble_eq_true rfl) ?_
      exact W.iret hx hb hr (fun t ht hW => ⟨⟨_, (hs, fl), rfl, ⟨hk9.symm, rfl, fun v9 h9 => by cases h9⟩, WE.mk hP hD ht⟩, hS.F ht⟩) hS.2.2 dL_changeWeight_24
set_option maxHeartbeats 4000000 in
set_option maxRecDepth 100000 in
theorem w_L_append (l : Launch) (hst : l.stackTraces = false) (dC : Nat → ClassId) (dI : Nat → Nat → Nat) (cI cZ cS cL : ClassId) (hs : HS) (o : Nat) (fl : Nat → Int64) (a : Nat → Nat) (sz : Nat) (M : Mem) (a1 : Int32) (r : String ⊕ Int32) (kk : Int32) (z2 : Mem) (hf : fX8_append M a1 = some (r, z2)) (hA9 : Ans ["java/lang/IllegalArgumentException", "java/lang/IllegalStateException"] r kk) : Met l yL_append wsL_append ({ frames := 7, cells := 1, slots := 6, locals := 131 } : Room) (va_Pc [.ref (a 0), .int a1, .ref o] (T9 (dC, dI) cI cZ cS cL ((wL cI cZ cS cL (fS hs) (fG hs) o fl a M) ++ RW cI cZ hs) sz)) (va_Qi (S := HS × (Nat → Int64)) (fun k u => k = kk ∧ u.1 = hs ∧ ∀ v, r = .inr v → u.2 0 = v.toInt64) (fun u t => WE (dC, dI) cI cZ ((wL cI cZ cS cL (fS u.1) (fG u.1) o u.2 a (sr (sr M 36 (z2 36)) 37 (z2 37))) ++ RW cI cZ u.1) (va_A ((wL cI cZ cS cL (fS hs) (fG hs) o fl a M) ++ RW cI cZ hs) sz) t) (va_A ((wL cI cZ cS cL (fS hs) (fG hs) o fl a M) ++ RW cI cZ hs) sz)) 1 6 (va_A ((wL cI cZ cS cL (fS hs) (fG hs) o fl a M) ++ RW cI cZ hs) sz) := by
  refine va_MetW (cc := cL_append) (maxL := 4) (ret := (some .int)) (hh := [(0, 9, 12, 13), (0, 9, 15, 15)]) (by decide) rfl ?_
  intro p e s m args below meth c s₁ B hml hv
  obtain ⟨rfl, hsz, hP, hK, hD0, hNW, hEX, hNC⟩ := hv
  have hx := B.exec
  have hb := B.bytes
  have hr := B.returns
  have hts := atoms_spec (ws := wsL_append) B.pre
  have hown : s.vm.findClass RL = some m.cls := findClass_of_methodNamed B.named
  have htab : c.exceptionTable.toList = tableOf [(0, 9, 12, 13), (0, 9, 15, 15)] := vx_table (x := yL_law) B (hts (.codeWith yL_append cL_append 4 (some .int) [(0, 9, 12, 13), (0, 9, 15, 15)]) List.mem_cons_self)
  have hK8 : va_K (dC, dI) vwCl (tys8 cI cZ cS) s := hK.sub (tys' := tys8 cI cZ cS) [0, 1, 2] rfl
  have hcl13 := hts (.classLink RL 13 "java/lang/IllegalArgumentException") (by decide +kernel)
  have hcl15 := hts (.classLink RL 15 "java/lang/IllegalStateException") (by decide +kernel)
  subst hsz
  have hD := hD0.self (sz := s.heap.size)
  generalize hAe : va_A ((wL cI cZ cS cL (fS hs) (fG hs) o fl a M) ++ RW cI cZ hs) s.heap.size = A at hD hEX ⊢
  have hA : ∀ q : Nat, s.heap.size ≤ q → A q := fun q h => by rw [← hAe]; exact Or.inr h
  have hS : va_S A s.heap s.heap [] := va_S.rf
  have hl := lv_entry ([.ref (a 0), .int a1, .ref o]) (n := 4) (Nat.le_of_ble_eq_true rfl)
  rw [lg_entry_eq]
  generalize (lg_sl ([.ref (a 0), .int a1, .ref o]) ++ List.replicate (4 - (lg_sl ([.ref (a 0), .int a1, .ref o])).length) Slot.unset).toArray = ls at hl ⊢
  have hl : lv_has ls 4 [(0, .ref (a 0)), (1, .int a1), (2, .ref o)] := hl
  suffices hgo : ∀ (H : Heap) (locs : List Loc), va_P (dC, dI) vwCl ((wL cI cZ cS cL (fS hs) (fG hs) o fl a M) ++ RW cI cZ hs) H → va_D A ((wL cI cZ cS cL (fS hs) (fG hs) o fl a M) ++ RW cI cZ hs) → va_S A s.heap H locs → W p l e (headSpec wsL_append ({ frames := 7, cells := 1, slots := 6, locals := 131 } : Room)).room s m ([.ref (a 0), .int a1, .ref o] : List Value).toArray below meth c H locs 0 0 (MQ below (va_Qi (S := HS × (Nat → Int64)) (fun k u => k = kk ∧ u.1 = hs ∧ ∀ v, r = .inr v → u.2 0 = v.toInt64) (fun u t => WE (dC, dI) cI cZ ((wL cI cZ cS cL (fS u.1) (fG u.1) o u.2 a (sr (sr M 36 (z2 36)) 37 (z2 37))) ++ RW cI cZ u.1) A t) A) ([.ref (a 0), .int a1, .ref o] : List Value).toArray s 1 6 A) (F0 m 0 ls []) from hgo _ _ hP hD hS
  intro H locs hP hD hS
  refine lv_aload_n hx hb dL_append_0 rfl (lv_at hl 2 rfl) ?_
  refine lv_iconst (v := (0 : Int32)) hx hb dL_append_1 (by decide) ?_
  refine lv_aload_n hx hb dL_append_2 rfl (lv_at hl 0 rfl) ?_
  refine lv_iload_n hx hb dL_append_3 rfl (lv_at hl 1 rfl) ?_
  have hPc := P_head (ws := (wL cI cZ cS cL (fS hs) (fG hs) o fl a M)) (ws' := (wX8 cI cZ cS (fS hs) (fG hs) a M)) hP [1, 2, 3, 4, 5, 6, 7, 8, 9, 10, 11, 12, 13, 14, 15, 16, 17, 18, 19, 20, 21, 22, 23, 24, 25, 26, 27, 28, 29, 30, 31, 32, 33, 34, 35, 36, 37, 38, 39, 40, 41, 42] rfl
  have hDc := D_head (ws := (wL cI cZ cS cL (fS hs) (fG hs) o fl a M)) (ws' := (wX8 cI cZ cS (fS hs) (fG hs) a M)) hD [1, 2, 3, 4, 5, 6, 7, 8, 9, 10, 11, 12, 13, 14, 15, 16, 17, 18, 19, 20, 21, 22, 23, 24, 25, 26, 27, 28, 29, 30, 31, 32, 33, 34, 35, 36, 37, 38, 39, 40, 41, 42] (by decide) rfl
  have hFc := va_free (wc := (wX8 cI cZ cS (fS hs) (fG hs) a M)) hD hS hA [1, 2, 3, 4, 5, 6, 7, 8, 9, 10, 11, 12, 13, 14, 15, 16, 17, 18, 19, 20, 21, 22, 23, 24, 25, 26, 27, 28, 29, 30, 31, 32, 33, 34, 35, 36, 37, 38, 39, 40, 41, 42] rfl
  rcases hA9 with ⟨v, hr9, hk9⟩ | ⟨i9, E9, hi9, hr9, hk9⟩
  · subst hr9
    subst hk9
    refine va_calli (va_runV (As := [.int a1]) (rest := [.int (0 : Int32), .ref o]) ⟨hx, hb, hml, hown, hts⟩ (n_X8_append l dC dI cI cZ cS (fS hs) (fG hs) a H.size M a1 v z2 hf) (cwV 1 hts gL_append_X8_append rfl rfl rfl (by decide +kernel) ⟨Nat.le_of_ble_eq_true rfl, Nat.le_of_ble_eq_true rfl⟩) ⟨WR8.blind, va_recv hK hP (ci := 8) (q0 := 1) rfl rfl, WR8.pre hPc hK8 hDc hNW⟩ rfl rfl hl.1 rfl (lv_room (Nat.le_of_ble_eq_true rfl)) dL_append_4 ⟨Nat.le_of_ble_eq_true rfl, Nat.le_of_ble_eq_true rfl⟩) hS (fun q _ h => hFc q h) hFc (fun rv u t H1 locs ht hvm hw hB hz1 hk1 hS => ?_)
    obtain ⟨hP1, hD1⟩ := hB
    rw [ht] at hP1
    rw [hw]
    obtain ⟨hP, hD⟩ := join_app (ws := (wL cI cZ cS cL (fS hs) (fG hs) o fl a M)) (wr := [(o, .inl (cL, 1, .inr (.inl fl)))]) (w1 := _) hP hD [1, 2, 3, 4, 5, 6, 7, 8, 9, 10, 11, 12, 13, 14, 15, 16, 17, 18, 19, 20, 21, 22, 23, 24, 25, 26, 27, 28, 29, 30, 31, 32, 33, 34, 35, 36, 37, 38, 39, 40, 41, 42] [0] rfl rfl (by decide) (by decide) hk1 hFc hP1 hD1
    have hP : va_P (dC, dI) vwCl ((wL cI cZ cS cL (fS hs) (fG hs) o fl a (sr (sr M 36 (z2 36)) 37 (z2 37))) ++ RW cI cZ hs) H1 := hP
    have hD : va_D A ((wL cI cZ cS cL (fS hs) (fG hs) o fl a (sr (sr M 36 (z2 36)) 37 (z2 37))) ++ RW cI cZ hs) := hD
    generalize H1 = H at hP hS ⊢
    refine lv_i2l (v := v.toInt64) hx hb dL_append_7 rfl ?_
    refine va_last (D := (dC, dI)) (f := fl) hx hb hK hP hD hS 0 3 rfl rfl (inb_in rfl) dL_append_8 (fun H locs hP hD hS => ?_)
    have hP : va_P (dC, dI) vwCl ((wL cI cZ cS cL (fS hs) (fG hs) o (vp_updL fl 0 v.toInt64) a (sr (sr M 36 (z2 36)) 37 (z2 37))) ++ RW cI cZ hs) H := hP
    have hD : va_D A ((wL cI cZ cS cL (fS hs) (fG hs) o (vp_updL fl 0 v.toInt64) a (sr (sr M 36 (z2 36)) 37 (z2 37))) ++ RW cI cZ hs) := hD
    refine lv_goto (tgt := 18) hx hb dL_append_9 (by decide) ?_
    refine lv_iconst (v := (0 : Int32)) hx hb dL_append_18 (by decide) ?_
    refine W.widen (k := 1) (n := 6) (Nat.le_of_ble_eq_true rfl) (Nat.le_of_ble_eq_true rfl) ?_
    exact W.iret hx hb hr (fun t ht hW => ⟨⟨_, (hs, (vp_updL fl 0 v.toInt64)), rfl, ⟨rfl, rfl, fun v9 h9 => by cases h9; rfl⟩, WE.mk hP hD ht⟩, hS.F ht⟩) hS.2.2 dL_append_19
  · subst hr9
    refine vx_thrH (vx_runV (As := [.int a1]) (rest := [.int (0 : Int32), .ref o]) ⟨hx, hb, hml, hown, hts⟩ (t_X8_append l hst dC dI cI cZ cS (fS hs) (fG hs) a _ M a1 E9 z2 hf) (cwV 1 hts gL_append_X8_append rfl rfl rfl (by decide +kernel) ⟨Nat.le_of_ble_eq_true rfl, Nat.le_of_ble_eq_true rfl⟩) ⟨T8.blind, va_recv hK hP (ci := 8) (q0 := 1) rfl rfl, T8.pre hPc hK8 hDc hNW (hEX.at hS hFc)⟩ rfl rfl hl.1 rfl (lv_room (Nat.le_of_ble_eq_true rfl)) dL_append_4 ⟨Nat.le_of_ble_eq_true rfl, Nat.le_of_ble_eq_true rfl⟩) hS (fun q _ h => hFc q h) hFc (fun ce q9 t H1 locs1 ht hal hP1 hD1 hz1 hk1 hS hce hcv hcl => ?_)
    obtain ⟨hP, hD⟩ := join_app (ws := (wL cI cZ cS cL (fS hs) (fG hs) o fl a M)) (wr := [(o, .inl (cL, 1, .inr (.inl fl)))]) (w1 := _) hP hD [1, 2, 3, 4, 5, 6, 7, 8, 9, 10, 11, 12, 13, 14, 15, 16, 17, 18, 19, 20, 21, 22, 23, 24, 25, 26, 27, 28, 29, 30, 31, 32, 33, 34, 35, 36, 37, 38, 39, 40, 41, 42] [0] rfl rfl (by decide) (by decide) hk1 hFc hP1 hD1
    have hP : va_P (dC, dI) vwCl ((wL cI cZ cS cL (fS hs) (fG hs) o fl a (sr (sr M 36 (z2 36)) 37 (z2 37))) ++ RW cI cZ hs) H1 := hP
    have hD : va_D A ((wL cI cZ cS cL (fS hs) (fG hs) o fl a (sr (sr M 36 (z2 36)) 37 (z2 37))) ++ RW cI cZ hs) := hD
    generalize H1 = H at hP hS hce ⊢
    rcases (show i9 = 0 ∨ i9 = 1 by have h7 := (List.getElem?_eq_some_iff.mp hi9).1; simp only [List.length] at h7; omega) with rfl | rfl
    · cases hi9
      refine vx_catch (own := RL) (name := "java/lang/IllegalArgumentException") hown [] ⟨0, 9, 12, 13⟩ [⟨0, 9, 15, 15⟩] htab (fun z hz => nomatch hz) rfl (by decide) hcl13 ((nc178 hNW).use rfl) hce hcv hcl ?_
      refine lv_astore_n (lv' := [(3, .ref q9), (0, .ref (a 0)), (1, .int a1), (2, .ref o)]) hx hb dL_append_12 rfl hl (by decide) rfl (fun ls hl => ?_)
      refine lv_iconst (v := (1 : Int32)) hx hb dL_append_13 (by decide) ?_
      refine W.widen (k := 1) (n := 6) (Nat.le_of_ble_eq_true rfl) (Nat.le_of_ble_eq_true rfl) ?_
      exact W.iret hx hb hr (fun t ht hW => ⟨⟨_, (hs, fl), rfl, ⟨hk9.symm, rfl, fun v9 h9 => by cases h9⟩, WE.mk hP hD ht⟩, hS.F ht⟩) hS.2.2 dL_append_14
    · cases hi9
      refine vx_catch (own := RL) (name := "java/lang/IllegalStateException") hown [⟨0, 9, 12, 13⟩] ⟨0, 9, 15, 15⟩ [] htab (fun z hz => by
      rcases (show z = ⟨0, 9, 12, 13⟩ by simpa using hz) with rfl
      · exact Or.inr ⟨by decide, "java/lang/IllegalArgumentException", hcl13, hNC ("java/lang/IllegalStateException", "java/lang/IllegalArgumentException") (List.mem_of_getElem? (i := 0) rfl)⟩) rfl (by decide) hcl15 ((nc58 hNW).use rfl) hce hcv hcl ?_
      refine lv_astore_n (lv' := [(3, .ref q9), (0, .ref (a 0)), (1, .int a1), (2, .ref o)]) hx hb dL_append_15 rfl hl (by decide) rfl (fun ls hl => ?_)
      refine lv_iconst (v := (2 : Int32)) hx hb dL_append_16 (by decide) ?_
      refine W.widen (k := 1) (n := 6) (Nat.le_of_ble_eq_true rfl) (Nat.le_of_ble_eq_true rfl) ?_
      exact W.iret hx hb hr (fun t ht hW => ⟨⟨_, (hs, fl), rfl, ⟨hk9.symm, rfl, fun v9 h9 => by cases h9⟩, WE.mk hP hD ht⟩, hS.F ht⟩) hS.2.2 dL_append_17
set_option maxHeartbeats 4000000 in
set_option maxRecDepth 100000 in
theorem w_L_keep (l : Launch) (hst : l.stackTraces = false) (dC : Nat → ClassId) (dI : Nat → Nat → Nat) (cI cZ cS cL : ClassId) (hs : HS) (a : Nat → Nat) (sz : Nat) (M : Mem) (a1 : Int32) (r : String ⊕ Unit) (kk : Int32) (z2 : Mem) (z3 : Nat → Option Mem) (hf : fX8_keep (cts hs) M a1 = some (r, z2, z3)) (hA9 : Ans ["java/lang/IllegalArgumentException"] r kk) (hC : ∀ E, r = .inl E → z3 = cts hs) : Met l yL_keep wsL_keep ({ frames := 8, cells := 16, slots := 316, locals := 152 } : Room) (va_Pc [.ref (a 0), .int a1] (T9 (dC, dI) cI cZ cS cL ((wX8 cI cZ cS (fS hs) (fG hs) a M) ++ RW cI cZ hs) sz)) (va_Qi (S := HS) (fun k u => k = kk ∧ cts u = z3) (fun u t => WE (dC, dI) cI cZ ((wX8 cI cZ cS (fS u) (fG u) a z2) ++ RW cI cZ u) (va_A ((wX8 cI cZ cS (fS hs) (fG hs) a M) ++ RW cI cZ hs) sz) t) (va_A ((wX8 cI cZ cS (fS hs) (fG hs) a M) ++ RW cI cZ hs) sz)) 16 316 (va_A ((wX8 cI cZ cS (fS hs) (fG hs) a M) ++ RW cI cZ hs) sz) := by
  refine va_MetW (cc := cL_keep) (maxL := 3) (ret := (some .int)) (hh := [(0, 5, 8, 13)]) (by decide) rfl ?_
  intro p e s m args below meth c s₁ B hml hv
  obtain ⟨rfl, hsz, hP, hK, hD0, hNW, hEX, hNC⟩ := hv
  have hx := B.exec
  have hb := B.bytes
  have hr := B.returns
  have hts := atoms_spec (ws := wsL_keep) B.pre
  have hown : s.vm.findClass RL = some m.cls := findClass_of_methodNamed B.named
  have htab : c.exceptionTable.toList = tableOf [(0, 5, 8, 13)] := vx_table (x := yL_law) B (hts (.codeWith yL_keep cL_keep 3 (some .int) [(0, 5, 8, 13)]) List.mem_cons_self)
  have hK8 : va_K (dC, dI) vwCl (tys8 cI cZ cS) s := hK.sub (tys' := tys8 cI cZ cS) [0, 1, 2] rfl
  have hcl13 := hts (.classLink RL 13 "java/lang/IllegalArgumentException") (by decide +kernel)
  subst hsz
  have hD := hD0.self (sz := s.heap.size)
  generalize hAe : va_A ((wX8 cI cZ cS (fS hs) (fG hs) a M) ++ RW cI cZ hs) s.heap.size = A at hD hEX ⊢
  have hA : ∀ q : Nat, s.heap.size ≤ q → A q := fun q h => by rw [← hAe]; exact Or.inr h
  have hS : va_S A s.heap s.heap [] := va_S.rf
  have hl := lv_entry ([.ref (a 0), .int a1]) (n := 3) (Nat.le_of_ble_eq_true rfl)
  rw [lg_entry_eq]
  generalize (lg_sl ([.ref (a 0), .int a1]) ++ List.replicate (3 - (lg_sl ([.ref (a 0), .int a1])).length) Slot.unset).toArray = ls at hl ⊢
  have hl : lv_has ls 3 [(0, .ref (a 0)), (1, .int a1)] := hl
  suffices hgo : ∀ (H : Heap) (locs : List Loc), va_P (dC, dI) vwCl ((wX8 cI cZ cS (fS hs) (fG hs) a M) ++ RW cI cZ hs) H → va_D A ((wX8 cI cZ cS (fS hs) (fG hs) a M) ++ RW cI cZ hs) → va_S A s.heap H locs → W p l e (headSpec wsL_keep ({ frames := 8, cells := 16, slots := 316, locals := 152 } : Room)).room s m ([.ref (a 0), .int a1] : List Value).toArray below meth c H locs 0 0 (MQ below (va_Qi (S := HS) (fun k u => k = kk ∧ cts u = z3) (fun u t => WE (dC, dI) cI cZ ((wX8 cI cZ cS (fS u) (fG u) a z2) ++ RW cI cZ u) A t) A) ([.ref (a 0), .int a1] : List Value).toArray s 16 316 A) (F0 m 0 ls []) from hgo _ _ hP hD hS
  intro H locs hP hD hS
  refine lv_aload_n hx hb dL_keep_0 rfl (lv_at hl 0 rfl) ?_
  refine lv_iload_n hx hb dL_keep_1 rfl (lv_at hl 1 rfl) ?_
  have hPc := hP.part (X := (wX8 cI cZ cS (fS hs) (fG hs) a M)) (cx := (wX8 cI cZ cS (fS hs) (fG hs) a M)) [0, 1, 2, 3, 4, 5, 6, 7, 8, 9, 10, 11, 12, 13, 14, 15, 16, 17, 18, 19, 20, 21, 22, 23, 24, 25, 26, 27, 28, 29, 30, 31, 32, 33, 34, 35, 36, 37, 38, 39, 40, 41] rfl
  have hDc := hD.part (X := (wX8 cI cZ cS (fS hs) (fG hs) a M)) (cx := (wX8 cI cZ cS (fS hs) (fG hs) a M)) [0, 1, 2, 3, 4, 5, 6, 7, 8, 9, 10, 11, 12, 13, 14, 15, 16, 17, 18, 19, 20, 21, 22, 23, 24, 25, 26, 27, 28, 29, 30, 31, 32, 33, 34, 35, 36, 37, 38, 39, 40, 41] (by decide) rfl
  have hFc := va_freeP (X := (wX8 cI cZ cS (fS hs) (fG hs) a M)) (cx := (wX8 cI cZ cS (fS hs) (fG hs) a M)) hD hS hA [0, 1, 2, 3, 4, 5, 6, 7, 8, 9, 10, 11, 12, 13, 14, 15, 16, 17, 18, 19, 20, 21, 22, 23, 24, 25, 26, 27, 28, 29, 30, 31, 32, 33, 34, 35, 36, 37, 38, 39, 40, 41] rfl
  rcases hA9 with ⟨v, hr9, hk9⟩ | ⟨i9, E9, hi9, hr9, hk9⟩
  · subst hr9
    subst hk9
    refine va_callv (va_runV (As := [.int a1]) (rest := []) ⟨hx, hb, hml, hown, hts⟩ (n_X8_keep l dC dI cI cZ cS hs a H.size M a1 z2 z3 hf) (cwV 1 hts gL_keep_X8_keep rfl rfl rfl (by decide +kernel) ⟨Nat.le_of_ble_eq_true rfl, Nat.le_of_ble_eq_true rfl⟩) ⟨WR8.blind, va_recv hK hP (ci := 8) (q0 := 0) rfl rfl, WR8.pre hPc hK8 hDc hNW⟩ rfl rfl hl.1 rfl (lv_room (Nat.le_of_ble_eq_true rfl)) dL_keep_2 ⟨Nat.le_of_ble_eq_true rfl, Nat.le_of_ble_eq_true rfl⟩) hS (fun q _ h => hFc q h) hFc (fun hs1 t H1 locs ht hvm hw hB hz1 hk1 hS => ?_)
    obtain ⟨hP1, hD1⟩ := hB
    rw [ht] at hP1
    have hw2 := hw
    obtain ⟨hP, hD⟩ := va_joinP (X := (wX8 cI cZ cS (fS hs) (fG hs) a M)) (cx := (wX8 cI cZ cS (fS hs) (fG hs) a M)) (wr := []) (rx := (wX8 cI cZ cS (fS hs1) (fG hs1) a z2)) hP hD [0, 1, 2, 3, 4, 5, 6, 7, 8, 9, 10, 11, 12, 13, 14, 15, 16, 17, 18, 19, 20, 21, 22, 23, 24, 25, 26, 27, 28, 29, 30, 31, 32, 33, 34, 35, 36, 37, 38, 39, 40, 41] [] rfl rfl (by decide) (by decide) hk1 hFc hP1 hD1
    have hP : va_P (dC, dI) vwCl ((wX8 cI cZ cS (fS hs1) (fG hs1) a z2) ++ RW cI cZ hs1) H1 := hP
    have hD : va_D A ((wX8 cI cZ cS (fS hs1) (fG hs1) a z2) ++ RW cI cZ hs1) := hD
    generalize H1 = H at hP hS ⊢
    refine lv_goto (tgt := 11) hx hb dL_keep_5 (by decide) ?_
    refine lv_iconst (v := (0 : Int32)) hx hb dL_keep_11 (by decide) ?_
    refine W.widen (k := 16) (n := 316) (Nat.le_of_ble_eq_true rfl) (Nat.le_of_ble_eq_true rfl) ?_
    exact W.iret hx hb hr (fun t ht hW => ⟨⟨_, hs1, rfl, ⟨rfl, hw2⟩, WE.mk hP hD ht⟩, hS.F ht⟩) hS.2.2 dL_keep_12
  · subst hr9
    have hz3 := hC E9 rfl
    subst hz3
    refine vx_thrH (vx_runV (As := [.int a1]) (rest := []) ⟨hx, hb, hml, hown, hts⟩ (t_X8_keep l hst dC dI cI cZ cS hs a _ M a1 E9 z2 (cts hs) hf) (cwV 1 hts gL_keep_X8_keep rfl rfl rfl (by decide +kernel) ⟨Nat.le_of_ble_eq_true rfl, Nat.le_of_ble_eq_true rfl⟩) ⟨T8.blind, va_recv hK hP (ci := 8) (q0 := 0) rfl rfl, T8.pre hPc hK8 hDc hNW (hEX.at hS hFc)⟩ rfl rfl hl.1 rfl (lv_room (Nat.le_of_ble_eq_true rfl)) dL_keep_2 ⟨Nat.le_of_ble_eq_true rfl, Nat.le_of_ble_eq_true rfl⟩) hS (fun q _ h => hFc q h) hFc (fun ce q9 t H1 locs1 ht hal hP1 hD1 hz1 hk1 hS hce hcv hcl => ?_)
    obtain ⟨hP, hD⟩ := va_joinP (X := (wX8 cI cZ cS (fS hs) (fG hs) a M)) (cx := (wX8 cI cZ cS (fS hs) (fG hs) a M)) (wr := []) (rx := (wX8 cI cZ cS (fS hs) (fG hs) a z2)) hP hD [0, 1, 2, 3, 4, 5, 6, 7, 8, 9, 10, 11, 12, 13, 14, 15, 16, 17, 18, 19, 20, 21, 22, 23, 24, 25, 26, 27, 28, 29, 30, 31, 32, 33, 34, 35, 36, 37, 38, 39, 40, 41] [] rfl rfl (by decide) (by decide) hk1 hFc hP1 hD1
    have hP : va_P (dC, dI) vwCl ((wX8 cI cZ cS (fS hs) (fG hs) a z2) ++ RW cI cZ hs) H1 := hP
    have hD : va_D A ((wX8 cI cZ cS (fS hs) (fG hs) a z2) ++ RW cI cZ hs) := hD
    generalize H1 = H at hP hS hce ⊢
    rcases (show i9 = 0 by have h7 := (List.getElem?_eq_some_iff.mp hi9).1; simp only [List.length] at h7; omega) with rfl
    · cases hi9
      refine vx_catch (own := RL) (name := "java/lang/IllegalArgumentException") hown [] ⟨0, 5, 8, 13⟩ [] htab (fun z hz => nomatch hz) rfl (by decide) hcl13 ((nc178 hNW).use rfl) hce hcv hcl ?_
      refine lv_astore_n (lv' := [(2, .ref q9), (0, .ref (a 0)), (1, .int a1)]) hx hb dL_keep_8 rfl hl (by decide) rfl (fun ls hl => ?_)
      refine lv_iconst (v := (1 : Int32)) hx hb dL_keep_9 (by decide) ?_
      refine W.widen (k := 16) (n := 316) (Nat.le_of_ble_eq_true rfl) (Nat.le_of_ble_eq_true rfl) ?_
      exact W.iret hx hb hr (fun t ht hW => ⟨⟨_, hs, rfl, ⟨hk9.symm, rfl⟩, WE.mk hP hD ht⟩, hS.F ht⟩) hS.2.2 dL_keep_10
set_option maxHeartbeats 4000000 in
set_option maxRecDepth 100000 in
theorem w_L_goBack (l : Launch) (hst : l.stackTraces = false) (dC : Nat → ClassId) (dI : Nat → Nat → Nat) (cI cZ cS cL : ClassId) (hs : HS) (a : Nat → Nat) (sz : Nat) (M : Mem) (a1 : Int32) (r : String ⊕ Unit) (kk : Int32) (z2 : Mem) (z3 : Nat → Option Mem) (hf : fX8_goBack (cts hs) M a1 = some (r, z2, z3)) (hA9 : Ans ["java/lang/IllegalArgumentException", "java/lang/IllegalStateException"] r kk) (hC : ∀ E, r = .inl E → z3 = cts hs) : Met l yL_goBack wsL_goBack ({ frames := 8, cells := 16, slots := 316, locals := 153 } : Room) (va_Pc [.ref (a 0), .int a1] (T9 (dC, dI) cI cZ cS cL ((wX8 cI cZ cS (fS hs) (fG hs) a M) ++ RW cI cZ hs) sz)) (va_Qi (S := HS) (fun k u => k = kk ∧ cts u = z3) (fun u t => WE (dC, dI) cI cZ ((wX8 cI cZ cS (fS u) (fG u) a z2) ++ RW cI cZ u) (va_A ((wX8 cI cZ cS (fS hs) (fG hs) a M) ++ RW cI cZ hs) sz) t) (va_A ((wX8 cI cZ cS (fS hs) (fG hs) a M) ++ RW cI cZ hs) sz)) 16 316 (va_A ((wX8 cI cZ cS (fS hs) (fG hs) a M) ++ RW cI cZ hs) sz) := by
  refine va_MetW (cc := cL_goBack) (maxL := 3) (ret := (some .int)) (hh := [(0, 5, 8, 13), (0, 5, 11, 15)]) (by decide) rfl ?_
  intro p e s m args below meth c s₁ B hml hv
  obtain ⟨rfl, hsz, hP, hK, hD0, hNW, hEX, hNC⟩ := hv
  have hx := B.exec
  have hb := B.bytes
  have hr := B.returns
  have hts := atoms_spec (ws := wsL_goBack) B.pre
  have hown : s.vm.findClass RL = some m.cls := findClass_of_methodNamed B.named
  have htab : c.exceptionTable.toList = tableOf [(0, 5, 8, 13), (0, 5, 11, 15)] := vx_table (x := yL_law) B (hts (.codeWith yL_goBack cL_goBack 3 (some .int) [(0, 5, 8, 13), (0, 5, 11, 15)]) List.mem_cons_self)
  have hK8 : va_K (dC, dI) vwCl (tys8 cI cZ cS) s := hK.sub (tys' := tys8 cI cZ cS) [0, 1, 2] rfl
  have hcl13 := hts (.classLink RL 13 "java/lang/IllegalArgumentException") (by decide +kernel)
  have hcl15 := hts (.classLink RL 15 "java/lang/IllegalStateException") (by decide +kernel)
  subst hsz
  have hD := hD0.self (sz := s.heap.size)
  generalize hAe : va_A ((wX8 cI cZ cS (fS hs) (fG hs) a M) ++ RW cI cZ hs) s.heap.size = A at hD hEX ⊢
  have hA : ∀ q : Nat, s.heap.size ≤ q → A q := fun q h => by rw [← hAe]; exact Or.inr h
  have hS : va_S A s.heap s.heap [] := va_S.rf
  have hl := lv_entry ([.ref (a 0), .int a1]) (n := 3) (Nat.le_of_ble_eq_true rfl)
  rw [lg_entry_eq]
  generalize (lg_sl ([.ref (a 0), .int a1]) ++ List.replicate (3 - (lg_sl ([.ref (a 0), .int a1])).length) Slot.unset).toArray = ls at hl ⊢
  have hl : lv_has ls 3 [(0, .ref (a 0)), (1, .int a1)] := hl
  suffices hgo : ∀ (H : Heap) (locs : List Loc), va_P (dC, dI) vwCl ((wX8 cI cZ cS (fS hs) (fG hs) a M) ++ RW cI cZ hs) H → va_D A ((wX8 cI cZ cS (fS hs) (fG hs) a M) ++ RW cI cZ hs) → va_S A s.heap H locs → W p l e (headSpec wsL_goBack ({ frames := 8, cells := 16, slots := 316, locals := 153 } : Room)).room s m ([.ref (a 0), .int a1] : List Value).toArray below meth c H locs 0 0 (MQ below (va_Qi (S := HS) (fun k u => k = kk ∧ cts u = z3) (fun u t => WE (dC, dI) cI cZ ((wX8 cI cZ cS (fS u) (fG u) a z2) ++ RW cI cZ u) A t) A) ([.ref (a 0), .int a1] : List Value).toArray s 16 316 A) (F0 m 0 ls []) from hgo _ _ hP hD hS
  intro H locs hP hD hS
  refine lv_aload_n hx hb dL_goBack_0 rfl (lv_at hl 0 rfl) ?_
  refine lv_iload_n hx hb dL_goBack_1 rfl (lv_at hl 1 rfl) ?_
  have hPc := hP.part (X := (wX8 cI cZ cS (fS hs) (fG hs) a M)) (cx := (wX8 cI cZ cS (fS hs) (fG hs) a M)) [0, 1, 2, 3, 4, 5, 6, 7, 8, 9, 10, 11, 12, 13, 14, 15, 16, 17, 18, 19, 20, 21, 22, 23, 24, 25, 26, 27, 28, 29, 30, 31, 32, 33, 34, 35, 36, 37, 38, 39, 40, 41] rfl
  have hDc := hD.part (X := (wX8 cI cZ cS (fS hs) (fG hs) a M)) (cx := (wX8 cI cZ cS (fS hs) (fG hs) a M)) [0, 1, 2, 3, 4, 5, 6, 7, 8, 9, 10, 11, 12, 13, 14, 15, 16, 17, 18, 19, 20, 21, 22, 23, 24, 25, 26, 27, 28, 29, 30, 31, 32, 33, 34, 35, 36, 37, 38, 39, 40, 41] (by decide) rfl
  have hFc := va_freeP (X := (wX8 cI cZ cS (fS hs) (fG hs) a M)) (cx := (wX8 cI cZ cS (fS hs) (fG hs) a M)) hD hS hA [0, 1, 2, 3, 4, 5, 6, 7, 8, 9, 10, 11, 12, 13, 14, 15, 16, 17, 18, 19, 20, 21, 22, 23, 24, 25, 26, 27, 28, 29, 30, 31, 32, 33, 34, 35, 36, 37, 38, 39, 40, 41] rfl
  rcases hA9 with ⟨v, hr9, hk9⟩ | ⟨i9, E9, hi9, hr9, hk9⟩
  · subst hr9
    subst hk9
    refine va_callv (va_runV (As := [.int a1]) (rest := []) ⟨hx, hb, hml, hown, hts⟩ (n_X8_goBack l dC dI cI cZ cS hs a H.size M a1 z2 z3 hf) (cwV 1 hts gL_goBack_X8_goBack rfl rfl rfl (by decide +kernel) ⟨Nat.le_of_ble_eq_true rfl, Nat.le_of_ble_eq_true rfl⟩) ⟨WR8.blind, va_recv hK hP (ci := 8) (q0 := 0) rfl rfl, WR8.pre hPc hK8 hDc hNW⟩ rfl rfl hl.1 rfl (lv_room (Nat.le_of_ble_eq_true rfl)) dL_goBack_2 ⟨Nat.le_of_ble_eq_true rfl, Nat.le_of_ble_eq_true rfl⟩) hS (fun q _ h => hFc q h) hFc (fun hs1 t H1 locs ht hvm hw hB hz1 hk1 hS => ?_)
    obtain ⟨hP1, hD1⟩ := hB
    rw [ht] at hP1
    have hw2 := hw
    obtain ⟨hP, hD⟩ := va_joinP (X := (wX8 cI cZ cS (fS hs) (fG hs) a M)) (cx := (wX8 cI cZ cS (fS hs) (fG hs) a M)) (wr := []) (rx := (wX8 cI cZ cS (fS hs1) (fG hs1) a z2)) hP hD [0, 1, 2, 3, 4, 5, 6, 7, 8, 9, 10, 11, 12, 13, 14, 15, 16, 17, 18, 19, 20, 21, 22, 23, 24, 25, 26, 27, 28, 29, 30, 31, 32, 33, 34, 35, 36, 37, 38, 39, 40, 41] [] rfl rfl (by decide) (by decide) hk1 hFc hP1 hD1
    have hP : va_P (dC, dI) vwCl ((wX8 cI cZ cS (fS hs1) (fG hs1) a z2) ++ RW cI cZ hs1) H1 := hP
    have hD : va_D A ((wX8 cI cZ cS (fS hs1) (fG hs1) a z2) ++ RW cI cZ hs1) := hD
    generalize H1 = H at hP hS ⊢
    refine lv_goto (tgt := 14) hx hb dL_goBack_5 (by decide) ?_
    refine lv_iconst (v := (0 : Int32)) hx hb dL_goBack_14 (by decide) ?_
    refine W.widen (k := 16) (n := 316) (Nat.le_of_ble_eq_true rfl) (Nat.le_of_ble_eq_true rfl) ?_
    exact W.iret hx hb hr (fun t ht hW => ⟨⟨_, hs1, rfl, ⟨rfl, hw2⟩, WE.mk hP hD ht⟩, hS.F ht⟩) hS.2.2 dL_goBack_15
  · subst hr9
    have hz3 := hC E9 rfl
    subst hz3
    refine vx_thrH (vx_runV (As := [.int a1]) (rest := []) ⟨hx, hb, hml, hown, hts⟩ (t_X8_goBack l hst dC dI cI cZ cS hs a _ M a1 E9 z2 (cts hs) hf) (cwV 1 hts gL_goBack_X8_goBack rfl rfl rfl (by decide +kernel) ⟨Nat.le_of_ble_eq_true rfl, Nat.le_of_ble_eq_true rfl⟩) ⟨T8.blind, va_recv hK hP (ci := 8) (q0 := 0) rfl rfl, T8.pre hPc hK8 hDc hNW (hEX.at hS hFc)⟩ rfl rfl hl.1 rfl (lv_room (Nat.le_of_ble_eq_true rfl)) dL_goBack_2 ⟨Nat.le_of_ble_eq_true rfl, Nat.le_of_ble_eq_true rfl⟩) hS (fun q _ h => hFc q h) hFc (fun ce q9 t H1 locs1 ht hal hP1 hD1 hz1 hk1 hS hce hcv hcl => ?_)
    obtain ⟨hP, hD⟩ := va_joinP (X := (wX8 cI cZ cS (fS hs) (fG hs) a M)) (cx := (wX8 cI cZ cS (fS hs) (fG hs) a M)) (wr := []) (rx := (wX8 cI cZ cS (fS hs) (fG hs) a z2)) hP hD [0, 1, 2, 3, 4, 5, 6, 7, 8, 9, 10, 11, 12, 13, 14, 15, 16, 17, 18, 19, 20, 21, 22, 23, 24, 25, 26, 27, 28, 29, 30, 31, 32, 33, 34, 35, 36, 37, 38, 39, 40, 41] [] rfl rfl (by decide) (by decide) hk1 hFc hP1 hD1
    have hP : va_P (dC, dI) vwCl ((wX8 cI cZ cS (fS hs) (fG hs) a z2) ++ RW cI cZ hs) H1 := hP
    have hD : va_D A ((wX8 cI cZ cS (fS hs) (fG hs) a z2) ++ RW cI cZ hs) := hD
    generalize H1 = H at hP hS hce ⊢
    rcases (show i9 = 0 ∨ i9 = 1 by have h7 := (List.getElem?_eq_some_iff.mp hi9).1; simp only [List.length] at h7; omega) with rfl | rfl
    · cases hi9
      refine vx_catch (own := RL) (name := "java/lang/IllegalArgumentException") hown [] ⟨0, 5, 8, 13⟩ [⟨0, 5, 11, 15⟩] htab (fun z hz => nomatch hz) rfl (by decide) hcl13 ((nc178 hNW).use rfl) hce hcv hcl ?_
      refine lv_astore_n (lv' := [(2, .ref q9), (0, .ref (a 0)), (1, .int a1)]) hx hb dL_goBack_8 rfl hl (by decide) rfl (fun ls hl => ?_)
      refine lv_iconst (v := (1 : Int32)) hx hb dL_goBack_9 (by decide) ?_
      refine W.widen (k := 16) (n := 316) (Nat.le_of_ble_eq_true rfl) (Nat.le_of_ble_eq_true rfl) ?_
      exact W.iret hx hb hr (fun t ht hW => ⟨⟨_, hs, rfl, ⟨hk9.symm, rfl⟩, WE.mk hP hD ht⟩, hS.F ht⟩) hS.2.2 dL_goBack_10
    · cases hi9
      refine vx_catch (own := RL) (name := "java/lang/IllegalStateException") hown [⟨0, 5, 8, 13⟩] ⟨0, 5, 11, 15⟩ [] htab (fun z hz => by
      rcases (show z = ⟨0, 5, 8, 13⟩ by simpa using hz) with rfl
      · exact Or.inr ⟨by decide, "java/lang/IllegalArgumentException", hcl13, hNC ("java/lang/IllegalStateException", "java/lang/IllegalArgumentException") (List.mem_of_getElem? (i := 0) rfl)⟩) rfl (by decide) hcl15 ((nc58 hNW).use rfl) hce hcv hcl ?_
      refine lv_astore_n (lv' := [(2, .ref q9), (0, .ref (a 0)), (1, .int a1)]) hx hb dL_goBack_11 rfl hl (by decide) rfl (fun ls hl => ?_)
      refine lv_iconst (v := (2 : Int32)) hx hb dL_goBack_12 (by decide) ?_
      refine W.widen (k := 16) (n := 316) (Nat.le_of_ble_eq_true rfl) (Nat.le_of_ble_eq_true rfl) ?_
      exact W.iret hx hb hr (fun t ht hW => ⟨⟨_, hs, rfl, ⟨hk9.symm, rfl⟩, WE.mk hP hD ht⟩, hS.F ht⟩) hS.2.2 dL_goBack_13
set_option maxHeartbeats 4000000 in
set_option maxRecDepth 100000 in
theorem w_L_undo (l : Launch) (hst : l.stackTraces = false) (dC : Nat → ClassId) (dI : Nat → Nat → Nat) (cI cZ cS cL : ClassId) (hs : HS) (a : Nat → Nat) (sz : Nat) (M : Mem) (r : String ⊕ Unit) (kk : Int32) (z2 : Mem) (z3 : Nat → Option Mem) (hf : fX8_undo (cts hs) M  = some (r, z2, z3)) (hA9 : Ans ["java/lang/IllegalStateException"] r kk) (hC : ∀ E, r = .inl E → z3 = cts hs) : Met l yL_undo wsL_undo ({ frames := 7, cells := 1, slots := 6, locals := 144 } : Room) (va_Pc [.ref (a 0)] (T9 (dC, dI) cI cZ cS cL ((wX8 cI cZ cS (fS hs) (fG hs) a M) ++ RW cI cZ hs) sz)) (va_Qi (S := HS) (fun k u => k = kk ∧ cts u = z3) (fun u t => WE (dC, dI) cI cZ ((wX8 cI cZ cS (fS u) (fG u) a z2) ++ RW cI cZ u) (va_A ((wX8 cI cZ cS (fS hs) (fG hs) a M) ++ RW cI cZ hs) sz) t) (va_A ((wX8 cI cZ cS (fS hs) (fG hs) a M) ++ RW cI cZ hs) sz)) 1 6 (va_A ((wX8 cI cZ cS (fS hs) (fG hs) a M) ++ RW cI cZ hs) sz) := by
  refine va_MetW (cc := cL_undo) (maxL := 2) (ret := (some .int)) (hh := [(0, 4, 7, 15)]) (by decide) rfl ?_
  intro p e s m args below meth c s₁ B hml hv
  obtain ⟨rfl, hsz, hP, hK, hD0, hNW, hEX, hNC⟩ := hv
  have hx := B.exec
  have hb := B.bytes
  have hr := B.returns
  have hts := atoms_spec (ws := wsL_undo) B.pre
  have hown : s.vm.findClass RL = some m.cls := findClass_of_methodNamed B.named
  have htab : c.exceptionTable.toList = tableOf [(0, 4, 7, 15)] := vx_table (x := yL_law) B (hts (.codeWith yL_undo cL_undo 2 (some .int) [(0, 4, 7, 15)]) List.mem_cons_self)
  have hK8 : va_K (dC, dI) vwCl (tys8 cI cZ cS) s := hK.sub (tys' := tys8 cI cZ cS) [0, 1, 2] rfl
  have hcl15 := hts (.classLink RL 15 "java/lang/IllegalStateException") (by decide +kernel)
  subst hsz
  have hD := hD0.self (sz := s.heap.size)
  generalize hAe : va_A ((wX8 cI cZ cS (fS hs) (fG hs) a M) ++ RW cI cZ hs) s.heap.size = A at hD hEX ⊢
  have hA : ∀ q : Nat, s.heap.size ≤ q → A q := fun q h => by rw [← hAe]; exact Or.inr h
  have hS : va_S A s.heap s.heap [] := va_S.rf
  have hl := lv_entry ([.ref (a 0)]) (n := 2) (Nat.le_of_ble_eq_true rfl)
  rw [lg_entry_eq]
  generalize (lg_sl ([.ref (a 0)]) ++ List.replicate (2 - (lg_sl ([.ref (a 0)])).length) Slot.unset).toArray = ls at hl ⊢
  have hl : lv_has ls 2 [(0, .ref (a 0))] := hl
  suffices hgo : ∀ (H : Heap) (locs : List Loc), va_P (dC, dI) vwCl ((wX8 cI cZ cS (fS hs) (fG hs) a M) ++ RW cI cZ hs) H → va_D A ((wX8 cI cZ cS (fS hs) (fG hs) a M) ++ RW cI cZ hs) → va_S A s.heap H locs → W p l e (headSpec wsL_undo ({ frames := 7, cells := 1, slots := 6, locals := 144 } : Room)).room s m ([.ref (a 0)] : List Value).toArray below meth c H locs 0 0 (MQ below (va_Qi (S := HS) (fun k u => k = kk ∧ cts u = z3) (fun u t => WE (dC, dI) cI cZ ((wX8 cI cZ cS (fS u) (fG u) a z2) ++ RW cI cZ u) A t) A) ([.ref (a 0)] : List Value).toArray s 1 6 A) (F0 m 0 ls []) from hgo _ _ hP hD hS
  intro H locs hP hD hS
  refine lv_aload_n hx hb dL_undo_0 rfl (lv_at hl 0 rfl) ?_
  have hPc := hP.part (X := (wX8 cI cZ cS (fS hs) (fG hs) a M)) (cx := (wX8 cI cZ cS (fS hs) (fG hs) a M)) [0, 1, 2, 3, 4, 5, 6, 7, 8, 9, 10, 11, 12, 13, 14, 15, 16, 17, 18, 19, 20, 21, 22, 23, 24, 25, 26, 27, 28, 29, 30, 31, 32, 33, 34, 35, 36, 37, 38, 39, 40, 41] rfl
  have hDc := hD.part (X := (wX8 cI cZ cS (fS hs) (fG hs) a M)) (cx := (wX8 cI cZ cS (fS hs) (fG hs) a M)) [0, 1, 2, 3, 4, 5, 6, 7, 8, 9, 10, 11, 12, 13, 14, 15, 16, 17, 18, 19, 20, 21, 22, 23, 24, 25, 26, 27, 28, 29, 30, 31, 32, 33, 34, 35, 36, 37, 38, 39, 40, 41] (by decide) rfl
  have hFc := va_freeP (X := (wX8 cI cZ cS (fS hs) (fG hs) a M)) (cx := (wX8 cI cZ cS (fS hs) (fG hs) a M)) hD hS hA [0, 1, 2, 3, 4, 5, 6, 7, 8, 9, 10, 11, 12, 13, 14, 15, 16, 17, 18, 19, 20, 21, 22, 23, 24, 25, 26, 27, 28, 29, 30, 31, 32, 33, 34, 35, 36, 37, 38, 39, 40, 41] rfl
  rcases hA9 with ⟨v, hr9, hk9⟩ | ⟨i9, E9, hi9, hr9, hk9⟩
  · subst hr9
    subst hk9
    refine va_callv (va_runV (As := []) (rest := []) ⟨hx, hb, hml, hown, hts⟩ (n_X8_undo l dC dI cI cZ cS hs a H.size M z2 z3 hf) (cwV 0 hts gL_undo_X8_undo rfl rfl rfl (by decide +kernel) ⟨Nat.le_of_ble_eq_true rfl, Nat.le_of_ble_eq_true rfl⟩) ⟨WR8.blind, va_recv hK hP (ci := 8) (q0 := 0) rfl rfl, WR8.pre hPc hK8 hDc hNW⟩ rfl rfl hl.1 rfl (lv_room (Nat.le_of_ble_eq_true rfl)) dL_undo_1 ⟨Nat.le_of_ble_eq_true rfl, Nat.le_of_ble_eq_true rfl⟩) hS (fun q _ h => hFc q h) hFc (fun hs1 t H1 locs ht hvm hw hB hz1 hk1 hS => ?_)
    obtain ⟨hP1, hD1⟩ := hB
    rw [ht] at hP1
    have hw2 := hw
    obtain ⟨hP, hD⟩ := va_joinP (X := (wX8 cI cZ cS (fS hs) (fG hs) a M)) (cx := (wX8 cI cZ cS (fS hs) (fG hs) a M)) (wr := []) (rx := (wX8 cI cZ cS (fS hs1) (fG hs1) a z2)) hP hD [0, 1, 2, 3, 4, 5, 6, 7, 8, 9, 10, 11, 12, 13, 14, 15, 16, 17, 18, 19, 20, 21, 22, 23, 24, 25, 26, 27, 28, 29, 30, 31, 32, 33, 34, 35, 36, 37, 38, 39, 40, 41] [] rfl rfl (by decide) (by decide) hk1 hFc hP1 hD1
    have hP : va_P (dC, dI) vwCl ((wX8 cI cZ cS (fS hs1) (fG hs1) a z2) ++ RW cI cZ hs1) H1 := hP
    have hD : va_D A ((wX8 cI cZ cS (fS hs1) (fG hs1) a z2) ++ RW cI cZ hs1) := hD
    generalize H1 = H at hP hS ⊢
    refine lv_goto (tgt := 10) hx hb dL_undo_4 (by decide) ?_
    refine lv_iconst (v := (0 : Int32)) hx hb dL_undo_10 (by decide) ?_
    refine W.widen (k := 1) (n := 6) (Nat.le_of_ble_eq_true rfl) (Nat.le_of_ble_eq_true rfl) ?_
    exact W.iret hx hb hr (fun t ht hW => ⟨⟨_, hs1, rfl, ⟨rfl, hw2⟩, WE.mk hP hD ht⟩, hS.F ht⟩) hS.2.2 dL_undo_11
  · subst hr9
    have hz3 := hC E9 rfl
    subst hz3
    refine vx_thrH (vx_runV (As := []) (rest := []) ⟨hx, hb, hml, hown, hts⟩ (t_X8_undo l hst dC dI cI cZ cS hs a _ M E9 z2 (cts hs) hf) (cwV 0 hts gL_undo_X8_undo rfl rfl rfl (by decide +kernel) ⟨Nat.le_of_ble_eq_true rfl, Nat.le_of_ble_eq_true rfl⟩) ⟨T8.blind, va_recv hK hP (ci := 8) (q0 := 0) rfl rfl, T8.pre hPc hK8 hDc hNW (hEX.at hS hFc)⟩ rfl rfl hl.1 rfl (lv_room (Nat.le_of_ble_eq_true rfl)) dL_undo_1 ⟨Nat.le_of_ble_eq_true rfl, Nat.le_of_ble_eq_true rfl⟩) hS (fun q _ h => hFc q h) hFc (fun ce q9 t H1 locs1 ht hal hP1 hD1 hz1 hk1 hS hce hcv hcl => ?_)
    obtain ⟨hP, hD⟩ := va_joinP (X := (wX8 cI cZ cS (fS hs) (fG hs) a M)) (cx := (wX8 cI cZ cS (fS hs) (fG hs) a M)) (wr := []) (rx := (wX8 cI cZ cS (fS hs) (fG hs) a z2)) hP hD [0, 1, 2, 3, 4, 5, 6, 7, 8, 9, 10, 11, 12, 13, 14, 15, 16, 17, 18, 19, 20, 21, 22, 23, 24, 25, 26, 27, 28, 29, 30, 31, 32, 33, 34, 35, 36, 37, 38, 39, 40, 41] [] rfl rfl (by decide) (by decide) hk1 hFc hP1 hD1
    have hP : va_P (dC, dI) vwCl ((wX8 cI cZ cS (fS hs) (fG hs) a z2) ++ RW cI cZ hs) H1 := hP
    have hD : va_D A ((wX8 cI cZ cS (fS hs) (fG hs) a z2) ++ RW cI cZ hs) := hD
    generalize H1 = H at hP hS hce ⊢
    rcases (show i9 = 0 by have h7 := (List.getElem?_eq_some_iff.mp hi9).1; simp only [List.length] at h7; omega) with rfl
    · cases hi9
      refine vx_catch (own := RL) (name := "java/lang/IllegalStateException") hown [] ⟨0, 4, 7, 15⟩ [] htab (fun z hz => nomatch hz) rfl (by decide) hcl15 ((nc58 hNW).use rfl) hce hcv hcl ?_
      refine lv_astore_n (lv' := [(1, .ref q9), (0, .ref (a 0))]) hx hb dL_undo_7 rfl hl (by decide) rfl (fun ls hl => ?_)
      refine lv_iconst (v := (1 : Int32)) hx hb dL_undo_8 (by decide) ?_
      refine W.widen (k := 1) (n := 6) (Nat.le_of_ble_eq_true rfl) (Nat.le_of_ble_eq_true rfl) ?_
      exact W.iret hx hb hr (fun t ht hW => ⟨⟨_, hs, rfl, ⟨hk9.symm, rfl⟩, WE.mk hP hD ht⟩, hS.F ht⟩) hS.2.2 dL_undo_9
set_option maxHeartbeats 4000000 in
set_option maxRecDepth 100000 in
theorem w_L_heightOf (l : Launch) (hst : l.stackTraces = false) (dC : Nat → ClassId) (dI : Nat → Nat → Nat) (cI cZ cS cL : ClassId) (hs : HS) (o : Nat) (fl : Nat → Int64) (a : Nat → Nat) (sz : Nat) (M : Mem) (a1 : Int32) (r : String ⊕ Int32) (kk : Int32) (hf : fX8_heightOf M a1 = some r) (hA9 : Ans ["java/lang/IndexOutOfBoundsException"] r kk) : Met l yL_heightOf wsL_heightOf ({ frames := 8, cells := 1, slots := 6, locals := 152 } : Room) (va_Pc [.ref (a 0), .int a1, .ref o] (T9 (dC, dI) cI cZ cS cL ((wL cI cZ cS cL (fS hs) (fG hs) o fl a M) ++ RW cI cZ hs) sz)) (va_Qi (S := HS × (Nat → Int64)) (fun k u => k = kk ∧ u.1 = hs ∧ ∀ v, r = .inr v → u.2 0 = v.toInt64) (fun u t => WE (dC, dI) cI cZ ((wL cI cZ cS cL (fS u.1) (fG u.1) o u.2 a M) ++ RW cI cZ u.1) (va_A ((wL cI cZ cS cL (fS hs) (fG hs) o fl a M) ++ RW cI cZ hs) sz) t) (va_A ((wL cI cZ cS cL (fS hs) (fG hs) o fl a M) ++ RW cI cZ hs) sz)) 1 6 (va_A ((wL cI cZ cS cL (fS hs) (fG hs) o fl a M) ++ RW cI cZ hs) sz) := by
  refine va_MetW (cc := cL_heightOf) (maxL := 4) (ret := (some .int)) (hh := [(0, 9, 12, 20)]) (by decide) rfl ?_
  intro p e s m args below meth c s₁ B hml hv
  obtain ⟨rfl, hsz, hP, hK, hD0, hNW, hEX, hNC⟩ := hv
  have hx := B.exec
  have hb := B.bytes
  have hr := B.returns
  have hts := atoms_spec (ws := wsL_heightOf) B.pre
  have hown : s.vm.findClass RL = some m.cls := findClass_of_methodNamed B.named
  have htab : c.exceptionTable.toList = tableOf [(0, 9, 12, 20)] := vx_table (x := yL_law) B (hts (.codeWith yL_heightOf cL_heightOf 4 (some .int) [(0, 9, 12, 20)]) List.mem_cons_self)
  have hK8 : va_K (dC, dI) vwCl (tys8 cI cZ cS) s := hK.sub (tys' := tys8 cI cZ cS) [0, 1, 2] rfl
  have hcl20 := hts (.classLink RL 20 "java/lang/IndexOutOfBoundsException") (by decide +kernel)
  subst hsz
  have hD := hD0.self (sz := s.heap.size)
  generalize hAe : va_A ((wL cI cZ cS cL (fS hs) (fG hs) o fl a M) ++ RW cI cZ hs) s.heap.size = A at hD hEX ⊢
  have hA : ∀ q : Nat, s.heap.size ≤ q → A q := fun q h => by rw [← hAe]; exact Or.inr h
  have hS : va_S A s.heap s.heap [] := va_S.rf
  have hl := lv_entry ([.ref (a 0), .int a1, .ref o]) (n := 4) (Nat.le_of_ble_eq_true rfl)
  rw [lg_entry_eq]
  generalize (lg_sl ([.ref (a 0), .int a1, .ref o]) ++ List.replicate (4 - (lg_sl ([.ref (a 0), .int a1, .ref o])).length) Slot.unset).toArray = ls at hl ⊢
  have hl : lv_has ls 4 [(0, .ref (a 0)), (1, .int a1), (2, .ref o)] := hl
  suffices hgo : ∀ (H : Heap) (locs : List Loc), va_P (dC, dI) vwCl ((wL cI cZ cS cL (fS hs) (fG hs) o fl a M) ++ RW cI cZ hs) H → va_D A ((wL cI cZ cS cL (fS hs) (fG hs) o fl a M) ++ RW cI cZ hs) → va_S A s.heap H locs → W p l e (headSpec wsL_heightOf ({ frames := 8, cells := 1, slots := 6, locals := 152 } : Room)).room s m ([.ref (a 0), .int a1, .ref o] : List Value).toArray below meth c H locs 0 0 (MQ below (va_Qi (S := HS × (Nat → Int64)) (fun k u => k = kk ∧ u.1 = hs ∧ ∀ v, r = .inr v → u.2 0 = v.toInt64) (fun u t => WE (dC, dI) cI cZ ((wL cI cZ cS cL (fS u.1) (fG u.1) o u.2 a M) ++ RW cI cZ u.1) A t) A) ([.ref (a 0), .int a1, .ref o] : List Value).toArray s 1 6 A) (F0 m 0 ls []) from hgo _ _ hP hD hS
  intro H locs hP hD hS
  refine lv_aload_n hx hb dL_heightOf_0 rfl (lv_at hl 2 rfl) ?_
  refine lv_iconst (v := (0 : Int32)) hx hb dL_heightOf_1 (by decide) ?_
  refine lv_aload_n hx hb dL_heightOf_2 rfl (lv_at hl 0 rfl) ?_
  refine lv_iload_n hx hb dL_heightOf_3 rfl (lv_at hl 1 rfl) ?_
  have hPc := P_head (ws := (wL cI cZ cS cL (fS hs) (fG hs) o fl a M)) (ws' := (wX8 cI cZ cS (fS hs) (fG hs) a M)) hP [1, 2, 3, 4, 5, 6, 7, 8, 9, 10, 11, 12, 13, 14, 15, 16, 17, 18, 19, 20, 21, 22, 23, 24, 25, 26, 27, 28, 29, 30, 31, 32, 33, 34, 35, 36, 37, 38, 39, 40, 41, 42] rfl
  have hDc := D_head (ws := (wL cI cZ cS cL (fS hs) (fG hs) o fl a M)) (ws' := (wX8 cI cZ cS (fS hs) (fG hs) a M)) hD [1, 2, 3, 4, 5, 6, 7, 8, 9, 10, 11, 12, 13, 14, 15, 16, 17, 18, 19, 20, 21, 22, 23, 24, 25, 26, 27, 28, 29, 30, 31, 32, 33, 34, 35, 36, 37, 38, 39, 40, 41, 42] (by decide) rfl
  have hFc := va_free (wc := (wX8 cI cZ cS (fS hs) (fG hs) a M)) hD hS hA [1, 2, 3, 4, 5, 6, 7, 8, 9, 10, 11, 12, 13, 14, 15, 16, 17, 18, 19, 20, 21, 22, 23, 24, 25, 26, 27, 28, 29, 30, 31, 32, 33, 34, 35, 36, 37, 38, 39, 40, 41, 42] rfl
  rcases hA9 with ⟨v, hr9, hk9⟩ | ⟨i9, E9, hi9, hr9, hk9⟩
  · subst hr9
    subst hk9
    refine cRO (W.runV (As := [.int a1]) (rest := [.int (0 : Int32), .ref o]) ⟨hx, hb, hml, hown, hts⟩ (n_X8_heightOf l dC dI cI cZ cS (fS hs) (fG hs) a M a1 v hf) (cwV 1 hts gL_heightOf_X8_heightOf rfl rfl rfl (by decide +kernel) ⟨Nat.le_of_ble_eq_true rfl, Nat.le_of_ble_eq_true rfl⟩) ⟨RO8.blind, va_recv hK hP (ci := 8) (q0 := 1) rfl rfl, RO8.pre hPc hK8 hNW⟩ rfl rfl hl.1 rfl (lv_room (Nat.le_of_ble_eq_true rfl)) dL_heightOf_4 ⟨Nat.le_of_ble_eq_true rfl, Nat.le_of_ble_eq_true rfl⟩) ?_
    refine lv_i2l (v := v.toInt64) hx hb dL_heightOf_7 rfl ?_
    refine va_last (D := (dC, dI)) (f := fl) hx hb hK hP hD hS 0 3 rfl rfl (inb_in rfl) dL_heightOf_8 (fun H locs hP hD hS => ?_)
    have hP : va_P (dC, dI) vwCl ((wL cI cZ cS cL (fS hs) (fG hs) o (vp_updL fl 0 v.toInt64) a M) ++ RW cI cZ hs) H := hP
    have hD : va_D A ((wL cI cZ cS cL (fS hs) (fG hs) o (vp_updL fl 0 v.toInt64) a M) ++ RW cI cZ hs) := hD
    refine lv_goto (tgt := 15) hx hb dL_heightOf_9 (by decide) ?_
    refine lv_iconst (v := (0 : Int32)) hx hb dL_heightOf_15 (by decide) ?_
    refine W.widen (k := 1) (n := 6) (Nat.le_of_ble_eq_true rfl) (Nat.le_of_ble_eq_true rfl) ?_
    exact W.iret hx hb hr (fun t ht hW => ⟨⟨_, (hs, (vp_updL fl 0 v.toInt64)), rfl, ⟨rfl, rfl, fun v9 h9 => by cases h9; rfl⟩, WE.mk hP hD ht⟩, hS.F ht⟩) hS.2.2 dL_heightOf_16
  · subst hr9
    refine vx_thrH (vx_runV (As := [.int a1]) (rest := [.int (0 : Int32), .ref o]) ⟨hx, hb, hml, hown, hts⟩ (t_X8_heightOf l hst dC dI cI cZ cS (fS hs) (fG hs) a _ M a1 E9 hf) (cwV 1 hts gL_heightOf_X8_heightOf rfl rfl rfl (by decide +kernel) ⟨Nat.le_of_ble_eq_true rfl, Nat.le_of_ble_eq_true rfl⟩) ⟨T8.blind, va_recv hK hP (ci := 8) (q0 := 1) rfl rfl, T8.pre hPc hK8 hDc hNW (hEX.at hS hFc)⟩ rfl rfl hl.1 rfl (lv_room (Nat.le_of_ble_eq_true rfl)) dL_heightOf_4 ⟨Nat.le_of_ble_eq_true rfl, Nat.le_of_ble_eq_true rfl⟩) hS (fun q _ h => hFc q h) hFc (fun ce q9 t H1 locs1 ht hal hP1 hD1 hz1 hk1 hS hce hcv hcl => ?_)
    obtain ⟨hP, hD⟩ := join_app (ws := (wL cI cZ cS cL (fS hs) (fG hs) o fl a M)) (wr := [(o, .inl (cL, 1, .inr (.inl fl)))]) (w1 := _) hP hD [1, 2, 3, 4, 5, 6, 7, 8, 9, 10, 11, 12, 13, 14, 15, 16, 17, 18, 19, 20, 21, 22, 23, 24, 25, 26, 27, 28, 29, 30, 31, 32, 33, 34, 35, 36, 37, 38, 39, 40, 41, 42] [0] rfl rfl (by decide) (by decide) hk1 hFc hP1 hD1
    have hP : va_P (dC, dI) vwCl ((wL cI cZ cS cL (fS hs) (fG hs) o fl a M) ++ RW cI cZ hs) H1 := hP
    have hD : va_D A ((wL cI cZ cS cL (fS hs) (fG hs) o fl a M) ++ RW cI cZ hs) := hD
    generalize H1 = H at hP hS hce ⊢
    rcases (show i9 = 0 by have h7 := (List.getElem?_eq_some_iff.mp hi9).1; simp only [List.length] at h7; omega) with rfl
    · cases hi9
      refine vx_catch (own := RL) (name := "java/lang/IndexOutOfBoundsException") hown [] ⟨0, 9, 12, 20⟩ [] htab (fun z hz => nomatch hz) rfl (by decide) hcl20 ((nc422 hNW).use rfl) hce hcv hcl ?_
      refine lv_astore_n (lv' := [(3, .ref q9), (0, .ref (a 0)), (1, .int a1), (2, .ref o)]) hx hb dL_heightOf_12 rfl hl (by decide) rfl (fun ls hl => ?_)
      refine lv_iconst (v := (1 : Int32)) hx hb dL_heightOf_13 (by decide) ?_
      refine W.widen (k := 1) (n := 6) (Nat.le_of_ble_eq_true rfl) (Nat.le_of_ble_eq_true rfl) ?_
      exact W.iret hx hb hr (fun t ht hW => ⟨⟨_, (hs, fl), rfl, ⟨hk9.symm, rfl, fun v9 h9 => by cases h9⟩, WE.mk hP hD ht⟩, hS.F ht⟩) hS.2.2 dL_heightOf_14
set_option maxHeartbeats 4000000 in
set_option maxRecDepth 100000 in
theorem w_L_sideOf (l : Launch) (hst : l.stackTraces = false) (dC : Nat → ClassId) (dI : Nat → Nat → Nat) (cI cZ cS cL : ClassId) (hs : HS) (o : Nat) (fl : Nat → Int64) (a : Nat → Nat) (sz : Nat) (M : Mem) (a1 : Int32) (r : String ⊕ Int32) (kk : Int32) (hf : fX8_sideOf M a1 = some r) (hA9 : Ans ["java/lang/IndexOutOfBoundsException"] r kk) : Met l yL_sideOf wsL_sideOf ({ frames := 8, cells := 1, slots := 6, locals := 152 } : Room) (va_Pc [.ref (a 0), .int a1, .ref o] (T9 (dC, dI) cI cZ cS cL ((wL cI cZ cS cL (fS hs) (fG hs) o fl a M) ++ RW cI cZ hs) sz)) (va_Qi (S := HS × (Nat → Int64)) (fun k u => k = kk ∧ u.1 = hs ∧ ∀ v, r = .inr v → u.2 0 = v.toInt64) (fun u t => WE (dC, dI) cI cZ ((wL cI cZ cS cL (fS u.1) (fG u.1) o u.2 a M) ++ RW cI cZ u.1) (va_A ((wL cI cZ cS cL (fS hs) (fG hs) o fl a M) ++ RW cI cZ hs) sz) t) (va_A ((wL cI cZ cS cL (fS hs) (fG hs) o fl a M) ++ RW cI cZ hs) sz)) 1 6 (va_A ((wL cI cZ cS cL (fS hs) (fG hs) o fl a M) ++ RW cI cZ hs) sz) := by
  refine va_MetW (cc := cL_sideOf) (maxL := 4) (ret := (some .int)) (hh := [(0, 9, 12, 20)]) (by decide) rfl ?_
  intro p e s m args below meth c s₁ B hml hv
  obtain ⟨rfl, hsz, hP, hK, hD0, hNW, hEX, hNC⟩ := hv
  have hx := B.exec
  have hb := B.bytes
  have hr := B.returns
  have hts := atoms_spec (ws := wsL_sideOf) B.pre
  have hown : s.vm.findClass RL = some m.cls := findClass_of_methodNamed B.named
  have htab : c.exceptionTable.toList = tableOf [(0, 9, 12, 20)] := vx_table (x := yL_law) B (hts (.codeWith yL_sideOf cL_sideOf 4 (some .int) [(0, 9, 12, 20)]) List.mem_cons_self)
  have hK8 : va_K (dC, dI) vwCl (tys8 cI cZ cS) s := hK.sub (tys' := tys8 cI cZ cS) [0, 1, 2] rfl
  have hcl20 := hts (.classLink RL 20 "java/lang/IndexOutOfBoundsException") (by decide +kernel)
  subst hsz
  have hD := hD0.self (sz := s.heap.size)
  generalize hAe : va_A ((wL cI cZ cS cL (fS hs) (fG hs) o fl a M) ++ RW cI cZ hs) s.heap.size = A at hD hEX ⊢
  have hA : ∀ q : Nat, s.heap.size ≤ q → A q := fun q h => by rw [← hAe]; exact Or.inr h
  have hS : va_S A s.heap s.heap [] := va_S.rf
  have hl := lv_entry ([.ref (a 0), .int a1, .ref o]) (n := 4) (Nat.le_of_ble_eq_true rfl)
  rw [lg_entry_eq]
  generalize (lg_sl ([.ref (a 0), .int a1, .ref o]) ++ List.replicate (4 - (lg_sl ([.ref (a 0), .int a1, .ref o])).length) Slot.unset).toArray = ls at hl ⊢
  have hl : lv_has ls 4 [(0, .ref (a 0)), (1, .int a1), (2, .ref o)] := hl
  suffices hgo : ∀ (H : Heap) (locs : List Loc), va_P (dC, dI) vwCl ((wL cI cZ cS cL (fS hs) (fG hs) o fl a M) ++ RW cI cZ hs) H → va_D A ((wL cI cZ cS cL (fS hs) (fG hs) o fl a M) ++ RW cI cZ hs) → va_S A s.heap H locs → W p l e (headSpec wsL_sideOf ({ frames := 8, cells := 1, slots := 6, locals := 152 } : Room)).room s m ([.ref (a 0), .int a1, .ref o] : List Value).toArray below meth c H locs 0 0 (MQ below (va_Qi (S := HS × (Nat → Int64)) (fun k u => k = kk ∧ u.1 = hs ∧ ∀ v, r = .inr v → u.2 0 = v.toInt64) (fun u t => WE (dC, dI) cI cZ ((wL cI cZ cS cL (fS u.1) (fG u.1) o u.2 a M) ++ RW cI cZ u.1) A t) A) ([.ref (a 0), .int a1, .ref o] : List Value).toArray s 1 6 A) (F0 m 0 ls []) from hgo _ _ hP hD hS
  intro H locs hP hD hS
  refine lv_aload_n hx hb dL_sideOf_0 rfl (lv_at hl 2 rfl) ?_
  refine lv_iconst (v := (0 : Int32)) hx hb dL_sideOf_1 (by decide) ?_
  refine lv_aload_n hx hb dL_sideOf_2 rfl (lv_at hl 0 rfl) ?_
  refine lv_iload_n hx hb dL_sideOf_3 rfl (lv_at hl 1 rfl) ?_
  have hPc := P_head (ws := (wL cI cZ cS cL (fS hs) (fG hs) o fl a M)) (ws' := (wX8 cI cZ cS (fS hs) (fG hs) a M)) hP [1, 2, 3, 4, 5, 6, 7, 8, 9, 10, 11, 12, 13, 14, 15, 16, 17, 18, 19, 20, 21, 22, 23, 24, 25, 26, 27, 28, 29, 30, 31, 32, 33, 34, 35, 36, 37, 38, 39, 40, 41, 42] rfl
  have hDc := D_head (ws := (wL cI cZ cS cL (fS hs) (fG hs) o fl a M)) (ws' := (wX8 cI cZ cS (fS hs) (fG hs) a M)) hD [1, 2, 3, 4, 5, 6, 7, 8, 9, 10, 11, 12, 13, 14, 15, 16, 17, 18, 19, 20, 21, 22, 23, 24, 25, 26, 27, 28, 29, 30, 31, 32, 33, 34, 35, 36, 37, 38, 39, 40, 41, 42] (by decide) rfl
  have hFc := va_free (wc := (wX8 cI cZ cS (fS hs) (fG hs) a M)) hD hS hA [1, 2, 3, 4, 5, 6, 7, 8, 9, 10, 11, 12, 13, 14, 15, 16, 17, 18, 19, 20, 21, 22, 23, 24, 25, 26, 27, 28, 29, 30, 31, 32, 33, 34, 35, 36, 37, 38, 39, 40, 41, 42] rfl
  rcases hA9 with ⟨v, hr9, hk9⟩ | ⟨i9, E9, hi9, hr9, hk9⟩
  · subst hr9
    subst hk9
    refine cRO (W.runV (As := [.int a1]) (rest := [.int (0 : Int32), .ref o]) ⟨hx, hb, hml, hown, hts⟩ (n_X8_sideOf l dC dI cI cZ cS (fS hs) (fG hs) a M a1 v hf) (cwV 1 hts gL_sideOf_X8_sideOf rfl rfl rfl (by decide +kernel) ⟨Nat.le_of_ble_eq_true rfl, Nat.le_of_ble_eq_true rfl⟩) ⟨RO8.blind, va_recv hK hP (ci := 8) (q0 := 1) rfl rfl, RO8.pre hPc hK8 hNW⟩ rfl rfl hl.1 rfl (lv_room (Nat.le_of_ble_eq_true rfl)) dL_sideOf_4 ⟨Nat.le_of_ble_eq_true rfl, Nat.le_of_ble_eq_true rfl⟩) ?_
    refine lv_i2l (v := v.toInt64) hx hb dL_sideOf_7 rfl ?_
    refine va_last (D := (dC, dI)) (f := fl) hx hb hK hP hD hS 0 3 rfl rfl (inb_in rfl) dL_sideOf_8 (fun H locs hP hD hS => ?_)
    have hP : va_P (dC, dI) vwCl ((wL cI cZ cS cL (fS hs) (fG hs) o (vp_updL fl 0 v.toInt64) a M) ++ RW cI cZ hs) H := hP
    have hD : va_D A ((wL cI cZ cS cL (fS hs) (fG hs) o (vp_updL fl 0 v.toInt64) a M) ++ RW cI cZ hs) := hD
    refine lv_goto (tgt := 15) hx hb dL_sideOf_9 (by decide) ?_
    refine lv_iconst (v := (0 : Int32)) hx hb dL_sideOf_15 (by decide) ?_
    refine W.widen (k := 1) (n := 6) (Nat.le_of_ble_eq_true rfl) (Nat.le_of_ble_eq_true rfl) ?_
    exact W.iret hx hb hr (fun t ht hW => ⟨⟨_, (hs, (vp_updL fl 0 v.toInt64)), rfl, ⟨rfl, rfl, fun v9 h9 => by cases h9; rfl⟩, WE.mk hP hD ht⟩, hS.F ht⟩) hS.2.2 dL_sideOf_16
  · subst hr9
    refine vx_thrH (vx_runV (As := [.int a1]) (rest := [.int (0 : Int32), .ref o]) ⟨hx, hb, hml, hown, hts⟩ (t_X8_sideOf l hst dC dI cI cZ cS (fS hs) (fG hs) a _ M a1 E9 hf) (cwV 1 hts gL_sideOf_X8_sideOf rfl rfl rfl (by decide +kernel) ⟨Nat.le_of_ble_eq_true rfl, Nat.le_of_ble_eq_true rfl⟩) ⟨T8.blind, va_recv hK hP (ci := 8) (q0 := 1) rfl rfl, T8.pre hPc hK8 hDc hNW (hEX.at hS hFc)⟩ rfl rfl hl.1 rfl (lv_room (Nat.le_of_ble_eq_true rfl)) dL_sideOf_4 ⟨Nat.le_of_ble_eq_true rfl, Nat.le_of_ble_eq_true rfl⟩) hS (fun q _ h => hFc q h) hFc (fun ce q9 t H1 locs1 ht hal hP1 hD1 hz1 hk1 hS hce hcv hcl => ?_)
    obtain ⟨hP, hD⟩ := join_app (ws := (wL cI cZ cS cL (fS hs) (fG hs) o fl a M)) (wr := [(o, .inl (cL, 1, .inr (.inl fl)))]) (w1 := _) hP hD [1, 2, 3, 4, 5, 6, 7, 8, 9, 10, 11, 12, 13, 14, 15, 16, 17, 18, 19, 20, 21, 22, 23, 24, 25, 26, 27, 28, 29, 30, 31, 32, 33, 34, 35, 36, 37, 38, 39, 40, 41, 42] [0] rfl rfl (by decide) (by decide) hk1 hFc hP1 hD1
    have hP : va_P (dC, dI) vwCl ((wL cI cZ cS cL (fS hs) (fG hs) o fl a M) ++ RW cI cZ hs) H1 := hP
    have hD : va_D A ((wL cI cZ cS cL (fS hs) (fG hs) o fl a M) ++ RW cI cZ hs) := hD
    generalize H1 = H at hP hS hce ⊢
    rcases (show i9 = 0 by have h7 := (List.getElem?_eq_some_iff.mp hi9).1; simp only [List.length] at h7; omega) with rfl
    · cases hi9
      refine vx_catch (own := RL) (name := "java/lang/IndexOutOfBoundsException") hown [] ⟨0, 9, 12, 20⟩ [] htab (fun z hz => nomatch hz) rfl (by decide) hcl20 ((nc422 hNW).use rfl) hce hcv hcl ?_
      refine lv_astore_n (lv' := [(3, .ref q9), (0, .ref (a 0)), (1, .int a1), (2, .ref o)]) hx hb dL_sideOf_12 rfl hl (by decide) rfl (fun ls hl => ?_)
      refine lv_iconst (v := (1 : Int32)) hx hb dL_sideOf_13 (by decide) ?_
      refine W.widen (k := 1) (n := 6) (Nat.le_of_ble_eq_true rfl) (Nat.le_of_ble_eq_true rfl) ?_
      exact W.iret hx hb hr (fun t ht hW => ⟨⟨_, (hs, fl), rfl, ⟨hk9.symm, rfl, fun v9 h9 => by cases h9⟩, WE.mk hP hD ht⟩, hS.F ht⟩) hS.2.2 dL_sideOf_14
set_option maxHeartbeats 4000000 in
set_option maxRecDepth 100000 in
theorem w_L_slotOf (l : Launch) (hst : l.stackTraces = false) (dC : Nat → ClassId) (dI : Nat → Nat → Nat) (cI cZ cS cL : ClassId) (hs : HS) (o : Nat) (fl : Nat → Int64) (a : Nat → Nat) (sz : Nat) (M : Mem) (a1 : Int32) (r : String ⊕ Int32) (kk : Int32) (hf : fX8_slotOf M a1 = some r) (hA9 : Ans ["java/lang/IndexOutOfBoundsException"] r kk) : Met l yL_slotOf wsL_slotOf ({ frames := 8, cells := 1, slots := 6, locals := 152 } : Room) (va_Pc [.ref (a 0), .int a1, .ref o] (T9 (dC, dI) cI cZ cS cL ((wL cI cZ cS cL (fS hs) (fG hs) o fl a M) ++ RW cI cZ hs) sz)) (va_Qi (S := HS × (Nat → Int64)) (fun k u => k = kk ∧ u.1 = hs ∧ ∀ v, r = .inr v → u.2 0 = v.toInt64) (fun u t => WE (dC, dI) cI cZ ((wL cI cZ cS cL (fS u.1) (fG u.1) o u.2 a M) ++ RW cI cZ u.1) (va_A ((wL cI cZ cS cL (fS hs) (fG hs) o fl a M) ++ RW cI cZ hs) sz) t) (va_A ((wL cI cZ cS cL (fS hs) (fG hs) o fl a M) ++ RW cI cZ hs) sz)) 1 6 (va_A ((wL cI cZ cS cL (fS hs) (fG hs) o fl a M) ++ RW cI cZ hs) sz) := by
  refine va_MetW (cc := cL_slotOf) (maxL := 4) (ret := (some .int)) (hh := [(0, 9, 12, 20)]) (by decide) rfl ?_
  intro p e s m args below meth c s₁ B hml hv
  obtain ⟨rfl, hsz, hP, hK, hD0, hNW, hEX, hNC⟩ := hv
  have hx := B.exec
  have hb := B.bytes
  have hr := B.returns
  have hts := atoms_spec (ws := wsL_slotOf) B.pre
  have hown : s.vm.findClass RL = some m.cls := findClass_of_methodNamed B.named
  have htab : c.exceptionTable.toList = tableOf [(0, 9, 12, 20)] := vx_table (x := yL_law) B (hts (.codeWith yL_slotOf cL_slotOf 4 (some .int) [(0, 9, 12, 20)]) List.mem_cons_self)
  have hK8 : va_K (dC, dI) vwCl (tys8 cI cZ cS) s := hK.sub (tys' := tys8 cI cZ cS) [0, 1, 2] rfl
  have hcl20 := hts (.classLink RL 20 "java/lang/IndexOutOfBoundsException") (by decide +kernel)
  subst hsz
  have hD := hD0.self (sz := s.heap.size)
  generalize hAe : va_A ((wL cI cZ cS cL (fS hs) (fG hs) o fl a M) ++ RW cI cZ hs) s.heap.size = A at hD hEX ⊢
  have hA : ∀ q : Nat, s.heap.size ≤ q → A q := fun q h => by rw [← hAe]; exact Or.inr h
  have hS : va_S A s.heap s.heap [] := va_S.rf
  have hl := lv_entry ([.ref (a 0), .int a1, .ref o]) (n := 4) (Nat.le_of_ble_eq_true rfl)
  rw [lg_entry_eq]
  generalize (lg_sl ([.ref (a 0), .int a1, .ref o]) ++ List.replicate (4 - (lg_sl ([.ref (a 0), .int a1, .ref o])).length) Slot.unset).toArray = ls at hl ⊢
  have hl : lv_has ls 4 [(0, .ref (a 0)), (1, .int a1), (2, .ref o)] := hl
  suffices hgo : ∀ (H : Heap) (locs : List Loc), va_P (dC, dI) vwCl ((wL cI cZ cS cL (fS hs) (fG hs) o fl a M) ++ RW cI cZ hs) H → va_D A ((wL cI cZ cS cL (fS hs) (fG hs) o fl a M) ++ RW cI cZ hs) → va_S A s.heap H locs → W p l e (headSpec wsL_slotOf ({ frames := 8, cells := 1, slots := 6, locals := 152 } : Room)).room s m ([.ref (a 0), .int a1, .ref o] : List Value).toArray below meth c H locs 0 0 (MQ below (va_Qi (S := HS × (Nat → Int64)) (fun k u => k = kk ∧ u.1 = hs ∧ ∀ v, r = .inr v → u.2 0 = v.toInt64) (fun u t => WE (dC, dI) cI cZ ((wL cI cZ cS cL (fS u.1) (fG u.1) o u.2 a M) ++ RW cI cZ u.1) A t) A) ([.ref (a 0), .int a1, .ref o] : List Value).toArray s 1 6 A) (F0 m 0 ls []) from hgo _ _ hP hD hS
  intro H locs hP hD hS
  refine lv_aload_n hx hb dL_slotOf_0 rfl (lv_at hl 2 rfl) ?_
  refine lv_iconst (v := (0 : Int32)) hx hb dL_slotOf_1 (by decide) ?_
  refine lv_aload_n hx hb dL_slotOf_2 rfl (lv_at hl 0 rfl) ?_
  refine lv_iload_n hx hb dL_slotOf_3 rfl (lv_at hl 1 rfl) ?_
  have hPc := P_head (ws := (wL cI cZ cS cL (fS hs) (fG hs) o fl a M)) (ws' := (wX8 cI cZ cS (fS hs) (fG hs) a M)) hP [1, 2, 3, 4, 5, 6, 7, 8, 9, 10, 11, 12, 13, 14, 15, 16, 17, 18, 19, 20, 21, 22, 23, 24, 25, 26, 27, 28, 29, 30, 31, 32, 33, 34, 35, 36, 37, 38, 39, 40, 41, 42] rfl
  have hDc := D_head (ws := (wL cI cZ cS cL (fS hs) (fG hs) o fl a M)) (ws' := (wX8 cI cZ cS (fS hs) (fG hs) a M)) hD [1, 2, 3, 4, 5, 6, 7, 8, 9, 10, 11, 12, 13, 14, 15, 16, 17, 18, 19, 20, 21, 22, 23, 24, 25, 26, 27, 28, 29, 30, 31, 32, 33, 34, 35, 36, 37, 38, 39, 40, 41, 42] (by decide) rfl
  have hFc := va_free (wc := (wX8 cI cZ cS (fS hs) (fG hs) a M)) hD hS hA [1, 2, 3, 4, 5, 6, 7, 8, 9, 10, 11, 12, 13, 14, 15, 16, 17, 18, 19, 20, 21, 22, 23, 24, 25, 26, 27, 28, 29, 30, 31, 32, 33, 34, 35, 36, 37, 38, 39, 40, 41, 42] rfl
  rcases hA9 with ⟨v, hr9, hk9⟩ | ⟨i9, E9, hi9, hr9, hk9⟩
  · subst hr9
    subst hk9
    refine cRO (W.runV (As := [.int a1]) (rest := [.int (0 : Int32), .ref o]) ⟨hx, hb, hml, hown, hts⟩ (n_X8_slotOf l dC dI cI cZ cS (fS hs) (fG hs) a M a1 v hf) (cwV 1 hts gL_slotOf_X8_slotOf rfl rfl rfl (by decide +kernel) ⟨Nat.le_of_ble_eq_true rfl, Nat.le_of_ble_eq_true rfl⟩) ⟨RO8.blind, va_recv hK hP (ci := 8) (q0 := 1) rfl rfl, RO8.pre hPc hK8 hNW⟩ rfl rfl hl.1 rfl (lv_room (Nat.le_of_ble_eq_true rfl)) dL_slotOf_4 ⟨Nat.le_of_ble_eq_true rfl, Nat.le_of_ble_eq_true rfl⟩) ?_
    refine lv_i2l (v := v.toInt64) hx hb dL_slotOf_7 rfl ?_
    refine va_last (D := (dC, dI)) (f := fl) hx hb hK hP hD hS 0 3 rfl rfl (inb_in rfl) dL_slotOf_8 (fun H locs hP hD hS => ?_)
    have hP : va_P (dC, dI) vwCl ((wL cI cZ cS cL (fS hs) (fG hs) o (vp_updL fl 0 v.toInt64) a M) ++ RW cI cZ hs) H := hP
    have hD : va_D A ((wL cI cZ cS cL (fS hs) (fG hs) o (vp_updL fl 0 v.toInt64) a M) ++ RW cI cZ hs) := hD
    refine lv_goto (tgt := 15) hx hb dL_slotOf_9 (by decide) ?_
    refine lv_iconst (v := (0 : Int32)) hx hb dL_slotOf_15 (by decide) ?_
    refine W.widen (k := 1) (n := 6) (Nat.le_of_ble_eq_true rfl) (Nat.le_of_ble_eq_true rfl) ?_
    exact W.iret hx hb hr (fun t ht hW => ⟨⟨_, (hs, (vp_updL fl 0 v.toInt64)), rfl, ⟨rfl, rfl, fun v9 h9 => by cases h9; rfl⟩, WE.mk hP hD ht⟩, hS.F ht⟩) hS.2.2 dL_slotOf_16
  · subst hr9
    refine vx_thrH (vx_runV (As := [.int a1]) (rest := [.int (0 : Int32), .ref o]) ⟨hx, hb, hml, hown, hts⟩ (t_X8_slotOf l hst dC dI cI cZ cS (fS hs) (fG hs) a _ M a1 E9 hf) (cwV 1 hts gL_slotOf_X8_slotOf rfl rfl rfl (by decide +kernel) ⟨Nat.le_of_ble_eq_true rfl, Nat.le_of_ble_eq_true rfl⟩) ⟨T8.blind, va_recv hK hP (ci := 8) (q0 := 1) rfl rfl, T8.pre hPc hK8 hDc hNW (hEX.at hS hFc)⟩ rfl rfl hl.1 rfl (lv_room (Nat.le_of_ble_eq_true rfl)) dL_slotOf_4 ⟨Nat.le_of_ble_eq_true rfl, Nat.le_of_ble_eq_true rfl⟩) hS (fun q _ h => hFc q h) hFc (fun ce q9 t H1 locs1 ht hal hP1 hD1 hz1 hk1 hS hce hcv hcl => ?_)
    obtain ⟨hP, hD⟩ := join_app (ws := (wL cI cZ cS cL (fS hs) (fG hs) o fl a M)) (wr := [(o, .inl (cL, 1, .inr (.inl fl)))]) (w1 := _) hP hD [1, 2, 3, 4, 5, 6, 7, 8, 9, 10, 11, 12, 13, 14, 15, 16, 17, 18, 19, 20, 21, 22, 23, 24, 25, 26, 27, 28, 29, 30, 31, 32, 33, 34, 35, 36, 37, 38, 39, 40, 41, 42] [0] rfl rfl (by decide) (by decide) hk1 hFc hP1 hD1
    have hP : va_P (dC, dI) vwCl ((wL cI cZ cS cL (fS hs) (fG hs) o fl a M) ++ RW cI cZ hs) H1 := hP
    have hD : va_D A ((wL cI cZ cS cL (fS hs) (fG hs) o fl a M) ++ RW cI cZ hs) := hD
    generalize H1 = H at hP hS hce ⊢
    rcases (show i9 = 0 by have h7 := (List.getElem?_eq_some_iff.mp hi9).1; simp only [List.length] at h7; omega) with rfl
    · cases hi9
      refine vx_catch (own := RL) (name := "java/lang/IndexOutOfBoundsException") hown [] ⟨0, 9, 12, 20⟩ [] htab (fun z hz => nomatch hz) rfl (by decide) hcl20 ((nc422 hNW).use rfl) hce hcv hcl ?_
      refine lv_astore_n (lv' := [(3, .ref q9), (0, .ref (a 0)), (1, .int a1), (2, .ref o)]) hx hb dL_slotOf_12 rfl hl (by decide) rfl (fun ls hl => ?_)
      refine lv_iconst (v := (1 : Int32)) hx hb dL_slotOf_13 (by decide) ?_
      refine W.widen (k := 1) (n := 6) (Nat.le_of_ble_eq_true rfl) (Nat.le_of_ble_eq_true rfl) ?_
      exact W.iret hx hb hr (fun t ht hW => ⟨⟨_, (hs, fl), rfl, ⟨hk9.symm, rfl, fun v9 h9 => by cases h9⟩, WE.mk hP hD ht⟩, hS.F ht⟩) hS.2.2 dL_slotOf_14
set_option maxHeartbeats 4000000 in
set_option maxRecDepth 100000 in
theorem w_L_isAtWindow (l : Launch) (hst : l.stackTraces = false) (dC : Nat → ClassId) (dI : Nat → Nat → Nat) (cI cZ cS cL : ClassId) (hs : HS) (o : Nat) (fl : Nat → Int64) (a : Nat → Nat) (sz : Nat) (M : Mem) (a1 : Int32) (r : String ⊕ Int32) (kk : Int32) (hf : fX8_isAtWindow M a1 = some r) (hA9 : Ans ["java/lang/IndexOutOfBoundsException"] r kk) : Met l yL_isAtWindow wsL_isAtWindow ({ frames := 8, cells := 1, slots := 6, locals := 152 } : Room) (va_Pc [.ref (a 0), .int a1, .ref o] (T9 (dC, dI) cI cZ cS cL ((wL cI cZ cS cL (fS hs) (fG hs) o fl a M) ++ RW cI cZ hs) sz)) (va_Qi (S := HS × (Nat → Int64)) (fun k u => k = kk ∧ u.1 = hs ∧ ∀ v, r = .inr v → u.2 0 = cvZ v) (fun u t => WE (dC, dI) cI cZ ((wL cI cZ cS cL (fS u.1) (fG u.1) o u.2 a M) ++ RW cI cZ u.1) (va_A ((wL cI cZ cS cL (fS hs) (fG hs) o fl a M) ++ RW cI cZ hs) sz) t) (va_A ((wL cI cZ cS cL (fS hs) (fG hs) o fl a M) ++ RW cI cZ hs) sz)) 1 6 (va_A ((wL cI cZ cS cL (fS hs) (fG hs) o fl a M) ++ RW cI cZ hs) sz) := by
  refine va_MetW (cc := cL_isAtWindow) (maxL := 4) (ret := (some .int)) (hh := [(0, 16, 19, 20)]) (by decide) rfl ?_
  intro p e s m args below meth c s₁ B hml hv
  obtain ⟨rfl, hsz, hP, hK, hD0, hNW, hEX, hNC⟩ := hv
  have hx := B.exec
  have hb := B.bytes
  have hr := B.returns
  have hts := atoms_spec (ws := wsL_isAtWindow) B.pre
  have hown : s.vm.findClass RL = some m.cls := findClass_of_methodNamed B.named
  have htab : c.exceptionTable.toList = tableOf [(0, 16, 19, 20)] := vx_table (x := yL_law) B (hts (.codeWith yL_isAtWindow cL_isAtWindow 4 (some .int) [(0, 16, 19, 20)]) List.mem_cons_self)
  have hK8 : va_K (dC, dI) vwCl (tys8 cI cZ cS) s := hK.sub (tys' := tys8 cI cZ cS) [0, 1, 2] rfl
  have hcl20 := hts (.classLink RL 20 "java/lang/IndexOutOfBoundsException") (by decide +kernel)
  subst hsz
  have hD := hD0.self (sz := s.heap.size)
  generalize hAe : va_A ((wL cI cZ cS cL (fS hs) (fG hs) o fl a M) ++ RW cI cZ hs) s.heap.size = A at hD hEX ⊢
  have hA : ∀ q : Nat, s.heap.size ≤ q → A q := fun q h => by rw [← hAe]; exact Or.inr h
  have hS : va_S A s.heap s.heap [] := va_S.rf
  have hl := lv_entry ([.ref (a 0), .int a1, .ref o]) (n := 4) (Nat.le_of_ble_eq_true rfl)
  rw [lg_entry_eq]
  generalize (lg_sl ([.ref (a 0), .int a1, .ref o]) ++ List.replicate (4 - (lg_sl ([.ref (a 0), .int a1, .ref o])).length) Slot.unset).toArray = ls at hl ⊢
  have hl : lv_has ls 4 [(0, .ref (a 0)), (1, .int a1), (2, .ref o)] := hl
  suffices hgo : ∀ (H : Heap) (locs : List Loc), va_P (dC, dI) vwCl ((wL cI cZ cS cL (fS hs) (fG hs) o fl a M) ++ RW cI cZ hs) H → va_D A ((wL cI cZ cS cL (fS hs) (fG hs) o fl a M) ++ RW cI cZ hs) → va_S A s.heap H locs → W p l e (headSpec wsL_isAtWindow ({ frames := 8, cells := 1, slots := 6, locals := 152 } : Room)).room s m ([.ref (a 0), .int a1, .ref o] : List Value).toArray below meth c H locs 0 0 (MQ below (va_Qi (S := HS × (Nat → Int64)) (fun k u => k = kk ∧ u.1 = hs ∧ ∀ v, r = .inr v → u.2 0 = cvZ v) (fun u t => WE (dC, dI) cI cZ ((wL cI cZ cS cL (fS u.1) (fG u.1) o u.2 a M) ++ RW cI cZ u.1) A t) A) ([.ref (a 0), .int a1, .ref o] : List Value).toArray s 1 6 A) (F0 m 0 ls []) from hgo _ _ hP hD hS
  intro H locs hP hD hS
  refine lv_aload_n hx hb dL_isAtWindow_0 rfl (lv_at hl 2 rfl) ?_
  refine lv_iconst (v := (0 : Int32)) hx hb dL_isAtWindow_1 (by decide) ?_
  refine lv_aload_n hx hb dL_isAtWindow_2 rfl (lv_at hl 0 rfl) ?_
  refine lv_iload_n hx hb dL_isAtWindow_3 rfl (lv_at hl 1 rfl) ?_
  have hPc := P_head (ws := (wL cI cZ cS cL (fS hs) (fG hs) o fl a M)) (ws' := (wX8 cI cZ cS (fS hs) (fG hs) a M)) hP [1, 2, 3, 4, 5, 6, 7, 8, 9, 10, 11, 12, 13, 14, 15, 16, 17, 18, 19, 20, 21, 22, 23, 24, 25, 26, 27, 28, 29, 30, 31, 32, 33, 34, 35, 36, 37, 38, 39, 40, 41, 42] rfl
  have hDc := D_head (ws := (wL cI cZ cS cL (fS hs) (fG hs) o fl a M)) (ws' := (wX8 cI cZ cS (fS hs) (fG hs) a M)) hD [1, 2, 3, 4, 5, 6, 7, 8, 9, 10, 11, 12, 13, 14, 15, 16, 17, 18, 19, 20, 21, 22, 23, 24, 25, 26, 27, 28, 29, 30, 31, 32, 33, 34, 35, 36, 37, 38, 39, 40, 41, 42] (by decide) rfl
  have hFc := va_free (wc := (wX8 cI cZ cS (fS hs) (fG hs) a M)) hD hS hA [1, 2, 3, 4, 5, 6, 7, 8, 9, 10, 11, 12, 13, 14, 15, 16, 17, 18, 19, 20, 21, 22, 23, 24, 25, 26, 27, 28, 29, 30, 31, 32, 33, 34, 35, 36, 37, 38, 39, 40, 41, 42] rfl
  rcases hA9 with ⟨v, hr9, hk9⟩ | ⟨i9, E9, hi9, hr9, hk9⟩
  · subst hr9
    subst hk9
    refine cRO (W.runV (As := [.int a1]) (rest := [.int (0 : Int32), .ref o]) ⟨hx, hb, hml, hown, hts⟩ (n_X8_isAtWindow l dC dI cI cZ cS (fS hs) (fG hs) a M a1 v hf) (cwV 1 hts gL_isAtWindow_X8_isAtWindow rfl rfl rfl (by decide +kernel) ⟨Nat.le_of_ble_eq_true rfl, Nat.le_of_ble_eq_true rfl⟩) ⟨RO8.blind, va_recv hK hP (ci := 8) (q0 := 1) rfl rfl, RO8.pre hPc hK8 hNW⟩ rfl rfl hl.1 rfl (lv_room (Nat.le_of_ble_eq_true rfl)) dL_isAtWindow_4 ⟨Nat.le_of_ble_eq_true rfl, Nat.le_of_ble_eq_true rfl⟩) ?_
    refine lv_if_eq (tgt := 14) hx hb dL_isAtWindow_7 (by decide) (fun c9 => ?_) (fun c9 => ?_)
    · refine lv_lconst (v := (0 : Int64)) hx hb dL_isAtWindow_14 (by decide) ?_
      refine va_last (D := (dC, dI)) (f := fl) hx hb hK hP hD hS 0 3 rfl rfl (inb_in rfl) dL_isAtWindow_15 (fun H locs hP hD hS => ?_)
      have hP : va_P (dC, dI) vwCl ((wL cI cZ cS cL (fS hs) (fG hs) o (vp_updL fl 0 (0 : Int64)) a M) ++ RW cI cZ hs) H := hP
      have hD : va_D A ((wL cI cZ cS cL (fS hs) (fG hs) o (vp_updL fl 0 (0 : Int64)) a M) ++ RW cI cZ hs) := hD
      refine lv_goto (tgt := 22) hx hb dL_isAtWindow_16 (by decide) ?_
      refine lv_iconst (v := (0 : Int32)) hx hb dL_isAtWindow_22 (by decide) ?_
      refine W.widen (k := 1) (n := 6) (Nat.le_of_ble_eq_true rfl) (Nat.le_of_ble_eq_true rfl) ?_
      exact W.iret hx hb hr (fun t ht hW => ⟨⟨_, (hs, (vp_updL fl 0 (0 : Int64))), rfl, ⟨rfl, rfl, fun v9 h9 => by cases h9; exact (if_pos c9).symm⟩, WE.mk hP hD ht⟩, hS.F ht⟩) hS.2.2 dL_isAtWindow_23
    · refine lv_lconst (v := (1 : Int64)) hx hb dL_isAtWindow_10 (by decide) ?_
      refine lv_goto (tgt := 15) hx hb dL_isAtWindow_11 (by decide) ?_
      refine va_last (D := (dC, dI)) (f := fl) hx hb hK hP hD hS 0 3 rfl rfl (inb_in rfl) dL_isAtWindow_15 (fun H locs hP hD hS => ?_)
      have hP : va_P (dC, dI) vwCl ((wL cI cZ cS cL (fS hs) (fG hs) o (vp_updL fl 0 (1 : Int64)) a M) ++ RW cI cZ hs) H := hP
      have hD : va_D A ((wL cI cZ cS cL (fS hs) (fG hs) o (vp_updL fl 0 (1 : Int64)) a M) ++ RW cI cZ hs) := hD
      refine lv_goto (tgt := 22) hx hb dL_isAtWindow_16 (by decide) ?_
      refine lv_iconst (v := (0 : Int32)) hx hb dL_isAtWindow_22 (by decide) ?_
      refine W.widen (k := 1) (n := 6) (Nat.le_of_ble_eq_true rfl) (Nat.le_of_ble_eq_true rfl) ?_
      exact W.iret hx hb hr (fun t ht hW => ⟨⟨_, (hs, (vp_updL fl 0 (1 : Int64))), rfl, ⟨rfl, rfl, fun v9 h9 => by cases h9; exact (if_neg c9).symm⟩, WE.mk hP hD ht⟩, hS.F ht⟩) hS.2.2 dL_isAtWindow_23
  · subst hr9
    refine vx_thrH (vx_runV (As := [.int a1]) (rest := [.int (0 : Int32), .ref o]) ⟨hx, hb, hml, hown, hts⟩ (t_X8_isAtWindow l hst dC dI cI cZ cS (fS hs) (fG hs) a _ M a1 E9 hf) (cwV 1 hts gL_isAtWindow_X8_isAtWindow rfl rfl rfl (by decide +kernel) ⟨Nat.le_of_ble_eq_true rfl, Nat.le_of_ble_eq_true rfl⟩) ⟨T8.blind, va_recv hK hP (ci := 8) (q0 := 1) rfl rfl, T8.pre hPc hK8 hDc hNW (hEX.at hS hFc)⟩ rfl rfl hl.1 rfl (lv_room (Nat.le_of_ble_eq_true rfl)) dL_isAtWindow_4 ⟨Nat.le_of_ble_eq_true rfl, Nat.le_of_ble_eq_true rfl⟩) hS (fun q _ h => hFc q h) hFc (fun ce q9 t H1 locs1 ht hal hP1 hD1 hz1 hk1 hS hce hcv hcl => ?_)
    obtain ⟨hP, hD⟩ := join_app (ws := (wL cI cZ cS cL (fS hs) (fG hs) o fl a M)) (wr := [(o, .inl (cL, 1, .inr (.inl fl)))]) (w1 := _) hP hD [1, 2, 3, 4, 5, 6, 7, 8, 9, 10, 11, 12, 13, 14, 15, 16, 17, 18, 19, 20, 21, 22, 23, 24, 25, 26, 27, 28, 29, 30, 31, 32, 33, 34, 35, 36, 37, 38, 39, 40, 41, 42] [0] rfl rfl (by decide) (by decide) hk1 hFc hP1 hD1
    have hP : va_P (dC, dI) vwCl ((wL cI cZ cS cL (fS hs) (fG hs) o fl a M) ++ RW cI cZ hs) H1 := hP
    have hD : va_D A ((wL cI cZ cS cL (fS hs) (fG hs) o fl a M) ++ RW cI cZ hs) := hD
    generalize H1 = H at hP hS hce ⊢
    rcases (show i9 = 0 by have h7 := (List.getElem?_eq_some_iff.mp hi9).1; simp only [List.length] at h7; omega) with rfl
    · cases hi9
      refine vx_catch (own := RL) (name := "java/lang/IndexOutOfBoundsException") hown [] ⟨0, 16, 19, 20⟩ [] htab (fun z hz => nomatch hz) rfl (by decide) hcl20 ((nc422 hNW).use rfl) hce hcv hcl ?_
      refine lv_astore_n (lv' := [(3, .ref q9), (0, .ref (a 0)), (1, .int a1), (2, .ref o)]) hx hb dL_isAtWindow_19 rfl hl (by decide) rfl (fun ls hl => ?_)
      refine lv_iconst (v := (1 : Int32)) hx hb dL_isAtWindow_20 (by decide) ?_
      refine W.widen (k := 1) (n := 6) (Nat.le_of_ble_eq_true rfl) (Nat.le_of_ble_eq_true rfl) ?_
      exact W.iret hx hb hr (fun t ht hW => ⟨⟨_, (hs, fl), rfl, ⟨hk9.symm, rfl, fun v9 h9 => by cases h9⟩, WE.mk hP hD ht⟩, hS.F ht⟩) hS.2.2 dL_isAtWindow_21
set_option maxHeartbeats 4000000 in
set_option maxRecDepth 100000 in
theorem w_L_thingsIn (l : Launch) (hst : l.stackTraces = false) (dC : Nat → ClassId) (dI : Nat → Nat → Nat) (cI cZ cS cL : ClassId) (hs : HS) (o : Nat) (fl : Nat → Int64) (a : Nat → Nat) (sz : Nat) (M : Mem) (a1 : Int32) (a2 : Int32) (r : String ⊕ Int32) (kk : Int32) (hf : fX8_thingsIn M a1 a2 = some r) (hA9 : Ans ["java/lang/IndexOutOfBoundsException"] r kk) : Met l yL_thingsIn wsL_thingsIn ({ frames := 8, cells := 1, slots := 6, locals := 153 } : Room) (va_Pc [.ref (a 0), .int a1, .int a2, .ref o] (T9 (dC, dI) cI cZ cS cL ((wL cI cZ cS cL (fS hs) (fG hs) o fl a M) ++ RW cI cZ hs) sz)) (va_Qi (S := HS × (Nat → Int64)) (fun k u => k = kk ∧ u.1 = hs ∧ ∀ v, r = .inr v → u.2 0 = v.toInt64) (fun u t => WE (dC, dI) cI cZ ((wL cI cZ cS cL (fS u.1) (fG u.1) o u.2 a M) ++ RW cI cZ u.1) (va_A ((wL cI cZ cS cL (fS hs) (fG hs) o fl a M) ++ RW cI cZ hs) sz) t) (va_A ((wL cI cZ cS cL (fS hs) (fG hs) o fl a M) ++ RW cI cZ hs) sz)) 1 6 (va_A ((wL cI cZ cS cL (fS hs) (fG hs) o fl a M) ++ RW cI cZ hs) sz) := by
  refine va_MetW (cc := cL_thingsIn) (maxL := 5) (ret := (some .int)) (hh := [(0, 10, 13, 20)]) (by decide) rfl ?_
  intro p e s m args below meth c s₁ B hml hv
  obtain ⟨rfl, hsz, hP, hK, hD0, hNW, hEX, hNC⟩ := hv
  have hx := B.exec
  have hb := B.bytes
  have hr := B.returns
  have hts := atoms_spec (ws := wsL_thingsIn) B.pre
  have hown : s.vm.findClass RL = some m.cls := findClass_of_methodNamed B.named
  have htab : c.exceptionTable.toList = tableOf [(0, 10, 13, 20)] := vx_table (x := yL_law) B (hts (.codeWith yL_thingsIn cL_thingsIn 5 (some .int) [(0, 10, 13, 20)]) List.mem_cons_self)
  have hK8 : va_K (dC, dI) vwCl (tys8 cI cZ cS) s := hK.sub (tys' := tys8 cI cZ cS) [0, 1, 2] rfl
  have hcl20 := hts (.classLink RL 20 "java/lang/IndexOutOfBoundsException") (by decide +kernel)
  subst hsz
  have hD := hD0.self (sz := s.heap.size)
  generalize hAe : va_A ((wL cI cZ cS cL (fS hs) (fG hs) o fl a M) ++ RW cI cZ hs) s.heap.size = A at hD hEX ⊢
  have hA : ∀ q : Nat, s.heap.size ≤ q → A q := fun q h => by rw [← hAe]; exact Or.inr h
  have hS : va_S A s.heap s.heap [] := va_S.rf
  have hl := lv_entry ([.ref (a 0), .int a1, .int a2, .ref o]) (n := 5) (Nat.le_of_ble_eq_true rfl)
  rw [lg_entry_eq]
  generalize (lg_sl ([.ref (a 0), .int a1, .int a2, .ref o]) ++ List.replicate (5 - (lg_sl ([.ref (a 0), .int a1, .int a2, .ref o])).length) Slot.unset).toArray = ls at hl ⊢
  have hl : lv_has ls 5 [(0, .ref (a 0)), (1, .int a1), (2, .int a2), (3, .ref o)] := hl
  suffices hgo : ∀ (H : Heap) (locs : List Loc), va_P (dC, dI) vwCl ((wL cI cZ cS cL (fS hs) (fG hs) o fl a M) ++ RW cI cZ hs) H → va_D A ((wL cI cZ cS cL (fS hs) (fG hs) o fl a M) ++ RW cI cZ hs) → va_S A s.heap H locs → W p l e (headSpec wsL_thingsIn ({ frames := 8, cells := 1, slots := 6, locals := 153 } : Room)).room s m ([.ref (a 0), .int a1, .int a2, .ref o] : List Value).toArray below meth c H locs 0 0 (MQ below (va_Qi (S := HS × (Nat → Int64)) (fun k u => k = kk ∧ u.1 = hs ∧ ∀ v, r = .inr v → u.2 0 = v.toInt64) (fun u t => WE (dC, dI) cI cZ ((wL cI cZ cS cL (fS u.1) (fG u.1) o u.2 a M) ++ RW cI cZ u.1) A t) A) ([.ref (a 0), .int a1, .int a2, .ref o] : List Value).toArray s 1 6 A) (F0 m 0 ls []) from hgo _ _ hP hD hS
  intro H locs hP hD hS
  refine lv_aload_n hx hb dL_thingsIn_0 rfl (lv_at hl 3 rfl) ?_
  refine lv_iconst (v := (0 : Int32)) hx hb dL_thingsIn_1 (by decide) ?_
  refine lv_aload_n hx hb dL_thingsIn_2 rfl (lv_at hl 0 rfl) ?_
  refine lv_iload_n hx hb dL_thingsIn_3 rfl (lv_at hl 1 rfl) ?_
  refine lv_iload_n hx hb dL_thingsIn_4 rfl (lv_at hl 2 rfl) ?_
  have hPc := P_head (ws := (wL cI cZ cS cL (fS hs) (fG hs) o fl a M)) (ws' := (wX8 cI cZ cS (fS hs) (fG hs) a M)) hP [1, 2, 3, 4, 5, 6, 7, 8, 9, 10, 11, 12, 13, 14, 15, 16, 17, 18, 19, 20, 21, 22, 23, 24, 25, 26, 27, 28, 29, 30, 31, 32, 33, 34, 35, 36, 37, 38, 39, 40, 41, 42] rfl
  have hDc := D_head (ws := (wL cI cZ cS cL (fS hs) (fG hs) o fl a M)) (ws' := (wX8 cI cZ cS (fS hs) (fG hs) a M)) hD [1, 2, 3, 4, 5, 6, 7, 8, 9, 10, 11, 12, 13, 14, 15, 16, 17, 18, 19, 20, 21, 22, 23, 24, 25, 26, 27, 28, 29, 30, 31, 32, 33, 34, 35, 36, 37, 38, 39, 40, 41, 42] (by decide) rfl
  have hFc := va_free (wc := (wX8 cI cZ cS (fS hs) (fG hs) a M)) hD hS hA [1, 2, 3, 4, 5, 6, 7, 8, 9, 10, 11, 12, 13, 14, 15, 16, 17, 18, 19, 20, 21, 22, 23, 24, 25, 26, 27, 28, 29, 30, 31, 32, 33, 34, 35, 36, 37, 38, 39, 40, 41, 42] rfl
  rcases hA9 with ⟨v, hr9, hk9⟩ | ⟨i9, E9, hi9, hr9, hk9⟩
  · subst hr9
    subst hk9
    refine cRO (W.runV (As := [.int a1, .int a2]) (rest := [.int (0 : Int32), .ref o]) ⟨hx, hb, hml, hown, hts⟩ (n_X8_thingsIn l dC dI cI cZ cS (fS hs) (fG hs) a M a1 a2 v hf) (cwV 2 hts gL_thingsIn_X8_thingsIn rfl rfl rfl (by decide +kernel) ⟨Nat.le_of_ble_eq_true rfl, Nat.le_of_ble_eq_true rfl⟩) ⟨RO8.blind, va_recv hK hP (ci := 8) (q0 := 1) rfl rfl, RO8.pre hPc hK8 hNW⟩ rfl rfl hl.1 rfl (lv_room (Nat.le_of_ble_eq_true rfl)) dL_thingsIn_5 ⟨Nat.le_of_ble_eq_true rfl, Nat.le_of_ble_eq_true rfl⟩) ?_
    refine lv_i2l (v := v.toInt64) hx hb dL_thingsIn_8 rfl ?_
    refine va_last (D := (dC, dI)) (f := fl) hx hb hK hP hD hS 0 3 rfl rfl (inb_in rfl) dL_thingsIn_9 (fun H locs hP hD hS => ?_)
    have hP : va_P (dC, dI) vwCl ((wL cI cZ cS cL (fS hs) (fG hs) o (vp_updL fl 0 v.toInt64) a M) ++ RW cI cZ hs) H := hP
    have hD : va_D A ((wL cI cZ cS cL (fS hs) (fG hs) o (vp_updL fl 0 v.toInt64) a M) ++ RW cI cZ hs) := hD
    refine lv_goto (tgt := 17) hx hb dL_thingsIn_10 (by decide) ?_
    refine lv_iconst (v := (0 : Int32)) hx hb dL_thingsIn_17 (by decide) ?_
    refine W.widen (k := 1) (n := 6) (Nat.le_of_ble_eq_true rfl) (Nat.le_of_ble_eq_true rfl) ?_
    exact W.iret hx hb hr (fun t ht hW => ⟨⟨_, (hs, (vp_updL fl 0 v.toInt64)), rfl, ⟨rfl, rfl, fun v9 h9 => by cases h9; rfl⟩, WE.mk hP hD ht⟩, hS.F ht⟩) hS.2.2 dL_thingsIn_18
  · subst hr9
    refine vx_thrH (vx_runV (As := [.int a1, .int a2]) (rest := [.int (0 : Int32), .ref o]) ⟨hx, hb, hml, hown, hts⟩ (t_X8_thingsIn l hst dC dI cI cZ cS (fS hs) (fG hs) a _ M a1 a2 E9 hf) (cwV 2 hts gL_thingsIn_X8_thingsIn rfl rfl rfl (by decide +kernel) ⟨Nat.le_of_ble_eq_true rfl, Nat.le_of_ble_eq_true rfl⟩) ⟨T8.blind, va_recv hK hP (ci := 8) (q0 := 1) rfl rfl, T8.pre hPc hK8 hDc hNW (hEX.at hS hFc)⟩ rfl rfl hl.1 rfl (lv_room (Nat.le_of_ble_eq_true rfl)) dL_thingsIn_5 ⟨Nat.le_of_ble_eq_true rfl, Nat.le_of_ble_eq_true rfl⟩) hS (fun q _ h => hFc q h) hFc (fun ce q9 t H1 locs1 ht hal hP1 hD1 hz1 hk1 hS hce hcv hcl => ?_)
    obtain ⟨hP, hD⟩ := join_app (ws := (wL cI cZ cS cL (fS hs) (fG hs) o fl a M)) (wr := [(o, .inl (cL, 1, .inr (.inl fl)))]) (w1 := _) hP hD [1, 2, 3, 4, 5, 6, 7, 8, 9, 10, 11, 12, 13, 14, 15, 16, 17, 18, 19, 20, 21, 22, 23, 24, 25, 26, 27, 28, 29, 30, 31, 32, 33, 34, 35, 36, 37, 38, 39, 40, 41, 42] [0] rfl rfl (by decide) (by decide) hk1 hFc hP1 hD1
    have hP : va_P (dC, dI) vwCl ((wL cI cZ cS cL (fS hs) (fG hs) o fl a M) ++ RW cI cZ hs) H1 := hP
    have hD : va_D A ((wL cI cZ cS cL (fS hs) (fG hs) o fl a M) ++ RW cI cZ hs) := hD
    generalize H1 = H at hP hS hce ⊢
    rcases (show i9 = 0 by have h7 := (List.getElem?_eq_some_iff.mp hi9).1; simp only [List.length] at h7; omega) with rfl
    · cases hi9
      refine vx_catch (own := RL) (name := "java/lang/IndexOutOfBoundsException") hown [] ⟨0, 10, 13, 20⟩ [] htab (fun z hz => nomatch hz) rfl (by decide) hcl20 ((nc422 hNW).use rfl) hce hcv hcl ?_
      refine lv_astore (lv' := [(4, .ref q9), (0, .ref (a 0)), (1, .int a1), (2, .int a2), (3, .ref o)]) hx hb dL_thingsIn_13 hl (by decide) rfl (fun ls hl => ?_)
      refine lv_iconst (v := (1 : Int32)) hx hb dL_thingsIn_15 (by decide) ?_
      refine W.widen (k := 1) (n := 6) (Nat.le_of_ble_eq_true rfl) (Nat.le_of_ble_eq_true rfl) ?_
      exact W.iret hx hb hr (fun t ht hW => ⟨⟨_, (hs, fl), rfl, ⟨hk9.symm, rfl, fun v9 h9 => by cases h9⟩, WE.mk hP hD ht⟩, hS.F ht⟩) hS.2.2 dL_thingsIn_16
set_option maxHeartbeats 4000000 in
set_option maxRecDepth 100000 in
theorem w_L_weightOf (l : Launch) (hst : l.stackTraces = false) (dC : Nat → ClassId) (dI : Nat → Nat → Nat) (cI cZ cS cL : ClassId) (hs : HS) (o : Nat) (fl : Nat → Int64) (a : Nat → Nat) (sz : Nat) (M : Mem) (a1 : Int32) (r : String ⊕ Int32) (kk : Int32) (hf : fX8_weightOf M a1 = some r) (hA9 : Ans ["java/lang/IndexOutOfBoundsException"] r kk) : Met l yL_weightOf wsL_weightOf ({ frames := 8, cells := 1, slots := 6, locals := 152 } : Room) (va_Pc [.ref (a 0), .int a1, .ref o] (T9 (dC, dI) cI cZ cS cL ((wL cI cZ cS cL (fS hs) (fG hs) o fl a M) ++ RW cI cZ hs) sz)) (va_Qi (S := HS × (Nat → Int64)) (fun k u => k = kk ∧ u.1 = hs ∧ ∀ v, r = .inr v → u.2 0 = v.toInt64) (fun u t => WE (dC, dI) cI cZ ((wL cI cZ cS cL (fS u.1) (fG u.1) o u.2 a M) ++ RW cI cZ u.1) (va_A ((wL cI cZ cS cL (fS hs) (fG hs) o fl a M) ++ RW cI cZ hs) sz) t) (va_A ((wL cI cZ cS cL (fS hs) (fG hs) o fl a M) ++ RW cI cZ hs) sz)) 1 6 (va_A ((wL cI cZ cS cL (fS hs) (fG hs) o fl a M) ++ RW cI cZ hs) sz) := by
  refine va_MetW (cc := cL_weightOf) (maxL := 4) (ret := (some .int)) (hh := [(0, 9, 12, 20)]) (by decide) rfl ?_
  intro p e s m args below meth c s₁ B hml hv
  obtain ⟨rfl, hsz, hP, hK, hD0, hNW, hEX, hNC⟩ := hv
  have hx := B.exec
  have hb := B.bytes
  have hr := B.returns
  have hts := atoms_spec (ws := wsL_weightOf) B.pre
  have hown : s.vm.findClass RL = some m.cls := findClass_of_methodNamed B.named
  have htab : c.exceptionTable.toList = tableOf [(0, 9, 12, 20)] := vx_table (x := yL_law) B (hts (.codeWith yL_weightOf cL_weightOf 4 (some .int) [(0, 9, 12, 20)]) List.mem_cons_self)
  have hK8 : va_K (dC, dI) vwCl (tys8 cI cZ cS) s := hK.sub (tys' := tys8 cI cZ cS) [0, 1, 2] rfl
  have hcl20 := hts (.classLink RL 20 "java/lang/IndexOutOfBoundsException") (by decide +kernel)
  subst hsz
  have hD := hD0.self (sz := s.heap.size)
  generalize hAe : va_A ((wL cI cZ cS cL (fS hs) (fG hs) o fl a M) ++ RW cI cZ hs) s.heap.size = A at hD hEX ⊢
  have hA : ∀ q : Nat, s.heap.size ≤ q → A q := fun q h => by rw [← hAe]; exact Or.inr h
  have hS : va_S A s.heap s.heap [] := va_S.rf
  have hl := lv_entry ([.ref (a 0), .int a1, .ref o]) (n := 4) (Nat.le_of_ble_eq_true rfl)
  rw [lg_entry_eq]
  generalize (lg_sl ([.ref (a 0), .int a1, .ref o]) ++ List.replicate (4 - (lg_sl ([.ref (a 0), .int a1, .ref o])).length) Slot.unset).toArray = ls at hl ⊢
  have hl : lv_has ls 4 [(0, .ref (a 0)), (1, .int a1), (2, .ref o)] := hl
  suffices hgo : ∀ (H : Heap) (locs : List Loc), va_P (dC, dI) vwCl ((wL cI cZ cS cL (fS hs) (fG hs) o fl a M) ++ RW cI cZ hs) H → va_D A ((wL cI cZ cS cL (fS hs) (fG hs) o fl a M) ++ RW cI cZ hs) → va_S A s.heap H locs → W p l e (headSpec wsL_weightOf ({ frames := 8, cells := 1, slots := 6, locals := 152 } : Room)).room s m ([.ref (a 0), .int a1, .ref o] : List Value).toArray below meth c H locs 0 0 (MQ below (va_Qi (S := HS × (Nat → Int64)) (fun k u => k = kk ∧ u.1 = hs ∧ ∀ v, r = .inr v → u.2 0 = v.toInt64) (fun u t => WE (dC, dI) cI cZ ((wL cI cZ cS cL (fS u.1) (fG u.1) o u.2 a M) ++ RW cI cZ u.1) A t) A) ([.ref (a 0), .int a1, .ref o] : List Value).toArray s 1 6 A) (F0 m 0 ls []) from hgo _ _ hP hD hS
  intro H locs hP hD hS
  refine lv_aload_n hx hb dL_weightOf_0 rfl (lv_at hl 2 rfl) ?_
  refine lv_iconst (v := (0 : Int32)) hx hb dL_weightOf_1 (by decide) ?_
  refine lv_aload_n hx hb dL_weightOf_2 rfl (lv_at hl 0 rfl) ?_
  refine lv_iload_n hx hb dL_weightOf_3 rfl (lv_at hl 1 rfl) ?_
  have hPc := P_head (ws := (wL cI cZ cS cL (fS hs) (fG hs) o fl a M)) (ws' := (wX8 cI cZ cS (fS hs) (fG hs) a M)) hP [1, 2, 3, 4, 5, 6, 7, 8, 9, 10, 11, 12, 13, 14, 15, 16, 17, 18, 19, 20, 21, 22, 23, 24, 25, 26, 27, 28, 29, 30, 31, 32, 33, 34, 35, 36, 37, 38, 39, 40, 41, 42] rfl
  have hDc := D_head (ws := (wL cI cZ cS cL (fS hs) (fG hs) o fl a M)) (ws' := (wX8 cI cZ cS (fS hs) (fG hs) a M)) hD [1, 2, 3, 4, 5, 6, 7, 8, 9, 10, 11, 12, 13, 14, 15, 16, 17, 18, 19, 20, 21, 22, 23, 24, 25, 26, 27, 28, 29, 30, 31, 32, 33, 34, 35, 36, 37, 38, 39, 40, 41, 42] (by decide) rfl
  have hFc := va_free (wc := (wX8 cI cZ cS (fS hs) (fG hs) a M)) hD hS hA [1, 2, 3, 4, 5, 6, 7, 8, 9, 10, 11, 12, 13, 14, 15, 16, 17, 18, 19, 20, 21, 22, 23, 24, 25, 26, 27, 28, 29, 30, 31, 32, 33, 34, 35, 36, 37, 38, 39, 40, 41, 42] rfl
  rcases hA9 with ⟨v, hr9, hk9⟩ | ⟨i9, E9, hi9, hr9, hk9⟩
  · subst hr9
    subst hk9
    refine cRO (W.runV (As := [.int a1]) (rest := [.int (0 : Int32), .ref o]) ⟨hx, hb, hml, hown, hts⟩ (n_X8_weightOf l dC dI cI cZ cS (fS hs) (fG hs) a M a1 v hf) (cwV 1 hts gL_weightOf_X8_weightOf rfl rfl rfl (by decide +kernel) ⟨Nat.le_of_ble_eq_true rfl, Nat.le_of_ble_eq_true rfl⟩) ⟨RO8.blind, va_recv hK hP (ci := 8) (q0 := 1) rfl rfl, RO8.pre hPc hK8 hNW⟩ rfl rfl hl.1 rfl (lv_room (Nat.le_of_ble_eq_true rfl)) dL_weightOf_4 ⟨Nat.le_of_ble_eq_true rfl, Nat.le_of_ble_eq_true rfl⟩) ?_
    refine lv_i2l (v := v.toInt64) hx hb dL_weightOf_7 rfl ?_
    refine va_last (D := (dC, dI)) (f := fl) hx hb hK hP hD hS 0 3 rfl rfl (inb_in rfl) dL_weightOf_8 (fun H locs hP hD hS => ?_)
    have hP : va_P (dC, dI) vwCl ((wL cI cZ cS cL (fS hs) (fG hs) o (vp_updL fl 0 v.toInt64) a M) ++ RW cI cZ hs) H := hP
    have hD : va_D A ((wL cI cZ cS cL (fS hs) (fG hs) o (vp_updL fl 0 v.toInt64) a M) ++ RW cI cZ hs) := hD
    refine lv_goto (tgt := 15) hx hb dL_weightOf_9 (by decide) ?_
    refine lv_iconst (v := (0 : Int32)) hx hb dL_weightOf_15 (by decide) ?_
    refine W.widen (k := 1) (n := 6) (Nat.le_of_ble_eq_true rfl) (Nat.le_of_ble_eq_true rfl) ?_
    exact W.iret hx hb hr (fun t ht hW => ⟨⟨_, (hs, (vp_updL fl 0 v.toInt64)), rfl, ⟨rfl, rfl, fun v9 h9 => by cases h9; rfl⟩, WE.mk hP hD ht⟩, hS.F ht⟩) hS.2.2 dL_weightOf_16
  · subst hr9
    refine vx_thrH (vx_runV (As := [.int a1]) (rest := [.int (0 : Int32), .ref o]) ⟨hx, hb, hml, hown, hts⟩ (t_X8_weightOf l hst dC dI cI cZ cS (fS hs) (fG hs) a _ M a1 E9 hf) (cwV 1 hts gL_weightOf_X8_weightOf rfl rfl rfl (by decide +kernel) ⟨Nat.le_of_ble_eq_true rfl, Nat.le_of_ble_eq_true rfl⟩) ⟨T8.blind, va_recv hK hP (ci := 8) (q0 := 1) rfl rfl, T8.pre hPc hK8 hDc hNW (hEX.at hS hFc)⟩ rfl rfl hl.1 rfl (lv_room (Nat.le_of_ble_eq_true rfl)) dL_weightOf_4 ⟨Nat.le_of_ble_eq_true rfl, Nat.le_of_ble_eq_true rfl⟩) hS (fun q _ h => hFc q h) hFc (fun ce q9 t H1 locs1 ht hal hP1 hD1 hz1 hk1 hS hce hcv hcl => ?_)
    obtain ⟨hP, hD⟩ := join_app (ws := (wL cI cZ cS cL (fS hs) (fG hs) o fl a M)) (wr := [(o, .inl (cL, 1, .inr (.inl fl)))]) (w1 := _) hP hD [1, 2, 3, 4, 5, 6, 7, 8, 9, 10, 11, 12, 13, 14, 15, 16, 17, 18, 19, 20, 21, 22, 23, 24, 25, 26, 27, 28, 29, 30, 31, 32, 33, 34, 35, 36, 37, 38, 39, 40, 41, 42] [0] rfl rfl (by decide) (by decide) hk1 hFc hP1 hD1
    have hP : va_P (dC, dI) vwCl ((wL cI cZ cS cL (fS hs) (fG hs) o fl a M) ++ RW cI cZ hs) H1 := hP
    have hD : va_D A ((wL cI cZ cS cL (fS hs) (fG hs) o fl a M) ++ RW cI cZ hs) := hD
    generalize H1 = H at hP hS hce ⊢
    rcases (show i9 = 0 by have h7 := (List.getElem?_eq_some_iff.mp hi9).1; simp only [List.length] at h7; omega) with rfl
    · cases hi9
      refine vx_catch (own := RL) (name := "java/lang/IndexOutOfBoundsException") hown [] ⟨0, 9, 12, 20⟩ [] htab (fun z hz => nomatch hz) rfl (by decide) hcl20 ((nc422 hNW).use rfl) hce hcv hcl ?_
      refine lv_astore_n (lv' := [(3, .ref q9), (0, .ref (a 0)), (1, .int a1), (2, .ref o)]) hx hb dL_weightOf_12 rfl hl (by decide) rfl (fun ls hl => ?_)
      refine lv_iconst (v := (1 : Int32)) hx hb dL_weightOf_13 (by decide) ?_
      refine W.widen (k := 1) (n := 6) (Nat.le_of_ble_eq_true rfl) (Nat.le_of_ble_eq_true rfl) ?_
      exact W.iret hx hb hr (fun t ht hW => ⟨⟨_, (hs, fl), rfl, ⟨hk9.symm, rfl, fun v9 h9 => by cases h9⟩, WE.mk hP hD ht⟩, hS.F ht⟩) hS.2.2 dL_weightOf_14
set_option maxHeartbeats 4000000 in
set_option maxRecDepth 100000 in
theorem w_L_fetchesOf (l : Launch) (hst : l.stackTraces = false) (dC : Nat → ClassId) (dI : Nat → Nat → Nat) (cI cZ cS cL : ClassId) (hs : HS) (o : Nat) (fl : Nat → Int64) (a : Nat → Nat) (sz : Nat) (M : Mem) (a1 : Int32) (r : String ⊕ Int32) (kk : Int32) (hf : fX8_fetchesOf M a1 = some r) (hA9 : Ans ["java/lang/IndexOutOfBoundsException"] r kk) : Met l yL_fetchesOf wsL_fetchesOf ({ frames := 8, cells := 1, slots := 6, locals := 152 } : Room) (va_Pc [.ref (a 0), .int a1, .ref o] (T9 (dC, dI) cI cZ cS cL ((wL cI cZ cS cL (fS hs) (fG hs) o fl a M) ++ RW cI cZ hs) sz)) (va_Qi (S := HS × (Nat → Int64)) (fun k u => k = kk ∧ u.1 = hs ∧ ∀ v, r = .inr v → u.2 0 = v.toInt64) (fun u t => WE (dC, dI) cI cZ ((wL cI cZ cS cL (fS u.1) (fG u.1) o u.2 a M) ++ RW cI cZ u.1) (va_A ((wL cI cZ cS cL (fS hs) (fG hs) o fl a M) ++ RW cI cZ hs) sz) t) (va_A ((wL cI cZ cS cL (fS hs) (fG hs) o fl a M) ++ RW cI cZ hs) sz)) 1 6 (va_A ((wL cI cZ cS cL (fS hs) (fG hs) o fl a M) ++ RW cI cZ hs) sz) := by
  refine va_MetW (cc := cL_fetchesOf) (maxL := 4) (ret := (some .int)) (hh := [(0, 9, 12, 20)]) (by decide) rfl ?_
  intro p e s m args below meth c s₁ B hml hv
  obtain ⟨rfl, hsz, hP, hK, hD0, hNW, hEX, hNC⟩ := hv
  have hx := B.exec
  have hb := B.bytes
  have hr := B.returns
  have hts := atoms_spec (ws := wsL_fetchesOf) B.pre
  have hown : s.vm.findClass RL = some m.cls := findClass_of_methodNamed B.named
  have htab : c.exceptionTable.toList = tableOf [(0, 9, 12, 20)] := vx_table (x := yL_law) B (hts (.codeWith yL_fetchesOf cL_fetchesOf 4 (some .int) [(0, 9, 12, 20)]) List.mem_cons_self)
  have hK8 : va_K (dC, dI) vwCl (tys8 cI cZ cS) s := hK.sub (tys' := tys8 cI cZ cS) [0, 1, 2] rfl
  have hcl20 := hts (.classLink RL 20 "java/lang/IndexOutOfBoundsException") (by decide +kernel)
  subst hsz
  have hD := hD0.self (sz := s.heap.size)
  generalize hAe : va_A ((wL cI cZ cS cL (fS hs) (fG hs) o fl a M) ++ RW cI cZ hs) s.heap.size = A at hD hEX ⊢
  have hA : ∀ q : Nat, s.heap.size ≤ q → A q := fun q h => by rw [← hAe]; exact Or.inr h
  have hS : va_S A s.heap s.heap [] := va_S.rf
  have hl := lv_entry ([.ref (a 0), .int a1, .ref o]) (n := 4) (Nat.le_of_ble_eq_true rfl)
  rw [lg_entry_eq]
  generalize (lg_sl ([.ref (a 0), .int a1, .ref o]) ++ List.replicate (4 - (lg_sl ([.ref (a 0), .int a1, .ref o])).length) Slot.unset).toArray = ls at hl ⊢
  have hl : lv_has ls 4 [(0, .ref (a 0)), (1, .int a1), (2, .ref o)] := hl
  suffices hgo : ∀ (H : Heap) (locs : List Loc), va_P (dC, dI) vwCl ((wL cI cZ cS cL (fS hs) (fG hs) o fl a M) ++ RW cI cZ hs) H → va_D A ((wL cI cZ cS cL (fS hs) (fG hs) o fl a M) ++ RW cI cZ hs) → va_S A s.heap H locs → W p l e (headSpec wsL_fetchesOf ({ frames := 8, cells := 1, slots := 6, locals := 152 } : Room)).room s m ([.ref (a 0), .int a1, .ref o] : List Value).toArray below meth c H locs 0 0 (MQ below (va_Qi (S := HS × (Nat → Int64)) (fun k u => k = kk ∧ u.1 = hs ∧ ∀ v, r = .inr v → u.2 0 = v.toInt64) (fun u t => WE (dC, dI) cI cZ ((wL cI cZ cS cL (fS u.1) (fG u.1) o u.2 a M) ++ RW cI cZ u.1) A t) A) ([.ref (a 0), .int a1, .ref o] : List Value).toArray s 1 6 A) (F0 m 0 ls []) from hgo _ _ hP hD hS
  intro H locs hP hD hS
  refine lv_aload_n hx hb dL_fetchesOf_0 rfl (lv_at hl 2 rfl) ?_
  refine lv_iconst (v := (0 : Int32)) hx hb dL_fetchesOf_1 (by decide) ?_
  refine lv_aload_n hx hb dL_fetchesOf_2 rfl (lv_at hl 0 rfl) ?_
  refine lv_iload_n hx hb dL_fetchesOf_3 rfl (lv_at hl 1 rfl) ?_
  have hPc := P_head (ws := (wL cI cZ cS cL (fS hs) (fG hs) o fl a M)) (ws' := (wX8 cI cZ cS (fS hs) (fG hs) a M)) hP [1, 2, 3, 4, 5, 6, 7, 8, 9, 10, 11, 12, 13, 14, 15, 16, 17, 18, 19, 20, 21, 22, 23, 24, 25, 26, 27, 28, 29, 30, 31, 32, 33, 34, 35, 36, 37, 38, 39, 40, 41, 42] rfl
  have hDc := D_head (ws := (wL cI cZ cS cL (fS hs) (fG hs) o fl a M)) (ws' := (wX8 cI cZ cS (fS hs) (fG hs) a M)) hD [1, 2, 3, 4, 5, 6, 7, 8, 9, 10, 11, 12, 13, 14, 15, 16, 17, 18, 19, 20, 21, 22, 23, 24, 25, 26, 27, 28, 29, 30, 31, 32, 33, 34, 35, 36, 37, 38, 39, 40, 41, 42] (by decide) rfl
  have hFc := va_free (wc := (wX8 cI cZ cS (fS hs) (fG hs) a M)) hD hS hA [1, 2, 3, 4, 5, 6, 7, 8, 9, 10, 11, 12, 13, 14, 15, 16, 17, 18, 19, 20, 21, 22, 23, 24, 25, 26, 27, 28, 29, 30, 31, 32, 33, 34, 35, 36, 37, 38, 39, 40, 41, 42] rfl
  rcases hA9 with ⟨v, hr9, hk9⟩ | ⟨i9, E9, hi9, hr9, hk9⟩
  · subst hr9
    subst hk9
    refine cRO (W.runV (As := [.int a1]) (rest := [.int (0 : Int32), .ref o]) ⟨hx, hb, hml, hown, hts⟩ (n_X8_fetchesOf l dC dI cI cZ cS (fS hs) (fG hs) a M a1 v hf) (cwV 1 hts gL_fetchesOf_X8_fetchesOf rfl rfl rfl (by decide +kernel) ⟨Nat.le_of_ble_eq_true rfl, Nat.le_of_ble_eq_true rfl⟩) ⟨RO8.blind, va_recv hK hP (ci := 8) (q0 := 1) rfl rfl, RO8.pre hPc hK8 hNW⟩ rfl rfl hl.1 rfl (lv_room (Nat.le_of_ble_eq_true rfl)) dL_fetchesOf_4 ⟨Nat.le_of_ble_eq_true rfl, Nat.le_of_ble_eq_true rfl⟩) ?_
    refine lv_i2l (v := v.toInt64) hx hb dL_fetchesOf_7 rfl ?_
    refine va_last (D := (dC, dI)) (f := fl) hx hb hK hP hD hS 0 3 rfl rfl (inb_in rfl) dL_fetchesOf_8 (fun H locs hP hD hS => ?_)
    have hP : va_P (dC, dI) vwCl ((wL cI cZ cS cL (fS hs) (fG hs) o (vp_updL fl 0 v.toInt64) a M) ++ RW cI cZ hs) H := hP
    have hD : va_D A ((wL cI cZ cS cL (fS hs) (fG hs) o (vp_updL fl 0 v.toInt64) a M) ++ RW cI cZ hs) := hD
    refine lv_goto (tgt := 15) hx hb dL_fetchesOf_9 (by decide) ?_
    refine lv_iconst (v := (0 : Int32)) hx hb dL_fetchesOf_15 (by decide) ?_
    refine W.widen (k := 1) (n := 6) (Nat.le_of_ble_eq_true rfl) (Nat.le_of_ble_eq_true rfl) ?_
    exact W.iret hx hb hr (fun t ht hW => ⟨⟨_, (hs, (vp_updL fl 0 v.toInt64)), rfl, ⟨rfl, rfl, fun v9 h9 => by cases h9; rfl⟩, WE.mk hP hD ht⟩, hS.F ht⟩) hS.2.2 dL_fetchesOf_16
  · subst hr9
    refine vx_thrH (vx_runV (As := [.int a1]) (rest := [.int (0 : Int32), .ref o]) ⟨hx, hb, hml, hown, hts⟩ (t_X8_fetchesOf l hst dC dI cI cZ cS (fS hs) (fG hs) a _ M a1 E9 hf) (cwV 1 hts gL_fetchesOf_X8_fetchesOf rfl rfl rfl (by decide +kernel) ⟨Nat.le_of_ble_eq_true rfl, Nat.le_of_ble_eq_true rfl⟩) ⟨T8.blind, va_recv hK hP (ci := 8) (q0 := 1) rfl rfl, T8.pre hPc hK8 hDc hNW (hEX.at hS hFc)⟩ rfl rfl hl.1 rfl (lv_room (Nat.le_of_ble_eq_true rfl)) dL_fetchesOf_4 ⟨Nat.le_of_ble_eq_true rfl, Nat.le_of_ble_eq_true rfl⟩) hS (fun q _ h => hFc q h) hFc (fun ce q9 t H1 locs1 ht hal hP1 hD1 hz1 hk1 hS hce hcv hcl => ?_)
    obtain ⟨hP, hD⟩ := join_app (ws := (wL cI cZ cS cL (fS hs) (fG hs) o fl a M)) (wr := [(o, .inl (cL, 1, .inr (.inl fl)))]) (w1 := _) hP hD [1, 2, 3, 4, 5, 6, 7, 8, 9, 10, 11, 12, 13, 14, 15, 16, 17, 18, 19, 20, 21, 22, 23, 24, 25, 26, 27, 28, 29, 30, 31, 32, 33, 34, 35, 36, 37, 38, 39, 40, 41, 42] [0] rfl rfl (by decide) (by decide) hk1 hFc hP1 hD1
    have hP : va_P (dC, dI) vwCl ((wL cI cZ cS cL (fS hs) (fG hs) o fl a M) ++ RW cI cZ hs) H1 := hP
    have hD : va_D A ((wL cI cZ cS cL (fS hs) (fG hs) o fl a M) ++ RW cI cZ hs) := hD
    generalize H1 = H at hP hS hce ⊢
    rcases (show i9 = 0 by have h7 := (List.getElem?_eq_some_iff.mp hi9).1; simp only [List.length] at h7; omega) with rfl
    · cases hi9
      refine vx_catch (own := RL) (name := "java/lang/IndexOutOfBoundsException") hown [] ⟨0, 9, 12, 20⟩ [] htab (fun z hz => nomatch hz) rfl (by decide) hcl20 ((nc422 hNW).use rfl) hce hcv hcl ?_
      refine lv_astore_n (lv' := [(3, .ref q9), (0, .ref (a 0)), (1, .int a1), (2, .ref o)]) hx hb dL_fetchesOf_12 rfl hl (by decide) rfl (fun ls hl => ?_)
      refine lv_iconst (v := (1 : Int32)) hx hb dL_fetchesOf_13 (by decide) ?_
      refine W.widen (k := 1) (n := 6) (Nat.le_of_ble_eq_true rfl) (Nat.le_of_ble_eq_true rfl) ?_
      exact W.iret hx hb hr (fun t ht hW => ⟨⟨_, (hs, fl), rfl, ⟨hk9.symm, rfl, fun v9 h9 => by cases h9⟩, WE.mk hP hD ht⟩, hS.F ht⟩) hS.2.2 dL_fetchesOf_14
set_option maxHeartbeats 4000000 in
set_option maxRecDepth 100000 in
theorem w_L_atWindow (l : Launch) (hst : l.stackTraces = false) (dC : Nat → ClassId) (dI : Nat → Nat → Nat) (cI cZ cS cL : ClassId) (hs : HS) (o : Nat) (fl : Nat → Int64) (a : Nat → Nat) (sz : Nat) (M : Mem) (r : String ⊕ Int32) (kk : Int32) (hf : fX8_atWindow M  = some r) (hA9 : Ans ["java/lang/IllegalStateException"] r kk) : Met l yL_atWindow wsL_atWindow ({ frames := 8, cells := 1, slots := 6, locals := 150 } : Room) (va_Pc [.ref (a 0), .ref o] (T9 (dC, dI) cI cZ cS cL ((wL cI cZ cS cL (fS hs) (fG hs) o fl a M) ++ RW cI cZ hs) sz)) (va_Qi (S := HS × (Nat → Int64)) (fun k u => k = kk ∧ u.1 = hs ∧ ∀ v, r = .inr v → u.2 0 = v.toInt64) (fun u t => WE (dC, dI) cI cZ ((wL cI cZ cS cL (fS u.1) (fG u.1) o u.2 a M) ++ RW cI cZ u.1) (va_A ((wL cI cZ cS cL (fS hs) (fG hs) o fl a M) ++ RW cI cZ hs) sz) t) (va_A ((wL cI cZ cS cL (fS hs) (fG hs) o fl a M) ++ RW cI cZ hs) sz)) 1 6 (va_A ((wL cI cZ cS cL (fS hs) (fG hs) o fl a M) ++ RW cI cZ hs) sz) := by
  refine va_MetW (cc := cL_atWindow) (maxL := 3) (ret := (some .int)) (hh := [(0, 8, 11, 15)]) (by decide) rfl ?_
  intro p e s m args below meth c s₁ B hml hv
  obtain ⟨rfl, hsz, hP, hK, hD0, hNW, hEX, hNC⟩ := hv
  have hx := B.exec
  have hb := B.bytes
  have hr := B.returns
  have hts := atoms_spec (ws := wsL_atWindow) B.pre
  have hown : s.vm.findClass RL = some m.cls := findClass_of_methodNamed B.named
  have htab : c.exceptionTable.toList = tableOf [(0, 8, 11, 15)] := vx_table (x := yL_law) B (hts (.codeWith yL_atWindow cL_atWindow 3 (some .int) [(0, 8, 11, 15)]) List.mem_cons_self)
  have hK8 : va_K (dC, dI) vwCl (tys8 cI cZ cS) s := hK.sub (tys' := tys8 cI cZ cS) [0, 1, 2] rfl
  have hcl15 := hts (.classLink RL 15 "java/lang/IllegalStateException") (by decide +kernel)
  subst hsz
  have hD := hD0.self (sz := s.heap.size)
  generalize hAe : va_A ((wL cI cZ cS cL (fS hs) (fG hs) o fl a M) ++ RW cI cZ hs) s.heap.size = A at hD hEX ⊢
  have hA : ∀ q : Nat, s.heap.size ≤ q → A q := fun q h => by rw [← hAe]; exact Or.inr h
  have hS : va_S A s.heap s.heap [] := va_S.rf
  have hl := lv_entry ([.ref (a 0), .ref o]) (n := 3) (Nat.le_of_ble_eq_true rfl)
  rw [lg_entry_eq]
  generalize (lg_sl ([.ref (a 0), .ref o]) ++ List.replicate (3 - (lg_sl ([.ref (a 0), .ref o])).length) Slot.unset).toArray = ls at hl ⊢
  have hl : lv_has ls 3 [(0, .ref (a 0)), (1, .ref o)] := hl
  suffices hgo : ∀ (H : Heap) (locs : List Loc), va_P (dC, dI) vwCl ((wL cI cZ cS cL (fS hs) (fG hs) o fl a M) ++ RW cI cZ hs) H → va_D A ((wL cI cZ cS cL (fS hs) (fG hs) o fl a M) ++ RW cI cZ hs) → va_S A s.heap H locs → W p l e (headSpec wsL_atWindow ({ frames := 8, cells := 1, slots := 6, locals := 150 } : Room)).room s m ([.ref (a 0), .ref o] : List Value).toArray below meth c H locs 0 0 (MQ below (va_Qi (S := HS × (Nat → Int64)) (fun k u => k = kk ∧ u.1 = hs ∧ ∀ v, r = .inr v → u.2 0 = v.toInt64) (fun u t => WE (dC, dI) cI cZ ((wL cI cZ cS cL (fS u.1) (fG u.1) o u.2 a M) ++ RW cI cZ u.1) A t) A) ([.ref (a 0), .ref o] : List Value).toArray s 1 6 A) (F0 m 0 ls []) from hgo _ _ hP hD hS
  intro H locs hP hD hS
  refine lv_aload_n hx hb dL_atWindow_0 rfl (lv_at hl 1 rfl) ?_
  refine lv_iconst (v := (0 : Int32)) hx hb dL_atWindow_1 (by decide) ?_
  refine lv_aload_n hx hb dL_atWindow_2 rfl (lv_at hl 0 rfl) ?_
  have hPc := P_head (ws := (wL cI cZ cS cL (fS hs) (fG hs) o fl a M)) (ws' := (wX8 cI cZ cS (fS hs) (fG hs) a M)) hP [1, 2, 3, 4, 5, 6, 7, 8, 9, 10, 11, 12, 13, 14, 15, 16, 17, 18, 19, 20, 21, 22, 23, 24, 25, 26, 27, 28, 29, 30, 31, 32, 33, 34, 35, 36, 37, 38, 39, 40, 41, 42] rfl
  have hDc := D_head (ws := (wL cI cZ cS cL (fS hs) (fG hs) o fl a M)) (ws' := (wX8 cI cZ cS (fS hs) (fG hs) a M)) hD [1, 2, 3, 4, 5, 6, 7, 8, 9, 10, 11, 12, 13, 14, 15, 16, 17, 18, 19, 20, 21, 22, 23, 24, 25, 26, 27, 28, 29, 30, 31, 32, 33, 34, 35, 36, 37, 38, 39, 40, 41, 42] (by decide) rfl
  have hFc := va_free (wc := (wX8 cI cZ cS (fS hs) (fG hs) a M)) hD hS hA [1, 2, 3, 4, 5, 6, 7, 8, 9, 10, 11, 12, 13, 14, 15, 16, 17, 18, 19, 20, 21, 22, 23, 24, 25, 26, 27, 28, 29, 30, 31, 32, 33, 34, 35, 36, 37, 38, 39, 40, 41, 42] rfl
  rcases hA9 with ⟨v, hr9, hk9⟩ | ⟨i9, E9, hi9, hr9, hk9⟩
  · subst hr9
    subst hk9
    refine cRO (W.runV (As := []) (rest := [.int (0 : Int32), .ref o]) ⟨hx, hb, hml, hown, hts⟩ (n_X8_atWindow l dC dI cI cZ cS (fS hs) (fG hs) a M v hf) (cwV 0 hts gL_atWindow_X8_atWindow rfl rfl rfl (by decide +kernel) ⟨Nat.le_of_ble_eq_true rfl, Nat.le_of_ble_eq_true rfl⟩) ⟨RO8.blind, va_recv hK hP (ci := 8) (q0 := 1) rfl rfl, RO8.pre hPc hK8 hNW⟩ rfl rfl hl.1 rfl (lv_room (Nat.le_of_ble_eq_true rfl)) dL_atWindow_3 ⟨Nat.le_of_ble_eq_true rfl, Nat.le_of_ble_eq_true rfl⟩) ?_
    refine lv_i2l (v := v.toInt64) hx hb dL_atWindow_6 rfl ?_
    refine va_last (D := (dC, dI)) (f := fl) hx hb hK hP hD hS 0 3 rfl rfl (inb_in rfl) dL_atWindow_7 (fun H locs hP hD hS => ?_)
    have hP : va_P (dC, dI) vwCl ((wL cI cZ cS cL (fS hs) (fG hs) o (vp_updL fl 0 v.toInt64) a M) ++ RW cI cZ hs) H := hP
    have hD : va_D A ((wL cI cZ cS cL (fS hs) (fG hs) o (vp_updL fl 0 v.toInt64) a M) ++ RW cI cZ hs) := hD
    refine lv_goto (tgt := 14) hx hb dL_atWindow_8 (by decide) ?_
    refine lv_iconst (v := (0 : Int32)) hx hb dL_atWindow_14 (by decide) ?_
    refine W.widen (k := 1) (n := 6) (Nat.le_of_ble_eq_true rfl) (Nat.le_of_ble_eq_true rfl) ?_
    exact W.iret hx hb hr (fun t ht hW => ⟨⟨_, (hs, (vp_updL fl 0 v.toInt64)), rfl, ⟨rfl, rfl, fun v9 h9 => by cases h9; rfl⟩, WE.mk hP hD ht⟩, hS.F ht⟩) hS.2.2 dL_atWindow_15
  · subst hr9
    refine vx_thrH (vx_runV (As := []) (rest := [.int (0 : Int32), .ref o]) ⟨hx, hb, hml, hown, hts⟩ (t_X8_atWindow l hst dC dI cI cZ cS (fS hs) (fG hs) a _ M E9 hf) (cwV 0 hts gL_atWindow_X8_atWindow rfl rfl rfl (by decide +kernel) ⟨Nat.le_of_ble_eq_true rfl, Nat.le_of_ble_eq_true rfl⟩) ⟨T8.blind, va_recv hK hP (ci := 8) (q0 := 1) rfl rfl, T8.pre hPc hK8 hDc hNW (hEX.at hS hFc)⟩ rfl rfl hl.1 rfl (lv_room (Nat.le_of_ble_eq_true rfl)) dL_atWindow_3 ⟨Nat.le_of_ble_eq_true rfl, Nat.le_of_ble_eq_true rfl⟩) hS (fun q _ h => hFc q h) hFc (fun ce q9 t H1 locs1 ht hal hP1 hD1 hz1 hk1 hS hce hcv hcl => ?_)
    obtain ⟨hP, hD⟩ := join_app (ws := (wL cI cZ cS cL (fS hs) (fG hs) o fl a M)) (wr := [(o, .inl (cL, 1, .inr (.inl fl)))]) (w1 := _) hP hD [1, 2, 3, 4, 5, 6, 7, 8, 9, 10, 11, 12, 13, 14, 15, 16, 17, 18, 19, 20, 21, 22, 23, 24, 25, 26, 27, 28, 29, 30, 31, 32, 33, 34, 35, 36, 37, 38, 39, 40, 41, 42] [0] rfl rfl (by decide) (by decide) hk1 hFc hP1 hD1
    have hP : va_P (dC, dI) vwCl ((wL cI cZ cS cL (fS hs) (fG hs) o fl a M) ++ RW cI cZ hs) H1 := hP
    have hD : va_D A ((wL cI cZ cS cL (fS hs) (fG hs) o fl a M) ++ RW cI cZ hs) := hD
    generalize H1 = H at hP hS hce ⊢
    rcases (show i9 = 0 by have h7 := (List.getElem?_eq_some_iff.mp hi9).1; simp only [List.length] at h7; omega) with rfl
    · cases hi9
      refine vx_catch (own := RL) (name := "java/lang/IllegalStateException") hown [] ⟨0, 8, 11, 15⟩ [] htab (fun z hz => nomatch hz) rfl (by decide) hcl15 ((nc58 hNW).use rfl) hce hcv hcl ?_
      refine lv_astore_n (lv' := [(2, .ref q9), (0, .ref (a 0)), (1, .ref o)]) hx hb dL_atWindow_11 rfl hl (by decide) rfl (fun ls hl => ?_)
      refine lv_iconst (v := (1 : Int32)) hx hb dL_atWindow_12 (by decide) ?_
      refine W.widen (k := 1) (n := 6) (Nat.le_of_ble_eq_true rfl) (Nat.le_of_ble_eq_true rfl) ?_
      exact W.iret hx hb hr (fun t ht hW => ⟨⟨_, (hs, fl), rfl, ⟨hk9.symm, rfl, fun v9 h9 => by cases h9⟩, WE.mk hP hD ht⟩, hS.F ht⟩) hS.2.2 dL_atWindow_13
set_option maxHeartbeats 4000000 in
set_option maxRecDepth 100000 in
theorem w_L_isFree (l : Launch) (hst : l.stackTraces = false) (dC : Nat → ClassId) (dI : Nat → Nat → Nat) (cI cZ cS cL : ClassId) (hs : HS) (o : Nat) (fl : Nat → Int64) (a : Nat → Nat) (sz : Nat) (M : Mem) (a1 : Int32) (a2 : Int32) (r : String ⊕ Int32) (kk : Int32) (hf : fX8_isFree M a1 a2 = some r) (hA9 : Ans ["java/lang/IndexOutOfBoundsException"] r kk) : Met l yL_isFree wsL_isFree ({ frames := 9, cells := 1, slots := 6, locals := 175 } : Room) (va_Pc [.ref (a 0), .int a1, .int a2, .ref o] (T9 (dC, dI) cI cZ cS cL ((wL cI cZ cS cL (fS hs) (fG hs) o fl a M) ++ RW cI cZ hs) sz)) (va_Qi (S := HS × (Nat → Int64)) (fun k u => k = kk ∧ u.1 = hs ∧ ∀ v, r = .inr v → u.2 0 = cvZ v) (fun u t => WE (dC, dI) cI cZ ((wL cI cZ cS cL (fS u.1) (fG u.1) o u.2 a M) ++ RW cI cZ u.1) (va_A ((wL cI cZ cS cL (fS hs) (fG hs) o fl a M) ++ RW cI cZ hs) sz) t) (va_A ((wL cI cZ cS cL (fS hs) (fG hs) o fl a M) ++ RW cI cZ hs) sz)) 1 6 (va_A ((wL cI cZ cS cL (fS hs) (fG hs) o fl a M) ++ RW cI cZ hs) sz) := by
  refine va_MetW (cc := cL_isFree) (maxL := 5) (ret := (some .int)) (hh := [(0, 17, 20, 20)]) (by decide) rfl ?_
  intro p e s m args below meth c s₁ B hml hv
  obtain ⟨rfl, hsz, hP, hK, hD0, hNW, hEX, hNC⟩ := hv
  have hx := B.exec
  have hb := B.bytes
  have hr := B.returns
  have hts := atoms_spec (ws := wsL_isFree) B.pre
  have hown : s.vm.findClass RL = some m.cls := findClass_of_methodNamed B.named
  have htab : c.exceptionTable.toList = tableOf [(0, 17, 20, 20)] := vx_table (x := yL_law) B (hts (.codeWith yL_isFree cL_isFree 5 (some .int) [(0, 17, 20, 20)]) List.mem_cons_self)
  have hK8 : va_K (dC, dI) vwCl (tys8 cI cZ cS) s := hK.sub (tys' := tys8 cI cZ cS) [0, 1, 2] rfl
  have hcl20 := hts (.classLink RL 20 "java/lang/IndexOutOfBoundsException") (by decide +kernel)
  subst hsz
  have hD := hD0.self (sz := s.heap.size)
  generalize hAe : va_A ((wL cI cZ cS cL (fS hs) (fG hs) o fl a M) ++ RW cI cZ hs) s.heap.size = A at hD hEX ⊢
  have hA : ∀ q : Nat, s.heap.size ≤ q → A q := fun q h => by rw [← hAe]; exact Or.inr h
  have hS : va_S A s.heap s.heap [] := va_S.rf
  have hl := lv_entry ([.ref (a 0), .int a1, .int a2, .ref o]) (n := 5) (Nat.le_of_ble_eq_true rfl)
  rw [lg_entry_eq]
  generalize (lg_sl ([.ref (a 0), .int a1, .int a2, .ref o]) ++ List.replicate (5 - (lg_sl ([.ref (a 0), .int a1, .int a2, .ref o])).length) Slot.unset).toArray = ls at hl ⊢
  have hl : lv_has ls 5 [(0, .ref (a 0)), (1, .int a1), (2, .int a2), (3, .ref o)] := hl
  suffices hgo : ∀ (H : Heap) (locs : List Loc), va_P (dC, dI) vwCl ((wL cI cZ cS cL (fS hs) (fG hs) o fl a M) ++ RW cI cZ hs) H → va_D A ((wL cI cZ cS cL (fS hs) (fG hs) o fl a M) ++ RW cI cZ hs) → va_S A s.heap H locs → W p l e (headSpec wsL_isFree ({ frames := 9, cells := 1, slots := 6, locals := 175 } : Room)).room s m ([.ref (a 0), .int a1, .int a2, .ref o] : List Value).toArray below meth c H locs 0 0 (MQ below (va_Qi (S := HS × (Nat → Int64)) (fun k u => k = kk ∧ u.1 = hs ∧ ∀ v, r = .inr v → u.2 0 = cvZ v) (fun u t => WE (dC, dI) cI cZ ((wL cI cZ cS cL (fS u.1) (fG u.1) o u.2 a M) ++ RW cI cZ u.1) A t) A) ([.ref (a 0), .int a1, .int a2, .ref o] : List Value).toArray s 1 6 A) (F0 m 0 ls []) from hgo _ _ hP hD hS
  intro H locs hP hD hS
  refine lv_aload_n hx hb dL_isFree_0 rfl (lv_at hl 3 rfl) ?_
  refine lv_iconst (v := (0 : Int32)) hx hb dL_isFree_1 (by decide) ?_
  refine lv_aload_n hx hb dL_isFree_2 rfl (lv_at hl 0 rfl) ?_
  refine lv_iload_n hx hb dL_isFree_3 rfl (lv_at hl 1 rfl) ?_
  refine lv_iload_n hx hb dL_isFree_4 rfl (lv_at hl 2 rfl) ?_
  have hPc := P_head (ws := (wL cI cZ cS cL (fS hs) (fG hs) o fl a M)) (ws' := (wX8 cI cZ cS (fS hs) (fG hs) a M)) hP [1, 2, 3, 4, 5, 6, 7, 8, 9, 10, 11, 12, 13, 14, 15, 16, 17, 18, 19, 20, 21, 22, 23, 24, 25, 26, 27, 28, 29, 30, 31, 32, 33, 34, 35, 36, 37, 38, 39, 40, 41, 42] rfl
  have hDc := D_head (ws := (wL cI cZ cS cL (fS hs) (fG hs) o fl a M)) (ws' := (wX8 cI cZ cS (fS hs) (fG hs) a M)) hD [1, 2, 3, 4, 5, 6, 7, 8, 9, 10, 11, 12, 13, 14, 15, 16, 17, 18, 19, 20, 21, 22, 23, 24, 25, 26, 27, 28, 29, 30, 31, 32, 33, 34, 35, 36, 37, 38, 39, 40, 41, 42] (by decide) rfl
  have hFc := va_free (wc := (wX8 cI cZ cS (fS hs) (fG hs) a M)) hD hS hA [1, 2, 3, 4, 5, 6, 7, 8, 9, 10, 11, 12, 13, 14, 15, 16, 17, 18, 19, 20, 21, 22, 23, 24, 25, 26, 27, 28, 29, 30, 31, 32, 33, 34, 35, 36, 37, 38, 39, 40, 41, 42] rfl
  rcases hA9 with ⟨v, hr9, hk9⟩ | ⟨i9, E9, hi9, hr9, hk9⟩
  · subst hr9
    subst hk9
    refine cRO (W.runV (As := [.int a1, .int a2]) (rest := [.int (0 : Int32), .ref o]) ⟨hx, hb, hml, hown, hts⟩ (n_X8_isFree l dC dI cI cZ cS (fS hs) (fG hs) a M a1 a2 v hf) (cwV 2 hts gL_isFree_X8_isFree rfl rfl rfl (by decide +kernel) ⟨Nat.le_of_ble_eq_true rfl, Nat.le_of_ble_eq_true rfl⟩) ⟨RO8.blind, va_recv hK hP (ci := 8) (q0 := 1) rfl rfl, RO8.pre hPc hK8 hNW⟩ rfl rfl hl.1 rfl (lv_room (Nat.le_of_ble_eq_true rfl)) dL_isFree_5 ⟨Nat.le_of_ble_eq_true rfl, Nat.le_of_ble_eq_true rfl⟩) ?_
    refine lv_if_eq (tgt := 15) hx hb dL_isFree_8 (by decide) (fun c9 => ?_) (fun c9 => ?_)
    · refine lv_lconst (v := (0 : Int64)) hx hb dL_isFree_15 (by decide) ?_
      refine va_last (D := (dC, dI)) (f := fl) hx hb hK hP hD hS 0 3 rfl rfl (inb_in rfl) dL_isFree_16 (fun H locs hP hD hS => ?_)
      have hP : va_P (dC, dI) vwCl ((wL cI cZ cS cL (fS hs) (fG hs) o (vp_updL fl 0 (0 : Int64)) a M) ++ RW cI cZ hs) H := hP
      have hD : va_D A ((wL cI cZ cS cL (fS hs) (fG hs) o (vp_updL fl 0 (0 : Int64)) a M) ++ RW cI cZ hs) := hD
      refine lv_goto (tgt := 24) hx hb dL_isFree_17 (by decide) ?_
      refine lv_iconst (v := (0 : Int32)) hx hb dL_isFree_24 (by decide) ?_
      refine W.widen (k := 1) (n := 6) (Nat.le_of_ble_eq_true rfl) (Nat.le_of_ble_eq_true rfl) ?_
      exact W.iret hx hb hr (fun t ht hW => ⟨⟨_, (hs, (vp_updL fl 0 (0 : Int64))), rfl, ⟨rfl, rfl, fun v9 h9 => by cases h9; exact (if_pos c9).symm⟩, WE.mk hP hD ht⟩, hS.F ht⟩) hS.2.2 dL_isFree_25
    · refine lv_lconst (v := (1 : Int64)) hx hb dL_isFree_11 (by decide) ?_
      refine lv_goto (tgt := 16) hx hb dL_isFree_12 (by decide) ?_
      refine va_last (D := (dC, dI)) (f := fl) hx hb hK hP hD hS 0 3 rfl rfl (inb_in rfl) dL_isFree_16 (fun H locs hP hD hS => ?_)
      have hP : va_P (dC, dI) vwCl ((wL cI cZ cS cL (fS hs) (fG hs) o (vp_updL fl 0 (1 : Int64)) a M) ++ RW cI cZ hs) H := hP
      have hD : va_D A ((wL cI cZ cS cL (fS hs) (fG hs) o (vp_updL fl 0 (1 : Int64)) a M) ++ RW cI cZ hs) := hD
      refine lv_goto (tgt := 24) hx hb dL_isFree_17 (by decide) ?_
      refine lv_iconst (v := (0 : Int32)) hx hb dL_isFree_24 (by decide) ?_
      refine W.widen (k := 1) (n := 6) (Nat.le_of_ble_eq_true rfl) (Nat.le_of_ble_eq_true rfl) ?_
      exact W.iret hx hb hr (fun t ht hW => ⟨⟨_, (hs, (vp_updL fl 0 (1 : Int64))), rfl, ⟨rfl, rfl, fun v9 h9 => by cases h9; exact (if_neg c9).symm⟩, WE.mk hP hD ht⟩, hS.F ht⟩) hS.2.2 dL_isFree_25
  · subst hr9
    refine vx_thrH (vx_runV (As := [.int a1, .int a2]) (rest := [.int (0 : Int32), .ref o]) ⟨hx, hb, hml, hown, hts⟩ (t_X8_isFree l hst dC dI cI cZ cS (fS hs) (fG hs) a _ M a1 a2 E9 hf) (cwV 2 hts gL_isFree_X8_isFree rfl rfl rfl (by decide +kernel) ⟨Nat.le_of_ble_eq_true rfl, Nat.le_of_ble_eq_true rfl⟩) ⟨T8.blind, va_recv hK hP (ci := 8) (q0 := 1) rfl rfl, T8.pre hPc hK8 hDc hNW (hEX.at hS hFc)⟩ rfl rfl hl.1 rfl (lv_room (Nat.le_of_ble_eq_true rfl)) dL_isFree_5 ⟨Nat.le_of_ble_eq_true rfl, Nat.le_of_ble_eq_true rfl⟩) hS (fun q _ h => hFc q h) hFc (fun ce q9 t H1 locs1 ht hal hP1 hD1 hz1 hk1 hS hce hcv hcl => ?_)
    obtain ⟨hP, hD⟩ := join_app (ws := (wL cI cZ cS cL (fS hs) (fG hs) o fl a M)) (wr := [(o, .inl (cL, 1, .inr (.inl fl)))]) (w1 := _) hP hD [1, 2, 3, 4, 5, 6, 7, 8, 9, 10, 11, 12, 13, 14, 15, 16, 17, 18, 19, 20, 21, 22, 23, 24, 25, 26, 27, 28, 29, 30, 31, 32, 33, 34, 35, 36, 37, 38, 39, 40, 41, 42] [0] rfl rfl (by decide) (by decide) hk1 hFc hP1 hD1
    have hP : va_P (dC, dI) vwCl ((wL cI cZ cS cL (fS hs) (fG hs) o fl a M) ++ RW cI cZ hs) H1 := hP
    have hD : va_D A ((wL cI cZ cS cL (fS hs) (fG hs) o fl a M) ++ RW cI cZ hs) := hD
    generalize H1 = H at hP hS hce ⊢
    rcases (show i9 = 0 by have h7 := (List.getElem?_eq_some_iff.mp hi9).1; simp only [List.length] at h7; omega) with rfl
    · cases hi9
      refine vx_catch (own := RL) (name := "java/lang/IndexOutOfBoundsException") hown [] ⟨0, 17, 20, 20⟩ [] htab (fun z hz => nomatch hz) rfl (by decide) hcl20 ((nc422 hNW).use rfl) hce hcv hcl ?_
      refine lv_astore (lv' := [(4, .ref q9), (0, .ref (a 0)), (1, .int a1), (2, .int a2), (3, .ref o)]) hx hb dL_isFree_20 hl (by decide) rfl (fun ls hl => ?_)
      refine lv_iconst (v := (1 : Int32)) hx hb dL_isFree_22 (by decide) ?_
      refine W.widen (k := 1) (n := 6) (Nat.le_of_ble_eq_true rfl) (Nat.le_of_ble_eq_true rfl) ?_
      exact W.iret hx hb hr (fun t ht hW => ⟨⟨_, (hs, fl), rfl, ⟨hk9.symm, rfl, fun v9 h9 => by cases h9⟩, WE.mk hP hD ht⟩, hS.F ht⟩) hS.2.2 dL_isFree_23
set_option maxHeartbeats 4000000 in
set_option maxRecDepth 100000 in
theorem w_L_shelfAt (l : Launch) (hst : l.stackTraces = false) (dC : Nat → ClassId) (dI : Nat → Nat → Nat) (cI cZ cS cL : ClassId) (hs : HS) (o : Nat) (fl : Nat → Int64) (a : Nat → Nat) (sz : Nat) (M : Mem) (a1 : Int32) (a2 : Int32) (r : String ⊕ Int32) (kk : Int32) (hf : fX8_shelfAt M a1 a2 = some r) (hA9 : Ans ["java/lang/IndexOutOfBoundsException", "java/lang/IllegalStateException"] r kk) : Met l yL_shelfAt wsL_shelfAt ({ frames := 9, cells := 1, slots := 6, locals := 176 } : Room) (va_Pc [.ref (a 0), .int a1, .int a2, .ref o] (T9 (dC, dI) cI cZ cS cL ((wL cI cZ cS cL (fS hs) (fG hs) o fl a M) ++ RW cI cZ hs) sz)) (va_Qi (S := HS × (Nat → Int64)) (fun k u => k = kk ∧ u.1 = hs ∧ ∀ v, r = .inr v → u.2 0 = v.toInt64) (fun u t => WE (dC, dI) cI cZ ((wL cI cZ cS cL (fS u.1) (fG u.1) o u.2 a M) ++ RW cI cZ u.1) (va_A ((wL cI cZ cS cL (fS hs) (fG hs) o fl a M) ++ RW cI cZ hs) sz) t) (va_A ((wL cI cZ cS cL (fS hs) (fG hs) o fl a M) ++ RW cI cZ hs) sz)) 1 6 (va_A ((wL cI cZ cS cL (fS hs) (fG hs) o fl a M) ++ RW cI cZ hs) sz) := by
  refine va_MetW (cc := cL_shelfAt) (maxL := 5) (ret := (some .int)) (hh := [(0, 10, 13, 20), (0, 10, 17, 15)]) (by decide) rfl ?_
  intro p e s m args below meth c s₁ B hml hv
  obtain ⟨rfl, hsz, hP, hK, hD0, hNW, hEX, hNC⟩ := hv
  have hx := B.exec
  have hb := B.bytes
  have hr := B.returns
  have hts := atoms_spec (ws := wsL_shelfAt) B.pre
  have hown : s.vm.findClass RL = some m.cls := findClass_of_methodNamed B.named
  have htab : c.exceptionTable.toList = tableOf [(0, 10, 13, 20), (0, 10, 17, 15)] := vx_table (x := yL_law) B (hts (.codeWith yL_shelfAt cL_shelfAt 5 (some .int) [(0, 10, 13, 20), (0, 10, 17, 15)]) List.mem_cons_self)
  have hK8 : va_K (dC, dI) vwCl (tys8 cI cZ cS) s := hK.sub (tys' := tys8 cI cZ cS) [0, 1, 2] rfl
  have hcl20 := hts (.classLink RL 20 "java/lang/IndexOutOfBoundsException") (by decide +kernel)
  have hcl15 := hts (.classLink RL 15 "java/lang/IllegalStateException") (by decide +kernel)
  subst hsz
  have hD := hD0.self (sz := s.heap.size)
  generalize hAe : va_A ((wL cI cZ cS cL (fS hs) (fG hs) o fl a M) ++ RW cI cZ hs) s.heap.size = A at hD hEX ⊢
  have hA : ∀ q : Nat, s.heap.size ≤ q → A q := fun q h => by rw [← hAe]; exact Or.inr h
  have hS : va_S A s.heap s.heap [] := va_S.rf
  have hl := lv_entry ([.ref (a 0), .int a1, .int a2, .ref o]) (n := 5) (Nat.le_of_ble_eq_true rfl)
  rw [lg_entry_eq]
  generalize (lg_sl ([.ref (a 0), .int a1, .int a2, .ref o]) ++ List.replicate (5 - (lg_sl ([.ref (a 0), .int a1, .int a2, .ref o])).length) Slot.unset).toArray = ls at hl ⊢
  have hl : lv_has ls 5 [(0, .ref (a 0)), (1, .int a1), (2, .int a2), (3, .ref o)] := hl
  suffices hgo : ∀ (H : Heap) (locs : List Loc), va_P (dC, dI) vwCl ((wL cI cZ cS cL (fS hs) (fG hs) o fl a M) ++ RW cI cZ hs) H → va_D A ((wL cI cZ cS cL (fS hs) (fG hs) o fl a M) ++ RW cI cZ hs) → va_S A s.heap H locs → W p l e (headSpec wsL_shelfAt ({ frames := 9, cells := 1, slots := 6, locals := 176 } : Room)).room s m ([.ref (a 0), .int a1, .int a2, .ref o] : List Value).toArray below meth c H locs 0 0 (MQ below (va_Qi (S := HS × (Nat → Int64)) (fun k u => k = kk ∧ u.1 = hs ∧ ∀ v, r = .inr v → u.2 0 = v.toInt64) (fun u t => WE (dC, dI) cI cZ ((wL cI cZ cS cL (fS u.1) (fG u.1) o u.2 a M) ++ RW cI cZ u.1) A t) A) ([.ref (a 0), .int a1, .int a2, .ref o] : List Value).toArray s 1 6 A) (F0 m 0 ls []) from hgo _ _ hP hD hS
  intro H locs hP hD hS
  refine lv_aload_n hx hb dL_shelfAt_0 rfl (lv_at hl 3 rfl) ?_
  refine lv_iconst (v := (0 : Int32)) hx hb dL_shelfAt_1 (by decide) ?_
  refine lv_aload_n hx hb dL_shelfAt_2 rfl (lv_at hl 0 rfl) ?_
  refine lv_iload_n hx hb dL_shelfAt_3 rfl (lv_at hl 1 rfl) ?_
  refine lv_iload_n hx hb dL_shelfAt_4 rfl (lv_at hl 2 rfl) ?_
  have hPc := P_head (ws := (wL cI cZ cS cL (fS hs) (fG hs) o fl a M)) (ws' := (wX8 cI cZ cS (fS hs) (fG hs) a M)) hP [1, 2, 3, 4, 5, 6, 7, 8, 9, 10, 11, 12, 13, 14, 15, 16, 17, 18, 19, 20, 21, 22, 23, 24, 25, 26, 27, 28, 29, 30, 31, 32, 33, 34, 35, 36, 37, 38, 39, 40, 41, 42] rfl
  have hDc := D_head (ws := (wL cI cZ cS cL (fS hs) (fG hs) o fl a M)) (ws' := (wX8 cI cZ cS (fS hs) (fG hs) a M)) hD [1, 2, 3, 4, 5, 6, 7, 8, 9, 10, 11, 12, 13, 14, 15, 16, 17, 18, 19, 20, 21, 22, 23, 24, 25, 26, 27, 28, 29, 30, 31, 32, 33, 34, 35, 36, 37, 38, 39, 40, 41, 42] (by decide) rfl
  have hFc := va_free (wc := (wX8 cI cZ cS (fS hs) (fG hs) a M)) hD hS hA [1, 2, 3, 4, 5, 6, 7, 8, 9, 10, 11, 12, 13, 14, 15, 16, 17, 18, 19, 20, 21, 22, 23, 24, 25, 26, 27, 28, 29, 30, 31, 32, 33, 34, 35, 36, 37, 38, 39, 40, 41, 42] rfl
  rcases hA9 with ⟨v, hr9, hk9⟩ | ⟨i9, E9, hi9, hr9, hk9⟩
  · subst hr9
    subst hk9
    refine cRO (W.runV (As := [.int a1, .int a2]) (rest := [.int (0 : Int32), .ref o]) ⟨hx, hb, hml, hown, hts⟩ (n_X8_shelfAt l dC dI cI cZ cS (fS hs) (fG hs) a M a1 a2 v hf) (cwV 2 hts gL_shelfAt_X8_shelfAt rfl rfl rfl (by decide +kernel) ⟨Nat.le_of_ble_eq_true rfl, Nat.le_of_ble_eq_true rfl⟩) ⟨RO8.blind, va_recv hK hP (ci := 8) (q0 := 1) rfl rfl, RO8.pre hPc hK8 hNW⟩ rfl rfl hl.1 rfl (lv_room (Nat.le_of_ble_eq_true rfl)) dL_shelfAt_5 ⟨Nat.le_of_ble_eq_true rfl, Nat.le_of_ble_eq_true rfl⟩) ?_
    refine lv_i2l (v := v.toInt64) hx hb dL_shelfAt_8 rfl ?_
    refine va_last (D := (dC, dI)) (f := fl) hx hb hK hP hD hS 0 3 rfl rfl (inb_in rfl) dL_shelfAt_9 (fun H locs hP hD hS => ?_)
    have hP : va_P (dC, dI) vwCl ((wL cI cZ cS cL (fS hs) (fG hs) o (vp_updL fl 0 v.toInt64) a M) ++ RW cI cZ hs) H := hP
    have hD : va_D A ((wL cI cZ cS cL (fS hs) (fG hs) o (vp_updL fl 0 v.toInt64) a M) ++ RW cI cZ hs) := hD
    refine lv_goto (tgt := 21) hx hb dL_shelfAt_10 (by decide) ?_
    refine lv_iconst (v := (0 : Int32)) hx hb dL_shelfAt_21 (by decide) ?_
    refine W.widen (k := 1) (n := 6) (Nat.le_of_ble_eq_true rfl) (Nat.le_of_ble_eq_true rfl) ?_
    exact W.iret hx hb hr (fun t ht hW => ⟨⟨_, (hs, (vp_updL fl 0 v.toInt64)), rfl, ⟨rfl, rfl, fun v9 h9 => by cases h9; rfl⟩, WE.mk hP hD ht⟩, hS.F ht⟩) hS.2.2 dL_shelfAt_22
  · subst hr9
    refine vx_thrH (vx_runV (As := [.int a1, .int a2]) (rest := [.int (0 : Int32), .ref o]) ⟨hx, hb, hml, hown, hts⟩ (t_X8_shelfAt l hst dC dI cI cZ cS (fS hs) (fG hs) a _ M a1 a2 E9 hf) (cwV 2 hts gL_shelfAt_X8_shelfAt rfl rfl rfl (by decide +kernel) ⟨Nat.le_of_ble_eq_true rfl, Nat.le_of_ble_eq_true rfl⟩) ⟨T8.blind, va_recv hK hP (ci := 8) (q0 := 1) rfl rfl, T8.pre hPc hK8 hDc hNW (hEX.at hS hFc)⟩ rfl rfl hl.1 rfl (lv_room (Nat.le_of_ble_eq_true rfl)) dL_shelfAt_5 ⟨Nat.le_of_ble_eq_true rfl, Nat.le_of_ble_eq_true rfl⟩) hS (fun q _ h => hFc q h) hFc (fun ce q9 t H1 locs1 ht hal hP1 hD1 hz1 hk1 hS hce hcv hcl => ?_)
    obtain ⟨hP, hD⟩ := join_app (ws := (wL cI cZ cS cL (fS hs) (fG hs) o fl a M)) (wr := [(o, .inl (cL, 1, .inr (.inl fl)))]) (w1 := _) hP hD [1, 2, 3, 4, 5, 6, 7, 8, 9, 10, 11, 12, 13, 14, 15, 16, 17, 18, 19, 20, 21, 22, 23, 24, 25, 26, 27, 28, 29, 30, 31, 32, 33, 34, 35, 36, 37, 38, 39, 40, 41, 42] [0] rfl rfl (by decide) (by decide) hk1 hFc hP1 hD1
    have hP : va_P (dC, dI) vwCl ((wL cI cZ cS cL (fS hs) (fG hs) o fl a M) ++ RW cI cZ hs) H1 := hP
    have hD : va_D A ((wL cI cZ cS cL (fS hs) (fG hs) o fl a M) ++ RW cI cZ hs) := hD
    generalize H1 = H at hP hS hce ⊢
    rcases (show i9 = 0 ∨ i9 = 1 by have h7 := (List.getElem?_eq_some_iff.mp hi9).1; simp only [List.length] at h7; omega) with rfl | rfl
    · cases hi9
      refine vx_catch (own := RL) (name := "java/lang/IndexOutOfBoundsException") hown [] ⟨0, 10, 13, 20⟩ [⟨0, 10, 17, 15⟩] htab (fun z hz => nomatch hz) rfl (by decide) hcl20 ((nc422 hNW).use rfl) hce hcv hcl ?_
      refine lv_astore (lv' := [(4, .ref q9), (0, .ref (a 0)), (1, .int a1), (2, .int a2), (3, .ref o)]) hx hb dL_shelfAt_13 hl (by decide) rfl (fun ls hl => ?_)
      refine lv_iconst (v := (1 : Int32)) hx hb dL_shelfAt_15 (by decide) ?_
      refine W.widen (k := 1) (n := 6) (Nat.le_of_ble_eq_true rfl) (Nat.le_of_ble_eq_true rfl) ?_
      exact W.iret hx hb hr (fun t ht hW => ⟨⟨_, (hs, fl), rfl, ⟨hk9.symm, rfl, fun v9 h9 => by cases h9⟩, WE.mk hP hD ht⟩, hS.F ht⟩) hS.2.2 dL_shelfAt_16
    · cases hi9
      refine vx_catch (own := RL) (name := "java/lang/IllegalStateException") hown [⟨0, 10, 13, 20⟩] ⟨0, 10, 17, 15⟩ [] htab (fun z hz => by
      rcases (show z = ⟨0, 10, 13, 20⟩ by simpa using hz) with rfl
      · exact Or.inr ⟨by decide, "java/lang/IndexOutOfBoundsException", hcl20, hNC ("java/lang/IllegalStateException", "java/lang/IndexOutOfBoundsException") (List.mem_of_getElem? (i := 1) rfl)⟩) rfl (by decide) hcl15 ((nc58 hNW).use rfl) hce hcv hcl ?_
      refine lv_astore (lv' := [(4, .ref q9), (0, .ref (a 0)), (1, .int a1), (2, .int a2), (3, .ref o)]) hx hb dL_shelfAt_17 hl (by decide) rfl (fun ls hl => ?_)
      refine lv_iconst (v := (2 : Int32)) hx hb dL_shelfAt_19 (by decide) ?_
      refine W.widen (k := 1) (n := 6) (Nat.le_of_ble_eq_true rfl) (Nat.le_of_ble_eq_true rfl) ?_
      exact W.iret hx hb hr (fun t ht hW => ⟨⟨_, (hs, fl), rfl, ⟨hk9.symm, rfl, fun v9 h9 => by cases h9⟩, WE.mk hP hD ht⟩, hS.F ht⟩) hS.2.2 dL_shelfAt_20
set_option maxHeartbeats 4000000 in
set_option maxRecDepth 100000 in
theorem w_L_firstPlace (l : Launch) (hst : l.stackTraces = false) (dC : Nat → ClassId) (dI : Nat → Nat → Nat) (cI cZ cS cL : ClassId) (hs : HS) (o : Nat) (fl : Nat → Int64) (a : Nat → Nat) (sz : Nat) (M : Mem) (a1 : Int32) (r : String ⊕ Int32) (kk : Int32) (hf : fX8_firstPlace M a1 = some r) (hA9 : Ans ["java/lang/IllegalArgumentException", "java/lang/IllegalStateException"] r kk) : Met l yL_firstPlace wsL_firstPlace ({ frames := 8, cells := 1, slots := 6, locals := 153 } : Room) (va_Pc [.ref (a 0), .int a1, .ref o] (T9 (dC, dI) cI cZ cS cL ((wL cI cZ cS cL (fS hs) (fG hs) o fl a M) ++ RW cI cZ hs) sz)) (va_Qi (S := HS × (Nat → Int64)) (fun k u => k = kk ∧ u.1 = hs ∧ ∀ v, r = .inr v → u.2 0 = v.toInt64) (fun u t => WE (dC, dI) cI cZ ((wL cI cZ cS cL (fS u.1) (fG u.1) o u.2 a M) ++ RW cI cZ u.1) (va_A ((wL cI cZ cS cL (fS hs) (fG hs) o fl a M) ++ RW cI cZ hs) sz) t) (va_A ((wL cI cZ cS cL (fS hs) (fG hs) o fl a M) ++ RW cI cZ hs) sz)) 1 6 (va_A ((wL cI cZ cS cL (fS hs) (fG hs) o fl a M) ++ RW cI cZ hs) sz) := by
  refine va_MetW (cc := cL_firstPlace) (maxL := 4) (ret := (some .int)) (hh := [(0, 9, 12, 13), (0, 9, 15, 15)]) (by decide) rfl ?_
  intro p e s m args below meth c s₁ B hml hv
  obtain ⟨rfl, hsz, hP, hK, hD0, hNW, hEX, hNC⟩ := hv
  have hx := B.exec
  have hb := B.bytes
  have hr := B.returns
  have hts := atoms_spec (ws := wsL_firstPlace) B.pre
  have hown : s.vm.findClass RL = some m.cls := findClass_of_methodNamed B.named
  have htab : c.exceptionTable.toList = tableOf [(0, 9, 12, 13), (0, 9, 15, 15)] := vx_table (x := yL_law) B (hts (.codeWith yL_firstPlace cL_firstPlace 4 (some .int) [(0, 9, 12, 13), (0, 9, 15, 15)]) List.mem_cons_self)
  have hK8 : va_K (dC, dI) vwCl (tys8 cI cZ cS) s := hK.sub (tys' := tys8 cI cZ cS) [0, 1, 2] rfl
  have hcl13 := hts (.classLink RL 13 "java/lang/IllegalArgumentException") (by decide +kernel)
  have hcl15 := hts (.classLink RL 15 "java/lang/IllegalStateException") (by decide +kernel)
  subst hsz
  have hD := hD0.self (sz := s.heap.size)
  generalize hAe : va_A ((wL cI cZ cS cL (fS hs) (fG hs) o fl a M) ++ RW cI cZ hs) s.heap.size = A at hD hEX ⊢
  have hA : ∀ q : Nat, s.heap.size ≤ q → A q := fun q h => by rw [← hAe]; exact Or.inr h
  have hS : va_S A s.heap s.heap [] := va_S.rf
  have hl := lv_entry ([.ref (a 0), .int a1, .ref o]) (n := 4) (Nat.le_of_ble_eq_true rfl)
  rw [lg_entry_eq]
  generalize (lg_sl ([.ref (a 0), .int a1, .ref o]) ++ List.replicate (4 - (lg_sl ([.ref (a 0), .int a1, .ref o])).length) Slot.unset).toArray = ls at hl ⊢
  have hl : lv_has ls 4 [(0, .ref (a 0)), (1, .int a1), (2, .ref o)] := hl
  suffices hgo : ∀ (H : Heap) (locs : List Loc), va_P (dC, dI) vwCl ((wL cI cZ cS cL (fS hs) (fG hs) o fl a M) ++ RW cI cZ hs) H → va_D A ((wL cI cZ cS cL (fS hs) (fG hs) o fl a M) ++ RW cI cZ hs) → va_S A s.heap H locs → W p l e (headSpec wsL_firstPlace ({ frames := 8, cells := 1, slots := 6, locals := 153 } : Room)).room s m ([.ref (a 0), .int a1, .ref o] : List Value).toArray below meth c H locs 0 0 (MQ below (va_Qi (S := HS × (Nat → Int64)) (fun k u => k = kk ∧ u.1 = hs ∧ ∀ v, r = .inr v → u.2 0 = v.toInt64) (fun u t => WE (dC, dI) cI cZ ((wL cI cZ cS cL (fS u.1) (fG u.1) o u.2 a M) ++ RW cI cZ u.1) A t) A) ([.ref (a 0), .int a1, .ref o] : List Value).toArray s 1 6 A) (F0 m 0 ls []) from hgo _ _ hP hD hS
  intro H locs hP hD hS
  refine lv_aload_n hx hb dL_firstPlace_0 rfl (lv_at hl 2 rfl) ?_
  refine lv_iconst (v := (0 : Int32)) hx hb dL_firstPlace_1 (by decide) ?_
  refine lv_aload_n hx hb dL_firstPlace_2 rfl (lv_at hl 0 rfl) ?_
  refine lv_iload_n hx hb dL_firstPlace_3 rfl (lv_at hl 1 rfl) ?_
  have hPc := P_head (ws := (wL cI cZ cS cL (fS hs) (fG hs) o fl a M)) (ws' := (wX8 cI cZ cS (fS hs) (fG hs) a M)) hP [1, 2, 3, 4, 5, 6, 7, 8, 9, 10, 11, 12, 13, 14, 15, 16, 17, 18, 19, 20, 21, 22, 23, 24, 25, 26, 27, 28, 29, 30, 31, 32, 33, 34, 35, 36, 37, 38, 39, 40, 41, 42] rfl
  have hDc := D_head (ws := (wL cI cZ cS cL (fS hs) (fG hs) o fl a M)) (ws' := (wX8 cI cZ cS (fS hs) (fG hs) a M)) hD [1, 2, 3, 4, 5, 6, 7, 8, 9, 10, 11, 12, 13, 14, 15, 16, 17, 18, 19, 20, 21, 22, 23, 24, 25, 26, 27, 28, 29, 30, 31, 32, 33, 34, 35, 36, 37, 38, 39, 40, 41, 42] (by decide) rfl
  have hFc := va_free (wc := (wX8 cI cZ cS (fS hs) (fG hs) a M)) hD hS hA [1, 2, 3, 4, 5, 6, 7, 8, 9, 10, 11, 12, 13, 14, 15, 16, 17, 18, 19, 20, 21, 22, 23, 24, 25, 26, 27, 28, 29, 30, 31, 32, 33, 34, 35, 36, 37, 38, 39, 40, 41, 42] rfl
  rcases hA9 with ⟨v, hr9, hk9⟩ | ⟨i9, E9, hi9, hr9, hk9⟩
  · subst hr9
    subst hk9
    refine cRO (W.runV (As := [.int a1]) (rest := [.int (0 : Int32), .ref o]) ⟨hx, hb, hml, hown, hts⟩ (n_X8_firstPlace l dC dI cI cZ cS (fS hs) (fG hs) a M a1 v hf) (cwV 1 hts gL_firstPlace_X8_firstPlace rfl rfl rfl (by decide +kernel) ⟨Nat.le_of_ble_eq_true rfl, Nat.le_of_ble_eq_true rfl⟩) ⟨RO8.blind, va_recv hK hP (ci := 8) (q0 := 1) rfl rfl, RO8.pre hPc hK8 hNW⟩ rfl rfl hl.1 rfl (lv_room (Nat.le_of_ble_eq_true rfl)) dL_firstPlace_4 ⟨Nat.le_of_ble_eq_true rfl, Nat.le_of_ble_eq_true rfl⟩) ?_
    refine lv_i2l (v := v.toInt64) hx hb dL_firstPlace_7 rfl ?_
    refine va_last (D := (dC, dI)) (f := fl) hx hb hK hP hD hS 0 3 rfl rfl (inb_in rfl) dL_firstPlace_8 (fun H locs hP hD hS => ?_)
    have hP : va_P (dC, dI) vwCl ((wL cI cZ cS cL (fS hs) (fG hs) o (vp_updL fl 0 v.toInt64) a M) ++ RW cI cZ hs) H := hP
    have hD : va_D A ((wL cI cZ cS cL (fS hs) (fG hs) o (vp_updL fl 0 v.toInt64) a M) ++ RW cI cZ hs) := hD
    refine lv_goto (tgt := 18) hx hb dL_firstPlace_9 (by decide) ?_
    refine lv_iconst (v := (0 : Int32)) hx hb dL_firstPlace_18 (by decide) ?_
    refine W.widen (k := 1) (n := 6) (Nat.le_of_ble_eq_true rfl) (Nat.le_of_ble_eq_true rfl) ?_
    exact W.iret hx hb hr (fun t ht hW => ⟨⟨_, (hs, (vp_updL fl 0 v.toInt64)), rfl, ⟨rfl, rfl, fun v9 h9 => by cases h9; rfl⟩, WE.mk hP hD ht⟩, hS.F ht⟩) hS.2.2 dL_firstPlace_19
  · subst hr9
    refine vx_thrH (vx_runV (As := [.int a1]) (rest := [.int (0 : Int32), .ref o]) ⟨hx, hb, hml, hown, hts⟩ (t_X8_firstPlace l hst dC dI cI cZ cS (fS hs) (fG hs) a _ M a1 E9 hf) (cwV 1 hts gL_firstPlace_X8_firstPlace rfl rfl rfl (by decide +kernel) ⟨Nat.le_of_ble_eq_true rfl, Nat.le_of_ble_eq_true rfl⟩) ⟨T8.blind, va_recv hK hP (ci := 8) (q0 := 1) rfl rfl, T8.pre hPc hK8 hDc hNW (hEX.at hS hFc)⟩ rfl rfl hl.1 rfl (lv_room (Nat.le_of_ble_eq_true rfl)) dL_firstPlace_4 ⟨Nat.le_of_ble_eq_true rfl, Nat.le_of_ble_eq_true rfl⟩) hS (fun q _ h => hFc q h) hFc (fun ce q9 t H1 locs1 ht hal hP1 hD1 hz1 hk1 hS hce hcv hcl => ?_)
    obtain ⟨hP, hD⟩ := join_app (ws := (wL cI cZ cS cL (fS hs) (fG hs) o fl a M)) (wr := [(o, .inl (cL, 1, .inr (.inl fl)))]) (w1 := _) hP hD [1, 2, 3, 4, 5, 6, 7, 8, 9, 10, 11, 12, 13, 14, 15, 16, 17, 18, 19, 20, 21, 22, 23, 24, 25, 26, 27, 28, 29, 30, 31, 32, 33, 34, 35, 36, 37, 38, 39, 40, 41, 42] [0] rfl rfl (by decide) (by decide) hk1 hFc hP1 hD1
    have hP : va_P (dC, dI) vwCl ((wL cI cZ cS cL (fS hs) (fG hs) o fl a M) ++ RW cI cZ hs) H1 := hP
    have hD : va_D A ((wL cI cZ cS cL (fS hs) (fG hs) o fl a M) ++ RW cI cZ hs) := hD
    generalize H1 = H at hP hS hce ⊢
    rcases (show i9 = 0 ∨ i9 = 1 by have h7 := (List.getElem?_eq_some_iff.mp hi9).1; simp only [List.length] at h7; omega) with rfl | rfl
    · cases hi9
      refine vx_catch (own := RL) (name := "java/lang/IllegalArgumentException") hown [] ⟨0, 9, 12, 13⟩ [⟨0, 9, 15, 15⟩] htab (fun z hz => nomatch hz) rfl (by decide) hcl13 ((nc178 hNW).use rfl) hce hcv hcl ?_
      refine lv_astore_n (lv' := [(3, .ref q9), (0, .ref (a 0)), (1, .int a1), (2, .ref o)]) hx hb dL_firstPlace_12 rfl hl (by decide) rfl (fun ls hl => ?_)
      refine lv_iconst (v := (1 : Int32)) hx hb dL_firstPlace_13 (by decide) ?_
      refine W.widen (k := 1) (n := 6) (Nat.le_of_ble_eq_true rfl) (Nat.le_of_ble_eq_true rfl) ?_
      exact W.iret hx hb hr (fun t ht hW => ⟨⟨_, (hs, fl), rfl, ⟨hk9.symm, rfl, fun v9 h9 => by cases h9⟩, WE.mk hP hD ht⟩, hS.F ht⟩) hS.2.2 dL_firstPlace_14
    · cases hi9
      refine vx_catch (own := RL) (name := "java/lang/IllegalStateException") hown [⟨0, 9, 12, 13⟩] ⟨0, 9, 15, 15⟩ [] htab (fun z hz => by
      rcases (show z = ⟨0, 9, 12, 13⟩ by simpa using hz) with rfl
      · exact Or.inr ⟨by decide, "java/lang/IllegalArgumentException", hcl13, hNC ("java/lang/IllegalStateException", "java/lang/IllegalArgumentException") (List.mem_of_getElem? (i := 0) rfl)⟩) rfl (by decide) hcl15 ((nc58 hNW).use rfl) hce hcv hcl ?_
      refine lv_astore_n (lv' := [(3, .ref q9), (0, .ref (a 0)), (1, .int a1), (2, .ref o)]) hx hb dL_firstPlace_15 rfl hl (by decide) rfl (fun ls hl => ?_)
      refine lv_iconst (v := (2 : Int32)) hx hb dL_firstPlace_16 (by decide) ?_
      refine W.widen (k := 1) (n := 6) (Nat.le_of_ble_eq_true rfl) (Nat.le_of_ble_eq_true rfl) ?_
      exact W.iret hx hb hr (fun t ht hW => ⟨⟨_, (hs, fl), rfl, ⟨hk9.symm, rfl, fun v9 h9 => by cases h9⟩, WE.mk hP hD ht⟩, hS.F ht⟩) hS.2.2 dL_firstPlace_17
set_option maxHeartbeats 4000000 in
set_option maxRecDepth 100000 in
theorem w_L_longestGap (l : Launch) (hst : l.stackTraces = false) (dC : Nat → ClassId) (dI : Nat → Nat → Nat) (cI cZ cS cL : ClassId) (hs : HS) (o : Nat) (fl : Nat → Int64) (a : Nat → Nat) (sz : Nat) (M : Mem) (a1 : Int32) (r : String ⊕ Int32) (kk : Int32) (hf : fX8_longestGap M a1 = some r) (hA9 : Ans ["java/lang/IndexOutOfBoundsException"] r kk) : Met l yL_longestGap wsL_longestGap ({ frames := 8, cells := 1, slots := 6, locals := 152 } : Room) (va_Pc [.ref (a 0), .int a1, .ref o] (T9 (dC, dI) cI cZ cS cL ((wL cI cZ cS cL (fS hs) (fG hs) o fl a M) ++ RW cI cZ hs) sz)) (va_Qi (S := HS × (Nat → Int64)) (fun k u => k = kk ∧ u.1 = hs ∧ ∀ v, r = .inr v → u.2 0 = v.toInt64) (fun u t => WE (dC, dI) cI cZ ((wL cI cZ cS cL (fS u.1) (fG u.1) o u.2 a M) ++ RW cI cZ u.1) (va_A ((wL cI cZ cS cL (fS hs) (fG hs) o fl a M) ++ RW cI cZ hs) sz) t) (va_A ((wL cI cZ cS cL (fS hs) (fG hs) o fl a M) ++ RW cI cZ hs) sz)) 1 6 (va_A ((wL cI cZ cS cL (fS hs) (fG hs) o fl a M) ++ RW cI cZ hs) sz) := by
  refine va_MetW (cc := cL_longestGap) (maxL := 4) (ret := (some .int)) (hh := [(0, 9, 12, 20)]) (by decide) rfl ?_
  intro p e s m args below meth c s₁ B hml hv
  obtain ⟨rfl, hsz, hP, hK, hD0, hNW, hEX, hNC⟩ := hv
  have hx := B.exec
  have hb := B.bytes
  have hr := B.returns
  have hts := atoms_spec (ws := wsL_longestGap) B.pre
  have hown : s.vm.findClass RL = some m.cls := findClass_of_methodNamed B.named
  have htab : c.exceptionTable.toList = tableOf [(0, 9, 12, 20)] := vx_table (x := yL_law) B (hts (.codeWith yL_longestGap cL_longestGap 4 (some .int) [(0, 9, 12, 20)]) List.mem_cons_self)
  have hK8 : va_K (dC, dI) vwCl (tys8 cI cZ cS) s := hK.sub (tys' := tys8 cI cZ cS) [0, 1, 2] rfl
  have hcl20 := hts (.classLink RL 20 "java/lang/IndexOutOfBoundsException") (by decide +kernel)
  subst hsz
  have hD := hD0.self (sz := s.heap.size)
  generalize hAe : va_A ((wL cI cZ cS cL (fS hs) (fG hs) o fl a M) ++ RW cI cZ hs) s.heap.size = A at hD hEX ⊢
  have hA : ∀ q : Nat, s.heap.size ≤ q → A q := fun q h => by rw [← hAe]; exact Or.inr h
  have hS : va_S A s.heap s.heap [] := va_S.rf
  have hl := lv_entry ([.ref (a 0), .int a1, .ref o]) (n := 4) (Nat.le_of_ble_eq_true rfl)
  rw [lg_entry_eq]
  generalize (lg_sl ([.ref (a 0), .int a1, .ref o]) ++ List.replicate (4 - (lg_sl ([.ref (a 0), .int a1, .ref o])).length) Slot.unset).toArray = ls at hl ⊢
  have hl : lv_has ls 4 [(0, .ref (a 0)), (1, .int a1), (2, .ref o)] := hl
  suffices hgo : ∀ (H : Heap) (locs : List Loc), va_P (dC, dI) vwCl ((wL cI cZ cS cL (fS hs) (fG hs) o fl a M) ++ RW cI cZ hs) H → va_D A ((wL cI cZ cS cL (fS hs) (fG hs) o fl a M) ++ RW cI cZ hs) → va_S A s.heap H locs → W p l e (headSpec wsL_longestGap ({ frames := 8, cells := 1, slots := 6, locals := 152 } : Room)).room s m ([.ref (a 0), .int a1, .ref o] : List Value).toArray below meth c H locs 0 0 (MQ below (va_Qi (S := HS × (Nat → Int64)) (fun k u => k = kk ∧ u.1 = hs ∧ ∀ v, r = .inr v → u.2 0 = v.toInt64) (fun u t => WE (dC, dI) cI cZ ((wL cI cZ cS cL (fS u.1) (fG u.1) o u.2 a M) ++ RW cI cZ u.1) A t) A) ([.ref (a 0), .int a1, .ref o] : List Value).toArray s 1 6 A) (F0 m 0 ls []) from hgo _ _ hP hD hS
  intro H locs hP hD hS
  refine lv_aload_n hx hb dL_longestGap_0 rfl (lv_at hl 2 rfl) ?_
  refine lv_iconst (v := (0 : Int32)) hx hb dL_longestGap_1 (by decide) ?_
  refine lv_aload_n hx hb dL_longestGap_2 rfl (lv_at hl 0 rfl) ?_
  refine lv_iload_n hx hb dL_longestGap_3 rfl (lv_at hl 1 rfl) ?_
  have hPc := P_head (ws := (wL cI cZ cS cL (fS hs) (fG hs) o fl a M)) (ws' := (wX8 cI cZ cS (fS hs) (fG hs) a M)) hP [1, 2, 3, 4, 5, 6, 7, 8, 9, 10, 11, 12, 13, 14, 15, 16, 17, 18, 19, 20, 21, 22, 23, 24, 25, 26, 27, 28, 29, 30, 31, 32, 33, 34, 35, 36, 37, 38, 39, 40, 41, 42] rfl
  have hDc := D_head (ws := (wL cI cZ cS cL (fS hs) (fG hs) o fl a M)) (ws' := (wX8 cI cZ cS (fS hs) (fG hs) a M)) hD [1, 2, 3, 4, 5, 6, 7, 8, 9, 10, 11, 12, 13, 14, 15, 16, 17, 18, 19, 20, 21, 22, 23, 24, 25, 26, 27, 28, 29, 30, 31, 32, 33, 34, 35, 36, 37, 38, 39, 40, 41, 42] (by decide) rfl
  have hFc := va_free (wc := (wX8 cI cZ cS (fS hs) (fG hs) a M)) hD hS hA [1, 2, 3, 4, 5, 6, 7, 8, 9, 10, 11, 12, 13, 14, 15, 16, 17, 18, 19, 20, 21, 22, 23, 24, 25, 26, 27, 28, 29, 30, 31, 32, 33, 34, 35, 36, 37, 38, 39, 40, 41, 42] rfl
  rcases hA9 with ⟨v, hr9, hk9⟩ | ⟨i9, E9, hi9, hr9, hk9⟩
  · subst hr9
    subst hk9
    refine cRO (W.runV (As := [.int a1]) (rest := [.int (0 : Int32), .ref o]) ⟨hx, hb, hml, hown, hts⟩ (n_X8_longestGap l dC dI cI cZ cS (fS hs) (fG hs) a M a1 v hf) (cwV 1 hts gL_longestGap_X8_longestGap rfl rfl rfl (by decide +kernel) ⟨Nat.le_of_ble_eq_true rfl, Nat.le_of_ble_eq_true rfl⟩) ⟨RO8.blind, va_recv hK hP (ci := 8) (q0 := 1) rfl rfl, RO8.pre hPc hK8 hNW⟩ rfl rfl hl.1 rfl (lv_room (Nat.le_of_ble_eq_true rfl)) dL_longestGap_4 ⟨Nat.le_of_ble_eq_true rfl, Nat.le_of_ble_eq_true rfl⟩) ?_
    refine lv_i2l (v := v.toInt64) hx hb dL_longestGap_7 rfl ?_
    refine va_last (D := (dC, dI)) (f := fl) hx hb hK hP hD hS 0 3 rfl rfl (inb_in rfl) dL_longestGap_8 (fun H locs hP hD hS => ?_)
    have hP : va_P (dC, dI) vwCl ((wL cI cZ cS cL (fS hs) (fG hs) o (vp_updL fl 0 v.toInt64) a M) ++ RW cI cZ hs) H := hP
    have hD : va_D A ((wL cI cZ cS cL (fS hs) (fG hs) o (vp_updL fl 0 v.toInt64) a M) ++ RW cI cZ hs) := hD
    refine lv_goto (tgt := 15) hx hb dL_longestGap_9 (by decide) ?_
    refine lv_iconst (v := (0 : Int32)) hx hb dL_longestGap_15 (by decide) ?_
    refine W.widen (k := 1) (n := 6) (Nat.le_of_ble_eq_true rfl) (Nat.le_of_ble_eq_true rfl) ?_
    exact W.iret hx hb hr (fun t ht hW => ⟨⟨_, (hs, (vp_updL fl 0 v.toInt64)), rfl, ⟨rfl, rfl, fun v9 h9 => by cases h9; rfl⟩, WE.mk hP hD ht⟩, hS.F ht⟩) hS.2.2 dL_longestGap_16
  · subst hr9
    refine vx_thrH (vx_runV (As := [.int a1]) (rest := [.int (0 : Int32), .ref o]) ⟨hx, hb, hml, hown, hts⟩ (t_X8_longestGap l hst dC dI cI cZ cS (fS hs) (fG hs) a _ M a1 E9 hf) (cwV 1 hts gL_longestGap_X8_longestGap rfl rfl rfl (by decide +kernel) ⟨Nat.le_of_ble_eq_true rfl, Nat.le_of_ble_eq_true rfl⟩) ⟨T8.blind, va_recv hK hP (ci := 8) (q0 := 1) rfl rfl, T8.pre hPc hK8 hDc hNW (hEX.at hS hFc)⟩ rfl rfl hl.1 rfl (lv_room (Nat.le_of_ble_eq_true rfl)) dL_longestGap_4 ⟨Nat.le_of_ble_eq_true rfl, Nat.le_of_ble_eq_true rfl⟩) hS (fun q _ h => hFc q h) hFc (fun ce q9 t H1 locs1 ht hal hP1 hD1 hz1 hk1 hS hce hcv hcl => ?_)
    obtain ⟨hP, hD⟩ := join_app (ws := (wL cI cZ cS cL (fS hs) (fG hs) o fl a M)) (wr := [(o, .inl (cL, 1, .inr (.inl fl)))]) (w1 := _) hP hD [1, 2, 3, 4, 5, 6, 7, 8, 9, 10, 11, 12, 13, 14, 15, 16, 17, 18, 19, 20, 21, 22, 23, 24, 25, 26, 27, 28, 29, 30, 31, 32, 33, 34, 35, 36, 37, 38, 39, 40, 41, 42] [0] rfl rfl (by decide) (by decide) hk1 hFc hP1 hD1
    have hP : va_P (dC, dI) vwCl ((wL cI cZ cS cL (fS hs) (fG hs) o fl a M) ++ RW cI cZ hs) H1 := hP
    have hD : va_D A ((wL cI cZ cS cL (fS hs) (fG hs) o fl a M) ++ RW cI cZ hs) := hD
    generalize H1 = H at hP hS hce ⊢
    rcases (show i9 = 0 by have h7 := (List.getElem?_eq_some_iff.mp hi9).1; simp only [List.length] at h7; omega) with rfl
    · cases hi9
      refine vx_catch (own := RL) (name := "java/lang/IndexOutOfBoundsException") hown [] ⟨0, 9, 12, 20⟩ [] htab (fun z hz => nomatch hz) rfl (by decide) hcl20 ((nc422 hNW).use rfl) hce hcv hcl ?_
      refine lv_astore_n (lv' := [(3, .ref q9), (0, .ref (a 0)), (1, .int a1), (2, .ref o)]) hx hb dL_longestGap_12 rfl hl (by decide) rfl (fun ls hl => ?_)
      refine lv_iconst (v := (1 : Int32)) hx hb dL_longestGap_13 (by decide) ?_
      refine W.widen (k := 1) (n := 6) (Nat.le_of_ble_eq_true rfl) (Nat.le_of_ble_eq_true rfl) ?_
      exact W.iret hx hb hr (fun t ht hW => ⟨⟨_, (hs, fl), rfl, ⟨hk9.symm, rfl, fun v9 h9 => by cases h9⟩, WE.mk hP hD ht⟩, hS.F ht⟩) hS.2.2 dL_longestGap_14
set_option maxHeartbeats 4000000 in
set_option maxRecDepth 100000 in
theorem w_L_wouldPack (l : Launch) (hst : l.stackTraces = false) (dC : Nat → ClassId) (dI : Nat → Nat → Nat) (cI cZ cS cL : ClassId) (hs : HS) (o : Nat) (fl : Nat → Int64) (a : Nat → Nat) (sz : Nat) (M : Mem) (r : String ⊕ Int32) (kk : Int32) (z2 : Mem) (hf : fX8_wouldPack M  = some (r, z2)) (hA9 : Ans ["java/lang/IllegalStateException"] r kk) : Met l yL_wouldPack wsL_wouldPack ({ frames := 9, cells := 1, slots := 6, locals := 170 } : Room) (va_Pc [.ref (a 0), .ref o] (T9 (dC, dI) cI cZ cS cL ((wL cI cZ cS cL (fS hs) (fG hs) o fl a M) ++ RW cI cZ hs) sz)) (va_Qi (S := HS × (Nat → Int64)) (fun k u => k = kk ∧ u.1 = hs ∧ ∀ v, r = .inr v → u.2 0 = v.toInt64) (fun u t => WE (dC, dI) cI cZ ((wL cI cZ cS cL (fS u.1) (fG u.1) o u.2 a (sr M 40 (z2 40))) ++ RW cI cZ u.1) (va_A ((wL cI cZ cS cL (fS hs) (fG hs) o fl a M) ++ RW cI cZ hs) sz) t) (va_A ((wL cI cZ cS cL (fS hs) (fG hs) o fl a M) ++ RW cI cZ hs) sz)) 1 6 (va_A ((wL cI cZ cS cL (fS hs) (fG hs) o fl a M) ++ RW cI cZ hs) sz) := by
  refine va_MetW (cc := cL_wouldPack) (maxL := 3) (ret := (some .int)) (hh := [(0, 8, 11, 15)]) (by decide) rfl ?_
  intro p e s m args below meth c s₁ B hml hv
  obtain ⟨rfl, hsz, hP, hK, hD0, hNW, hEX, hNC⟩ := hv
  have hx := B.exec
  have hb := B.bytes
  have hr := B.returns
  have hts := atoms_spec (ws := wsL_wouldPack) B.pre
  have hown : s.vm.findClass RL = some m.cls := findClass_of_methodNamed B.named
  have htab : c.exceptionTable.toList = tableOf [(0, 8, 11, 15)] := vx_table (x := yL_law) B (hts (.codeWith yL_wouldPack cL_wouldPack 3 (some .int) [(0, 8, 11, 15)]) List.mem_cons_self)
  have hK8 : va_K (dC, dI) vwCl (tys8 cI cZ cS) s := hK.sub (tys' := tys8 cI cZ cS) [0, 1, 2] rfl
  have hcl15 := hts (.classLink RL 15 "java/lang/IllegalStateException") (by decide +kernel)
  subst hsz
  have hD := hD0.self (sz := s.heap.size)
  generalize hAe : va_A ((wL cI cZ cS cL (fS hs) (fG hs) o fl a M) ++ RW cI cZ hs) s.heap.size = A at hD hEX ⊢
  have hA : ∀ q : Nat, s.heap.size ≤ q → A q := fun q h => by rw [← hAe]; exact Or.inr h
  have hS : va_S A s.heap s.heap [] := va_S.rf
  have hl := lv_entry ([.ref (a 0), .ref o]) (n := 3) (Nat.le_of_ble_eq_true rfl)
  rw [lg_entry_eq]
  generalize (lg_sl ([.ref (a 0), .ref o]) ++ List.replicate (3 - (lg_sl ([.ref (a 0), .ref o])).length) Slot.unset).toArray = ls at hl ⊢
  have hl : lv_has ls 3 [(0, .ref (a 0)), (1, .ref o)] := hl
  suffices hgo : ∀ (H : Heap) (locs : List Loc), va_P (dC, dI) vwCl ((wL cI cZ cS cL (fS hs) (fG hs) o fl a M) ++ RW cI cZ hs) H → va_D A ((wL cI cZ cS cL (fS hs) (fG hs) o fl a M) ++ RW cI cZ hs) → va_S A s.heap H locs → W p l e (headSpec wsL_wouldPack ({ frames := 9, cells := 1, slots := 6, locals := 170 } : Room)).room s m ([.ref (a 0), .ref o] : List Value).toArray below meth c H locs 0 0 (MQ below (va_Qi (S := HS × (Nat → Int64)) (fun k u => k = kk ∧ u.1 = hs ∧ ∀ v, r = .inr v → u.2 0 = v.toInt64) (fun u t => WE (dC, dI) cI cZ ((wL cI cZ cS cL (fS u.1) (fG u.1) o u.2 a (sr M 40 (z2 40))) ++ RW cI cZ u.1) A t) A) ([.ref (a 0), .ref o] : List Value).toArray s 1 6 A) (F0 m 0 ls []) from hgo _ _ hP hD hS
  intro H locs hP hD hS
  refine lv_aload_n hx hb dL_wouldPack_0 rfl (lv_at hl 1 rfl) ?_
  refine lv_iconst (v := (0 : Int32)) hx hb dL_wouldPack_1 (by decide) ?_
  refine lv_aload_n hx hb dL_wouldPack_2 rfl (lv_at hl 0 rfl) ?_
  have hPc := P_head (ws := (wL cI cZ cS cL (fS hs) (fG hs) o fl a M)) (ws' := (wX8 cI cZ cS (fS hs) (fG hs) a M)) hP [1, 2, 3, 4, 5, 6, 7, 8, 9, 10, 11, 12, 13, 14, 15, 16, 17, 18, 19, 20, 21, 22, 23, 24, 25, 26, 27, 28, 29, 30, 31, 32, 33, 34, 35, 36, 37, 38, 39, 40, 41, 42] rfl
  have hDc := D_head (ws := (wL cI cZ cS cL (fS hs) (fG hs) o fl a M)) (ws' := (wX8 cI cZ cS (fS hs) (fG hs) a M)) hD [1, 2, 3, 4, 5, 6, 7, 8, 9, 10, 11, 12, 13, 14, 15, 16, 17, 18, 19, 20, 21, 22, 23, 24, 25, 26, 27, 28, 29, 30, 31, 32, 33, 34, 35, 36, 37, 38, 39, 40, 41, 42] (by decide) rfl
  have hFc := va_free (wc := (wX8 cI cZ cS (fS hs) (fG hs) a M)) hD hS hA [1, 2, 3, 4, 5, 6, 7, 8, 9, 10, 11, 12, 13, 14, 15, 16, 17, 18, 19, 20, 21, 22, 23, 24, 25, 26, 27, 28, 29, 30, 31, 32, 33, 34, 35, 36, 37, 38, 39, 40, 41, 42] rfl
  rcases hA9 with ⟨v, hr9, hk9⟩ | ⟨i9, E9, hi9, hr9, hk9⟩
  · subst hr9
    subst hk9
    refine va_calli (va_runV (As := []) (rest := [.int (0 : Int32), .ref o]) ⟨hx, hb, hml, hown, hts⟩ (n_X8_wouldPack l dC dI cI cZ cS (fS hs) (fG hs) a H.size M v z2 hf) (cwV 0 hts gL_wouldPack_X8_wouldPack rfl rfl rfl (by decide +kernel) ⟨Nat.le_of_ble_eq_true rfl, Nat.le_of_ble_eq_true rfl⟩) ⟨WR8.blind, va_recv hK hP (ci := 8) (q0 := 1) rfl rfl, WR8.pre hPc hK8 hDc hNW⟩ rfl rfl hl.1 rfl (lv_room (Nat.le_of_ble_eq_true rfl)) dL_wouldPack_3 ⟨Nat.le_of_ble_eq_true rfl, Nat.le_of_ble_eq_true rfl⟩) hS (fun q _ h => hFc q h) hFc (fun rv u t H1 locs ht hvm hw hB hz1 hk1 hS => ?_)
    obtain ⟨hP1, hD1⟩ := hB
    rw [ht] at hP1
    rw [hw]
    obtain ⟨hP, hD⟩ := join_app (ws := (wL cI cZ cS cL (fS hs) (fG hs) o fl a M)) (wr := [(o, .inl (cL, 1, .inr (.inl fl)))]) (w1 := _) hP hD [1, 2, 3, 4, 5, 6, 7, 8, 9, 10, 11, 12, 13, 14, 15, 16, 17, 18, 19, 20, 21, 22, 23, 24, 25, 26, 27, 28, 29, 30, 31, 32, 33, 34, 35, 36, 37, 38, 39, 40, 41, 42] [0] rfl rfl (by decide) (by decide) hk1 hFc hP1 hD1
    have hP : va_P (dC, dI) vwCl ((wL cI cZ cS cL (fS hs) (fG hs) o fl a (sr M 40 (z2 40))) ++ RW cI cZ hs) H1 := hP
    have hD : va_D A ((wL cI cZ cS cL (fS hs) (fG hs) o fl a (sr M 40 (z2 40))) ++ RW cI cZ hs) := hD
    generalize H1 = H at hP hS ⊢
    refine lv_i2l (v := v.toInt64) hx hb dL_wouldPack_6 rfl ?_
    refine va_last (D := (dC, dI)) (f := fl) hx hb hK hP hD hS 0 3 rfl rfl (inb_in rfl) dL_wouldPack_7 (fun H locs hP hD hS => ?_)
    have hP : va_P (dC, dI) vwCl ((wL cI cZ cS cL (fS hs) (fG hs) o (vp_updL fl 0 v.toInt64) a (sr M 40 (z2 40))) ++ RW cI cZ hs) H := hP
    have hD : va_D A ((wL cI cZ cS cL (fS hs) (fG hs) o (vp_updL fl 0 v.toInt64) a (sr M 40 (z2 40))) ++ RW cI cZ hs) := hD
    refine lv_goto (tgt := 14) hx hb dL_wouldPack_8 (by decide) ?_
    refine lv_iconst (v := (0 : Int32)) hx hb dL_wouldPack_14 (by decide) ?_
    refine W.widen (k := 1) (n := 6) (Nat.le_of_ble_eq_true rfl) (Nat.le_of_ble_eq_true rfl) ?_
    exact W.iret hx hb hr (fun t ht hW => ⟨⟨_, (hs, (vp_updL fl 0 v.toInt64)), rfl, ⟨rfl, rfl, fun v9 h9 => by cases h9; rfl⟩, WE.mk hP hD ht⟩, hS.F ht⟩) hS.2.2 dL_wouldPack_15
  · subst hr9
    refine vx_thrH (vx_runV (As := []) (rest := [.int (0 : Int32), .ref o]) ⟨hx, hb, hml, hown, hts⟩ (t_X8_wouldPack l hst dC dI cI cZ cS (fS hs) (fG hs) a _ M E9 z2 hf) (cwV 0 hts gL_wouldPack_X8_wouldPack rfl rfl rfl (by decide +kernel) ⟨Nat.le_of_ble_eq_true rfl, Nat.le_of_ble_eq_true rfl⟩) ⟨T8.blind, va_recv hK hP (ci := 8) (q0 := 1) rfl rfl, T8.pre hPc hK8 hDc hNW (hEX.at hS hFc)⟩ rfl rfl hl.1 rfl (lv_room (Nat.le_of_ble_eq_true rfl)) dL_wouldPack_3 ⟨Nat.le_of_ble_eq_true rfl, Nat.le_of_ble_eq_true rfl⟩) hS (fun q _ h => hFc q h) hFc (fun ce q9 t H1 locs1 ht hal hP1 hD1 hz1 hk1 hS hce hcv hcl => ?_)
    obtain ⟨hP, hD⟩ := join_app (ws := (wL cI cZ cS cL (fS hs) (fG hs) o fl a M)) (wr := [(o, .inl (cL, 1, .inr (.inl fl)))]) (w1 := _) hP hD [1, 2, 3, 4, 5, 6, 7, 8, 9, 10, 11, 12, 13, 14, 15, 16, 17, 18, 19, 20, 21, 22, 23, 24, 25, 26, 27, 28, 29, 30, 31, 32, 33, 34, 35, 36, 37, 38, 39, 40, 41, 42] [0] rfl rfl (by decide) (by decide) hk1 hFc hP1 hD1
    have hP : va_P (dC, dI) vwCl ((wL cI cZ cS cL (fS hs) (fG hs) o fl a (sr M 40 (z2 40))) ++ RW cI cZ hs) H1 := hP
    have hD : va_D A ((wL cI cZ cS cL (fS hs) (fG hs) o fl a (sr M 40 (z2 40))) ++ RW cI cZ hs) := hD
    generalize H1 = H at hP hS hce ⊢
    rcases (show i9 = 0 by have h7 := (List.getElem?_eq_some_iff.mp hi9).1; simp only [List.length] at h7; omega) with rfl
    · cases hi9
      refine vx_catch (own := RL) (name := "java/lang/IllegalStateException") hown [] ⟨0, 8, 11, 15⟩ [] htab (fun z hz => nomatch hz) rfl (by decide) hcl15 ((nc58 hNW).use rfl) hce hcv hcl ?_
      refine lv_astore_n (lv' := [(2, .ref q9), (0, .ref (a 0)), (1, .ref o)]) hx hb dL_wouldPack_11 rfl hl (by decide) rfl (fun ls hl => ?_)
      refine lv_iconst (v := (1 : Int32)) hx hb dL_wouldPack_12 (by decide) ?_
      refine W.widen (k := 1) (n := 6) (Nat.le_of_ble_eq_true rfl) (Nat.le_of_ble_eq_true rfl) ?_
      exact W.iret hx hb hr (fun t ht hW => ⟨⟨_, (hs, fl), rfl, ⟨hk9.symm, rfl, fun v9 h9 => by cases h9⟩, WE.mk hP hD ht⟩, hS.F ht⟩) hS.2.2 dL_wouldPack_13
set_option maxHeartbeats 4000000 in
set_option maxRecDepth 100000 in
theorem w_L_sideWeight (l : Launch) (hst : l.stackTraces = false) (dC : Nat → ClassId) (dI : Nat → Nat → Nat) (cI cZ cS cL : ClassId) (hs : HS) (o : Nat) (fl : Nat → Int64) (a : Nat → Nat) (sz : Nat) (M : Mem) (a1 : Int32) (r : String ⊕ Int32) (kk : Int32) (hf : fX8_sideWeight M a1 = some r) (hA9 : Ans ["java/lang/IndexOutOfBoundsException"] r kk) : Met l yL_sideWeight wsL_sideWeight ({ frames := 8, cells := 1, slots := 6, locals := 152 } : Room) (va_Pc [.ref (a 0), .int a1, .ref o] (T9 (dC, dI) cI cZ cS cL ((wL cI cZ cS cL (fS hs) (fG hs) o fl a M) ++ RW cI cZ hs) sz)) (va_Qi (S := HS × (Nat → Int64)) (fun k u => k = kk ∧ u.1 = hs ∧ ∀ v, r = .inr v → u.2 0 = v.toInt64) (fun u t => WE (dC, dI) cI cZ ((wL cI cZ cS cL (fS u.1) (fG u.1) o u.2 a M) ++ RW cI cZ u.1) (va_A ((wL cI cZ cS cL (fS hs) (fG hs) o fl a M) ++ RW cI cZ hs) sz) t) (va_A ((wL cI cZ cS cL (fS hs) (fG hs) o fl a M) ++ RW cI cZ hs) sz)) 1 6 (va_A ((wL cI cZ cS cL (fS hs) (fG hs) o fl a M) ++ RW cI cZ hs) sz) := by
  refine va_MetW (cc := cL_sideWeight) (maxL := 4) (ret := (some .int)) (hh := [(0, 9, 12, 20)]) (by decide) rfl ?_
  intro p e s m args below meth c s₁ B hml hv
  obtain ⟨rfl, hsz, hP, hK, hD0, hNW, hEX, hNC⟩ := hv
  have hx := B.exec
  have hb := B.bytes
  have hr := B.returns
  have hts := atoms_spec (ws := wsL_sideWeight) B.pre
  have hown : s.vm.findClass RL = some m.cls := findClass_of_methodNamed B.named
  have htab : c.exceptionTable.toList = tableOf [(0, 9, 12, 20)] := vx_table (x := yL_law) B (hts (.codeWith yL_sideWeight cL_sideWeight 4 (some .int) [(0, 9, 12, 20)]) List.mem_cons_self)
  have hK8 : va_K (dC, dI) vwCl (tys8 cI cZ cS) s := hK.sub (tys' := tys8 cI cZ cS) [0, 1, 2] rfl
  have hcl20 := hts (.classLink RL 20 "java/lang/IndexOutOfBoundsException") (by decide +kernel)
  subst hsz
  have hD := hD0.self (sz := s.heap.size)
  generalize hAe : va_A ((wL cI cZ cS cL (fS hs) (fG hs) o fl a M) ++ RW cI cZ hs) s.heap.size = A at hD hEX ⊢
  have hA : ∀ q : Nat, s.heap.size ≤ q → A q := fun q h => by rw [← hAe]; exact Or.inr h
  have hS : va_S A s.heap s.heap [] := va_S.rf
  have hl := lv_entry ([.ref (a 0), .int a1, .ref o]) (n := 4) (Nat.le_of_ble_eq_true rfl)
  rw [lg_entry_eq]
  generalize (lg_sl ([.ref (a 0), .int a1, .ref o]) ++ List.replicate (4 - (lg_sl ([.ref (a 0), .int a1, .ref o])).length) Slot.unset).toArray = ls at hl ⊢
  have hl : lv_has ls 4 [(0, .ref (a 0)), (1, .int a1), (2, .ref o)] := hl
  suffices hgo : ∀ (H : Heap) (locs : List Loc), va_P (dC, dI) vwCl ((wL cI cZ cS cL (fS hs) (fG hs) o fl a M) ++ RW cI cZ hs) H → va_D A ((wL cI cZ cS cL (fS hs) (fG hs) o fl a M) ++ RW cI cZ hs) → va_S A s.heap H locs → W p l e (headSpec wsL_sideWeight ({ frames := 8, cells := 1, slots := 6, locals := 152 } : Room)).room s m ([.ref (a 0), .int a1, .ref o] : List Value).toArray below meth c H locs 0 0 (MQ below (va_Qi (S := HS × (Nat → Int64)) (fun k u => k = kk ∧ u.1 = hs ∧ ∀ v, r = .inr v → u.2 0 = v.toInt64) (fun u t => WE (dC, dI) cI cZ ((wL cI cZ cS cL (fS u.1) (fG u.1) o u.2 a M) ++ RW cI cZ u.1) A t) A) ([.ref (a 0), .int a1, .ref o] : List Value).toArray s 1 6 A) (F0 m 0 ls []) from hgo _ _ hP hD hS
  intro H locs hP hD hS
  refine lv_aload_n hx hb dL_sideWeight_0 rfl (lv_at hl 2 rfl) ?_
  refine lv_iconst (v := (0 : Int32)) hx hb dL_sideWeight_1 (by decide) ?_
  refine lv_aload_n hx hb dL_sideWeight_2 rfl (lv_at hl 0 rfl) ?_
  refine lv_iload_n hx hb dL_sideWeight_3 rfl (lv_at hl 1 rfl) ?_
  have hPc := P_head (ws := (wL cI cZ cS cL (fS hs) (fG hs) o fl a M)) (ws' := (wX8 cI cZ cS (fS hs) (fG hs) a M)) hP [1, 2, 3, 4, 5, 6, 7, 8, 9, 10, 11, 12, 13, 14, 15, 16, 17, 18, 19, 20, 21, 22, 23, 24, 25, 26, 27, 28, 29, 30, 31, 32, 33, 34, 35, 36, 37, 38, 39, 40, 41, 42] rfl
  have hDc := D_head (ws := (wL cI cZ cS cL (fS hs) (fG hs) o fl a M)) (ws' := (wX8 cI cZ cS (fS hs) (fG hs) a M)) hD [1, 2, 3, 4, 5, 6, 7, 8, 9, 10, 11, 12, 13, 14, 15, 16, 17, 18, 19, 20, 21, 22, 23, 24, 25, 26, 27, 28, 29, 30, 31, 32, 33, 34, 35, 36, 37, 38, 39, 40, 41, 42] (by decide) rfl
  have hFc := va_free (wc := (wX8 cI cZ cS (fS hs) (fG hs) a M)) hD hS hA [1, 2, 3, 4, 5, 6, 7, 8, 9, 10, 11, 12, 13, 14, 15, 16, 17, 18, 19, 20, 21, 22, 23, 24, 25, 26, 27, 28, 29, 30, 31, 32, 33, 34, 35, 36, 37, 38, 39, 40, 41, 42] rfl
  rcases hA9 with ⟨v, hr9, hk9⟩ | ⟨i9, E9, hi9, hr9, hk9⟩
  · subst hr9
    subst hk9
    refine cRO (W.runV (As := [.int a1]) (rest := [.int (0 : Int32), .ref o]) ⟨hx, hb, hml, hown, hts⟩ (n_X8_sideWeight l dC dI cI cZ cS (fS hs) (fG hs) a M a1 v hf) (cwV 1 hts gL_sideWeight_X8_sideWeight rfl rfl rfl (by decide +kernel) ⟨Nat.le_of_ble_eq_true rfl, Nat.le_of_ble_eq_true rfl⟩) ⟨RO8.blind, va_recv hK hP (ci := 8) (q0 := 1) rfl rfl, RO8.pre hPc hK8 hNW⟩ rfl rfl hl.1 rfl (lv_room (Nat.le_of_ble_eq_true rfl)) dL_sideWeight_4 ⟨Nat.le_of_ble_eq_true rfl, Nat.le_of_ble_eq_true rfl⟩) ?_
    refine lv_i2l (v := v.toInt64) hx hb dL_sideWeight_7 rfl ?_
    refine va_last (D := (dC, dI)) (f := fl) hx hb hK hP hD hS 0 3 rfl rfl (inb_in rfl) dL_sideWeight_8 (fun H locs hP hD hS => ?_)
    have hP : va_P (dC, dI) vwCl ((wL cI cZ cS cL (fS hs) (fG hs) o (vp_updL fl 0 v.toInt64) a M) ++ RW cI cZ hs) H := hP
    have hD : va_D A ((wL cI cZ cS cL (fS hs) (fG hs) o (vp_updL fl 0 v.toInt64) a M) ++ RW cI cZ hs) := hD
    refine lv_goto (tgt := 15) hx hb dL_sideWeight_9 (by decide) ?_
    refine lv_iconst (v := (0 : Int32)) hx hb dL_sideWeight_15 (by decide) ?_
    refine W.widen (k := 1) (n := 6) (Nat.le_of_ble_eq_true rfl) (Nat.le_of_ble_eq_true rfl) ?_
    exact W.iret hx hb hr (fun t ht hW => ⟨⟨_, (hs, (vp_updL fl 0 v.toInt64)), rfl, ⟨rfl, rfl, fun v9 h9 => by cases h9; rfl⟩, WE.mk hP hD ht⟩, hS.F ht⟩) hS.2.2 dL_sideWeight_16
  · subst hr9
    refine vx_thrH (vx_runV (As := [.int a1]) (rest := [.int (0 : Int32), .ref o]) ⟨hx, hb, hml, hown, hts⟩ (t_X8_sideWeight l hst dC dI cI cZ cS (fS hs) (fG hs) a _ M a1 E9 hf) (cwV 1 hts gL_sideWeight_X8_sideWeight rfl rfl rfl (by decide +kernel) ⟨Nat.le_of_ble_eq_true rfl, Nat.le_of_ble_eq_true rfl⟩) ⟨T8.blind, va_recv hK hP (ci := 8) (q0 := 1) rfl rfl, T8.pre hPc hK8 hDc hNW (hEX.at hS hFc)⟩ rfl rfl hl.1 rfl (lv_room (Nat.le_of_ble_eq_true rfl)) dL_sideWeight_4 ⟨Nat.le_of_ble_eq_true rfl, Nat.le_of_ble_eq_true rfl⟩) hS (fun q _ h => hFc q h) hFc (fun ce q9 t H1 locs1 ht hal hP1 hD1 hz1 hk1 hS hce hcv hcl => ?_)
    obtain ⟨hP, hD⟩ := join_app (ws := (wL cI cZ cS cL (fS hs) (fG hs) o fl a M)) (wr := [(o, .inl (cL, 1, .inr (.inl fl)))]) (w1 := _) hP hD [1, 2, 3, 4, 5, 6, 7, 8, 9, 10, 11, 12, 13, 14, 15, 16, 17, 18, 19, 20, 21, 22, 23, 24, 25, 26, 27, 28, 29, 30, 31, 32, 33, 34, 35, 36, 37, 38, 39, 40, 41, 42] [0] rfl rfl (by decide) (by decide) hk1 hFc hP1 hD1
    have hP : va_P (dC, dI) vwCl ((wL cI cZ cS cL (fS hs) (fG hs) o fl a M) ++ RW cI cZ hs) H1 := hP
    have hD : va_D A ((wL cI cZ cS cL (fS hs) (fG hs) o fl a M) ++ RW cI cZ hs) := hD
    generalize H1 = H at hP hS hce ⊢
    rcases (show i9 = 0 by have h7 := (List.getElem?_eq_some_iff.mp hi9).1; simp only [List.length] at h7; omega) with rfl
    · cases hi9
      refine vx_catch (own := RL) (name := "java/lang/IndexOutOfBoundsException") hown [] ⟨0, 9, 12, 20⟩ [] htab (fun z hz => nomatch hz) rfl (by decide) hcl20 ((nc422 hNW).use rfl) hce hcv hcl ?_
      refine lv_astore_n (lv' := [(3, .ref q9), (0, .ref (a 0)), (1, .int a1), (2, .ref o)]) hx hb dL_sideWeight_12 rfl hl (by decide) rfl (fun ls hl => ?_)
      refine lv_iconst (v := (1 : Int32)) hx hb dL_sideWeight_13 (by decide) ?_
      refine W.widen (k := 1) (n := 6) (Nat.le_of_ble_eq_true rfl) (Nat.le_of_ble_eq_true rfl) ?_
      exact W.iret hx hb hr (fun t ht hW => ⟨⟨_, (hs, fl), rfl, ⟨hk9.symm, rfl, fun v9 h9 => by cases h9⟩, WE.mk hP hD ht⟩, hS.F ht⟩) hS.2.2 dL_sideWeight_14
set_option maxHeartbeats 4000000 in
set_option maxRecDepth 100000 in
theorem w_L_tripTicks (l : Launch) (hst : l.stackTraces = false) (dC : Nat → ClassId) (dI : Nat → Nat → Nat) (cI cZ cS cL : ClassId) (hs : HS) (o : Nat) (fl : Nat → Int64) (a : Nat → Nat) (sz : Nat) (M : Mem) (a1 : Int32) (r : String ⊕ Int32) (kk : Int32) (hf : fX8_tripTicks M a1 = some r) (hA9 : Ans ["java/lang/IndexOutOfBoundsException"] r kk) : Met l yL_tripTicks wsL_tripTicks ({ frames := 8, cells := 1, slots := 6, locals := 152 } : Room) (va_Pc [.ref (a 0), .int a1, .ref o] (T9 (dC, dI) cI cZ cS cL ((wL cI cZ cS cL (fS hs) (fG hs) o fl a M) ++ RW cI cZ hs) sz)) (va_Qi (S := HS × (Nat → Int64)) (fun k u => k = kk ∧ u.1 = hs ∧ ∀ v, r = .inr v → u.2 0 = v.toInt64) (fun u t => WE (dC, dI) cI cZ ((wL cI cZ cS cL (fS u.1) (fG u.1) o u.2 a M) ++ RW cI cZ u.1) (va_A ((wL cI cZ cS cL (fS hs) (fG hs) o fl a M) ++ RW cI cZ hs) sz) t) (va_A ((wL cI cZ cS cL (fS hs) (fG hs) o fl a M) ++ RW cI cZ hs) sz)) 1 6 (va_A ((wL cI cZ cS cL (fS hs) (fG hs) o fl a M) ++ RW cI cZ hs) sz) := by
  refine va_MetW (cc := cL_tripTicks) (maxL := 4) (ret := (some .int)) (hh := [(0, 9, 12, 20)]) (by decide) rfl ?_
  intro p e s m args below meth c s₁ B hml hv
  obtain ⟨rfl, hsz, hP, hK, hD0, hNW, hEX, hNC⟩ := hv
  have hx := B.exec
  have hb := B.bytes
  have hr := B.returns
  have hts := atoms_spec (ws := wsL_tripTicks) B.pre
  have hown : s.vm.findClass RL = some m.cls := findClass_of_methodNamed B.named
  have htab : c.exceptionTable.toList = tableOf [(0, 9, 12, 20)] := vx_table (x := yL_law) B (hts (.codeWith yL_tripTicks cL_tripTicks 4 (some .int) [(0, 9, 12, 20)]) List.mem_cons_self)
  have hK8 : va_K (dC, dI) vwCl (tys8 cI cZ cS) s := hK.sub (tys' := tys8 cI cZ cS) [0, 1, 2] rfl
  have hcl20 := hts (.classLink RL 20 "java/lang/IndexOutOfBoundsException") (by decide +kernel)
  subst hsz
  have hD := hD0.self (sz := s.heap.size)
  generalize hAe : va_A ((wL cI cZ cS cL (fS hs) (fG hs) o fl a M) ++ RW cI cZ hs) s.heap.size = A at hD hEX ⊢
  have hA : ∀ q : Nat, s.heap.size ≤ q → A q := fun q h => by rw [← hAe]; exact Or.inr h
  have hS : va_S A s.heap s.heap [] := va_S.rf
  have hl := lv_entry ([.ref (a 0), .int a1, .ref o]) (n := 4) (Nat.le_of_ble_eq_true rfl)
  rw [lg_entry_eq]
  generalize (lg_sl ([.ref (a 0), .int a1, .ref o]) ++ List.replicate (4 - (lg_sl ([.ref (a 0), .int a1, .ref o])).length) Slot.unset).toArray = ls at hl ⊢
  have hl : lv_has ls 4 [(0, .ref (a 0)), (1, .int a1), (2, .ref o)] := hl
  suffices hgo : ∀ (H : Heap) (locs : List Loc), va_P (dC, dI) vwCl ((wL cI cZ cS cL (fS hs) (fG hs) o fl a M) ++ RW cI cZ hs) H → va_D A ((wL cI cZ cS cL (fS hs) (fG hs) o fl a M) ++ RW cI cZ hs) → va_S A s.heap H locs → W p l e (headSpec wsL_tripTicks ({ frames := 8, cells := 1, slots := 6, locals := 152 } : Room)).room s m ([.ref (a 0), .int a1, .ref o] : List Value).toArray below meth c H locs 0 0 (MQ below (va_Qi (S := HS × (Nat → Int64)) (fun k u => k = kk ∧ u.1 = hs ∧ ∀ v, r = .inr v → u.2 0 = v.toInt64) (fun u t => WE (dC, dI) cI cZ ((wL cI cZ cS cL (fS u.1) (fG u.1) o u.2 a M) ++ RW cI cZ u.1) A t) A) ([.ref (a 0), .int a1, .ref o] : List Value).toArray s 1 6 A) (F0 m 0 ls []) from hgo _ _ hP hD hS
  intro H locs hP hD hS
  refine lv_aload_n hx hb dL_tripTicks_0 rfl (lv_at hl 2 rfl) ?_
  refine lv_iconst (v := (0 : Int32)) hx hb dL_tripTicks_1 (by decide) ?_
  refine lv_aload_n hx hb dL_tripTicks_2 rfl (lv_at hl 0 rfl) ?_
  refine lv_iload_n hx hb dL_tripTicks_3 rfl (lv_at hl 1 rfl) ?_
  have hPc := P_head (ws := (wL cI cZ cS cL (fS hs) (fG hs) o fl a M)) (ws' := (wX8 cI cZ cS (fS hs) (fG hs) a M)) hP [1, 2, 3, 4, 5, 6, 7, 8, 9, 10, 11, 12, 13, 14, 15, 16, 17, 18, 19, 20, 21, 22, 23, 24, 25, 26, 27, 28, 29, 30, 31, 32, 33, 34, 35, 36, 37, 38, 39, 40, 41, 42] rfl
  have hDc := D_head (ws := (wL cI cZ cS cL (fS hs) (fG hs) o fl a M)) (ws' := (wX8 cI cZ cS (fS hs) (fG hs) a M)) hD [1, 2, 3, 4, 5, 6, 7, 8, 9, 10, 11, 12, 13, 14, 15, 16, 17, 18, 19, 20, 21, 22, 23, 24, 25, 26, 27, 28, 29, 30, 31, 32, 33, 34, 35, 36, 37, 38, 39, 40, 41, 42] (by decide) rfl
  have hFc := va_free (wc := (wX8 cI cZ cS (fS hs) (fG hs) a M)) hD hS hA [1, 2, 3, 4, 5, 6, 7, 8, 9, 10, 11, 12, 13, 14, 15, 16, 17, 18, 19, 20, 21, 22, 23, 24, 25, 26, 27, 28, 29, 30, 31, 32, 33, 34, 35, 36, 37, 38, 39, 40, 41, 42] rfl
  rcases hA9 with ⟨v, hr9, hk9⟩ | ⟨i9, E9, hi9, hr9, hk9⟩
  · subst hr9
    subst hk9
    refine cRO (W.runV (As := [.int a1]) (rest := [.int (0 : Int32), .ref o]) ⟨hx, hb, hml, hown, hts⟩ (n_X8_tripTicks l dC dI cI cZ cS (fS hs) (fG hs) a M a1 v hf) (cwV 1 hts gL_tripTicks_X8_tripTicks rfl rfl rfl (by decide +kernel) ⟨Nat.le_of_ble_eq_true rfl, Nat.le_of_ble_eq_true rfl⟩) ⟨RO8.blind, va_recv hK hP (ci := 8) (q0 := 1) rfl rfl, RO8.pre hPc hK8 hNW⟩ rfl rfl hl.1 rfl (lv_room (Nat.le_of_ble_eq_true rfl)) dL_tripTicks_4 ⟨Nat.le_of_ble_eq_true rfl, Nat.le_of_ble_eq_true rfl⟩) ?_
    refine lv_i2l (v := v.toInt64) hx hb dL_tripTicks_7 rfl ?_
    refine va_last (D := (dC, dI)) (f := fl) hx hb hK hP hD hS 0 3 rfl rfl (inb_in rfl) dL_tripTicks_8 (fun H locs hP hD hS => ?_)
    have hP : va_P (dC, dI) vwCl ((wL cI cZ cS cL (fS hs) (fG hs) o (vp_updL fl 0 v.toInt64) a M) ++ RW cI cZ hs) H := hP
    have hD : va_D A ((wL cI cZ cS cL (fS hs) (fG hs) o (vp_updL fl 0 v.toInt64) a M) ++ RW cI cZ hs) := hD
    refine lv_goto (tgt := 15) hx hb dL_tripTicks_9 (by decide) ?_
    refine lv_iconst (v := (0 : Int32)) hx hb dL_tripTicks_15 (by decide) ?_
    refine W.widen (k := 1) (n := 6) (Nat.le_of_ble_eq_true rfl) (Nat.le_of_ble_eq_true rfl) ?_
    exact W.iret hx hb hr (fun t ht hW => ⟨⟨_, (hs, (vp_updL fl 0 v.toInt64)), rfl, ⟨rfl, rfl, fun v9 h9 => by cases h9; rfl⟩, WE.mk hP hD ht⟩, hS.F ht⟩) hS.2.2 dL_tripTicks_16
  · subst hr9
    refine vx_thrH (vx_runV (As := [.int a1]) (rest := [.int (0 : Int32), .ref o]) ⟨hx, hb, hml, hown, hts⟩ (t_X8_tripTicks l hst dC dI cI cZ cS (fS hs) (fG hs) a _ M a1 E9 hf) (cwV 1 hts gL_tripTicks_X8_tripTicks rfl rfl rfl (by decide +kernel) ⟨Nat.le_of_ble_eq_true rfl, Nat.le_of_ble_eq_true rfl⟩) ⟨T8.blind, va_recv hK hP (ci := 8) (q0 := 1) rfl rfl, T8.pre hPc hK8 hDc hNW (hEX.at hS hFc)⟩ rfl rfl hl.1 rfl (lv_room (Nat.le_of_ble_eq_true rfl)) dL_tripTicks_4 ⟨Nat.le_of_ble_eq_true rfl, Nat.le_of_ble_eq_true rfl⟩) hS (fun q _ h => hFc q h) hFc (fun ce q9 t H1 locs1 ht hal hP1 hD1 hz1 hk1 hS hce hcv hcl => ?_)
    obtain ⟨hP, hD⟩ := join_app (ws := (wL cI cZ cS cL (fS hs) (fG hs) o fl a M)) (wr := [(o, .inl (cL, 1, .inr (.inl fl)))]) (w1 := _) hP hD [1, 2, 3, 4, 5, 6, 7, 8, 9, 10, 11, 12, 13, 14, 15, 16, 17, 18, 19, 20, 21, 22, 23, 24, 25, 26, 27, 28, 29, 30, 31, 32, 33, 34, 35, 36, 37, 38, 39, 40, 41, 42] [0] rfl rfl (by decide) (by decide) hk1 hFc hP1 hD1
    have hP : va_P (dC, dI) vwCl ((wL cI cZ cS cL (fS hs) (fG hs) o fl a M) ++ RW cI cZ hs) H1 := hP
    have hD : va_D A ((wL cI cZ cS cL (fS hs) (fG hs) o fl a M) ++ RW cI cZ hs) := hD
    generalize H1 = H at hP hS hce ⊢
    rcases (show i9 = 0 by have h7 := (List.getElem?_eq_some_iff.mp hi9).1; simp only [List.length] at h7; omega) with rfl
    · cases hi9
      refine vx_catch (own := RL) (name := "java/lang/IndexOutOfBoundsException") hown [] ⟨0, 9, 12, 20⟩ [] htab (fun z hz => nomatch hz) rfl (by decide) hcl20 ((nc422 hNW).use rfl) hce hcv hcl ?_
      refine lv_astore_n (lv' := [(3, .ref q9), (0, .ref (a 0)), (1, .int a1), (2, .ref o)]) hx hb dL_tripTicks_12 rfl hl (by decide) rfl (fun ls hl => ?_)
      refine lv_iconst (v := (1 : Int32)) hx hb dL_tripTicks_13 (by decide) ?_
      refine W.widen (k := 1) (n := 6) (Nat.le_of_ble_eq_true rfl) (Nat.le_of_ble_eq_true rfl) ?_
      exact W.iret hx hb hr (fun t ht hW => ⟨⟨_, (hs, fl), rfl, ⟨hk9.symm, rfl, fun v9 h9 => by cases h9⟩, WE.mk hP hD ht⟩, hS.F ht⟩) hS.2.2 dL_tripTicks_14
set_option maxHeartbeats 4000000 in
set_option maxRecDepth 100000 in
theorem w_L_wasFetch (l : Launch) (hst : l.stackTraces = false) (dC : Nat → ClassId) (dI : Nat → Nat → Nat) (cI cZ cS cL : ClassId) (hs : HS) (o : Nat) (fl : Nat → Int64) (a : Nat → Nat) (sz : Nat) (M : Mem) (a1 : Int32) (r : String ⊕ Int32) (kk : Int32) (hf : fX8_wasFetch M a1 = some r) (hA9 : Ans ["java/lang/IndexOutOfBoundsException"] r kk) : Met l yL_wasFetch wsL_wasFetch ({ frames := 8, cells := 1, slots := 6, locals := 152 } : Room) (va_Pc [.ref (a 0), .int a1, .ref o] (T9 (dC, dI) cI cZ cS cL ((wL cI cZ cS cL (fS hs) (fG hs) o fl a M) ++ RW cI cZ hs) sz)) (va_Qi (S := HS × (Nat → Int64)) (fun k u => k = kk ∧ u.1 = hs ∧ ∀ v, r = .inr v → u.2 0 = cvZ v) (fun u t => WE (dC, dI) cI cZ ((wL cI cZ cS cL (fS u.1) (fG u.1) o u.2 a M) ++ RW cI cZ u.1) (va_A ((wL cI cZ cS cL (fS hs) (fG hs) o fl a M) ++ RW cI cZ hs) sz) t) (va_A ((wL cI cZ cS cL (fS hs) (fG hs) o fl a M) ++ RW cI cZ hs) sz)) 1 6 (va_A ((wL cI cZ cS cL (fS hs) (fG hs) o fl a M) ++ RW cI cZ hs) sz) := by
  refine va_MetW (cc := cL_wasFetch) (maxL := 4) (ret := (some .int)) (hh := [(0, 16, 19, 20)]) (by decide) rfl ?_
  intro p e s m args below meth c s₁ B hml hv
  obtain ⟨rfl, hsz, hP, hK, hD0, hNW, hEX, hNC⟩ := hv
  have hx := B.exec
  have hb := B.bytes
  have hr := B.returns
  have hts := atoms_spec (ws := wsL_wasFetch) B.pre
  have hown : s.vm.findClass RL = some m.cls := findClass_of_methodNamed B.named
  have htab : c.exceptionTable.toList = tableOf [(0, 16, 19, 20)] := vx_table (x := yL_law) B (hts (.codeWith yL_wasFetch cL_wasFetch 4 (some .int) [(0, 16, 19, 20)]) List.mem_cons_self)
  have hK8 : va_K (dC, dI) vwCl (tys8 cI cZ cS) s := hK.sub (tys' := tys8 cI cZ cS) [0, 1, 2] rfl
  have hcl20 := hts (.classLink RL 20 "java/lang/IndexOutOfBoundsException") (by decide +kernel)
  subst hsz
  have hD := hD0.self (sz := s.heap.size)
  generalize hAe : va_A ((wL cI cZ cS cL (fS hs) (fG hs) o fl a M) ++ RW cI cZ hs) s.heap.size = A at hD hEX ⊢
  have hA : ∀ q : Nat, s.heap.size ≤ q → A q := fun q h => by rw [← hAe]; exact Or.inr h
  have hS : va_S A s.heap s.heap [] := va_S.rf
  have hl := lv_entry ([.ref (a 0), .int a1, .ref o]) (n := 4) (Nat.le_of_ble_eq_true rfl)
  rw [lg_entry_eq]
  generalize (lg_sl ([.ref (a 0), .int a1, .ref o]) ++ List.replicate (4 - (lg_sl ([.ref (a 0), .int a1, .ref o])).length) Slot.unset).toArray = ls at hl ⊢
  have hl : lv_has ls 4 [(0, .ref (a 0)), (1, .int a1), (2, .ref o)] := hl
  suffices hgo : ∀ (H : Heap) (locs : List Loc), va_P (dC, dI) vwCl ((wL cI cZ cS cL (fS hs) (fG hs) o fl a M) ++ RW cI cZ hs) H → va_D A ((wL cI cZ cS cL (fS hs) (fG hs) o fl a M) ++ RW cI cZ hs) → va_S A s.heap H locs → W p l e (headSpec wsL_wasFetch ({ frames := 8, cells := 1, slots := 6, locals := 152 } : Room)).room s m ([.ref (a 0), .int a1, .ref o] : List Value).toArray below meth c H locs 0 0 (MQ below (va_Qi (S := HS × (Nat → Int64)) (fun k u => k = kk ∧ u.1 = hs ∧ ∀ v, r = .inr v → u.2 0 = cvZ v) (fun u t => WE (dC, dI) cI cZ ((wL cI cZ cS cL (fS u.1) (fG u.1) o u.2 a M) ++ RW cI cZ u.1) A t) A) ([.ref (a 0), .int a1, .ref o] : List Value).toArray s 1 6 A) (F0 m 0 ls []) from hgo _ _ hP hD hS
  intro H locs hP hD hS
  refine lv_aload_n hx hb dL_wasFetch_0 rfl (lv_at hl 2 rfl) ?_
  refine lv_iconst (v := (0 : Int32)) hx hb dL_wasFetch_1 (by decide) ?_
  refine lv_aload_n hx hb dL_wasFetch_2 rfl (lv_at hl 0 rfl) ?_
  refine lv_iload_n hx hb dL_wasFetch_3 rfl (lv_at hl 1 rfl) ?_
  have hPc := P_head (ws := (wL cI cZ cS cL (fS hs) (fG hs) o fl a M)) (ws' := (wX8 cI cZ cS (fS hs) (fG hs) a M)) hP [1, 2, 3, 4, 5, 6, 7, 8, 9, 10, 11, 12, 13, 14, 15, 16, 17, 18, 19, 20, 21, 22, 23, 24, 25, 26, 27, 28, 29, 30, 31, 32, 33, 34, 35, 36, 37, 38, 39, 40, 41, 42] rfl
  have hDc := D_head (ws := (wL cI cZ cS cL (fS hs) (fG hs) o fl a M)) (ws' := (wX8 cI cZ cS (fS hs) (fG hs) a M)) hD [1, 2, 3, 4, 5, 6, 7, 8, 9, 10, 11, 12, 13, 14, 15, 16, 17, 18, 19, 20, 21, 22, 23, 24, 25, 26, 27, 28, 29, 30, 31, 32, 33, 34, 35, 36, 37, 38, 39, 40, 41, 42] (by decide) rfl
  have hFc := va_free (wc := (wX8 cI cZ cS (fS hs) (fG hs) a M)) hD hS hA [1, 2, 3, 4, 5, 6, 7, 8, 9, 10, 11, 12, 13, 14, 15, 16, 17, 18, 19, 20, 21, 22, 23, 24, 25, 26, 27, 28, 29, 30, 31, 32, 33, 34, 35, 36, 37, 38, 39, 40, 41, 42] rfl
  rcases hA9 with ⟨v, hr9, hk9⟩ | ⟨i9, E9, hi9, hr9, hk9⟩
  · subst hr9
    subst hk9
    refine cRO (W.runV (As := [.int a1]) (rest := [.int (0 : Int32), .ref o]) ⟨hx, hb, hml, hown, hts⟩ (n_X8_wasFetch l dC dI cI cZ cS (fS hs) (fG hs) a M a1 v hf) (cwV 1 hts gL_wasFetch_X8_wasFetch rfl rfl rfl (by decide +kernel) ⟨Nat.le_of_ble_eq_true rfl, Nat.le_of_ble_eq_true rfl⟩) ⟨RO8.blind, va_recv hK hP (ci := 8) (q0 := 1) rfl rfl, RO8.pre hPc hK8 hNW⟩ rfl rfl hl.1 rfl (lv_room (Nat.le_of_ble_eq_true rfl)) dL_wasFetch_4 ⟨Nat.le_of_ble_eq_true rfl, Nat.le_of_ble_eq_true rfl⟩) ?_
    refine lv_if_eq (tgt := 14) hx hb dL_wasFetch_7 (by decide) (fun c9 => ?_) (fun c9 => ?_)
    · refine lv_lconst (v := (0 : Int64)) hx hb dL_wasFetch_14 (by decide) ?_
      refine va_last (D := (dC, dI)) (f := fl) hx hb hK hP hD hS 0 3 rfl rfl (inb_in rfl) dL_wasFetch_15 (fun H locs hP hD hS => ?_)
      have hP : va_P (dC, dI) vwCl ((wL cI cZ cS cL (fS hs) (fG hs) o (vp_updL fl 0 (0 : Int64)) a M) ++ RW cI cZ hs) H := hP
      have hD : va_D A ((wL cI cZ cS cL (fS hs) (fG hs) o (vp_updL fl 0 (0 : Int64)) a M) ++ RW cI cZ hs) := hD
      refine lv_goto (tgt := 22) hx hb dL_wasFetch_16 (by decide) ?_
      refine lv_iconst (v := (0 : Int32)) hx hb dL_wasFetch_22 (by decide) ?_
      refine W.widen (k := 1) (n := 6) (Nat.le_of_ble_eq_true rfl) (Nat.le_of_ble_eq_true rfl) ?_
      exact W.iret hx hb hr (fun t ht hW => ⟨⟨_, (hs, (vp_updL fl 0 (0 : Int64))), rfl, ⟨rfl, rfl, fun v9 h9 => by cases h9; exact (if_pos c9).symm⟩, WE.mk hP hD ht⟩, hS.F ht⟩) hS.2.2 dL_wasFetch_23
    · refine lv_lconst (v := (1 : Int64)) hx hb dL_wasFetch_10 (by decide) ?_
      refine lv_goto (tgt := 15) hx hb dL_wasFetch_11 (by decide) ?_
      refine va_last (D := (dC, dI)) (f := fl) hx hb hK hP hD hS 0 3 rfl rfl (inb_in rfl) dL_wasFetch_15 (fun H locs hP hD hS => ?_)
      have hP : va_P (dC, dI) vwCl ((wL cI cZ cS cL (fS hs) (fG hs) o (vp_updL fl 0 (1 : Int64)) a M) ++ RW cI cZ hs) H := hP
      have hD : va_D A ((wL cI cZ cS cL (fS hs) (fG hs) o (vp_updL fl 0 (1 : Int64)) a M) ++ RW cI cZ hs) := hD
      refine lv_goto (tgt := 22) hx hb dL_wasFetch_16 (by decide) ?_
      refine lv_iconst (v := (0 : Int32)) hx hb dL_wasFetch_22 (by decide) ?_
      refine W.widen (k := 1) (n := 6) (Nat.le_of_ble_eq_true rfl) (Nat.le_of_ble_eq_true rfl) ?_
      exact W.iret hx hb hr (fun t ht hW => ⟨⟨_, (hs, (vp_updL fl 0 (1 : Int64))), rfl, ⟨rfl, rfl, fun v9 h9 => by cases h9; exact (if_neg c9).symm⟩, WE.mk hP hD ht⟩, hS.F ht⟩) hS.2.2 dL_wasFetch_23
  · subst hr9
    refine vx_thrH (vx_runV (As := [.int a1]) (rest := [.int (0 : Int32), .ref o]) ⟨hx, hb, hml, hown, hts⟩ (t_X8_wasFetch l hst dC dI cI cZ cS (fS hs) (fG hs) a _ M a1 E9 hf) (cwV 1 hts gL_wasFetch_X8_wasFetch rfl rfl rfl (by decide +kernel) ⟨Nat.le_of_ble_eq_true rfl, Nat.le_of_ble_eq_true rfl⟩) ⟨T8.blind, va_recv hK hP (ci := 8) (q0 := 1) rfl rfl, T8.pre hPc hK8 hDc hNW (hEX.at hS hFc)⟩ rfl rfl hl.1 rfl (lv_room (Nat.le_of_ble_eq_true rfl)) dL_wasFetch_4 ⟨Nat.le_of_ble_eq_true rfl, Nat.le_of_ble_eq_true rfl⟩) hS (fun q _ h => hFc q h) hFc (fun ce q9 t H1 locs1 ht hal hP1 hD1 hz1 hk1 hS hce hcv hcl => ?_)
    obtain ⟨hP, hD⟩ := join_app (ws := (wL cI cZ cS cL (fS hs) (fG hs) o fl a M)) (wr := [(o, .inl (cL, 1, .inr (.inl fl)))]) (w1 := _) hP hD [1, 2, 3, 4, 5, 6, 7, 8, 9, 10, 11, 12, 13, 14, 15, 16, 17, 18, 19, 20, 21, 22, 23, 24, 25, 26, 27, 28, 29, 30, 31, 32, 33, 34, 35, 36, 37, 38, 39, 40, 41, 42] [0] rfl rfl (by decide) (by decide) hk1 hFc hP1 hD1
    have hP : va_P (dC, dI) vwCl ((wL cI cZ cS cL (fS hs) (fG hs) o fl a M) ++ RW cI cZ hs) H1 := hP
    have hD : va_D A ((wL cI cZ cS cL (fS hs) (fG hs) o fl a M) ++ RW cI cZ hs) := hD
    generalize H1 = H at hP hS hce ⊢
    rcases (show i9 = 0 by have h7 := (List.getElem?_eq_some_iff.mp hi9).1; simp only [List.length] at h7; omega) with rfl
    · cases hi9
      refine vx_catch (own := RL) (name := "java/lang/IndexOutOfBoundsException") hown [] ⟨0, 16, 19, 20⟩ [] htab (fun z hz => nomatch hz) rfl (by decide) hcl20 ((nc422 hNW).use rfl) hce hcv hcl ?_
      refine lv_astore_n (lv' := [(3, .ref q9), (0, .ref (a 0)), (1, .int a1), (2, .ref o)]) hx hb dL_wasFetch_19 rfl hl (by decide) rfl (fun ls hl => ?_)
      refine lv_iconst (v := (1 : Int32)) hx hb dL_wasFetch_20 (by decide) ?_
      refine W.widen (k := 1) (n := 6) (Nat.le_of_ble_eq_true rfl) (Nat.le_of_ble_eq_true rfl) ?_
      exact W.iret hx hb hr (fun t ht hW => ⟨⟨_, (hs, fl), rfl, ⟨hk9.symm, rfl, fun v9 h9 => by cases h9⟩, WE.mk hP hD ht⟩, hS.F ht⟩) hS.2.2 dL_wasFetch_21
set_option maxHeartbeats 4000000 in
set_option maxRecDepth 100000 in
theorem w_L_weightOfKind (l : Launch) (hst : l.stackTraces = false) (dC : Nat → ClassId) (dI : Nat → Nat → Nat) (cI cZ cS cL : ClassId) (hs : HS) (o : Nat) (fl : Nat → Int64) (a : Nat → Nat) (sz : Nat) (M : Mem) (a1 : Int32) (r : String ⊕ Int32) (kk : Int32) (hf : fX8_weightOfKind M a1 = some r) (hA9 : Ans ["java/lang/IndexOutOfBoundsException"] r kk) : Met l yL_weightOfKind wsL_weightOfKind ({ frames := 8, cells := 1, slots := 6, locals := 152 } : Room) (va_Pc [.ref (a 0), .int a1, .ref o] (T9 (dC, dI) cI cZ cS cL ((wL cI cZ cS cL (fS hs) (fG hs) o fl a M) ++ RW cI cZ hs) sz)) (va_Qi (S := HS × (Nat → Int64)) (fun k u => k = kk ∧ u.1 = hs ∧ ∀ v, r = .inr v → u.2 0 = v.toInt64) (fun u t => WE (dC, dI) cI cZ ((wL cI cZ cS cL (fS u.1) (fG u.1) o u.2 a M) ++ RW cI cZ u.1) (va_A ((wL cI cZ cS cL (fS hs) (fG hs) o fl a M) ++ RW cI cZ hs) sz) t) (va_A ((wL cI cZ cS cL (fS hs) (fG hs) o fl a M) ++ RW cI cZ hs) sz)) 1 6 (va_A ((wL cI cZ cS cL (fS hs) (fG hs) o fl a M) ++ RW cI cZ hs) sz) := by
  refine va_MetW (cc := cL_weightOfKind) (maxL := 4) (ret := (some .int)) (hh := [(0, 9, 12, 20)]) (by decide) rfl ?_
  intro p e s m args below meth c s₁ B hml hv
  obtain ⟨rfl, hsz, hP, hK, hD0, hNW, hEX, hNC⟩ := hv
  have hx := B.exec
  have hb := B.bytes
  have hr := B.returns
  have hts := atoms_spec (ws := wsL_weightOfKind) B.pre
  have hown : s.vm.findClass RL = some m.cls := findClass_of_methodNamed B.named
  have htab : c.exceptionTable.toList = tableOf [(0, 9, 12, 20)] := vx_table (x := yL_law) B (hts (.codeWith yL_weightOfKind cL_weightOfKind 4 (some .int) [(0, 9, 12, 20)]) List.mem_cons_self)
  have hK8 : va_K (dC, dI) vwCl (tys8 cI cZ cS) s := hK.sub (tys' := tys8 cI cZ cS) [0, 1, 2] rfl
  have hcl20 := hts (.classLink RL 20 "java/lang/IndexOutOfBoundsException") (by decide +kernel)
  subst hsz
  have hD := hD0.self (sz := s.heap.size)
  generalize hAe : va_A ((wL cI cZ cS cL (fS hs) (fG hs) o fl a M) ++ RW cI cZ hs) s.heap.size = A at hD hEX ⊢
  have hA : ∀ q : Nat, s.heap.size ≤ q → A q := fun q h => by rw [← hAe]; exact Or.inr h
  have hS : va_S A s.heap s.heap [] := va_S.rf
  have hl := lv_entry ([.ref (a 0), .int a1, .ref o]) (n := 4) (Nat.le_of_ble_eq_true rfl)
  rw [lg_entry_eq]
  generalize (lg_sl ([.ref (a 0), .int a1, .ref o]) ++ List.replicate (4 - (lg_sl ([.ref (a 0), .int a1, .ref o])).length) Slot.unset).toArray = ls at hl ⊢
  have hl : lv_has ls 4 [(0, .ref (a 0)), (1, .int a1), (2, .ref o)] := hl
  suffices hgo : ∀ (H : Heap) (locs : List Loc), va_P (dC, dI) vwCl ((wL cI cZ cS cL (fS hs) (fG hs) o fl a M) ++ RW cI cZ hs) H → va_D A ((wL cI cZ cS cL (fS hs) (fG hs) o fl a M) ++ RW cI cZ hs) → va_S A s.heap H locs → W p l e (headSpec wsL_weightOfKind ({ frames := 8, cells := 1, slots := 6, locals := 152 } : Room)).room s m ([.ref (a 0), .int a1, .ref o] : List Value).toArray below meth c H locs 0 0 (MQ below (va_Qi (S := HS × (Nat → Int64)) (fun k u => k = kk ∧ u.1 = hs ∧ ∀ v, r = .inr v → u.2 0 = v.toInt64) (fun u t => WE (dC, dI) cI cZ ((wL cI cZ cS cL (fS u.1) (fG u.1) o u.2 a M) ++ RW cI cZ u.1) A t) A) ([.ref (a 0), .int a1, .ref o] : List Value).toArray s 1 6 A) (F0 m 0 ls []) from hgo _ _ hP hD hS
  intro H locs hP hD hS
  refine lv_aload_n hx hb dL_weightOfKind_0 rfl (lv_at hl 2 rfl) ?_
  refine lv_iconst (v := (0 : Int32)) hx hb dL_weightOfKind_1 (by decide) ?_
  refine lv_aload_n hx hb dL_weightOfKind_2 rfl (lv_at hl 0 rfl) ?_
  refine lv_iload_n hx hb dL_weightOfKind_3 rfl (lv_at hl 1 rfl) ?_
  have hPc := P_head (ws := (wL cI cZ cS cL (fS hs) (fG hs) o fl a M)) (ws' := (wX8 cI cZ cS (fS hs) (fG hs) a M)) hP [1, 2, 3, 4, 5, 6, 7, 8, 9, 10, 11, 12, 13, 14, 15, 16, 17, 18, 19, 20, 21, 22, 23, 24, 25, 26, 27, 28, 29, 30, 31, 32, 33, 34, 35, 36, 37, 38, 39, 40, 41, 42] rfl
  have hDc := D_head (ws := (wL cI cZ cS cL (fS hs) (fG hs) o fl a M)) (ws' := (wX8 cI cZ cS (fS hs) (fG hs) a M)) hD [1, 2, 3, 4, 5, 6, 7, 8, 9, 10, 11, 12, 13, 14, 15, 16, 17, 18, 19, 20, 21, 22, 23, 24, 25, 26, 27, 28, 29, 30, 31, 32, 33, 34, 35, 36, 37, 38, 39, 40, 41, 42] (by decide) rfl
  have hFc := va_free (wc := (wX8 cI cZ cS (fS hs) (fG hs) a M)) hD hS hA [1, 2, 3, 4, 5, 6, 7, 8, 9, 10, 11, 12, 13, 14, 15, 16, 17, 18, 19, 20, 21, 22, 23, 24, 25, 26, 27, 28, 29, 30, 31, 32, 33, 34, 35, 36, 37, 38, 39, 40, 41, 42] rfl
  rcases hA9 with ⟨v, hr9, hk9⟩ | ⟨i9, E9, hi9, hr9, hk9⟩
  · subst hr9
    subst hk9
    refine cRO (W.runV (As := [.int a1]) (rest := [.int (0 : Int32), .ref o]) ⟨hx, hb, hml, hown, hts⟩ (n_X8_weightOfKind l dC dI cI cZ cS (fS hs) (fG hs) a M a1 v hf) (cwV 1 hts gL_weightOfKind_X8_weightOfKind rfl rfl rfl (by decide +kernel) ⟨Nat.le_of_ble_eq_true rfl, Nat.le_of_ble_eq_true rfl⟩) ⟨RO8.blind, va_recv hK hP (ci := 8) (q0 := 1) rfl rfl, RO8.pre hPc hK8 hNW⟩ rfl rfl hl.1 rfl (lv_room (Nat.le_of_ble_eq_true rfl)) dL_weightOfKind_4 ⟨Nat.le_of_ble_eq_true rfl, Nat.le_of_ble_eq_true rfl⟩) ?_
    refine lv_i2l (v := v.toInt64) hx hb dL_weightOfKind_7 rfl ?_
    refine va_last (D := (dC, dI)) (f := fl) hx hb hK hP hD hS 0 3 rfl rfl (inb_in rfl) dL_weightOfKind_8 (fun H locs hP hD hS => ?_)
    have hP : va_P (dC, dI) vwCl ((wL cI cZ cS cL (fS hs) (fG hs) o (vp_updL fl 0 v.toInt64) a M) ++ RW cI cZ hs) H := hP
    have hD : va_D A ((wL cI cZ cS cL (fS hs) (fG hs) o (vp_updL fl 0 v.toInt64) a M) ++ RW cI cZ hs) := hD
    refine lv_goto (tgt := 15) hx hb dL_weightOfKind_9 (by decide) ?_
    refine lv_iconst (v := (0 : Int32)) hx hb dL_weightOfKind_15 (by decide) ?_
    refine W.widen (k := 1) (n := 6) (Nat.le_of_ble_eq_true rfl) (Nat.le_of_ble_eq_true rfl) ?_
    exact W.iret hx hb hr (fun t ht hW => ⟨⟨_, (hs, (vp_updL fl 0 v.toInt64)), rfl, ⟨rfl, rfl, fun v9 h9 => by cases h9; rfl⟩, WE.mk hP hD ht⟩, hS.F ht⟩) hS.2.2 dL_weightOfKind_16
  · subst hr9
    refine vx_thrH (vx_runV (As := [.int a1]) (rest := [.int (0 : Int32), .ref o]) ⟨hx, hb, hml, hown, hts⟩ (t_X8_weightOfKind l hst dC dI cI cZ cS (fS hs) (fG hs) a _ M a1 E9 hf) (cwV 1 hts gL_weightOfKind_X8_weightOfKind rfl rfl rfl (by decide +kernel) ⟨Nat.le_of_ble_eq_true rfl, Nat.le_of_ble_eq_true rfl⟩) ⟨T8.blind, va_recv hK hP (ci := 8) (q0 := 1) rfl rfl, T8.pre hPc hK8 hDc hNW (hEX.at hS hFc)⟩ rfl rfl hl.1 rfl (lv_room (Nat.le_of_ble_eq_true rfl)) dL_weightOfKind_4 ⟨Nat.le_of_ble_eq_true rfl, Nat.le_of_ble_eq_true rfl⟩) hS (fun q _ h => hFc q h) hFc (fun ce q9 t H1 locs1 ht hal hP1 hD1 hz1 hk1 hS hce hcv hcl => ?_)
    obtain ⟨hP, hD⟩ := join_app (ws := (wL cI cZ cS cL (fS hs) (fG hs) o fl a M)) (wr := [(o, .inl (cL, 1, .inr (.inl fl)))]) (w1 := _) hP hD [1, 2, 3, 4, 5, 6, 7, 8, 9, 10, 11, 12, 13, 14, 15, 16, 17, 18, 19, 20, 21, 22, 23, 24, 25, 26, 27, 28, 29, 30, 31, 32, 33, 34, 35, 36, 37, 38, 39, 40, 41, 42] [0] rfl rfl (by decide) (by decide) hk1 hFc hP1 hD1
    have hP : va_P (dC, dI) vwCl ((wL cI cZ cS cL (fS hs) (fG hs) o fl a M) ++ RW cI cZ hs) H1 := hP
    have hD : va_D A ((wL cI cZ cS cL (fS hs) (fG hs) o fl a M) ++ RW cI cZ hs) := hD
    generalize H1 = H at hP hS hce ⊢
    rcases (show i9 = 0 by have h7 := (List.getElem?_eq_some_iff.mp hi9).1; simp only [List.length] at h7; omega) with rfl
    · cases hi9
      refine vx_catch (own := RL) (name := "java/lang/IndexOutOfBoundsException") hown [] ⟨0, 9, 12, 20⟩ [] htab (fun z hz => nomatch hz) rfl (by decide) hcl20 ((nc422 hNW).use rfl) hce hcv hcl ?_
      refine lv_astore_n (lv' := [(3, .ref q9), (0, .ref (a 0)), (1, .int a1), (2, .ref o)]) hx hb dL_weightOfKind_12 rfl hl (by decide) rfl (fun ls hl => ?_)
      refine lv_iconst (v := (1 : Int32)) hx hb dL_weightOfKind_13 (by decide) ?_
      refine W.widen (k := 1) (n := 6) (Nat.le_of_ble_eq_true rfl) (Nat.le_of_ble_eq_true rfl) ?_
      exact W.iret hx hb hr (fun t ht hW => ⟨⟨_, (hs, fl), rfl, ⟨hk9.symm, rfl, fun v9 h9 => by cases h9⟩, WE.mk hP hD ht⟩, hS.F ht⟩) hS.2.2 dL_weightOfKind_14
set_option maxHeartbeats 4000000 in
set_option maxRecDepth 100000 in
theorem w_L_stockByShelves (l : Launch) (hst : l.stackTraces = false) (dC : Nat → ClassId) (dI : Nat → Nat → Nat) (cI cZ cS cL : ClassId) (hs : HS) (o : Nat) (fl : Nat → Int64) (a : Nat → Nat) (sz : Nat) (M : Mem) (a1 : Int32) (r : String ⊕ Int32) (kk : Int32) (hf : fX8_stockByShelves M a1 = some r) (hA9 : Ans ["java/lang/IndexOutOfBoundsException"] r kk) : Met l yL_stockByShelves wsL_stockByShelves ({ frames := 8, cells := 1, slots := 6, locals := 152 } : Room) (va_Pc [.ref (a 0), .int a1, .ref o] (T9 (dC, dI) cI cZ cS cL ((wL cI cZ cS cL (fS hs) (fG hs) o fl a M) ++ RW cI cZ hs) sz)) (va_Qi (S := HS × (Nat → Int64)) (fun k u => k = kk ∧ u.1 = hs ∧ ∀ v, r = .inr v → u.2 0 = v.toInt64) (fun u t => WE (dC, dI) cI cZ ((wL cI cZ cS cL (fS u.1) (fG u.1) o u.2 a M) ++ RW cI cZ u.1) (va_A ((wL cI cZ cS cL (fS hs) (fG hs) o fl a M) ++ RW cI cZ hs) sz) t) (va_A ((wL cI cZ cS cL (fS hs) (fG hs) o fl a M) ++ RW cI cZ hs) sz)) 1 6 (va_A ((wL cI cZ cS cL (fS hs) (fG hs) o fl a M) ++ RW cI cZ hs) sz) := by
  refine va_MetW (cc := cL_stockByShelves) (maxL := 4) (ret := (some .int)) (hh := [(0, 9, 12, 20)]) (by decide) rfl ?_
  intro p e s m args below meth c s₁ B hml hv
  obtain ⟨rfl, hsz, hP, hK, hD0, hNW, hEX, hNC⟩ := hv
  have hx := B.exec
  have hb := B.bytes
  have hr := B.returns
  have hts := atoms_spec (ws := wsL_stockByShelves) B.pre
  have hown : s.vm.findClass RL = some m.cls := findClass_of_methodNamed B.named
  have htab : c.exceptionTable.toList = tableOf [(0, 9, 12, 20)] := vx_table (x := yL_law) B (hts (.codeWith yL_stockByShelves cL_stockByShelves 4 (some .int) [(0, 9, 12, 20)]) List.mem_cons_self)
  have hK8 : va_K (dC, dI) vwCl (tys8 cI cZ cS) s := hK.sub (tys' := tys8 cI cZ cS) [0, 1, 2] rfl
  have hcl20 := hts (.classLink RL 20 "java/lang/IndexOutOfBoundsException") (by decide +kernel)
  subst hsz
  have hD := hD0.self (sz := s.heap.size)
  generalize hAe : va_A ((wL cI cZ cS cL (fS hs) (fG hs) o fl a M) ++ RW cI cZ hs) s.heap.size = A at hD hEX ⊢
  have hA : ∀ q : Nat, s.heap.size ≤ q → A q := fun q h => by rw [← hAe]; exact Or.inr h
  have hS : va_S A s.heap s.heap [] := va_S.rf
  have hl := lv_entry ([.ref (a 0), .int a1, .ref o]) (n := 4) (Nat.le_of_ble_eq_true rfl)
  rw [lg_entry_eq]
  generalize (lg_sl ([.ref (a 0), .int a1, .ref o]) ++ List.replicate (4 - (lg_sl ([.ref (a 0), .int a1, .ref o])).length) Slot.unset).toArray = ls at hl ⊢
  have hl : lv_has ls 4 [(0, .ref (a 0)), (1, .int a1), (2, .ref o)] := hl
  suffices hgo : ∀ (H : Heap) (locs : List Loc), va_P (dC, dI) vwCl ((wL cI cZ cS cL (fS hs) (fG hs) o fl a M) ++ RW cI cZ hs) H → va_D A ((wL cI cZ cS cL (fS hs) (fG hs) o fl a M) ++ RW cI cZ hs) → va_S A s.heap H locs → W p l e (headSpec wsL_stockByShelves ({ frames := 8, cells := 1, slots := 6, locals := 152 } : Room)).room s m ([.ref (a 0), .int a1, .ref o] : List Value).toArray below meth c H locs 0 0 (MQ below (va_Qi (S := HS × (Nat → Int64)) (fun k u => k = kk ∧ u.1 = hs ∧ ∀ v, r = .inr v → u.2 0 = v.toInt64) (fun u t => WE (dC, dI) cI cZ ((wL cI cZ cS cL (fS u.1) (fG u.1) o u.2 a M) ++ RW cI cZ u.1) A t) A) ([.ref (a 0), .int a1, .ref o] : List Value).toArray s 1 6 A) (F0 m 0 ls []) from hgo _ _ hP hD hS
  intro H locs hP hD hS
  refine lv_aload_n hx hb dL_stockByShelves_0 rfl (lv_at hl 2 rfl) ?_
  refine lv_iconst (v := (0 : Int32)) hx hb dL_stockByShelves_1 (by decide) ?_
  refine lv_aload_n hx hb dL_stockByShelves_2 rfl (lv_at hl 0 rfl) ?_
  refine lv_iload_n hx hb dL_stockByShelves_3 rfl (lv_at hl 1 rfl) ?_
  have hPc := P_head (ws := (wL cI cZ cS cL (fS hs) (fG hs) o fl a M)) (ws' := (wX8 cI cZ cS (fS hs) (fG hs) a M)) hP [1, 2, 3, 4, 5, 6, 7, 8, 9, 10, 11, 12, 13, 14, 15, 16, 17, 18, 19, 20, 21, 22, 23, 24, 25, 26, 27, 28, 29, 30, 31, 32, 33, 34, 35, 36, 37, 38, 39, 40, 41, 42] rfl
  have hDc := D_head (ws := (wL cI cZ cS cL (fS hs) (fG hs) o fl a M)) (ws' := (wX8 cI cZ cS (fS hs) (fG hs) a M)) hD [1, 2, 3, 4, 5, 6, 7, 8, 9, 10, 11, 12, 13, 14, 15, 16, 17, 18, 19, 20, 21, 22, 23, 24, 25, 26, 27, 28, 29, 30, 31, 32, 33, 34, 35, 36, 37, 38, 39, 40, 41, 42] (by decide) rfl
  have hFc := va_free (wc := (wX8 cI cZ cS (fS hs) (fG hs) a M)) hD hS hA [1, 2, 3, 4, 5, 6, 7, 8, 9, 10, 11, 12, 13, 14, 15, 16, 17, 18, 19, 20, 21, 22, 23, 24, 25, 26, 27, 28, 29, 30, 31, 32, 33, 34, 35, 36, 37, 38, 39, 40, 41, 42] rfl
  rcases hA9 with ⟨v, hr9, hk9⟩ | ⟨i9, E9, hi9, hr9, hk9⟩
  · subst hr9
    subst hk9
    refine cRO (W.runV (As := [.int a1]) (rest := [.int (0 : Int32), .ref o]) ⟨hx, hb, hml, hown, hts⟩ (n_X8_stockByShelves l dC dI cI cZ cS (fS hs) (fG hs) a M a1 v hf) (cwV 1 hts gL_stockByShelves_X8_stockByShelves rfl rfl rfl (by decide +kernel) ⟨Nat.le_of_ble_eq_true rfl, Nat.le_of_ble_eq_true rfl⟩) ⟨RO8.blind, va_recv hK hP (ci := 8) (q0 := 1) rfl rfl, RO8.pre hPc hK8 hNW⟩ rfl rfl hl.1 rfl (lv_room (Nat.le_of_ble_eq_true rfl)) dL_stockByShelves_4 ⟨Nat.le_of_ble_eq_true rfl, Nat.le_of_ble_eq_true rfl⟩) ?_
    refine lv_i2l (v := v.toInt64) hx hb dL_stockByShelves_7 rfl ?_
    refine va_last (D := (dC, dI)) (f := fl) hx hb hK hP hD hS 0 3 rfl rfl (inb_in rfl) dL_stockByShelves_8 (fun H locs hP hD hS => ?_)
    have hP : va_P (dC, dI) vwCl ((wL cI cZ cS cL (fS hs) (fG hs) o (vp_updL fl 0 v.toInt64) a M) ++ RW cI cZ hs) H := hP
    have hD : va_D A ((wL cI cZ cS cL (fS hs) (fG hs) o (vp_updL fl 0 v.toInt64) a M) ++ RW cI cZ hs) := hD
    refine lv_goto (tgt := 15) hx hb dL_stockByShelves_9 (by decide) ?_
    refine lv_iconst (v := (0 : Int32)) hx hb dL_stockByShelves_15 (by decide) ?_
    refine W.widen (k := 1) (n := 6) (Nat.le_of_ble_eq_true rfl) (Nat.le_of_ble_eq_true rfl) ?_
    exact W.iret hx hb hr (fun t ht hW => ⟨⟨_, (hs, (vp_updL fl 0 v.toInt64)), rfl, ⟨rfl, rfl, fun v9 h9 => by cases h9; rfl⟩, WE.mk hP hD ht⟩, hS.F ht⟩) hS.2.2 dL_stockByShelves_16
  · subst hr9
    refine vx_thrH (vx_runV (As := [.int a1]) (rest := [.int (0 : Int32), .ref o]) ⟨hx, hb, hml, hown, hts⟩ (t_X8_stockByShelves l hst dC dI cI cZ cS (fS hs) (fG hs) a _ M a1 E9 hf) (cwV 1 hts gL_stockByShelves_X8_stockByShelves rfl rfl rfl (by decide +kernel) ⟨Nat.le_of_ble_eq_true rfl, Nat.le_of_ble_eq_true rfl⟩) ⟨T8.blind, va_recv hK hP (ci := 8) (q0 := 1) rfl rfl, T8.pre hPc hK8 hDc hNW (hEX.at hS hFc)⟩ rfl rfl hl.1 rfl (lv_room (Nat.le_of_ble_eq_true rfl)) dL_stockByShelves_4 ⟨Nat.le_of_ble_eq_true rfl, Nat.le_of_ble_eq_true rfl⟩) hS (fun q _ h => hFc q h) hFc (fun ce q9 t H1 locs1 ht hal hP1 hD1 hz1 hk1 hS hce hcv hcl => ?_)
    obtain ⟨hP, hD⟩ := join_app (ws := (wL cI cZ cS cL (fS hs) (fG hs) o fl a M)) (wr := [(o, .inl (cL, 1, .inr (.inl fl)))]) (w1 := _) hP hD [1, 2, 3, 4, 5, 6, 7, 8, 9, 10, 11, 12, 13, 14, 15, 16, 17, 18, 19, 20, 21, 22, 23, 24, 25, 26, 27, 28, 29, 30, 31, 32, 33, 34, 35, 36, 37, 38, 39, 40, 41, 42] [0] rfl rfl (by decide) (by decide) hk1 hFc hP1 hD1
    have hP : va_P (dC, dI) vwCl ((wL cI cZ cS cL (fS hs) (fG hs) o fl a M) ++ RW cI cZ hs) H1 := hP
    have hD : va_D A ((wL cI cZ cS cL (fS hs) (fG hs) o fl a M) ++ RW cI cZ hs) := hD
    generalize H1 = H at hP hS hce ⊢
    rcases (show i9 = 0 by have h7 := (List.getElem?_eq_some_iff.mp hi9).1; simp only [List.length] at h7; omega) with rfl
    · cases hi9
      refine vx_catch (own := RL) (name := "java/lang/IndexOutOfBoundsException") hown [] ⟨0, 9, 12, 20⟩ [] htab (fun z hz => nomatch hz) rfl (by decide) hcl20 ((nc422 hNW).use rfl) hce hcv hcl ?_
      refine lv_astore_n (lv' := [(3, .ref q9), (0, .ref (a 0)), (1, .int a1), (2, .ref o)]) hx hb dL_stockByShelves_12 rfl hl (by decide) rfl (fun ls hl => ?_)
      refine lv_iconst (v := (1 : Int32)) hx hb dL_stockByShelves_13 (by decide) ?_
      refine W.widen (k := 1) (n := 6) (Nat.le_of_ble_eq_true rfl) (Nat.le_of_ble_eq_true rfl) ?_
      exact W.iret hx hb hr (fun t ht hW => ⟨⟨_, (hs, fl), rfl, ⟨hk9.symm, rfl, fun v9 h9 => by cases h9⟩, WE.mk hP hD ht⟩, hS.F ht⟩) hS.2.2 dL_stockByShelves_14
set_option maxHeartbeats 4000000 in
set_option maxRecDepth 100000 in
theorem w_L_stockByAccount (l : Launch) (hst : l.stackTraces = false) (dC : Nat → ClassId) (dI : Nat → Nat → Nat) (cI cZ cS cL : ClassId) (hs : HS) (o : Nat) (fl : Nat → Int64) (a : Nat → Nat) (sz : Nat) (M : Mem) (a1 : Int32) (r : String ⊕ Int32) (kk : Int32) (hf : fX8_stockByAccount M a1 = some r) (hA9 : Ans ["java/lang/IndexOutOfBoundsException"] r kk) : Met l yL_stockByAccount wsL_stockByAccount ({ frames := 8, cells := 1, slots := 6, locals := 152 } : Room) (va_Pc [.ref (a 0), .int a1, .ref o] (T9 (dC, dI) cI cZ cS cL ((wL cI cZ cS cL (fS hs) (fG hs) o fl a M) ++ RW cI cZ hs) sz)) (va_Qi (S := HS × (Nat → Int64)) (fun k u => k = kk ∧ u.1 = hs ∧ ∀ v, r = .inr v → u.2 0 = v.toInt64) (fun u t => WE (dC, dI) cI cZ ((wL cI cZ cS cL (fS u.1) (fG u.1) o u.2 a M) ++ RW cI cZ u.1) (va_A ((wL cI cZ cS cL (fS hs) (fG hs) o fl a M) ++ RW cI cZ hs) sz) t) (va_A ((wL cI cZ cS cL (fS hs) (fG hs) o fl a M) ++ RW cI cZ hs) sz)) 1 6 (va_A ((wL cI cZ cS cL (fS hs) (fG hs) o fl a M) ++ RW cI cZ hs) sz) := by
  refine va_MetW (cc := cL_stockByAccount) (maxL := 4) (ret := (some .int)) (hh := [(0, 9, 12, 20)]) (by decide) rfl ?_
  intro p e s m args below meth c s₁ B hml hv
  obtain ⟨rfl, hsz, hP, hK, hD0, hNW, hEX, hNC⟩ := hv
  have hx := B.exec
  have hb := B.bytes
  have hr := B.returns
  have hts := atoms_spec (ws := wsL_stockByAccount) B.pre
  have hown : s.vm.findClass RL = some m.cls := findClass_of_methodNamed B.named
  have htab : c.exceptionTable.toList = tableOf [(0, 9, 12, 20)] := vx_table (x := yL_law) B (hts (.codeWith yL_stockByAccount cL_stockByAccount 4 (some .int) [(0, 9, 12, 20)]) List.mem_cons_self)
  have hK8 : va_K (dC, dI) vwCl (tys8 cI cZ cS) s := hK.sub (tys' := tys8 cI cZ cS) [0, 1, 2] rfl
  have hcl20 := hts (.classLink RL 20 "java/lang/IndexOutOfBoundsException") (by decide +kernel)
  subst hsz
  have hD := hD0.self (sz := s.heap.size)
  generalize hAe : va_A ((wL cI cZ cS cL (fS hs) (fG hs) o fl a M) ++ RW cI cZ hs) s.heap.size = A at hD hEX ⊢
  have hA : ∀ q : Nat, s.heap.size ≤ q → A q := fun q h => by rw [← hAe]; exact Or.inr h
  have hS : va_S A s.heap s.heap [] := va_S.rf
  have hl := lv_entry ([.ref (a 0), .int a1, .ref o]) (n := 4) (Nat.le_of_ble_eq_true rfl)
  rw [lg_entry_eq]
  generalize (lg_sl ([.ref (a 0), .int a1, .ref o]) ++ List.replicate (4 - (lg_sl ([.ref (a 0), .int a1, .ref o])).length) Slot.unset).toArray = ls at hl ⊢
  have hl : lv_has ls 4 [(0, .ref (a 0)), (1, .int a1), (2, .ref o)] := hl
  suffices hgo : ∀ (H : Heap) (locs : List Loc), va_P (dC, dI) vwCl ((wL cI cZ cS cL (fS hs) (fG hs) o fl a M) ++ RW cI cZ hs) H → va_D A ((wL cI cZ cS cL (fS hs) (fG hs) o fl a M) ++ RW cI cZ hs) → va_S A s.heap H locs → W p l e (headSpec wsL_stockByAccount ({ frames := 8, cells := 1, slots := 6, locals := 152 } : Room)).room s m ([.ref (a 0), .int a1, .ref o] : List Value).toArray below meth c H locs 0 0 (MQ below (va_Qi (S := HS × (Nat → Int64)) (fun k u => k = kk ∧ u.1 = hs ∧ ∀ v, r = .inr v → u.2 0 = v.toInt64) (fun u t => WE (dC, dI) cI cZ ((wL cI cZ cS cL (fS u.1) (fG u.1) o u.2 a M) ++ RW cI cZ u.1) A t) A) ([.ref (a 0), .int a1, .ref o] : List Value).toArray s 1 6 A) (F0 m 0 ls []) from hgo _ _ hP hD hS
  intro H locs hP hD hS
  refine lv_aload_n hx hb dL_stockByAccount_0 rfl (lv_at hl 2 rfl) ?_
  refine lv_iconst (v := (0 : Int32)) hx hb dL_stockByAccount_1 (by decide) ?_
  refine lv_aload_n hx hb dL_stockByAccount_2 rfl (lv_at hl 0 rfl) ?_
  refine lv_iload_n hx hb dL_stockByAccount_3 rfl (lv_at hl 1 rfl) ?_
  have hPc := P_head (ws := (wL cI cZ cS cL (fS hs) (fG hs) o fl a M)) (ws' := (wX8 cI cZ cS (fS hs) (fG hs) a M)) hP [1, 2, 3, 4, 5, 6, 7, 8, 9, 10, 11, 12, 13, 14, 15, 16, 17, 18, 19, 20, 21, 22, 23, 24, 25, 26, 27, 28, 29, 30, 31, 32, 33, 34, 35, 36, 37, 38, 39, 40, 41, 42] rfl
  have hDc := D_head (ws := (wL cI cZ cS cL (fS hs) (fG hs) o fl a M)) (ws' := (wX8 cI cZ cS (fS hs) (fG hs) a M)) hD [1, 2, 3, 4, 5, 6, 7, 8, 9, 10, 11, 12, 13, 14, 15, 16, 17, 18, 19, 20, 21, 22, 23, 24, 25, 26, 27, 28, 29, 30, 31, 32, 33, 34, 35, 36, 37, 38, 39, 40, 41, 42] (by decide) rfl
  have hFc := va_free (wc := (wX8 cI cZ cS (fS hs) (fG hs) a M)) hD hS hA [1, 2, 3, 4, 5, 6, 7, 8, 9, 10, 11, 12, 13, 14, 15, 16, 17, 18, 19, 20, 21, 22, 23, 24, 25, 26, 27, 28, 29, 30, 31, 32, 33, 34, 35, 36, 37, 38, 39, 40, 41, 42] rfl
  rcases hA9 with ⟨v, hr9, hk9⟩ | ⟨i9, E9, hi9, hr9, hk9⟩
  · subst hr9
    subst hk9
    refine cRO (W.runV (As := [.int a1]) (rest := [.int (0 : Int32), .ref o]) ⟨hx, hb, hml, hown, hts⟩ (n_X8_stockByAccount l dC dI cI cZ cS (fS hs) (fG hs) a M a1 v hf) (cwV 1 hts gL_stockByAccount_X8_stockByAccount rfl rfl rfl (by decide +kernel) ⟨Nat.le_of_ble_eq_true rfl, Nat.le_of_ble_eq_true rfl⟩) ⟨RO8.blind, va_recv hK hP (ci := 8) (q0 := 1) rfl rfl, RO8.pre hPc hK8 hNW⟩ rfl rfl hl.1 rfl (lv_room (Nat.le_of_ble_eq_true rfl)) dL_stockByAccount_4 ⟨Nat.le_of_ble_eq_true rfl, Nat.le_of_ble_eq_true rfl⟩) ?_
    refine lv_i2l (v := v.toInt64) hx hb dL_stockByAccount_7 rfl ?_
    refine va_last (D := (dC, dI)) (f := fl) hx hb hK hP hD hS 0 3 rfl rfl (inb_in rfl) dL_stockByAccount_8 (fun H locs hP hD hS => ?_)
    have hP : va_P (dC, dI) vwCl ((wL cI cZ cS cL (fS hs) (fG hs) o (vp_updL fl 0 v.toInt64) a M) ++ RW cI cZ hs) H := hP
    have hD : va_D A ((wL cI cZ cS cL (fS hs) (fG hs) o (vp_updL fl 0 v.toInt64) a M) ++ RW cI cZ hs) := hD
    refine lv_goto (tgt := 15) hx hb dL_stockByAccount_9 (by decide) ?_
    refine lv_iconst (v := (0 : Int32)) hx hb dL_stockByAccount_15 (by decide) ?_
    refine W.widen (k := 1) (n := 6) (Nat.le_of_ble_eq_true rfl) (Nat.le_of_ble_eq_true rfl) ?_
    exact W.iret hx hb hr (fun t ht hW => ⟨⟨_, (hs, (vp_updL fl 0 v.toInt64)), rfl, ⟨rfl, rfl, fun v9 h9 => by cases h9; rfl⟩, WE.mk hP hD ht⟩, hS.F ht⟩) hS.2.2 dL_stockByAccount_16
  · subst hr9
    refine vx_thrH (vx_runV (As := [.int a1]) (rest := [.int (0 : Int32), .ref o]) ⟨hx, hb, hml, hown, hts⟩ (t_X8_stockByAccount l hst dC dI cI cZ cS (fS hs) (fG hs) a _ M a1 E9 hf) (cwV 1 hts gL_stockByAccount_X8_stockByAccount rfl rfl rfl (by decide +kernel) ⟨Nat.le_of_ble_eq_true rfl, Nat.le_of_ble_eq_true rfl⟩) ⟨T8.blind, va_recv hK hP (ci := 8) (q0 := 1) rfl rfl, T8.pre hPc hK8 hDc hNW (hEX.at hS hFc)⟩ rfl rfl hl.1 rfl (lv_room (Nat.le_of_ble_eq_true rfl)) dL_stockByAccount_4 ⟨Nat.le_of_ble_eq_true rfl, Nat.le_of_ble_eq_true rfl⟩) hS (fun q _ h => hFc q h) hFc (fun ce q9 t H1 locs1 ht hal hP1 hD1 hz1 hk1 hS hce hcv hcl => ?_)
    obtain ⟨hP, hD⟩ := join_app (ws := (wL cI cZ cS cL (fS hs) (fG hs) o fl a M)) (wr := [(o, .inl (cL, 1, .inr (.inl fl)))]) (w1 := _) hP hD [1, 2, 3, 4, 5, 6, 7, 8, 9, 10, 11, 12, 13, 14, 15, 16, 17, 18, 19, 20, 21, 22, 23, 24, 25, 26, 27, 28, 29, 30, 31, 32, 33, 34, 35, 36, 37, 38, 39, 40, 41, 42] [0] rfl rfl (by decide) (by decide) hk1 hFc hP1 hD1
    have hP : va_P (dC, dI) vwCl ((wL cI cZ cS cL (fS hs) (fG hs) o fl a M) ++ RW cI cZ hs) H1 := hP
    have hD : va_D A ((wL cI cZ cS cL (fS hs) (fG hs) o fl a M) ++ RW cI cZ hs) := hD
    generalize H1 = H at hP hS hce ⊢
    rcases (show i9 = 0 by have h7 := (List.getElem?_eq_some_iff.mp hi9).1; simp only [List.length] at h7; omega) with rfl
    · cases hi9
      refine vx_catch (own := RL) (name := "java/lang/IndexOutOfBoundsException") hown [] ⟨0, 9, 12, 20⟩ [] htab (fun z hz => nomatch hz) rfl (by decide) hcl20 ((nc422 hNW).use rfl) hce hcv hcl ?_
      refine lv_astore_n (lv' := [(3, .ref q9), (0, .ref (a 0)), (1, .int a1), (2, .ref o)]) hx hb dL_stockByAccount_12 rfl hl (by decide) rfl (fun ls hl => ?_)
      refine lv_iconst (v := (1 : Int32)) hx hb dL_stockByAccount_13 (by decide) ?_
      refine W.widen (k := 1) (n := 6) (Nat.le_of_ble_eq_true rfl) (Nat.le_of_ble_eq_true rfl) ?_
      exact W.iret hx hb hr (fun t ht hW => ⟨⟨_, (hs, fl), rfl, ⟨hk9.symm, rfl, fun v9 h9 => by cases h9⟩, WE.mk hP hD ht⟩, hS.F ht⟩) hS.2.2 dL_stockByAccount_14
set_option maxHeartbeats 4000000 in
set_option maxRecDepth 100000 in
theorem w_L_shelvesWith (l : Launch) (hst : l.stackTraces = false) (dC : Nat → ClassId) (dI : Nat → Nat → Nat) (cI cZ cS cL : ClassId) (hs : HS) (o : Nat) (fl : Nat → Int64) (a : Nat → Nat) (sz : Nat) (M : Mem) (a1 : Int32) (r : String ⊕ Int32) (kk : Int32) (hf : fX8_shelvesWith M a1 = some r) (hA9 : Ans ["java/lang/IndexOutOfBoundsException"] r kk) : Met l yL_shelvesWith wsL_shelvesWith ({ frames := 8, cells := 1, slots := 6, locals := 152 } : Room) (va_Pc [.ref (a 0), .int a1, .ref o] (T9 (dC, dI) cI cZ cS cL ((wL cI cZ cS cL (fS hs) (fG hs) o fl a M) ++ RW cI cZ hs) sz)) (va_Qi (S := HS × (Nat → Int64)) (fun k u => k = kk ∧ u.1 = hs ∧ ∀ v, r = .inr v → u.2 0 = v.toInt64) (fun u t => WE (dC, dI) cI cZ ((wL cI cZ cS cL (fS u.1) (fG u.1) o u.2 a M) ++ RW cI cZ u.1) (va_A ((wL cI cZ cS cL (fS hs) (fG hs) o fl a M) ++ RW cI cZ hs) sz) t) (va_A ((wL cI cZ cS cL (fS hs) (fG hs) o fl a M) ++ RW cI cZ hs) sz)) 1 6 (va_A ((wL cI cZ cS cL (fS hs) (fG hs) o fl a M) ++ RW cI cZ hs) sz) := by
  refine va_MetW (cc := cL_shelvesWith) (maxL := 4) (ret := (some .int)) (hh := [(0, 9, 12, 20)]) (by decide) rfl ?_
  intro p e s m args below meth c s₁ B hml hv
  obtain ⟨rfl, hsz, hP, hK, hD0, hNW, hEX, hNC⟩ := hv
  have hx := B.exec
  have hb := B.bytes
  have hr := B.returns
  have hts := atoms_spec (ws := wsL_shelvesWith) B.pre
  have hown : s.vm.findClass RL = some m.cls := findClass_of_methodNamed B.named
  have htab : c.exceptionTable.toList = tableOf [(0, 9, 12, 20)] := vx_table (x := yL_law) B (hts (.codeWith yL_shelvesWith cL_shelvesWith 4 (some .int) [(0, 9, 12, 20)]) List.mem_cons_self)
  have hK8 : va_K (dC, dI) vwCl (tys8 cI cZ cS) s := hK.sub (tys' := tys8 cI cZ cS) [0, 1, 2] rfl
  have hcl20 := hts (.classLink RL 20 "java/lang/IndexOutOfBoundsException") (by decide +kernel)
  subst hsz
  have hD := hD0.self (sz := s.heap.size)
  generalize hAe : va_A ((wL cI cZ cS cL (fS hs) (fG hs) o fl a M) ++ RW cI cZ hs) s.heap.size = A at hD hEX ⊢
  have hA : ∀ q : Nat, s.heap.size ≤ q → A q := fun q h => by rw [← hAe]; exact Or.inr h
  have hS : va_S A s.heap s.heap [] := va_S.rf
  have hl := lv_entry ([.ref (a 0), .int a1, .ref o]) (n := 4) (Nat.le_of_ble_eq_true rfl)
  rw [lg_entry_eq]
  generalize (lg_sl ([.ref (a 0), .int a1, .ref o]) ++ List.replicate (4 - (lg_sl ([.ref (a 0), .int a1, .ref o])).length) Slot.unset).toArray = ls at hl ⊢
  have hl : lv_has ls 4 [(0, .ref (a 0)), (1, .int a1), (2, .ref o)] := hl
  suffices hgo : ∀ (H : Heap) (locs : List Loc), va_P (dC, dI) vwCl ((wL cI cZ cS cL (fS hs) (fG hs) o fl a M) ++ RW cI cZ hs) H → va_D A ((wL cI cZ cS cL (fS hs) (fG hs) o fl a M) ++ RW cI cZ hs) → va_S A s.heap H locs → W p l e (headSpec wsL_shelvesWith ({ frames := 8, cells := 1, slots := 6, locals := 152 } : Room)).room s m ([.ref (a 0), .int a1, .ref o] : List Value).toArray below meth c H locs 0 0 (MQ below (va_Qi (S := HS × (Nat → Int64)) (fun k u => k = kk ∧ u.1 = hs ∧ ∀ v, r = .inr v → u.2 0 = v.toInt64) (fun u t => WE (dC, dI) cI cZ ((wL cI cZ cS cL (fS u.1) (fG u.1) o u.2 a M) ++ RW cI cZ u.1) A t) A) ([.ref (a 0), .int a1, .ref o] : List Value).toArray s 1 6 A) (F0 m 0 ls []) from hgo _ _ hP hD hS
  intro H locs hP hD hS
  refine lv_aload_n hx hb dL_shelvesWith_0 rfl (lv_at hl 2 rfl) ?_
  refine lv_iconst (v := (0 : Int32)) hx hb dL_shelvesWith_1 (by decide) ?_
  refine lv_aload_n hx hb dL_shelvesWith_2 rfl (lv_at hl 0 rfl) ?_
  refine lv_iload_n hx hb dL_shelvesWith_3 rfl (lv_at hl 1 rfl) ?_
  have hPc := P_head (ws := (wL cI cZ cS cL (fS hs) (fG hs) o fl a M)) (ws' := (wX8 cI cZ cS (fS hs) (fG hs) a M)) hP [1, 2, 3, 4, 5, 6, 7, 8, 9, 10, 11, 12, 13, 14, 15, 16, 17, 18, 19, 20, 21, 22, 23, 24, 25, 26, 27, 28, 29, 30, 31, 32, 33, 34, 35, 36, 37, 38, 39, 40, 41, 42] rfl
  have hDc := D_head (ws := (wL cI cZ cS cL (fS hs) (fG hs) o fl a M)) (ws' := (wX8 cI cZ cS (fS hs) (fG hs) a M)) hD [1, 2, 3, 4, 5, 6, 7, 8, 9, 10, 11, 12, 13, 14, 15, 16, 17, 18, 19, 20, 21, 22, 23, 24, 25, 26, 27, 28, 29, 30, 31, 32, 33, 34, 35, 36, 37, 38, 39, 40, 41, 42] (by decide) rfl
  have hFc := va_free (wc := (wX8 cI cZ cS (fS hs) (fG hs) a M)) hD hS hA [1, 2, 3, 4, 5, 6, 7, 8, 9, 10, 11, 12, 13, 14, 15, 16, 17, 18, 19, 20, 21, 22, 23, 24, 25, 26, 27, 28, 29, 30, 31, 32, 33, 34, 35, 36, 37, 38, 39, 40, 41, 42] rfl
  rcases hA9 with ⟨v, hr9, hk9⟩ | ⟨i9, E9, hi9, hr9, hk9⟩
  · subst hr9
    subst hk9
    refine cRO (W.runV (As := [.int a1]) (rest := [.int (0 : Int32), .ref o]) ⟨hx, hb, hml, hown, hts⟩ (n_X8_shelvesWith l dC dI cI cZ cS (fS hs) (fG hs) a M a1 v hf) (cwV 1 hts gL_shelvesWith_X8_shelvesWith rfl rfl rfl (by decide +kernel) ⟨Nat.le_of_ble_eq_true rfl, Nat.le_of_ble_eq_true rfl⟩) ⟨RO8.blind, va_recv hK hP (ci := 8) (q0 := 1) rfl rfl, RO8.pre hPc hK8 hNW⟩ rfl rfl hl.1 rfl (lv_room (Nat.le_of_ble_eq_true rfl)) dL_shelvesWith_4 ⟨Nat.le_of_ble_eq_true rfl, Nat.le_of_ble_eq_true rfl⟩) ?_
    refine lv_i2l (v := v.toInt64) hx hb dL_shelvesWith_7 rfl ?_
    refine va_last (D := (dC, dI)) (f := fl) hx hb hK hP hD hS 0 3 rfl rfl (inb_in rfl) dL_shelvesWith_8 (fun H locs hP hD hS => ?_)
    have hP : va_P (dC, dI) vwCl ((wL cI cZ cS cL (fS hs) (fG hs) o (vp_updL fl 0 v.toInt64) a M) ++ RW cI cZ hs) H := hP
    have hD : va_D A ((wL cI cZ cS cL (fS hs) (fG hs) o (vp_updL fl 0 v.toInt64) a M) ++ RW cI cZ hs) := hD
    refine lv_goto (tgt := 15) hx hb dL_shelvesWith_9 (by decide) ?_
    refine lv_iconst (v := (0 : Int32)) hx hb dL_shelvesWith_15 (by decide) ?_
    refine W.widen (k := 1) (n := 6) (Nat.le_of_ble_eq_true rfl) (Nat.le_of_ble_eq_true rfl) ?_
    exact W.iret hx hb hr (fun t ht hW => ⟨⟨_, (hs, (vp_updL fl 0 v.toInt64)), rfl, ⟨rfl, rfl, fun v9 h9 => by cases h9; rfl⟩, WE.mk hP hD ht⟩, hS.F ht⟩) hS.2.2 dL_shelvesWith_16
  · subst hr9
    refine vx_thrH (vx_runV (As := [.int a1]) (rest := [.int (0 : Int32), .ref o]) ⟨hx, hb, hml, hown, hts⟩ (t_X8_shelvesWith l hst dC dI cI cZ cS (fS hs) (fG hs) a _ M a1 E9 hf) (cwV 1 hts gL_shelvesWith_X8_shelvesWith rfl rfl rfl (by decide +kernel) ⟨Nat.le_of_ble_eq_true rfl, Nat.le_of_ble_eq_true rfl⟩) ⟨T8.blind, va_recv hK hP (ci := 8) (q0 := 1) rfl rfl, T8.pre hPc hK8 hDc hNW (hEX.at hS hFc)⟩ rfl rfl hl.1 rfl (lv_room (Nat.le_of_ble_eq_true rfl)) dL_shelvesWith_4 ⟨Nat.le_of_ble_eq_true rfl, Nat.le_of_ble_eq_true rfl⟩) hS (fun q _ h => hFc q h) hFc (fun ce q9 t H1 locs1 ht hal hP1 hD1 hz1 hk1 hS hce hcv hcl => ?_)
    obtain ⟨hP, hD⟩ := join_app (ws := (wL cI cZ cS cL (fS hs) (fG hs) o fl a M)) (wr := [(o, .inl (cL, 1, .inr (.inl fl)))]) (w1 := _) hP hD [1, 2, 3, 4, 5, 6, 7, 8, 9, 10, 11, 12, 13, 14, 15, 16, 17, 18, 19, 20, 21, 22, 23, 24, 25, 26, 27, 28, 29, 30, 31, 32, 33, 34, 35, 36, 37, 38, 39, 40, 41, 42] [0] rfl rfl (by decide) (by decide) hk1 hFc hP1 hD1
    have hP : va_P (dC, dI) vwCl ((wL cI cZ cS cL (fS hs) (fG hs) o fl a M) ++ RW cI cZ hs) H1 := hP
    have hD : va_D A ((wL cI cZ cS cL (fS hs) (fG hs) o fl a M) ++ RW cI cZ hs) := hD
    generalize H1 = H at hP hS hce ⊢
    rcases (show i9 = 0 by have h7 := (List.getElem?_eq_some_iff.mp hi9).1; simp only [List.length] at h7; omega) with rfl
    · cases hi9
      refine vx_catch (own := RL) (name := "java/lang/IndexOutOfBoundsException") hown [] ⟨0, 9, 12, 20⟩ [] htab (fun z hz => nomatch hz) rfl (by decide) hcl20 ((nc422 hNW).use rfl) hce hcv hcl ?_
      refine lv_astore_n (lv' := [(3, .ref q9), (0, .ref (a 0)), (1, .int a1), (2, .ref o)]) hx hb dL_shelvesWith_12 rfl hl (by decide) rfl (fun ls hl => ?_)
      refine lv_iconst (v := (1 : Int32)) hx hb dL_shelvesWith_13 (by decide) ?_
      refine W.widen (k := 1) (n := 6) (Nat.le_of_ble_eq_true rfl) (Nat.le_of_ble_eq_true rfl) ?_
      exact W.iret hx hb hr (fun t ht hW => ⟨⟨_, (hs, fl), rfl, ⟨hk9.symm, rfl, fun v9 h9 => by cases h9⟩, WE.mk hP hD ht⟩, hS.F ht⟩) hS.2.2 dL_shelvesWith_14
set_option maxHeartbeats 4000000 in
set_option maxRecDepth 100000 in
theorem w_L_leastOf (l : Launch) (hst : l.stackTraces = false) (dC : Nat → ClassId) (dI : Nat → Nat → Nat) (cI cZ cS cL : ClassId) (hs : HS) (o : Nat) (fl : Nat → Int64) (a : Nat → Nat) (sz : Nat) (M : Mem) (a1 : Int32) (r : String ⊕ Int32) (kk : Int32) (hf : fX8_leastOf M a1 = some r) (hA9 : Ans ["java/lang/IndexOutOfBoundsException"] r kk) : Met l yL_leastOf wsL_leastOf ({ frames := 8, cells := 1, slots := 6, locals := 152 } : Room) (va_Pc [.ref (a 0), .int a1, .ref o] (T9 (dC, dI) cI cZ cS cL ((wL cI cZ cS cL (fS hs) (fG hs) o fl a M) ++ RW cI cZ hs) sz)) (va_Qi (S := HS × (Nat → Int64)) (fun k u => k = kk ∧ u.1 = hs ∧ ∀ v, r = .inr v → u.2 0 = v.toInt64) (fun u t => WE (dC, dI) cI cZ ((wL cI cZ cS cL (fS u.1) (fG u.1) o u.2 a M) ++ RW cI cZ u.1) (va_A ((wL cI cZ cS cL (fS hs) (fG hs) o fl a M) ++ RW cI cZ hs) sz) t) (va_A ((wL cI cZ cS cL (fS hs) (fG hs) o fl a M) ++ RW cI cZ hs) sz)) 1 6 (va_A ((wL cI cZ cS cL (fS hs) (fG hs) o fl a M) ++ RW cI cZ hs) sz) := by
  refine va_MetW (cc := cL_leastOf) (maxL := 4) (ret := (some .int)) (hh := [(0, 9, 12, 20)]) (by decide) rfl ?_
  intro p e s m args below meth c s₁ B hml hv
  obtain ⟨rfl, hsz, hP, hK, hD0, hNW, hEX, hNC⟩ := hv
  have hx := B.exec
  have hb := B.bytes
  have hr := B.returns
  have hts := atoms_spec (ws := wsL_leastOf) B.pre
  have hown : s.vm.findClass RL = some m.cls := findClass_of_methodNamed B.named
  have htab : c.exceptionTable.toList = tableOf [(0, 9, 12, 20)] := vx_table (x := yL_law) B (hts (.codeWith yL_leastOf cL_leastOf 4 (some .int) [(0, 9, 12, 20)]) List.mem_cons_self)
  have hK8 : va_K (dC, dI) vwCl (tys8 cI cZ cS) s := hK.sub (tys' := tys8 cI cZ cS) [0, 1, 2] rfl
  have hcl20 := hts (.classLink RL 20 "java/lang/IndexOutOfBoundsException") (by decide +kernel)
  subst hsz
  have hD := hD0.self (sz := s.heap.size)
  generalize hAe : va_A ((wL cI cZ cS cL (fS hs) (fG hs) o fl a M) ++ RW cI cZ hs) s.heap.size = A at hD hEX ⊢
  have hA : ∀ q : Nat, s.heap.size ≤ q → A q := fun q h => by rw [← hAe]; exact Or.inr h
  have hS : va_S A s.heap s.heap [] := va_S.rf
  have hl := lv_entry ([.ref (a 0), .int a1, .ref o]) (n := 4) (Nat.le_of_ble_eq_true rfl)
  rw [lg_entry_eq]
  generalize (lg_sl ([.ref (a 0), .int a1, .ref o]) ++ List.replicate (4 - (lg_sl ([.ref (a 0), .int a1, .ref o])).length) Slot.unset).toArray = ls at hl ⊢
  have hl : lv_has ls 4 [(0, .ref (a 0)), (1, .int a1), (2, .ref o)] := hl
  suffices hgo : ∀ (H : Heap) (locs : List Loc), va_P (dC, dI) vwCl ((wL cI cZ cS cL (fS hs) (fG hs) o fl a M) ++ RW cI cZ hs) H → va_D A ((wL cI cZ cS cL (fS hs) (fG hs) o fl a M) ++ RW cI cZ hs) → va_S A s.heap H locs → W p l e (headSpec wsL_leastOf ({ frames := 8, cells := 1, slots := 6, locals := 152 } : Room)).room s m ([.ref (a 0), .int a1, .ref o] : List Value).toArray below meth c H locs 0 0 (MQ below (va_Qi (S := HS × (Nat → Int64)) (fun k u => k = kk ∧ u.1 = hs ∧ ∀ v, r = .inr v → u.2 0 = v.toInt64) (fun u t => WE (dC, dI) cI cZ ((wL cI cZ cS cL (fS u.1) (fG u.1) o u.2 a M) ++ RW cI cZ u.1) A t) A) ([.ref (a 0), .int a1, .ref o] : List Value).toArray s 1 6 A) (F0 m 0 ls []) from hgo _ _ hP hD hS
  intro H locs hP hD hS
  refine lv_aload_n hx hb dL_leastOf_0 rfl (lv_at hl 2 rfl) ?_
  refine lv_iconst (v := (0 : Int32)) hx hb dL_leastOf_1 (by decide) ?_
  refine lv_aload_n hx hb dL_leastOf_2 rfl (lv_at hl 0 rfl) ?_
  refine lv_iload_n hx hb dL_leastOf_3 rfl (lv_at hl 1 rfl) ?_
  have hPc := P_head (ws := (wL cI cZ cS cL (fS hs) (fG hs) o fl a M)) (ws' := (wX8 cI cZ cS (fS hs) (fG hs) a M)) hP [1, 2, 3, 4, 5, 6, 7, 8, 9, 10, 11, 12, 13, 14, 15, 16, 17, 18, 19, 20, 21, 22, 23, 24, 25, 26, 27, 28, 29, 30, 31, 32, 33, 34, 35, 36, 37, 38, 39, 40, 41, 42] rfl
  have hDc := D_head (ws := (wL cI cZ cS cL (fS hs) (fG hs) o fl a M)) (ws' := (wX8 cI cZ cS (fS hs) (fG hs) a M)) hD [1, 2, 3, 4, 5, 6, 7, 8, 9, 10, 11, 12, 13, 14, 15, 16, 17, 18, 19, 20, 21, 22, 23, 24, 25, 26, 27, 28, 29, 30, 31, 32, 33, 34, 35, 36, 37, 38, 39, 40, 41, 42] (by decide) rfl
  have hFc := va_free (wc := (wX8 cI cZ cS (fS hs) (fG hs) a M)) hD hS hA [1, 2, 3, 4, 5, 6, 7, 8, 9, 10, 11, 12, 13, 14, 15, 16, 17, 18, 19, 20, 21, 22, 23, 24, 25, 26, 27, 28, 29, 30, 31, 32, 33, 34, 35, 36, 37, 38, 39, 40, 41, 42] rfl
  rcases hA9 with ⟨v, hr9, hk9⟩ | ⟨i9, E9, hi9, hr9, hk9⟩
  · subst hr9
    subst hk9
    refine cRO (W.runV (As := [.int a1]) (rest := [.int (0 : Int32), .ref o]) ⟨hx, hb, hml, hown, hts⟩ (n_X8_leastOf l dC dI cI cZ cS (fS hs) (fG hs) a M a1 v hf) (cwV 1 hts gL_leastOf_X8_leastOf rfl rfl rfl (by decide +kernel) ⟨Nat.le_of_ble_eq_true rfl, Nat.le_of_ble_eq_true rfl⟩) ⟨RO8.blind, va_recv hK hP (ci := 8) (q0 := 1) rfl rfl, RO8.pre hPc hK8 hNW⟩ rfl rfl hl.1 rfl (lv_room (Nat.le_of_ble_eq_true rfl)) dL_leastOf_4 ⟨Nat.le_of_ble_eq_true rfl, Nat.le_of_ble_eq_true rfl⟩) ?_
    refine lv_i2l (v := v.toInt64) hx hb dL_leastOf_7 rfl ?_
    refine va_last (D := (dC, dI)) (f := fl) hx hb hK hP hD hS 0 3 rfl rfl (inb_in rfl) dL_leastOf_8 (fun H locs hP hD hS => ?_)
    have hP : va_P (dC, dI) vwCl ((wL cI cZ cS cL (fS hs) (fG hs) o (vp_updL fl 0 v.toInt64) a M) ++ RW cI cZ hs) H := hP
    have hD : va_D A ((wL cI cZ cS cL (fS hs) (fG hs) o (vp_updL fl 0 v.toInt64) a M) ++ RW cI cZ hs) := hD
    refine lv_goto (tgt := 15) hx hb dL_leastOf_9 (by decide) ?_
    refine lv_iconst (v := (0 : Int32)) hx hb dL_leastOf_15 (by decide) ?_
    refine W.widen (k := 1) (n := 6) (Nat.le_of_ble_eq_true rfl) (Nat.le_of_ble_eq_true rfl) ?_
    exact W.iret hx hb hr (fun t ht hW => ⟨⟨_, (hs, (vp_updL fl 0 v.toInt64)), rfl, ⟨rfl, rfl, fun v9 h9 => by cases h9; rfl⟩, WE.mk hP hD ht⟩, hS.F ht⟩) hS.2.2 dL_leastOf_16
  · subst hr9
    refine vx_thrH (vx_runV (As := [.int a1]) (rest := [.int (0 : Int32), .ref o]) ⟨hx, hb, hml, hown, hts⟩ (t_X8_leastOf l hst dC dI cI cZ cS (fS hs) (fG hs) a _ M a1 E9 hf) (cwV 1 hts gL_leastOf_X8_leastOf rfl rfl rfl (by decide +kernel) ⟨Nat.le_of_ble_eq_true rfl, Nat.le_of_ble_eq_true rfl⟩) ⟨T8.blind, va_recv hK hP (ci := 8) (q0 := 1) rfl rfl, T8.pre hPc hK8 hDc hNW (hEX.at hS hFc)⟩ rfl rfl hl.1 rfl (lv_room (Nat.le_of_ble_eq_true rfl)) dL_leastOf_4 ⟨Nat.le_of_ble_eq_true rfl, Nat.le_of_ble_eq_true rfl⟩) hS (fun q _ h => hFc q h) hFc (fun ce q9 t H1 locs1 ht hal hP1 hD1 hz1 hk1 hS hce hcv hcl => ?_)
    obtain ⟨hP, hD⟩ := join_app (ws := (wL cI cZ cS cL (fS hs) (fG hs) o fl a M)) (wr := [(o, .inl (cL, 1, .inr (.inl fl)))]) (w1 := _) hP hD [1, 2, 3, 4, 5, 6, 7, 8, 9, 10, 11, 12, 13, 14, 15, 16, 17, 18, 19, 20, 21, 22, 23, 24, 25, 26, 27, 28, 29, 30, 31, 32, 33, 34, 35, 36, 37, 38, 39, 40, 41, 42] [0] rfl rfl (by decide) (by decide) hk1 hFc hP1 hD1
    have hP : va_P (dC, dI) vwCl ((wL cI cZ cS cL (fS hs) (fG hs) o fl a M) ++ RW cI cZ hs) H1 := hP
    have hD : va_D A ((wL cI cZ cS cL (fS hs) (fG hs) o fl a M) ++ RW cI cZ hs) := hD
    generalize H1 = H at hP hS hce ⊢
    rcases (show i9 = 0 by have h7 := (List.getElem?_eq_some_iff.mp hi9).1; simp only [List.length] at h7; omega) with rfl
    · cases hi9
      refine vx_catch (own := RL) (name := "java/lang/IndexOutOfBoundsException") hown [] ⟨0, 9, 12, 20⟩ [] htab (fun z hz => nomatch hz) rfl (by decide) hcl20 ((nc422 hNW).use rfl) hce hcv hcl ?_
      refine lv_astore_n (lv' := [(3, .ref q9), (0, .ref (a 0)), (1, .int a1), (2, .ref o)]) hx hb dL_leastOf_12 rfl hl (by decide) rfl (fun ls hl => ?_)
      refine lv_iconst (v := (1 : Int32)) hx hb dL_leastOf_13 (by decide) ?_
      refine W.widen (k := 1) (n := 6) (Nat.le_of_ble_eq_true rfl) (Nat.le_of_ble_eq_true rfl) ?_
      exact W.iret hx hb hr (fun t ht hW => ⟨⟨_, (hs, fl), rfl, ⟨hk9.symm, rfl, fun v9 h9 => by cases h9⟩, WE.mk hP hD ht⟩, hS.F ht⟩) hS.2.2 dL_leastOf_14
set_option maxHeartbeats 4000000 in
set_option maxRecDepth 100000 in
theorem w_L_missingOf (l : Launch) (hst : l.stackTraces = false) (dC : Nat → ClassId) (dI : Nat → Nat → Nat) (cI cZ cS cL : ClassId) (hs : HS) (o : Nat) (fl : Nat → Int64) (a : Nat → Nat) (sz : Nat) (M : Mem) (a1 : Int32) (r : String ⊕ Int32) (kk : Int32) (hf : fX8_missingOf M a1 = some r) (hA9 : Ans ["java/lang/IndexOutOfBoundsException"] r kk) : Met l yL_missingOf wsL_missingOf ({ frames := 8, cells := 1, slots := 6, locals := 152 } : Room) (va_Pc [.ref (a 0), .int a1, .ref o] (T9 (dC, dI) cI cZ cS cL ((wL cI cZ cS cL (fS hs) (fG hs) o fl a M) ++ RW cI cZ hs) sz)) (va_Qi (S := HS × (Nat → Int64)) (fun k u => k = kk ∧ u.1 = hs ∧ ∀ v, r = .inr v → u.2 0 = v.toInt64) (fun u t => WE (dC, dI) cI cZ ((wL cI cZ cS cL (fS u.1) (fG u.1) o u.2 a M) ++ RW cI cZ u.1) (va_A ((wL cI cZ cS cL (fS hs) (fG hs) o fl a M) ++ RW cI cZ hs) sz) t) (va_A ((wL cI cZ cS cL (fS hs) (fG hs) o fl a M) ++ RW cI cZ hs) sz)) 1 6 (va_A ((wL cI cZ cS cL (fS hs) (fG hs) o fl a M) ++ RW cI cZ hs) sz) := by
  refine va_MetW (cc := cL_missingOf) (maxL := 4) (ret := (some .int)) (hh := [(0, 9, 12, 20)]) (by decide) rfl ?_
  intro p e s m args below meth c s₁ B hml hv
  obtain ⟨rfl, hsz, hP, hK, hD0, hNW, hEX, hNC⟩ := hv
  have hx := B.exec
  have hb := B.bytes
  have hr := B.returns
  have hts := atoms_spec (ws := wsL_missingOf) B.pre
  have hown : s.vm.findClass RL = some m.cls := findClass_of_methodNamed B.named
  have htab : c.exceptionTable.toList = tableOf [(0, 9, 12, 20)] := vx_table (x := yL_law) B (hts (.codeWith yL_missingOf cL_missingOf 4 (some .int) [(0, 9, 12, 20)]) List.mem_cons_self)
  have hK8 : va_K (dC, dI) vwCl (tys8 cI cZ cS) s := hK.sub (tys' := tys8 cI cZ cS) [0, 1, 2] rfl
  have hcl20 := hts (.classLink RL 20 "java/lang/IndexOutOfBoundsException") (by decide +kernel)
  subst hsz
  have hD := hD0.self (sz := s.heap.size)
  generalize hAe : va_A ((wL cI cZ cS cL (fS hs) (fG hs) o fl a M) ++ RW cI cZ hs) s.heap.size = A at hD hEX ⊢
  have hA : ∀ q : Nat, s.heap.size ≤ q → A q := fun q h => by rw [← hAe]; exact Or.inr h
  have hS : va_S A s.heap s.heap [] := va_S.rf
  have hl := lv_entry ([.ref (a 0), .int a1, .ref o]) (n := 4) (Nat.le_of_ble_eq_true rfl)
  rw [lg_entry_eq]
  generalize (lg_sl ([.ref (a 0), .int a1, .ref o]) ++ List.replicate (4 - (lg_sl ([.ref (a 0), .int a1, .ref o])).length) Slot.unset).toArray = ls at hl ⊢
  have hl : lv_has ls 4 [(0, .ref (a 0)), (1, .int a1), (2, .ref o)] := hl
  suffices hgo : ∀ (H : Heap) (locs : List Loc), va_P (dC, dI) vwCl ((wL cI cZ cS cL (fS hs) (fG hs) o fl a M) ++ RW cI cZ hs) H → va_D A ((wL cI cZ cS cL (fS hs) (fG hs) o fl a M) ++ RW cI cZ hs) → va_S A s.heap H locs → W p l e (headSpec wsL_missingOf ({ frames := 8, cells := 1, slots := 6, locals := 152 } : Room)).room s m ([.ref (a 0), .int a1, .ref o] : List Value).toArray below meth c H locs 0 0 (MQ below (va_Qi (S := HS × (Nat → Int64)) (fun k u => k = kk ∧ u.1 = hs ∧ ∀ v, r = .inr v → u.2 0 = v.toInt64) (fun u t => WE (dC, dI) cI cZ ((wL cI cZ cS cL (fS u.1) (fG u.1) o u.2 a M) ++ RW cI cZ u.1) A t) A) ([.ref (a 0), .int a1, .ref o] : List Value).toArray s 1 6 A) (F0 m 0 ls []) from hgo _ _ hP hD hS
  intro H locs hP hD hS
  refine lv_aload_n hx hb dL_missingOf_0 rfl (lv_at hl 2 rfl) ?_
  refine lv_iconst (v := (0 : Int32)) hx hb dL_missingOf_1 (by decide) ?_
  refine lv_aload_n hx hb dL_missingOf_2 rfl (lv_at hl 0 rfl) ?_
  refine lv_iload_n hx hb dL_missingOf_3 rfl (lv_at hl 1 rfl) ?_
  have hPc := P_head (ws := (wL cI cZ cS cL (fS hs) (fG hs) o fl a M)) (ws' := (wX8 cI cZ cS (fS hs) (fG hs) a M)) hP [1, 2, 3, 4, 5, 6, 7, 8, 9, 10, 11, 12, 13, 14, 15, 16, 17, 18, 19, 20, 21, 22, 23, 24, 25, 26, 27, 28, 29, 30, 31, 32, 33, 34, 35, 36, 37, 38, 39, 40, 41, 42] rfl
  have hDc := D_head (ws := (wL cI cZ cS cL (fS hs) (fG hs) o fl a M)) (ws' := (wX8 cI cZ cS (fS hs) (fG hs) a M)) hD [1, 2, 3, 4, 5, 6, 7, 8, 9, 10, 11, 12, 13, 14, 15, 16, 17, 18, 19, 20, 21, 22, 23, 24, 25, 26, 27, 28, 29, 30, 31, 32, 33, 34, 35, 36, 37, 38, 39, 40, 41, 42] (by decide) rfl
  have hFc := va_free (wc := (wX8 cI cZ cS (fS hs) (fG hs) a M)) hD hS hA [1, 2, 3, 4, 5, 6, 7, 8, 9, 10, 11, 12, 13, 14, 15, 16, 17, 18, 19, 20, 21, 22, 23, 24, 25, 26, 27, 28, 29, 30, 31, 32, 33, 34, 35, 36, 37, 38, 39, 40, 41, 42] rfl
  rcases hA9 with ⟨v, hr9, hk9⟩ | ⟨i9, E9, hi9, hr9, hk9⟩
  · subst hr9
    subst hk9
    refine cRO (W.runV (As := [.int a1]) (rest := [.int (0 : Int32), .ref o]) ⟨hx, hb, hml, hown, hts⟩ (n_X8_missingOf l dC dI cI cZ cS (fS hs) (fG hs) a M a1 v hf) (cwV 1 hts gL_missingOf_X8_missingOf rfl rfl rfl (by decide +kernel) ⟨Nat.le_of_ble_eq_true rfl, Nat.le_of_ble_eq_true rfl⟩) ⟨RO8.blind, va_recv hK hP (ci := 8) (q0 := 1) rfl rfl, RO8.pre hPc hK8 hNW⟩ rfl rfl hl.1 rfl (lv_room (Nat.le_of_ble_eq_true rfl)) dL_missingOf_4 ⟨Nat.le_of_ble_eq_true rfl, Nat.le_of_ble_eq_true rfl⟩) ?_
    refine lv_i2l (v := v.toInt64) hx hb dL_missingOf_7 rfl ?_
    refine va_last (D := (dC, dI)) (f := fl) hx hb hK hP hD hS 0 3 rfl rfl (inb_in rfl) dL_missingOf_8 (fun H locs hP hD hS => ?_)
    have hP : va_P (dC, dI) vwCl ((wL cI cZ cS cL (fS hs) (fG hs) o (vp_updL fl 0 v.toInt64) a M) ++ RW cI cZ hs) H := hP
    have hD : va_D A ((wL cI cZ cS cL (fS hs) (fG hs) o (vp_updL fl 0 v.toInt64) a M) ++ RW cI cZ hs) := hD
    refine lv_goto (tgt := 15) hx hb dL_missingOf_9 (by decide) ?_
    refine lv_iconst (v := (0 : Int32)) hx hb dL_missingOf_15 (by decide) ?_
    refine W.widen (k := 1) (n := 6) (Nat.le_of_ble_eq_true rfl) (Nat.le_of_ble_eq_true rfl) ?_
    exact W.iret hx hb hr (fun t ht hW => ⟨⟨_, (hs, (vp_updL fl 0 v.toInt64)), rfl, ⟨rfl, rfl, fun v9 h9 => by cases h9; rfl⟩, WE.mk hP hD ht⟩, hS.F ht⟩) hS.2.2 dL_missingOf_16
  · subst hr9
    refine vx_thrH (vx_runV (As := [.int a1]) (rest := [.int (0 : Int32), .ref o]) ⟨hx, hb, hml, hown, hts⟩ (t_X8_missingOf l hst dC dI cI cZ cS (fS hs) (fG hs) a _ M a1 E9 hf) (cwV 1 hts gL_missingOf_X8_missingOf rfl rfl rfl (by decide +kernel) ⟨Nat.le_of_ble_eq_true rfl, Nat.le_of_ble_eq_true rfl⟩) ⟨T8.blind, va_recv hK hP (ci := 8) (q0 := 1) rfl rfl, T8.pre hPc hK8 hDc hNW (hEX.at hS hFc)⟩ rfl rfl hl.1 rfl (lv_room (Nat.le_of_ble_eq_true rfl)) dL_missingOf_4 ⟨Nat.le_of_ble_eq_true rfl, Nat.le_of_ble_eq_true rfl⟩) hS (fun q _ h => hFc q h) hFc (fun ce q9 t H1 locs1 ht hal hP1 hD1 hz1 hk1 hS hce hcv hcl => ?_)
    obtain ⟨hP, hD⟩ := join_app (ws := (wL cI cZ cS cL (fS hs) (fG hs) o fl a M)) (wr := [(o, .inl (cL, 1, .inr (.inl fl)))]) (w1 := _) hP hD [1, 2, 3, 4, 5, 6, 7, 8, 9, 10, 11, 12, 13, 14, 15, 16, 17, 18, 19, 20, 21, 22, 23, 24, 25, 26, 27, 28, 29, 30, 31, 32, 33, 34, 35, 36, 37, 38, 39, 40, 41, 42] [0] rfl rfl (by decide) (by decide) hk1 hFc hP1 hD1
    have hP : va_P (dC, dI) vwCl ((wL cI cZ cS cL (fS hs) (fG hs) o fl a M) ++ RW cI cZ hs) H1 := hP
    have hD : va_D A ((wL cI cZ cS cL (fS hs) (fG hs) o fl a M) ++ RW cI cZ hs) := hD
    generalize H1 = H at hP hS hce ⊢
    rcases (show i9 = 0 by have h7 := (List.getElem?_eq_some_iff.mp hi9).1; simp only [List.length] at h7; omega) with rfl
    · cases hi9
      refine vx_catch (own := RL) (name := "java/lang/IndexOutOfBoundsException") hown [] ⟨0, 9, 12, 20⟩ [] htab (fun z hz => nomatch hz) rfl (by decide) hcl20 ((nc422 hNW).use rfl) hce hcv hcl ?_
      refine lv_astore_n (lv' := [(3, .ref q9), (0, .ref (a 0)), (1, .int a1), (2, .ref o)]) hx hb dL_missingOf_12 rfl hl (by decide) rfl (fun ls hl => ?_)
      refine lv_iconst (v := (1 : Int32)) hx hb dL_missingOf_13 (by decide) ?_
      refine W.widen (k := 1) (n := 6) (Nat.le_of_ble_eq_true rfl) (Nat.le_of_ble_eq_true rfl) ?_
      exact W.iret hx hb hr (fun t ht hW => ⟨⟨_, (hs, fl), rfl, ⟨hk9.symm, rfl, fun v9 h9 => by cases h9⟩, WE.mk hP hD ht⟩, hS.F ht⟩) hS.2.2 dL_missingOf_14
set_option maxHeartbeats 4000000 in
set_option maxRecDepth 100000 in
theorem w_L_wanted (l : Launch) (hst : l.stackTraces = false) (dC : Nat → ClassId) (dI : Nat → Nat → Nat) (cI cZ cS cL : ClassId) (hs : HS) (o : Nat) (fl : Nat → Int64) (a : Nat → Nat) (sz : Nat) (M : Mem) (a1 : Int32) (a2 : Int32) (r : String ⊕ Int32) (kk : Int32) (hf : fX8_wanted M a1 a2 = some r) (hA9 : Ans ["java/lang/IndexOutOfBoundsException"] r kk) : Met l yL_wanted wsL_wanted ({ frames := 8, cells := 1, slots := 6, locals := 153 } : Room) (va_Pc [.ref (a 0), .int a1, .int a2, .ref o] (T9 (dC, dI) cI cZ cS cL ((wL cI cZ cS cL (fS hs) (fG hs) o fl a M) ++ RW cI cZ hs) sz)) (va_Qi (S := HS × (Nat → Int64)) (fun k u => k = kk ∧ u.1 = hs ∧ ∀ v, r = .inr v → u.2 0 = v.toInt64) (fun u t => WE (dC, dI) cI cZ ((wL cI cZ cS cL (fS u.1) (fG u.1) o u.2 a M) ++ RW cI cZ u.1) (va_A ((wL cI cZ cS cL (fS hs) (fG hs) o fl a M) ++ RW cI cZ hs) sz) t) (va_A ((wL cI cZ cS cL (fS hs) (fG hs) o fl a M) ++ RW cI cZ hs) sz)) 1 6 (va_A ((wL cI cZ cS cL (fS hs) (fG hs) o fl a M) ++ RW cI cZ hs) sz) := by
  refine va_MetW (cc := cL_wanted) (maxL := 5) (ret := (some .int)) (hh := [(0, 10, 13, 20)]) (by decide) rfl ?_
  intro p e s m args below meth c s₁ B hml hv
  obtain ⟨rfl, hsz, hP, hK, hD0, hNW, hEX, hNC⟩ := hv
  have hx := B.exec
  have hb := B.bytes
  have hr := B.returns
  have hts := atoms_spec (ws := wsL_wanted) B.pre
  have hown : s.vm.findClass RL = some m.cls := findClass_of_methodNamed B.named
  have htab : c.exceptionTable.toList = tableOf [(0, 10, 13, 20)] := vx_table (x := yL_law) B (hts (.codeWith yL_wanted cL_wanted 5 (some .int) [(0, 10, 13, 20)]) List.mem_cons_self)
  have hK8 : va_K (dC, dI) vwCl (tys8 cI cZ cS) s := hK.sub (tys' := tys8 cI cZ cS) [0, 1, 2] rfl
  have hcl20 := hts (.classLink RL 20 "java/lang/IndexOutOfBoundsException") (by decide +kernel)
  subst hsz
  have hD := hD0.self (sz := s.heap.size)
  generalize hAe : va_A ((wL cI cZ cS cL (fS hs) (fG hs) o fl a M) ++ RW cI cZ hs) s.heap.size = A at hD hEX ⊢
  have hA : ∀ q : Nat, s.heap.size ≤ q → A q := fun q h => by rw [← hAe]; exact Or.inr h
  have hS : va_S A s.heap s.heap [] := va_S.rf
  have hl := lv_entry ([.ref (a 0), .int a1, .int a2, .ref o]) (n := 5) (Nat.le_of_ble_eq_true rfl)
  rw [lg_entry_eq]
  generalize (lg_sl ([.ref (a 0), .int a1, .int a2, .ref o]) ++ List.replicate (5 - (lg_sl ([.ref (a 0), .int a1, .int a2, .ref o])).length) Slot.unset).toArray = ls at hl ⊢
  have hl : lv_has ls 5 [(0, .ref (a 0)), (1, .int a1), (2, .int a2), (3, .ref o)] := hl
  suffices hgo : ∀ (H : Heap) (locs : List Loc), va_P (dC, dI) vwCl ((wL cI cZ cS cL (fS hs) (fG hs) o fl a M) ++ RW cI cZ hs) H → va_D A ((wL cI cZ cS cL (fS hs) (fG hs) o fl a M) ++ RW cI cZ hs) → va_S A s.heap H locs → W p l e (headSpec wsL_wanted ({ frames := 8, cells := 1, slots := 6, locals := 153 } : Room)).room s m ([.ref (a 0), .int a1, .int a2, .ref o] : List Value).toArray below meth c H locs 0 0 (MQ below (va_Qi (S := HS × (Nat → Int64)) (fun k u => k = kk ∧ u.1 = hs ∧ ∀ v, r = .inr v → u.2 0 = v.toInt64) (fun u t => WE (dC, dI) cI cZ ((wL cI cZ cS cL (fS u.1) (fG u.1) o u.2 a M) ++ RW cI cZ u.1) A t) A) ([.ref (a 0), .int a1, .int a2, .ref o] : List Value).toArray s 1 6 A) (F0 m 0 ls []) from hgo _ _ hP hD hS
  intro H locs hP hD hS
  refine lv_aload_n hx hb dL_wanted_0 rfl (lv_at hl 3 rfl) ?_
  refine lv_iconst (v := (0 : Int32)) hx hb dL_wanted_1 (by decide) ?_
  refine lv_aload_n hx hb dL_wanted_2 rfl (lv_at hl 0 rfl) ?_
  refine lv_iload_n hx hb dL_wanted_3 rfl (lv_at hl 1 rfl) ?_
  refine lv_iload_n hx hb dL_wanted_4 rfl (lv_at hl 2 rfl) ?_
  have hPc := P_head (ws := (wL cI cZ cS cL (fS hs) (fG hs) o fl a M)) (ws' := (wX8 cI cZ cS (fS hs) (fG hs) a M)) hP [1, 2, 3, 4, 5, 6, 7, 8, 9, 10, 11, 12, 13, 14, 15, 16, 17, 18, 19, 20, 21, 22, 23, 24, 25, 26, 27, 28, 29, 30, 31, 32, 33, 34, 35, 36, 37, 38, 39, 40, 41, 42] rfl
  have hDc := D_head (ws := (wL cI cZ cS cL (fS hs) (fG hs) o fl a M)) (ws' := (wX8 cI cZ cS (fS hs) (fG hs) a M)) hD [1, 2, 3, 4, 5, 6, 7, 8, 9, 10, 11, 12, 13, 14, 15, 16, 17, 18, 19, 20, 21, 22, 23, 24, 25, 26, 27, 28, 29, 30, 31, 32, 33, 34, 35, 36, 37, 38, 39, 40, 41, 42] (by decide) rfl
  have hFc := va_free (wc := (wX8 cI cZ cS (fS hs) (fG hs) a M)) hD hS hA [1, 2, 3, 4, 5, 6, 7, 8, 9, 10, 11, 12, 13, 14, 15, 16, 17, 18, 19, 20, 21, 22, 23, 24, 25, 26, 27, 28, 29, 30, 31, 32, 33, 34, 35, 36, 37, 38, 39, 40, 41, 42] rfl
  rcases hA9 with ⟨v, hr9, hk9⟩ | ⟨i9, E9, hi9, hr9, hk9⟩
  · subst hr9
    subst hk9
    refine cRO (W.runV (As := [.int a1, .int a2]) (rest := [.int (0 : Int32), .ref o]) ⟨hx, hb, hml, hown, hts⟩ (n_X8_wanted l dC dI cI cZ cS (fS hs) (fG hs) a M a1 a2 v hf) (cwV 2 hts gL_wanted_X8_wanted rfl rfl rfl (by decide +kernel) ⟨Nat.le_of_ble_eq_true rfl, Nat.le_of_ble_eq_true rfl⟩) ⟨RO8.blind, va_recv hK hP (ci := 8) (q0 := 1) rfl rfl, RO8.pre hPc hK8 hNW⟩ rfl rfl hl.1 rfl (lv_room (Nat.le_of_ble_eq_true rfl)) dL_wanted_5 ⟨Nat.le_of_ble_eq_true rfl, Nat.le_of_ble_eq_true rfl⟩) ?_
    refine lv_i2l (v := v.toInt64) hx hb dL_wanted_8 rfl ?_
    refine va_last (D := (dC, dI)) (f := fl) hx hb hK hP hD hS 0 3 rfl rfl (inb_in rfl) dL_wanted_9 (fun H locs hP hD hS => ?_)
    have hP : va_P (dC, dI) vwCl ((wL cI cZ cS cL (fS hs) (fG hs) o (vp_updL fl 0 v.toInt64) a M) ++ RW cI cZ hs) H := hP
    have hD : va_D A ((wL cI cZ cS cL (fS hs) (fG hs) o (vp_updL fl 0 v.toInt64) a M) ++ RW cI cZ hs) := hD
    refine lv_goto (tgt := 17) hx hb dL_wanted_10 (by decide) ?_
    refine lv_iconst (v := (0 : Int32)) hx hb dL_wanted_17 (by decide) ?_
    refine W.widen (k := 1) (n := 6) (Nat.le_of_ble_eq_true rfl) (Nat.le_of_ble_eq_true rfl) ?_
    exact W.iret hx hb hr (fun t ht hW => ⟨⟨_, (hs, (vp_updL fl 0 v.toInt64)), rfl, ⟨rfl, rfl, fun v9 h9 => by cases h9; rfl⟩, WE.mk hP hD ht⟩, hS.F ht⟩) hS.2.2 dL_wanted_18
  · subst hr9
    refine vx_thrH (vx_runV (As := [.int a1, .int a2]) (rest := [.int (0 : Int32), .ref o]) ⟨hx, hb, hml, hown, hts⟩ (t_X8_wanted l hst dC dI cI cZ cS (fS hs) (fG hs) a _ M a1 a2 E9 hf) (cwV 2 hts gL_wanted_X8_wanted rfl rfl rfl (by decide +kernel) ⟨Nat.le_of_ble_eq_true rfl, Nat.le_of_ble_eq_true rfl⟩) ⟨T8.blind, va_recv hK hP (ci := 8) (q0 := 1) rfl rfl, T8.pre hPc hK8 hDc hNW (hEX.at hS hFc)⟩ rfl rfl hl.1 rfl (lv_room (Nat.le_of_ble_eq_true rfl)) dL_wanted_5 ⟨Nat.le_of_ble_eq_true rfl, Nat.le_of_ble_eq_true rfl⟩) hS (fun q _ h => hFc q h) hFc (fun ce q9 t H1 locs1 ht hal hP1 hD1 hz1 hk1 hS hce hcv hcl => ?_)
    obtain ⟨hP, hD⟩ := join_app (ws := (wL cI cZ cS cL (fS hs) (fG hs) o fl a M)) (wr := [(o, .inl (cL, 1, .inr (.inl fl)))]) (w1 := _) hP hD [1, 2, 3, 4, 5, 6, 7, 8, 9, 10, 11, 12, 13, 14, 15, 16, 17, 18, 19, 20, 21, 22, 23, 24, 25, 26, 27, 28, 29, 30, 31, 32, 33, 34, 35, 36, 37, 38, 39, 40, 41, 42] [0] rfl rfl (by decide) (by decide) hk1 hFc hP1 hD1
    have hP : va_P (dC, dI) vwCl ((wL cI cZ cS cL (fS hs) (fG hs) o fl a M) ++ RW cI cZ hs) H1 := hP
    have hD : va_D A ((wL cI cZ cS cL (fS hs) (fG hs) o fl a M) ++ RW cI cZ hs) := hD
    generalize H1 = H at hP hS hce ⊢
    rcases (show i9 = 0 by have h7 := (List.getElem?_eq_some_iff.mp hi9).1; simp only [List.length] at h7; omega) with rfl
    · cases hi9
      refine vx_catch (own := RL) (name := "java/lang/IndexOutOfBoundsException") hown [] ⟨0, 10, 13, 20⟩ [] htab (fun z hz => nomatch hz) rfl (by decide) hcl20 ((nc422 hNW).use rfl) hce hcv hcl ?_
      refine lv_astore (lv' := [(4, .ref q9), (0, .ref (a 0)), (1, .int a1), (2, .int a2), (3, .ref o)]) hx hb dL_wanted_13 hl (by decide) rfl (fun ls hl => ?_)
      refine lv_iconst (v := (1 : Int32)) hx hb dL_wanted_15 (by decide) ?_
      refine W.widen (k := 1) (n := 6) (Nat.le_of_ble_eq_true rfl) (Nat.le_of_ble_eq_true rfl) ?_
      exact W.iret hx hb hr (fun t ht hW => ⟨⟨_, (hs, fl), rfl, ⟨hk9.symm, rfl, fun v9 h9 => by cases h9⟩, WE.mk hP hD ht⟩, hS.F ht⟩) hS.2.2 dL_wanted_16
set_option maxHeartbeats 4000000 in
set_option maxRecDepth 100000 in
theorem w_L_thingsOf (l : Launch) (hst : l.stackTraces = false) (dC : Nat → ClassId) (dI : Nat → Nat → Nat) (cI cZ cS cL : ClassId) (hs : HS) (o : Nat) (fl : Nat → Int64) (a : Nat → Nat) (sz : Nat) (M : Mem) (a1 : Int32) (r : String ⊕ Int32) (kk : Int32) (hf : fX8_thingsOf M a1 = some r) (hA9 : Ans ["java/lang/IndexOutOfBoundsException"] r kk) : Met l yL_thingsOf wsL_thingsOf ({ frames := 8, cells := 1, slots := 6, locals := 152 } : Room) (va_Pc [.ref (a 0), .int a1, .ref o] (T9 (dC, dI) cI cZ cS cL ((wL cI cZ cS cL (fS hs) (fG hs) o fl a M) ++ RW cI cZ hs) sz)) (va_Qi (S := HS × (Nat → Int64)) (fun k u => k = kk ∧ u.1 = hs ∧ ∀ v, r = .inr v → u.2 0 = v.toInt64) (fun u t => WE (dC, dI) cI cZ ((wL cI cZ cS cL (fS u.1) (fG u.1) o u.2 a M) ++ RW cI cZ u.1) (va_A ((wL cI cZ cS cL (fS hs) (fG hs) o fl a M) ++ RW cI cZ hs) sz) t) (va_A ((wL cI cZ cS cL (fS hs) (fG hs) o fl a M) ++ RW cI cZ hs) sz)) 1 6 (va_A ((wL cI cZ cS cL (fS hs) (fG hs) o fl a M) ++ RW cI cZ hs) sz) := by
  refine va_MetW (cc := cL_thingsOf) (maxL := 4) (ret := (some .int)) (hh := [(0, 9, 12, 20)]) (by decide) rfl ?_
  intro p e s m args below meth c s₁ B hml hv
  obtain ⟨rfl, hsz, hP, hK, hD0, hNW, hEX, hNC⟩ := hv
  have hx := B.exec
  have hb := B.bytes
  have hr := B.returns
  have hts := atoms_spec (ws := wsL_thingsOf) B.pre
  have hown : s.vm.findClass RL = some m.cls := findClass_of_methodNamed B.named
  have htab : c.exceptionTable.toList = tableOf [(0, 9, 12, 20)] := vx_table (x := yL_law) B (hts (.codeWith yL_thingsOf cL_thingsOf 4 (some .int) [(0, 9, 12, 20)]) List.mem_cons_self)
  have hK8 : va_K (dC, dI) vwCl (tys8 cI cZ cS) s := hK.sub (tys' := tys8 cI cZ cS) [0, 1, 2] rfl
  have hcl20 := hts (.classLink RL 20 "java/lang/IndexOutOfBoundsException") (by decide +kernel)
  subst hsz
  have hD := hD0.self (sz := s.heap.size)
  generalize hAe : va_A ((wL cI cZ cS cL (fS hs) (fG hs) o fl a M) ++ RW cI cZ hs) s.heap.size = A at hD hEX ⊢
  have hA : ∀ q : Nat, s.heap.size ≤ q → A q := fun q h => by rw [← hAe]; exact Or.inr h
  have hS : va_S A s.heap s.heap [] := va_S.rf
  have hl := lv_entry ([.ref (a 0), .int a1, .ref o]) (n := 4) (Nat.le_of_ble_eq_true rfl)
  rw [lg_entry_eq]
  generalize (lg_sl ([.ref (a 0), .int a1, .ref o]) ++ List.replicate (4 - (lg_sl ([.ref (a 0), .int a1, .ref o])).length) Slot.unset).toArray = ls at hl ⊢
  have hl : lv_has ls 4 [(0, .ref (a 0)), (1, .int a1), (2, .ref o)] := hl
  suffices hgo : ∀ (H : Heap) (locs : List Loc), va_P (dC, dI) vwCl ((wL cI cZ cS cL (fS hs) (fG hs) o fl a M) ++ RW cI cZ hs) H → va_D A ((wL cI cZ cS cL (fS hs) (fG hs) o fl a M) ++ RW cI cZ hs) → va_S A s.heap H locs → W p l e (headSpec wsL_thingsOf ({ frames := 8, cells := 1, slots := 6, locals := 152 } : Room)).room s m ([.ref (a 0), .int a1, .ref o] : List Value).toArray below meth c H locs 0 0 (MQ below (va_Qi (S := HS × (Nat → Int64)) (fun k u => k = kk ∧ u.1 = hs ∧ ∀ v, r = .inr v → u.2 0 = v.toInt64) (fun u t => WE (dC, dI) cI cZ ((wL cI cZ cS cL (fS u.1) (fG u.1) o u.2 a M) ++ RW cI cZ u.1) A t) A) ([.ref (a 0), .int a1, .ref o] : List Value).toArray s 1 6 A) (F0 m 0 ls []) from hgo _ _ hP hD hS
  intro H locs hP hD hS
  refine lv_aload_n hx hb dL_thingsOf_0 rfl (lv_at hl 2 rfl) ?_
  refine lv_iconst (v := (0 : Int32)) hx hb dL_thingsOf_1 (by decide) ?_
  refine lv_aload_n hx hb dL_thingsOf_2 rfl (lv_at hl 0 rfl) ?_
  refine lv_iload_n hx hb dL_thingsOf_3 rfl (lv_at hl 1 rfl) ?_
  have hPc := P_head (ws := (wL cI cZ cS cL (fS hs) (fG hs) o fl a M)) (ws' := (wX8 cI cZ cS (fS hs) (fG hs) a M)) hP [1, 2, 3, 4, 5, 6, 7, 8, 9, 10, 11, 12, 13, 14, 15, 16, 17, 18, 19, 20, 21, 22, 23, 24, 25, 26, 27, 28, 29, 30, 31, 32, 33, 34, 35, 36, 37, 38, 39, 40, 41, 42] rfl
  have hDc := D_head (ws := (wL cI cZ cS cL (fS hs) (fG hs) o fl a M)) (ws' := (wX8 cI cZ cS (fS hs) (fG hs) a M)) hD [1, 2, 3, 4, 5, 6, 7, 8, 9, 10, 11, 12, 13, 14, 15, 16, 17, 18, 19, 20, 21, 22, 23, 24, 25, 26, 27, 28, 29, 30, 31, 32, 33, 34, 35, 36, 37, 38, 39, 40, 41, 42] (by decide) rfl
  have hFc := va_free (wc := (wX8 cI cZ cS (fS hs) (fG hs) a M)) hD hS hA [1, 2, 3, 4, 5, 6, 7, 8, 9, 10, 11, 12, 13, 14, 15, 16, 17, 18, 19, 20, 21, 22, 23, 24, 25, 26, 27, 28, 29, 30, 31, 32, 33, 34, 35, 36, 37, 38, 39, 40, 41, 42] rfl
  rcases hA9 with ⟨v, hr9, hk9⟩ | ⟨i9, E9, hi9, hr9, hk9⟩
  · subst hr9
    subst hk9
    refine cRO (W.runV (As := [.int a1]) (rest := [.int (0 : Int32), .ref o]) ⟨hx, hb, hml, hown, hts⟩ (n_X8_thingsOf l dC dI cI cZ cS (fS hs) (fG hs) a M a1 v hf) (cwV 1 hts gL_thingsOf_X8_thingsOf rfl rfl rfl (by decide +kernel) ⟨Nat.le_of_ble_eq_true rfl, Nat.le_of_ble_eq_true rfl⟩) ⟨RO8.blind, va_recv hK hP (ci := 8) (q0 := 1) rfl rfl, RO8.pre hPc hK8 hNW⟩ rfl rfl hl.1 rfl (lv_room (Nat.le_of_ble_eq_true rfl)) dL_thingsOf_4 ⟨Nat.le_of_ble_eq_true rfl, Nat.le_of_ble_eq_true rfl⟩) ?_
    refine lv_i2l (v := v.toInt64) hx hb dL_thingsOf_7 rfl ?_
    refine va_last (D := (dC, dI)) (f := fl) hx hb hK hP hD hS 0 3 rfl rfl (inb_in rfl) dL_thingsOf_8 (fun H locs hP hD hS => ?_)
    have hP : va_P (dC, dI) vwCl ((wL cI cZ cS cL (fS hs) (fG hs) o (vp_updL fl 0 v.toInt64) a M) ++ RW cI cZ hs) H := hP
    have hD : va_D A ((wL cI cZ cS cL (fS hs) (fG hs) o (vp_updL fl 0 v.toInt64) a M) ++ RW cI cZ hs) := hD
    refine lv_goto (tgt := 15) hx hb dL_thingsOf_9 (by decide) ?_
    refine lv_iconst (v := (0 : Int32)) hx hb dL_thingsOf_15 (by decide) ?_
    refine W.widen (k := 1) (n := 6) (Nat.le_of_ble_eq_true rfl) (Nat.le_of_ble_eq_true rfl) ?_
    exact W.iret hx hb hr (fun t ht hW => ⟨⟨_, (hs, (vp_updL fl 0 v.toInt64)), rfl, ⟨rfl, rfl, fun v9 h9 => by cases h9; rfl⟩, WE.mk hP hD ht⟩, hS.F ht⟩) hS.2.2 dL_thingsOf_16
  · subst hr9
    refine vx_thrH (vx_runV (As := [.int a1]) (rest := [.int (0 : Int32), .ref o]) ⟨hx, hb, hml, hown, hts⟩ (t_X8_thingsOf l hst dC dI cI cZ cS (fS hs) (fG hs) a _ M a1 E9 hf) (cwV 1 hts gL_thingsOf_X8_thingsOf rfl rfl rfl (by decide +kernel) ⟨Nat.le_of_ble_eq_true rfl, Nat.le_of_ble_eq_true rfl⟩) ⟨T8.blind, va_recv hK hP (ci := 8) (q0 := 1) rfl rfl, T8.pre hPc hK8 hDc hNW (hEX.at hS hFc)⟩ rfl rfl hl.1 rfl (lv_room (Nat.le_of_ble_eq_true rfl)) dL_thingsOf_4 ⟨Nat.le_of_ble_eq_true rfl, Nat.le_of_ble_eq_true rfl⟩) hS (fun q _ h => hFc q h) hFc (fun ce q9 t H1 locs1 ht hal hP1 hD1 hz1 hk1 hS hce hcv hcl => ?_)
    obtain ⟨hP, hD⟩ := join_app (ws := (wL cI cZ cS cL (fS hs) (fG hs) o fl a M)) (wr := [(o, .inl (cL, 1, .inr (.inl fl)))]) (w1 := _) hP hD [1, 2, 3, 4, 5, 6, 7, 8, 9, 10, 11, 12, 13, 14, 15, 16, 17, 18, 19, 20, 21, 22, 23, 24, 25, 26, 27, 28, 29, 30, 31, 32, 33, 34, 35, 36, 37, 38, 39, 40, 41, 42] [0] rfl rfl (by decide) (by decide) hk1 hFc hP1 hD1
    have hP : va_P (dC, dI) vwCl ((wL cI cZ cS cL (fS hs) (fG hs) o fl a M) ++ RW cI cZ hs) H1 := hP
    have hD : va_D A ((wL cI cZ cS cL (fS hs) (fG hs) o fl a M) ++ RW cI cZ hs) := hD
    generalize H1 = H at hP hS hce ⊢
    rcases (show i9 = 0 by have h7 := (List.getElem?_eq_some_iff.mp hi9).1; simp only [List.length] at h7; omega) with rfl
    · cases hi9
      refine vx_catch (own := RL) (name := "java/lang/IndexOutOfBoundsException") hown [] ⟨0, 9, 12, 20⟩ [] htab (fun z hz => nomatch hz) rfl (by decide) hcl20 ((nc422 hNW).use rfl) hce hcv hcl ?_
      refine lv_astore_n (lv' := [(3, .ref q9), (0, .ref (a 0)), (1, .int a1), (2, .ref o)]) hx hb dL_thingsOf_12 rfl hl (by decide) rfl (fun ls hl => ?_)
      refine lv_iconst (v := (1 : Int32)) hx hb dL_thingsOf_13 (by decide) ?_
      refine W.widen (k := 1) (n := 6) (Nat.le_of_ble_eq_true rfl) (Nat.le_of_ble_eq_true rfl) ?_
      exact W.iret hx hb hr (fun t ht hW => ⟨⟨_, (hs, fl), rfl, ⟨hk9.symm, rfl, fun v9 h9 => by cases h9⟩, WE.mk hP hD ht⟩, hS.F ht⟩) hS.2.2 dL_thingsOf_14
set_option maxHeartbeats 4000000 in
set_option maxRecDepth 100000 in
theorem w_L_canServe (l : Launch) (hst : l.stackTraces = false) (dC : Nat → ClassId) (dI : Nat → Nat → Nat) (cI cZ cS cL : ClassId) (hs : HS) (o : Nat) (fl : Nat → Int64) (a : Nat → Nat) (sz : Nat) (M : Mem) (a1 : Int32) (r : String ⊕ Int32) (kk : Int32) (hf : fX8_canServe M a1 = some r) (hA9 : Ans ["java/lang/IndexOutOfBoundsException"] r kk) : Met l yL_canServe wsL_canServe ({ frames := 8, cells := 1, slots := 6, locals := 152 } : Room) (va_Pc [.ref (a 0), .int a1, .ref o] (T9 (dC, dI) cI cZ cS cL ((wL cI cZ cS cL (fS hs) (fG hs) o fl a M) ++ RW cI cZ hs) sz)) (va_Qi (S := HS × (Nat → Int64)) (fun k u => k = kk ∧ u.1 = hs ∧ ∀ v, r = .inr v → u.2 0 = cvZ v) (fun u t => WE (dC, dI) cI cZ ((wL cI cZ cS cL (fS u.1) (fG u.1) o u.2 a M) ++ RW cI cZ u.1) (va_A ((wL cI cZ cS cL (fS hs) (fG hs) o fl a M) ++ RW cI cZ hs) sz) t) (va_A ((wL cI cZ cS cL (fS hs) (fG hs) o fl a M) ++ RW cI cZ hs) sz)) 1 6 (va_A ((wL cI cZ cS cL (fS hs) (fG hs) o fl a M) ++ RW cI cZ hs) sz) := by
  refine va_MetW (cc := cL_canServe) (maxL := 4) (ret := (some .int)) (hh := [(0, 16, 19, 20)]) (by decide) rfl ?_
  intro p e s m args below meth c s₁ B hml hv
  obtain ⟨rfl, hsz, hP, hK, hD0, hNW, hEX, hNC⟩ := hv
  have hx := B.exec
  have hb := B.bytes
  have hr := B.returns
  have hts := atoms_spec (ws := wsL_canServe) B.pre
  have hown : s.vm.findClass RL = some m.cls := findClass_of_methodNamed B.named
  have htab : c.exceptionTable.toList = tableOf [(0, 16, 19, 20)] := vx_table (x := yL_law) B (hts (.codeWith yL_canServe cL_canServe 4 (some .int) [(0, 16, 19, 20)]) List.mem_cons_self)
  have hK8 : va_K (dC, dI) vwCl (tys8 cI cZ cS) s := hK.sub (tys' := tys8 cI cZ cS) [0, 1, 2] rfl
  have hcl20 := hts (.classLink RL 20 "java/lang/IndexOutOfBoundsException") (by decide +kernel)
  subst hsz
  have hD := hD0.self (sz := s.heap.size)
  generalize hAe : va_A ((wL cI cZ cS cL (fS hs) (fG hs) o fl a M) ++ RW cI cZ hs) s.heap.size = A at hD hEX ⊢
  have hA : ∀ q : Nat, s.heap.size ≤ q → A q := fun q h => by rw [← hAe]; exact Or.inr h
  have hS : va_S A s.heap s.heap [] := va_S.rf
  have hl := lv_entry ([.ref (a 0), .int a1, .ref o]) (n := 4) (Nat.le_of_ble_eq_true rfl)
  rw [lg_entry_eq]
  generalize (lg_sl ([.ref (a 0), .int a1, .ref o]) ++ List.replicate (4 - (lg_sl ([.ref (a 0), .int a1, .ref o])).length) Slot.unset).toArray = ls at hl ⊢
  have hl : lv_has ls 4 [(0, .ref (a 0)), (1, .int a1), (2, .ref o)] := hl
  suffices hgo : ∀ (H : Heap) (locs : List Loc), va_P (dC, dI) vwCl ((wL cI cZ cS cL (fS hs) (fG hs) o fl a M) ++ RW cI cZ hs) H → va_D A ((wL cI cZ cS cL (fS hs) (fG hs) o fl a M) ++ RW cI cZ hs) → va_S A s.heap H locs → W p l e (headSpec wsL_canServe ({ frames := 8, cells := 1, slots := 6, locals := 152 } : Room)).room s m ([.ref (a 0), .int a1, .ref o] : List Value).toArray below meth c H locs 0 0 (MQ below (va_Qi (S := HS × (Nat → Int64)) (fun k u => k = kk ∧ u.1 = hs ∧ ∀ v, r = .inr v → u.2 0 = cvZ v) (fun u t => WE (dC, dI) cI cZ ((wL cI cZ cS cL (fS u.1) (fG u.1) o u.2 a M) ++ RW cI cZ u.1) A t) A) ([.ref (a 0), .int a1, .ref o] : List Value).toArray s 1 6 A) (F0 m 0 ls []) from hgo _ _ hP hD hS
  intro H locs hP hD hS
  refine lv_aload_n hx hb dL_canServe_0 rfl (lv_at hl 2 rfl) ?_
  refine lv_iconst (v := (0 : Int32)) hx hb dL_canServe_1 (by decide) ?_
  refine lv_aload_n hx hb dL_canServe_2 rfl (lv_at hl 0 rfl) ?_
  refine lv_iload_n hx hb dL_canServe_3 rfl (lv_at hl 1 rfl) ?_
  have hPc := P_head (ws := (wL cI cZ cS cL (fS hs) (fG hs) o fl a M)) (ws' := (wX8 cI cZ cS (fS hs) (fG hs) a M)) hP [1, 2, 3, 4, 5, 6, 7, 8, 9, 10, 11, 12, 13, 14, 15, 16, 17, 18, 19, 20, 21, 22, 23, 24, 25, 26, 27, 28, 29, 30, 31, 32, 33, 34, 35, 36, 37, 38, 39, 40, 41, 42] rfl
  have hDc := D_head (ws := (wL cI cZ cS cL (fS hs) (fG hs) o fl a M)) (ws' := (wX8 cI cZ cS (fS hs) (fG hs) a M)) hD [1, 2, 3, 4, 5, 6, 7, 8, 9, 10, 11, 12, 13, 14, 15, 16, 17, 18, 19, 20, 21, 22, 23, 24, 25, 26, 27, 28, 29, 30, 31, 32, 33, 34, 35, 36, 37, 38, 39, 40, 41, 42] (by decide) rfl
  have hFc := va_free (wc := (wX8 cI cZ cS (fS hs) (fG hs) a M)) hD hS hA [1, 2, 3, 4, 5, 6, 7, 8, 9, 10, 11, 12, 13, 14, 15, 16, 17, 18, 19, 20, 21, 22, 23, 24, 25, 26, 27, 28, 29, 30, 31, 32, 33, 34, 35, 36, 37, 38, 39, 40, 41, 42] rfl
  rcases hA9 with ⟨v, hr9, hk9⟩ | ⟨i9, E9, hi9, hr9, hk9⟩
  · subst hr9
    subst hk9
    refine cRO (W.runV (As := [.int a1]) (rest := [.int (0 : Int32), .ref o]) ⟨hx, hb, hml, hown, hts⟩ (n_X8_canServe l dC dI cI cZ cS (fS hs) (fG hs) a M a1 v hf) (cwV 1 hts gL_canServe_X8_canServe rfl rfl rfl (by decide +kernel) ⟨Nat.le_of_ble_eq_true rfl, Nat.le_of_ble_eq_true rfl⟩) ⟨RO8.blind, va_recv hK hP (ci := 8) (q0 := 1) rfl rfl, RO8.pre hPc hK8 hNW⟩ rfl rfl hl.1 rfl (lv_room (Nat.le_of_ble_eq_true rfl)) dL_canServe_4 ⟨Nat.le_of_ble_eq_true rfl, Nat.le_of_ble_eq_true rfl⟩) ?_
    refine lv_if_eq (tgt := 14) hx hb dL_canServe_7 (by decide) (fun c9 => ?_) (fun c9 => ?_)
    · refine lv_lconst (v := (0 : Int64)) hx hb dL_canServe_14 (by decide) ?_
      refine va_last (D := (dC, dI)) (f := fl) hx hb hK hP hD hS 0 3 rfl rfl (inb_in rfl) dL_canServe_15 (fun H locs hP hD hS => ?_)
      have hP : va_P (dC, dI) vwCl ((wL cI cZ cS cL (fS hs) (fG hs) o (vp_updL fl 0 (0 : Int64)) a M) ++ RW cI cZ hs) H := hP
      have hD : va_D A ((wL cI cZ cS cL (fS hs) (fG hs) o (vp_updL fl 0 (0 : Int64)) a M) ++ RW cI cZ hs) := hD
      refine lv_goto (tgt := 22) hx hb dL_canServe_16 (by decide) ?_
      refine lv_iconst (v := (0 : Int32)) hx hb dL_canServe_22 (by decide) ?_
      refine W.widen (k := 1) (n := 6) (Nat.le_of_ble_eq_true rfl) (Nat.le_of_ble_eq_true rfl) ?_
      exact W.iret hx hb hr (fun t ht hW => ⟨⟨_, (hs, (vp_updL fl 0 (0 : Int64))), rfl, ⟨rfl, rfl, fun v9 h9 => by cases h9; exact (if_pos c9).symm⟩, WE.mk hP hD ht⟩, hS.F ht⟩) hS.2.2 dL_canServe_23
    · refine lv_lconst (v := (1 : Int64)) hx hb dL_canServe_10 (by decide) ?_
      refine lv_goto (tgt := 15) hx hb dL_canServe_11 (by decide) ?_
      refine va_last (D := (dC, dI)) (f := fl) hx hb hK hP hD hS 0 3 rfl rfl (inb_in rfl) dL_canServe_15 (fun H locs hP hD hS => ?_)
      have hP : va_P (dC, dI) vwCl ((wL cI cZ cS cL (fS hs) (fG hs) o (vp_updL fl 0 (1 : Int64)) a M) ++ RW cI cZ hs) H := hP
      have hD : va_D A ((wL cI cZ cS cL (fS hs) (fG hs) o (vp_updL fl 0 (1 : Int64)) a M) ++ RW cI cZ hs) := hD
      refine lv_goto (tgt := 22) hx hb dL_canServe_16 (by decide) ?_
      refine lv_iconst (v := (0 : Int32)) hx hb dL_canServe_22 (by decide) ?_
      refine W.widen (k := 1) (n := 6) (Nat.le_of_ble_eq_true rfl) (Nat.le_of_ble_eq_true rfl) ?_
      exact W.iret hx hb hr (fun t ht hW => ⟨⟨_, (hs, (vp_updL fl 0 (1 : Int64))), rfl, ⟨rfl, rfl, fun v9 h9 => by cases h9; exact (if_neg c9).symm⟩, WE.mk hP hD ht⟩, hS.F ht⟩) hS.2.2 dL_canServe_23
  · subst hr9
    refine vx_thrH (vx_runV (As := [.int a1]) (rest := [.int (0 : Int32), .ref o]) ⟨hx, hb, hml, hown, hts⟩ (t_X8_canServe l hst dC dI cI cZ cS (fS hs) (fG hs) a _ M a1 E9 hf) (cwV 1 hts gL_canServe_X8_canServe rfl rfl rfl (by decide +kernel) ⟨Nat.le_of_ble_eq_true rfl, Nat.le_of_ble_eq_true rfl⟩) ⟨T8.blind, va_recv hK hP (ci := 8) (q0 := 1) rfl rfl, T8.pre hPc hK8 hDc hNW (hEX.at hS hFc)⟩ rfl rfl hl.1 rfl (lv_room (Nat.le_of_ble_eq_true rfl)) dL_canServe_4 ⟨Nat.le_of_ble_eq_true rfl, Nat.le_of_ble_eq_true rfl⟩) hS (fun q _ h => hFc q h) hFc (fun ce q9 t H1 locs1 ht hal hP1 hD1 hz1 hk1 hS hce hcv hcl => ?_)
    obtain ⟨hP, hD⟩ := join_app (ws := (wL cI cZ cS cL (fS hs) (fG hs) o fl a M)) (wr := [(o, .inl (cL, 1, .inr (.inl fl)))]) (w1 := _) hP hD [1, 2, 3, 4, 5, 6, 7, 8, 9, 10, 11, 12, 13, 14, 15, 16, 17, 18, 19, 20, 21, 22, 23, 24, 25, 26, 27, 28, 29, 30, 31, 32, 33, 34, 35, 36, 37, 38, 39, 40, 41, 42] [0] rfl rfl (by decide) (by decide) hk1 hFc hP1 hD1
    have hP : va_P (dC, dI) vwCl ((wL cI cZ cS cL (fS hs) (fG hs) o fl a M) ++ RW cI cZ hs) H1 := hP
    have hD : va_D A ((wL cI cZ cS cL (fS hs) (fG hs) o fl a M) ++ RW cI cZ hs) := hD
    generalize H1 = H at hP hS hce ⊢
    rcases (show i9 = 0 by have h7 := (List.getElem?_eq_some_iff.mp hi9).1; simp only [List.length] at h7; omega) with rfl
    · cases hi9
      refine vx_catch (own := RL) (name := "java/lang/IndexOutOfBoundsException") hown [] ⟨0, 16, 19, 20⟩ [] htab (fun z hz => nomatch hz) rfl (by decide) hcl20 ((nc422 hNW).use rfl) hce hcv hcl ?_
      refine lv_astore_n (lv' := [(3, .ref q9), (0, .ref (a 0)), (1, .int a1), (2, .ref o)]) hx hb dL_canServe_19 rfl hl (by decide) rfl (fun ls hl => ?_)
      refine lv_iconst (v := (1 : Int32)) hx hb dL_canServe_20 (by decide) ?_
      refine W.widen (k := 1) (n := 6) (Nat.le_of_ble_eq_true rfl) (Nat.le_of_ble_eq_true rfl) ?_
      exact W.iret hx hb hr (fun t ht hW => ⟨⟨_, (hs, fl), rfl, ⟨hk9.symm, rfl, fun v9 h9 => by cases h9⟩, WE.mk hP hD ht⟩, hS.F ht⟩) hS.2.2 dL_canServe_21
set_option maxHeartbeats 4000000 in
set_option maxRecDepth 100000 in
theorem w_L_fewestByTrying (l : Launch) (hst : l.stackTraces = false) (dC : Nat → ClassId) (dI : Nat → Nat → Nat) (cI cZ cS cL : ClassId) (hs : HS) (o : Nat) (fl : Nat → Int64) (a : Nat → Nat) (sz : Nat) (M : Mem) (a1 : Int32) (r : String ⊕ Int32) (kk : Int32) (hf : fX8_fewestByTrying M a1 = some r) (hA9 : Ans ["java/lang/IndexOutOfBoundsException", "java/lang/IllegalStateException"] r kk) : Met l yL_fewestByTrying wsL_fewestByTrying ({ frames := 8, cells := 1, slots := 6, locals := 152 } : Room) (va_Pc [.ref (a 0), .int a1, .ref o] (T9 (dC, dI) cI cZ cS cL ((wL cI cZ cS cL (fS hs) (fG hs) o fl a M) ++ RW cI cZ hs) sz)) (va_Qi (S := HS × (Nat → Int64)) (fun k u => k = kk ∧ u.1 = hs ∧ ∀ v, r = .inr v → u.2 0 = v.toInt64) (fun u t => WE (dC, dI) cI cZ ((wL cI cZ cS cL (fS u.1) (fG u.1) o u.2 a M) ++ RW cI cZ u.1) (va_A ((wL cI cZ cS cL (fS hs) (fG hs) o fl a M) ++ RW cI cZ hs) sz) t) (va_A ((wL cI cZ cS cL (fS hs) (fG hs) o fl a M) ++ RW cI cZ hs) sz)) 1 6 (va_A ((wL cI cZ cS cL (fS hs) (fG hs) o fl a M) ++ RW cI cZ hs) sz) := by
  refine va_MetW (cc := cL_fewestByTrying) (maxL := 4) (ret := (some .int)) (hh := [(0, 9, 12, 20), (0, 9, 15, 15)]) (by decide) rfl ?_
  intro p e s m args below meth c s₁ B hml hv
  obtain ⟨rfl, hsz, hP, hK, hD0, hNW, hEX, hNC⟩ := hv
  have hx := B.exec
  have hb := B.bytes
  have hr := B.returns
  have hts := atoms_spec (ws := wsL_fewestByTrying) B.pre
  have hown : s.vm.findClass RL = some m.cls := findClass_of_methodNamed B.named
  have htab : c.exceptionTable.toList = tableOf [(0, 9, 12, 20), (0, 9, 15, 15)] := vx_table (x := yL_law) B (hts (.codeWith yL_fewestByTrying cL_fewestByTrying 4 (some .int) [(0, 9, 12, 20), (0, 9, 15, 15)]) List.mem_cons_self)
  have hK8 : va_K (dC, dI) vwCl (tys8 cI cZ cS) s := hK.sub (tys' := tys8 cI cZ cS) [0, 1, 2] rfl
  have hcl20 := hts (.classLink RL 20 "java/lang/IndexOutOfBoundsException") (by decide +kernel)
  have hcl15 := hts (.classLink RL 15 "java/lang/IllegalStateException") (by decide +kernel)
  subst hsz
  have hD := hD0.self (sz := s.heap.size)
  generalize hAe : va_A ((wL cI cZ cS cL (fS hs) (fG hs) o fl a M) ++ RW cI cZ hs) s.heap.size = A at hD hEX ⊢
  have hA : ∀ q : Nat, s.heap.size ≤ q → A q := fun q h => by rw [← hAe]; exact Or.inr h
  have hS : va_S A s.heap s.heap [] := va_S.rf
  have hl := lv_entry ([.ref (a 0), .int a1, .ref o]) (n := 4) (Nat.le_of_ble_eq_true rfl)
  rw [lg_entry_eq]
  generalize (lg_sl ([.ref (a 0), .int a1, .ref o]) ++ List.replicate (4 - (lg_sl ([.ref (a 0), .int a1, .ref o])).length) Slot.unset).toArray = ls at hl ⊢
  have hl : lv_has ls 4 [(0, .ref (a 0)), (1, .int a1), (2, .ref o)] := hl
  suffices hgo : ∀ (H : Heap) (locs : List Loc), va_P (dC, dI) vwCl ((wL cI cZ cS cL (fS hs) (fG hs) o fl a M) ++ RW cI cZ hs) H → va_D A ((wL cI cZ cS cL (fS hs) (fG hs) o fl a M) ++ RW cI cZ hs) → va_S A s.heap H locs → W p l e (headSpec wsL_fewestByTrying ({ frames := 8, cells := 1, slots := 6, locals := 152 } : Room)).room s m ([.ref (a 0), .int a1, .ref o] : List Value).toArray below meth c H locs 0 0 (MQ below (va_Qi (S := HS × (Nat → Int64)) (fun k u => k = kk ∧ u.1 = hs ∧ ∀ v, r = .inr v → u.2 0 = v.toInt64) (fun u t => WE (dC, dI) cI cZ ((wL cI cZ cS cL (fS u.1) (fG u.1) o u.2 a M) ++ RW cI cZ u.1) A t) A) ([.ref (a 0), .int a1, .ref o] : List Value).toArray s 1 6 A) (F0 m 0 ls []) from hgo _ _ hP hD hS
  intro H locs hP hD hS
  refine lv_aload_n hx hb dL_fewestByTrying_0 rfl (lv_at hl 2 rfl) ?_
  refine lv_iconst (v := (0 : Int32)) hx hb dL_fewestByTrying_1 (by decide) ?_
  refine lv_aload_n hx hb dL_fewestByTrying_2 rfl (lv_at hl 0 rfl) ?_
  refine lv_iload_n hx hb dL_fewestByTrying_3 rfl (lv_at hl 1 rfl) ?_
  have hPc := P_head (ws := (wL cI cZ cS cL (fS hs) (fG hs) o fl a M)) (ws' := (wX8 cI cZ cS (fS hs) (fG hs) a M)) hP [1, 2, 3, 4, 5, 6, 7, 8, 9, 10, 11, 12, 13, 14, 15, 16, 17, 18, 19, 20, 21, 22, 23, 24, 25, 26, 27, 28, 29, 30, 31, 32, 33, 34, 35, 36, 37, 38, 39, 40, 41, 42] rfl
  have hDc := D_head (ws := (wL cI cZ cS cL (fS hs) (fG hs) o fl a M)) (ws' := (wX8 cI cZ cS (fS hs) (fG hs) a M)) hD [1, 2, 3, 4, 5, 6, 7, 8, 9, 10, 11, 12, 13, 14, 15, 16, 17, 18, 19, 20, 21, 22, 23, 24, 25, 26, 27, 28, 29, 30, 31, 32, 33, 34, 35, 36, 37, 38, 39, 40, 41, 42] (by decide) rfl
  have hFc := va_free (wc := (wX8 cI cZ cS (fS hs) (fG hs) a M)) hD hS hA [1, 2, 3, 4, 5, 6, 7, 8, 9, 10, 11, 12, 13, 14, 15, 16, 17, 18, 19, 20, 21, 22, 23, 24, 25, 26, 27, 28, 29, 30, 31, 32, 33, 34, 35, 36, 37, 38, 39, 40, 41, 42] rfl
  rcases hA9 with ⟨v, hr9, hk9⟩ | ⟨i9, E9, hi9, hr9, hk9⟩
  · subst hr9
    subst hk9
    refine cRO (W.runV (As := [.int a1]) (rest := [.int (0 : Int32), .ref o]) ⟨hx, hb, hml, hown, hts⟩ (n_X8_fewestByTrying l dC dI cI cZ cS (fS hs) (fG hs) a M a1 v hf) (cwV 1 hts gL_fewestByTrying_X8_fewestByTrying rfl rfl rfl (by decide +kernel) ⟨Nat.le_of_ble_eq_true rfl, Nat.le_of_ble_eq_true rfl⟩) ⟨RO8.blind, va_recv hK hP (ci := 8) (q0 := 1) rfl rfl, RO8.pre hPc hK8 hNW⟩ rfl rfl hl.1 rfl (lv_room (Nat.le_of_ble_eq_true rfl)) dL_fewestByTrying_4 ⟨Nat.le_of_ble_eq_true rfl, Nat.le_of_ble_eq_true rfl⟩) ?_
    refine lv_i2l (v := v.toInt64) hx hb dL_fewestByTrying_7 rfl ?_
    refine va_last (D := (dC, dI)) (f := fl) hx hb hK hP hD hS 0 3 rfl rfl (inb_in rfl) dL_fewestByTrying_8 (fun H locs hP hD hS => ?_)
    have hP : va_P (dC, dI) vwCl ((wL cI cZ cS cL (fS hs) (fG hs) o (vp_updL fl 0 v.toInt64) a M) ++ RW cI cZ hs) H := hP
    have hD : va_D A ((wL cI cZ cS cL (fS hs) (fG hs) o (vp_updL fl 0 v.toInt64) a M) ++ RW cI cZ hs) := hD
    refine lv_goto (tgt := 18) hx hb dL_fewestByTrying_9 (by decide) ?_
    refine lv_iconst (v := (0 : Int32)) hx hb dL_fewestByTrying_18 (by decide) ?_
    refine W.widen (k := 1) (n := 6) (Nat.le_of_ble_eq_true rfl) (Nat.le_of_ble_eq_true rfl) ?_
    exact W.iret hx hb hr (fun t ht hW => ⟨⟨_, (hs, (vp_updL fl 0 v.toInt64)), rfl, ⟨rfl, rfl, fun v9 h9 => by cases h9; rfl⟩, WE.mk hP hD ht⟩, hS.F ht⟩) hS.2.2 dL_fewestByTrying_19
  · subst hr9
    refine vx_thrH (vx_runV (As := [.int a1]) (rest := [.int (0 : Int32), .ref o]) ⟨hx, hb, hml, hown, hts⟩ (t_X8_fewestByTrying l hst dC dI cI cZ cS (fS hs) (fG hs) a _ M a1 E9 hf) (cwV 1 hts gL_fewestByTrying_X8_fewestByTrying rfl rfl rfl (by decide +kernel) ⟨Nat.le_of_ble_eq_true rfl, Nat.le_of_ble_eq_true rfl⟩) ⟨T8.blind, va_recv hK hP (ci := 8) (q0 := 1) rfl rfl, T8.pre hPc hK8 hDc hNW (hEX.at hS hFc)⟩ rfl rfl hl.1 rfl (lv_room (Nat.le_of_ble_eq_true rfl)) dL_fewestByTrying_4 ⟨Nat.le_of_ble_eq_true rfl, Nat.le_of_ble_eq_true rfl⟩) hS (fun q _ h => hFc q h) hFc (fun ce q9 t H1 locs1 ht hal hP1 hD1 hz1 hk1 hS hce hcv hcl => ?_)
    obtain ⟨hP, hD⟩ := join_app (ws := (wL cI cZ cS cL (fS hs) (fG hs) o fl a M)) (wr := [(o, .inl (cL, 1, .inr (.inl fl)))]) (w1 := _) hP hD [1, 2, 3, 4, 5, 6, 7, 8, 9, 10, 11, 12, 13, 14, 15, 16, 17, 18, 19, 20, 21, 22, 23, 24, 25, 26, 27, 28, 29, 30, 31, 32, 33, 34, 35, 36, 37, 38, 39, 40, 41, 42] [0] rfl rfl (by decide) (by decide) hk1 hFc hP1 hD1
    have hP : va_P (dC, dI) vwCl ((wL cI cZ cS cL (fS hs) (fG hs) o fl a M) ++ RW cI cZ hs) H1 := hP
    have hD : va_D A ((wL cI cZ cS cL (fS hs) (fG hs) o fl a M) ++ RW cI cZ hs) := hD
    generalize H1 = H at hP hS hce ⊢
    rcases (show i9 = 0 ∨ i9 = 1 by have h7 := (List.getElem?_eq_some_iff.mp hi9).1; simp only [List.length] at h7; omega) with rfl | rfl
    · cases hi9
      refine vx_catch (own := RL) (name := "java/lang/IndexOutOfBoundsException") hown [] ⟨0, 9, 12, 20⟩ [⟨0, 9, 15, 15⟩] htab (fun z hz => nomatch hz) rfl (by decide) hcl20 ((nc422 hNW).use rfl) hce hcv hcl ?_
      refine lv_astore_n (lv' := [(3, .ref q9), (0, .ref (a 0)), (1, .int a1), (2, .ref o)]) hx hb dL_fewestByTrying_12 rfl hl (by decide) rfl (fun ls hl => ?_)
      refine lv_iconst (v := (1 : Int32)) hx hb dL_fewestByTrying_13 (by decide) ?_
      refine W.widen (k := 1) (n := 6) (Nat.le_of_ble_eq_true rfl) (Nat.le_of_ble_eq_true rfl) ?_
      exact W.iret hx hb hr (fun t ht hW => ⟨⟨_, (hs, fl), rfl, ⟨hk9.symm, rfl, fun v9 h9 => by cases h9⟩, WE.mk hP hD ht⟩, hS.F ht⟩) hS.2.2 dL_fewestByTrying_14
    · cases hi9
      refine vx_catch (own := RL) (name := "java/lang/IllegalStateException") hown [⟨0, 9, 12, 20⟩] ⟨0, 9, 15, 15⟩ [] htab (fun z hz => by
      rcases (show z = ⟨0, 9, 12, 20⟩ by simpa using hz) with rfl
      · exact Or.inr ⟨by decide, "java/lang/IndexOutOfBoundsException", hcl20, hNC ("java/lang/IllegalStateException", "java/lang/IndexOutOfBoundsException") (List.mem_of_getElem? (i := 1) rfl)⟩) rfl (by decide) hcl15 ((nc58 hNW).use rfl) hce hcv hcl ?_
      refine lv_astore_n (lv' := [(3, .ref q9), (0, .ref (a 0)), (1, .int a1), (2, .ref o)]) hx hb dL_fewestByTrying_15 rfl hl (by decide) rfl (fun ls hl => ?_)
      refine lv_iconst (v := (2 : Int32)) hx hb dL_fewestByTrying_16 (by decide) ?_
      refine W.widen (k := 1) (n := 6) (Nat.le_of_ble_eq_true rfl) (Nat.le_of_ble_eq_true rfl) ?_
      exact W.iret hx hb hr (fun t ht hW => ⟨⟨_, (hs, fl), rfl, ⟨hk9.symm, rfl, fun v9 h9 => by cases h9⟩, WE.mk hP hD ht⟩, hS.F ht⟩) hS.2.2 dL_fewestByTrying_17
set_option maxHeartbeats 4000000 in
set_option maxRecDepth 100000 in
theorem w_L_fewestByGoing (l : Launch) (hst : l.stackTraces = false) (dC : Nat → ClassId) (dI : Nat → Nat → Nat) (cI cZ cS cL : ClassId) (hs : HS) (o : Nat) (fl : Nat → Int64) (a : Nat → Nat) (sz : Nat) (M : Mem) (a1 : Int32) (r : String ⊕ Int32) (kk : Int32) (z2 : Mem) (hf : fX8_fewestByGoing M a1 = some (r, z2)) (hA9 : Ans ["java/lang/IndexOutOfBoundsException", "java/lang/IllegalStateException"] r kk) : Met l yL_fewestByGoing wsL_fewestByGoing ({ frames := 21, cells := 1, slots := 6, locals := 513 } : Room) (va_Pc [.ref (a 0), .int a1, .ref o] (T9 (dC, dI) cI cZ cS cL ((wL cI cZ cS cL (fS hs) (fG hs) o fl a M) ++ RW cI cZ hs) sz)) (va_Qi (S := HS × (Nat → Int64)) (fun k u => k = kk ∧ u.1 = hs ∧ ∀ v, r = .inr v → u.2 0 = v.toInt64) (fun u t => WE (dC, dI) cI cZ ((wL cI cZ cS cL (fS u.1) (fG u.1) o u.2 a (sr M 41 (z2 41))) ++ RW cI cZ u.1) (va_A ((wL cI cZ cS cL (fS hs) (fG hs) o fl a M) ++ RW cI cZ hs) sz) t) (va_A ((wL cI cZ cS cL (fS hs) (fG hs) o fl a M) ++ RW cI cZ hs) sz)) 1 6 (va_A ((wL cI cZ cS cL (fS hs) (fG hs) o fl a M) ++ RW cI cZ hs) sz) := by
  refine va_MetW (cc := cL_fewestByGoing) (maxL := 4) (ret := (some .int)) (hh := [(0, 9, 12, 20), (0, 9, 15, 15)]) (by decide) rfl ?_
  intro p e s m args below meth c s₁ B hml hv
  obtain ⟨rfl, hsz, hP, hK, hD0, hNW, hEX, hNC⟩ := hv
  have hx := B.exec
  have hb := B.bytes
  have hr := B.returns
  have hts := atoms_spec (ws := wsL_fewestByGoing) B.pre
  have hown : s.vm.findClass RL = some m.cls := findClass_of_methodNamed B.named
  have htab : c.exceptionTable.toList = tableOf [(0, 9, 12, 20), (0, 9, 15, 15)] := vx_table (x := yL_law) B (hts (.codeWith yL_fewestByGoing cL_fewestByGoing 4 (some .int) [(0, 9, 12, 20), (0, 9, 15, 15)]) List.mem_cons_self)
  have hK8 : va_K (dC, dI) vwCl (tys8 cI cZ cS) s := hK.sub (tys' := tys8 cI cZ cS) [0, 1, 2] rfl
  have hcl20 := hts (.classLink RL 20 "java/lang/IndexOutOfBoundsException") (by decide +kernel)
  have hcl15 := hts (.classLink RL 15 "java/lang/IllegalStateException") (by decide +kernel)
  subst hsz
  have hD := hD0.self (sz := s.heap.size)
  generalize hAe : va_A ((wL cI cZ cS cL (fS hs) (fG hs) o fl a M) ++ RW cI cZ hs) s.heap.size = A at hD hEX ⊢
  have hA : ∀ q : Nat, s.heap.size ≤ q → A q := fun q h => by rw [← hAe]; exact Or.inr h
  have hS : va_S A s.heap s.heap [] := va_S.rf
  have hl := lv_entry ([.ref (a 0), .int a1, .ref o]) (n := 4) (Nat.le_of_ble_eq_true rfl)
  rw [lg_entry_eq]
  generalize (lg_sl ([.ref (a 0), .int a1, .ref o]) ++ List.replicate (4 - (lg_sl ([.ref (a 0), .int a1, .ref o])).length) Slot.unset).toArray = ls at hl ⊢
  have hl : lv_has ls 4 [(0, .ref (a 0)), (1, .int a1), (2, .ref o)] := hl
  suffices hgo : ∀ (H : Heap) (locs : List Loc), va_P (dC, dI) vwCl ((wL cI cZ cS cL (fS hs) (fG hs) o fl a M) ++ RW cI cZ hs) H → va_D A ((wL cI cZ cS cL (fS hs) (fG hs) o fl a M) ++ RW cI cZ hs) → va_S A s.heap H locs → W p l e (headSpec wsL_fewestByGoing ({ frames := 21, cells := 1, slots := 6, locals := 513 } : Room)).room s m ([.ref (a 0), .int a1, .ref o] : List Value).toArray below meth c H locs 0 0 (MQ below (va_Qi (S := HS × (Nat → Int64)) (fun k u => k = kk ∧ u.1 = hs ∧ ∀ v, r = .inr v → u.2 0 = v.toInt64) (fun u t => WE (dC, dI) cI cZ ((wL cI cZ cS cL (fS u.1) (fG u.1) o u.2 a (sr M 41 (z2 41))) ++ RW cI cZ u.1) A t) A) ([.ref (a 0), .int a1, .ref o] : List Value).toArray s 1 6 A) (F0 m 0 ls []) from hgo _ _ hP hD hS
  intro H locs hP hD hS
  refine lv_aload_n hx hb dL_fewestByGoing_0 rfl (lv_at hl 2 rfl) ?_
  refine lv_iconst (v := (0 : Int32)) hx hb dL_fewestByGoing_1 (by decide) ?_
  refine lv_aload_n hx hb dL_fewestByGoing_2 rfl (lv_at hl 0 rfl) ?_
  refine lv_iload_n hx hb dL_fewestByGoing_3 rfl (lv_at hl 1 rfl) ?_
  have hPc := P_head (ws := (wL cI cZ cS cL (fS hs) (fG hs) o fl a M)) (ws' := (wX8 cI cZ cS (fS hs) (fG hs) a M)) hP [1, 2, 3, 4, 5, 6, 7, 8, 9, 10, 11, 12, 13, 14, 15, 16, 17, 18, 19, 20, 21, 22, 23, 24, 25, 26, 27, 28, 29, 30, 31, 32, 33, 34, 35, 36, 37, 38, 39, 40, 41, 42] rfl
  have hDc := D_head (ws := (wL cI cZ cS cL (fS hs) (fG hs) o fl a M)) (ws' := (wX8 cI cZ cS (fS hs) (fG hs) a M)) hD [1, 2, 3, 4, 5, 6, 7, 8, 9, 10, 11, 12, 13, 14, 15, 16, 17, 18, 19, 20, 21, 22, 23, 24, 25, 26, 27, 28, 29, 30, 31, 32, 33, 34, 35, 36, 37, 38, 39, 40, 41, 42] (by decide) rfl
  have hFc := va_free (wc := (wX8 cI cZ cS (fS hs) (fG hs) a M)) hD hS hA [1, 2, 3, 4, 5, 6, 7, 8, 9, 10, 11, 12, 13, 14, 15, 16, 17, 18, 19, 20, 21, 22, 23, 24, 25, 26, 27, 28, 29, 30, 31, 32, 33, 34, 35, 36, 37, 38, 39, 40, 41, 42] rfl
  rcases hA9 with ⟨v, hr9, hk9⟩ | ⟨i9, E9, hi9, hr9, hk9⟩
  · subst hr9
    subst hk9
    refine va_calli (va_runV (As := [.int a1]) (rest := [.int (0 : Int32), .ref o]) ⟨hx, hb, hml, hown, hts⟩ (n_X8_fewestByGoing l dC dI cI cZ cS (fS hs) (fG hs) a H.size M a1 v z2 hf) (cwV 1 hts gL_fewestByGoing_X8_fewestByGoing rfl rfl rfl (by decide +kernel) ⟨Nat.le_of_ble_eq_true rfl, Nat.le_of_ble_eq_true rfl⟩) ⟨WR8.blind, va_recv hK hP (ci := 8) (q0 := 1) rfl rfl, WR8.pre hPc hK8 hDc hNW⟩ rfl rfl hl.1 rfl (lv_room (Nat.le_of_ble_eq_true rfl)) dL_fewestByGoing_4 ⟨Nat.le_of_ble_eq_true rfl, Nat.le_of_ble_eq_true rfl⟩) hS (fun q _ h => hFc q h) hFc (fun rv u t H1 locs ht hvm hw hB hz1 hk1 hS => ?_)
    obtain ⟨hP1, hD1⟩ := hB
    rw [ht] at hP1
    rw [hw]
    obtain ⟨hP, hD⟩ := join_app (ws := (wL cI cZ cS cL (fS hs) (fG hs) o fl a M)) (wr := [(o, .inl (cL, 1, .inr (.inl fl)))]) (w1 := _) hP hD [1, 2, 3, 4, 5, 6, 7, 8, 9, 10, 11, 12, 13, 14, 15, 16, 17, 18, 19, 20, 21, 22, 23, 24, 25, 26, 27, 28, 29, 30, 31, 32, 33, 34, 35, 36, 37, 38, 39, 40, 41, 42] [0] rfl rfl (by decide) (by decide) hk1 hFc hP1 hD1
    have hP : va_P (dC, dI) vwCl ((wL cI cZ cS cL (fS hs) (fG hs) o fl a (sr M 41 (z2 41))) ++ RW cI cZ hs) H1 := hP
    have hD : va_D A ((wL cI cZ cS cL (fS hs) (fG hs) o fl a (sr M 41 (z2 41))) ++ RW cI cZ hs) := hD
    generalize H1 = H at hP hS ⊢
    refine lv_i2l (v := v.toInt64) hx hb dL_fewestByGoing_7 rfl ?_
    refine va_last (D := (dC, dI)) (f := fl) hx hb hK hP hD hS 0 3 rfl rfl (inb_in rfl) dL_fewestByGoing_8 (fun H locs hP hD hS => ?_)
    have hP : va_P (dC, dI) vwCl ((wL cI cZ cS cL (fS hs) (fG hs) o (vp_updL fl 0 v.toInt64) a (sr M 41 (z2 41))) ++ RW cI cZ hs) H := hP
    have hD : va_D A ((wL cI cZ cS cL (fS hs) (fG hs) o (vp_updL fl 0 v.toInt64) a (sr M 41 (z2 41))) ++ RW cI cZ hs) := hD
    refine lv_goto (tgt := 18) hx hb dL_fewestByGoing_9 (by decide) ?_
    refine lv_iconst (v := (0 : Int32)) hx hb dL_fewestByGoing_18 (by decide) ?_
    refine W.widen (k := 1) (n := 6) (Nat.le_of_ble_eq_true rfl) (Nat.le_of_ble_eq_true rfl) ?_
    exact W.iret hx hb hr (fun t ht hW => ⟨⟨_, (hs, (vp_updL fl 0 v.toInt64)), rfl, ⟨rfl, rfl, fun v9 h9 => by cases h9; rfl⟩, WE.mk hP hD ht⟩, hS.F ht⟩) hS.2.2 dL_fewestByGoing_19
  · subst hr9
    refine vx_thrH (vx_runV (As := [.int a1]) (rest := [.int (0 : Int32), .ref o]) ⟨hx, hb, hml, hown, hts⟩ (t_X8_fewestByGoing l hst dC dI cI cZ cS (fS hs) (fG hs) a _ M a1 E9 z2 hf) (cwV 1 hts gL_fewestByGoing_X8_fewestByGoing rfl rfl rfl (by decide +kernel) ⟨Nat.le_of_ble_eq_true rfl, Nat.le_of_ble_eq_true rfl⟩) ⟨T8.blind, va_recv hK hP (ci := 8) (q0 := 1) rfl rfl, T8.pre hPc hK8 hDc hNW (hEX.at hS hFc)⟩ rfl rfl hl.1 rfl (lv_room (Nat.le_of_ble_eq_true rfl)) dL_fewestByGoing_4 ⟨Nat.le_of_ble_eq_true rfl, Nat.le_of_ble_eq_true rfl⟩) hS (fun q _ h => hFc q h) hFc (fun ce q9 t H1 locs1 ht hal hP1 hD1 hz1 hk1 hS hce hcv hcl => ?_)
    obtain ⟨hP, hD⟩ := join_app (ws := (wL cI cZ cS cL (fS hs) (fG hs) o fl a M)) (wr := [(o, .inl (cL, 1, .inr (.inl fl)))]) (w1 := _) hP hD [1, 2, 3, 4, 5, 6, 7, 8, 9, 10, 11, 12, 13, 14, 15, 16, 17, 18, 19, 20, 21, 22, 23, 24, 25, 26, 27, 28, 29, 30, 31, 32, 33, 34, 35, 36, 37, 38, 39, 40, 41, 42] [0] rfl rfl (by decide) (by decide) hk1 hFc hP1 hD1
    have hP : va_P (dC, dI) vwCl ((wL cI cZ cS cL (fS hs) (fG hs) o fl a (sr M 41 (z2 41))) ++ RW cI cZ hs) H1 := hP
    have hD : va_D A ((wL cI cZ cS cL (fS hs) (fG hs) o fl a (sr M 41 (z2 41))) ++ RW cI cZ hs) := hD
    generalize H1 = H at hP hS hce ⊢
    rcases (show i9 = 0 ∨ i9 = 1 by have h7 := (List.getElem?_eq_some_iff.mp hi9).1; simp only [List.length] at h7; omega) with rfl | rfl
    · cases hi9
      refine vx_catch (own := RL) (name := "java/lang/IndexOutOfBoundsException") hown [] ⟨0, 9, 12, 20⟩ [⟨0, 9, 15, 15⟩] htab (fun z hz => nomatch hz) rfl (by decide) hcl20 ((nc422 hNW).use rfl) hce hcv hcl ?_
      refine lv_astore_n (lv' := [(3, .ref q9), (0, .ref (a 0)), (1, .int a1), (2, .ref o)]) hx hb dL_fewestByGoing_12 rfl hl (by decide) rfl (fun ls hl => ?_)
      refine lv_iconst (v := (1 : Int32)) hx hb dL_fewestByGoing_13 (by decide) ?_
      refine W.widen (k := 1) (n := 6) (Nat.le_of_ble_eq_true rfl) (Nat.le_of_ble_eq_true rfl) ?_
      exact W.iret hx hb hr (fun t ht hW => ⟨⟨_, (hs, fl), rfl, ⟨hk9.symm, rfl, fun v9 h9 => by cases h9⟩, WE.mk hP hD ht⟩, hS.F ht⟩) hS.2.2 dL_fewestByGoing_14
    · cases hi9
      refine vx_catch (own := RL) (name := "java/lang/IllegalStateException") hown [⟨0, 9, 12, 20⟩] ⟨0, 9, 15, 15⟩ [] htab (fun z hz => by
      rcases (show z = ⟨0, 9, 12, 20⟩ by simpa using hz) with rfl
      · exact Or.inr ⟨by decide, "java/lang/IndexOutOfBoundsException", hcl20, hNC ("java/lang/IllegalStateException", "java/lang/IndexOutOfBoundsException") (List.mem_of_getElem? (i := 1) rfl)⟩) rfl (by decide) hcl15 ((nc58 hNW).use rfl) hce hcv hcl ?_
      refine lv_astore_n (lv' := [(3, .ref q9), (0, .ref (a 0)), (1, .int a1), (2, .ref o)]) hx hb dL_fewestByGoing_15 rfl hl (by decide) rfl (fun ls hl => ?_)
      refine lv_iconst (v := (2 : Int32)) hx hb dL_fewestByGoing_16 (by decide) ?_
      refine W.widen (k := 1) (n := 6) (Nat.le_of_ble_eq_true rfl) (Nat.le_of_ble_eq_true rfl) ?_
      exact W.iret hx hb hr (fun t ht hW => ⟨⟨_, (hs, fl), rfl, ⟨hk9.symm, rfl, fun v9 h9 => by cases h9⟩, WE.mk hP hD ht⟩, hS.F ht⟩) hS.2.2 dL_fewestByGoing_17
set_option maxHeartbeats 4000000 in
set_option maxRecDepth 100000 in
theorem w_L_choiceFor (l : Launch) (hst : l.stackTraces = false) (dC : Nat → ClassId) (dI : Nat → Nat → Nat) (cI cZ cS cL : ClassId) (hs : HS) (o : Nat) (fl : Nat → Int64) (a : Nat → Nat) (sz : Nat) (M : Mem) (a1 : Int32) (r : String ⊕ Int32) (kk : Int32) (hf : fX8_choiceFor M a1 = some r) (hA9 : Ans ["java/lang/IndexOutOfBoundsException", "java/lang/IllegalStateException"] r kk) : Met l yL_choiceFor wsL_choiceFor ({ frames := 8, cells := 1, slots := 6, locals := 152 } : Room) (va_Pc [.ref (a 0), .int a1, .ref o] (T9 (dC, dI) cI cZ cS cL ((wL cI cZ cS cL (fS hs) (fG hs) o fl a M) ++ RW cI cZ hs) sz)) (va_Qi (S := HS × (Nat → Int64)) (fun k u => k = kk ∧ u.1 = hs ∧ ∀ v, r = .inr v → u.2 0 = v.toInt64) (fun u t => WE (dC, dI) cI cZ ((wL cI cZ cS cL (fS u.1) (fG u.1) o u.2 a M) ++ RW cI cZ u.1) (va_A ((wL cI cZ cS cL (fS hs) (fG hs) o fl a M) ++ RW cI cZ hs) sz) t) (va_A ((wL cI cZ cS cL (fS hs) (fG hs) o fl a M) ++ RW cI cZ hs) sz)) 1 6 (va_A ((wL cI cZ cS cL (fS hs) (fG hs) o fl a M) ++ RW cI cZ hs) sz) := by
  refine va_MetW (cc := cL_choiceFor) (maxL := 4) (ret := (some .int)) (hh := [(0, 9, 12, 20), (0, 9, 15, 15)]) (by decide) rfl ?_
  intro p e s m args below meth c s₁ B hml hv
  obtain ⟨rfl, hsz, hP, hK, hD0, hNW, hEX, hNC⟩ := hv
  have hx := B.exec
  have hb := B.bytes
  have hr := B.returns
  have hts := atoms_spec (ws := wsL_choiceFor) B.pre
  have hown : s.vm.findClass RL = some m.cls := findClass_of_methodNamed B.named
  have htab : c.exceptionTable.toList = tableOf [(0, 9, 12, 20), (0, 9, 15, 15)] := vx_table (x := yL_law) B (hts (.codeWith yL_choiceFor cL_choiceFor 4 (some .int) [(0, 9, 12, 20), (0, 9, 15, 15)]) List.mem_cons_self)
  have hK8 : va_K (dC, dI) vwCl (tys8 cI cZ cS) s := hK.sub (tys' := tys8 cI cZ cS) [0, 1, 2] rfl
  have hcl20 := hts (.classLink RL 20 "java/lang/IndexOutOfBoundsException") (by decide +kernel)
  have hcl15 := hts (.classLink RL 15 "java/lang/IllegalStateException") (by decide +kernel)
  subst hsz
  have hD := hD0.self (sz := s.heap.size)
  generalize hAe : va_A ((wL cI cZ cS cL (fS hs) (fG hs) o fl a M) ++ RW cI cZ hs) s.heap.size = A at hD hEX ⊢
  have hA : ∀ q : Nat, s.heap.size ≤ q → A q := fun q h => by rw [← hAe]; exact Or.inr h
  have hS : va_S A s.heap s.heap [] := va_S.rf
  have hl := lv_entry ([.ref (a 0), .int a1, .ref o]) (n := 4) (Nat.le_of_ble_eq_true rfl)
  rw [lg_entry_eq]
  generalize (lg_sl ([.ref (a 0), .int a1, .ref o]) ++ List.replicate (4 - (lg_sl ([.ref (a 0), .int a1, .ref o])).length) Slot.unset).toArray = ls at hl ⊢
  have hl : lv_has ls 4 [(0, .ref (a 0)), (1, .int a1), (2, .ref o)] := hl
  suffices hgo : ∀ (H : Heap) (locs : List Loc), va_P (dC, dI) vwCl ((wL cI cZ cS cL (fS hs) (fG hs) o fl a M) ++ RW cI cZ hs) H → va_D A ((wL cI cZ cS cL (fS hs) (fG hs) o fl a M) ++ RW cI cZ hs) → va_S A s.heap H locs → W p l e (headSpec wsL_choiceFor ({ frames := 8, cells := 1, slots := 6, locals := 152 } : Room)).room s m ([.ref (a 0), .int a1, .ref o] : List Value).toArray below meth c H locs 0 0 (MQ below (va_Qi (S := HS × (Nat → Int64)) (fun k u => k = kk ∧ u.1 = hs ∧ ∀ v, r = .inr v → u.2 0 = v.toInt64) (fun u t => WE (dC, dI) cI cZ ((wL cI cZ cS cL (fS u.1) (fG u.1) o u.2 a M) ++ RW cI cZ u.1) A t) A) ([.ref (a 0), .int a1, .ref o] : List Value).toArray s 1 6 A) (F0 m 0 ls []) from hgo _ _ hP hD hS
  intro H locs hP hD hS
  refine lv_aload_n hx hb dL_choiceFor_0 rfl (lv_at hl 2 rfl) ?_
  refine lv_iconst (v := (0 : Int32)) hx hb dL_choiceFor_1 (by decide) ?_
  refine lv_aload_n hx hb dL_choiceFor_2 rfl (lv_at hl 0 rfl) ?_
  refine lv_iload_n hx hb dL_choiceFor_3 rfl (lv_at hl 1 rfl) ?_
  have hPc := P_head (ws := (wL cI cZ cS cL (fS hs) (fG hs) o fl a M)) (ws' := (wX8 cI cZ cS (fS hs) (fG hs) a M)) hP [1, 2, 3, 4, 5, 6, 7, 8, 9, 10, 11, 12, 13, 14, 15, 16, 17, 18, 19, 20, 21, 22, 23, 24, 25, 26, 27, 28, 29, 30, 31, 32, 33, 34, 35, 36, 37, 38, 39, 40, 41, 42] rfl
  have hDc := D_head (ws := (wL cI cZ cS cL (fS hs) (fG hs) o fl a M)) (ws' := (wX8 cI cZ cS (fS hs) (fG hs) a M)) hD [1, 2, 3, 4, 5, 6, 7, 8, 9, 10, 11, 12, 13, 14, 15, 16, 17, 18, 19, 20, 21, 22, 23, 24, 25, 26, 27, 28, 29, 30, 31, 32, 33, 34, 35, 36, 37, 38, 39, 40, 41, 42] (by decide) rfl
  have hFc := va_free (wc := (wX8 cI cZ cS (fS hs) (fG hs) a M)) hD hS hA [1, 2, 3, 4, 5, 6, 7, 8, 9, 10, 11, 12, 13, 14, 15, 16, 17, 18, 19, 20, 21, 22, 23, 24, 25, 26, 27, 28, 29, 30, 31, 32, 33, 34, 35, 36, 37, 38, 39, 40, 41, 42] rfl
  rcases hA9 with ⟨v, hr9, hk9⟩ | ⟨i9, E9, hi9, hr9, hk9⟩
  · subst hr9
    subst hk9
    refine cRO (W.runV (As := [.int a1]) (rest := [.int (0 : Int32), .ref o]) ⟨hx, hb, hml, hown, hts⟩ (n_X8_choiceFor l dC dI cI cZ cS (fS hs) (fG hs) a M a1 v hf) (cwV 1 hts gL_choiceFor_X8_choiceFor rfl rfl rfl (by decide +kernel) ⟨Nat.le_of_ble_eq_true rfl, Nat.le_of_ble_eq_true rfl⟩) ⟨RO8.blind, va_recv hK hP (ci := 8) (q0 := 1) rfl rfl, RO8.pre hPc hK8 hNW⟩ rfl rfl hl.1 rfl (lv_room (Nat.le_of_ble_eq_true rfl)) dL_choiceFor_4 ⟨Nat.le_of_ble_eq_true rfl, Nat.le_of_ble_eq_true rfl⟩) ?_
    refine lv_i2l (v := v.toInt64) hx hb dL_choiceFor_7 rfl ?_
    refine va_last (D := (dC, dI)) (f := fl) hx hb hK hP hD hS 0 3 rfl rfl (inb_in rfl) dL_choiceFor_8 (fun H locs hP hD hS => ?_)
    have hP : va_P (dC, dI) vwCl ((wL cI cZ cS cL (fS hs) (fG hs) o (vp_updL fl 0 v.toInt64) a M) ++ RW cI cZ hs) H := hP
    have hD : va_D A ((wL cI cZ cS cL (fS hs) (fG hs) o (vp_updL fl 0 v.toInt64) a M) ++ RW cI cZ hs) := hD
    refine lv_goto (tgt := 18) hx hb dL_choiceFor_9 (by decide) ?_
    refine lv_iconst (v := (0 : Int32)) hx hb dL_choiceFor_18 (by decide) ?_
    refine W.widen (k := 1) (n := 6) (Nat.le_of_ble_eq_true rfl) (Nat.le_of_ble_eq_true rfl) ?_
    exact W.iret hx hb hr (fun t ht hW => ⟨⟨_, (hs, (vp_updL fl 0 v.toInt64)), rfl, ⟨rfl, rfl, fun v9 h9 => by cases h9; rfl⟩, WE.mk hP hD ht⟩, hS.F ht⟩) hS.2.2 dL_choiceFor_19
  · subst hr9
    refine vx_thrH (vx_runV (As := [.int a1]) (rest := [.int (0 : Int32), .ref o]) ⟨hx, hb, hml, hown, hts⟩ (t_X8_choiceFor l hst dC dI cI cZ cS (fS hs) (fG hs) a _ M a1 E9 hf) (cwV 1 hts gL_choiceFor_X8_choiceFor rfl rfl rfl (by decide +kernel) ⟨Nat.le_of_ble_eq_true rfl, Nat.le_of_ble_eq_true rfl⟩) ⟨T8.blind, va_recv hK hP (ci := 8) (q0 := 1) rfl rfl, T8.pre hPc hK8 hDc hNW (hEX.at hS hFc)⟩ rfl rfl hl.1 rfl (lv_room (Nat.le_of_ble_eq_true rfl)) dL_choiceFor_4 ⟨Nat.le_of_ble_eq_true rfl, Nat.le_of_ble_eq_true rfl⟩) hS (fun q _ h => hFc q h) hFc (fun ce q9 t H1 locs1 ht hal hP1 hD1 hz1 hk1 hS hce hcv hcl => ?_)
    obtain ⟨hP, hD⟩ := join_app (ws := (wL cI cZ cS cL (fS hs) (fG hs) o fl a M)) (wr := [(o, .inl (cL, 1, .inr (.inl fl)))]) (w1 := _) hP hD [1, 2, 3, 4, 5, 6, 7, 8, 9, 10, 11, 12, 13, 14, 15, 16, 17, 18, 19, 20, 21, 22, 23, 24, 25, 26, 27, 28, 29, 30, 31, 32, 33, 34, 35, 36, 37, 38, 39, 40, 41, 42] [0] rfl rfl (by decide) (by decide) hk1 hFc hP1 hD1
    have hP : va_P (dC, dI) vwCl ((wL cI cZ cS cL (fS hs) (fG hs) o fl a M) ++ RW cI cZ hs) H1 := hP
    have hD : va_D A ((wL cI cZ cS cL (fS hs) (fG hs) o fl a M) ++ RW cI cZ hs) := hD
    generalize H1 = H at hP hS hce ⊢
    rcases (show i9 = 0 ∨ i9 = 1 by have h7 := (List.getElem?_eq_some_iff.mp hi9).1; simp only [List.length] at h7; omega) with rfl | rfl
    · cases hi9
      refine vx_catch (own := RL) (name := "java/lang/IndexOutOfBoundsException") hown [] ⟨0, 9, 12, 20⟩ [⟨0, 9, 15, 15⟩] htab (fun z hz => nomatch hz) rfl (by decide) hcl20 ((nc422 hNW).use rfl) hce hcv hcl ?_
      refine lv_astore_n (lv' := [(3, .ref q9), (0, .ref (a 0)), (1, .int a1), (2, .ref o)]) hx hb dL_choiceFor_12 rfl hl (by decide) rfl (fun ls hl => ?_)
      refine lv_iconst (v := (1 : Int32)) hx hb dL_choiceFor_13 (by decide) ?_
      refine W.widen (k := 1) (n := 6) (Nat.le_of_ble_eq_true rfl) (Nat.le_of_ble_eq_true rfl) ?_
      exact W.iret hx hb hr (fun t ht hW => ⟨⟨_, (hs, fl), rfl, ⟨hk9.symm, rfl, fun v9 h9 => by cases h9⟩, WE.mk hP hD ht⟩, hS.F ht⟩) hS.2.2 dL_choiceFor_14
    · cases hi9
      refine vx_catch (own := RL) (name := "java/lang/IllegalStateException") hown [⟨0, 9, 12, 20⟩] ⟨0, 9, 15, 15⟩ [] htab (fun z hz => by
      rcases (show z = ⟨0, 9, 12, 20⟩ by simpa using hz) with rfl
      · exact Or.inr ⟨by decide, "java/lang/IndexOutOfBoundsException", hcl20, hNC ("java/lang/IllegalStateException", "java/lang/IndexOutOfBoundsException") (List.mem_of_getElem? (i := 1) rfl)⟩) rfl (by decide) hcl15 ((nc58 hNW).use rfl) hce hcv hcl ?_
      refine lv_astore_n (lv' := [(3, .ref q9), (0, .ref (a 0)), (1, .int a1), (2, .ref o)]) hx hb dL_choiceFor_15 rfl hl (by decide) rfl (fun ls hl => ?_)
      refine lv_iconst (v := (2 : Int32)) hx hb dL_choiceFor_16 (by decide) ?_
      refine W.widen (k := 1) (n := 6) (Nat.le_of_ble_eq_true rfl) (Nat.le_of_ble_eq_true rfl) ?_
      exact W.iret hx hb hr (fun t ht hW => ⟨⟨_, (hs, fl), rfl, ⟨hk9.symm, rfl, fun v9 h9 => by cases h9⟩, WE.mk hP hD ht⟩, hS.F ht⟩) hS.2.2 dL_choiceFor_17
set_option maxHeartbeats 4000000 in
set_option maxRecDepth 100000 in
theorem w_L_ticksByServing (l : Launch) (hst : l.stackTraces = false) (dC : Nat → ClassId) (dI : Nat → Nat → Nat) (cI cZ cS cL : ClassId) (hs : HS) (o : Nat) (fl : Nat → Int64) (a : Nat → Nat) (sz : Nat) (M : Mem) (a1 : Int32) (r : String ⊕ Int32) (kk : Int32) (z2 : Mem) (hf : fX8_ticksByServing M a1 = some (r, z2)) (hA9 : Ans ["java/lang/IndexOutOfBoundsException", "java/lang/IllegalStateException"] r kk) : Met l yL_ticksByServing wsL_ticksByServing ({ frames := 8, cells := 1, slots := 6, locals := 154 } : Room) (va_Pc [.ref (a 0), .int a1, .ref o] (T9 (dC, dI) cI cZ cS cL ((wL cI cZ cS cL (fS hs) (fG hs) o fl a M) ++ RW cI cZ hs) sz)) (va_Qi (S := HS × (Nat → Int64)) (fun k u => k = kk ∧ u.1 = hs ∧ ∀ v, r = .inr v → u.2 0 = v.toInt64) (fun u t => WE (dC, dI) cI cZ ((wL cI cZ cS cL (fS u.1) (fG u.1) o u.2 a (sr (sr (sr (sr (sr (sr (sr (sr (sr (sr (sr (sr (sr (sr (sr M 17 (z2 17)) 18 (z2 18)) 19 (z2 19)) 20 (z2 20)) 21 (z2 21)) 22 (z2 22)) 23 (z2 23)) 24 (z2 24)) 25 (z2 25)) 27 (z2 27)) 28 (z2 28)) 29 (z2 29)) 30 (z2 30)) 31 (z2 31)) 32 (z2 32))) ++ RW cI cZ u.1) (va_A ((wL cI cZ cS cL (fS hs) (fG hs) o fl a M) ++ RW cI cZ hs) sz) t) (va_A ((wL cI cZ cS cL (fS hs) (fG hs) o fl a M) ++ RW cI cZ hs) sz)) 1 6 (va_A ((wL cI cZ cS cL (fS hs) (fG hs) o fl a M) ++ RW cI cZ hs) sz) := by
  refine va_MetW (cc := cL_ticksByServing) (maxL := 4) (ret := (some .int)) (hh := [(0, 9, 12, 20), (0, 9, 15, 15)]) (by decide) rfl ?_
  intro p e s m args below meth c s₁ B hml hv
  obtain ⟨rfl, hsz, hP, hK, hD0, hNW, hEX, hNC⟩ := hv
  have hx := B.exec
  have hb := B.bytes
  have hr := B.returns
  have hts := atoms_spec (ws := wsL_ticksByServing) B.pre
  have hown : s.vm.findClass RL = some m.cls := findClass_of_methodNamed B.named
  have htab : c.exceptionTable.toList = tableOf [(0, 9, 12, 20), (0, 9, 15, 15)] := vx_table (x := yL_law) B (hts (.codeWith yL_ticksByServing cL_ticksByServing 4 (some .int) [(0, 9, 12, 20), (0, 9, 15, 15)]) List.mem_cons_self)
  have hK8 : va_K (dC, dI) vwCl (tys8 cI cZ cS) s := hK.sub (tys' := tys8 cI cZ cS) [0, 1, 2] rfl
  have hcl20 := hts (.classLink RL 20 "java/lang/IndexOutOfBoundsException") (by decide +kernel)
  have hcl15 := hts (.classLink RL 15 "java/lang/IllegalStateException") (by decide +kernel)
  subst hsz
  have hD := hD0.self (sz := s.heap.size)
  generalize hAe : va_A ((wL cI cZ cS cL (fS hs) (fG hs) o fl a M) ++ RW cI cZ hs) s.heap.size = A at hD hEX ⊢
  have hA : ∀ q : Nat, s.heap.size ≤ q → A q := fun q h => by rw [← hAe]; exact Or.inr h
  have hS : va_S A s.heap s.heap [] := va_S.rf
  have hl := lv_entry ([.ref (a 0), .int a1, .ref o]) (n := 4) (Nat.le_of_ble_eq_true rfl)
  rw [lg_entry_eq]
  generalize (lg_sl ([.ref (a 0), .int a1, .ref o]) ++ List.replicate (4 - (lg_sl ([.ref (a 0), .int a1, .ref o])).length) Slot.unset).toArray = ls at hl ⊢
  have hl : lv_has ls 4 [(0, .ref (a 0)), (1, .int a1), (2, .ref o)] := hl
  suffices hgo : ∀ (H : Heap) (locs : List Loc), va_P (dC, dI) vwCl ((wL cI cZ cS cL (fS hs) (fG hs) o fl a M) ++ RW cI cZ hs) H → va_D A ((wL cI cZ cS cL (fS hs) (fG hs) o fl a M) ++ RW cI cZ hs) → va_S A s.heap H locs → W p l e (headSpec wsL_ticksByServing ({ frames := 8, cells := 1, slots := 6, locals := 154 } : Room)).room s m ([.ref (a 0), .int a1, .ref o] : List Value).toArray below meth c H locs 0 0 (MQ below (va_Qi (S := HS × (Nat → Int64)) (fun k u => k = kk ∧ u.1 = hs ∧ ∀ v, r = .inr v → u.2 0 = v.toInt64) (fun u t => WE (dC, dI) cI cZ ((wL cI cZ cS cL (fS u.1) (fG u.1) o u.2 a (sr (sr (sr (sr (sr (sr (sr (sr (sr (sr (sr (sr (sr (sr (sr M 17 (z2 17)) 18 (z2 18)) 19 (z2 19)) 20 (z2 20)) 21 (z2 21)) 22 (z2 22)) 23 (z2 23)) 24 (z2 24)) 25 (z2 25)) 27 (z2 27)) 28 (z2 28)) 29 (z2 29)) 30 (z2 30)) 31 (z2 31)) 32 (z2 32))) ++ RW cI cZ u.1) A t) A) ([.ref (a 0), .int a1, .ref o] : List Value).toArray s 1 6 A) (F0 m 0 ls []) from hgo _ _ hP hD hS
  intro H locs hP hD hS
  refine lv_aload_n hx hb dL_ticksByServing_0 rfl (lv_at hl 2 rfl) ?_
  refine lv_iconst (v := (0 : Int32)) hx hb dL_ticksByServing_1 (by decide) ?_
  refine lv_aload_n hx hb dL_ticksByServing_2 rfl (lv_at hl 0 rfl) ?_
  refine lv_iload_n hx hb dL_ticksByServing_3 rfl (lv_at hl 1 rfl) ?_
  have hPc := P_head (ws := (wL cI cZ cS cL (fS hs) (fG hs) o fl a M)) (ws' := (wX8 cI cZ cS (fS hs) (fG hs) a M)) hP [1, 2, 3, 4, 5, 6, 7, 8, 9, 10, 11, 12, 13, 14, 15, 16, 17, 18, 19, 20, 21, 22, 23, 24, 25, 26, 27, 28, 29, 30, 31, 32, 33, 34, 35, 36, 37, 38, 39, 40, 41, 42] rfl
  have hDc := D_head (ws := (wL cI cZ cS cL (fS hs) (fG hs) o fl a M)) (ws' := (wX8 cI cZ cS (fS hs) (fG hs) a M)) hD [1, 2, 3, 4, 5, 6, 7, 8, 9, 10, 11, 12, 13, 14, 15, 16, 17, 18, 19, 20, 21, 22, 23, 24, 25, 26, 27, 28, 29, 30, 31, 32, 33, 34, 35, 36, 37, 38, 39, 40, 41, 42] (by decide) rfl
  have hFc := va_free (wc := (wX8 cI cZ cS (fS hs) (fG hs) a M)) hD hS hA [1, 2, 3, 4, 5, 6, 7, 8, 9, 10, 11, 12, 13, 14, 15, 16, 17, 18, 19, 20, 21, 22, 23, 24, 25, 26, 27, 28, 29, 30, 31, 32, 33, 34, 35, 36, 37, 38, 39, 40, 41, 42] rfl
  rcases hA9 with ⟨v, hr9, hk9⟩ | ⟨i9, E9, hi9, hr9, hk9⟩
  · subst hr9
    subst hk9
    refine va_calli (va_runV (As := [.int a1]) (rest := [.int (0 : Int32), .ref o]) ⟨hx, hb, hml, hown, hts⟩ (n_X8_ticksByServing l dC dI cI cZ cS (fS hs) (fG hs) a H.size M a1 v z2 hf) (cwV 1 hts gL_ticksByServing_X8_ticksByServing rfl rfl rfl (by decide +kernel) ⟨Nat.le_of_ble_eq_true rfl, Nat.le_of_ble_eq_true rfl⟩) ⟨WR8.blind, va_recv hK hP (ci := 8) (q0 := 1) rfl rfl, WR8.pre hPc hK8 hDc hNW⟩ rfl rfl hl.1 rfl (lv_room (Nat.le_of_ble_eq_true rfl)) dL_ticksByServing_4 ⟨Nat.le_of_ble_eq_true rfl, Nat.le_of_ble_eq_true rfl⟩) hS (fun q _ h => hFc q h) hFc (fun rv u t H1 locs ht hvm hw hB hz1 hk1 hS => ?_)
    obtain ⟨hP1, hD1⟩ := hB
    rw [ht] at hP1
    rw [hw]
    obtain ⟨hP, hD⟩ := join_app (ws := (wL cI cZ cS cL (fS hs) (fG hs) o fl a M)) (wr := [(o, .inl (cL, 1, .inr (.inl fl)))]) (w1 := _) hP hD [1, 2, 3, 4, 5, 6, 7, 8, 9, 10, 11, 12, 13, 14, 15, 16, 17, 18, 19, 20, 21, 22, 23, 24, 25, 26, 27, 28, 29, 30, 31, 32, 33, 34, 35, 36, 37, 38, 39, 40, 41, 42] [0] rfl rfl (by decide) (by decide) hk1 hFc hP1 hD1
    have hP : va_P (dC, dI) vwCl ((wL cI cZ cS cL (fS hs) (fG hs) o fl a (sr (sr (sr (sr (sr (sr (sr (sr (sr (sr (sr (sr (sr (sr (sr M 17 (z2 17)) 18 (z2 18)) 19 (z2 19)) 20 (z2 20)) 21 (z2 21)) 22 (z2 22)) 23 (z2 23)) 24 (z2 24)) 25 (z2 25)) 27 (z2 27)) 28 (z2 28)) 29 (z2 29)) 30 (z2 30)) 31 (z2 31)) 32 (z2 32))) ++ RW cI cZ hs) H1 := hP
    have hD : va_D A ((wL cI cZ cS cL (fS hs) (fG hs) o fl a (sr (sr (sr (sr (sr (sr (sr (sr (sr (sr (sr (sr (sr (sr (sr M 17 (z2 17)) 18 (z2 18)) 19 (z2 19)) 20 (z2 20)) 21 (z2 21)) 22 (z2 22)) 23 (z2 23)) 24 (z2 24)) 25 (z2 25)) 27 (z2 27)) 28 (z2 28)) 29 (z2 29)) 30 (z2 30)) 31 (z2 31)) 32 (z2 32))) ++ RW cI cZ hs) := hD
    generalize H1 = H at hP hS ⊢
    refine lv_i2l (v := v.toInt64) hx hb dL_ticksByServing_7 rfl ?_
    refine va_last (D := (dC, dI)) (f := fl) hx hb hK hP hD hS 0 3 rfl rfl (inb_in rfl) dL_ticksByServing_8 (fun H locs hP hD hS => ?_)
    have hP : va_P (dC, dI) vwCl ((wL cI cZ cS cL (fS hs) (fG hs) o (vp_updL fl 0 v.toInt64) a (sr (sr (sr (sr (sr (sr (sr (sr (sr (sr (sr (sr (sr (sr (sr M 17 (z2 17)) 18 (z2 18)) 19 (z2 19)) 20 (z2 20)) 21 (z2 21)) 22 (z2 22)) 23 (z2 23)) 24 (z2 24)) 25 (z2 25)) 27 (z2 27)) 28 (z2 28)) 29 (z2 29)) 30 (z2 30)) 31 (z2 31)) 32 (z2 32))) ++ RW cI cZ hs) H := hP
    have hD : va_D A ((wL cI cZ cS cL (fS hs) (fG hs) o (vp_updL fl 0 v.toInt64) a (sr (sr (sr (sr (sr (sr (sr (sr (sr (sr (sr (sr (sr (sr (sr M 17 (z2 17)) 18 (z2 18)) 19 (z2 19)) 20 (z2 20)) 21 (z2 21)) 22 (z2 22)) 23 (z2 23)) 24 (z2 24)) 25 (z2 25)) 27 (z2 27)) 28 (z2 28)) 29 (z2 29)) 30 (z2 30)) 31 (z2 31)) 32 (z2 32))) ++ RW cI cZ hs) := hD
    refine lv_goto (tgt := 18) hx hb dL_ticksByServing_9 (by decide) ?_
    refine lv_iconst (v := (0 : Int32)) hx hb dL_ticksByServing_18 (by decide) ?_
    refine W.widen (k := 1) (n := 6) (Nat.le_of_ble_eq_true rfl) (Nat.le_of_ble_eq_true rfl) ?_
    exact W.iret hx hb hr (fun t ht hW => ⟨⟨_, (hs, (vp_updL fl 0 v.toInt64)), rfl, ⟨rfl, rfl, fun v9 h9 => by cases h9; rfl⟩, WE.mk hP hD ht⟩, hS.F ht⟩) hS.2.2 dL_ticksByServing_19
  · subst hr9
    refine vx_thrH (vx_runV (As := [.int a1]) (rest := [.int (0 : Int32), .ref o]) ⟨hx, hb, hml, hown, hts⟩ (t_X8_ticksByServing l hst dC dI cI cZ cS (fS hs) (fG hs) a _ M a1 E9 z2 hf) (cwV 1 hts gL_ticksByServing_X8_ticksByServing rfl rfl rfl (by decide +kernel) ⟨Nat.le_of_ble_eq_true rfl, Nat.le_of_ble_eq_true rfl⟩) ⟨T8.blind, va_recv hK hP (ci := 8) (q0 := 1) rfl rfl, T8.pre hPc hK8 hDc hNW (hEX.at hS hFc)⟩ rfl rfl hl.1 rfl (lv_room (Nat.le_of_ble_eq_true rfl)) dL_ticksByServing_4 ⟨Nat.le_of_ble_eq_true rfl, Nat.le_of_ble_eq_true rfl⟩) hS (fun q _ h => hFc q h) hFc (fun ce q9 t H1 locs1 ht hal hP1 hD1 hz1 hk1 hS hce hcv hcl => ?_)
    obtain ⟨hP, hD⟩ := join_app (ws := (wL cI cZ cS cL (fS hs) (fG hs) o fl a M)) (wr := [(o, .inl (cL, 1, .inr (.inl fl)))]) (w1 := _) hP hD [1, 2, 3, 4, 5, 6, 7, 8, 9, 10, 11, 12, 13, 14, 15, 16, 17, 18, 19, 20, 21, 22, 23, 24, 25, 26, 27, 28, 29, 30, 31, 32, 33, 34, 35, 36, 37, 38, 39, 40, 41, 42] [0] rfl rfl (by decide) (by decide) hk1 hFc hP1 hD1
    have hP : va_P (dC, dI) vwCl ((wL cI cZ cS cL (fS hs) (fG hs) o fl a (sr (sr (sr (sr (sr (sr (sr (sr (sr (sr (sr (sr (sr (sr (sr M 17 (z2 17)) 18 (z2 18)) 19 (z2 19)) 20 (z2 20)) 21 (z2 21)) 22 (z2 22)) 23 (z2 23)) 24 (z2 24)) 25 (z2 25)) 27 (z2 27)) 28 (z2 28)) 29 (z2 29)) 30 (z2 30)) 31 (z2 31)) 32 (z2 32))) ++ RW cI cZ hs) H1 := hP
    have hD : va_D A ((wL cI cZ cS cL (fS hs) (fG hs) o fl a (sr (sr (sr (sr (sr (sr (sr (sr (sr (sr (sr (sr (sr (sr (sr M 17 (z2 17)) 18 (z2 18)) 19 (z2 19)) 20 (z2 20)) 21 (z2 21)) 22 (z2 22)) 23 (z2 23)) 24 (z2 24)) 25 (z2 25)) 27 (z2 27)) 28 (z2 28)) 29 (z2 29)) 30 (z2 30)) 31 (z2 31)) 32 (z2 32))) ++ RW cI cZ hs) := hD
    generalize H1 = H at hP hS hce ⊢
    rcases (show i9 = 0 ∨ i9 = 1 by have h7 := (List.getElem?_eq_some_iff.mp hi9).1; simp only [List.length] at h7; omega) with rfl | rfl
    · cases hi9
      refine vx_catch (own := RL) (name := "java/lang/IndexOutOfBoundsException") hown [] ⟨0, 9, 12, 20⟩ [⟨0, 9, 15, 15⟩] htab (fun z hz => nomatch hz) rfl (by decide) hcl20 ((nc422 hNW).use rfl) hce hcv hcl ?_
      refine lv_astore_n (lv' := [(3, .ref q9), (0, .ref (a 0)), (1, .int a1), (2, .ref o)]) hx hb dL_ticksByServing_12 rfl hl (by decide) rfl (fun ls hl => ?_)
      refine lv_iconst (v := (1 : Int32)) hx hb dL_ticksByServing_13 (by decide) ?_
      refine W.widen (k := 1) (n := 6) (Nat.le_of_ble_eq_true rfl) (Nat.le_of_ble_eq_true rfl) ?_
      exact W.iret hx hb hr (fun t ht hW => ⟨⟨_, (hs, fl), rfl, ⟨hk9.symm, rfl, fun v9 h9 => by cases h9⟩, WE.mk hP hD ht⟩, hS.F ht⟩) hS.2.2 dL_ticksByServing_14
    · cases hi9
      refine vx_catch (own := RL) (name := "java/lang/IllegalStateException") hown [⟨0, 9, 12, 20⟩] ⟨0, 9, 15, 15⟩ [] htab (fun z hz => by
      rcases (show z = ⟨0, 9, 12, 20⟩ by simpa using hz) with rfl
      · exact Or.inr ⟨by decide, "java/lang/IndexOutOfBoundsException", hcl20, hNC ("java/lang/IllegalStateException", "java/lang/IndexOutOfBoundsException") (List.mem_of_getElem? (i := 1) rfl)⟩) rfl (by decide) hcl15 ((nc58 hNW).use rfl) hce hcv hcl ?_
      refine lv_astore_n (lv' := [(3, .ref q9), (0, .ref (a 0)), (1, .int a1), (2, .ref o)]) hx hb dL_ticksByServing_15 rfl hl (by decide) rfl (fun ls hl => ?_)
      refine lv_iconst (v := (2 : Int32)) hx hb dL_ticksByServing_16 (by decide) ?_
      refine W.widen (k := 1) (n := 6) (Nat.le_of_ble_eq_true rfl) (Nat.le_of_ble_eq_true rfl) ?_
      exact W.iret hx hb hr (fun t ht hW => ⟨⟨_, (hs, fl), rfl, ⟨hk9.symm, rfl, fun v9 h9 => by cases h9⟩, WE.mk hP hD ht⟩, hS.F ht⟩) hS.2.2 dL_ticksByServing_17
set_option maxHeartbeats 4000000 in
set_option maxRecDepth 100000 in
theorem w_L_ticksBySums (l : Launch) (hst : l.stackTraces = false) (dC : Nat → ClassId) (dI : Nat → Nat → Nat) (cI cZ cS cL : ClassId) (hs : HS) (o : Nat) (fl : Nat → Int64) (a : Nat → Nat) (sz : Nat) (M : Mem) (a1 : Int32) (r : String ⊕ Int32) (kk : Int32) (hf : fX8_ticksBySums M a1 = some r) (hA9 : Ans ["java/lang/IndexOutOfBoundsException", "java/lang/IllegalStateException"] r kk) : Met l yL_ticksBySums wsL_ticksBySums ({ frames := 8, cells := 1, slots := 6, locals := 152 } : Room) (va_Pc [.ref (a 0), .int a1, .ref o] (T9 (dC, dI) cI cZ cS cL ((wL cI cZ cS cL (fS hs) (fG hs) o fl a M) ++ RW cI cZ hs) sz)) (va_Qi (S := HS × (Nat → Int64)) (fun k u => k = kk ∧ u.1 = hs ∧ ∀ v, r = .inr v → u.2 0 = v.toInt64) (fun u t => WE (dC, dI) cI cZ ((wL cI cZ cS cL (fS u.1) (fG u.1) o u.2 a M) ++ RW cI cZ u.1) (va_A ((wL cI cZ cS cL (fS hs) (fG hs) o fl a M) ++ RW cI cZ hs) sz) t) (va_A ((wL cI cZ cS cL (fS hs) (fG hs) o fl a M) ++ RW cI cZ hs) sz)) 1 6 (va_A ((wL cI cZ cS cL (fS hs) (fG hs) o fl a M) ++ RW cI cZ hs) sz) := by
  refine va_MetW (cc := cL_ticksBySums) (maxL := 4) (ret := (some .int)) (hh := [(0, 9, 12, 20), (0, 9, 15, 15)]) (by decide) rfl ?_
  intro p e s m args below meth c s₁ B hml hv
  obtain ⟨rfl, hsz, hP, hK, hD0, hNW, hEX, hNC⟩ := hv
  have hx := B.exec
  have hb := B.bytes
  have hr := B.returns
  have hts := atoms_spec (ws := wsL_ticksBySums) B.pre
  have hown : s.vm.findClass RL = some m.cls := findClass_of_methodNamed B.named
  have htab : c.exceptionTable.toList = tableOf [(0, 9, 12, 20), (0, 9, 15, 15)] := vx_table (x := yL_law) B (hts (.codeWith yL_ticksBySums cL_ticksBySums 4 (some .int) [(0, 9, 12, 20), (0, 9, 15, 15)]) List.mem_cons_self)
  have hK8 : va_K (dC, dI) vwCl (tys8 cI cZ cS) s := hK.sub (tys' := tys8 cI cZ cS) [0, 1, 2] rfl
  have hcl20 := hts (.classLink RL 20 "java/lang/IndexOutOfBoundsException") (by decide +kernel)
  have hcl15 := hts (.classLink RL 15 "java/lang/IllegalStateException") (by decide +kernel)
  subst hsz
  have hD := hD0.self (sz := s.heap.size)
  generalize hAe : va_A ((wL cI cZ cS cL (fS hs) (fG hs) o fl a M) ++ RW cI cZ hs) s.heap.size = A at hD hEX ⊢
  have hA : ∀ q : Nat, s.heap.size ≤ q → A q := fun q h => by rw [← hAe]; exact Or.inr h
  have hS : va_S A s.heap s.heap [] := va_S.rf
  have hl := lv_entry ([.ref (a 0), .int a1, .ref o]) (n := 4) (Nat.le_of_ble_eq_true rfl)
  rw [lg_entry_eq]
  generalize (lg_sl ([.ref (a 0), .int a1, .ref o]) ++ List.replicate (4 - (lg_sl ([.ref (a 0), .int a1, .ref o])).length) Slot.unset).toArray = ls at hl ⊢
  have hl : lv_has ls 4 [(0, .ref (a 0)), (1, .int a1), (2, .ref o)] := hl
  suffices hgo : ∀ (H : Heap) (locs : List Loc), va_P (dC, dI) vwCl ((wL cI cZ cS cL (fS hs) (fG hs) o fl a M) ++ RW cI cZ hs) H → va_D A ((wL cI cZ cS cL (fS hs) (fG hs) o fl a M) ++ RW cI cZ hs) → va_S A s.heap H locs → W p l e (headSpec wsL_ticksBySums ({ frames := 8, cells := 1, slots := 6, locals := 152 } : Room)).room s m ([.ref (a 0), .int a1, .ref o] : List Value).toArray below meth c H locs 0 0 (MQ below (va_Qi (S := HS × (Nat → Int64)) (fun k u => k = kk ∧ u.1 = hs ∧ ∀ v, r = .inr v → u.2 0 = v.toInt64) (fun u t => WE (dC, dI) cI cZ ((wL cI cZ cS cL (fS u.1) (fG u.1) o u.2 a M) ++ RW cI cZ u.1) A t) A) ([.ref (a 0), .int a1, .ref o] : List Value).toArray s 1 6 A) (F0 m 0 ls []) from hgo _ _ hP hD hS
  intro H locs hP hD hS
  refine lv_aload_n hx hb dL_ticksBySums_0 rfl (lv_at hl 2 rfl) ?_
  refine lv_iconst (v := (0 : Int32)) hx hb dL_ticksBySums_1 (by decide) ?_
  refine lv_aload_n hx hb dL_ticksBySums_2 rfl (lv_at hl 0 rfl) ?_
  refine lv_iload_n hx hb dL_ticksBySums_3 rfl (lv_at hl 1 rfl) ?_
  have hPc := P_head (ws := (wL cI cZ cS cL (fS hs) (fG hs) o fl a M)) (ws' := (wX8 cI cZ cS (fS hs) (fG hs) a M)) hP [1, 2, 3, 4, 5, 6, 7, 8, 9, 10, 11, 12, 13, 14, 15, 16, 17, 18, 19, 20, 21, 22, 23, 24, 25, 26, 27, 28, 29, 30, 31, 32, 33, 34, 35, 36, 37, 38, 39, 40, 41, 42] rfl
  have hDc := D_head (ws := (wL cI cZ cS cL (fS hs) (fG hs) o fl a M)) (ws' := (wX8 cI cZ cS (fS hs) (fG hs) a M)) hD [1, 2, 3, 4, 5, 6, 7, 8, 9, 10, 11, 12, 13, 14, 15, 16, 17, 18, 19, 20, 21, 22, 23, 24, 25, 26, 27, 28, 29, 30, 31, 32, 33, 34, 35, 36, 37, 38, 39, 40, 41, 42] (by decide) rfl
  have hFc := va_free (wc := (wX8 cI cZ cS (fS hs) (fG hs) a M)) hD hS hA [1, 2, 3, 4, 5, 6, 7, 8, 9, 10, 11, 12, 13, 14, 15, 16, 17, 18, 19, 20, 21, 22, 23, 24, 25, 26, 27, 28, 29, 30, 31, 32, 33, 34, 35, 36, 37, 38, 39, 40, 41, 42] rfl
  rcases hA9 with ⟨v, hr9, hk9⟩ | ⟨i9, E9, hi9, hr9, hk9⟩
  · subst hr9
    subst hk9
    refine cRO (W.runV (As := [.int a1]) (rest := [.int (0 : Int32), .ref o]) ⟨hx, hb, hml, hown, hts⟩ (n_X8_ticksBySums l dC dI cI cZ cS (fS hs) (fG hs) a M a1 v hf) (cwV 1 hts gL_ticksBySums_X8_ticksBySums rfl rfl rfl (by decide +kernel) ⟨Nat.le_of_ble_eq_true rfl, Nat.le_of_ble_eq_true rfl⟩) ⟨RO8.blind, va_recv hK hP (ci := 8) (q0 := 1) rfl rfl, RO8.pre hPc hK8 hNW⟩ rfl rfl hl.1 rfl (lv_room (Nat.le_of_ble_eq_true rfl)) dL_ticksBySums_4 ⟨Nat.le_of_ble_eq_true rfl, Nat.le_of_ble_eq_true rfl⟩) ?_
    refine lv_i2l (v := v.toInt64) hx hb dL_ticksBySums_7 rfl ?_
    refine va_last (D := (dC, dI)) (f := fl) hx hb hK hP hD hS 0 3 rfl rfl (inb_in rfl) dL_ticksBySums_8 (fun H locs hP hD hS => ?_)
    have hP : va_P (dC, dI) vwCl ((wL cI cZ cS cL (fS hs) (fG hs) o (vp_updL fl 0 v.toInt64) a M) ++ RW cI cZ hs) H := hP
    have hD : va_D A ((wL cI cZ cS cL (fS hs) (fG hs) o (vp_updL fl 0 v.toInt64) a M) ++ RW cI cZ hs) := hD
    refine lv_goto (tgt := 18) hx hb dL_ticksBySums_9 (by decide) ?_
    refine lv_iconst (v := (0 : Int32)) hx hb dL_ticksBySums_18 (by decide) ?_
    refine W.widen (k := 1) (n := 6) (Nat.le_of_ble_eq_true rfl) (Nat.le_of_ble_eq_true rfl) ?_
    exact W.iret hx hb hr (fun t ht hW => ⟨⟨_, (hs, (vp_updL fl 0 v.toInt64)), rfl, ⟨rfl, rfl, fun v9 h9 => by cases h9; rfl⟩, WE.mk hP hD ht⟩, hS.F ht⟩) hS.2.2 dL_ticksBySums_19
  · subst hr9
    refine vx_thrH (vx_runV (As := [.int a1]) (rest := [.int (0 : Int32), .ref o]) ⟨hx, hb, hml, hown, hts⟩ (t_X8_ticksBySums l hst dC dI cI cZ cS (fS hs) (fG hs) a _ M a1 E9 hf) (cwV 1 hts gL_ticksBySums_X8_ticksBySums rfl rfl rfl (by decide +kernel) ⟨Nat.le_of_ble_eq_true rfl, Nat.le_of_ble_eq_true rfl⟩) ⟨T8.blind, va_recv hK hP (ci := 8) (q0 := 1) rfl rfl, T8.pre hPc hK8 hDc hNW (hEX.at hS hFc)⟩ rfl rfl hl.1 rfl (lv_room (Nat.le_of_ble_eq_true rfl)) dL_ticksBySums_4 ⟨Nat.le_of_ble_eq_true rfl, Nat.le_of_ble_eq_true rfl⟩) hS (fun q _ h => hFc q h) hFc (fun ce q9 t H1 locs1 ht hal hP1 hD1 hz1 hk1 hS hce hcv hcl => ?_)
    obtain ⟨hP, hD⟩ := join_app (ws := (wL cI cZ cS cL (fS hs) (fG hs) o fl a M)) (wr := [(o, .inl (cL, 1, .inr (.inl fl)))]) (w1 := _) hP hD [1, 2, 3, 4, 5, 6, 7, 8, 9, 10, 11, 12, 13, 14, 15, 16, 17, 18, 19, 20, 21, 22, 23, 24, 25, 26, 27, 28, 29, 30, 31, 32, 33, 34, 35, 36, 37, 38, 39, 40, 41, 42] [0] rfl rfl (by decide) (by decide) hk1 hFc hP1 hD1
    have hP : va_P (dC, dI) vwCl ((wL cI cZ cS cL (fS hs) (fG hs) o fl a M) ++ RW cI cZ hs) H1 := hP
    have hD : va_D A ((wL cI cZ cS cL (fS hs) (fG hs) o fl a M) ++ RW cI cZ hs) := hD
    generalize H1 = H at hP hS hce ⊢
    rcases (show i9 = 0 ∨ i9 = 1 by have h7 := (List.getElem?_eq_some_iff.mp hi9).1; simp only [List.length] at h7; omega) with rfl | rfl
    · cases hi9
      refine vx_catch (own := RL) (name := "java/lang/IndexOutOfBoundsException") hown [] ⟨0, 9, 12, 20⟩ [⟨0, 9, 15, 15⟩] htab (fun z hz => nomatch hz) rfl (by decide) hcl20 ((nc422 hNW).use rfl) hce hcv hcl ?_
      refine lv_astore_n (lv' := [(3, .ref q9), (0, .ref (a 0)), (1, .int a1), (2, .ref o)]) hx hb dL_ticksBySums_12 rfl hl (by decide) rfl (fun ls hl => ?_)
      refine lv_iconst (v := (1 : Int32)) hx hb dL_ticksBySums_13 (by decide) ?_
      refine W.widen (k := 1) (n := 6) (Nat.le_of_ble_eq_true rfl) (Nat.le_of_ble_eq_true rfl) ?_
      exact W.iret hx hb hr (fun t ht hW => ⟨⟨_, (hs, fl), rfl, ⟨hk9.symm, rfl, fun v9 h9 => by cases h9⟩, WE.mk hP hD ht⟩, hS.F ht⟩) hS.2.2 dL_ticksBySums_14
    · cases hi9
      refine vx_catch (own := RL) (name := "java/lang/IllegalStateException") hown [⟨0, 9, 12, 20⟩] ⟨0, 9, 15, 15⟩ [] htab (fun z hz => by
      rcases (show z = ⟨0, 9, 12, 20⟩ by simpa using hz) with rfl
      · exact Or.inr ⟨by decide, "java/lang/IndexOutOfBoundsException", hcl20, hNC ("java/lang/IllegalStateException", "java/lang/IndexOutOfBoundsException") (List.mem_of_getElem? (i := 1) rfl)⟩) rfl (by decide) hcl15 ((nc58 hNW).use rfl) hce hcv hcl ?_
      refine lv_astore_n (lv' := [(3, .ref q9), (0, .ref (a 0)), (1, .int a1), (2, .ref o)]) hx hb dL_ticksBySums_15 rfl hl (by decide) rfl (fun ls hl => ?_)
      refine lv_iconst (v := (2 : Int32)) hx hb dL_ticksBySums_16 (by decide) ?_
      refine W.widen (k := 1) (n := 6) (Nat.le_of_ble_eq_true rfl) (Nat.le_of_ble_eq_true rfl) ?_
      exact W.iret hx hb hr (fun t ht hW => ⟨⟨_, (hs, fl), rfl, ⟨hk9.symm, rfl, fun v9 h9 => by cases h9⟩, WE.mk hP hD ht⟩, hS.F ht⟩) hS.2.2 dL_ticksBySums_17
set_option maxHeartbeats 4000000 in
set_option maxRecDepth 100000 in
theorem w_L_cheapestOrder (l : Launch) (hst : l.stackTraces = false) (dC : Nat → ClassId) (dI : Nat → Nat → Nat) (cI cZ cS cL : ClassId) (hs : HS) (o : Nat) (fl : Nat → Int64) (a : Nat → Nat) (sz : Nat) (M : Mem) (r : String ⊕ Int32) (kk : Int32) (z2 : Mem) (hf : fX8_cheapestOrder M  = some (r, z2)) (hA9 : Ans ["java/lang/IllegalStateException"] r kk) : Met l yL_cheapestOrder wsL_cheapestOrder ({ frames := 8, cells := 1, slots := 6, locals := 178 } : Room) (va_Pc [.ref (a 0), .ref o] (T9 (dC, dI) cI cZ cS cL ((wL cI cZ cS cL (fS hs) (fG hs) o fl a M) ++ RW cI cZ hs) sz)) (va_Qi (S := HS × (Nat → Int64)) (fun k u => k = kk ∧ u.1 = hs ∧ ∀ v, r = .inr v → u.2 0 = v.toInt64) (fun u t => WE (dC, dI) cI cZ ((wL cI cZ cS cL (fS u.1) (fG u.1) o u.2 a (sr (sr (sr (sr (sr (sr (sr (sr (sr (sr (sr (sr (sr (sr (sr M 17 (z2 17)) 18 (z2 18)) 19 (z2 19)) 20 (z2 20)) 21 (z2 21)) 22 (z2 22)) 23 (z2 23)) 24 (z2 24)) 25 (z2 25)) 27 (z2 27)) 28 (z2 28)) 29 (z2 29)) 30 (z2 30)) 31 (z2 31)) 32 (z2 32))) ++ RW cI cZ u.1) (va_A ((wL cI cZ cS cL (fS hs) (fG hs) o fl a M) ++ RW cI cZ hs) sz) t) (va_A ((wL cI cZ cS cL (fS hs) (fG hs) o fl a M) ++ RW cI cZ hs) sz)) 1 6 (va_A ((wL cI cZ cS cL (fS hs) (fG hs) o fl a M) ++ RW cI cZ hs) sz) := by
  refine va_MetW (cc := cL_cheapestOrder) (maxL := 3) (ret := (some .int)) (hh := [(0, 8, 11, 15)]) (by decide) rfl ?_
  intro p e s m args below meth c s₁ B hml hv
  obtain ⟨rfl, hsz, hP, hK, hD0, hNW, hEX, hNC⟩ := hv
  have hx := B.exec
  have hb := B.bytes
  have hr := B.returns
  have hts := atoms_spec (ws := wsL_cheapestOrder) B.pre
  have hown : s.vm.findClass RL = some m.cls := findClass_of_methodNamed B.named
  have htab : c.exceptionTable.toList = tableOf [(0, 8, 11, 15)] := vx_table (x := yL_law) B (hts (.codeWith yL_cheapestOrder cL_cheapestOrder 3 (some .int) [(0, 8, 11, 15)]) List.mem_cons_self)
  have hK8 : va_K (dC, dI) vwCl (tys8 cI cZ cS) s := hK.sub (tys' := tys8 cI cZ cS) [0, 1, 2] rfl
  have hcl15 := hts (.classLink RL 15 "java/lang/IllegalStateException") (by decide +kernel)
  subst hsz
  have hD := hD0.self (sz := s.heap.size)
  generalize hAe : va_A ((wL cI cZ cS cL (fS hs) (fG hs) o fl a M) ++ RW cI cZ hs) s.heap.size = A at hD hEX ⊢
  have hA : ∀ q : Nat, s.heap.size ≤ q → A q := fun q h => by rw [← hAe]; exact Or.inr h
  have hS : va_S A s.heap s.heap [] := va_S.rf
  have hl := lv_entry ([.ref (a 0), .ref o]) (n := 3) (Nat.le_of_ble_eq_true rfl)
  rw [lg_entry_eq]
  generalize (lg_sl ([.ref (a 0), .ref o]) ++ List.replicate (3 - (lg_sl ([.ref (a 0), .ref o])).length) Slot.unset).toArray = ls at hl ⊢
  have hl : lv_has ls 3 [(0, .ref (a 0)), (1, .ref o)] := hl
  suffices hgo : ∀ (H : Heap) (locs : List Loc), va_P (dC, dI) vwCl ((wL cI cZ cS cL (fS hs) (fG hs) o fl a M) ++ RW cI cZ hs) H → va_D A ((wL cI cZ cS cL (fS hs) (fG hs) o fl a M) ++ RW cI cZ hs) → va_S A s.heap H locs → W p l e (headSpec wsL_cheapestOrder ({ frames := 8, cells := 1, slots := 6, locals := 178 } : Room)).room s m ([.ref (a 0), .ref o] : List Value).toArray below meth c H locs 0 0 (MQ below (va_Qi (S := HS × (Nat → Int64)) (fun k u => k = kk ∧ u.1 = hs ∧ ∀ v, r = .inr v → u.2 0 = v.toInt64) (fun u t => WE (dC, dI) cI cZ ((wL cI cZ cS cL (fS u.1) (fG u.1) o u.2 a (sr (sr (sr (sr (sr (sr (sr (sr (sr (sr (sr (sr (sr (sr (sr M 17 (z2 17)) 18 (z2 18)) 19 (z2 19)) 20 (z2 20)) 21 (z2 21)) 22 (z2 22)) 23 (z2 23)) 24 (z2 24)) 25 (z2 25)) 27 (z2 27)) 28 (z2 28)) 29 (z2 29)) 30 (z2 30)) 31 (z2 31)) 32 (z2 32))) ++ RW cI cZ u.1) A t) A) ([.ref (a 0), .ref o] : List Value).toArray s 1 6 A) (F0 m 0 ls []) from hgo _ _ hP hD hS
  intro H locs hP hD hS
  refine lv_aload_n hx hb dL_cheapestOrder_0 rfl (lv_at hl 1 rfl) ?_
  refine lv_iconst (v := (0 : Int32)) hx hb dL_cheapestOrder_1 (by decide) ?_
  refine lv_aload_n hx hb dL_cheapestOrder_2 rfl (lv_at hl 0 rfl) ?_
  have hPc := P_head (ws := (wL cI cZ cS cL (fS hs) (fG hs) o fl a M)) (ws' := (wX8 cI cZ cS (fS hs) (fG hs) a M)) hP [1, 2, 3, 4, 5, 6, 7, 8, 9, 10, 11, 12, 13, 14, 15, 16, 17, 18, 19, 20, 21, 22, 23, 24, 25, 26, 27, 28, 29, 30, 31, 32, 33, 34, 35, 36, 37, 38, 39, 40, 41, 42] rfl
  have hDc := D_head (ws := (wL cI cZ cS cL (fS hs) (fG hs) o fl a M)) (ws' := (wX8 cI cZ cS (fS hs) (fG hs) a M)) hD [1, 2, 3, 4, 5, 6, 7, 8, 9, 10, 11, 12, 13, 14, 15, 16, 17, 18, 19, 20, 21, 22, 23, 24, 25, 26, 27, 28, 29, 30, 31, 32, 33, 34, 35, 36, 37, 38, 39, 40, 41, 42] (by decide) rfl
  have hFc := va_free (wc := (wX8 cI cZ cS (fS hs) (fG hs) a M)) hD hS hA [1, 2, 3, 4, 5, 6, 7, 8, 9, 10, 11, 12, 13, 14, 15, 16, 17, 18, 19, 20, 21, 22, 23, 24, 25, 26, 27, 28, 29, 30, 31, 32, 33, 34, 35, 36, 37, 38, 39, 40, 41, 42] rfl
  rcases hA9 with ⟨v, hr9, hk9⟩ | ⟨i9, E9, hi9, hr9, hk9⟩
  · subst hr9
    subst hk9
    refine va_calli (va_runV (As := []) (rest := [.int (0 : Int32), .ref o]) ⟨hx, hb, hml, hown, hts⟩ (n_X8_cheapestOrder l dC dI cI cZ cS (fS hs) (fG hs) a H.size M v z2 hf) (cwV 0 hts gL_cheapestOrder_X8_cheapestOrder rfl rfl rfl (by decide +kernel) ⟨Nat.le_of_ble_eq_true rfl, Nat.le_of_ble_eq_true rfl⟩) ⟨WR8.blind, va_recv hK hP (ci := 8) (q0 := 1) rfl rfl, WR8.pre hPc hK8 hDc hNW⟩ rfl rfl hl.1 rfl (lv_room (Nat.le_of_ble_eq_true rfl)) dL_cheapestOrder_3 ⟨Nat.le_of_ble_eq_true rfl, Nat.le_of_ble_eq_true rfl⟩) hS (fun q _ h => hFc q h) hFc (fun rv u t H1 locs ht hvm hw hB hz1 hk1 hS => ?_)
    obtain ⟨hP1, hD1⟩ := hB
    rw [ht] at hP1
    rw [hw]
    obtain ⟨hP, hD⟩ := join_app (ws := (wL cI cZ cS cL (fS hs) (fG hs) o fl a M)) (wr := [(o, .inl (cL, 1, .inr (.inl fl)))]) (w1 := _) hP hD [1, 2, 3, 4, 5, 6, 7, 8, 9, 10, 11, 12, 13, 14, 15, 16, 17, 18, 19, 20, 21, 22, 23, 24, 25, 26, 27, 28, 29, 30, 31, 32, 33, 34, 35, 36, 37, 38, 39, 40, 41, 42] [0] rfl rfl (by decide) (by decide) hk1 hFc hP1 hD1
    have hP : va_P (dC, dI) vwCl ((wL cI cZ cS cL (fS hs) (fG hs) o fl a (sr (sr (sr (sr (sr (sr (sr (sr (sr (sr (sr (sr (sr (sr (sr M 17 (z2 17)) 18 (z2 18)) 19 (z2 19)) 20 (z2 20)) 21 (z2 21)) 22 (z2 22)) 23 (z2 23)) 24 (z2 24)) 25 (z2 25)) 27 (z2 27)) 28 (z2 28)) 29 (z2 29)) 30 (z2 30)) 31 (z2 31)) 32 (z2 32))) ++ RW cI cZ hs) H1 := hP
    have hD : va_D A ((wL cI cZ cS cL (fS hs) (fG hs) o fl a (sr (sr (sr (sr (sr (sr (sr (sr (sr (sr (sr (sr (sr (sr (sr M 17 (z2 17)) 18 (z2 18)) 19 (z2 19)) 20 (z2 20)) 21 (z2 21)) 22 (z2 22)) 23 (z2 23)) 24 (z2 24)) 25 (z2 25)) 27 (z2 27)) 28 (z2 28)) 29 (z2 29)) 30 (z2 30)) 31 (z2 31)) 32 (z2 32))) ++ RW cI cZ hs) := hD
    generalize H1 = H at hP hS ⊢
    refine lv_i2l (v := v.toInt64) hx hb dL_cheapestOrder_6 rfl ?_
    refine va_last (D := (dC, dI)) (f := fl) hx hb hK hP hD hS 0 3 rfl rfl (inb_in rfl) dL_cheapestOrder_7 (fun H locs hP hD hS => ?_)
    have hP : va_P (dC, dI) vwCl ((wL cI cZ cS cL (fS hs) (fG hs) o (vp_updL fl 0 v.toInt64) a (sr (sr (sr (sr (sr (sr (sr (sr (sr (sr (sr (sr (sr (sr (sr M 17 (z2 17)) 18 (z2 18)) 19 (z2 19)) 20 (z2 20)) 21 (z2 21)) 22 (z2 22)) 23 (z2 23)) 24 (z2 24)) 25 (z2 25)) 27 (z2 27)) 28 (z2 28)) 29 (z2 29)) 30 (z2 30)) 31 (z2 31)) 32 (z2 32))) ++ RW cI cZ hs) H := hP
    have hD : va_D A ((wL cI cZ cS cL (fS hs) (fG hs) o (vp_updL fl 0 v.toInt64) a (sr (sr (sr (sr (sr (sr (sr (sr (sr (sr (sr (sr (sr (sr (sr M 17 (z2 17)) 18 (z2 18)) 19 (z2 19)) 20 (z2 20)) 21 (z2 21)) 22 (z2 22)) 23 (z2 23)) 24 (z2 24)) 25 (z2 25)) 27 (z2 27)) 28 (z2 28)) 29 (z2 29)) 30 (z2 30)) 31 (z2 31)) 32 (z2 32))) ++ RW cI cZ hs) := hD
    refine lv_goto (tgt := 14) hx hb dL_cheapestOrder_8 (by decide) ?_
    refine lv_iconst (v := (0 : Int32)) hx hb dL_cheapestOrder_14 (by decide) ?_
    refine W.widen (k := 1) (n := 6) (Nat.le_of_ble_eq_true rfl) (Nat.le_of_ble_eq_true rfl) ?_
    exact W.iret hx hb hr (fun t ht hW => ⟨⟨_, (hs, (vp_updL fl 0 v.toInt64)), rfl, ⟨rfl, rfl, fun v9 h9 => by cases h9; rfl⟩, WE.mk hP hD ht⟩, hS.F ht⟩) hS.2.2 dL_cheapestOrder_15
  · subst hr9
    refine vx_thrH (vx_runV (As := []) (rest := [.int (0 : Int32), .ref o]) ⟨hx, hb, hml, hown, hts⟩ (t_X8_cheapestOrder l hst dC dI cI cZ cS (fS hs) (fG hs) a _ M E9 z2 hf) (cwV 0 hts gL_cheapestOrder_X8_cheapestOrder rfl rfl rfl (by decide +kernel) ⟨Nat.le_of_ble_eq_true rfl, Nat.le_of_ble_eq_true rfl⟩) ⟨T8.blind, va_recv hK hP (ci := 8) (q0 := 1) rfl rfl, T8.pre hPc hK8 hDc hNW (hEX.at hS hFc)⟩ rfl rfl hl.1 rfl (lv_room (Nat.le_of_ble_eq_true rfl)) dL_cheapestOrder_3 ⟨Nat.le_of_ble_eq_true rfl, Nat.le_of_ble_eq_true rfl⟩) hS (fun q _ h => hFc q h) hFc (fun ce q9 t H1 locs1 ht hal hP1 hD1 hz1 hk1 hS hce hcv hcl => ?_)
    obtain ⟨hP, hD⟩ := join_app (ws := (wL cI cZ cS cL (fS hs) (fG hs) o fl a M)) (wr := [(o, .inl (cL, 1, .inr (.inl fl)))]) (w1 := _) hP hD [1, 2, 3, 4, 5, 6, 7, 8, 9, 10, 11, 12, 13, 14, 15, 16, 17, 18, 19, 20, 21, 22, 23, 24, 25, 26, 27, 28, 29, 30, 31, 32, 33, 34, 35, 36, 37, 38, 39, 40, 41, 42] [0] rfl rfl (by decide) (by decide) hk1 hFc hP1 hD1
    have hP : va_P (dC, dI) vwCl ((wL cI cZ cS cL (fS hs) (fG hs) o fl a (sr (sr (sr (sr (sr (sr (sr (sr (sr (sr (sr (sr (sr (sr (sr M 17 (z2 17)) 18 (z2 18)) 19 (z2 19)) 20 (z2 20)) 21 (z2 21)) 22 (z2 22)) 23 (z2 23)) 24 (z2 24)) 25 (z2 25)) 27 (z2 27)) 28 (z2 28)) 29 (z2 29)) 30 (z2 30)) 31 (z2 31)) 32 (z2 32))) ++ RW cI cZ hs) H1 := hP
    have hD : va_D A ((wL cI cZ cS cL (fS hs) (fG hs) o fl a (sr (sr (sr (sr (sr (sr (sr (sr (sr (sr (sr (sr (sr (sr (sr M 17 (z2 17)) 18 (z2 18)) 19 (z2 19)) 20 (z2 20)) 21 (z2 21)) 22 (z2 22)) 23 (z2 23)) 24 (z2 24)) 25 (z2 25)) 27 (z2 27)) 28 (z2 28)) 29 (z2 29)) 30 (z2 30)) 31 (z2 31)) 32 (z2 32))) ++ RW cI cZ hs) := hD
    generalize H1 = H at hP hS hce ⊢
    rcases (show i9 = 0 by have h7 := (List.getElem?_eq_some_iff.mp hi9).1; simp only [List.length] at h7; omega) with rfl
    · cases hi9
      refine vx_catch (own := RL) (name := "java/lang/IllegalStateException") hown [] ⟨0, 8, 11, 15⟩ [] htab (fun z hz => nomatch hz) rfl (by decide) hcl15 ((nc58 hNW).use rfl) hce hcv hcl ?_
      refine lv_astore_n (lv' := [(2, .ref q9), (0, .ref (a 0)), (1, .ref o)]) hx hb dL_cheapestOrder_11 rfl hl (by decide) rfl (fun ls hl => ?_)
      refine lv_iconst (v := (1 : Int32)) hx hb dL_cheapestOrder_12 (by decide) ?_
      refine W.widen (k := 1) (n := 6) (Nat.le_of_ble_eq_true rfl) (Nat.le_of_ble_eq_true rfl) ?_
      exact W.iret hx hb hr (fun t ht hW => ⟨⟨_, (hs, fl), rfl, ⟨hk9.symm, rfl, fun v9 h9 => by cases h9⟩, WE.mk hP hD ht⟩, hS.F ht⟩) hS.2.2 dL_cheapestOrder_13
set_option maxHeartbeats 4000000 in
set_option maxRecDepth 100000 in
theorem w_L_servable (l : Launch) (hst : l.stackTraces = false) (dC : Nat → ClassId) (dI : Nat → Nat → Nat) (cI cZ cS cL : ClassId) (hs : HS) (o : Nat) (fl : Nat → Int64) (a : Nat → Nat) (sz : Nat) (M : Mem) (r : String ⊕ Int32) (kk : Int32) (z2 : Mem) (hf : fX8_servable M  = some (r, z2)) (hA9 : Ans ["java/lang/IllegalStateException"] r kk) : Met l yL_servable wsL_servable ({ frames := 8, cells := 1, slots := 6, locals := 176 } : Room) (va_Pc [.ref (a 0), .ref o] (T9 (dC, dI) cI cZ cS cL ((wL cI cZ cS cL (fS hs) (fG hs) o fl a M) ++ RW cI cZ hs) sz)) (va_Qi (S := HS × (Nat → Int64)) (fun k u => k = kk ∧ u.1 = hs ∧ ∀ v, r = .inr v → u.2 0 = v.toInt64) (fun u t => WE (dC, dI) cI cZ ((wL cI cZ cS cL (fS u.1) (fG u.1) o u.2 a (sr (sr (sr (sr (sr (sr (sr (sr (sr (sr (sr (sr (sr (sr (sr M 17 (z2 17)) 18 (z2 18)) 19 (z2 19)) 20 (z2 20)) 21 (z2 21)) 22 (z2 22)) 23 (z2 23)) 24 (z2 24)) 25 (z2 25)) 27 (z2 27)) 28 (z2 28)) 29 (z2 29)) 30 (z2 30)) 31 (z2 31)) 32 (z2 32))) ++ RW cI cZ u.1) (va_A ((wL cI cZ cS cL (fS hs) (fG hs) o fl a M) ++ RW cI cZ hs) sz) t) (va_A ((wL cI cZ cS cL (fS hs) (fG hs) o fl a M) ++ RW cI cZ hs) sz)) 1 6 (va_A ((wL cI cZ cS cL (fS hs) (fG hs) o fl a M) ++ RW cI cZ hs) sz) := by
  refine va_MetW (cc := cL_servable) (maxL := 3) (ret := (some .int)) (hh := [(0, 8, 11, 15)]) (by decide) rfl ?_
  intro p e s m args below meth c s₁ B hml hv
  obtain ⟨rfl, hsz, hP, hK, hD0, hNW, hEX, hNC⟩ := hv
  have hx := B.exec
  have hb := B.bytes
  have hr := B.returns
  have hts := atoms_spec (ws := wsL_servable) B.pre
  have hown : s.vm.findClass RL = some m.cls := findClass_of_methodNamed B.named
  have htab : c.exceptionTable.toList = tableOf [(0, 8, 11, 15)] := vx_table (x := yL_law) B (hts (.codeWith yL_servable cL_servable 3 (some .int) [(0, 8, 11, 15)]) List.mem_cons_self)
  have hK8 : va_K (dC, dI) vwCl (tys8 cI cZ cS) s := hK.sub (tys' := tys8 cI cZ cS) [0, 1, 2] rfl
  have hcl15 := hts (.classLink RL 15 "java/lang/IllegalStateException") (by decide +kernel)
  subst hsz
  have hD := hD0.self (sz := s.heap.size)
  generalize hAe : va_A ((wL cI cZ cS cL (fS hs) (fG hs) o fl a M) ++ RW cI cZ hs) s.heap.size = A at hD hEX ⊢
  have hA : ∀ q : Nat, s.heap.size ≤ q → A q := fun q h => by rw [← hAe]; exact Or.inr h
  have hS : va_S A s.heap s.heap [] := va_S.rf
  have hl := lv_entry ([.ref (a 0), .ref o]) (n := 3) (Nat.le_of_ble_eq_true rfl)
  rw [lg_entry_eq]
  generalize (lg_sl ([.ref (a 0), .ref o]) ++ List.replicate (3 - (lg_sl ([.ref (a 0), .ref o])).length) Slot.unset).toArray = ls at hl ⊢
  have hl : lv_has ls 3 [(0, .ref (a 0)), (1, .ref o)] := hl
  suffices hgo : ∀ (H : Heap) (locs : List Loc), va_P (dC, dI) vwCl ((wL cI cZ cS cL (fS hs) (fG hs) o fl a M) ++ RW cI cZ hs) H → va_D A ((wL cI cZ cS cL (fS hs) (fG hs) o fl a M) ++ RW cI cZ hs) → va_S A s.heap H locs → W p l e (headSpec wsL_servable ({ frames := 8, cells := 1, slots := 6, locals := 176 } : Room)).room s m ([.ref (a 0), .ref o] : List Value).toArray below meth c H locs 0 0 (MQ below (va_Qi (S := HS × (Nat → Int64)) (fun k u => k = kk ∧ u.1 = hs ∧ ∀ v, r = .inr v → u.2 0 = v.toInt64) (fun u t => WE (dC, dI) cI cZ ((wL cI cZ cS cL (fS u.1) (fG u.1) o u.2 a (sr (sr (sr (sr (sr (sr (sr (sr (sr (sr (sr (sr (sr (sr (sr M 17 (z2 17)) 18 (z2 18)) 19 (z2 19)) 20 (z2 20)) 21 (z2 21)) 22 (z2 22)) 23 (z2 23)) 24 (z2 24)) 25 (z2 25)) 27 (z2 27)) 28 (z2 28)) 29 (z2 29)) 30 (z2 30)) 31 (z2 31)) 32 (z2 32))) ++ RW cI cZ u.1) A t) A) ([.ref (a 0), .ref o] : List Value).toArray s 1 6 A) (F0 m 0 ls []) from hgo _ _ hP hD hS
  intro H locs hP hD hS
  refine lv_aload_n hx hb dL_servable_0 rfl (lv_at hl 1 rfl) ?_
  refine lv_iconst (v := (0 : Int32)) hx hb dL_servable_1 (by decide) ?_
  refine lv_aload_n hx hb dL_servable_2 rfl (lv_at hl 0 rfl) ?_
  have hPc := P_head (ws := (wL cI cZ cS cL (fS hs) (fG hs) o fl a M)) (ws' := (wX8 cI cZ cS (fS hs) (fG hs) a M)) hP [1, 2, 3, 4, 5, 6, 7, 8, 9, 10, 11, 12, 13, 14, 15, 16, 17, 18, 19, 20, 21, 22, 23, 24, 25, 26, 27, 28, 29, 30, 31, 32, 33, 34, 35, 36, 37, 38, 39, 40, 41, 42] rfl
  have hDc := D_head (ws := (wL cI cZ cS cL (fS hs) (fG hs) o fl a M)) (ws' := (wX8 cI cZ cS (fS hs) (fG hs) a M)) hD [1, 2, 3, 4, 5, 6, 7, 8, 9, 10, 11, 12, 13, 14, 15, 16, 17, 18, 19, 20, 21, 22, 23, 24, 25, 26, 27, 28, 29, 30, 31, 32, 33, 34, 35, 36, 37, 38, 39, 40, 41, 42] (by decide) rfl
  have hFc := va_free (wc := (wX8 cI cZ cS (fS hs) (fG hs) a M)) hD hS hA [1, 2, 3, 4, 5, 6, 7, 8, 9, 10, 11, 12, 13, 14, 15, 16, 17, 18, 19, 20, 21, 22, 23, 24, 25, 26, 27, 28, 29, 30, 31, 32, 33, 34, 35, 36, 37, 38, 39, 40, 41, 42] rfl
  rcases hA9 with ⟨v, hr9, hk9⟩ | ⟨i9, E9, hi9, hr9, hk9⟩
  · subst hr9
    subst hk9
    refine va_calli (va_runV (As := []) (rest := [.int (0 : Int32), .ref o]) ⟨hx, hb, hml, hown, hts⟩ (n_X8_servable l dC dI cI cZ cS (fS hs) (fG hs) a H.size M v z2 hf) (cwV 0 hts gL_servable_X8_servable rfl rfl rfl (by decide +kernel) ⟨Nat.le_of_ble_eq_true rfl, Nat.le_of_ble_eq_true rfl⟩) ⟨WR8.blind, va_recv hK hP (ci := 8) (q0 := 1) rfl rfl, WR8.pre hPc hK8 hDc hNW⟩ rfl rfl hl.1 rfl (lv_room (Nat.le_of_ble_eq_true rfl)) dL_servable_3 ⟨Nat.le_of_ble_eq_true rfl, Nat.le_of_ble_eq_true rfl⟩) hS (fun q _ h => hFc q h) hFc (fun rv u t H1 locs ht hvm hw hB hz1 hk1 hS => ?_)
    obtain ⟨hP1, hD1⟩ := hB
    rw [ht] at hP1
    rw [hw]
    obtain ⟨hP, hD⟩ := join_app (ws := (wL cI cZ cS cL (fS hs) (fG hs) o fl a M)) (wr := [(o, .inl (cL, 1, .inr (.inl fl)))]) (w1 := _) hP hD [1, 2, 3, 4, 5, 6, 7, 8, 9, 10, 11, 12, 13, 14, 15, 16, 17, 18, 19, 20, 21, 22, 23, 24, 25, 26, 27, 28, 29, 30, 31, 32, 33, 34, 35, 36, 37, 38, 39, 40, 41, 42] [0] rfl rfl (by decide) (by decide) hk1 hFc hP1 hD1
    have hP : va_P (dC, dI) vwCl ((wL cI cZ cS cL (fS hs) (fG hs) o fl a (sr (sr (sr (sr (sr (sr (sr (sr (sr (sr (sr (sr (sr (sr (sr M 17 (z2 17)) 18 (z2 18)) 19 (z2 19)) 20 (z2 20)) 21 (z2 21)) 22 (z2 22)) 23 (z2 23)) 24 (z2 24)) 25 (z2 25)) 27 (z2 27)) 28 (z2 28)) 29 (z2 29)) 30 (z2 30)) 31 (z2 31)) 32 (z2 32))) ++ RW cI cZ hs) H1 := hP
    have hD : va_D A ((wL cI cZ cS cL (fS hs) (fG hs) o fl a (sr (sr (sr (sr (sr (sr (sr (sr (sr (sr (sr (sr (sr (sr (sr M 17 (z2 17)) 18 (z2 18)) 19 (z2 19)) 20 (z2 20)) 21 (z2 21)) 22 (z2 22)) 23 (z2 23)) 24 (z2 24)) 25 (z2 25)) 27 (z2 27)) 28 (z2 28)) 29 (z2 29)) 30 (z2 30)) 31 (z2 31)) 32 (z2 32))) ++ RW cI cZ hs) := hD
    generalize H1 = H at hP hS ⊢
    refine lv_i2l (v := v.toInt64) hx hb dL_servable_6 rfl ?_
    refine va_last (D := (dC, dI)) (f := fl) hx hb hK hP hD hS 0 3 rfl rfl (inb_in rfl) dL_servable_7 (fun H locs hP hD hS => ?_)
    have hP : va_P (dC, dI) vwCl ((wL cI cZ cS cL (fS hs) (fG hs) o (vp_updL fl 0 v.toInt64) a (sr (sr (sr (sr (sr (sr (sr (sr (sr (sr (sr (sr (sr (sr (sr M 17 (z2 17)) 18 (z2 18)) 19 (z2 19)) 20 (z2 20)) 21 (z2 21)) 22 (z2 22)) 23 (z2 23)) 24 (z2 24)) 25 (z2 25)) 27 (z2 27)) 28 (z2 28)) 29 (z2 29)) 30 (z2 30)) 31 (z2 31)) 32 (z2 32))) ++ RW cI cZ hs) H := hP
    have hD : va_D A ((wL cI cZ cS cL (fS hs) (fG hs) o (vp_updL fl 0 v.toInt64) a (sr (sr (sr (sr (sr (sr (sr (sr (sr (sr (sr (sr (sr (sr (sr M 17 (z2 17)) 18 (z2 18)) 19 (z2 19)) 20 (z2 20)) 21 (z2 21)) 22 (z2 22)) 23 (z2 23)) 24 (z2 24)) 25 (z2 25)) 27 (z2 27)) 28 (z2 28)) 29 (z2 29)) 30 (z2 30)) 31 (z2 31)) 32 (z2 32))) ++ RW cI cZ hs) := hD
    refine lv_goto (tgt := 14) hx hb dL_servable_8 (by decide) ?_
    refine lv_iconst (v := (0 : Int32)) hx hb dL_servable_14 (by decide) ?_
    refine W.widen (k := 1) (n := 6) (Nat.le_of_ble_eq_true rfl) (Nat.le_of_ble_eq_true rfl) ?_
    exact W.iret hx hb hr (fun t ht hW => ⟨⟨_, (hs, (vp_updL fl 0 v.toInt64)), rfl, ⟨rfl, rfl, fun v9 h9 => by cases h9; rfl⟩, WE.mk hP hD ht⟩, hS.F ht⟩) hS.2.2 dL_servable_15
  · subst hr9
    refine vx_thrH (vx_runV (As := []) (rest := [.int (0 : Int32), .ref o]) ⟨hx, hb, hml, hown, hts⟩ (t_X8_servable l hst dC dI cI cZ cS (fS hs) (fG hs) a _ M E9 z2 hf) (cwV 0 hts gL_servable_X8_servable rfl rfl rfl (by decide +kernel) ⟨Nat.le_of_ble_eq_true rfl, Nat.le_of_ble_eq_true rfl⟩) ⟨T8.blind, va_recv hK hP (ci := 8) (q0 := 1) rfl rfl, T8.pre hPc hK8 hDc hNW (hEX.at hS hFc)⟩ rfl rfl hl.1 rfl (lv_room (Nat.le_of_ble_eq_true rfl)) dL_servable_3 ⟨Nat.le_of_ble_eq_true rfl, Nat.le_of_ble_eq_true rfl⟩) hS (fun q _ h => hFc q h) hFc (fun ce q9 t H1 locs1 ht hal hP1 hD1 hz1 hk1 hS hce hcv hcl => ?_)
    obtain ⟨hP, hD⟩ := join_app (ws := (wL cI cZ cS cL (fS hs) (fG hs) o fl a M)) (wr := [(o, .inl (cL, 1, .inr (.inl fl)))]) (w1 := _) hP hD [1, 2, 3, 4, 5, 6, 7, 8, 9, 10, 11, 12, 13, 14, 15, 16, 17, 18, 19, 20, 21, 22, 23, 24, 25, 26, 27, 28, 29, 30, 31, 32, 33, 34, 35, 36, 37, 38, 39, 40, 41, 42] [0] rfl rfl (by decide) (by decide) hk1 hFc hP1 hD1
    have hP : va_P (dC, dI) vwCl ((wL cI cZ cS cL (fS hs) (fG hs) o fl a (sr (sr (sr (sr (sr (sr (sr (sr (sr (sr (sr (sr (sr (sr (sr M 17 (z2 17)) 18 (z2 18)) 19 (z2 19)) 20 (z2 20)) 21 (z2 21)) 22 (z2 22)) 23 (z2 23)) 24 (z2 24)) 25 (z2 25)) 27 (z2 27)) 28 (z2 28)) 29 (z2 29)) 30 (z2 30)) 31 (z2 31)) 32 (z2 32))) ++ RW cI cZ hs) H1 := hP
    have hD : va_D A ((wL cI cZ cS cL (fS hs) (fG hs) o fl a (sr (sr (sr (sr (sr (sr (sr (sr (sr (sr (sr (sr (sr (sr (sr M 17 (z2 17)) 18 (z2 18)) 19 (z2 19)) 20 (z2 20)) 21 (z2 21)) 22 (z2 22)) 23 (z2 23)) 24 (z2 24)) 25 (z2 25)) 27 (z2 27)) 28 (z2 28)) 29 (z2 29)) 30 (z2 30)) 31 (z2 31)) 32 (z2 32))) ++ RW cI cZ hs) := hD
    generalize H1 = H at hP hS hce ⊢
    rcases (show i9 = 0 by have h7 := (List.getElem?_eq_some_iff.mp hi9).1; simp only [List.length] at h7; omega) with rfl
    · cases hi9
      refine vx_catch (own := RL) (name := "java/lang/IllegalStateException") hown [] ⟨0, 8, 11, 15⟩ [] htab (fun z hz => nomatch hz) rfl (by decide) hcl15 ((nc58 hNW).use rfl) hce hcv hcl ?_
      refine lv_astore_n (lv' := [(2, .ref q9), (0, .ref (a 0)), (1, .ref o)]) hx hb dL_servable_11 rfl hl (by decide) rfl (fun ls hl => ?_)
      refine lv_iconst (v := (1 : Int32)) hx hb dL_servable_12 (by decide) ?_
      refine W.widen (k := 1) (n := 6) (Nat.le_of_ble_eq_true rfl) (Nat.le_of_ble_eq_true rfl) ?_
      exact W.iret hx hb hr (fun t ht hW => ⟨⟨_, (hs, fl), rfl, ⟨hk9.symm, rfl, fun v9 h9 => by cases h9⟩, WE.mk hP hD ht⟩, hS.F ht⟩) hS.2.2 dL_servable_13
set_option maxHeartbeats 4000000 in
set_option maxRecDepth 100000 in
theorem w_L_fetchTicks (l : Launch) (hst : l.stackTraces = false) (dC : Nat → ClassId) (dI : Nat → Nat → Nat) (cI cZ cS cL : ClassId) (hs : HS) (o : Nat) (fl : Nat → Int64) (a : Nat → Nat) (sz : Nat) (M : Mem) (a1 : Int32) (r : String ⊕ Int32) (kk : Int32) (hf : fX8_fetchTicks M a1 = some r) (hA9 : Ans ["java/lang/IndexOutOfBoundsException", "java/lang/IllegalStateException"] r kk) : Met l yL_fetchTicks wsL_fetchTicks ({ frames := 8, cells := 1, slots := 6, locals := 152 } : Room) (va_Pc [.ref (a 0), .int a1, .ref o] (T9 (dC, dI) cI cZ cS cL ((wL cI cZ cS cL (fS hs) (fG hs) o fl a M) ++ RW cI cZ hs) sz)) (va_Qi (S := HS × (Nat → Int64)) (fun k u => k = kk ∧ u.1 = hs ∧ ∀ v, r = .inr v → u.2 0 = v.toInt64) (fun u t => WE (dC, dI) cI cZ ((wL cI cZ cS cL (fS u.1) (fG u.1) o u.2 a M) ++ RW cI cZ u.1) (va_A ((wL cI cZ cS cL (fS hs) (fG hs) o fl a M) ++ RW cI cZ hs) sz) t) (va_A ((wL cI cZ cS cL (fS hs) (fG hs) o fl a M) ++ RW cI cZ hs) sz)) 1 6 (va_A ((wL cI cZ cS cL (fS hs) (fG hs) o fl a M) ++ RW cI cZ hs) sz) := by
  refine va_MetW (cc := cL_fetchTicks) (maxL := 4) (ret := (some .int)) (hh := [(0, 9, 12, 20), (0, 9, 15, 15)]) (by decide) rfl ?_
  intro p e s m args below meth c s₁ B hml hv
  obtain ⟨rfl, hsz, hP, hK, hD0, hNW, hEX, hNC⟩ := hv
  have hx := B.exec
  have hb := B.bytes
  have hr := B.returns
  have hts := atoms_spec (ws := wsL_fetchTicks) B.pre
  have hown : s.vm.findClass RL = some m.cls := findClass_of_methodNamed B.named
  have htab : c.exceptionTable.toList = tableOf [(0, 9, 12, 20), (0, 9, 15, 15)] := vx_table (x := yL_law) B (hts (.codeWith yL_fetchTicks cL_fetchTicks 4 (some .int) [(0, 9, 12, 20), (0, 9, 15, 15)]) List.mem_cons_self)
  have hK8 : va_K (dC, dI) vwCl (tys8 cI cZ cS) s := hK.sub (tys' := tys8 cI cZ cS) [0, 1, 2] rfl
  have hcl20 := hts (.classLink RL 20 "java/lang/IndexOutOfBoundsException") (by decide +kernel)
  have hcl15 := hts (.classLink RL 15 "java/lang/IllegalStateException") (by decide +kernel)
  subst hsz
  have hD := hD0.self (sz := s.heap.size)
  generalize hAe : va_A ((wL cI cZ cS cL (fS hs) (fG hs) o fl a M) ++ RW cI cZ hs) s.heap.size = A at hD hEX ⊢
  have hA : ∀ q : Nat, s.heap.size ≤ q → A q := fun q h => by rw [← hAe]; exact Or.inr h
  have hS : va_S A s.heap s.heap [] := va_S.rf
  have hl := lv_entry ([.ref (a 0), .int a1, .ref o]) (n := 4) (Nat.le_of_ble_eq_true rfl)
  rw [lg_entry_eq]
  generalize (lg_sl ([.ref (a 0), .int a1, .ref o]) ++ List.replicate (4 - (lg_sl ([.ref (a 0), .int a1, .ref o])).length) Slot.unset).toArray = ls at hl ⊢
  have hl : lv_has ls 4 [(0, .ref (a 0)), (1, .int a1), (2, .ref o)] := hl
  suffices hgo : ∀ (H : Heap) (locs : List Loc), va_P (dC, dI) vwCl ((wL cI cZ cS cL (fS hs) (fG hs) o fl a M) ++ RW cI cZ hs) H → va_D A ((wL cI cZ cS cL (fS hs) (fG hs) o fl a M) ++ RW cI cZ hs) → va_S A s.heap H locs → W p l e (headSpec wsL_fetchTicks ({ frames := 8, cells := 1, slots := 6, locals := 152 } : Room)).room s m ([.ref (a 0), .int a1, .ref o] : List Value).toArray below meth c H locs 0 0 (MQ below (va_Qi (S := HS × (Nat → Int64)) (fun k u => k = kk ∧ u.1 = hs ∧ ∀ v, r = .inr v → u.2 0 = v.toInt64) (fun u t => WE (dC, dI) cI cZ ((wL cI cZ cS cL (fS u.1) (fG u.1) o u.2 a M) ++ RW cI cZ u.1) A t) A) ([.ref (a 0), .int a1, .ref o] : List Value).toArray s 1 6 A) (F0 m 0 ls []) from hgo _ _ hP hD hS
  intro H locs hP hD hS
  refine lv_aload_n hx hb dL_fetchTicks_0 rfl (lv_at hl 2 rfl) ?_
  refine lv_iconst (v := (0 : Int32)) hx hb dL_fetchTicks_1 (by decide) ?_
  refine lv_aload_n hx hb dL_fetchTicks_2 rfl (lv_at hl 0 rfl) ?_
  refine lv_iload_n hx hb dL_fetchTicks_3 rfl (lv_at hl 1 rfl) ?_
  have hPc := P_head (ws := (wL cI cZ cS cL (fS hs) (fG hs) o fl a M)) (ws' := (wX8 cI cZ cS (fS hs) (fG hs) a M)) hP [1, 2, 3, 4, 5, 6, 7, 8, 9, 10, 11, 12, 13, 14, 15, 16, 17, 18, 19, 20, 21, 22, 23, 24, 25, 26, 27, 28, 29, 30, 31, 32, 33, 34, 35, 36, 37, 38, 39, 40, 41, 42] rfl
  have hDc := D_head (ws := (wL cI cZ cS cL (fS hs) (fG hs) o fl a M)) (ws' := (wX8 cI cZ cS (fS hs) (fG hs) a M)) hD [1, 2, 3, 4, 5, 6, 7, 8, 9, 10, 11, 12, 13, 14, 15, 16, 17, 18, 19, 20, 21, 22, 23, 24, 25, 26, 27, 28, 29, 30, 31, 32, 33, 34, 35, 36, 37, 38, 39, 40, 41, 42] (by decide) rfl
  have hFc := va_free (wc := (wX8 cI cZ cS (fS hs) (fG hs) a M)) hD hS hA [1, 2, 3, 4, 5, 6, 7, 8, 9, 10, 11, 12, 13, 14, 15, 16, 17, 18, 19, 20, 21, 22, 23, 24, 25, 26, 27, 28, 29, 30, 31, 32, 33, 34, 35, 36, 37, 38, 39, 40, 41, 42] rfl
  rcases hA9 with ⟨v, hr9, hk9⟩ | ⟨i9, E9, hi9, hr9, hk9⟩
  · subst hr9
    subst hk9
    refine cRO (W.runV (As := [.int a1]) (rest := [.int (0 : Int32), .ref o]) ⟨hx, hb, hml, hown, hts⟩ (n_X8_fetchTicks l dC dI cI cZ cS (fS hs) (fG hs) a M a1 v hf) (cwV 1 hts gL_fetchTicks_X8_fetchTicks rfl rfl rfl (by decide +kernel) ⟨Nat.le_of_ble_eq_true rfl, Nat.le_of_ble_eq_true rfl⟩) ⟨RO8.blind, va_recv hK hP (ci := 8) (q0 := 1) rfl rfl, RO8.pre hPc hK8 hNW⟩ rfl rfl hl.1 rfl (lv_room (Nat.le_of_ble_eq_true rfl)) dL_fetchTicks_4 ⟨Nat.le_of_ble_eq_true rfl, Nat.le_of_ble_eq_true rfl⟩) ?_
    refine lv_i2l (v := v.toInt64) hx hb dL_fetchTicks_7 rfl ?_
    refine va_last (D := (dC, dI)) (f := fl) hx hb hK hP hD hS 0 3 rfl rfl (inb_in rfl) dL_fetchTicks_8 (fun H locs hP hD hS => ?_)
    have hP : va_P (dC, dI) vwCl ((wL cI cZ cS cL (fS hs) (fG hs) o (vp_updL fl 0 v.toInt64) a M) ++ RW cI cZ hs) H := hP
    have hD : va_D A ((wL cI cZ cS cL (fS hs) (fG hs) o (vp_updL fl 0 v.toInt64) a M) ++ RW cI cZ hs) := hD
    refine lv_goto (tgt := 18) hx hb dL_fetchTicks_9 (by decide) ?_
    refine lv_iconst (v := (0 : Int32)) hx hb dL_fetchTicks_18 (by decide) ?_
    refine W.widen (k := 1) (n := 6) (Nat.le_of_ble_eq_true rfl) (Nat.le_of_ble_eq_true rfl) ?_
    exact W.iret hx hb hr (fun t ht hW => ⟨⟨_, (hs, (vp_updL fl 0 v.toInt64)), rfl, ⟨rfl, rfl, fun v9 h9 => by cases h9; rfl⟩, WE.mk hP hD ht⟩, hS.F ht⟩) hS.2.2 dL_fetchTicks_19
  · subst hr9
    refine vx_thrH (vx_runV (As := [.int a1]) (rest := [.int (0 : Int32), .ref o]) ⟨hx, hb, hml, hown, hts⟩ (t_X8_fetchTicks l hst dC dI cI cZ cS (fS hs) (fG hs) a _ M a1 E9 hf) (cwV 1 hts gL_fetchTicks_X8_fetchTicks rfl rfl rfl (by decide +kernel) ⟨Nat.le_of_ble_eq_true rfl, Nat.le_of_ble_eq_true rfl⟩) ⟨T8.blind, va_recv hK hP (ci := 8) (q0 := 1) rfl rfl, T8.pre hPc hK8 hDc hNW (hEX.at hS hFc)⟩ rfl rfl hl.1 rfl (lv_room (Nat.le_of_ble_eq_true rfl)) dL_fetchTicks_4 ⟨Nat.le_of_ble_eq_true rfl, Nat.le_of_ble_eq_true rfl⟩) hS (fun q _ h => hFc q h) hFc (fun ce q9 t H1 locs1 ht hal hP1 hD1 hz1 hk1 hS hce hcv hcl => ?_)
    obtain ⟨hP, hD⟩ := join_app (ws := (wL cI cZ cS cL (fS hs) (fG hs) o fl a M)) (wr := [(o, .inl (cL, 1, .inr (.inl fl)))]) (w1 := _) hP hD [1, 2, 3, 4, 5, 6, 7, 8, 9, 10, 11, 12, 13, 14, 15, 16, 17, 18, 19, 20, 21, 22, 23, 24, 25, 26, 27, 28, 29, 30, 31, 32, 33, 34, 35, 36, 37, 38, 39, 40, 41, 42] [0] rfl rfl (by decide) (by decide) hk1 hFc hP1 hD1
    have hP : va_P (dC, dI) vwCl ((wL cI cZ cS cL (fS hs) (fG hs) o fl a M) ++ RW cI cZ hs) H1 := hP
    have hD : va_D A ((wL cI cZ cS cL (fS hs) (fG hs) o fl a M) ++ RW cI cZ hs) := hD
    generalize H1 = H at hP hS hce ⊢
    rcases (show i9 = 0 ∨ i9 = 1 by have h7 := (List.getElem?_eq_some_iff.mp hi9).1; simp only [List.length] at h7; omega) with rfl | rfl
    · cases hi9
      refine vx_catch (own := RL) (name := "java/lang/IndexOutOfBoundsException") hown [] ⟨0, 9, 12, 20⟩ [⟨0, 9, 15, 15⟩] htab (fun z hz => nomatch hz) rfl (by decide) hcl20 ((nc422 hNW).use rfl) hce hcv hcl ?_
      refine lv_astore_n (lv' := [(3, .ref q9), (0, .ref (a 0)), (1, .int a1), (2, .ref o)]) hx hb dL_fetchTicks_12 rfl hl (by decide) rfl (fun ls hl => ?_)
      refine lv_iconst (v := (1 : Int32)) hx hb dL_fetchTicks_13 (by decide) ?_
      refine W.widen (k := 1) (n := 6) (Nat.le_of_ble_eq_true rfl) (Nat.le_of_ble_eq_true rfl) ?_
      exact W.iret hx hb hr (fun t ht hW => ⟨⟨_, (hs, fl), rfl, ⟨hk9.symm, rfl, fun v9 h9 => by cases h9⟩, WE.mk hP hD ht⟩, hS.F ht⟩) hS.2.2 dL_fetchTicks_14
    · cases hi9
      refine vx_catch (own := RL) (name := "java/lang/IllegalStateException") hown [⟨0, 9, 12, 20⟩] ⟨0, 9, 15, 15⟩ [] htab (fun z hz => by
      rcases (show z = ⟨0, 9, 12, 20⟩ by simpa using hz) with rfl
      · exact Or.inr ⟨by decide, "java/lang/IndexOutOfBoundsException", hcl20, hNC ("java/lang/IllegalStateException", "java/lang/IndexOutOfBoundsException") (List.mem_of_getElem? (i := 1) rfl)⟩) rfl (by decide) hcl15 ((nc58 hNW).use rfl) hce hcv hcl ?_
      refine lv_astore_n (lv' := [(3, .ref q9), (0, .ref (a 0)), (1, .int a1), (2, .ref o)]) hx hb dL_fetchTicks_15 rfl hl (by decide) rfl (fun ls hl => ?_)
      refine lv_iconst (v := (2 : Int32)) hx hb dL_fetchTicks_16 (by decide) ?_
      refine W.widen (k := 1) (n := 6) (Nat.le_of_ble_eq_true rfl) (Nat.le_of_ble_eq_true rfl) ?_
      exact W.iret hx hb hr (fun t ht hW => ⟨⟨_, (hs, fl), rfl, ⟨hk9.symm, rfl, fun v9 h9 => by cases h9⟩, WE.mk hP hD ht⟩, hS.F ht⟩) hS.2.2 dL_fetchTicks_17
set_option maxHeartbeats 4000000 in
set_option maxRecDepth 100000 in
theorem w_L_heaviest (l : Launch) (hst : l.stackTraces = false) (dC : Nat → ClassId) (dI : Nat → Nat → Nat) (cI cZ cS cL : ClassId) (hs : HS) (o : Nat) (fl : Nat → Int64) (a : Nat → Nat) (sz : Nat) (M : Mem) (r : String ⊕ Int32) (kk : Int32) (hf : fX8_heaviest M  = some r) (hA9 : Ans ["java/lang/IllegalStateException"] r kk) : Met l yL_heaviest wsL_heaviest ({ frames := 8, cells := 1, slots := 6, locals := 150 } : Room) (va_Pc [.ref (a 0), .ref o] (T9 (dC, dI) cI cZ cS cL ((wL cI cZ cS cL (fS hs) (fG hs) o fl a M) ++ RW cI cZ hs) sz)) (va_Qi (S := HS × (Nat → Int64)) (fun k u => k = kk ∧ u.1 = hs ∧ ∀ v, r = .inr v → u.2 0 = v.toInt64) (fun u t => WE (dC, dI) cI cZ ((wL cI cZ cS cL (fS u.1) (fG u.1) o u.2 a M) ++ RW cI cZ u.1) (va_A ((wL cI cZ cS cL (fS hs) (fG hs) o fl a M) ++ RW cI cZ hs) sz) t) (va_A ((wL cI cZ cS cL (fS hs) (fG hs) o fl a M) ++ RW cI cZ hs) sz)) 1 6 (va_A ((wL cI cZ cS cL (fS hs) (fG hs) o fl a M) ++ RW cI cZ hs) sz) := by
  refine va_MetW (cc := cL_heaviest) (maxL := 3) (ret := (some .int)) (hh := [(0, 8, 11, 15)]) (by decide) rfl ?_
  intro p e s m args below meth c s₁ B hml hv
  obtain ⟨rfl, hsz, hP, hK, hD0, hNW, hEX, hNC⟩ := hv
  have hx := B.exec
  have hb := B.bytes
  have hr := B.returns
  have hts := atoms_spec (ws := wsL_heaviest) B.pre
  have hown : s.vm.findClass RL = some m.cls := findClass_of_methodNamed B.named
  have htab : c.exceptionTable.toList = tableOf [(0, 8, 11, 15)] := vx_table (x := yL_law) B (hts (.codeWith yL_heaviest cL_heaviest 3 (some .int) [(0, 8, 11, 15)]) List.mem_cons_self)
  have hK8 : va_K (dC, dI) vwCl (tys8 cI cZ cS) s := hK.sub (tys' := tys8 cI cZ cS) [0, 1, 2] rfl
  have hcl15 := hts (.classLink RL 15 "java/lang/IllegalStateException") (by decide +kernel)
  subst hsz
  have hD := hD0.self (sz := s.heap.size)
  generalize hAe : va_A ((wL cI cZ cS cL (fS hs) (fG hs) o fl a M) ++ RW cI cZ hs) s.heap.size = A at hD hEX ⊢
  have hA : ∀ q : Nat, s.heap.size ≤ q → A q := fun q h => by rw [← hAe]; exact Or.inr h
  have hS : va_S A s.heap s.heap [] := va_S.rf
  have hl := lv_entry ([.ref (a 0), .ref o]) (n := 3) (Nat.le_of_ble_eq_true rfl)
  rw [lg_entry_eq]
  generalize (lg_sl ([.ref (a 0), .ref o]) ++ List.replicate (3 - (lg_sl ([.ref (a 0), .ref o])).length) Slot.unset).toArray = ls at hl ⊢
  have hl : lv_has ls 3 [(0, .ref (a 0)), (1, .ref o)] := hl
  suffices hgo : ∀ (H : Heap) (locs : List Loc), va_P (dC, dI) vwCl ((wL cI cZ cS cL (fS hs) (fG hs) o fl a M) ++ RW cI cZ hs) H → va_D A ((wL cI cZ cS cL (fS hs) (fG hs) o fl a M) ++ RW cI cZ hs) → va_S A s.heap H locs → W p l e (headSpec wsL_heaviest ({ frames := 8, cells := 1, slots := 6, locals := 150 } : Room)).room s m ([.ref (a 0), .ref o] : List Value).toArray below meth c H locs 0 0 (MQ below (va_Qi (S := HS × (Nat → Int64)) (fun k u => k = kk ∧ u.1 = hs ∧ ∀ v, r = .inr v → u.2 0 = v.toInt64) (fun u t => WE (dC, dI) cI cZ ((wL cI cZ cS cL (fS u.1) (fG u.1) o u.2 a M) ++ RW cI cZ u.1) A t) A) ([.ref (a 0), .ref o] : List Value).toArray s 1 6 A) (F0 m 0 ls []) from hgo _ _ hP hD hS
  intro H locs hP hD hS
  refine lv_aload_n hx hb dL_heaviest_0 rfl (lv_at hl 1 rfl) ?_
  refine lv_iconst (v := (0 : Int32)) hx hb dL_heaviest_1 (by decide) ?_
  refine lv_aload_n hx hb dL_heaviest_2 rfl (lv_at hl 0 rfl) ?_
  have hPc := P_head (ws := (wL cI cZ cS cL (fS hs) (fG hs) o fl a M)) (ws' := (wX8 cI cZ cS (fS hs) (fG hs) a M)) hP [1, 2, 3, 4, 5, 6, 7, 8, 9, 10, 11, 12, 13, 14, 15, 16, 17, 18, 19, 20, 21, 22, 23, 24, 25, 26, 27, 28, 29, 30, 31, 32, 33, 34, 35, 36, 37, 38, 39, 40, 41, 42] rfl
  have hDc := D_head (ws := (wL cI cZ cS cL (fS hs) (fG hs) o fl a M)) (ws' := (wX8 cI cZ cS (fS hs) (fG hs) a M)) hD [1, 2, 3, 4, 5, 6, 7, 8, 9, 10, 11, 12, 13, 14, 15, 16, 17, 18, 19, 20, 21, 22, 23, 24, 25, 26, 27, 28, 29, 30, 31, 32, 33, 34, 35, 36, 37, 38, 39, 40, 41, 42] (by decide) rfl
  have hFc := va_free (wc := (wX8 cI cZ cS (fS hs) (fG hs) a M)) hD hS hA [1, 2, 3, 4, 5, 6, 7, 8, 9, 10, 11, 12, 13, 14, 15, 16, 17, 18, 19, 20, 21, 22, 23, 24, 25, 26, 27, 28, 29, 30, 31, 32, 33, 34, 35, 36, 37, 38, 39, 40, 41, 42] rfl
  rcases hA9 with ⟨v, hr9, hk9⟩ | ⟨i9, E9, hi9, hr9, hk9⟩
  · subst hr9
    subst hk9
    refine cRO (W.runV (As := []) (rest := [.int (0 : Int32), .ref o]) ⟨hx, hb, hml, hown, hts⟩ (n_X8_heaviest l dC dI cI cZ cS (fS hs) (fG hs) a M v hf) (cwV 0 hts gL_heaviest_X8_heaviest rfl rfl rfl (by decide +kernel) ⟨Nat.le_of_ble_eq_true rfl, Nat.le_of_ble_eq_true rfl⟩) ⟨RO8.blind, va_recv hK hP (ci := 8) (q0 := 1) rfl rfl, RO8.pre hPc hK8 hNW⟩ rfl rfl hl.1 rfl (lv_room (Nat.le_of_ble_eq_true rfl)) dL_heaviest_3 ⟨Nat.le_of_ble_eq_true rfl, Nat.le_of_ble_eq_true rfl⟩) ?_
    refine lv_i2l (v := v.toInt64) hx hb dL_heaviest_6 rfl ?_
    refine va_last (D := (dC, dI)) (f := fl) hx hb hK hP hD hS 0 3 rfl rfl (inb_in rfl) dL_heaviest_7 (fun H locs hP hD hS => ?_)
    have hP : va_P (dC, dI) vwCl ((wL cI cZ cS cL (fS hs) (fG hs) o (vp_updL fl 0 v.toInt64) a M) ++ RW cI cZ hs) H := hP
    have hD : va_D A ((wL cI cZ cS cL (fS hs) (fG hs) o (vp_updL fl 0 v.toInt64) a M) ++ RW cI cZ hs) := hD
    refine lv_goto (tgt := 14) hx hb dL_heaviest_8 (by decide) ?_
    refine lv_iconst (v := (0 : Int32)) hx hb dL_heaviest_14 (by decide) ?_
    refine W.widen (k := 1) (n := 6) (Nat.le_of_ble_eq_true rfl) (Nat.le_of_ble_eq_true rfl) ?_
    exact W.iret hx hb hr (fun t ht hW => ⟨⟨_, (hs, (vp_updL fl 0 v.toInt64)), rfl, ⟨rfl, rfl, fun v9 h9 => by cases h9; rfl⟩, WE.mk hP hD ht⟩, hS.F ht⟩) hS.2.2 dL_heaviest_15
  · subst hr9
    refine vx_thrH (vx_runV (As := []) (rest := [.int (0 : Int32), .ref o]) ⟨hx, hb, hml, hown, hts⟩ (t_X8_heaviest l hst dC dI cI cZ cS (fS hs) (fG hs) a _ M E9 hf) (cwV 0 hts gL_heaviest_X8_heaviest rfl rfl rfl (by decide +kernel) ⟨Nat.le_of_ble_eq_true rfl, Nat.le_of_ble_eq_true rfl⟩) ⟨T8.blind, va_recv hK hP (ci := 8) (q0 := 1) rfl rfl, T8.pre hPc hK8 hDc hNW (hEX.at hS hFc)⟩ rfl rfl hl.1 rfl (lv_room (Nat.le_of_ble_eq_true rfl)) dL_heaviest_3 ⟨Nat.le_of_ble_eq_true rfl, Nat.le_of_ble_eq_true rfl⟩) hS (fun q _ h => hFc q h) hFc (fun ce q9 t H1 locs1 ht hal hP1 hD1 hz1 hk1 hS hce hcv hcl => ?_)
    obtain ⟨hP, hD⟩ := join_app (ws := (wL cI cZ cS cL (fS hs) (fG hs) o fl a M)) (wr := [(o, .inl (cL, 1, .inr (.inl fl)))]) (w1 := _) hP hD [1, 2, 3, 4, 5, 6, 7, 8, 9, 10, 11, 12, 13, 14, 15, 16, 17, 18, 19, 20, 21, 22, 23, 24, 25, 26, 27, 28, 29, 30, 31, 32, 33, 34, 35, 36, 37, 38, 39, 40, 41, 42] [0] rfl rfl (by decide) (by decide) hk1 hFc hP1 hD1
    have hP : va_P (dC, dI) vwCl ((wL cI cZ cS cL (fS hs) (fG hs) o fl a M) ++ RW cI cZ hs) H1 := hP
    have hD : va_D A ((wL cI cZ cS cL (fS hs) (fG hs) o fl a M) ++ RW cI cZ hs) := hD
    generalize H1 = H at hP hS hce ⊢
    rcases (show i9 = 0 by have h7 := (List.getElem?_eq_some_iff.mp hi9).1; simp only [List.length] at h7; omega) with rfl
    · cases hi9
      refine vx_catch (own := RL) (name := "java/lang/IllegalStateException") hown [] ⟨0, 8, 11, 15⟩ [] htab (fun z hz => nomatch hz) rfl (by decide) hcl15 ((nc58 hNW).use rfl) hce hcv hcl ?_
      refine lv_astore_n (lv' := [(2, .ref q9), (0, .ref (a 0)), (1, .ref o)]) hx hb dL_heaviest_11 rfl hl (by decide) rfl (fun ls hl => ?_)
      refine lv_iconst (v := (1 : Int32)) hx hb dL_heaviest_12 (by decide) ?_
      refine W.widen (k := 1) (n := 6) (Nat.le_of_ble_eq_true rfl) (Nat.le_of_ble_eq_true rfl) ?_
      exact W.iret hx hb hr (fun t ht hW => ⟨⟨_, (hs, fl), rfl, ⟨hk9.symm, rfl, fun v9 h9 => by cases h9⟩, WE.mk hP hD ht⟩, hS.F ht⟩) hS.2.2 dL_heaviest_13
set_option maxHeartbeats 4000000 in
set_option maxRecDepth 100000 in
theorem w_L_mostFetched (l : Launch) (hst : l.stackTraces = false) (dC : Nat → ClassId) (dI : Nat → Nat → Nat) (cI cZ cS cL : ClassId) (hs : HS) (o : Nat) (fl : Nat → Int64) (a : Nat → Nat) (sz : Nat) (M : Mem) (r : String ⊕ Int32) (kk : Int32) (hf : fX8_mostFetched M  = some r) (hA9 : Ans ["java/lang/IllegalStateException"] r kk) : Met l yL_mostFetched wsL_mostFetched ({ frames := 8, cells := 1, slots := 6, locals := 150 } : Room) (va_Pc [.ref (a 0), .ref o] (T9 (dC, dI) cI cZ cS cL ((wL cI cZ cS cL (fS hs) (fG hs) o fl a M) ++ RW cI cZ hs) sz)) (va_Qi (S := HS × (Nat → Int64)) (fun k u => k = kk ∧ u.1 = hs ∧ ∀ v, r = .inr v → u.2 0 = v.toInt64) (fun u t => WE (dC, dI) cI cZ ((wL cI cZ cS cL (fS u.1) (fG u.1) o u.2 a M) ++ RW cI cZ u.1) (va_A ((wL cI cZ cS cL (fS hs) (fG hs) o fl a M) ++ RW cI cZ hs) sz) t) (va_A ((wL cI cZ cS cL (fS hs) (fG hs) o fl a M) ++ RW cI cZ hs) sz)) 1 6 (va_A ((wL cI cZ cS cL (fS hs) (fG hs) o fl a M) ++ RW cI cZ hs) sz) := by
  refine va_MetW (cc := cL_mostFetched) (maxL := 3) (ret := (some .int)) (hh := [(0, 8, 11, 15)]) (by decide) rfl ?_
  intro p e s m args below meth c s₁ B hml hv
  obtain ⟨rfl, hsz, hP, hK, hD0, hNW, hEX, hNC⟩ := hv
  have hx := B.exec
  have hb := B.bytes
  have hr := B.returns
  have hts := atoms_spec (ws := wsL_mostFetched) B.pre
  have hown : s.vm.findClass RL = some m.cls := findClass_of_methodNamed B.named
  have htab : c.exceptionTable.toList = tableOf [(0, 8, 11, 15)] := vx_table (x := yL_law) B (hts (.codeWith yL_mostFetched cL_mostFetched 3 (some .int) [(0, 8, 11, 15)]) List.mem_cons_self)
  have hK8 : va_K (dC, dI) vwCl (tys8 cI cZ cS) s := hK.sub (tys' := tys8 cI cZ cS) [0, 1, 2] rfl
  have hcl15 := hts (.classLink RL 15 "java/lang/IllegalStateException") (by decide +kernel)
  subst hsz
  have hD := hD0.self (sz := s.heap.size)
  generalize hAe : va_A ((wL cI cZ cS cL (fS hs) (fG hs) o fl a M) ++ RW cI cZ hs) s.heap.size = A at hD hEX ⊢
  have hA : ∀ q : Nat, s.heap.size ≤ q → A q := fun q h => by rw [← hAe]; exact Or.inr h
  have hS : va_S A s.heap s.heap [] := va_S.rf
  have hl := lv_entry ([.ref (a 0), .ref o]) (n := 3) (Nat.le_of_ble_eq_true rfl)
  rw [lg_entry_eq]
  generalize (lg_sl ([.ref (a 0), .ref o]) ++ List.replicate (3 - (lg_sl ([.ref (a 0), .ref o])).length) Slot.unset).toArray = ls at hl ⊢
  have hl : lv_has ls 3 [(0, .ref (a 0)), (1, .ref o)] := hl
  suffices hgo : ∀ (H : Heap) (locs : List Loc), va_P (dC, dI) vwCl ((wL cI cZ cS cL (fS hs) (fG hs) o fl a M) ++ RW cI cZ hs) H → va_D A ((wL cI cZ cS cL (fS hs) (fG hs) o fl a M) ++ RW cI cZ hs) → va_S A s.heap H locs → W p l e (headSpec wsL_mostFetched ({ frames := 8, cells := 1, slots := 6, locals := 150 } : Room)).room s m ([.ref (a 0), .ref o] : List Value).toArray below meth c H locs 0 0 (MQ below (va_Qi (S := HS × (Nat → Int64)) (fun k u => k = kk ∧ u.1 = hs ∧ ∀ v, r = .inr v → u.2 0 = v.toInt64) (fun u t => WE (dC, dI) cI cZ ((wL cI cZ cS cL (fS u.1) (fG u.1) o u.2 a M) ++ RW cI cZ u.1) A t) A) ([.ref (a 0), .ref o] : List Value).toArray s 1 6 A) (F0 m 0 ls []) from hgo _ _ hP hD hS
  intro H locs hP hD hS
  refine lv_aload_n hx hb dL_mostFetched_0 rfl (lv_at hl 1 rfl) ?_
  refine lv_iconst (v := (0 : Int32)) hx hb dL_mostFetched_1 (by decide) ?_
  refine lv_aload_n hx hb dL_mostFetched_2 rfl (lv_at hl 0 rfl) ?_
  have hPc := P_head (ws := (wL cI cZ cS cL (fS hs) (fG hs) o fl a M)) (ws' := (wX8 cI cZ cS (fS hs) (fG hs) a M)) hP [1, 2, 3, 4, 5, 6, 7, 8, 9, 10, 11, 12, 13, 14, 15, 16, 17, 18, 19, 20, 21, 22, 23, 24, 25, 26, 27, 28, 29, 30, 31, 32, 33, 34, 35, 36, 37, 38, 39, 40, 41, 42] rfl
  have hDc := D_head (ws := (wL cI cZ cS cL (fS hs) (fG hs) o fl a M)) (ws' := (wX8 cI cZ cS (fS hs) (fG hs) a M)) hD [1, 2, 3, 4, 5, 6, 7, 8, 9, 10, 11, 12, 13, 14, 15, 16, 17, 18, 19, 20, 21, 22, 23, 24, 25, 26, 27, 28, 29, 30, 31, 32, 33, 34, 35, 36, 37, 38, 39, 40, 41, 42] (by decide) rfl
  have hFc := va_free (wc := (wX8 cI cZ cS (fS hs) (fG hs) a M)) hD hS hA [1, 2, 3, 4, 5, 6, 7, 8, 9, 10, 11, 12, 13, 14, 15, 16, 17, 18, 19, 20, 21, 22, 23, 24, 25, 26, 27, 28, 29, 30, 31, 32, 33, 34, 35, 36, 37, 38, 39, 40, 41, 42] rfl
  rcases hA9 with ⟨v, hr9, hk9⟩ | ⟨i9, E9, hi9, hr9, hk9⟩
  · subst hr9
    subst hk9
    refine cRO (W.runV (As := []) (rest := [.int (0 : Int32), .ref o]) ⟨hx, hb, hml, hown, hts⟩ (n_X8_mostFetched l dC dI cI cZ cS (fS hs) (fG hs) a M v hf) (cwV 0 hts gL_mostFetched_X8_mostFetched rfl rfl rfl (by decide +kernel) ⟨Nat.le_of_ble_eq_true rfl, Nat.le_of_ble_eq_true rfl⟩) ⟨RO8.blind, va_recv hK hP (ci := 8) (q0 := 1) rfl rfl, RO8.pre hPc hK8 hNW⟩ rfl rfl hl.1 rfl (lv_room (Nat.le_of_ble_eq_true rfl)) dL_mostFetched_3 ⟨Nat.le_of_ble_eq_true rfl, Nat.le_of_ble_eq_true rfl⟩) ?_
    refine lv_i2l (v := v.toInt64) hx hb dL_mostFetched_6 rfl ?_
    refine va_last (D := (dC, dI)) (f := fl) hx hb hK hP hD hS 0 3 rfl rfl (inb_in rfl) dL_mostFetched_7 (fun H locs hP hD hS => ?_)
    have hP : va_P (dC, dI) vwCl ((wL cI cZ cS cL (fS hs) (fG hs) o (vp_updL fl 0 v.toInt64) a M) ++ RW cI cZ hs) H := hP
    have hD : va_D A ((wL cI cZ cS cL (fS hs) (fG hs) o (vp_updL fl 0 v.toInt64) a M) ++ RW cI cZ hs) := hD
    refine lv_goto (tgt := 14) hx hb dL_mostFetched_8 (by decide) ?_
    refine lv_iconst (v := (0 : Int32)) hx hb dL_mostFetched_14 (by decide) ?_
    refine W.widen (k := 1) (n := 6) (Nat.le_of_ble_eq_true rfl) (Nat.le_of_ble_eq_true rfl) ?_
    exact W.iret hx hb hr (fun t ht hW => ⟨⟨_, (hs, (vp_updL fl 0 v.toInt64)), rfl, ⟨rfl, rfl, fun v9 h9 => by cases h9; rfl⟩, WE.mk hP hD ht⟩, hS.F ht⟩) hS.2.2 dL_mostFetched_15
  · subst hr9
    refine vx_thrH (vx_runV (As := []) (rest := [.int (0 : Int32), .ref o]) ⟨hx, hb, hml, hown, hts⟩ (t_X8_mostFetched l hst dC dI cI cZ cS (fS hs) (fG hs) a _ M E9 hf) (cwV 0 hts gL_mostFetched_X8_mostFetched rfl rfl rfl (by decide +kernel) ⟨Nat.le_of_ble_eq_true rfl, Nat.le_of_ble_eq_true rfl⟩) ⟨T8.blind, va_recv hK hP (ci := 8) (q0 := 1) rfl rfl, T8.pre hPc hK8 hDc hNW (hEX.at hS hFc)⟩ rfl rfl hl.1 rfl (lv_room (Nat.le_of_ble_eq_true rfl)) dL_mostFetched_3 ⟨Nat.le_of_ble_eq_true rfl, Nat.le_of_ble_eq_true rfl⟩) hS (fun q _ h => hFc q h) hFc (fun ce q9 t H1 locs1 ht hal hP1 hD1 hz1 hk1 hS hce hcv hcl => ?_)
    obtain ⟨hP, hD⟩ := join_app (ws := (wL cI cZ cS cL (fS hs) (fG hs) o fl a M)) (wr := [(o, .inl (cL, 1, .inr (.inl fl)))]) (w1 := _) hP hD [1, 2, 3, 4, 5, 6, 7, 8, 9, 10, 11, 12, 13, 14, 15, 16, 17, 18, 19, 20, 21, 22, 23, 24, 25, 26, 27, 28, 29, 30, 31, 32, 33, 34, 35, 36, 37, 38, 39, 40, 41, 42] [0] rfl rfl (by decide) (by decide) hk1 hFc hP1 hD1
    have hP : va_P (dC, dI) vwCl ((wL cI cZ cS cL (fS hs) (fG hs) o fl a M) ++ RW cI cZ hs) H1 := hP
    have hD : va_D A ((wL cI cZ cS cL (fS hs) (fG hs) o fl a M) ++ RW cI cZ hs) := hD
    generalize H1 = H at hP hS hce ⊢
    rcases (show i9 = 0 by have h7 := (List.getElem?_eq_some_iff.mp hi9).1; simp only [List.length] at h7; omega) with rfl
    · cases hi9
      refine vx_catch (own := RL) (name := "java/lang/IllegalStateException") hown [] ⟨0, 8, 11, 15⟩ [] htab (fun z hz => nomatch hz) rfl (by decide) hcl15 ((nc58 hNW).use rfl) hce hcv hcl ?_
      refine lv_astore_n (lv' := [(2, .ref q9), (0, .ref (a 0)), (1, .ref o)]) hx hb dL_mostFetched_11 rfl hl (by decide) rfl (fun ls hl => ?_)
      refine lv_iconst (v := (1 : Int32)) hx hb dL_mostFetched_12 (by decide) ?_
      refine W.widen (k := 1) (n := 6) (Nat.le_of_ble_eq_true rfl) (Nat.le_of_ble_eq_true rfl) ?_
      exact W.iret hx hb hr (fun t ht hW => ⟨⟨_, (hs, fl), rfl, ⟨hk9.symm, rfl, fun v9 h9 => by cases h9⟩, WE.mk hP hD ht⟩, hS.F ht⟩) hS.2.2 dL_mostFetched_13
