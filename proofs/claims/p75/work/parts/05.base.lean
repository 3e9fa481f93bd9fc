/-! Words of this proof: a memory (rows by number), guards, reading one step off a pure run. -/
abbrev Mem : Type := Nat → Nat → Int32
def sr (M : Mem) (i : Nat) (f : Nat → Int32) : Mem := fun j => bif Nat.beq j i then f else M j
def ofs {β : Type} (k : Nat) (f : Nat → β) : Nat → β := fun i => f (k + i)
def inb (i : Int32) (n : Nat) : Bool := decide (¬ (i < 0 ∨ n ≤ i.toNatClampNeg))
theorem inb_in {i : Int32} {n : Nat} (h : inb i n = true) : vp_in i n := by
  have h2 : ¬ (i < 0 ∨ n ≤ i.toNatClampNeg) := of_decide_eq_true h
  exact h2
def isb (v : Int32) : Bool := decide (v = 0 ∨ v = 1)
theorem isb_in {v : Int32} (h : isb v = true) : v = 0 ∨ v = 1 := of_decide_eq_true h
theorem isb_nar {v : Int32} (h : isb v = true) : narrow .boolean (.int v) = .int v := by
  rcases isb_in h with rfl | rfl <;> rfl
theorem isb_vnar {v : Int32} (h : isb v = true) : vp_nar .boolean v = v := by
  rcases isb_in h with rfl | rfl <;> rfl
theorem isb_fit {v : Int32} (h : isb v = true) : fits .boolean (.int v) = true := by
  rcases isb_in h with rfl | rfl <;> rfl
def pk {β : Type} (l : List Nat) (f : Nat → β) : Nat → β := fun i => f (l.getD i 0)
/-- what a copy of a row wants of its places -/
def cpk (sp dp n : Int32) (n0 n1 : Nat) : Bool := decide (¬ sp < 0 ∧ ¬ dp < 0 ∧ ¬ n < 0 ∧ sp.toNatClampNeg + n.toNatClampNeg ≤ n0 ∧ dp.toNatClampNeg + n.toNatClampNeg ≤ n1)
theorem cpk_s {sp dp n : Int32} {n0 n1 : Nat} (h : cpk sp dp n n0 n1 = true) : ¬ sp < 0 ∧ ¬ dp < 0 ∧ ¬ n < 0 ∧ sp.toNatClampNeg + n.toNatClampNeg ≤ n0 ∧ dp.toNatClampNeg + n.toNatClampNeg ≤ n1 := of_decide_eq_true h
def nnb (r : UInt64) : Bool := decide (r &&& 0x7fffffffffffffff ≤ 0x7ff0000000000000)
theorem nnb_s {r : UInt64} (h : nnb r = true) : vf_n64 r := by
  have h2 : r &&& 0x7fffffffffffffff ≤ 0x7ff0000000000000 := of_decide_eq_true h
  exact h2
theorem tab_out {x : Int32} (n : Nat) (hn : n < 2 ^ 31) (h : ∀ k : Nat, k < n → ¬ x = Int32.ofNat k) : x.toInt < 0 ∨ ((n : Int) - 1) < x.toInt := by
  rcases Classical.em (x.toInt < 0) with q | q
  · exact Or.inl q
  · refine Or.inr ?_
    rcases Classical.em ((n : Int) - 1 < x.toInt) with w | w
    · exact w
    · exfalso
      obtain ⟨k, hk⟩ : ∃ k : Nat, x.toInt = (k : Int) := ⟨x.toInt.toNat, by omega⟩
      refine h k (by omega) ?_
      apply Int32.toInt_inj.mp
      rw [hk]
      exact (nI_toInt (n := k) (by omega)).symm
def gd {α : Type} (b : Bool) (x : Option α) : Option α := bif b then x else none
theorem gd_s {α : Type} {b : Bool} {x : Option α} {z : α} (h : gd b x = some z) : b = true ∧ x = some z := by
  cases b
  · cases h
  · exact ⟨rfl, h⟩
theorem gd_t {α : Type} (x : Option α) : gd true x = x := rfl
theorem bi_s {α β : Type} {o : Option α} {f : α → Option β} {z : β} (h : o.bind f = some z) : ∃ r, o = some r ∧ f r = some z := by
  cases o with
  | none => cases h
  | some r => exact ⟨r, rfl, h⟩
theorem it_t {α : Type} {c : Prop} [Decidable c] {x y : Option α} {z : α} (h : (if c then x else y) = some z) (hc : c) : x = some z := by rw [if_pos hc] at h; exact h
theorem it_f {α : Type} {c : Prop} [Decidable c] {x y : Option α} {z : α} (h : (if c then x else y) = some z) (hc : ¬ c) : y = some z := by rw [if_neg hc] at h; exact h
theorem it_n {α : Type} {c : Prop} [Decidable c] {x y : Option α} {z : α} (h : (if ¬ c then x else y) = some z) (hc : c) : y = some z := by rw [if_neg (fun q => q hc)] at h; exact h
theorem so_e {α : Type} {x z : α} (h : some x = some z) : x = z := Option.some.inj h
/-- a word that a walk never asks the heap for -/
def nwAll : List Cond := [.fieldLinkNest RX8 144 "GlideShelves$State" "goods" "LGlideShelves$Goods;" "GlideShelves",
  .fieldLinkNest RX8 148 "GlideShelves$Goods" "weights" "[I" "GlideShelves",
  .fieldLinkNest RX8 155 "GlideShelves$Goods" "filledIn" "[I" "GlideShelves",
  .fieldLinkNest RX8 167 "GlideShelves$Goods" "takenOut" "[I" "GlideShelves",
  .fieldLinkNest RX8 179 "GlideShelves$State" "book" "LGlideShelves$OrderBook;" "GlideShelves",
  .fieldLinkNest RX8 183 "GlideShelves$OrderBook" "count" "I" "GlideShelves",
  .fieldLinkNest RX8 188 "GlideShelves$OrderText" "reader" "LGlideShelves$OrderReader;" "GlideShelves",
  .fieldLinkNest RX8 192 "GlideShelves$OrderReader" "numbers" "[I" "GlideShelves",
  .fieldLinkNest RX8 200 "GlideShelves$OrderText" "length" "I" "GlideShelves",
  .fieldLinkNest RX8 221 "GlideShelves$Goods" "leasts" "[I" "GlideShelves",
  .fieldLinkNest RX8 232 "GlideShelves$State" "lift" "LGlideShelves$Lift;" "GlideShelves",
  .fieldLinkNest RX8 236 "GlideShelves$Lift" "keepsPlaces" "Z" "GlideShelves",
  .fieldLinkNest RX8 246 "GlideShelves$OrderText" "codes" "[I" "GlideShelves",
  .fieldLinkNest RX8 274 "GlideShelves$History" "count" "I" "GlideShelves",
  .fieldLinkNest RX8 275 "GlideShelves$Tower" "places" "[I" "GlideShelves",
  .fieldLinkNest RX8 278 "GlideShelves$Tower" "uses" "[I" "GlideShelves",
  .fieldLinkNest RX8 298 "GlideShelves$Lift" "slot" "I" "GlideShelves",
  .fieldLinkNest RX8 304 "GlideShelves$Lift" "remembered" "I" "GlideShelves",
  .fieldLinkNest RX8 310 "GlideShelves$Lift" "tripSums" "[I" "GlideShelves",
  .fieldLinkNest RX8 313 "GlideShelves$Lift" "tripBrought" "[Z" "GlideShelves",
  .fieldLinkNest RX8 353 "GlideShelves$State" "servedOrders" "I" "GlideShelves",
  .fieldLinkNest RX8 356 "GlideShelves$Lift" "allTicks" "I" "GlideShelves",
  .fieldLinkNest RX8 359 "GlideShelves$Lift" "allFetches" "I" "GlideShelves",
  .fieldLinkNest RX8 44 "GlideShelves$State" "tower" "LGlideShelves$Tower;" "GlideShelves",
  .fieldLinkNest RX8 48 "GlideShelves$Tower" "count" "I" "GlideShelves",
  .fieldLinkNest RX8 81 "GlideShelves$Tower" "window" "I" "GlideShelves",
  .fieldLinkNest RX8 92 "GlideShelves$Tower" "heights" "[I" "GlideShelves",
  .fieldLinkNest RX6 104 "GlideShelves$Tower" "uses" "[I" "GlideShelves",
  .fieldLinkNest RX6 107 "GlideShelves$Lift" "keepsPlaces" "Z" "GlideShelves",
  .fieldLinkNest RX6 111 "GlideShelves$Tower" "heights" "[I" "GlideShelves",
  .fieldLinkNest RX6 142 "GlideShelves$OrderBook" "wants" "[I" "GlideShelves",
  .fieldLinkNest RX6 145 "GlideShelves$Goods" "takenOut" "[I" "GlideShelves",
  .fieldLinkNest RX6 148 "GlideShelves$Lift" "allTicks" "I" "GlideShelves",
  .fieldLinkNest RX6 169 "GlideShelves$OrderBook" "count" "I" "GlideShelves",
  .fieldLinkNest RX6 60 "GlideShelves$Goods" "weights" "[I" "GlideShelves",
  .fieldLinkNest RX6 64 "GlideShelves$Tower" "count" "I" "GlideShelves",
  .fieldLinkNest RX6 67 "GlideShelves$Tower" "window" "I" "GlideShelves",
  .fieldLinkNest RX6 70 "GlideShelves$Tower" "places" "[I" "GlideShelves",
  .fieldLinkNest RX6 77 "GlideShelves$Goods" "leasts" "[I" "GlideShelves",
  .fieldLinkNest RX6 88 "GlideShelves$Lift" "slot" "I" "GlideShelves",
  .methodLinkNest RX8 104 yX6_putBack "GlideShelves",
  .methodLinkNest RX8 11 yX6_init "GlideShelves",
  .methodLinkNest RX8 141 yX6_weighShelf "GlideShelves",
  .methodLinkNest RX8 158 yX7_change "GlideShelves",
  .methodLinkNest RX8 162 yX7_countIn "GlideShelves",
  .methodLinkNest RX8 170 yX5_isOrder "GlideShelves",
  .methodLinkNest RX8 197 yX3_add "GlideShelves",
  .methodLinkNest RX8 206 yX3_sumOf "GlideShelves",
  .methodLinkNest RX8 21 yX1_init "GlideShelves",
  .methodLinkNest RX8 216 yX6_serveEach "GlideShelves",
  .methodLinkNest RX8 265 yX6_copyFrom "GlideShelves",
  .methodLinkNest RX8 268 yX1_restoreLatest "GlideShelves",
  .methodLinkNest RX8 28 yX5_init "GlideShelves",
  .methodLinkNest RX8 281 yX7_holderOf "GlideShelves",
  .methodLinkNest RX8 286 yX7_countFree "GlideShelves",
  .methodLinkNest RX8 289 yX7_sumOfHeights "GlideShelves",
  .methodLinkNest RX8 295 yX7_longestFree "GlideShelves",
  .methodLinkNest RX8 317 yX7_stockOf "GlideShelves",
  .methodLinkNest RX8 323 yX6_missing "GlideShelves",
  .methodLinkNest RX8 326 yX3_wantedOf "GlideShelves",
  .methodLinkNest RX8 329 yX6_isServable "GlideShelves",
  .methodLinkNest RX8 332 yX6_choice "GlideShelves",
  .methodLinkNest RX8 368 yX6_findHeaviest "GlideShelves",
  .methodLinkNest RX8 371 yX7_mostUsed "GlideShelves",
  .methodLinkNest RX8 454 yX7_helps "GlideShelves",
  .methodLinkNest RX8 458 yX7_lend "GlideShelves",
  .methodLinkNest RX8 64 yX7_firstFree "GlideShelves",
  .methodLinkNest RX8 70 yX1_save "GlideShelves",
  .methodLinkNest RX8 74 yX7_addAt "GlideShelves",
  .methodLinkNest RX8 86 yX7_isEmpty "GlideShelves",
  .methodLinkNest RX8 95 yX7_remove "GlideShelves",
  .methodLinkNest RX8 98 yX6_bring "GlideShelves",
  .methodLinkNest RX1 27 yX6_init "GlideShelves",
  .methodLinkNest RX1 28 yX6_copyFrom "GlideShelves",
  .methodLinkNest RX5 21 yX4_init "GlideShelves",
  .methodLinkNest RX5 26 yX4_begin "GlideShelves",
  .methodLinkNest RX5 29 yX4_read "GlideShelves",
  .methodLinkNest RX5 37 yX4_isAtEnd "GlideShelves",
  .methodLinkNest RX6 100 yX2_go "GlideShelves",
  .methodLinkNest RX6 11 yX7_init "GlideShelves",
  .methodLinkNest RX6 114 yX7_firstFree "GlideShelves",
  .methodLinkNest RX6 124 yX3_wantedOf "GlideShelves",
  .methodLinkNest RX6 138 yX7_change "GlideShelves",
  .methodLinkNest RX6 165 yX3_remove "GlideShelves",
  .methodLinkNest RX6 20 yX2_init "GlideShelves",
  .methodLinkNest RX6 27 yX0_init "GlideShelves",
  .methodLinkNest RX6 34 yX3_init "GlideShelves",
  .methodLinkNest RX6 43 yX7_copyFrom "GlideShelves",
  .methodLinkNest RX6 47 yX2_copyFrom "GlideShelves",
  .methodLinkNest RX6 50 yX0_copyFrom "GlideShelves",
  .methodLinkNest RX6 53 yX3_copyFrom "GlideShelves",
  .methodLinkNest RX6 56 yX7_countIn "GlideShelves",
  .methodLinkNest RX6 80 yX7_stockOf "GlideShelves",
  .methodLinkNest RX6 94 yX7_wayOf "GlideShelves",
  .castable "java/lang/IllegalStateException" "java/lang/IllegalStateException",
  .castable "java/lang/IllegalArgumentException" "java/lang/IllegalArgumentException",
  .castable "java/lang/IndexOutOfBoundsException" "java/lang/IndexOutOfBoundsException",
  .declares (Bundle.initS "java/lang/RuntimeException"),
  .declares (Bundle.initS "java/lang/Exception"),
  .declares (Bundle.initS Bundle.tN)]
theorem nw_kinds : ∀ w ∈ nwAll, (∃ a i b n d h, w = Cond.fieldLinkNest a i b n d h) ∨ (∃ a i x h, w = Cond.methodLinkNest a i x h) ∨ (∃ a b, w = Cond.castable a b) ∨ (∃ x, w = Cond.declares x) := by
  intro w hw
  unfold nwAll at hw
  repeat' (first | (rcases List.mem_cons.mp hw with rfl | hw; first | exact Or.inl ⟨_, _, _, _, _, _, rfl⟩ | exact Or.inr (Or.inl ⟨_, _, _, _, rfl⟩) | exact Or.inr (Or.inr (Or.inl ⟨_, _, rfl⟩)) | exact Or.inr (Or.inr (Or.inr ⟨_, rfl⟩))) | exact absurd hw List.not_mem_nil)
def NW (U : State) : Prop := ∀ w ∈ nwAll, va_Nw w U
theorem NW.warm {s U : State} (hW : s.WarmedH U.vm) (h : NW s) : NW U := by
  intro w hw
  rcases nw_kinds w hw with ⟨a, i, b, n, d, hh, rfl⟩ | ⟨a, i, x, hh, rfl⟩ | ⟨a, b, rfl⟩ | ⟨x, rfl⟩
  · exact va_Nw.warmF hW (h _ hw)
  · exact va_Nw.warmM hW (h _ hw)
  · exact va_Nw.warmC hW (h _ hw)
  · exact va_Nw.warmD hW (h _ hw)
theorem NW.same {u U : State} (hv : u.vm = U.vm) (h : NW u) : NW U := by
  intro w hw
  rcases nw_kinds w hw with ⟨a, i, b, n, d, hh, rfl⟩ | ⟨a, i, x, hh, rfl⟩ | ⟨a, b, rfl⟩ | ⟨x, rfl⟩
  · exact va_Nw.same rfl hv (h _ hw)
  · exact va_Nw.same rfl hv (h _ hw)
  · exact va_Nw.same rfl hv (h _ hw)
  · exact va_Nw.same rfl hv (h _ hw)
/-- a world that is read, and one that is written -/
def RO (D : va_G) (cI cZ : ClassId) (ws : va_W) (U : State) : Prop := va_P D vwCl ws U.heap ∧ va_K D vwCl [(cI, .int), (cZ, .boolean)] U ∧ NW U
def WR (D : va_G) (cI cZ : ClassId) (ws : va_W) (sz : Nat) (U : State) : Prop := U.heap.size = sz ∧ va_P D vwCl ws U.heap ∧ va_K D vwCl [(cI, .int), (cZ, .boolean)] U ∧ va_D (fun _ => True) ws ∧ NW U
/-- the world behind a method that writes -/
abbrev WE (D : va_G) (cI cZ : ClassId) (ws : va_W) (A : Nat → Prop) (t : State) : Prop := va_P D vwCl ws t.heap ∧ va_D A ws
theorem WE.mk {D : va_G} {cI cZ : ClassId} {ws : va_W} {A : Nat → Prop} {t : State} {H : Heap} (hP : va_P D vwCl ws H) (hD : va_D A ws) (ht : t.heap = H) : WE D cI cZ ws A t := ⟨by rw [ht]; exact hP, hD⟩
theorem RO.blind {D : va_G} {cI cZ : ClassId} {ws : va_W} {av : List Value} : FrameBlind (va_Pc av (RO D cI cZ ws)) := fun a U g mk q => by
  obtain ⟨q0, qP, qK, qN⟩ := q
  exact ⟨q0, qP, va_K.moved (u := U) (U := U.calling g mk a) (Vm.Alike.refl U.vm) qK, NW.same (u := U) (U := U.calling g mk a) rfl qN⟩
theorem WR.blind {D : va_G} {cI cZ : ClassId} {ws : va_W} {sz : Nat} {av : List Value} : FrameBlind (va_Pc av (WR D cI cZ ws sz)) := fun a U g mk q => by
  obtain ⟨q0, q1, qP, qK, qD, qN⟩ := q
  exact ⟨q0, q1, qP, va_K.moved (u := U) (U := U.calling g mk a) (Vm.Alike.refl U.vm) qK, qD, NW.same (u := U) (U := U.calling g mk a) rfl qN⟩
theorem tr_blind {av : List Value} : FrameBlind (va_Pc av (fun _ => True)) := fun _ _ _ _ q => q
theorem RO.pre {D : va_G} {cI cZ : ClassId} {ws : va_W} {av : List Value} {s : State} {H : Heap} (hP : va_P D vwCl ws H) (hK : va_K D vwCl [(cI, .int), (cZ, .boolean)] s) (hN : NW s) : ∀ U : State, U.heap = H → s.WarmedH U.vm → va_Pc av (RO D cI cZ ws) av.toArray U := fun U hU hW => ⟨rfl, by rw [hU]; exact hP, va_K.moved hW.alike hK, NW.warm hW hN⟩
theorem WR.pre {D : va_G} {cI cZ : ClassId} {ws : va_W} {av : List Value} {s : State} {H : Heap} {A : Nat → Prop} (hP : va_P D vwCl ws H) (hK : va_K D vwCl [(cI, .int), (cZ, .boolean)] s) (hD : va_D A ws) (hN : NW s) : ∀ U : State, U.heap = H → s.WarmedH U.vm → va_Pc av (WR D cI cZ ws H.size) av.toArray U := fun U hU hW => ⟨rfl, by rw [hU], by rw [hU]; exact hP, va_K.moved hW.alike hK, hD.weaken (fun _ _ _ _ => trivial), NW.warm hW hN⟩
theorem tr_pre {av : List Value} {s : State} {H : Heap} : ∀ U : State, U.heap = H → s.WarmedH U.vm → va_Pc av (fun _ => True) av.toArray U := fun _ _ _ => ⟨rfl, trivial⟩
section
variable {p : Program} {l : Launch} {e : Env} {R : Room} {s : State} {m : MethodId} {args : Array Value} {below : List Frame} {meth : Method} {c : Code} {H : Heap} {locs : List Loc} {cells slots : Nat} {Q : State → Prop} {ls : Array Slot} {pc : Nat} {rest st0 : List Value} {a : Array Value}
theorem cRO {r : Value} (hr : CallRun p l e R s m args below meth c H locs cells slots 0 0 (F0 m pc ls st0) rest (k2_QcV r a) (fun _ => False)) (kk : W p l e R s m args below meth c H locs cells slots Q (F0 m (pc + 3) ls (r :: rest))) : W p l e R s m args below meth c H locs cells slots Q (F0 m pc ls st0) := W.callV hr kk
theorem cROv (hr : CallRun p l e R s m args below meth c H locs cells slots 0 0 (F0 m pc ls st0) rest (va_Sv (fun _ => True) a) (fun _ => False)) (kk : W p l e R s m args below meth c H locs cells slots Q (F0 m (pc + 3) ls rest)) : W p l e R s m args below meth c H locs cells slots Q (F0 m pc ls st0) := va_csv hr (fun _ => kk)
end
/-- an empty memory -/
def m00 : Mem := fun _ _ => 0
def adr (l : List Nat) : Nat → Nat := fun i => l.getD i 0
section
variable {p : Program} {l : Launch} {e : Env} {R : Room} {s : State} {m : MethodId} {args : Array Value} {below : List Frame} {meth : Method} {c : Code} {H H0 : Heap} {locs : List Loc} {cells slots : Nat} {Q : State → Prop} {A : Nat → Prop} {D : va_G} {cl : List vw_C} {tys : List (ClassId × FieldType)} {ws : va_W} {pc : Nat} {ls : Array Slot} {rest : List Value} {cc : ByteArray}
/-- a new row of a kind that the tables know already -/
theorem newK {atype : ArrayType} {ty : FieldType} (t0 : Nat) (hexec : p.tables.exec = Jvm.exec) (hb : c.code = cc) (harr : (Cond.arrayClass ty).before args s = true) (hty : newarray.typeOf atype = ty) (hK : va_K D cl tys s) {cA : ClassId} (ht : tys[t0]? = some (cA, ty)) (hP : va_P D cl ws H) (hD : va_D A ws) (hS : va_S A H0 H locs) (hA : ∀ q, H0.size ≤ q → A q)
    {n : Int32} {N' : Nat} (ha : ∀ cB : ClassId, vp_cell cB (N', .inl (fun _ => 0)) = arrV cB N' (fun _ => defaultValue ty)) (hn : ¬ n < 0) (hN : n.toNatClampNeg = N') (hbytes : N' * componentBytes ty ≤ 536870912) (hcells : cells + 1 ≤ R.cells) (hslots : slots + N' ≤ R.slots) (hdg : decode cc pc = .ok (.newarray atype, 2))
    (kk : ∀ (q : Nat) (H1 : Heap), va_P D cl (ws ++ [(q, .inl (cA, N', .inl (fun _ => 0)))]) H1 → va_D A (ws ++ [(q, .inl (cA, N', .inl (fun _ => 0)))]) → va_S A H0 H1 locs →
      W p l e R s m args below meth c H1 locs (cells + 1) (slots + N') Q (F0 m (pc + 2) ls (.ref q :: rest))) : W p l e R s m args below meth c H locs cells slots Q (F0 m pc ls (.int n :: rest)) := by
  subst hty
  refine va_newaK hexec hb harr rfl hdg rfl hn hN hbytes hcells hslots rfl fun H1 cB e1 z1 o1 hAr hNm => ?_
  have hcls : s.vm.findClass ("[" ++ (newarray.typeOf atype).toString) = some cA := by
    have h := (hK.2 t0 _ ht).2
    cases atype <;> exact h
  obtain rfl : cB = cA := Option.some.inj (hNm.symm.trans hcls)
  have hk : ∀ (k : Nat) (x : Nat × va_E), ws[k]? = some x → H1[x.1]? = H[x.1]? := fun k x hx => o1 x.1 ((hP k x hx).lt)
  refine kk H.size H1 ((hP.kept hk).app (fun k x hx => ?_)) (hD.push hP rfl (hA _ hS.1)) ⟨Nat.le_trans hS.1 (by omega), fun x h1 h2 => (o1 x (Nat.lt_of_lt_of_le h1 hS.1)).trans (hS.2.1 x h1 h2), hS.2.2⟩
  have hz : k < 1 := (List.getElem?_eq_some_iff.mp hx).1
  rw [show k = 0 by omega] at hx
  cases hx
  show H1[H.size]? = some (vp_cell _ _)
  rw [ha]
  exact e1
end
theorem fl0 {A : Addr → Prop} : ∀ q ∈ ([] : List Loc), A q.base := fun _ h => absurd h List.not_mem_nil
theorem nw0 {U : State} {A : Array Value} (h : NW U) : (Cond.fieldLinkNest RX8 144 "GlideShelves$State" "goods" "LGlideShelves$Goods;" "GlideShelves").before A U = true := va_Nw.use rfl (h _ (List.mem_of_getElem? (i := 0) rfl))
theorem nw1 {U : State} {A : Array Value} (h : NW U) : (Cond.fieldLinkNest RX8 148 "GlideShelves$Goods" "weights" "[I" "GlideShelves").before A U = true := va_Nw.use rfl (h _ (List.mem_of_getElem? (i := 1) rfl))
theorem nw2 {U : State} {A : Array Value} (h : NW U) : (Cond.fieldLinkNest RX8 155 "GlideShelves$Goods" "filledIn" "[I" "GlideShelves").before A U = true := va_Nw.use rfl (h _ (List.mem_of_getElem? (i := 2) rfl))
theorem nw3 {U : State} {A : Array Value} (h : NW U) : (Cond.fieldLinkNest RX8 167 "GlideShelves$Goods" "takenOut" "[I" "GlideShelves").before A U = true := va_Nw.use rfl (h _ (List.mem_of_getElem? (i := 3) rfl))
theorem nw4 {U : State} {A : Array Value} (h : NW U) : (Cond.fieldLinkNest RX8 179 "GlideShelves$State" "book" "LGlideShelves$OrderBook;" "GlideShelves").before A U = true := va_Nw.use rfl (h _ (List.mem_of_getElem? (i := 4) rfl))
theorem nw5 {U : State} {A : Array Value} (h : NW U) : (Cond.fieldLinkNest RX8 183 "GlideShelves$OrderBook" "count" "I" "GlideShelves").before A U = true := va_Nw.use rfl (h _ (List.mem_of_getElem? (i := 5) rfl))
theorem nw6 {U : State} {A : Array Value} (h : NW U) : (Cond.fieldLinkNest RX8 188 "GlideShelves$OrderText" "reader" "LGlideShelves$OrderReader;" "GlideShelves").before A U = true := va_Nw.use rfl (h _ (List.mem_of_getElem? (i := 6) rfl))
theorem nw7 {U : State} {A : Array Value} (h : NW U) : (Cond.fieldLinkNest RX8 192 "GlideShelves$OrderReader" "numbers" "[I" "GlideShelves").before A U = true := va_Nw.use rfl (h _ (List.mem_of_getElem? (i := 7) rfl))
theorem nw8 {U : State} {A : Array Value} (h : NW U) : (Cond.fieldLinkNest RX8 200 "GlideShelves$OrderText" "length" "I" "GlideShelves").before A U = true := va_Nw.use rfl (h _ (List.mem_of_getElem? (i := 8) rfl))
theorem nw9 {U : State} {A : Array Value} (h : NW U) : (Cond.fieldLinkNest RX8 221 "GlideShelves$Goods" "leasts" "[I" "GlideShelves").before A U = true := va_Nw.use rfl (h _ (List.mem_of_getElem? (i := 9) rfl))
theorem nw10 {U : State} {A : Array Value} (h : NW U) : (Cond.fieldLinkNest RX8 232 "GlideShelves$State" "lift" "LGlideShelves$Lift;" "GlideShelves").before A U = true := va_Nw.use rfl (h _ (List.mem_of_getElem? (i := 10) rfl))
theorem nw11 {U : State} {A : Array Value} (h : NW U) : (Cond.fieldLinkNest RX8 236 "GlideShelves$Lift" "keepsPlaces" "Z" "GlideShelves").before A U = true := va_Nw.use rfl (h _ (List.mem_of_getElem? (i := 11) rfl))
theorem nw12 {U : State} {A : Array Value} (h : NW U) : (Cond.fieldLinkNest RX8 246 "GlideShelves$OrderText" "codes" "[I" "GlideShelves").before A U = true := va_Nw.use rfl (h _ (List.mem_of_getElem? (i := 12) rfl))
theorem nw13 {U : State} {A : Array Value} (h : NW U) : (Cond.fieldLinkNest RX8 274 "GlideShelves$History" "count" "I" "GlideShelves").before A U = true := va_Nw.use rfl (h _ (List.mem_of_getElem? (i := 13) rfl))
theorem nw14 {U : State} {A : Array Value} (h : NW U) : (Cond.fieldLinkNest RX8 275 "GlideShelves$Tower" "places" "[I" "GlideShelves").before A U = true := va_Nw.use rfl (h _ (List.mem_of_getElem? (i := 14) rfl))
theorem nw15 {U : State} {A : Array Value} (h : NW U) : (Cond.fieldLinkNest RX8 278 "GlideShelves$Tower" "uses" "[I" "GlideShelves").before A U = true := va_Nw.use rfl (h _ (List.mem_of_getElem? (i := 15) rfl))
theorem nw16 {U : State} {A : Array Value} (h : NW U) : (Cond.fieldLinkNest RX8 298 "GlideShelves$Lift" "slot" "I" "GlideShelves").before A U = true := va_Nw.use rfl (h _ (List.mem_of_getElem? (i := 16) rfl))
theorem nw17 {U : State} {A : Array Value} (h : NW U) : (Cond.fieldLinkNest RX8 304 "GlideShelves$Lift" "remembered" "I" "GlideShelves").before A U = true := va_Nw.use rfl (h _ (List.mem_of_getElem? (i := 17) rfl))
theorem nw18 {U : State} {A : Array Value} (h : NW U) : (Cond.fieldLinkNest RX8 310 "GlideShelves$Lift" "tripSums" "[I" "GlideShelves").before A U = true := va_Nw.use rfl (h _ (List.mem_of_getElem? (i := 18) rfl))
theorem nw19 {U : State} {A : Array Value} (h : NW U) : (Cond.fieldLinkNest RX8 313 "GlideShelves$Lift" "tripBrought" "[Z" "GlideShelves").before A U = true := va_Nw.use rfl (h _ (List.mem_of_getElem? (i := 19) rfl))
theorem nw20 {U : State} {A : Array Value} (h : NW U) : (Cond.fieldLinkNest RX8 353 "GlideShelves$State" "servedOrders" "I" "GlideShelves").before A U = true := va_Nw.use rfl (h _ (List.mem_of_getElem? (i := 20) rfl))
theorem nw21 {U : State} {A : Array Value} (h : NW U) : (Cond.fieldLinkNest RX8 356 "GlideShelves$Lift" "allTicks" "I" "GlideShelves").before A U = true := va_Nw.use rfl (h _ (List.mem_of_getElem? (i := 21) rfl))
theorem nw22 {U : State} {A : Array Value} (h : NW U) : (Cond.fieldLinkNest RX8 359 "GlideShelves$Lift" "allFetches" "I" "GlideShelves").before A U = true := va_Nw.use rfl (h _ (List.mem_of_getElem? (i := 22) rfl))
theorem nw23 {U : State} {A : Array Value} (h : NW U) : (Cond.fieldLinkNest RX8 44 "GlideShelves$State" "tower" "LGlideShelves$Tower;" "GlideShelves").before A U = true := va_Nw.use rfl (h _ (List.mem_of_getElem? (i := 23) rfl))
theorem nw24 {U : State} {A : Array Value} (h : NW U) : (Cond.fieldLinkNest RX8 48 "GlideShelves$Tower" "count" "I" "GlideShelves").before A U = true := va_Nw.use rfl (h _ (List.mem_of_getElem? (i := 24) rfl))
theorem nw25 {U : State} {A : Array Value} (h : NW U) : (Cond.fieldLinkNest RX8 81 "GlideShelves$Tower" "window" "I" "GlideShelves").before A U = true := va_Nw.use rfl (h _ (List.mem_of_getElem? (i := 25) rfl))
theorem nw26 {U : State} {A : Array Value} (h : NW U) : (Cond.fieldLinkNest RX8 92 "GlideShelves$Tower" "heights" "[I" "GlideShelves").before A U = true := va_Nw.use rfl (h _ (List.mem_of_getElem? (i := 26) rfl))
theorem nw27 {U : State} {A : Array Value} (h : NW U) : (Cond.fieldLinkNest RX6 104 "GlideShelves$Tower" "uses" "[I" "GlideShelves").before A U = true := va_Nw.use rfl (h _ (List.mem_of_getElem? (i := 27) rfl))
theorem nw28 {U : State} {A : Array Value} (h : NW U) : (Cond.fieldLinkNest RX6 107 "GlideShelves$Lift" "keepsPlaces" "Z" "GlideShelves").before A U = true := va_Nw.use rfl (h _ (List.mem_of_getElem? (i := 28) rfl))
theorem nw29 {U : State} {A : Array Value} (h : NW U) : (Cond.fieldLinkNest RX6 111 "GlideShelves$Tower" "heights" "[I" "GlideShelves").before A U = true := va_Nw.use rfl (h _ (List.mem_of_getElem? (i := 29) rfl))
theorem nw30 {U : State} {A : Array Value} (h : NW U) : (Cond.fieldLinkNest RX6 142 "GlideShelves$OrderBook" "wants" "[I" "GlideShelves").before A U = true := va_Nw.use rfl (h _ (List.mem_of_getElem? (i := 30) rfl))
theorem nw31 {U : State} {A : Array Value} (h : NW U) : (Cond.fieldLinkNest RX6 145 "GlideShelves$Goods" "takenOut" "[I" "GlideShelves").before A U = true := va_Nw.use rfl (h _ (List.mem_of_getElem? (i := 31) rfl))
theorem nw32 {U : State} {A : Array Value} (h : NW U) : (Cond.fieldLinkNest RX6 148 "GlideShelves$Lift" "allTicks" "I" "GlideShelves").before A U = true := va_Nw.use rfl (h _ (List.mem_of_getElem? (i := 32) rfl))
theorem nw33 {U : State} {A : Array Value} (h : NW U) : (Cond.fieldLinkNest RX6 169 "GlideShelves$OrderBook" "count" "I" "GlideShelves").before A U = true := va_Nw.use rfl (h _ (List.mem_of_getElem? (i := 33) rfl))
theorem nw34 {U : State} {A : Array Value} (h : NW U) : (Cond.fieldLinkNest RX6 60 "GlideShelves$Goods" "weights" "[I" "GlideShelves").before A U = true := va_Nw.use rfl (h _ (List.mem_of_getElem? (i := 34) rfl))
theorem nw35 {U : State} {A : Array Value} (h : NW U) : (Cond.fieldLinkNest RX6 64 "GlideShelves$Tower" "count" "I" "GlideShelves").before A U = true := va_Nw.use rfl (h _ (List.mem_of_getElem? (i := 35) rfl))
theorem nw36 {U : State} {A : Array Value} (h : NW U) : (Cond.fieldLinkNest RX6 67 "GlideShelves$Tower" "window" "I" "GlideShelves").before A U = true := va_Nw.use rfl (h _ (List.mem_of_getElem? (i := 36) rfl))
theorem nw37 {U : State} {A : Array Value} (h : NW U) : (Cond.fieldLinkNest RX6 70 "GlideShelves$Tower" "places" "[I" "GlideShelves").before A U = true := va_Nw.use rfl (h _ (List.mem_of_getElem? (i := 37) rfl))
theorem nw38 {U : State} {A : Array Value} (h : NW U) : (Cond.fieldLinkNest RX6 77 "GlideShelves$Goods" "leasts" "[I" "GlideShelves").before A U = true := va_Nw.use rfl (h _ (List.mem_of_getElem? (i := 38) rfl))
theorem nw39 {U : State} {A : Array Value} (h : NW U) : (Cond.fieldLinkNest RX6 88 "GlideShelves$Lift" "slot" "I" "GlideShelves").before A U = true := va_Nw.use rfl (h _ (List.mem_of_getElem? (i := 39) rfl))
theorem nw40 {U : State} (h : NW U) : va_Nw (Cond.methodLinkNest RX8 104 yX6_putBack "GlideShelves") U := h _ (List.mem_of_getElem? (i := 40) rfl)
theorem nw41 {U : State} (h : NW U) : va_Nw (Cond.methodLinkNest RX8 11 yX6_init "GlideShelves") U := h _ (List.mem_of_getElem? (i := 41) rfl)
theorem nw42 {U : State} (h : NW U) : va_Nw (Cond.methodLinkNest RX8 141 yX6_weighShelf "GlideShelves") U := h _ (List.mem_of_getElem? (i := 42) rfl)
theorem nw43 {U : State} (h : NW U) : va_Nw (Cond.methodLinkNest RX8 158 yX7_change "GlideShelves") U := h _ (List.mem_of_getElem? (i := 43) rfl)
theorem nw44 {U : State} (h : NW U) : va_Nw (Cond.methodLinkNest RX8 162 yX7_countIn "GlideShelves") U := h _ (List.mem_of_getElem? (i := 44) rfl)
theorem nw45 {U : State} (h : NW U) : va_Nw (Cond.methodLinkNest RX8 170 yX5_isOrder "GlideShelves") U := h _ (List.mem_of_getElem? (i := 45) rfl)
theorem nw46 {U : State} (h : NW U) : va_Nw (Cond.methodLinkNest RX8 197 yX3_add "GlideShelves") U := h _ (List.mem_of_getElem? (i := 46) rfl)
theorem nw47 {U : State} (h : NW U) : va_Nw (Cond.methodLinkNest RX8 206 yX3_sumOf "GlideShelves") U := h _ (List.mem_of_getElem? (i := 47) rfl)
theorem nw48 {U : State} (h : NW U) : va_Nw (Cond.methodLinkNest RX8 21 yX1_init "GlideShelves") U := h _ (List.mem_of_getElem? (i := 48) rfl)
theorem nw49 {U : State} (h : NW U) : va_Nw (Cond.methodLinkNest RX8 216 yX6_serveEach "GlideShelves") U := h _ (List.mem_of_getElem? (i := 49) rfl)
theorem nw50 {U : State} (h : NW U) : va_Nw (Cond.methodLinkNest RX8 265 yX6_copyFrom "GlideShelves") U := h _ (List.mem_of_getElem? (i := 50) rfl)
theorem nw51 {U : State} (h : NW U) : va_Nw (Cond.methodLinkNest RX8 268 yX1_restoreLatest "GlideShelves") U := h _ (List.mem_of_getElem? (i := 51) rfl)
theorem nw52 {U : State} (h : NW U) : va_Nw (Cond.methodLinkNest RX8 28 yX5_init "GlideShelves") U := h _ (List.mem_of_getElem? (i := 52) rfl)
theorem nw53 {U : State} (h : NW U) : va_Nw (Cond.methodLinkNest RX8 281 yX7_holderOf "GlideShelves") U := h _ (List.mem_of_getElem? (i := 53) rfl)
theorem nw54 {U : State} (h : NW U) : va_Nw (Cond.methodLinkNest RX8 286 yX7_countFree "GlideShelves") U := h _ (List.mem_of_getElem? (i := 54) rfl)
theorem nw55 {U : State} (h : NW U) : va_Nw (Cond.methodLinkNest RX8 289 yX7_sumOfHeights "GlideShelves") U := h _ (List.mem_of_getElem? (i := 55) rfl)
theorem nw56 {U : State} (h : NW U) : va_Nw (Cond.methodLinkNest RX8 295 yX7_longestFree "GlideShelves") U := h _ (List.mem_of_getElem? (i := 56) rfl)
theorem nw57 {U : State} (h : NW U) : va_Nw (Cond.methodLinkNest RX8 317 yX7_stockOf "GlideShelves") U := h _ (List.mem_of_getElem? (i := 57) rfl)
theorem nw58 {U : State} (h : NW U) : va_Nw (Cond.methodLinkNest RX8 323 yX6_missing "GlideShelves") U := h _ (List.mem_of_getElem? (i := 58) rfl)
theorem nw59 {U : State} (h : NW U) : va_Nw (Cond.methodLinkNest RX8 326 yX3_wantedOf "GlideShelves") U := h _ (List.mem_of_getElem? (i := 59) rfl)
theorem nw60 {U : State} (h : NW U) : va_Nw (Cond.methodLinkNest RX8 329 yX6_isServable "GlideShelves") U := h _ (List.mem_of_getElem? (i := 60) rfl)
theorem nw61 {U : State} (h : NW U) : va_Nw (Cond.methodLinkNest RX8 332 yX6_choice "GlideShelves") U := h _ (List.mem_of_getElem? (i := 61) rfl)
theorem nw62 {U : State} (h : NW U) : va_Nw (Cond.methodLinkNest RX8 368 yX6_findHeaviest "GlideShelves") U := h _ (List.mem_of_getElem? (i := 62) rfl)
theorem nw63 {U : State} (h : NW U) : va_Nw (Cond.methodLinkNest RX8 371 yX7_mostUsed "GlideShelves") U := h _ (List.mem_of_getElem? (i := 63) rfl)
theorem nw64 {U : State} (h : NW U) : va_Nw (Cond.methodLinkNest RX8 454 yX7_helps "GlideShelves") U := h _ (List.mem_of_getElem? (i := 64) rfl)
theorem nw65 {U : State} (h : NW U) : va_Nw (Cond.methodLinkNest RX8 458 yX7_lend "GlideShelves") U := h _ (List.mem_of_getElem? (i := 65) rfl)
theorem nw66 {U : State} (h : NW U) : va_Nw (Cond.methodLinkNest RX8 64 yX7_firstFree "GlideShelves") U := h _ (List.mem_of_getElem? (i := 66) rfl)
theorem nw67 {U : State} (h : NW U) : va_Nw (Cond.methodLinkNest RX8 70 yX1_save "GlideShelves") U := h _ (List.mem_of_getElem? (i := 67) rfl)
theorem nw68 {U : State} (h : NW U) : va_Nw (Cond.methodLinkNest RX8 74 yX7_addAt "GlideShelves") U := h _ (List.mem_of_getElem? (i := 68) rfl)
theorem nw69 {U : State} (h : NW U) : va_Nw (Cond.methodLinkNest RX8 86 yX7_isEmpty "GlideShelves") U := h _ (List.mem_of_getElem? (i := 69) rfl)
theorem nw70 {U : State} (h : NW U) : va_Nw (Cond.methodLinkNest RX8 95 yX7_remove "GlideShelves") U := h _ (List.mem_of_getElem? (i := 70) rfl)
theorem nw71 {U : State} (h : NW U) : va_Nw (Cond.methodLinkNest RX8 98 yX6_bring "GlideShelves") U := h _ (List.mem_of_getElem? (i := 71) rfl)
theorem nw72 {U : State} (h : NW U) : va_Nw (Cond.methodLinkNest RX1 27 yX6_init "GlideShelves") U := h _ (List.mem_of_getElem? (i := 72) rfl)
theorem nw73 {U : State} (h : NW U) : va_Nw (Cond.methodLinkNest RX1 28 yX6_copyFrom "GlideShelves") U := h _ (List.mem_of_getElem? (i := 73) rfl)
theorem nw74 {U : State} (h : NW U) : va_Nw (Cond.methodLinkNest RX5 21 yX4_init "GlideShelves") U := h _ (List.mem_of_getElem? (i := 74) rfl)
theorem nw75 {U : State} (h : NW U) : va_Nw (Cond.methodLinkNest RX5 26 yX4_begin "GlideShelves") U := h _ (List.mem_of_getElem? (i := 75) rfl)
theorem nw76 {U : State} (h : NW U) : va_Nw (Cond.methodLinkNest RX5 29 yX4_read "GlideShelves") U := h _ (List.mem_of_getElem? (i := 76) rfl)
theorem nw77 {U : State} (h : NW U) : va_Nw (Cond.methodLinkNest RX5 37 yX4_isAtEnd "GlideShelves") U := h _ (List.mem_of_getElem? (i := 77) rfl)
theorem nw78 {U : State} (h : NW U) : va_Nw (Cond.methodLinkNest RX6 100 yX2_go "GlideShelves") U := h _ (List.mem_of_getElem? (i := 78) rfl)
theorem nw79 {U : State} (h : NW U) : va_Nw (Cond.methodLinkNest RX6 11 yX7_init "GlideShelves") U := h _ (List.mem_of_getElem? (i := 79) rfl)
theorem nw80 {U : State} (h : NW U) : va_Nw (Cond.methodLinkNest RX6 114 yX7_firstFree "GlideShelves") U := h _ (List.mem_of_getElem? (i := 80) rfl)
theorem nw81 {U : State} (h : NW U) : va_Nw (Cond.methodLinkNest RX6 124 yX3_wantedOf "GlideShelves") U := h _ (List.mem_of_getElem? (i := 81) rfl)
theorem nw82 {U : State} (h : NW U) : va_Nw (Cond.methodLinkNest RX6 138 yX7_change "GlideShelves") U := h _ (List.mem_of_getElem? (i := 82) rfl)
theorem nw83 {U : State} (h : NW U) : va_Nw (Cond.methodLinkNest RX6 165 yX3_remove "GlideShelves") U := h _ (List.mem_of_getElem? (i := 83) rfl)
theorem nw84 {U : State} (h : NW U) : va_Nw (Cond.methodLinkNest RX6 20 yX2_init "GlideShelves") U := h _ (List.mem_of_getElem? (i := 84) rfl)
theorem nw85 {U : State} (h : NW U) : va_Nw (Cond.methodLinkNest RX6 27 yX0_init "GlideShelves") U := h _ (List.mem_of_getElem? (i := 85) rfl)
theorem nw86 {U : State} (h : NW U) : va_Nw (Cond.methodLinkNest RX6 34 yX3_init "GlideShelves") U := h _ (List.mem_of_getElem? (i := 86) rfl)
theorem nw87 {U : State} (h : NW U) : va_Nw (Cond.methodLinkNest RX6 43 yX7_copyFrom "GlideShelves") U := h _ (List.mem_of_getElem? (i := 87) rfl)
theorem nw88 {U : State} (h : NW U) : va_Nw (Cond.methodLinkNest RX6 47 yX2_copyFrom "GlideShelves") U := h _ (List.mem_of_getElem? (i := 88) rfl)
theorem nw89 {U : State} (h : NW U) : va_Nw (Cond.methodLinkNest RX6 50 yX0_copyFrom "GlideShelves") U := h _ (List.mem_of_getElem? (i := 89) rfl)
theorem nw90 {U : State} (h : NW U) : va_Nw (Cond.methodLinkNest RX6 53 yX3_copyFrom "GlideShelves") U := h _ (List.mem_of_getElem? (i := 90) rfl)
theorem nw91 {U : State} (h : NW U) : va_Nw (Cond.methodLinkNest RX6 56 yX7_countIn "GlideShelves") U := h _ (List.mem_of_getElem? (i := 91) rfl)
theorem nw92 {U : State} (h : NW U) : va_Nw (Cond.methodLinkNest RX6 80 yX7_stockOf "GlideShelves") U := h _ (List.mem_of_getElem? (i := 92) rfl)
theorem nw93 {U : State} (h : NW U) : va_Nw (Cond.methodLinkNest RX6 94 yX7_wayOf "GlideShelves") U := h _ (List.mem_of_getElem? (i := 93) rfl)
theorem nc58 {U : State} (h : NW U) : va_Nw (Cond.castable "java/lang/IllegalStateException" "java/lang/IllegalStateException") U := h _ (List.mem_of_getElem? (i := 94) rfl)
theorem nc178 {U : State} (h : NW U) : va_Nw (Cond.castable "java/lang/IllegalArgumentException" "java/lang/IllegalArgumentException") U := h _ (List.mem_of_getElem? (i := 95) rfl)
theorem nc422 {U : State} (h : NW U) : va_Nw (Cond.castable "java/lang/IndexOutOfBoundsException" "java/lang/IndexOutOfBoundsException") U := h _ (List.mem_of_getElem? (i := 96) rfl)
theorem nd0 {U : State} (h : NW U) : va_Nw (Cond.declares (Bundle.initS "java/lang/RuntimeException")) U := h _ (List.mem_of_getElem? (i := 97) rfl)
theorem nd1 {U : State} (h : NW U) : va_Nw (Cond.declares (Bundle.initS "java/lang/Exception")) U := h _ (List.mem_of_getElem? (i := 98) rfl)
theorem nd2 {U : State} (h : NW U) : va_Nw (Cond.declares (Bundle.initS Bundle.tN)) U := h _ (List.mem_of_getElem? (i := 99) rfl)
