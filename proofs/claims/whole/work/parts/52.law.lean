theorem lst {l : Launch} (h : l.flags = flags0) : l.stackTraces = false := by
  unfold Launch.stackTraces
  rw [h]
  rfl
section
variable {p : Program} {l : Launch} {e : Env} {R : Room} {s : State} {m : MethodId} {args : Array Value} {below : List Frame} {meth : Method} {c : Code} {H H0 : Heap} {locs : List Loc} {cells slots : Nat} {Q : State → Prop} {A : Nat → Prop} {D : va_G} {cl : List vw_C} {tys : List (ClassId × FieldType)} {ws : va_W} {pc : Nat} {ls : Array Slot} {rest : List Value} {cc : ByteArray}
theorem newKL {cL : ClassId} (t0 : Nat) (hexec : p.tables.exec = Jvm.exec) (hb : c.code = cc) (harr : (Cond.arrayClass .long).before args s = true) (hK : va_K D cl tys s) (ht : tys[t0]? = some (cL, .long)) (hP : va_P D cl ws H) (hD : va_D A ws) (hS : va_S A H0 H locs) (hA : ∀ q, H0.size ≤ q → A q)
    {n : Int32} {N' : Nat} (hn : ¬ n < 0) (hN : n.toNatClampNeg = N') (hcells : cells + 1 ≤ R.cells) (hslots : slots + N' ≤ R.slots) (hbytes : N' * 8 ≤ 536870912 := by decide) (hdg : decode cc pc = .ok (.newarray .long, 2))
    (kk : ∀ (q : Nat) (H1 : Heap), va_P D cl (ws ++ [(q, .inl (cL, N', .inr (.inl (fun _ => 0))))]) H1 → va_D A (ws ++ [(q, .inl (cL, N', .inr (.inl (fun _ => 0))))]) → va_S A H0 H1 locs →
      W p l e R s m args below meth c H1 locs (cells + 1) (slots + N') Q (F0 m (pc + 2) ls (.ref q :: rest))) : W p l e R s m args below meth c H locs cells slots Q (F0 m pc ls (.int n :: rest)) := by
  refine va_newaK (atype := .long) hexec hb harr rfl hdg rfl hn hN hbytes hcells hslots rfl fun H1 cB e1 z1 o1 hAr hNm => ?_
  obtain rfl : cB = cL := Option.some.inj (hNm.symm.trans (hK.2 t0 _ ht).2)
  have hk : ∀ (k : Nat) (x : Nat × va_E), ws[k]? = some x → H1[x.1]? = H[x.1]? := fun k x hx => o1 x.1 ((hP k x hx).lt)
  refine kk H.size H1 ((hP.kept hk).app (fun k x hx => ?_)) (hD.push hP rfl (hA _ hS.1)) ⟨Nat.le_trans hS.1 (by omega), fun x h1 h2 => (o1 x (Nat.lt_of_lt_of_le h1 hS.1)).trans (hS.2.1 x h1 h2), hS.2.2⟩
  have hz : k < 1 := (List.getElem?_eq_some_iff.mp hx).1
  rw [show k = 0 by omega] at hx
  cases hx
  exact e1
end
theorem nw_in : ∀ w ∈ nwAll, w ∈ lw_tbl := by
  show ∀ w ∈ nwAll, w ∈ k2_sels lw_privs ++ tables_1
  unfold nwAll
  exact List.forall_mem_cons.mpr ⟨List.mem_append_right _ (List.mem_of_getElem? (i := 157) (by decide +kernel)), List.forall_mem_cons.mpr ⟨List.mem_append_right _ (List.mem_of_getElem? (i := 118) (by decide +kernel)), List.forall_mem_cons.mpr ⟨List.mem_append_right _ (List.mem_of_getElem? (i := 123) (by decide +kernel)), List.forall_mem_cons.mpr ⟨List.mem_append_right _ (List.mem_of_getElem? (i := 125) (by decide +kernel)), List.forall_mem_cons.mpr ⟨List.mem_append_right _ (List.mem_of_getElem? (i := 159) (by decide +kernel)), List.forall_mem_cons.mpr ⟨List.mem_append_right _ (List.mem_of_getElem? (i := 143) (by decide +kernel)), List.forall_mem_cons.mpr ⟨List.mem_append_right _ (List.mem_of_getElem? (i := 221) (by decide +kernel)), List.forall_mem_cons.mpr ⟨List.mem_append_right _ (List.mem_of_getElem? (i := 208) (by decide +kernel)), List.forall_mem_cons.mpr ⟨List.mem_append_right _ (List.mem_of_getElem? (i := 217) (by decide +kernel)), List.forall_mem_cons.mpr ⟨List.mem_append_right _ (List.mem_of_getElem? (i := 121) (by decide +kernel)), List.forall_mem_cons.mpr ⟨List.mem_append_right _ (List.mem_of_getElem? (i := 155) (by decide +kernel)), List.forall_mem_cons.mpr ⟨List.mem_append_right _ (List.mem_of_getElem? (i := 82) (by decide +kernel)), List.forall_mem_cons.mpr ⟨List.mem_append_right _ (List.mem_of_getElem? (i := 219) (by decide +kernel)), List.forall_mem_cons.mpr ⟨List.mem_append_right _ (List.mem_of_getElem? (i := 185) (by decide +kernel)), List.forall_mem_cons.mpr ⟨List.mem_append_right _ (List.mem_of_getElem? (i := 182) (by decide +kernel)), List.forall_mem_cons.mpr ⟨List.mem_append_right _ (List.mem_of_getElem? (i := 52) (by decide +kernel)), List.forall_mem_cons.mpr ⟨List.mem_append_right _ (List.mem_of_getElem? (i := 55) (by decide +kernel)), List.forall_mem_cons.mpr ⟨List.mem_append_right _ (List.mem_of_getElem? (i := 79) (by decide +kernel)), List.forall_mem_cons.mpr ⟨List.mem_append_right _ (List.mem_of_getElem? (i := 89) (by decide +kernel)), List.forall_mem_cons.mpr ⟨List.mem_append_right _ (List.mem_of_getElem? (i := 91) (by decide +kernel)), List.forall_mem_cons.mpr ⟨List.mem_append_right _ (List.mem_of_getElem? (i := 93) (by decide +kernel)), List.forall_mem_cons.mpr ⟨List.mem_append_right _ (List.mem_of_getElem? (i := 161) (by decide +kernel)), List.forall_mem_cons.mpr ⟨List.mem_append_right _ (List.mem_of_getElem? (i := 85) (by decide +kernel)), List.forall_mem_cons.mpr ⟨List.mem_append_right _ (List.mem_of_getElem? (i := 87) (by decide +kernel)), List.forall_mem_cons.mpr ⟨List.mem_append_right _ (List.mem_of_getElem? (i := 153) (by decide +kernel)), List.forall_mem_cons.mpr ⟨List.mem_append_right _ (List.mem_of_getElem? (i := 42) (by decide +kernel)), List.forall_mem_cons.mpr ⟨List.mem_append_right _ (List.mem_of_getElem? (i := 45) (by decide +kernel)), List.forall_mem_cons.mpr ⟨List.mem_append_right _ (List.mem_of_getElem? (i := 48) (by decide +kernel)), List.forall_mem_cons.mpr ⟨List.mem_append_right _ (List.mem_of_getElem? (i := 54) (by decide +kernel)), List.forall_mem_cons.mpr ⟨List.mem_append_right _ (List.mem_of_getElem? (i := 81) (by decide +kernel)), List.forall_mem_cons.mpr ⟨List.mem_append_right _ (List.mem_of_getElem? (i := 49) (by decide +kernel)), List.forall_mem_cons.mpr ⟨List.mem_append_right _ (List.mem_of_getElem? (i := 146) (by decide +kernel)), List.forall_mem_cons.mpr ⟨List.mem_append_right _ (List.mem_of_getElem? (i := 126) (by decide +kernel)), List.forall_mem_cons.mpr ⟨List.mem_append_right _ (List.mem_of_getElem? (i := 84) (by decide +kernel)), List.forall_mem_cons.mpr ⟨List.mem_append_right _ (List.mem_of_getElem? (i := 144) (by decide +kernel)), List.forall_mem_cons.mpr ⟨List.mem_append_right _ (List.mem_of_getElem? (i := 117) (by decide +kernel)), List.forall_mem_cons.mpr ⟨List.mem_append_right _ (List.mem_of_getElem? (i := 43) (by decide +kernel)), List.forall_mem_cons.mpr ⟨List.mem_append_right _ (List.mem_of_getElem? (i := 46) (by decide +kernel)), List.forall_mem_cons.mpr ⟨List.mem_append_right _ (List.mem_of_getElem? (i := 51) (by decide +kernel)), List.forall_mem_cons.mpr ⟨List.mem_append_right _ (List.mem_of_getElem? (i := 120) (by decide +kernel)), List.forall_mem_cons.mpr ⟨List.mem_append_right _ (List.mem_of_getElem? (i := 78) (by decide +kernel)), List.forall_mem_cons.mpr ⟨List.mem_append_right _ (List.mem_of_getElem? (i := 880) (by decide +kernel)), List.forall_mem_cons.mpr ⟨List.mem_append_right _ (List.mem_of_getElem? (i := 31) (by decide +kernel)), List.forall_mem_cons.mpr ⟨List.mem_append_right _ (List.mem_of_getElem? (i := 893) (by decide +kernel)), List.forall_mem_cons.mpr ⟨List.mem_append_right _ (List.mem_of_getElem? (i := 894) (by decide +kernel)), List.forall_mem_cons.mpr ⟨List.mem_append_right _ (List.mem_of_getElem? (i := 896) (by decide +kernel)), List.forall_mem_cons.mpr ⟨List.mem_append_right _ (List.mem_of_getElem? (i := 914) (by decide +kernel)), List.forall_mem_cons.mpr ⟨List.mem_append_right _ (List.mem_of_getElem? (i := 918) (by decide +kernel)), List.forall_mem_cons.mpr ⟨List.mem_append_right _ (List.mem_of_getElem? (i := 544) (by decide +kernel)), List.forall_mem_cons.mpr ⟨List.mem_append_right _ (List.mem_of_getElem? (i := 935) (by decide +kernel)), List.forall_mem_cons.mpr ⟨List.mem_append_right _ (List.mem_of_getElem? (i := 539) (by decide +kernel)), List.forall_mem_cons.mpr ⟨List.mem_append_right _ (List.mem_of_getElem? (i := 951) (by decide +kernel)), List.forall_mem_cons.mpr ⟨List.mem_append_right _ (List.mem_of_getElem? (i := 962) (by decide +kernel)), List.forall_mem_cons.mpr ⟨List.mem_append_right _ (List.mem_of_getElem? (i := 973) (by decide +kernel)), List.forall_mem_cons.mpr ⟨List.mem_append_right _ (List.mem_of_getElem? (i := 978) (by decide +kernel)), List.forall_mem_cons.mpr ⟨List.mem_append_right _ (List.mem_of_getElem? (i := 175) (by decide +kernel)), List.forall_mem_cons.mpr ⟨List.mem_append_right _ (List.mem_of_getElem? (i := 712) (by decide +kernel)), List.forall_mem_cons.mpr ⟨List.mem_append_right _ (List.mem_of_getElem? (i := 998) (by decide +kernel)), List.forall_mem_cons.mpr ⟨List.mem_append_right _ (List.mem_of_getElem? (i := 1024) (by decide +kernel)), List.forall_mem_cons.mpr ⟨List.mem_append_right _ (List.mem_of_getElem? (i := 294) (by decide +kernel)), List.forall_mem_cons.mpr ⟨List.mem_append_right _ (List.mem_of_getElem? (i := 1050) (by decide +kernel)), List.forall_mem_cons.mpr ⟨List.mem_append_right _ (List.mem_of_getElem? (i := 711) (by decide +kernel)), List.forall_mem_cons.mpr ⟨List.mem_append_right _ (List.mem_of_getElem? (i := 1069) (by decide +kernel)), List.forall_mem_cons.mpr ⟨List.mem_append_right _ (List.mem_of_getElem? (i := 195) (by decide +kernel)), List.forall_mem_cons.mpr ⟨List.mem_append_right _ (List.mem_of_getElem? (i := 557) (by decide +kernel)), List.forall_mem_cons.mpr ⟨List.mem_append_right _ (List.mem_of_getElem? (i := 330) (by decide +kernel)), List.forall_mem_cons.mpr ⟨List.mem_append_right _ (List.mem_of_getElem? (i := 348) (by decide +kernel)), List.forall_mem_cons.mpr ⟨List.mem_append_right _ (List.mem_of_getElem? (i := 579) (by decide +kernel)), List.forall_mem_cons.mpr ⟨List.mem_append_right _ (List.mem_of_getElem? (i := 624) (by decide +kernel)), List.forall_mem_cons.mpr ⟨List.mem_append_right _ (List.mem_of_getElem? (i := 598) (by decide +kernel)), List.forall_mem_cons.mpr ⟨List.mem_append_right _ (List.mem_of_getElem? (i := 607) (by decide +kernel)), List.forall_mem_cons.mpr ⟨List.mem_append_right _ (List.mem_of_getElem? (i := 368) (by decide +kernel)), List.forall_mem_cons.mpr ⟨List.mem_append_right _ (List.mem_of_getElem? (i := 661) (by decide +kernel)), List.forall_mem_cons.mpr ⟨List.mem_append_right _ (List.mem_of_getElem? (i := 665) (by decide +kernel)), List.forall_mem_cons.mpr ⟨List.mem_append_right _ (List.mem_of_getElem? (i := 674) (by decide +kernel)), List.forall_mem_cons.mpr ⟨List.mem_append_right _ (List.mem_of_getElem? (i := 1232) (by decide +kernel)), List.forall_mem_cons.mpr ⟨List.mem_append_right _ (List.mem_of_getElem? (i := 1258) (by decide +kernel)), List.forall_mem_cons.mpr ⟨List.mem_append_right _ (List.mem_of_getElem? (i := 765) (by decide +kernel)), List.forall_mem_cons.mpr ⟨List.mem_append_right _ (List.mem_of_getElem? (i := 769) (by decide +kernel)), List.forall_mem_cons.mpr ⟨List.mem_append_right _ (List.mem_of_getElem? (i := 403) (by decide +kernel)), List.forall_mem_cons.mpr ⟨List.mem_append_right _ (List.mem_of_getElem? (i := 414) (by decide +kernel)), List.forall_mem_cons.mpr ⟨List.mem_append_right _ (List.mem_of_getElem? (i := 908) (by decide +kernel)), List.forall_mem_cons.mpr ⟨List.mem_append_right _ (List.mem_of_getElem? (i := 699) (by decide +kernel)), List.forall_mem_cons.mpr ⟨List.mem_append_right _ (List.mem_of_getElem? (i := 703) (by decide +kernel)), List.forall_mem_cons.mpr ⟨List.mem_append_right _ (List.mem_of_getElem? (i := 563) (by decide +kernel)), List.forall_mem_cons.mpr ⟨List.mem_append_right _ (List.mem_of_getElem? (i := 252) (by decide +kernel)), List.forall_mem_cons.mpr ⟨List.mem_append_right _ (List.mem_of_getElem? (i := 838) (by decide +kernel)), List.forall_mem_cons.mpr ⟨List.mem_append_right _ (List.mem_of_getElem? (i := 851) (by decide +kernel)), List.forall_mem_cons.mpr ⟨List.mem_append_right _ (List.mem_of_getElem? (i := 856) (by decide +kernel)), List.forall_mem_cons.mpr ⟨List.mem_append_right _ (List.mem_of_getElem? (i := 867) (by decide +kernel)), List.forall_mem_cons.mpr ⟨List.mem_append_right _ (List.mem_of_getElem? (i := 260) (by decide +kernel)), List.forall_mem_cons.mpr ⟨List.mem_append_right _ (List.mem_of_getElem? (i := 261) (by decide +kernel)), List.forall_mem_cons.mpr ⟨List.mem_append_right _ (List.mem_of_getElem? (i := 201) (by decide +kernel)), List.forall_mem_cons.mpr ⟨List.mem_append_right _ (List.mem_of_getElem? (i := 298) (by decide +kernel)), List.forall_mem_cons.mpr ⟨List.mem_append_right _ (List.mem_of_getElem? (i := 302) (by decide +kernel)), List.forall_mem_cons.mpr ⟨List.mem_append_right _ (List.mem_of_getElem? (i := 956) (by decide +kernel)), List.forall_mem_cons.mpr ⟨List.mem_append_right _ (List.mem_of_getElem? (i := 729) (by decide +kernel)), List.forall_mem_cons.mpr ⟨List.mem_append_right _ (List.mem_of_getElem? (i := 37) (by decide +kernel)), List.forall_mem_cons.mpr ⟨List.mem_append_right _ (List.mem_of_getElem? (i := 749) (by decide +kernel)), List.forall_mem_cons.mpr ⟨List.mem_append_right _ (List.mem_of_getElem? (i := 673) (by decide +kernel)), List.forall_mem_cons.mpr ⟨List.mem_append_right _ (List.mem_of_getElem? (i := 741) (by decide +kernel)), List.forall_mem_cons.mpr ⟨List.mem_append_right _ (List.mem_of_getElem? (i := 754) (by decide +kernel)), List.forall_mem_cons.mpr ⟨List.mem_append_right _ (List.mem_of_getElem? (i := 73) (by decide +kernel)), List.forall_mem_cons.mpr ⟨List.mem_append_right _ (List.mem_of_getElem? (i := 112) (by decide +kernel)), List.forall_mem_cons.mpr ⟨List.mem_append_right _ (List.mem_of_getElem? (i := 138) (by decide +kernel)), List.forall_mem_cons.mpr ⟨List.mem_append_right _ (List.mem_of_getElem? (i := 265) (by decide +kernel)), List.forall_mem_cons.mpr ⟨List.mem_append_right _ (List.mem_of_getElem? (i := 272) (by decide +kernel)), List.forall_mem_cons.mpr ⟨List.mem_append_right _ (List.mem_of_getElem? (i := 276) (by decide +kernel)), List.forall_mem_cons.mpr ⟨List.mem_append_right _ (List.mem_of_getElem? (i := 281) (by decide +kernel)), List.forall_mem_cons.mpr ⟨List.mem_append_right _ (List.mem_of_getElem? (i := 548) (by decide +kernel)), List.forall_mem_cons.mpr ⟨List.mem_append_right _ (List.mem_of_getElem? (i := 372) (by decide +kernel)), List.forall_mem_cons.mpr ⟨List.mem_append_right _ (List.mem_of_getElem? (i := 728) (by decide +kernel)), List.forall_mem_cons.mpr ⟨List.mem_append_right _ (List.mem_of_getElem? (i := 818) (by decide +kernel)), List.forall_mem_cons.mpr ⟨List.mem_append_right _ (List.mem_of_getElem? (i := 802) (by decide +kernel)), List.forall_mem_cons.mpr ⟨List.mem_append_right _ (List.mem_of_getElem? (i := 449) (by decide +kernel)), List.forall_mem_cons.mpr ⟨List.mem_append_right _ (List.mem_of_getElem? (i := 451) (by decide +kernel)), List.forall_mem_cons.mpr ⟨List.mem_append_right _ (List.mem_of_getElem? (i := 453) (by decide +kernel)), List.forall_mem_cons.mpr ⟨List.mem_append_right _ (List.mem_of_getElem? (i := 455) (by decide +kernel)), fun _ h => absurd h List.not_mem_nil⟩⟩⟩⟩⟩⟩⟩⟩⟩⟩⟩⟩⟩⟩⟩⟩⟩⟩⟩⟩⟩⟩⟩⟩⟩⟩⟩⟩⟩⟩⟩⟩⟩⟩⟩⟩⟩⟩⟩⟩⟩⟩⟩⟩⟩⟩⟩⟩⟩⟩⟩⟩⟩⟩⟩⟩⟩⟩⟩⟩⟩⟩⟩⟩⟩⟩⟩⟩⟩⟩⟩⟩⟩⟩⟩⟩⟩⟩⟩⟩⟩⟩⟩⟩⟩⟩⟩⟩⟩⟩⟩⟩⟩⟩⟩⟩⟩⟩⟩⟩⟩⟩⟩⟩⟩⟩⟩⟩⟩⟩⟩⟩⟩⟩⟩⟩⟩⟩
theorem strs_in : ∀ q ∈ strs8, Cond.stringRef q.1 q.2.1 q.2.2 ∈ lw_tbl := by
  show ∀ q ∈ strs8, Cond.stringRef q.1 q.2.1 q.2.2 ∈ k2_sels lw_privs ++ tables_1
  unfold strs8
  exact List.forall_mem_cons.mpr ⟨List.mem_append_right _ (List.mem_of_getElem? (i := 825) (by decide +kernel)), List.forall_mem_cons.mpr ⟨List.mem_append_right _ (List.mem_of_getElem? (i := 837) (by decide +kernel)), List.forall_mem_cons.mpr ⟨List.mem_append_right _ (List.mem_of_getElem? (i := 850) (by decide +kernel)), List.forall_mem_cons.mpr ⟨List.mem_append_right _ (List.mem_of_getElem? (i := 855) (by decide +kernel)), List.forall_mem_cons.mpr ⟨List.mem_append_right _ (List.mem_of_getElem? (i := 895) (by decide +kernel)), List.forall_mem_cons.mpr ⟨List.mem_append_right _ (List.mem_of_getElem? (i := 934) (by decide +kernel)), List.forall_mem_cons.mpr ⟨List.mem_append_right _ (List.mem_of_getElem? (i := 943) (by decide +kernel)), List.forall_mem_cons.mpr ⟨List.mem_append_right _ (List.mem_of_getElem? (i := 960) (by decide +kernel)), List.forall_mem_cons.mpr ⟨List.mem_append_right _ (List.mem_of_getElem? (i := 961) (by decide +kernel)), List.forall_mem_cons.mpr ⟨List.mem_append_right _ (List.mem_of_getElem? (i := 1015) (by decide +kernel)), List.forall_mem_cons.mpr ⟨List.mem_append_right _ (List.mem_of_getElem? (i := 1023) (by decide +kernel)), List.forall_mem_cons.mpr ⟨List.mem_append_right _ (List.mem_of_getElem? (i := 1028) (by decide +kernel)), List.forall_mem_cons.mpr ⟨List.mem_append_right _ (List.mem_of_getElem? (i := 1036) (by decide +kernel)), List.forall_mem_cons.mpr ⟨List.mem_append_right _ (List.mem_of_getElem? (i := 1037) (by decide +kernel)), List.forall_mem_cons.mpr ⟨List.mem_append_right _ (List.mem_of_getElem? (i := 1061) (by decide +kernel)), List.forall_mem_cons.mpr ⟨List.mem_append_right _ (List.mem_of_getElem? (i := 1073) (by decide +kernel)), List.forall_mem_cons.mpr ⟨List.mem_append_right _ (List.mem_of_getElem? (i := 1123) (by decide +kernel)), List.forall_mem_cons.mpr ⟨List.mem_append_right _ (List.mem_of_getElem? (i := 1231) (by decide +kernel)), List.forall_mem_cons.mpr ⟨List.mem_append_right _ (List.mem_of_getElem? (i := 1243) (by decide +kernel)), List.forall_mem_cons.mpr ⟨List.mem_append_right _ (List.mem_of_getElem? (i := 809) (by decide +kernel)), List.forall_mem_cons.mpr ⟨List.mem_append_right _ (List.mem_of_getElem? (i := 933) (by decide +kernel)), List.forall_mem_cons.mpr ⟨List.mem_append_right _ (List.mem_of_getElem? (i := 1049) (by decide +kernel)), List.forall_mem_cons.mpr ⟨List.mem_append_right _ (List.mem_of_getElem? (i := 488) (by decide +kernel)), List.forall_mem_cons.mpr ⟨List.mem_append_right _ (List.mem_of_getElem? (i := 578) (by decide +kernel)), List.forall_mem_cons.mpr ⟨List.mem_append_right _ (List.mem_of_getElem? (i := 892) (by decide +kernel)), List.forall_mem_cons.mpr ⟨List.mem_append_right _ (List.mem_of_getElem? (i := 538) (by decide +kernel)), List.forall_mem_cons.mpr ⟨List.mem_append_right _ (List.mem_of_getElem? (i := 660) (by decide +kernel)), List.forall_mem_cons.mpr ⟨List.mem_append_right _ (List.mem_of_getElem? (i := 642) (by decide +kernel)), List.forall_mem_cons.mpr ⟨List.mem_append_right _ (List.mem_of_getElem? (i := 836) (by decide +kernel)), List.forall_mem_cons.mpr ⟨List.mem_append_right _ (List.mem_of_getElem? (i := 879) (by decide +kernel)), List.forall_mem_cons.mpr ⟨List.mem_append_right _ (List.mem_of_getElem? (i := 1270) (by decide +kernel)), List.forall_mem_cons.mpr ⟨List.mem_append_right _ (List.mem_of_getElem? (i := 990) (by decide +kernel)), List.forall_mem_cons.mpr ⟨List.mem_append_right _ (List.mem_of_getElem? (i := 913) (by decide +kernel)), fun _ h => absurd h List.not_mem_nil⟩⟩⟩⟩⟩⟩⟩⟩⟩⟩⟩⟩⟩⟩⟩⟩⟩⟩⟩⟩⟩⟩⟩⟩⟩⟩⟩⟩⟩⟩⟩⟩⟩
theorem tw {w : Cond} {args : Array Value} {s : State} (hts : ∀ w ∈ lw_tbl, w.before args s = true) (h : w ∈ k2_sels lw_privs ++ tables_1) : w.before args s = true := hts w h
theorem ty_prim {args : Array Value} {s : State} {ty : FieldType} (hp : ∀ cA : ClassId, s.vm.findClass ("[" ++ ty.toString) = some cA → va_RA s cA ty) (h : (Cond.arrayClass ty).before args s = true) : ∃ cA : ClassId, ArrOfT s cA ty ∧ va_RA s cA ty := by
  obtain ⟨cA, k, comp, h1, h2, h3⟩ := Cond.arrayClass_spec h
  exact ⟨cA, fun n z => ⟨fun k h => (by cases h), k, h2, comp, h3⟩, hp cA h1⟩
theorem law_pre {s : State} {b : Nat} (hts : ∀ w ∈ lw_tbl, w.before #[Value.ref b] s = true) (hgv : (Jvm.Cond.and given_1 narrow_1).before #[Value.ref b] s = true) : ∃ (dC : Nat → ClassId) (dI : Nat → Nat → Nat) (cI cZ cS cL : ClassId), va_K (dC, dI) vwCl (tys9 cI cZ cS cL) s ∧ NW s ∧ EX (fun q : Nat => s.heap.size ≤ q) s s.heap ∧ NC s ∧ va_AO "GlideShelves$State" s := by
  obtain ⟨c0, iS0, hKn0⟩ := u_known (C := RX0) (T := TX0) (N := 4) (n := 4) hts cinX0 (tw hts (List.mem_append_right _ (List.mem_of_getElem? (i := 111) (by decide +kernel))))
  obtain ⟨c1, iS1, hKn1⟩ := u_known (C := RX1) (T := TX1) (N := 3) (n := 3) hts cinX1 (tw hts (List.mem_append_right _ (List.mem_of_getElem? (i := 174) (by decide +kernel))))
  obtain ⟨c2, iS2, hKn2⟩ := u_known (C := RX2) (T := TX2) (N := 7) (n := 7) hts cinX2 (tw hts (List.mem_append_right _ (List.mem_of_getElem? (i := 72) (by decide +kernel))))
  obtain ⟨c3, iS3, hKn3⟩ := u_known (C := RX3) (T := TX3) (N := 2) (n := 2) hts cinX3 (tw hts (List.mem_append_right _ (List.mem_of_getElem? (i := 137) (by decide +kernel))))
  obtain ⟨c4, iS4, hKn4⟩ := u_known (C := RX4) (T := TX4) (N := 3) (n := 3) hts cinX4 (tw hts (List.mem_append_right _ (List.mem_of_getElem? (i := 200) (by decide +kernel))))
  obtain ⟨c5, iS5, hKn5⟩ := u_known (C := RX5) (T := TX5) (N := 3) (n := 3) hts cinX5 (tw hts (List.mem_append_right _ (List.mem_of_getElem? (i := 194) (by decide +kernel))))
  obtain ⟨c6, iS6, hKn6⟩ := u_known (C := RX6) (T := TX6) (N := 5) (n := 5) hts cinX6 (tw hts (List.mem_append_right _ (List.mem_of_getElem? (i := 30) (by decide +kernel))))
  obtain ⟨c7, iS7, hKn7⟩ := u_known (C := RX7) (T := TX7) (N := 6) (n := 6) hts cinX7 (tw hts (List.mem_append_right _ (List.mem_of_getElem? (i := 36) (by decide +kernel))))
  obtain ⟨c8, iS8, hKn8⟩ := u_known (C := RX8) (T := TX8) (N := 6) (n := 6) hts cinX8 (tw hts (List.mem_append_right _ (List.mem_of_getElem? (i := 22) (by decide +kernel))))
  obtain ⟨c9, iS9, hKn9⟩ := u_known (C := RX9) (T := TX9) (N := 13) (n := 13) hts cinX9 (tw hts (List.mem_append_right _ (List.mem_of_getElem? (i := 1279) (by decide +kernel))))
  obtain ⟨dC, dI, hKc⟩ : ∃ (dC : Nat → ClassId) (dI : Nat → Nat → Nat), ∀ (k : Nat) (q : vw_C), vwCl[k]? = some q → u_Kn s q.1 q.2.1 q.2.2 (dC k) (dI k) := by
    refine ⟨fun k => if k = 0 then c0 else if k = 1 then c1 else if k = 2 then c2 else if k = 3 then c3 else if k = 4 then c4 else if k = 5 then c5 else if k = 6 then c6 else if k = 7 then c7 else if k = 8 then c8 else c9, fun k => if k = 0 then iS0 else if k = 1 then iS1 else if k = 2 then iS2 else if k = 3 then iS3 else if k = 4 then iS4 else if k = 5 then iS5 else if k = 6 then iS6 else if k = 7 then iS7 else if k = 8 then iS8 else iS9, ?_⟩
    intro k q hq
    match k, hq with
    | 0, hq => cases hq; exact hKn0
    | 1, hq => cases hq; exact hKn1
    | 2, hq => cases hq; exact hKn2
    | 3, hq => cases hq; exact hKn3
    | 4, hq => cases hq; exact hKn4
    | 5, hq => cases hq; exact hKn5
    | 6, hq => cases hq; exact hKn6
    | 7, hq => cases hq; exact hKn7
    | 8, hq => cases hq; exact hKn8
    | 9, hq => cases hq; exact hKn9
    | k + 10, hq => exact absurd hq (by intro h; have := (List.getElem?_eq_some_iff.mp h).1; simp [vwCl] at this; omega)
  obtain ⟨cI, hI1, hI2⟩ := ty_prim (ty := .int) (fun _ h => h) (tw hts (List.mem_append_right _ (List.mem_of_getElem? (i := 70) (by decide +kernel))))
  obtain ⟨cZ, hZ1, hZ2⟩ := ty_prim (ty := .boolean) (fun _ h => h) (tw hts (List.mem_append_right _ (List.mem_of_getElem? (i := 109) (by decide +kernel))))
  obtain ⟨cL, hL1, hL2⟩ := ty_prim (ty := .long) (fun _ h => h) (tw hts (List.mem_append_right _ (List.mem_of_getElem? (i := 1887) (by decide +kernel))))
  have hAO0 : (Cond.arrayOver (.object "GlideShelves$State")).before #[Value.ref b] s = true := tw hts (List.mem_append_right _ (List.mem_of_getElem? (i := 180) (by decide +kernel)))
  have hAO : va_AO "GlideShelves$State" s := va_AO.of hAO0
  obtain ⟨comp, cS, kS, g1, g2, g3, g4, g5⟩ := Cond.arrayOver_spec hAO0
  have hSx : ArrOfT s cS (.object "GlideShelves$State") := fun n z => ⟨fun k h => (by cases h), kS, g3, comp, g4⟩
  have hfl := flat_of_before _ hgv
  refine ⟨dC, dI, cI, cZ, cS, cL, ⟨hKc, fun k q hq => ?_⟩, fun w hw => ?_, ⟨vx_Zqof (tw hts (List.mem_append_right _ (List.mem_of_getElem? (i := 474) (by decide +kernel)))) (tw hts (List.mem_append_right _ (List.mem_of_getElem? (i := 11) (by decide +kernel)))) (hfl _ (by decide +kernel)) (fun a h => Nat.not_le.mpr h), vx_Zqof (tw hts (List.mem_append_right _ (List.mem_of_getElem? (i := 476) (by decide +kernel)))) (tw hts (List.mem_append_right _ (List.mem_of_getElem? (i := 11) (by decide +kernel)))) (hfl _ (by decide +kernel)) (fun a h => Nat.not_le.mpr h), fun q hq => ?_⟩, fun q hq => ?_, hAO⟩
  · match k, hq with
    | 0, hq => cases hq; exact ⟨hI1, hI2⟩
    | 1, hq => cases hq; exact ⟨hZ1, hZ2⟩
    | 2, hq => cases hq; exact ⟨hSx, kS, comp, g3, g4, g1, g5⟩
    | 3, hq => cases hq; exact ⟨hL1, hL2⟩
    | k + 4, hq => exact absurd hq (by intro h; have := (List.getElem?_eq_some_iff.mp h).1; simp at this; omega)
  · rcases nw_kinds w hw with ⟨a, i, b, n, d, hh, rfl⟩ | ⟨a, i, x, hh, rfl⟩ | ⟨a, b, rfl⟩ | ⟨x, rfl⟩ <;> exact va_Nw.of rfl (hts _ (nw_in _ hw))
  · have hin8 : (Cond.instantiable RX8 6).before #[Value.ref b] s = true := tw hts (List.mem_append_right _ (List.mem_of_getElem? (i := 22) (by decide +kernel)))
    obtain ⟨cc8, kk8, hfc, -⟩ := Cond.instantiable_spec hin8
    have h1 := hts _ (strs_in q hq)
    have hq1 : q.1 = RX8 := by
      have h8 : ∀ q ∈ strs8, q.1 = RX8 := by decide +kernel
      exact h8 q hq
    obtain ⟨k, cf, i, sa, -, -, -, -, -, hev⟩ := Cond.stringRef_spec (cur := cc8) (by rw [hq1]; exact hfc) h1
    exact ⟨sa, vk_R.of h1 hev⟩
  · have h8 : ∀ q ∈ ncs, Cond.not (.castable q.1 q.2) ∈ flatC (Jvm.Cond.and given_1 narrow_1) := by decide +kernel
    exact va_Nc.of (hfl _ (h8 q hq))
def LawOK (Inv : Nat → (Nat → Option Mem) → Mem → Mem → Prop) : Prop := (∃ z8 z9 : Mem, fX8_init = some z8 ∧ fX9_init = some z9 ∧ Inv 0 (fun _ => none) z8 z9) ∧ (∀ (n : Nat) (C : Nat → Option Mem) (M K : Mem), n < 512 → Inv n C M K → Inv (n + 1) C M K) ∧ St_addShelf Inv ∧ St_scrap Inv ∧ St_fetch Inv ∧ St_stow Inv ∧ St_stowAt Inv ∧ St_pack Inv ∧ St_fill Inv ∧ St_take Inv ∧ St_accept Inv ∧ St_cancel Inv ∧ St_serve Inv ∧ St_serveAll Inv ∧ St_changeLeast Inv ∧ St_changeWeight Inv ∧ St_turnRule Inv ∧ St_append Inv ∧ St_clearBuffer Inv ∧ St_firstError Inv ∧ St_keep Inv ∧ St_goBack Inv ∧ St_undo Inv ∧ St_savedStates Inv ∧ St_shelves Inv ∧ St_heightOf Inv ∧ St_sideOf Inv ∧ St_slotOf Inv ∧ St_isAtWindow Inv ∧ St_thingsIn Inv ∧ St_weightOf Inv ∧ St_fetchesOf Inv ∧ St_atWindow Inv ∧ St_isFree Inv ∧ St_shelfAt Inv ∧ St_freeBySlots Inv ∧ St_freeByHeights Inv ∧ St_firstPlace Inv ∧ St_longestGap Inv ∧ St_lift Inv ∧ St_isKeptPlace Inv ∧ St_wouldPack Inv ∧ St_sideWeight Inv ∧ St_trips Inv ∧ St_tripTicks Inv ∧ St_wasFetch Inv ∧ St_weightOfKind Inv ∧ St_stockByShelves Inv ∧ St_stockByAccount Inv ∧ St_shelvesWith Inv ∧ St_leastOf Inv ∧ St_missingOf Inv ∧ St_shortKinds Inv ∧ St_orders Inv ∧ St_wanted Inv ∧ St_thingsOf Inv ∧ St_canServe Inv ∧ St_fewestByTrying Inv ∧ St_fewestByGoing Inv ∧ St_choiceFor Inv ∧ St_ticksByServing Inv ∧ St_ticksBySums Inv ∧ St_cheapestOrder Inv ∧ St_servable Inv ∧ St_ticks Inv ∧ St_fetches Inv ∧ St_served Inv ∧ St_fetchTicks Inv ∧ St_heaviest Inv ∧ St_mostFetched Inv ∧ St_usedWays Inv ∧ St_meanWay Inv ∧ St_meanTicks Inv ∧ St_digest Inv
theorem l3 {L k : Nat} (hL : L ≤ 1536) (hk : k ≤ 2000) (h : ¬ Int32.ofNat L - (3 : Int32) < nI k) : k + 2 < L := by
  rcases Nat.lt_or_ge L 3 with q | q
  · exfalso
    refine h ?_
    have h0 : (0 : Int32) ≤ nI k := nI_pos' (by omega)
    have h1 : Int32.ofNat L - (3 : Int32) < 0 := by
      rcases (show L = 0 ∨ L = 1 ∨ L = 2 by omega) with rfl | rfl | rfl <;> decide
    exact Int32.lt_of_lt_of_le h1 h0
  · have e : Int32.ofNat L - (3 : Int32) = nI (L - 3) := by
      have h1 : Int32.ofNat L = nI (L - 3) + 3 := by
        show nI L = nI (L - 3) + nI 3
        rw [nI_add]
        congr 1
        omega
      rw [h1, Int32.add_sub_cancel]
    rw [e, nI_ltI (by omega) (by omega)] at h
    omega
set_option maxHeartbeats 4000000 in
set_option maxRecDepth 100000 in
theorem lw_round {p : Program} {l : Launch} {e : Env} {s : State} {m : MethodId} {below : List Frame} {meth : Method} {c : Code} {b L : Nat} {xs : Nat → Int32} {dC : Nat → ClassId} {dI : Nat → Nat → Nat} {cI cZ cS cL : ClassId} {A : Nat → Prop} {a am : Nat → Nat} {o : Nat} {Q : State → Prop} (X0 : LCx p l s m c b L xs dC dI cI cZ cS cL A) {Inv : Nat → (Nat → Option Mem) → Mem → Mem → Prop} (hLaw : LawOK Inv) (hL : L ≤ 1536) {n : Nat} (hn : n < 512) (hnL : 3 * n + 2 < L) {hs : HS} {fl : Nat → Int64} {M K : Mem} (hI : Inv n (cts hs) M K) {ls : Array Slot} {H : Heap} {locs : List Loc} {cells slots : Nat} (hcs : cells + 17 ≤ 601024) (hss : slots + 322 ≤ 7293034) (hl : lv_has ls 9 [(0, .ref b), (1, .ref (a 0)), (2, .ref (am 0)), (3, .ref o), (4, .int (nI (3 * n)))]) (hP : va_P (dC, dI) vwCl (wLaw cI cZ cS cL hs o fl a M am K ++ RW cI cZ hs) H) (hD : va_D A (wLaw cI cZ cS cL hs o fl a M am K ++ RW cI cZ hs)) (hS : va_S A s.heap H locs) (kk9 : ∀ (hs : HS) (fl : Nat → Int64) (M K : Mem) (ls : Array Slot) (H : Heap) (locs : List Loc), Inv (n + 1) (cts hs) M K → lv_has ls 9 [(0, .ref b), (1, .ref (a 0)), (2, .ref (am 0)), (3, .ref o), (4, .int (nI (3 * n)))] → va_P (dC, dI) vwCl (wLaw cI cZ cS cL hs o fl a M am K ++ RW cI cZ hs) H → va_D A (wLaw cI cZ cS cL hs o fl a M am K ++ RW cI cZ hs) → va_S A s.heap H locs → W p l e room_1 s m #[Value.ref b] below meth c H locs (cells + 17) (slots + 322) Q (F0 m 3556 ls [])) : W p l e room_1 s m #[Value.ref b] below meth c H locs cells slots Q (F0 m 32 ls []) := by
  obtain ⟨h0, hsk, s0, s1, s2, s3, s4, s5, s6, s7, s8, s9, s10, s11, s12, s13, s14, s15, s16, s17, s18, s19, s20, s21, s22, s23, s24, s25, s26, s27, s28, s29, s30, s31, s32, s33, s34, s35, s36, s37, s38, s39, s40, s41, s42, s43, s44, s45, s46, s47, s48, s49, s50, s51, s52, s53, s54, s55, s56, s57, s58, s59, s60, s61, s62, s63, s64, s65, s66, s67, s68, s69, s70, s71⟩ := hLaw
  obtain ⟨hx, hb, hml, hown, hts, hK, hNW, hEX, hNC, hA, hXs, hbl, hbA, hst⟩ := id X0
  refine lv_aload_n hx hb dL_law_32 rfl (lv_at hl 0 rfl) ?_
  refine lv_iload hx hb dL_law_33 (lv_at hl 4 rfl) ?_
  refine va_sld hx hb hXs hbl hbA hS (vp_in_nI (by omega) (by omega)) dL_law_35 ?_
  refine lv_bipush (v := (127 : Int32)) hx hb dL_law_36 (by decide) ?_
  refine lv_iand hx hb dL_law_38 ?_
  generalize (xs (nI (3 * n)).toNatClampNeg &&& (127 : Int32)) = x
  by_cases c900 : x = (0 : Int32)
  · refine lv_tableIn (off := 301) (tgt := 340) hx hb dL_law_39 (by rw [c900]; decide) (by rw [c900]; decide) (by rw [c900]; rfl) (by decide) ?_
    exact lc_addShelf X0 s0 hn hnL hL hI hcs hss hl hP hD hS kk9
  by_cases c901 : x = (1 : Int32)
  · refine lv_tableIn (off := 357) (tgt := 396) hx hb dL_law_39 (by rw [c901]; decide) (by rw [c901]; decide) (by rw [c901]; rfl) (by decide) ?_
    exact lc_scrap X0 s1 hn hnL hL hI hcs hss hl hP hD hS kk9
  by_cases c902 : x = (2 : Int32)
  · refine lv_tableIn (off := 413) (tgt := 452) hx hb dL_law_39 (by rw [c902]; decide) (by rw [c902]; decide) (by rw [c902]; rfl) (by decide) ?_
    exact lc_fetch X0 s2 hn hnL hL hI hcs hss hl hP hD hS kk9
  by_cases c903 : x = (3 : Int32)
  · refine lv_tableIn (off := 469) (tgt := 508) hx hb dL_law_39 (by rw [c903]; decide) (by rw [c903]; decide) (by rw [c903]; rfl) (by decide) ?_
    exact lc_stow X0 s3 hn hnL hL hI hcs hss hl hP hD hS kk9
  by_cases c904 : x = (4 : Int32)
  · refine lv_tableIn (off := 513) (tgt := 552) hx hb dL_law_39 (by rw [c904]; decide) (by rw [c904]; decide) (by rw [c904]; rfl) (by decide) ?_
    exact lc_stowAt X0 s4 hn hnL hL hI hcs hss hl hP hD hS kk9
  by_cases c905 : x = (5 : Int32)
  · refine lv_tableIn (off := 581) (tgt := 620) hx hb dL_law_39 (by rw [c905]; decide) (by rw [c905]; decide) (by rw [c905]; rfl) (by decide) ?_
    exact lc_pack X0 s5 hn hnL hL hI hcs hss hl hP hD hS kk9
  by_cases c906 : x = (6 : Int32)
  · refine lv_tableIn (off := 625) (tgt := 664) hx hb dL_law_39 (by rw [c906]; decide) (by rw [c906]; decide) (by rw [c906]; rfl) (by decide) ?_
    exact lc_fill X0 s6 hn hnL hL hI hcs hss hl hP hD hS kk9
  by_cases c907 : x = (7 : Int32)
  · refine lv_tableIn (off := 693) (tgt := 732) hx hb dL_law_39 (by rw [c907]; decide) (by rw [c907]; decide) (by rw [c907]; rfl) (by decide) ?_
    exact lc_take X0 s7 hn hnL hL hI hcs hss hl hP hD hS kk9
  by_cases c908 : x = (8 : Int32)
  · refine lv_tableIn (off := 761) (tgt := 800) hx hb dL_law_39 (by rw [c908]; decide) (by rw [c908]; decide) (by rw [c908]; rfl) (by decide) ?_
    exact lc_accept X0 s8 hn hnL hL hI hcs hss hl hP hD hS kk9
  by_cases c909 : x = (9 : Int32)
  · refine lv_tableIn (off := 805) (tgt := 844) hx hb dL_law_39 (by rw [c909]; decide) (by rw [c909]; decide) (by rw [c909]; rfl) (by decide) ?_
    exact lc_cancel X0 s9 hn hnL hL hI hcs hss hl hP hD hS kk9
  by_cases c910 : x = (10 : Int32)
  · refine lv_tableIn (off := 861) (tgt := 900) hx hb dL_law_39 (by rw [c910]; decide) (by rw [c910]; decide) (by rw [c910]; rfl) (by decide) ?_
    exact lc_serve X0 s10 hn hnL hL hI hcs hss hl hP hD hS kk9
  by_cases c911 : x = (11 : Int32)
  · refine lv_tableIn (off := 917) (tgt := 956) hx hb dL_law_39 (by rw [c911]; decide) (by rw [c911]; decide) (by rw [c911]; rfl) (by decide) ?_
    exact lc_serveAll X0 s11 hn hnL hL hI hcs hss hl hP hD hS kk9
  by_cases c912 : x = (12 : Int32)
  · refine lv_tableIn (off := 961) (tgt := 1000) hx hb dL_law_39 (by rw [c912]; decide) (by rw [c912]; decide) (by rw [c912]; rfl) (by decide) ?_
    exact lc_changeLeast X0 s12 hn hnL hL hI hcs hss hl hP hD hS kk9
  by_cases c913 : x = (13 : Int32)
  · refine lv_tableIn (off := 1029) (tgt := 1068) hx hb dL_law_39 (by rw [c913]; decide) (by rw [c913]; decide) (by rw [c913]; rfl) (by decide) ?_
    exact lc_changeWeight X0 s13 hn hnL hL hI hcs hss hl hP hD hS kk9
  by_cases c914 : x = (14 : Int32)
  · refine lv_tableIn (off := 1097) (tgt := 1136) hx hb dL_law_39 (by rw [c914]; decide) (by rw [c914]; decide) (by rw [c914]; rfl) (by decide) ?_
    exact lc_turnRule X0 s14 hn hnL hL hI hcs hss hl hP hD hS kk9
  by_cases c915 : x = (15 : Int32)
  · refine lv_tableIn (off := 1110) (tgt := 1149) hx hb dL_law_39 (by rw [c915]; decide) (by rw [c915]; decide) (by rw [c915]; rfl) (by decide) ?_
    exact lc_append X0 s15 hn hnL hL hI hcs hss hl hP hD hS kk9
  by_cases c916 : x = (16 : Int32)
  · refine lv_tableIn (off := 1166) (tgt := 1205) hx hb dL_law_39 (by rw [c916]; decide) (by rw [c916]; decide) (by rw [c916]; rfl) (by decide) ?_
    exact lc_clearBuffer X0 s16 hn hnL hL hI hcs hss hl hP hD hS kk9
  by_cases c917 : x = (17 : Int32)
  · refine lv_tableIn (off := 1179) (tgt := 1218) hx hb dL_law_39 (by rw [c917]; decide) (by rw [c917]; decide) (by rw [c917]; rfl) (by decide) ?_
    exact lc_firstError X0 s17 hn hnL hL hI hcs hss hl hP hD hS kk9
  by_cases c918 : x = (18 : Int32)
  · refine lv_tableIn (off := 1192) (tgt := 1231) hx hb dL_law_39 (by rw [c918]; decide) (by rw [c918]; decide) (by rw [c918]; rfl) (by decide) ?_
    exact lc_keep X0 s18 hn hnL hL hI hcs hss hl hP hD hS kk9
  by_cases c919 : x = (19 : Int32)
  · refine lv_tableIn (off := 1228) (tgt := 1267) hx hb dL_law_39 (by rw [c919]; decide) (by rw [c919]; decide) (by rw [c919]; rfl) (by decide) ?_
    exact lc_goBack X0 s19 hn hnL hL hI hcs hss hl hP hD hS kk9
  by_cases c920 : x = (20 : Int32)
  · refine lv_tableIn (off := 1264) (tgt := 1303) hx hb dL_law_39 (by rw [c920]; decide) (by rw [c920]; decide) (by rw [c920]; rfl) (by decide) ?_
    exact lc_undo X0 s20 hn hnL hL hI hcs hss hl hP hD hS kk9
  by_cases c921 : x = (21 : Int32)
  · refine lv_tableIn (off := 1288) (tgt := 1327) hx hb dL_law_39 (by rw [c921]; decide) (by rw [c921]; decide) (by rw [c921]; rfl) (by decide) ?_
    exact lc_savedStates X0 s21 hn hnL hL hI hcs hss hl hP hD hS kk9
  by_cases c922 : x = (22 : Int32)
  · refine lv_tableIn (off := 1301) (tgt := 1340) hx hb dL_law_39 (by rw [c922]; decide) (by rw [c922]; decide) (by rw [c922]; rfl) (by decide) ?_
    exact lc_shelves X0 s22 hn hnL hL hI hcs hss hl hP hD hS kk9
  by_cases c923 : x = (23 : Int32)
  · refine lv_tableIn (off := 1314) (tgt := 1353) hx hb dL_law_39 (by rw [c923]; decide) (by rw [c923]; decide) (by rw [c923]; rfl) (by decide) ?_
    exact lc_heightOf X0 s23 hn hnL hL hI hcs hss hl hP hD hS kk9
  by_cases c924 : x = (24 : Int32)
  · refine lv_tableIn (off := 1370) (tgt := 1409) hx hb dL_law_39 (by rw [c924]; decide) (by rw [c924]; decide) (by rw [c924]; rfl) (by decide) ?_
    exact lc_sideOf X0 s24 hn hnL hL hI hcs hss hl hP hD hS kk9
  by_cases c925 : x = (25 : Int32)
  · refine lv_tableIn (off := 1426) (tgt := 1465) hx hb dL_law_39 (by rw [c925]; decide) (by rw [c925]; decide) (by rw [c925]; rfl) (by decide) ?_
    exact lc_slotOf X0 s25 hn hnL hL hI hcs hss hl hP hD hS kk9
  by_cases c926 : x = (26 : Int32)
  · refine lv_tableIn (off := 1482) (tgt := 1521) hx hb dL_law_39 (by rw [c926]; decide) (by rw [c926]; decide) (by rw [c926]; rfl) (by decide) ?_
    exact lc_isAtWindow X0 s26 hn hnL hL hI hcs hss hl hP hD hS kk9
  by_cases c927 : x = (27 : Int32)
  · refine lv_tableIn (off := 1545) (tgt := 1584) hx hb dL_law_39 (by rw [c927]; decide) (by rw [c927]; decide) (by rw [c927]; rfl) (by decide) ?_
    exact lc_thingsIn X0 s27 hn hnL hL hI hcs hss hl hP hD hS kk9
  by_cases c928 : x = (28 : Int32)
  · refine lv_tableIn (off := 1613) (tgt := 1652) hx hb dL_law_39 (by rw [c928]; decide) (by rw [c928]; decide) (by rw [c928]; rfl) (by decide) ?_
    exact lc_weightOf X0 s28 hn hnL hL hI hcs hss hl hP hD hS kk9
  by_cases c929 : x = (29 : Int32)
  · refine lv_tableIn (off := 1669) (tgt := 1708) hx hb dL_law_39 (by rw [c929]; decide) (by rw [c929]; decide) (by rw [c929]; rfl) (by decide) ?_
    exact lc_fetchesOf X0 s29 hn hnL hL hI hcs hss hl hP hD hS kk9
  by_cases c930 : x = (30 : Int32)
  · refine lv_tableIn (off := 1725) (tgt := 1764) hx hb dL_law_39 (by rw [c930]; decide) (by rw [c930]; decide) (by rw [c930]; rfl) (by decide) ?_
    exact lc_atWindow X0 s30 hn hnL hL hI hcs hss hl hP hD hS kk9
  by_cases c931 : x = (31 : Int32)
  · refine lv_tableIn (off := 1769) (tgt := 1808) hx hb dL_law_39 (by rw [c931]; decide) (by rw [c931]; decide) (by rw [c931]; rfl) (by decide) ?_
    exact lc_isFree X0 s31 hn hnL hL hI hcs hss hl hP hD hS kk9
  by_cases c932 : x = (32 : Int32)
  · refine lv_tableIn (off := 1844) (tgt := 1883) hx hb dL_law_39 (by rw [c932]; decide) (by rw [c932]; decide) (by rw [c932]; rfl) (by decide) ?_
    exact lc_shelfAt X0 s32 hn hnL hL hI hcs hss hl hP hD hS kk9
  by_cases c933 : x = (33 : Int32)
  · refine lv_tableIn (off := 1912) (tgt := 1951) hx hb dL_law_39 (by rw [c933]; decide) (by rw [c933]; decide) (by rw [c933]; rfl) (by decide) ?_
    exact lc_freeBySlots X0 s33 hn hnL hL hI hcs hss hl hP hD hS kk9
  by_cases c934 : x = (34 : Int32)
  · refine lv_tableIn (off := 1925) (tgt := 1964) hx hb dL_law_39 (by rw [c934]; decide) (by rw [c934]; decide) (by rw [c934]; rfl) (by decide) ?_
    exact lc_freeByHeights X0 s34 hn hnL hL hI hcs hss hl hP hD hS kk9
  by_cases c935 : x = (35 : Int32)
  · refine lv_tableIn (off := 1938) (tgt := 1977) hx hb dL_law_39 (by rw [c935]; decide) (by rw [c935]; decide) (by rw [c935]; rfl) (by decide) ?_
    exact lc_firstPlace X0 s35 hn hnL hL hI hcs hss hl hP hD hS kk9
  by_cases c936 : x = (36 : Int32)
  · refine lv_tableIn (off := 1994) (tgt := 2033) hx hb dL_law_39 (by rw [c936]; decide) (by rw [c936]; decide) (by rw [c936]; rfl) (by decide) ?_
    exact lc_longestGap X0 s36 hn hnL hL hI hcs hss hl hP hD hS kk9
  by_cases c937 : x = (37 : Int32)
  · refine lv_tableIn (off := 2050) (tgt := 2089) hx hb dL_law_39 (by rw [c937]; decide) (by rw [c937]; decide) (by rw [c937]; rfl) (by decide) ?_
    exact lc_lift X0 s37 hn hnL hL hI hcs hss hl hP hD hS kk9
  by_cases c938 : x = (38 : Int32)
  · refine lv_tableIn (off := 2063) (tgt := 2102) hx hb dL_law_39 (by rw [c938]; decide) (by rw [c938]; decide) (by rw [c938]; rfl) (by decide) ?_
    exact lc_isKeptPlace X0 s38 hn hnL hL hI hcs hss hl hP hD hS kk9
  by_cases c939 : x = (39 : Int32)
  · refine lv_tableIn (off := 2076) (tgt := 2115) hx hb dL_law_39 (by rw [c939]; decide) (by rw [c939]; decide) (by rw [c939]; rfl) (by decide) ?_
    exact lc_wouldPack X0 s39 hn hnL hL hI hcs hss hl hP hD hS kk9
  by_cases c940 : x = (40 : Int32)
  · refine lv_tableIn (off := 2120) (tgt := 2159) hx hb dL_law_39 (by rw [c940]; decide) (by rw [c940]; decide) (by rw [c940]; rfl) (by decide) ?_
    exact lc_sideWeight X0 s40 hn hnL hL hI hcs hss hl hP hD hS kk9
  by_cases c941 : x = (41 : Int32)
  · refine lv_tableIn (off := 2176) (tgt := 2215) hx hb dL_law_39 (by rw [c941]; decide) (by rw [c941]; decide) (by rw [c941]; rfl) (by decide) ?_
    exact lc_trips X0 s41 hn hnL hL hI hcs hss hl hP hD hS kk9
  by_cases c942 : x = (42 : Int32)
  · refine lv_tableIn (off := 2189) (tgt := 2228) hx hb dL_law_39 (by rw [c942]; decide) (by rw [c942]; decide) (by rw [c942]; rfl) (by decide) ?_
    exact lc_tripTicks X0 s42 hn hnL hL hI hcs hss hl hP hD hS kk9
  by_cases c943 : x = (43 : Int32)
  · refine lv_tableIn (off := 2245) (tgt := 2284) hx hb dL_law_39 (by rw [c943]; decide) (by rw [c943]; decide) (by rw [c943]; rfl) (by decide) ?_
    exact lc_wasFetch X0 s43 hn hnL hL hI hcs hss hl hP hD hS kk9
  by_cases c944 : x = (44 : Int32)
  · refine lv_tableIn (off := 2308) (tgt := 2347) hx hb dL_law_39 (by rw [c944]; decide) (by rw [c944]; decide) (by rw [c944]; rfl) (by decide) ?_
    exact lc_weightOfKind X0 s44 hn hnL hL hI hcs hss hl hP hD hS kk9
  by_cases c945 : x = (45 : Int32)
  · refine lv_tableIn (off := 2364) (tgt := 2403) hx hb dL_law_39 (by rw [c945]; decide) (by rw [c945]; decide) (by rw [c945]; rfl) (by decide) ?_
    exact lc_stockByShelves X0 s45 hn hnL hL hI hcs hss hl hP hD hS kk9
  by_cases c946 : x = (46 : Int32)
  · refine lv_tableIn (off := 2420) (tgt := 2459) hx hb dL_law_39 (by rw [c946]; decide) (by rw [c946]; decide) (by rw [c946]; rfl) (by decide) ?_
    exact lc_stockByAccount X0 s46 hn hnL hL hI hcs hss hl hP hD hS kk9
  by_cases c947 : x = (47 : Int32)
  · refine lv_tableIn (off := 2476) (tgt := 2515) hx hb dL_law_39 (by rw [c947]; decide) (by rw [c947]; decide) (by rw [c947]; rfl) (by decide) ?_
    exact lc_shelvesWith X0 s47 hn hnL hL hI hcs hss hl hP hD hS kk9
  by_cases c948 : x = (48 : Int32)
  · refine lv_tableIn (off := 2532) (tgt := 2571) hx hb dL_law_39 (by rw [c948]; decide) (by rw [c948]; decide) (by rw [c948]; rfl) (by decide) ?_
    exact lc_leastOf X0 s48 hn hnL hL hI hcs hss hl hP hD hS kk9
  by_cases c949 : x = (49 : Int32)
  · refine lv_tableIn (off := 2588) (tgt := 2627) hx hb dL_law_39 (by rw [c949]; decide) (by rw [c949]; decide) (by rw [c949]; rfl) (by decide) ?_
    exact lc_missingOf X0 s49 hn hnL hL hI hcs hss hl hP hD hS kk9
  by_cases c950 : x = (50 : Int32)
  · refine lv_tableIn (off := 2644) (tgt := 2683) hx hb dL_law_39 (by rw [c950]; decide) (by rw [c950]; decide) (by rw [c950]; rfl) (by decide) ?_
    exact lc_shortKinds X0 s50 hn hnL hL hI hcs hss hl hP hD hS kk9
  by_cases c951 : x = (51 : Int32)
  · refine lv_tableIn (off := 2657) (tgt := 2696) hx hb dL_law_39 (by rw [c951]; decide) (by rw [c951]; decide) (by rw [c951]; rfl) (by decide) ?_
    exact lc_orders X0 s51 hn hnL hL hI hcs hss hl hP hD hS kk9
  by_cases c952 : x = (52 : Int32)
  · refine lv_tableIn (off := 2670) (tgt := 2709) hx hb dL_law_39 (by rw [c952]; decide) (by rw [c952]; decide) (by rw [c952]; rfl) (by decide) ?_
    exact lc_wanted X0 s52 hn hnL hL hI hcs hss hl hP hD hS kk9
  by_cases c953 : x = (53 : Int32)
  · refine lv_tableIn (off := 2738) (tgt := 2777) hx hb dL_law_39 (by rw [c953]; decide) (by rw [c953]; decide) (by rw [c953]; rfl) (by decide) ?_
    exact lc_thingsOf X0 s53 hn hnL hL hI hcs hss hl hP hD hS kk9
  by_cases c954 : x = (54 : Int32)
  · refine lv_tableIn (off := 2794) (tgt := 2833) hx hb dL_law_39 (by rw [c954]; decide) (by rw [c954]; decide) (by rw [c954]; rfl) (by decide) ?_
    exact lc_canServe X0 s54 hn hnL hL hI hcs hss hl hP hD hS kk9
  by_cases c955 : x = (55 : Int32)
  · refine lv_tableIn (off := 2857) (tgt := 2896) hx hb dL_law_39 (by rw [c955]; decide) (by rw [c955]; decide) (by rw [c955]; rfl) (by decide) ?_
    exact lc_fewestByTrying X0 s55 hn hnL hL hI hcs hss hl hP hD hS kk9
  by_cases c956 : x = (56 : Int32)
  · refine lv_tableIn (off := 2913) (tgt := 2952) hx hb dL_law_39 (by rw [c956]; decide) (by rw [c956]; decide) (by rw [c956]; rfl) (by decide) ?_
    exact lc_fewestByGoing X0 s56 hn hnL hL hI hcs hss hl hP hD hS kk9
  by_cases c957 : x = (57 : Int32)
  · refine lv_tableIn (off := 2969) (tgt := 3008) hx hb dL_law_39 (by rw [c957]; decide) (by rw [c957]; decide) (by rw [c957]; rfl) (by decide) ?_
    exact lc_choiceFor X0 s57 hn hnL hL hI hcs hss hl hP hD hS kk9
  by_cases c958 : x = (58 : Int32)
  · refine lv_tableIn (off := 3025) (tgt := 3064) hx hb dL_law_39 (by rw [c958]; decide) (by rw [c958]; decide) (by rw [c958]; rfl) (by decide) ?_
    exact lc_ticksByServing X0 s58 hn hnL hL hI hcs hss hl hP hD hS kk9
  by_cases c959 : x = (59 : Int32)
  · refine lv_tableIn (off := 3081) (tgt := 3120) hx hb dL_law_39 (by rw [c959]; decide) (by rw [c959]; decide) (by rw [c959]; rfl) (by decide) ?_
    exact lc_ticksBySums X0 s59 hn hnL hL hI hcs hss hl hP hD hS kk9
  by_cases c960 : x = (60 : Int32)
  · refine lv_tableIn (off := 3137) (tgt := 3176) hx hb dL_law_39 (by rw [c960]; decide) (by rw [c960]; decide) (by rw [c960]; rfl) (by decide) ?_
    exact lc_cheapestOrder X0 s60 hn hnL hL hI hcs hss hl hP hD hS kk9
  by_cases c961 : x = (61 : Int32)
  · refine lv_tableIn (off := 3181) (tgt := 3220) hx hb dL_law_39 (by rw [c961]; decide) (by rw [c961]; decide) (by rw [c961]; rfl) (by decide) ?_
    exact lc_servable X0 s61 hn hnL hL hI hcs hss hl hP hD hS kk9
  by_cases c962 : x = (62 : Int32)
  · refine lv_tableIn (off := 3225) (tgt := 3264) hx hb dL_law_39 (by rw [c962]; decide) (by rw [c962]; decide) (by rw [c962]; rfl) (by decide) ?_
    exact lc_ticks X0 s62 hn hnL hL hI hcs hss hl hP hD hS kk9
  by_cases c963 : x = (63 : Int32)
  · refine lv_tableIn (off := 3238) (tgt := 3277) hx hb dL_law_39 (by rw [c963]; decide) (by rw [c963]; decide) (by rw [c963]; rfl) (by decide) ?_
    exact lc_fetches X0 s63 hn hnL hL hI hcs hss hl hP hD hS kk9
  by_cases c964 : x = (64 : Int32)
  · refine lv_tableIn (off := 3251) (tgt := 3290) hx hb dL_law_39 (by rw [c964]; decide) (by rw [c964]; decide) (by rw [c964]; rfl) (by decide) ?_
    exact lc_served X0 s64 hn hnL hL hI hcs hss hl hP hD hS kk9
  by_cases c965 : x = (65 : Int32)
  · refine lv_tableIn (off := 3264) (tgt := 3303) hx hb dL_law_39 (by rw [c965]; decide) (by rw [c965]; decide) (by rw [c965]; rfl) (by decide) ?_
    exact lc_fetchTicks X0 s65 hn hnL hL hI hcs hss hl hP hD hS kk9
  by_cases c966 : x = (66 : Int32)
  · refine lv_tableIn (off := 3320) (tgt := 3359) hx hb dL_law_39 (by rw [c966]; decide) (by rw [c966]; decide) (by rw [c966]; rfl) (by decide) ?_
    exact lc_heaviest X0 s66 hn hnL hL hI hcs hss hl hP hD hS kk9
  by_cases c967 : x = (67 : Int32)
  · refine lv_tableIn (off := 3364) (tgt := 3403) hx hb dL_law_39 (by rw [c967]; decide) (by rw [c967]; decide) (by rw [c967]; rfl) (by decide) ?_
    exact lc_mostFetched X0 s67 hn hnL hL hI hcs hss hl hP hD hS kk9
  by_cases c968 : x = (68 : Int32)
  · refine lv_tableIn (off := 3408) (tgt := 3447) hx hb dL_law_39 (by rw [c968]; decide) (by rw [c968]; decide) (by rw [c968]; rfl) (by decide) ?_
    exact lc_usedWays X0 s68 hn hnL hL hI hcs hss hl hP hD hS kk9
  by_cases c969 : x = (69 : Int32)
  · refine lv_tableIn (off := 3421) (tgt := 3460) hx hb dL_law_39 (by rw [c969]; decide) (by rw [c969]; decide) (by rw [c969]; rfl) (by decide) ?_
    exact lc_meanWay X0 s69 hn hnL hL hI hcs hss hl hP hD hS kk9
  by_cases c970 : x = (70 : Int32)
  · refine lv_tableIn (off := 3462) (tgt := 3501) hx hb dL_law_39 (by rw [c970]; decide) (by rw [c970]; decide) (by rw [c970]; rfl) (by decide) ?_
    exact lc_meanTicks X0 s70 hn hnL hL hI hcs hss hl hP hD hS kk9
  by_cases c971 : x = (71 : Int32)
  · refine lv_tableIn (off := 3503) (tgt := 3542) hx hb dL_law_39 (by rw [c971]; decide) (by rw [c971]; decide) (by rw [c971]; rfl) (by decide) ?_
    exact lc_digest X0 s71 hn hnL hL hI hcs hss hl hP hD hS kk9
  refine lv_tableOut (tgt := 3556) hx hb dL_law_39 (tab_out 72 (by decide) (fun k hk => by
    rcases (show k = 0 ∨ k = 1 ∨ k = 2 ∨ k = 3 ∨ k = 4 ∨ k = 5 ∨ k = 6 ∨ k = 7 ∨ k = 8 ∨ k = 9 ∨ k = 10 ∨ k = 11 ∨ k = 12 ∨ k = 13 ∨ k = 14 ∨ k = 15 ∨ k = 16 ∨ k = 17 ∨ k = 18 ∨ k = 19 ∨ k = 20 ∨ k = 21 ∨ k = 22 ∨ k = 23 ∨ k = 24 ∨ k = 25 ∨ k = 26 ∨ k = 27 ∨ k = 28 ∨ k = 29 ∨ k = 30 ∨ k = 31 ∨ k = 32 ∨ k = 33 ∨ k = 34 ∨ k = 35 ∨ k = 36 ∨ k = 37 ∨ k = 38 ∨ k = 39 ∨ k = 40 ∨ k = 41 ∨ k = 42 ∨ k = 43 ∨ k = 44 ∨ k = 45 ∨ k = 46 ∨ k = 47 ∨ k = 48 ∨ k = 49 ∨ k = 50 ∨ k = 51 ∨ k = 52 ∨ k = 53 ∨ k = 54 ∨ k = 55 ∨ k = 56 ∨ k = 57 ∨ k = 58 ∨ k = 59 ∨ k = 60 ∨ k = 61 ∨ k = 62 ∨ k = 63 ∨ k = 64 ∨ k = 65 ∨ k = 66 ∨ k = 67 ∨ k = 68 ∨ k = 69 ∨ k = 70 ∨ k = 71 by omega) with rfl | rfl | rfl | rfl | rfl | rfl | rfl | rfl | rfl | rfl | rfl | rfl | rfl | rfl | rfl | rfl | rfl | rfl | rfl | rfl | rfl | rfl | rfl | rfl | rfl | rfl | rfl | rfl | rfl | rfl | rfl | rfl | rfl | rfl | rfl | rfl | rfl | rfl | rfl | rfl | rfl | rfl | rfl | rfl | rfl | rfl | rfl | rfl | rfl | rfl | rfl | rfl | rfl | rfl | rfl | rfl | rfl | rfl | rfl | rfl | rfl | rfl | rfl | rfl | rfl | rfl | rfl | rfl | rfl | rfl | rfl | rfl <;> assumption)) (by decide) ?_
  refine W.widen (k := cells + 17) (n := slots + 322) (by omega) (by omega) ?_
  exact kk9 hs fl M K ls H locs (hsk n (cts hs) M K hn hI) hl hP hD hS
set_option maxHeartbeats 4000000 in
set_option maxRecDepth 100000 in
theorem lw_loop {p : Program} {l : Launch} {e : Env} {s : State} {m : MethodId} {below : List Frame} {meth : Method} {c : Code} {b L : Nat} {xs : Nat → Int32} {dC : Nat → ClassId} {dI : Nat → Nat → Nat} {cI cZ cS cL : ClassId} {A : Nat → Prop} {a am : Nat → Nat} {o : Nat} {Q : State → Prop} (X0 : LCx p l s m c b L xs dC dI cI cZ cS cL A) {Inv : Nat → (Nat → Option Mem) → Mem → Mem → Prop} (hLaw : LawOK Inv) (hL : L ≤ 1536) (hend : ∀ (H : Heap) (locs : List Loc) (cells slots : Nat) (ls : Array Slot), (∀ q ∈ locs, A q.base) → cells ≤ 601024 → slots ≤ 7293034 → W p l e room_1 s m #[Value.ref b] below meth c H locs cells slots Q (F0 m 3562 ls [])) : ∀ (k n : Nat), n + k = 512 → ∀ (hs : HS) (fl : Nat → Int64) (M K : Mem), Inv n (cts hs) M K → ∀ (ls : Array Slot) (H : Heap) (locs : List Loc) (cells slots : Nat), cells + 17 * k ≤ 601024 → slots + 322 * k ≤ 7293034 → lv_has ls 9 [(0, .ref b), (1, .ref (a 0)), (2, .ref (am 0)), (3, .ref o), (4, .int (nI (3 * n)))] → va_P (dC, dI) vwCl (wLaw cI cZ cS cL hs o fl a M am K ++ RW cI cZ hs) H → va_D A (wLaw cI cZ cS cL hs o fl a M am K ++ RW cI cZ hs) → va_S A s.heap H locs → W p l e room_1 s m #[Value.ref b] below meth c H locs cells slots Q (F0 m 23 ls []) := by
  obtain ⟨hx, hb, hml, hown, hts, hK, hNW, hEX, hNC, hA, hXs, hbl, hbA, hst⟩ := id X0
  intro k
  induction k with
  | zero =>
    intro n hn hs fl M K hI ls H locs cells slots hcs hss hl hP hD hS
    refine lv_iload hx hb dL_law_23 (lv_at hl 4 rfl) ?_
    refine lv_aload_n hx hb dL_law_25 rfl (lv_at hl 0 rfl) ?_
    refine va_slen hx hb hXs hbl hbA hS dL_law_26 ?_
    refine lv_iconst (v := (3 : Int32)) hx hb dL_law_27 (by decide) ?_
    refine lv_isub hx hb dL_law_28 ?_
    refine lv_icmp_gt (tgt := 3562) hx hb dL_law_29 (by decide) (fun c9 => hend H locs cells slots ls hS.2.2 (by omega) (by omega)) (fun c9 => ?_)
    have hnL : 3 * n + 2 < L := l3 hL (by omega) c9
    omega
  | succ k ih =>
    intro n hn hs fl M K hI ls H locs cells slots hcs hss hl hP hD hS
    refine lv_iload hx hb dL_law_23 (lv_at hl 4 rfl) ?_
    refine lv_aload_n hx hb dL_law_25 rfl (lv_at hl 0 rfl) ?_
    refine va_slen hx hb hXs hbl hbA hS dL_law_26 ?_
    refine lv_iconst (v := (3 : Int32)) hx hb dL_law_27 (by decide) ?_
    refine lv_isub hx hb dL_law_28 ?_
    refine lv_icmp_gt (tgt := 3562) hx hb dL_law_29 (by decide) (fun c9 => hend H locs cells slots ls hS.2.2 (by omega) (by omega)) (fun c9 => ?_)
    have hnL : 3 * n + 2 < L := l3 hL (by omega) c9
    refine lw_round X0 hLaw hL (n := n) (by omega) hnL hI (by omega) (by omega) hl hP hD hS (fun hs fl M K ls H locs hI hl hP hD hS => ?_)
    refine lv_iinc (v := nI (3 * (n + 1))) (lv' := [(4, .int (nI (3 * (n + 1)))), (0, .ref b), (1, .ref (a 0)), (2, .ref (am 0)), (3, .ref o)]) hx hb dL_law_3556 hl (k := 4) rfl (nI_add (3 * n) 3) (by decide) rfl (fun ls hl => ?_)
    refine lv_goto (tgt := 23) hx hb dL_law_3559 (by decide) ?_
    exact ih (n + 1) (by omega) hs fl M K hI ls H locs (cells + 17) (slots + 322) (by omega) (by omega) (lv_sub hl [1, 2, 3, 4, 0] rfl) hP hD hS
theorem hs0_S : fS (fun _ => none) = (fun _ => none) := by
  funext i
  unfold fS fA
  by_cases h : i < 6
  · rw [if_pos h]; rfl
  · rw [if_neg h]
theorem hs0_G : fG (fun _ => none) = (fun _ => none) := by
  funext i
  unfold fG fA
  by_cases h : i < 2
  · first | rfl | (rw [if_pos h]; rfl) | simp
  · first | rfl | (rw [if_neg h]) | simp
theorem hs0_w (cI cZ cS : ClassId) (a : Nat → Nat) (M : Mem) : wX8 cI cZ cS (fun _ => none) (fun _ => none) a M = wX8 cI cZ cS (fS (fun _ => none)) (fG (fun _ => none)) a M := by
  rw [hs0_S, hs0_G]
set_option maxHeartbeats 4000000 in
set_option maxRecDepth 100000 in
theorem law_from {Inv : Nat → (Nat → Option Mem) → Mem → Mem → Prop} (hLaw : LawOK Inv) {p : Program} {e : Env} {s : State} {m : MethodId} {below : List Frame} {meth : Method} {c : Code} (l : Launch) (hflags : l.flags = flags0) {b L : Nat} {xs : Nat → Int32} (hL : L ≤ 1536) (C0 : lw_At p s m meth c b L xs) : W p l e room_1 s m #[Value.ref b] below meth c s.heap [] 0 0 (lw_Z below #[Value.ref b] s) (entryFrame m ([Value.ref b] : List Value).toArray 9) := by
  obtain ⟨hx, hb, hr, hml, hown, hts, hX, hbl, hlocks, hgv⟩ := id C0
  have hst : l.stackTraces = false := lst hflags
  have hA : ∀ q : Nat, s.heap.size ≤ q → (fun q : Nat => s.heap.size ≤ q) q := fun _ h => h
  have hbA : ¬ (fun q : Nat => s.heap.size ≤ q) b := Nat.not_le.mpr hbl
  obtain ⟨dC, dI, cI, cZ, cS, cL, hK, hNW, hEX, hNC, hAO⟩ := law_pre hts hgv
  have hK8 : va_K (dC, dI) vwCl (tys8 cI cZ cS) s := hK.sub (tys' := tys8 cI cZ cS) [0, 1, 2] rfl
  have hK2 : va_K (dC, dI) vwCl [(cI, .int), (cZ, .boolean)] s := hK.sub (tys' := [(cI, .int), (cZ, .boolean)]) [0, 1] rfl
  have htsL : ∀ w ∈ wsL_law, w.before #[Value.ref b] s = true := fun w h => hts w (wsL_law_in w h)
  have X0 : LCx p l s m c b L xs dC dI cI cZ cS cL (fun q : Nat => s.heap.size ≤ q) := ⟨hx, hb, hml, hown, htsL, hK, hNW, hEX, hNC, hA, hX, hbl, hbA, hst⟩
  obtain ⟨z8, z9, h8, h9, hI⟩ := hLaw.1
  have hS : va_S (fun q : Nat => s.heap.size ≤ q) s.heap s.heap [] := va_S.rf
  have hP : va_P (dC, dI) vwCl [] s.heap := fun k q h => by simp at h
  have hD : va_D (fun q : Nat => s.heap.size ≤ q) [] := ⟨fun i j p q h => by simp at h, fun k q h => by simp at h⟩
  have hl := lv_entry ([.ref b]) (n := 9) (Nat.le_of_ble_eq_true rfl)
  rw [lg_entry_eq]
  generalize (lg_sl ([.ref b]) ++ List.replicate (9 - (lg_sl ([.ref b])).length) Slot.unset).toArray = ls at hl ⊢
  have hl : lv_has ls 9 [(0, .ref b)] := hl
  refine va_new (ci := 8) (fs := [.null, .null, .null, .null, .null, .null]) (C := RX8) (T := TX8) (N := 6) hx hb hts cinX8 tyX8 tyX8_ok hown (tw hts (List.mem_append_right _ (List.mem_of_getElem? (i := 21) (by decide +kernel)))) (tw hts (List.mem_append_right _ (List.mem_of_getElem? (i := 22) (by decide +kernel)))) (tw hts (List.mem_append_right _ (List.mem_of_getElem? (i := 1) (by decide +kernel)))) hK hP hD hS hA rfl (fun j hj => by rcases (show j = 0 ∨ j = 1 ∨ j = 2 ∨ j = 3 ∨ j = 4 ∨ j = 5 by omega) with rfl | rfl | rfl | rfl | rfl | rfl <;> rfl) (by decide) (by decide) dL_law_0 (fun q8 H hP hD hS => ?_)
  have hP : va_P (dC, dI) vwCl [(q8, .inr (8, [.null, .null, .null, .null, .null, .null]))] H := hP
  have hD : va_D (fun q : Nat => s.heap.size ≤ q) [(q8, .inr (8, [.null, .null, .null, .null, .null, .null]))] := hD
  refine lv_dup hx hb dL_law_3 rfl ?_
  have hFc := va_free (wc := [(q8, .inr (8, [.null, .null, .null, .null, .null, .null]))]) hD hS hA [0] rfl
  refine va_callv (va_runI (As := []) (rest := [.ref q8]) ⟨hx, hb, hml, hown, htsL⟩ (c_X8_init l dC dI cI cZ cS q8 H.size z8 h8) (cwI 0 htsL gL_law_X8_init rfl rfl rfl (tw hts (List.mem_append_right _ (List.mem_of_getElem? (i := 1) (by decide +kernel)))) (tw hts (List.mem_append_right _ (List.mem_of_getElem? (i := 23) (by decide +kernel)))) (tw hts (List.mem_append_right _ (List.mem_of_getElem? (i := 24) (by decide +kernel)))) rfl (by decide +kernel) ⟨Nat.le_of_ble_eq_true rfl, Nat.le_of_ble_eq_true rfl⟩) ⟨WC.blind, WC.pre hP hK8 hD hNW hAO⟩ rfl rfl hl.1 rfl (lv_room (Nat.le_of_ble_eq_true rfl)) dL_law_4 ⟨by decide, by decide⟩) hS (fun q _ h => hFc q h) hFc (fun a8 t H1 locs ht hvm hbb hB hz1 hk1 hS => ?_)
  obtain ⟨hP1, hD1⟩ := hB
  rw [ht] at hP1
  try dsimp only at hbb
  obtain ⟨hPj, hDj⟩ := va_join (wr := []) (w1 := (wX8 cI cZ cS (fun _ => none) (fun _ => none) a8 z8)) hP hD [0] [] rfl rfl (by decide) (by decide) hk1 hFc hP1 hD1
  subst hbb
  generalize H1 = H at hPj hS ⊢
  have hP : va_P (dC, dI) vwCl (wX8 cI cZ cS (fun _ => none) (fun _ => none) a8 z8) H := hPj
  have hD : va_D (fun q : Nat => s.heap.size ≤ q) (wX8 cI cZ cS (fun _ => none) (fun _ => none) a8 z8) := hDj
  refine lv_astore_n (lv' := [(1, .ref (a8 0)), (0, .ref b)]) hx hb dL_law_7 rfl hl (by decide) rfl (fun ls hl => ?_)
  refine va_new (ci := 9) (fs := [.int 0, .null, .null, .null, .int 0, .null, .null, .null, .int 0, .int 0, .int 0, .null, .null]) (C := RX9) (T := TX9) (N := 13) hx hb hts cinX9 tyX9 tyX9_ok hown (tw hts (List.mem_append_right _ (List.mem_of_getElem? (i := 1278) (by decide +kernel)))) (tw hts (List.mem_append_right _ (List.mem_of_getElem? (i := 1279) (by decide +kernel)))) (tw hts (List.mem_append_right _ (List.mem_of_getElem? (i := 10) (by decide +kernel)))) hK hP hD hS hA rfl (fun j hj => by rcases (show j = 0 ∨ j = 1 ∨ j = 2 ∨ j = 3 ∨ j = 4 ∨ j = 5 ∨ j = 6 ∨ j = 7 ∨ j = 8 ∨ j = 9 ∨ j = 10 ∨ j = 11 ∨ j = 12 by omega) with rfl | rfl | rfl | rfl | rfl | rfl | rfl | rfl | rfl | rfl | rfl | rfl | rfl <;> rfl) (by decide) (by decide) dL_law_8 (fun q9 H hP hD hS => ?_)
  have hP : va_P (dC, dI) vwCl ((wX8 cI cZ cS (fun _ => none) (fun _ => none) a8 z8) ++ [(q9, .inr (9, [.int 0, .null, .null, .null, .int 0, .null, .null, .null, .int 0, .int 0, .int 0, .null, .null]))]) H := hP
  have hD : va_D (fun q : Nat => s.heap.size ≤ q) ((wX8 cI cZ cS (fun _ => none) (fun _ => none) a8 z8) ++ [(q9, .inr (9, [.int 0, .null, .null, .null, .int 0, .null, .null, .null, .int 0, .int 0, .int 0, .null, .null]))]) := hD
  refine lv_dup hx hb dL_law_11 rfl ?_
  have hPc := hP.sub (ws' := [(q9, .inr (9, [.int 0, .null, .null, .null, .int 0, .null, .null, .null, .int 0, .int 0, .int 0, .null, .null]))]) [42] rfl
  have hDc := hD.sub (ws' := [(q9, .inr (9, [.int 0, .null, .null, .null, .int 0, .null, .null, .null, .int 0, .int 0, .int 0, .null, .null]))]) [42] (by decide) rfl
  have hFc := va_free (wc := [(q9, .inr (9, [.int 0, .null, .null, .null, .int 0, .null, .null, .null, .int 0, .int 0, .int 0, .null, .null]))]) hD hS hA [42] rfl
  refine va_callv (va_runI (As := []) (rest := [.ref q9]) ⟨hx, hb, hml, hown, htsL⟩ (c_X9_init l dC dI cI cZ q9 H.size z9 h9) (cwI 0 htsL gL_law_X9_init rfl rfl rfl (tw hts (List.mem_append_right _ (List.mem_of_getElem? (i := 10) (by decide +kernel)))) (tw hts (List.mem_append_right _ (List.mem_of_getElem? (i := 1280) (by decide +kernel)))) (tw hts (List.mem_append_right _ (List.mem_of_getElem? (i := 1281) (by decide +kernel)))) rfl (by decide +kernel) ⟨Nat.le_of_ble_eq_true rfl, Nat.le_of_ble_eq_true rfl⟩) ⟨WR.blind, WR.pre hPc hK2 hDc hNW⟩ rfl rfl hl.1 rfl (lv_room (Nat.le_of_ble_eq_true rfl)) dL_law_12 ⟨by decide, by decide⟩) hS (fun q _ h => hFc q h) hFc (fun a9 t H1 locs ht hvm hbb hB hz1 hk1 hS => ?_)
  obtain ⟨hP1, hD1⟩ := hB
  rw [ht] at hP1
  try dsimp only at hbb
  obtain ⟨hPj, hDj⟩ := va_join (wr := (wX8 cI cZ cS (fun _ => none) (fun _ => none) a8 z8)) (w1 := (wX9 cI cZ a9 z9)) hP hD [42] [0, 1, 2, 3, 4, 5, 6, 7, 8, 9, 10, 11, 12, 13, 14, 15, 16, 17, 18, 19, 20, 21, 22, 23, 24, 25, 26, 27, 28, 29, 30, 31, 32, 33, 34, 35, 36, 37, 38, 39, 40, 41] rfl rfl (by decide) (by decide) hk1 hFc hP1 hD1
  subst hbb
  generalize H1 = H at hPj hS ⊢
  have hP : va_P (dC, dI) vwCl ((wX8 cI cZ cS (fun _ => none) (fun _ => none) a8 z8) ++ wX9 cI cZ a9 z9) H := hPj
  have hD : va_D (fun q : Nat => s.heap.size ≤ q) ((wX8 cI cZ cS (fun _ => none) (fun _ => none) a8 z8) ++ wX9 cI cZ a9 z9) := hDj
  refine lv_astore_n (lv' := [(2, .ref (a9 0)), (1, .ref (a8 0)), (0, .ref b)]) hx hb dL_law_15 rfl hl (by decide) rfl (fun ls hl => ?_)
  refine lv_iconst (v := (1 : Int32)) hx hb dL_law_16 (by decide) ?_
  refine newKL (cL := cL) 3 hx hb (tw hts (List.mem_append_right _ (List.mem_of_getElem? (i := 1887) (by decide +kernel)))) hK rfl hP hD hS hA (n := (1 : Int32)) (N' := 1) (by decide) rfl (by decide) (by decide) (by decide) dL_law_17 (fun o H hP hD hS => ?_)
  refine lv_astore_n (lv' := [(3, .ref o), (2, .ref (a9 0)), (1, .ref (a8 0)), (0, .ref b)]) hx hb dL_law_19 rfl hl (by decide) rfl (fun ls hl => ?_)
  refine lv_iconst (v := (0 : Int32)) hx hb dL_law_20 (by decide) ?_
  refine lv_istore (lv' := [(4, .int (0 : Int32)), (3, .ref o), (2, .ref (a9 0)), (1, .ref (a8 0)), (0, .ref b)]) hx hb dL_law_21 hl (by decide) rfl (fun ls hl => ?_)
  rw [hs0_w] at hP hD
  have hP : va_P (dC, dI) vwCl ((wLaw cI cZ cS cL (fun _ => none) o (fun _ => 0) a8 z8 a9 z9) ++ RW cI cZ (fun _ => none)) H := (hP.sub (ws' := (wLaw cI cZ cS cL (fun _ => none) o (fun _ => 0) a8 z8 a9 z9)) [51, 0, 1, 2, 3, 4, 5, 6, 7, 8, 9, 10, 11, 12, 13, 14, 15, 16, 17, 18, 19, 20, 21, 22, 23, 24, 25, 26, 27, 28, 29, 30, 31, 32, 33, 34, 35, 36, 37, 38, 39, 40, 41, 42, 43, 44, 45, 46, 47, 48, 49, 50] rfl).app (fun k q h => by cases (List.getElem?_eq_some_iff.mp h).1)
  have hD : va_D (fun q : Nat => s.heap.size ≤ q) ((wLaw cI cZ cS cL (fun _ => none) o (fun _ => 0) a8 z8 a9 z9) ++ RW cI cZ (fun _ => none)) := by
    have h1 := hD.sub (ws' := (wLaw cI cZ cS cL (fun _ => none) o (fun _ => 0) a8 z8 a9 z9)) [51, 0, 1, 2, 3, 4, 5, 6, 7, 8, 9, 10, 11, 12, 13, 14, 15, 16, 17, 18, 19, 20, 21, 22, 23, 24, 25, 26, 27, 28, 29, 30, 31, 32, 33, 34, 35, 36, 37, 38, 39, 40, 41, 42, 43, 44, 45, 46, 47, 48, 49, 50] (by decide) rfl
    show va_D _ ((wLaw cI cZ cS cL (fun _ => none) o (fun _ => 0) a8 z8 a9 z9) ++ [])
    rw [List.append_nil]
    exact h1
  refine lw_loop X0 hLaw hL (Q := lw_Z below #[Value.ref b] s) (fun H locs cells slots ls hlo hc hs => ?_) 512 0 rfl (fun _ => none) (fun _ => 0) z8 z9 hI ls H _ _ _ (by decide) (by decide) (lv_sub hl [4, 3, 2, 1, 0] rfl) hP hD hS
  refine lv_iconst (v := (1 : Int32)) hx hb dL_law_3562 (by decide) ?_
  refine va_forget (fun q hq => hlo q hq) ?_
  refine W.widen (k := 601024) (n := 7293034) hc hs ?_
  refine W.base ?_
  exact lw_ret (Drawn.sameBut.refl s.drawn lw_cs) hx hb hr hlocks dL_law_3563
