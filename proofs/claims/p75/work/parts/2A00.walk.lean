set_option maxHeartbeats 4000000 in
set_option maxRecDepth 100000 in
theorem c_J6_bitCount_0f7a4 (l : Launch) (a0 : Int32) (z : Int32) (hf : fJ6_bitCount_0f7a4 a0 = some z) : Met l yJ6_bitCount_0f7a4 wsJ6_bitCount_0f7a4 ({ frames := 0, cells := 0, slots := 0, locals := 0 } : Room) (va_Pc [.int a0] (fun _ => True)) (k2_QcV (.int z)) 0 0 (fun _ => False) := by
  refine Met.ofW (cc := cJ6_bitCount_0f7a4) (maxL := 1) (ret := (some .int)) (by decide) rfl ?_
  intro p e s m args below meth c s₁ B hml hv
  obtain ⟨rfl, -⟩ := hv
  have hx := B.exec
  have hb := B.bytes
  have hr := B.returns
  have hts := atoms_spec (ws := wsJ6_bitCount_0f7a4) B.pre
  have hown : s.vm.findClass RJ6 = some m.cls := findClass_of_methodNamed B.named
  have hlocks := B.notSynchronized
  have hw0 := hts (.constant RJ6 265 (1431655765)) (by decide +kernel)
  have hw1 := hts (.constant RJ6 266 (858993459)) (by decide +kernel)
  have hw2 := hts (.constant RJ6 267 (252645135)) (by decide +kernel)
  have hl := lv_entry ([.int a0]) (n := 1) (Nat.le_of_ble_eq_true rfl)
  rw [lg_entry_eq]
  generalize (lg_sl ([.int a0]) ++ List.replicate (1 - (lg_sl ([.int a0])).length) Slot.unset).toArray = ls at hl ⊢
  have hl : lv_has ls 1 [(0, .int a0)] := hl
  unfold fJ6_bitCount_0f7a4 at hf
  refine lv_iload_n hx hb dJ6_bitCount_0f7a4_0 rfl (lv_at hl 0 rfl) ?_
  refine lv_iload_n hx hb dJ6_bitCount_0f7a4_1 rfl (lv_at hl 0 rfl) ?_
  refine lv_iconst (v := (1 : Int32)) hx hb dJ6_bitCount_0f7a4_2 (by decide) ?_
  refine lv_iushr (v := ((a0.toUInt32 >>> ((1 : Int32).toUInt32 &&& Int32.toUInt32 31)).toInt32)) hx hb dJ6_bitCount_0f7a4_3 rfl ?_
  refine lv_ldcw (v := (1431655765 : Int32)) hx hb hown hw0 dJ6_bitCount_0f7a4_4 ?_
  refine lv_iand hx hb dJ6_bitCount_0f7a4_7 ?_
  refine lv_isub hx hb dJ6_bitCount_0f7a4_8 ?_
  refine lv_istore_n (lv' := [(0, .int (a0 - (((a0.toUInt32 >>> ((1 : Int32).toUInt32 &&& Int32.toUInt32 31)).toInt32) &&& (1431655765 : Int32))))]) hx hb dJ6_bitCount_0f7a4_9 rfl hl (by decide) rfl (fun ls hl => ?_)
  refine lv_iload_n hx hb dJ6_bitCount_0f7a4_10 rfl (lv_at hl 0 rfl) ?_
  refine lv_ldcw (v := (858993459 : Int32)) hx hb hown hw1 dJ6_bitCount_0f7a4_11 ?_
  refine lv_iand hx hb dJ6_bitCount_0f7a4_14 ?_
  refine lv_iload_n hx hb dJ6_bitCount_0f7a4_15 rfl (lv_at hl 0 rfl) ?_
  refine lv_iconst (v := (2 : Int32)) hx hb dJ6_bitCount_0f7a4_16 (by decide) ?_
  refine lv_iushr (v := (((a0 - (((a0.toUInt32 >>> ((1 : Int32).toUInt32 &&& Int32.toUInt32 31)).toInt32) &&& (1431655765 : Int32))).toUInt32 >>> ((2 : Int32).toUInt32 &&& Int32.toUInt32 31)).toInt32)) hx hb dJ6_bitCount_0f7a4_17 rfl ?_
  refine lv_ldcw (v := (858993459 : Int32)) hx hb hown hw1 dJ6_bitCount_0f7a4_18 ?_
  refine lv_iand hx hb dJ6_bitCount_0f7a4_21 ?_
  refine lv_iadd hx hb dJ6_bitCount_0f7a4_22 ?_
  refine lv_istore_n (lv' := [(0, .int (((a0 - (((a0.toUInt32 >>> ((1 : Int32).toUInt32 &&& Int32.toUInt32 31)).toInt32) &&& (1431655765 : Int32))) &&& (858993459 : Int32)) + ((((a0 - (((a0.toUInt32 >>> ((1 : Int32).toUInt32 &&& Int32.toUInt32 31)).toInt32) &&& (1431655765 : Int32))).toUInt32 >>> ((2 : Int32).toUInt32 &&& Int32.toUInt32 31)).toInt32) &&& (858993459 : Int32))))]) hx hb dJ6_bitCount_0f7a4_23 rfl hl (by decide) rfl (fun ls hl => ?_)
  refine lv_iload_n hx hb dJ6_bitCount_0f7a4_24 rfl (lv_at hl 0 rfl) ?_
  refine lv_iload_n hx hb dJ6_bitCount_0f7a4_25 rfl (lv_at hl 0 rfl) ?_
  refine lv_iconst (v := (4 : Int32)) hx hb dJ6_bitCount_0f7a4_26 (by decide) ?_
  refine lv_iushr (v := (((((a0 - (((a0.toUInt32 >>> ((1 : Int32).toUInt32 &&& Int32.toUInt32 31)).toInt32) &&& (1431655765 : Int32))) &&& (858993459 : Int32)) + ((((a0 - (((a0.toUInt32 >>> ((1 : Int32).toUInt32 &&& Int32.toUInt32 31)).toInt32) &&& (1431655765 : Int32))).toUInt32 >>> ((2 : Int32).toUInt32 &&& Int32.toUInt32 31)).toInt32) &&& (858993459 : Int32))).toUInt32 >>> ((4 : Int32).toUInt32 &&& Int32.toUInt32 31)).toInt32)) hx hb dJ6_bitCount_0f7a4_27 rfl ?_
  refine lv_iadd hx hb dJ6_bitCount_0f7a4_28 ?_
  refine lv_ldcw (v := (252645135 : Int32)) hx hb hown hw2 dJ6_bitCount_0f7a4_29 ?_
  refine lv_iand hx hb dJ6_bitCount_0f7a4_32 ?_
  refine lv_istore_n (lv' := [(0, .int (((((a0 - (((a0.toUInt32 >>> ((1 : Int32).toUInt32 &&& Int32.toUInt32 31)).toInt32) &&& (1431655765 : Int32))) &&& (858993459 : Int32)) + ((((a0 - (((a0.toUInt32 >>> ((1 : Int32).toUInt32 &&& Int32.toUInt32 31)).toInt32) &&& (1431655765 : Int32))).toUInt32 >>> ((2 : Int32).toUInt32 &&& Int32.toUInt32 31)).toInt32) &&& (858993459 : Int32))) + (((((a0 - (((a0.toUInt32 >>> ((1 : Int32).toUInt32 &&& Int32.toUInt32 31)).toInt32) &&& (1431655765 : Int32))) &&& (858993459 : Int32)) + ((((a0 - (((a0.toUInt32 >>> ((1 : Int32).toUInt32 &&& Int32.toUInt32 31)).toInt32) &&& (1431655765 : Int32))).toUInt32 >>> ((2 : Int32).toUInt32 &&& Int32.toUInt32 31)).toInt32) &&& (858993459 : Int32))).toUInt32 >>> ((4 : Int32).toUInt32 &&& Int32.toUInt32 31)).toInt32)) &&& (252645135 : Int32)))]) hx hb dJ6_bitCount_0f7a4_33 rfl hl (by decide) rfl (fun ls hl => ?_)
  refine lv_iload_n hx hb dJ6_bitCount_0f7a4_34 rfl (lv_at hl 0 rfl) ?_
  refine lv_iload_n hx hb dJ6_bitCount_0f7a4_35 rfl (lv_at hl 0 rfl) ?_
  refine lv_bipush (v := (8 : Int32)) hx hb dJ6_bitCount_0f7a4_36 (by decide) ?_
  refine lv_iushr (v := (((((((a0 - (((a0.toUInt32 >>> ((1 : Int32).toUInt32 &&& Int32.toUInt32 31)).toInt32) &&& (1431655765 : Int32))) &&& (858993459 : Int32)) + ((((a0 - (((a0.toUInt32 >>> ((1 : Int32).toUInt32 &&& Int32.toUInt32 31)).toInt32) &&& (1431655765 : Int32))).toUInt32 >>> ((2 : Int32).toUInt32 &&& Int32.toUInt32 31)).toInt32) &&& (858993459 : Int32))) + (((((a0 - (((a0.toUInt32 >>> ((1 : Int32).toUInt32 &&& Int32.toUInt32 31)).toInt32) &&& (1431655765 : Int32))) &&& (858993459 : Int32)) + ((((a0 - (((a0.toUInt32 >>> ((1 : Int32).toUInt32 &&& Int32.toUInt32 31)).toInt32) &&& (1431655765 : Int32))).toUInt32 >>> ((2 : Int32).toUInt32 &&& Int32.toUInt32 31)).toInt32) &&& (858993459 : Int32))).toUInt32 >>> ((4 : Int32).toUInt32 &&& Int32.toUInt32 31)).toInt32)) &&& (252645135 : Int32)).toUInt32 >>> ((8 : Int32).toUInt32 &&& Int32.toUInt32 31)).toInt32)) hx hb dJ6_bitCount_0f7a4_38 rfl ?_
  refine lv_iadd hx hb dJ6_bitCount_0f7a4_39 ?_
  refine lv_istore_n (lv' := [(0, .int ((((((a0 - (((a0.toUInt32 >>> ((1 : Int32).toUInt32 &&& Int32.toUInt32 31)).toInt32) &&& (1431655765 : Int32))) &&& (858993459 : Int32)) + ((((a0 - (((a0.toUInt32 >>> ((1 : Int32).toUInt32 &&& Int32.toUInt32 31)).toInt32) &&& (1431655765 : Int32))).toUInt32 >>> ((2 : Int32).toUInt32 &&& Int32.toUInt32 31)).toInt32) &&& (858993459 : Int32))) + (((((a0 - (((a0.toUInt32 >>> ((1 : Int32).toUInt32 &&& Int32.toUInt32 31)).toInt32) &&& (1431655765 : Int32))) &&& (858993459 : Int32)) + ((((a0 - (((a0.toUInt32 >>> ((1 : Int32).toUInt32 &&& Int32.toUInt32 31)).toInt32) &&& (1431655765 : Int32))).toUInt32 >>> ((2 : Int32).toUInt32 &&& Int32.toUInt32 31)).toInt32) &&& (858993459 : Int32))).toUInt32 >>> ((4 : Int32).toUInt32 &&& Int32.toUInt32 31)).toInt32)) &&& (252645135 : Int32)) + (((((((a0 - (((a0.toUInt32 >>> ((1 : Int32).toUInt32 &&& Int32.toUInt32 31)).toInt32) &&& (1431655765 : Int32))) &&& (858993459 : Int32)) + ((((a0 - (((a0.toUInt32 >>> ((1 : Int32).toUInt32 &&& Int32.toUInt32 31)).toInt32) &&& (1431655765 : Int32))).toUInt32 >>> ((2 : Int32).toUInt32 &&& Int32.toUInt32 31)).toInt32) &&& (858993459 : Int32))) + (((((a0 - (((a0.toUInt32 >>> ((1 : Int32).toUInt32 &&& Int32.toUInt32 31)).toInt32) &&& (1431655765 : Int32))) &&& (858993459 : Int32)) + ((((a0 - (((a0.toUInt32 >>> ((1 : Int32).toUInt32 &&& Int32.toUInt32 31)).toInt32) &&& (1431655765 : Int32))).toUInt32 >>> ((2 : Int32).toUInt32 &&& Int32.toUInt32 31)).toInt32) &&& (858993459 : Int32))).toUInt32 >>> ((4 : Int32).toUInt32 &&& Int32.toUInt32 31)).toInt32)) &&& (252645135 : Int32)).toUInt32 >>> ((8 : Int32).toUInt32 &&& Int32.toUInt32 31)).toInt32)))]) hx hb dJ6_bitCount_0f7a4_40 rfl hl (by decide) rfl (fun ls hl => ?_)
  refine lv_iload_n hx hb dJ6_bitCount_0f7a4_41 rfl (lv_at hl 0 rfl) ?_
  refine lv_iload_n hx hb dJ6_bitCount_0f7a4_42 rfl (lv_at hl 0 rfl) ?_
  refine lv_bipush (v := (16 : Int32)) hx hb dJ6_bitCount_0f7a4_43 (by decide) ?_
  refine lv_iushr (v := ((((((((a0 - (((a0.toUInt32 >>> ((1 : Int32).toUInt32 &&& Int32.toUInt32 31)).toInt32) &&& (1431655765 : Int32))) &&& (858993459 : Int32)) + ((((a0 - (((a0.toUInt32 >>> ((1 : Int32).toUInt32 &&& Int32.toUInt32 31)).toInt32) &&& (1431655765 : Int32))).toUInt32 >>> ((2 : Int32).toUInt32 &&& Int32.toUInt32 31)).toInt32) &&& (858993459 : Int32))) + (((((a0 - (((a0.toUInt32 >>> ((1 : Int32).toUInt32 &&& Int32.toUInt32 31)).toInt32) &&& (1431655765 : Int32))) &&& (858993459 : Int32)) + ((((a0 - (((a0.toUInt32 >>> ((1 : Int32).toUInt32 &&& Int32.toUInt32 31)).toInt32) &&& (1431655765 : Int32))).toUInt32 >>> ((2 : Int32).toUInt32 &&& Int32.toUInt32 31)).toInt32) &&& (858993459 : Int32))).toUInt32 >>> ((4 : Int32).toUInt32 &&& Int32.toUInt32 31)).toInt32)) &&& (252645135 : Int32)) + (((((((a0 - (((a0.toUInt32 >>> ((1 : Int32).toUInt32 &&& Int32.toUInt32 31)).toInt32) &&& (1431655765 : Int32))) &&& (858993459 : Int32)) + ((((a0 - (((a0.toUInt32 >>> ((1 : Int32).toUInt32 &&& Int32.toUInt32 31)).toInt32) &&& (1431655765 : Int32))).toUInt32 >>> ((2 : Int32).toUInt32 &&& Int32.toUInt32 31)).toInt32) &&& (858993459 : Int32))) + (((((a0 - (((a0.toUInt32 >>> ((1 : Int32).toUInt32 &&& Int32.toUInt32 31)).toInt32) &&& (1431655765 : Int32))) &&& (858993459 : Int32)) + ((((a0 - (((a0.toUInt32 >>> ((1 : Int32).toUInt32 &&& Int32.toUInt32 31)).toInt32) &&& (1431655765 : Int32))).toUInt32 >>> ((2 : Int32).toUInt32 &&& Int32.toUInt32 31)).toInt32) &&& (858993459 : Int32))).toUInt32 >>> ((4 : Int32).toUInt32 &&& Int32.toUInt32 31)).toInt32)) &&& (252645135 : Int32)).toUInt32 >>> ((8 : Int32).toUInt32 &&& Int32.toUInt32 31)).toInt32)).toUInt32 >>> ((16 : Int32).toUInt32 &&& Int32.toUInt32 31)).toInt32)) hx hb dJ6_bitCount_0f7a4_45 rfl ?_
  refine lv_iadd hx hb dJ6_bitCount_0f7a4_46 ?_
  refine lv_istore_n (lv' := [(0, .int (((((((a0 - (((a0.toUInt32 >>> ((1 : Int32).toUInt32 &&& Int32.toUInt32 31)).toInt32) &&& (1431655765 : Int32))) &&& (858993459 : Int32)) + ((((a0 - (((a0.toUInt32 >>> ((1 : Int32).toUInt32 &&& Int32.toUInt32 31)).toInt32) &&& (1431655765 : Int32))).toUInt32 >>> ((2 : Int32).toUInt32 &&& Int32.toUInt32 31)).toInt32) &&& (858993459 : Int32))) + (((((a0 - (((a0.toUInt32 >>> ((1 : Int32).toUInt32 &&& Int32.toUInt32 31)).toInt32) &&& (1431655765 : Int32))) &&& (858993459 : Int32)) + ((((a0 - (((a0.toUInt32 >>> ((1 : Int32).toUInt32 &&& Int32.toUInt32 31)).toInt32) &&& (1431655765 : Int32))).toUInt32 >>> ((2 : Int32).toUInt32 &&& Int32.toUInt32 31)).toInt32) &&& (858993459 : Int32))).toUInt32 >>> ((4 : Int32).toUInt32 &&& Int32.toUInt32 31)).toInt32)) &&& (252645135 : Int32)) + (((((((a0 - (((a0.toUInt32 >>> ((1 : Int32).toUInt32 &&& Int32.toUInt32 31)).toInt32) &&& (1431655765 : Int32))) &&& (858993459 : Int32)) + ((((a0 - (((a0.toUInt32 >>> ((1 : Int32).toUInt32 &&& Int32.toUInt32 31)).toInt32) &&& (1431655765 : Int32))).toUInt32 >>> ((2 : Int32).toUInt32 &&& Int32.toUInt32 31)).toInt32) &&& (858993459 : Int32))) + (((((a0 - (((a0.toUInt32 >>> ((1 : Int32).toUInt32 &&& Int32.toUInt32 31)).toInt32) &&& (1431655765 : Int32))) &&& (858993459 : Int32)) + ((((a0 - (((a0.toUInt32 >>> ((1 : Int32).toUInt32 &&& Int32.toUInt32 31)).toInt32) &&& (1431655765 : Int32))).toUInt32 >>> ((2 : Int32).toUInt32 &&& Int32.toUInt32 31)).toInt32) &&& (858993459 : Int32))).toUInt32 >>> ((4 : Int32).toUInt32 &&& Int32.toUInt32 31)).toInt32)) &&& (252645135 : Int32)).toUInt32 >>> ((8 : Int32).toUInt32 &&& Int32.toUInt32 31)).toInt32)) + ((((((((a0 - (((a0.toUInt32 >>> ((1 : Int32).toUInt32 &&& Int32.toUInt32 31)).toInt32) &&& (1431655765 : Int32))) &&& (858993459 : Int32)) + ((((a0 - (((a0.toUInt32 >>> ((1 : Int32).toUInt32 &&& Int32.toUInt32 31)).toInt32) &&& (1431655765 : Int32))).toUInt32 >>> ((2 : Int32).toUInt32 &&& Int32.toUInt32 31)).toInt32) &&& (858993459 : Int32))) + (((((a0 - (((a0.toUInt32 >>> ((1 : Int32).toUInt32 &&& Int32.toUInt32 31)).toInt32) &&& (1431655765 : Int32))) &&& (858993459 : Int32)) + ((((a0 - (((a0.toUInt32 >>> ((1 : Int32).toUInt32 &&& Int32.toUInt32 31)).toInt32) &&& (1431655765 : Int32))).toUInt32 >>> ((2 : Int32).toUInt32 &&& Int32.toUInt32 31)).toInt32) &&& (858993459 : Int32))).toUInt32 >>> ((4 : Int32).toUInt32 &&& Int32.toUInt32 31)).toInt32)) &&& (252645135 : Int32)) + (((((((a0 - (((a0.toUInt32 >>> ((1 : Int32).toUInt32 &&& Int32.toUInt32 31)).toInt32) &&& (1431655765 : Int32))) &&& (858993459 : Int32)) + ((((a0 - (((a0.toUInt32 >>> ((1 : Int32).toUInt32 &&& Int32.toUInt32 31)).toInt32) &&& (1431655765 : Int32))).toUInt32 >>> ((2 : Int32).toUInt32 &&& Int32.toUInt32 31)).toInt32) &&& (858993459 : Int32))) + (((((a0 - (((a0.toUInt32 >>> ((1 : Int32).toUInt32 &&& Int32.toUInt32 31)).toInt32) &&& (1431655765 : Int32))) &&& (858993459 : Int32)) + ((((a0 - (((a0.toUInt32 >>> ((1 : Int32).toUInt32 &&& Int32.toUInt32 31)).toInt32) &&& (1431655765 : Int32))).toUInt32 >>> ((2 : Int32).toUInt32 &&& Int32.toUInt32 31)).toInt32) &&& (858993459 : Int32))).toUInt32 >>> ((4 : Int32).toUInt32 &&& Int32.toUInt32 31)).toInt32)) &&& (252645135 : Int32)).toUInt32 >>> ((8 : Int32).toUInt32 &&& Int32.toUInt32 31)).toInt32)).toUInt32 >>> ((16 : Int32).toUInt32 &&& Int32.toUInt32 31)).toInt32)))]) hx hb dJ6_bitCount_0f7a4_47 rfl hl (by decide) rfl (fun ls hl => ?_)
  refine lv_iload_n hx hb dJ6_bitCount_0f7a4_48 rfl (lv_at hl 0 rfl) ?_
  refine lv_bipush (v := (63 : Int32)) hx hb dJ6_bitCount_0f7a4_49 (by decide) ?_
  refine lv_iand hx hb dJ6_bitCount_0f7a4_51 ?_
  exact W.iret (v := ((((((((a0 - (((a0.toUInt32 >>> ((1 : Int32).toUInt32 &&& Int32.toUInt32 31)).toInt32) &&& (1431655765 : Int32))) &&& (858993459 : Int32)) + ((((a0 - (((a0.toUInt32 >>> ((1 : Int32).toUInt32 &&& Int32.toUInt32 31)).toInt32) &&& (1431655765 : Int32))).toUInt32 >>> ((2 : Int32).toUInt32 &&& Int32.toUInt32 31)).toInt32) &&& (858993459 : Int32))) + (((((a0 - (((a0.toUInt32 >>> ((1 : Int32).toUInt32 &&& Int32.toUInt32 31)).toInt32) &&& (1431655765 : Int32))) &&& (858993459 : Int32)) + ((((a0 - (((a0.toUInt32 >>> ((1 : Int32).toUInt32 &&& Int32.toUInt32 31)).toInt32) &&& (1431655765 : Int32))).toUInt32 >>> ((2 : Int32).toUInt32 &&& Int32.toUInt32 31)).toInt32) &&& (858993459 : Int32))).toUInt32 >>> ((4 : Int32).toUInt32 &&& Int32.toUInt32 31)).toInt32)) &&& (252645135 : Int32)) + (((((((a0 - (((a0.toUInt32 >>> ((1 : Int32).toUInt32 &&& Int32.toUInt32 31)).toInt32) &&& (1431655765 : Int32))) &&& (858993459 : Int32)) + ((((a0 - (((a0.toUInt32 >>> ((1 : Int32).toUInt32 &&& Int32.toUInt32 31)).toInt32) &&& (1431655765 : Int32))).toUInt32 >>> ((2 : Int32).toUInt32 &&& Int32.toUInt32 31)).toInt32) &&& (858993459 : Int32))) + (((((a0 - (((a0.toUInt32 >>> ((1 : Int32).toUInt32 &&& Int32.toUInt32 31)).toInt32) &&& (1431655765 : Int32))) &&& (858993459 : Int32)) + ((((a0 - (((a0.toUInt32 >>> ((1 : Int32).toUInt32 &&& Int32.toUInt32 31)).toInt32) &&& (1431655765 : Int32))).toUInt32 >>> ((2 : Int32).toUInt32 &&& Int32.toUInt32 31)).toInt32) &&& (858993459 : Int32))).toUInt32 >>> ((4 : Int32).toUInt32 &&& Int32.toUInt32 31)).toInt32)) &&& (252645135 : Int32)).toUInt32 >>> ((8 : Int32).toUInt32 &&& Int32.toUInt32 31)).toInt32)) + ((((((((a0 - (((a0.toUInt32 >>> ((1 : Int32).toUInt32 &&& Int32.toUInt32 31)).toInt32) &&& (1431655765 : Int32))) &&& (858993459 : Int32)) + ((((a0 - (((a0.toUInt32 >>> ((1 : Int32).toUInt32 &&& Int32.toUInt32 31)).toInt32) &&& (1431655765 : Int32))).toUInt32 >>> ((2 : Int32).toUInt32 &&& Int32.toUInt32 31)).toInt32) &&& (858993459 : Int32))) + (((((a0 - (((a0.toUInt32 >>> ((1 : Int32).toUInt32 &&& Int32.toUInt32 31)).toInt32) &&& (1431655765 : Int32))) &&& (858993459 : Int32)) + ((((a0 - (((a0.toUInt32 >>> ((1 : Int32).toUInt32 &&& Int32.toUInt32 31)).toInt32) &&& (1431655765 : Int32))).toUInt32 >>> ((2 : Int32).toUInt32 &&& Int32.toUInt32 31)).toInt32) &&& (858993459 : Int32))).toUInt32 >>> ((4 : Int32).toUInt32 &&& Int32.toUInt32 31)).toInt32)) &&& (252645135 : Int32)) + (((((((a0 - (((a0.toUInt32 >>> ((1 : Int32).toUInt32 &&& Int32.toUInt32 31)).toInt32) &&& (1431655765 : Int32))) &&& (858993459 : Int32)) + ((((a0 - (((a0.toUInt32 >>> ((1 : Int32).toUInt32 &&& Int32.toUInt32 31)).toInt32) &&& (1431655765 : Int32))).toUInt32 >>> ((2 : Int32).toUInt32 &&& Int32.toUInt32 31)).toInt32) &&& (858993459 : Int32))) + (((((a0 - (((a0.toUInt32 >>> ((1 : Int32).toUInt32 &&& Int32.toUInt32 31)).toInt32) &&& (1431655765 : Int32))) &&& (858993459 : Int32)) + ((((a0 - (((a0.toUInt32 >>> ((1 : Int32).toUInt32 &&& Int32.toUInt32 31)).toInt32) &&& (1431655765 : Int32))).toUInt32 >>> ((2 : Int32).toUInt32 &&& Int32.toUInt32 31)).toInt32) &&& (858993459 : Int32))).toUInt32 >>> ((4 : Int32).toUInt32 &&& Int32.toUInt32 31)).toInt32)) &&& (252645135 : Int32)).toUInt32 >>> ((8 : Int32).toUInt32 &&& Int32.toUInt32 31)).toInt32)).toUInt32 >>> ((16 : Int32).toUInt32 &&& Int32.toUInt32 31)).toInt32)) &&& (63 : Int32))) hx hb hr (fun t ht hW => ⟨congrArg (fun x => Outcome.returned (some (Value.int x))) (so_e hf), ht⟩) fl0 dJ6_bitCount_0f7a4_52
set_option maxHeartbeats 4000000 in
set_option maxRecDepth 100000 in
theorem c_X7_copyFrom (l : Launch) (dC : Nat → ClassId) (dI : Nat → Nat → Nat) (cI cZ : ClassId) (a : Nat → Nat) (sz : Nat) (M : Mem) (z : Mem) (hf : fX7_copyFrom M  = some z) : Met l yX7_copyFrom wsX7_copyFrom ({ frames := 1, cells := 0, slots := 0, locals := 60 } : Room) (va_Pc [.ref (a 0), .ref (a 5)] (WR (dC, dI) cI cZ (wX7_copyFrom cI cZ a M) sz)) (va_Qv (S := Unit) (fun _ => True) (fun _ t => WE (dC, dI) cI cZ (wX7_copyFrom cI cZ a (sr (sr (sr (sr (sr M 0 (z 0)) 1 (z 1)) 2 (z 2)) 3 (z 3)) 4 (z 4))) (va_A (wX7_copyFrom cI cZ a M) sz) t) (va_A (wX7_copyFrom cI cZ a M) sz)) 0 0 (va_A (wX7_copyFrom cI cZ a M) sz) := by
  refine Met.ofW (cc := cX7_copyFrom) (maxL := 2) (ret := none) (by decide) rfl ?_
  intro p e s m args below meth c s₁ B hml hv
  obtain ⟨rfl, hsz, hP, hK, hD0, hNW⟩ := hv
  have hx := B.exec
  have hb := B.bytes
  have hr := B.returns
  have hts := atoms_spec (ws := wsX7_copyFrom) B.pre
  have hown : s.vm.findClass RX7 = some m.cls := findClass_of_methodNamed B.named
  have hlocks := B.notSynchronized
  have hinX7 : ∀ w ∈ u_ws RX7 TX7 6, w ∈ wsX7_copyFrom := by decide +kernel
  have hw1 := hts (.fieldLink RX7 9 "GlideShelves$Tower" "count" "I") (by decide +kernel)
  have hw2 := hts (.fieldLink RX7 15 "GlideShelves$Tower" "window" "I") (by decide +kernel)
  have hw3 := hts (.fieldLink RX7 18 "GlideShelves$Tower" "heights" "[I") (by decide +kernel)
  have hw4 := hts (.methodLink RX7 31 arraycopyName) (by decide +kernel)
  have hw5 := hts (.native arraycopyName) (by decide +kernel)
  have hw6 := hts (.static arraycopyName) (by decide +kernel)
  have hw7 := hts (.initialized "java/lang/System") (by decide +kernel)
  have hw8 := hts (.fieldLink RX7 22 "GlideShelves$Tower" "places" "[I") (by decide +kernel)
  have hw9 := hts (.fieldLink RX7 25 "GlideShelves$Tower" "uses" "[I") (by decide +kernel)
  have hw10 := hts (.fieldLink RX7 28 "GlideShelves$Tower" "things" "[I") (by decide +kernel)
  subst hsz
  have hD := hD0.self (sz := s.heap.size)
  generalize hAe : va_A (wX7_copyFrom cI cZ a M) s.heap.size = A at hD ⊢
  have hA : ∀ q : Nat, s.heap.size ≤ q → A q := fun q h => by rw [← hAe]; exact Or.inr h
  have hS : va_S A s.heap s.heap [] := va_S.rf
  have hl := lv_entry ([.ref (a 0), .ref (a 5)]) (n := 2) (Nat.le_of_ble_eq_true rfl)
  rw [lg_entry_eq]
  generalize (lg_sl ([.ref (a 0), .ref (a 5)]) ++ List.replicate (2 - (lg_sl ([.ref (a 0), .ref (a 5)])).length) Slot.unset).toArray = ls at hl ⊢
  have hl : lv_has ls 2 [(0, .ref (a 0)), (1, .ref (a 5))] := hl
  unfold fX7_copyFrom at hf
  suffices hgo : ∀ (H : Heap) (locs : List Loc), va_P (dC, dI) vwCl (wX7_copyFrom cI cZ a M) H → va_D A (wX7_copyFrom cI cZ a M) → va_S A s.heap H locs → W p l e (headSpec wsX7_copyFrom ({ frames := 1, cells := 0, slots := 0, locals := 60 } : Room)).room s m ([.ref (a 0), .ref (a 5)] : List Value).toArray below meth c H locs 0 0 (MQ below (va_Qv (S := Unit) (fun _ => True) (fun _ t => WE (dC, dI) cI cZ (wX7_copyFrom cI cZ a (sr (sr (sr (sr (sr M 0 (z 0)) 1 (z 1)) 2 (z 2)) 3 (z 3)) 4 (z 4))) A t) A) ([.ref (a 0), .ref (a 5)] : List Value).toArray s 0 0 A) (F0 m 0 ls []) from hgo _ _ hP hD hS
  intro H locs hP hD hS
  refine lv_aload_n hx hb dX7_copyFrom_0 rfl (lv_at hl 0 rfl) ?_
  refine lv_aload_n hx hb dX7_copyFrom_1 rfl (lv_at hl 1 rfl) ?_
  refine va_get (D := (dC, dI)) (ci := 7) (v := .int (M 5 0)) (C := RX7) (T := TX7) (N := 6) hx hb hts hinX7 hown hK hP 5 rfl rfl 0 (by decide) hw1 (fun _ h9 => h9) rfl dX7_copyFrom_2 ?_
  refine va_put (D := (dC, dI)) (ci := 7) (v := .int (M 5 0)) (ty := .int) (C := RX7) (T := TX7) (N := 6) hx hb hts hinX7 tyX7 tyX7_ok nmX7 hown hK hP hD hS 0 rfl rfl 0 (by decide) hw1 (fun _ h9 => h9) rfl (by decide +kernel) rfl rfl (Nat.le_of_ble_eq_true rfl) dX7_copyFrom_5 (fun H locs hP hD hS => ?_)
  have hP : va_P (dC, dI) vwCl (wX7_copyFrom cI cZ a (sr M 0 (upd (M 0) 0 (M 5 0)))) H := hP
  have hD : va_D A (wX7_copyFrom cI cZ a (sr M 0 (upd (M 0) 0 (M 5 0)))) := hD
  refine lv_aload_n hx hb dX7_copyFrom_8 rfl (lv_at hl 0 rfl) ?_
  refine lv_aload_n hx hb dX7_copyFrom_9 rfl (lv_at hl 1 rfl) ?_
  refine va_get (D := (dC, dI)) (ci := 7) (v := .int (M 5 1)) (C := RX7) (T := TX7) (N := 6) hx hb hts hinX7 hown hK hP 5 rfl rfl 1 (by decide) hw2 (fun _ h9 => h9) rfl dX7_copyFrom_10 ?_
  refine va_put (D := (dC, dI)) (ci := 7) (v := .int (M 5 1)) (ty := .int) (C := RX7) (T := TX7) (N := 6) hx hb hts hinX7 tyX7 tyX7_ok nmX7 hown hK hP hD hS 0 rfl rfl 1 (by decide) hw2 (fun _ h9 => h9) rfl (by decide +kernel) rfl rfl (Nat.le_of_ble_eq_true rfl) dX7_copyFrom_13 (fun H locs hP hD hS => ?_)
  have hP : va_P (dC, dI) vwCl (wX7_copyFrom cI cZ a (sr M 0 (upd (upd (M 0) 0 (M 5 0)) 1 (M 5 1)))) H := hP
  have hD : va_D A (wX7_copyFrom cI cZ a (sr M 0 (upd (upd (M 0) 0 (M 5 0)) 1 (M 5 1)))) := hD
  refine lv_aload_n hx hb dX7_copyFrom_16 rfl (lv_at hl 1 rfl) ?_
  refine va_get (D := (dC, dI)) (ci := 7) (v := .ref (a 6)) (C := RX7) (T := TX7) (N := 6) hx hb hts hinX7 hown hK hP 5 rfl rfl 2 (by decide) hw3 (fun _ h9 => h9) rfl dX7_copyFrom_17 ?_
  refine lv_iconst (v := (0 : Int32)) hx hb dX7_copyFrom_20 (by decide) ?_
  refine lv_aload_n hx hb dX7_copyFrom_21 rfl (lv_at hl 0 rfl) ?_
  refine va_get (D := (dC, dI)) (ci := 7) (v := .ref (a 1)) (C := RX7) (T := TX7) (N := 6) hx hb hts hinX7 hown hK hP 0 rfl rfl 2 (by decide) hw3 (fun _ h9 => h9) rfl dX7_copyFrom_22 ?_
  refine lv_iconst (v := (0 : Int32)) hx hb dX7_copyFrom_25 (by decide) ?_
  refine lv_bipush (v := (12 : Int32)) hx hb dX7_copyFrom_26 (by decide) ?_
  obtain ⟨hz, hf⟩ := gd_s hf
  obtain ⟨h1, h2, h3, h4, h5⟩ := cpk_s hz
  refine va_copyi (D := (dC, dI)) (f := (M 6)) (g := (M 1)) (ty := .int) hx hb (hml.trans hl.1.symm) hown hw4 hw5 hw6 hw7 hK hP hD hS 6 1 0 0 rfl rfl rfl rfl rfl h1 h2 h3 h4 h5 (fun _ _ => rfl) (Nat.le_of_ble_eq_true rfl) (by decide +kernel) dX7_copyFrom_28 (fun H locs hP hD hS => ?_)
  have hP : va_P (dC, dI) vwCl (wX7_copyFrom cI cZ a (sr (sr M 0 (upd (upd (M 0) 0 (M 5 0)) 1 (M 5 1))) 1 (va_cpy (M 6) (M 1) (0 : Int32).toNatClampNeg (0 : Int32).toNatClampNeg (12 : Int32).toNatClampNeg))) H := hP
  have hD : va_D A (wX7_copyFrom cI cZ a (sr (sr M 0 (upd (upd (M 0) 0 (M 5 0)) 1 (M 5 1))) 1 (va_cpy (M 6) (M 1) (0 : Int32).toNatClampNeg (0 : Int32).toNatClampNeg (12 : Int32).toNatClampNeg))) := hD
  refine lv_aload_n hx hb dX7_copyFrom_31 rfl (lv_at hl 1 rfl) ?_
  refine va_get (D := (dC, dI)) (ci := 7) (v := .ref (a 7)) (C := RX7) (T := TX7) (N := 6) hx hb hts hinX7 hown hK hP 5 rfl rfl 3 (by decide) hw8 (fun _ h9 => h9) rfl dX7_copyFrom_32 ?_
  refine lv_iconst (v := (0 : Int32)) hx hb dX7_copyFrom_35 (by decide) ?_
  refine lv_aload_n hx hb dX7_copyFrom_36 rfl (lv_at hl 0 rfl) ?_
  refine va_get (D := (dC, dI)) (ci := 7) (v := .ref (a 2)) (C := RX7) (T := TX7) (N := 6) hx hb hts hinX7 hown hK hP 0 rfl rfl 3 (by decide) hw8 (fun _ h9 => h9) rfl dX7_copyFrom_37 ?_
  refine lv_iconst (v := (0 : Int32)) hx hb dX7_copyFrom_40 (by decide) ?_
  refine lv_bipush (v := (12 : Int32)) hx hb dX7_copyFrom_41 (by decide) ?_
  obtain ⟨hz, hf⟩ := gd_s hf
  obtain ⟨h1, h2, h3, h4, h5⟩ := cpk_s hz
  refine va_copyi (D := (dC, dI)) (f := (M 7)) (g := (M 2)) (ty := .int) hx hb (hml.trans hl.1.symm) hown hw4 hw5 hw6 hw7 hK hP hD hS 7 2 0 0 rfl rfl rfl rfl rfl h1 h2 h3 h4 h5 (fun _ _ => rfl) (Nat.le_of_ble_eq_true rfl) (by decide +kernel) dX7_copyFrom_43 (fun H locs hP hD hS => ?_)
  have hP : va_P (dC, dI) vwCl (wX7_copyFrom cI cZ a (sr (sr (sr M 0 (upd (upd (M 0) 0 (M 5 0)) 1 (M 5 1))) 1 (va_cpy (M 6) (M 1) (0 : Int32).toNatClampNeg (0 : Int32).toNatClampNeg (12 : Int32).toNatClampNeg)) 2 (va_cpy (M 7) (M 2) (0 : Int32).toNatClampNeg (0 : Int32).toNatClampNeg (12 : Int32).toNatClampNeg))) H := hP
  have hD : va_D A (wX7_copyFrom cI cZ a (sr (sr (sr M 0 (upd (upd (M 0) 0 (M 5 0)) 1 (M 5 1))) 1 (va_cpy (M 6) (M 1) (0 : Int32).toNatClampNeg (0 : Int32).toNatClampNeg (12 : Int32).toNatClampNeg)) 2 (va_cpy (M 7) (M 2) (0 : Int32).toNatClampNeg (0 : Int32).toNatClampNeg (12 : Int32).toNatClampNeg))) := hD
  refine lv_aload_n hx hb dX7_copyFrom_46 rfl (lv_at hl 1 rfl) ?_
  refine va_get (D := (dC, dI)) (ci := 7) (v := .ref (a 8)) (C := RX7) (T := TX7) (N := 6) hx hb hts hinX7 hown hK hP 5 rfl rfl 4 (by decide) hw9 (fun _ h9 => h9) rfl dX7_copyFrom_47 ?_
  refine lv_iconst (v := (0 : Int32)) hx hb dX7_copyFrom_50 (by decide) ?_
  refine lv_aload_n hx hb dX7_copyFrom_51 rfl (lv_at hl 0 rfl) ?_
  refine va_get (D := (dC, dI)) (ci := 7) (v := .ref (a 3)) (C := RX7) (T := TX7) (N := 6) hx hb hts hinX7 hown hK hP 0 rfl rfl 4 (by decide) hw9 (fun _ h9 => h9) rfl dX7_copyFrom_52 ?_
  refine lv_iconst (v := (0 : Int32)) hx hb dX7_copyFrom_55 (by decide) ?_
  refine lv_bipush (v := (12 : Int32)) hx hb dX7_copyFrom_56 (by decide) ?_
  obtain ⟨hz, hf⟩ := gd_s hf
  obtain ⟨h1, h2, h3, h4, h5⟩ := cpk_s hz
  refine va_copyi (D := (dC, dI)) (f := (M 8)) (g := (M 3)) (ty := .int) hx hb (hml.trans hl.1.symm) hown hw4 hw5 hw6 hw7 hK hP hD hS 8 3 0 0 rfl rfl rfl rfl rfl h1 h2 h3 h4 h5 (fun _ _ => rfl) (Nat.le_of_ble_eq_true rfl) (by decide +kernel) dX7_copyFrom_58 (fun H locs hP hD hS => ?_)
  have hP : va_P (dC, dI) vwCl (wX7_copyFrom cI cZ a (sr (sr (sr (sr M 0 (upd (upd (M 0) 0 (M 5 0)) 1 (M 5 1))) 1 (va_cpy (M 6) (M 1) (0 : Int32).toNatClampNeg (0 : Int32).toNatClampNeg (12 : Int32).toNatClampNeg)) 2 (va_cpy (M 7) (M 2) (0 : Int32).toNatClampNeg (0 : Int32).toNatClampNeg (12 : Int32).toNatClampNeg)) 3 (va_cpy (M 8) (M 3) (0 : Int32).toNatClampNeg (0 : Int32).toNatClampNeg (12 : Int32).toNatClampNeg))) H := hP
  have hD : va_D A (wX7_copyFrom cI cZ a (sr (sr (sr (sr M 0 (upd (upd (M 0) 0 (M 5 0)) 1 (M 5 1))) 1 (va_cpy (M 6) (M 1) (0 : Int32).toNatClampNeg (0 : Int32).toNatClampNeg (12 : Int32).toNatClampNeg)) 2 (va_cpy (M 7) (M 2) (0 : Int32).toNatClampNeg (0 : Int32).toNatClampNeg (12 : Int32).toNatClampNeg)) 3 (va_cpy (M 8) (M 3) (0 : Int32).toNatClampNeg (0 : Int32).toNatClampNeg (12 : Int32).toNatClampNeg))) := hD
  refine lv_aload_n hx hb dX7_copyFrom_61 rfl (lv_at hl 1 rfl) ?_
  refine va_get (D := (dC, dI)) (ci := 7) (v := .ref (a 9)) (C := RX7) (T := TX7) (N := 6) hx hb hts hinX7 hown hK hP 5 rfl rfl 5 (by decide) hw10 (fun _ h9 => h9) rfl dX7_copyFrom_62 ?_
  refine lv_iconst (v := (0 : Int32)) hx hb dX7_copyFrom_65 (by decide) ?_
  refine lv_aload_n hx hb dX7_copyFrom_66 rfl (lv_at hl 0 rfl) ?_
  refine va_get (D := (dC, dI)) (ci := 7) (v := .ref (a 4)) (C := RX7) (T := TX7) (N := 6) hx hb hts hinX7 hown hK hP 0 rfl rfl 5 (by decide) hw10 (fun _ h9 => h9) rfl dX7_copyFrom_67 ?_
  refine lv_iconst (v := (0 : Int32)) hx hb dX7_copyFrom_70 (by decide) ?_
  refine lv_bipush (v := (120 : Int32)) hx hb dX7_copyFrom_71 (by decide) ?_
  obtain ⟨hz, hf⟩ := gd_s hf
  obtain ⟨h1, h2, h3, h4, h5⟩ := cpk_s hz
  refine va_copyi (D := (dC, dI)) (f := (M 9)) (g := (M 4)) (ty := .int) hx hb (hml.trans hl.1.symm) hown hw4 hw5 hw6 hw7 hK hP hD hS 9 4 0 0 rfl rfl rfl rfl rfl h1 h2 h3 h4 h5 (fun _ _ => rfl) (Nat.le_of_ble_eq_true rfl) (by decide +kernel) dX7_copyFrom_73 (fun H locs hP hD hS => ?_)
  have hP : va_P (dC, dI) vwCl (wX7_copyFrom cI cZ a (sr (sr (sr (sr (sr M 0 (upd (upd (M 0) 0 (M 5 0)) 1 (M 5 1))) 1 (va_cpy (M 6) (M 1) (0 : Int32).toNatClampNeg (0 : Int32).toNatClampNeg (12 : Int32).toNatClampNeg)) 2 (va_cpy (M 7) (M 2) (0 : Int32).toNatClampNeg (0 : Int32).toNatClampNeg (12 : Int32).toNatClampNeg)) 3 (va_cpy (M 8) (M 3) (0 : Int32).toNatClampNeg (0 : Int32).toNatClampNeg (12 : Int32).toNatClampNeg)) 4 (va_cpy (M 9) (M 4) (0 : Int32).toNatClampNeg (0 : Int32).toNatClampNeg (120 : Int32).toNatClampNeg))) H := hP
  have hD : va_D A (wX7_copyFrom cI cZ a (sr (sr (sr (sr (sr M 0 (upd (upd (M 0) 0 (M 5 0)) 1 (M 5 1))) 1 (va_cpy (M 6) (M 1) (0 : Int32).toNatClampNeg (0 : Int32).toNatClampNeg (12 : Int32).toNatClampNeg)) 2 (va_cpy (M 7) (M 2) (0 : Int32).toNatClampNeg (0 : Int32).toNatClampNeg (12 : Int32).toNatClampNeg)) 3 (va_cpy (M 8) (M 3) (0 : Int32).toNatClampNeg (0 : Int32).toNatClampNeg (12 : Int32).toNatClampNeg)) 4 (va_cpy (M 9) (M 4) (0 : Int32).toNatClampNeg (0 : Int32).toNatClampNeg (120 : Int32).toNatClampNeg))) := hD
  have e9 := so_e hf
  subst e9
  exact W.vret hx hb hr (fun t ht hW => ⟨⟨(), rfl, trivial, WE.mk hP hD ht⟩, hS.F ht⟩) hS.2.2 dX7_copyFrom_76
set_option maxHeartbeats 4000000 in
set_option maxRecDepth 100000 in
theorem c_X7_addAt (l : Launch) (dC : Nat → ClassId) (dI : Nat → Nat → Nat) (cI cZ : ClassId) (a : Nat → Nat) (sz : Nat) (M : Mem) (a1 : Int32) (a2 : Int32) (z : Int32 × Mem) (hf : fX7_addAt M a1 a2 = some z) : Met l yX7_addAt wsX7_addAt ({ frames := 0, cells := 0, slots := 0, locals := 0 } : Room) (va_Pc [.ref (a 0), .int a1, .int a2] (WR (dC, dI) cI cZ (wX7 cI cZ a M) sz)) (va_Qi (S := Unit) (fun r _ => r = z.1) (fun _ t => WE (dC, dI) cI cZ (wX7 cI cZ a (sr (sr (sr (sr (sr M 0 (z.2 0)) 1 (z.2 1)) 2 (z.2 2)) 3 (z.2 3)) 4 (z.2 4))) (va_A (wX7 cI cZ a M) sz) t) (va_A (wX7 cI cZ a M) sz)) 0 0 (va_A (wX7 cI cZ a M) sz) := by
  refine Met.ofW (cc := cX7_addAt) (maxL := 5) (ret := (some .int)) (by decide) rfl ?_
  intro p e s m args below meth c s₁ B hml hv
  obtain ⟨rfl, hsz, hP, hK, hD0, hNW⟩ := hv
  have hx := B.exec
  have hb := B.bytes
  have hr := B.returns
  have hts := atoms_spec (ws := wsX7_addAt) B.pre
  have hown : s.vm.findClass RX7 = some m.cls := findClass_of_methodNamed B.named
  have hlocks := B.notSynchronized
  have hinX7 : ∀ w ∈ u_ws RX7 TX7 6, w ∈ wsX7_addAt := by decide +kernel
  have hw1 := hts (.fieldLink RX7 9 "GlideShelves$Tower" "count" "I") (by decide +kernel)
  have hw2 := hts (.fieldLink RX7 18 "GlideShelves$Tower" "heights" "[I") (by decide +kernel)
  have hw3 := hts (.fieldLink RX7 22 "GlideShelves$Tower" "places" "[I") (by decide +kernel)
  have hw4 := hts (.fieldLink RX7 25 "GlideShelves$Tower" "uses" "[I") (by decide +kernel)
  have hw5 := hts (.fieldLink RX7 28 "GlideShelves$Tower" "things" "[I") (by decide +kernel)
  subst hsz
  have hD := hD0.self (sz := s.heap.size)
  generalize hAe : va_A (wX7 cI cZ a M) s.heap.size = A at hD ⊢
  have hA : ∀ q : Nat, s.heap.size ≤ q → A q := fun q h => by rw [← hAe]; exact Or.inr h
  have hS : va_S A s.heap s.heap [] := va_S.rf
  have hfX7_addAt_L29 : ∀ (n : Nat) (kx55 : Mem → Int32 → Option (Int32 × Mem)) (hkx55 : ∀ (N : Mem) (l3 : Int32), kx55 N l3 = some z → ∀ (ls : Array Slot), lv_has ls 5 [(0, .ref (a 0)), (3, .int l3)] → ∀ (H : Heap) (locs : List Loc), va_P (dC, dI) vwCl (wX7 cI cZ a (sr (sr (sr (sr (sr M 0 (N 0)) 1 (N 1)) 2 (N 2)) 3 (N 3)) 4 (N 4))) H → va_D A (wX7 cI cZ a (sr (sr (sr (sr (sr M 0 (N 0)) 1 (N 1)) 2 (N 2)) 3 (N 3)) 4 (N 4))) → va_S A s.heap H locs → W p l e (headSpec wsX7_addAt ({ frames := 0, cells := 0, slots := 0, locals := 0 } : Room)).room s m ([.ref (a 0), .int a1, .int a2] : List Value).toArray below meth c H locs 0 0 (MQ below (va_Qi (S := Unit) (fun r _ => r = z.1) (fun _ t => WE (dC, dI) cI cZ (wX7 cI cZ a (sr (sr (sr (sr (sr M 0 (z.2 0)) 1 (z.2 1)) 2 (z.2 2)) 3 (z.2 3)) 4 (z.2 4))) A t) A) ([.ref (a 0), .int a1, .int a2] : List Value).toArray s 0 0 A) (F0 m 55 ls [])), ∀ (N : Mem) (l3 : Int32) (l4 : Int32), fX7_addAt_L29 M n kx55 N l3 l4 = some z → ∀ (ls : Array Slot), lv_has ls 5 [(0, .ref (a 0)), (3, .int l3), (4, .int l4)] → ∀ (H : Heap) (locs : List Loc), va_P (dC, dI) vwCl (wX7 cI cZ a (sr (sr (sr (sr (sr M 0 (N 0)) 1 (N 1)) 2 (N 2)) 3 (N 3)) 4 (N 4))) H → va_D A (wX7 cI cZ a (sr (sr (sr (sr (sr M 0 (N 0)) 1 (N 1)) 2 (N 2)) 3 (N 3)) 4 (N 4))) → va_S A s.heap H locs → W p l e (headSpec wsX7_addAt ({ frames := 0, cells := 0, slots := 0, locals := 0 } : Room)).room s m ([.ref (a 0), .int a1, .int a2] : List Value).toArray below meth c H locs 0 0 (MQ below (va_Qi (S := Unit) (fun r _ => r = z.1) (fun _ t => WE (dC, dI) cI cZ (wX7 cI cZ a (sr (sr (sr (sr (sr M 0 (z.2 0)) 1 (z.2 1)) 2 (z.2 2)) 3 (z.2 3)) 4 (z.2 4))) A t) A) ([.ref (a 0), .int a1, .int a2] : List Value).toArray s 0 0 A) (F0 m 29 ls []) := by
    intro n
    induction n with
    | zero =>
      intro kx55 hkx55 N l3 l4 hf ls hl H locs hP hD hS
      rw [fX7_addAt_L29] at hf
      cases hf
    | succ n ih =>
      intro kx55 hkx55 N l3 l4 hf ls hl H locs hP hD hS
      rw [fX7_addAt_L29] at hf
      refine lv_iload hx hb dX7_addAt_29 (lv_at hl 2 rfl) ?_
      refine lv_bipush (v := (10 : Int32)) hx hb dX7_addAt_31 (by decide) ?_
      refine lv_icmp_ge (tgt := 55) hx hb dX7_addAt_33 (by decide) (fun c9 => ?_) (fun c9 => ?_)
      · have hf := it_t hf c9
        exact hkx55 (sr (sr (sr (sr (sr M 0 (N 0)) 1 (N 1)) 2 (N 2)) 3 (N 3)) 4 (N 4)) l3 hf _ (lv_sub hl [0, 1] rfl) _ _ hP hD hS
      · have hf := it_f hf c9
        refine lv_aload_n hx hb dX7_addAt_36 rfl (lv_at hl 0 rfl) ?_
        refine va_get (D := (dC, dI)) (ci := 7) (v := .ref (a 4)) (C := RX7) (T := TX7) (N := 6) hx hb hts hinX7 hown hK hP 0 rfl rfl 5 (by decide) hw5 (fun _ h9 => h9) rfl dX7_addAt_37 ?_
        refine lv_iload_n hx hb dX7_addAt_40 rfl (lv_at hl 1 rfl) ?_
        refine lv_bipush (v := (10 : Int32)) hx hb dX7_addAt_41 (by decide) ?_
        refine lv_imul hx hb dX7_addAt_43 ?_
        refine lv_iload hx hb dX7_addAt_44 (lv_at hl 2 rfl) ?_
        refine lv_iadd hx hb dX7_addAt_46 ?_
        refine lv_iconst (v := (0 : Int32)) hx hb dX7_addAt_47 (by decide) ?_
        obtain ⟨hi, hf⟩ := gd_s hf
        refine va_iast (D := (dC, dI)) (f := (N 4)) hx hb hK hP hD hS 4 0 rfl rfl (inb_in hi) dX7_addAt_48 (fun H locs hP hD hS => ?_)
        have hP : va_P (dC, dI) vwCl (wX7 cI cZ a (sr (sr (sr (sr (sr M 0 (N 0)) 1 (N 1)) 2 (N 2)) 3 (N 3)) 4 (upd (N 4) ((l3 * (10 : Int32)) + l4).toNatClampNeg (0 : Int32)))) H := hP
        have hD : va_D A (wX7 cI cZ a (sr (sr (sr (sr (sr M 0 (N 0)) 1 (N 1)) 2 (N 2)) 3 (N 3)) 4 (upd (N 4) ((l3 * (10 : Int32)) + l4).toNatClampNeg (0 : Int32)))) := hD
        refine lv_iinc (v := (l4 + (1 : Int32))) (lv' := [(4, .int (l4 + (1 : Int32))), (0, .ref (a 0)), (3, .int l3)]) hx hb dX7_addAt_49 hl (k := 2) rfl rfl (by decide) rfl (fun ls hl => ?_)
        refine lv_goto (tgt := 29) hx hb dX7_addAt_52 (by decide) ?_
        exact ih kx55 hkx55 (sr (sr (sr (sr (sr M 0 (N 0)) 1 (N 1)) 2 (N 2)) 3 (N 3)) 4 (upd (N 4) ((l3 * (10 : Int32)) + l4).toNatClampNeg (0 : Int32))) l3 (l4 + (1 : Int32)) hf _ (lv_sub hl [1, 2, 0] rfl) _ _ hP hD hS
  have hl := lv_entry ([.ref (a 0), .int a1, .int a2]) (n := 5) (Nat.le_of_ble_eq_true rfl)
  rw [lg_entry_eq]
  generalize (lg_sl ([.ref (a 0), .int a1, .int a2]) ++ List.replicate (5 - (lg_sl ([.ref (a 0), .int a1, .int a2])).length) Slot.unset).toArray = ls at hl ⊢
  have hl : lv_has ls 5 [(0, .ref (a 0)), (1, .int a1), (2, .int a2)] := hl
  unfold fX7_addAt at hf
  suffices hgo : ∀ (H : Heap) (locs : List Loc), va_P (dC, dI) vwCl (wX7 cI cZ a M) H → va_D A (wX7 cI cZ a M) → va_S A s.heap H locs → W p l e (headSpec wsX7_addAt ({ frames := 0, cells := 0, slots := 0, locals := 0 } : Room)).room s m ([.ref (a 0), .int a1, .int a2] : List Value).toArray below meth c H locs 0 0 (MQ below (va_Qi (S := Unit) (fun r _ => r = z.1) (fun _ t => WE (dC, dI) cI cZ (wX7 cI cZ a (sr (sr (sr (sr (sr M 0 (z.2 0)) 1 (z.2 1)) 2 (z.2 2)) 3 (z.2 3)) 4 (z.2 4))) A t) A) ([.ref (a 0), .int a1, .int a2] : List Value).toArray s 0 0 A) (F0 m 0 ls []) from hgo _ _ hP hD hS
  intro H locs hP hD hS
  refine lv_aload_n hx hb dX7_addAt_0 rfl (lv_at hl 0 rfl) ?_
  refine va_get (D := (dC, dI)) (ci := 7) (v := .int (M 0 0)) (C := RX7) (T := TX7) (N := 6) hx hb hts hinX7 hown hK hP 0 rfl rfl 0 (by decide) hw1 (fun _ h9 => h9) rfl dX7_addAt_1 ?_
  refine lv_istore_n (lv' := [(3, .int (M 0 0)), (0, .ref (a 0)), (1, .int a1), (2, .int a2)]) hx hb dX7_addAt_4 rfl hl (by decide) rfl (fun ls hl => ?_)
  refine lv_aload_n hx hb dX7_addAt_5 rfl (lv_at hl 1 rfl) ?_
  refine va_get (D := (dC, dI)) (ci := 7) (v := .ref (a 1)) (C := RX7) (T := TX7) (N := 6) hx hb hts hinX7 hown hK hP 0 rfl rfl 2 (by decide) hw2 (fun _ h9 => h9) rfl dX7_addAt_6 ?_
  refine lv_iload_n hx hb dX7_addAt_9 rfl (lv_at hl 0 rfl) ?_
  refine lv_iload_n hx hb dX7_addAt_10 rfl (lv_at hl 3 rfl) ?_
  obtain ⟨hi, hf⟩ := gd_s hf
  refine va_iast (D := (dC, dI)) (f := (M 1)) hx hb hK hP hD hS 1 0 rfl rfl (inb_in hi) dX7_addAt_11 (fun H locs hP hD hS => ?_)
  have hP : va_P (dC, dI) vwCl (wX7 cI cZ a (sr M 1 (upd (M 1) (M 0 0).toNatClampNeg a2))) H := hP
  have hD : va_D A (wX7 cI cZ a (sr M 1 (upd (M 1) (M 0 0).toNatClampNeg a2))) := hD
  refine lv_aload_n hx hb dX7_addAt_12 rfl (lv_at hl 1 rfl) ?_
  refine va_get (D := (dC, dI)) (ci := 7) (v := .ref (a 2)) (C := RX7) (T := TX7) (N := 6) hx hb hts hinX7 hown hK hP 0 rfl rfl 3 (by decide) hw3 (fun _ h9 => h9) rfl dX7_addAt_13 ?_
  refine lv_iload_n hx hb dX7_addAt_16 rfl (lv_at hl 0 rfl) ?_
  refine lv_iload_n hx hb dX7_addAt_17 rfl (lv_at hl 2 rfl) ?_
  obtain ⟨hi, hf⟩ := gd_s hf
  refine va_iast (D := (dC, dI)) (f := (M 2)) hx hb hK hP hD hS 2 0 rfl rfl (inb_in hi) dX7_addAt_18 (fun H locs hP hD hS => ?_)
  have hP : va_P (dC, dI) vwCl (wX7 cI cZ a (sr (sr M 1 (upd (M 1) (M 0 0).toNatClampNeg a2)) 2 (upd (M 2) (M 0 0).toNatClampNeg a1))) H := hP
  have hD : va_D A (wX7 cI cZ a (sr (sr M 1 (upd (M 1) (M 0 0).toNatClampNeg a2)) 2 (upd (M 2) (M 0 0).toNatClampNeg a1))) := hD
  refine lv_aload_n hx hb dX7_addAt_19 rfl (lv_at hl 1 rfl) ?_
  refine va_get (D := (dC, dI)) (ci := 7) (v := .ref (a 3)) (C := RX7) (T := TX7) (N := 6) hx hb hts hinX7 hown hK hP 0 rfl rfl 4 (by decide) hw4 (fun _ h9 => h9) rfl dX7_addAt_20 ?_
  refine lv_iload_n hx hb dX7_addAt_23 rfl (lv_at hl 0 rfl) ?_
  refine lv_iconst (v := (0 : Int32)) hx hb dX7_addAt_24 (by decide) ?_
  obtain ⟨hi, hf⟩ := gd_s hf
  refine va_iast (D := (dC, dI)) (f := (M 3)) hx hb hK hP hD hS 3 0 rfl rfl (inb_in hi) dX7_addAt_25 (fun H locs hP hD hS => ?_)
  have hP : va_P (dC, dI) vwCl (wX7 cI cZ a (sr (sr (sr M 1 (upd (M 1) (M 0 0).toNatClampNeg a2)) 2 (upd (M 2) (M 0 0).toNatClampNeg a1)) 3 (upd (M 3) (M 0 0).toNatClampNeg (0 : Int32)))) H := hP
  have hD : va_D A (wX7 cI cZ a (sr (sr (sr M 1 (upd (M 1) (M 0 0).toNatClampNeg a2)) 2 (upd (M 2) (M 0 0).toNatClampNeg a1)) 3 (upd (M 3) (M 0 0).toNatClampNeg (0 : Int32)))) := hD
  refine lv_iconst (v := (0 : Int32)) hx hb dX7_addAt_26 (by decide) ?_
  refine lv_istore (lv' := [(4, .int (0 : Int32)), (3, .int (M 0 0)), (0, .ref (a 0)), (1, .int a1), (2, .int a2)]) hx hb dX7_addAt_27 hl (by decide) rfl (fun ls hl => ?_)
  refine hfX7_addAt_L29 5000 _ (fun N l3 hf ls hl H locs hP hD hS => ?_) (sr (sr (sr M 1 (upd (M 1) (M 0 0).toNatClampNeg a2)) 2 (upd (M 2) (M 0 0).toNatClampNeg a1)) 3 (upd (M 3) (M 0 0).toNatClampNeg (0 : Int32))) (M 0 0) (0 : Int32) hf _ (lv_sub hl [2, 1, 0] rfl) _ _ hP hD hS
  refine lv_aload_n hx hb dX7_addAt_55 rfl (lv_at hl 0 rfl) ?_
  refine lv_dup hx hb dX7_addAt_56 rfl ?_
  refine va_get (D := (dC, dI)) (ci := 7) (v := .int (N 0 0)) (C := RX7) (T := TX7) (N := 6) hx hb hts hinX7 hown hK hP 0 rfl rfl 0 (by decide) hw1 (fun _ h9 => h9) rfl dX7_addAt_57 ?_
  refine lv_iconst (v := (1 : Int32)) hx hb dX7_addAt_60 (by decide) ?_
  refine lv_iadd hx hb dX7_addAt_61 ?_
  refine va_put (D := (dC, dI)) (ci := 7) (v := .int ((N 0 0) + (1 : Int32))) (ty := .int) (C := RX7) (T := TX7) (N := 6) hx hb hts hinX7 tyX7 tyX7_ok nmX7 hown hK hP hD hS 0 rfl rfl 0 (by decide) hw1 (fun _ h9 => h9) rfl (by decide +kernel) rfl rfl (Nat.le_of_ble_eq_true rfl) dX7_addAt_62 (fun H locs hP hD hS => ?_)
  have hP : va_P (dC, dI) vwCl (wX7 cI cZ a (sr (sr (sr (sr (sr M 0 (upd (N 0) 0 ((N 0 0) + (1 : Int32)))) 1 (N 1)) 2 (N 2)) 3 (N 3)) 4 (N 4))) H := hP
  have hD : va_D A (wX7 cI cZ a (sr (sr (sr (sr (sr M 0 (upd (N 0) 0 ((N 0 0) + (1 : Int32)))) 1 (N 1)) 2 (N 2)) 3 (N 3)) 4 (N 4))) := hD
  refine lv_iload_n hx hb dX7_addAt_65 rfl (lv_at hl 1 rfl) ?_
  have e9 := so_e hf
  subst e9
  exact W.iret (v := l3) hx hb hr (fun t ht hW => ⟨⟨l3, (), rfl, rfl, WE.mk hP hD ht⟩, hS.F ht⟩) hS.2.2 dX7_addAt_66
set_option maxHeartbeats 4000000 in
set_option maxRecDepth 100000 in
theorem c_X7_remove (l : Launch) (dC : Nat → ClassId) (dI : Nat → Nat → Nat) (cI cZ : ClassId) (a : Nat → Nat) (sz : Nat) (M : Mem) (a1 : Int32) (z : Mem) (hf : fX7_remove M a1 = some z) : Met l yX7_remove wsX7_remove ({ frames := 1, cells := 0, slots := 0, locals := 60 } : Room) (va_Pc [.ref (a 0), .int a1] (WR (dC, dI) cI cZ (wX7 cI cZ a M) sz)) (va_Qv (S := Unit) (fun _ => True) (fun _ t => WE (dC, dI) cI cZ (wX7 cI cZ a (sr (sr (sr (sr (sr M 0 (z 0)) 1 (z 1)) 2 (z 2)) 3 (z 3)) 4 (z 4))) (va_A (wX7 cI cZ a M) sz) t) (va_A (wX7 cI cZ a M) sz)) 0 0 (va_A (wX7 cI cZ a M) sz) := by
  refine Met.ofW (cc := cX7_remove) (maxL := 3) (ret := none) (by decide) rfl ?_
  intro p e s m args below meth c s₁ B hml hv
  obtain ⟨rfl, hsz, hP, hK, hD0, hNW⟩ := hv
  have hx := B.exec
  have hb := B.bytes
  have hr := B.returns
  have hts := atoms_spec (ws := wsX7_remove) B.pre
  have hown : s.vm.findClass RX7 = some m.cls := findClass_of_methodNamed B.named
  have hlocks := B.notSynchronized
  have hinX7 : ∀ w ∈ u_ws RX7 TX7 6, w ∈ wsX7_remove := by decide +kernel
  have hw1 := hts (.fieldLink RX7 9 "GlideShelves$Tower" "count" "I") (by decide +kernel)
  have hw2 := hts (.fieldLink RX7 18 "GlideShelves$Tower" "heights" "[I") (by decide +kernel)
  have hw3 := hts (.fieldLink RX7 22 "GlideShelves$Tower" "places" "[I") (by decide +kernel)
  have hw4 := hts (.fieldLink RX7 25 "GlideShelves$Tower" "uses" "[I") (by decide +kernel)
  have hw5 := hts (.fieldLink RX7 28 "GlideShelves$Tower" "things" "[I") (by decide +kernel)
  have hw6 := hts (.methodLink RX7 31 arraycopyName) (by decide +kernel)
  have hw7 := hts (.native arraycopyName) (by decide +kernel)
  have hw8 := hts (.static arraycopyName) (by decide +kernel)
  have hw9 := hts (.initialized "java/lang/System") (by decide +kernel)
  have hw10 := hts (.fieldLink RX7 15 "GlideShelves$Tower" "window" "I") (by decide +kernel)
  subst hsz
  have hD := hD0.self (sz := s.heap.size)
  generalize hAe : va_A (wX7 cI cZ a M) s.heap.size = A at hD ⊢
  have hA : ∀ q : Nat, s.heap.size ≤ q → A q := fun q h => by rw [← hAe]; exact Or.inr h
  have hS : va_S A s.heap s.heap [] := va_S.rf
  have hfX7_remove_L4 : ∀ (n : Nat) (kx83 : Mem → Int32 → Option (Mem)) (hkx83 : ∀ (N : Mem) (l1 : Int32), kx83 N l1 = some z → ∀ (ls : Array Slot), lv_has ls 3 [(0, .ref (a 0)), (1, .int l1)] → ∀ (H : Heap) (locs : List Loc), va_P (dC, dI) vwCl (wX7 cI cZ a (sr (sr (sr (sr (sr M 0 (N 0)) 1 (N 1)) 2 (N 2)) 3 (N 3)) 4 (N 4))) H → va_D A (wX7 cI cZ a (sr (sr (sr (sr (sr M 0 (N 0)) 1 (N 1)) 2 (N 2)) 3 (N 3)) 4 (N 4))) → va_S A s.heap H locs → W p l e (headSpec wsX7_remove ({ frames := 1, cells := 0, slots := 0, locals := 60 } : Room)).room s m ([.ref (a 0), .int a1] : List Value).toArray below meth c H locs 0 0 (MQ below (va_Qv (S := Unit) (fun _ => True) (fun _ t => WE (dC, dI) cI cZ (wX7 cI cZ a (sr (sr (sr (sr (sr M 0 (z 0)) 1 (z 1)) 2 (z 2)) 3 (z 3)) 4 (z 4))) A t) A) ([.ref (a 0), .int a1] : List Value).toArray s 0 0 A) (F0 m 83 ls [])), ∀ (N : Mem) (l1 : Int32) (l2 : Int32), fX7_remove_L4 M n kx83 N l1 l2 = some z → ∀ (ls : Array Slot), lv_has ls 3 [(0, .ref (a 0)), (1, .int l1), (2, .int l2)] → ∀ (H : Heap) (locs : List Loc), va_P (dC, dI) vwCl (wX7 cI cZ a (sr (sr (sr (sr (sr M 0 (N 0)) 1 (N 1)) 2 (N 2)) 3 (N 3)) 4 (N 4))) H → va_D A (wX7 cI cZ a (sr (sr (sr (sr (sr M 0 (N 0)) 1 (N 1)) 2 (N 2)) 3 (N 3)) 4 (N 4))) → va_S A s.heap H locs → W p l e (headSpec wsX7_remove ({ frames := 1, cells := 0, slots := 0, locals := 60 } : Room)).room s m ([.ref (a 0), .int a1] : List Value).toArray below meth c H locs 0 0 (MQ below (va_Qv (S := Unit) (fun _ => True) (fun _ t => WE (dC, dI) cI cZ (wX7 cI cZ a (sr (sr (sr (sr (sr M 0 (z 0)) 1 (z 1)) 2 (z 2)) 3 (z 3)) 4 (z 4))) A t) A) ([.ref (a 0), .int a1] : List Value).toArray s 0 0 A) (F0 m 4 ls []) := by
    intro n
    induction n with
    | zero =>
      intro kx83 hkx83 N l1 l2 hf ls hl H locs hP hD hS
      rw [fX7_remove_L4] at hf
      cases hf
    | succ n ih =>
      intro kx83 hkx83 N l1 l2 hf ls hl H locs hP hD hS
      rw [fX7_remove_L4] at hf
      refine lv_iload_n hx hb dX7_remove_4 rfl (lv_at hl 2 rfl) ?_
      refine lv_aload_n hx hb dX7_remove_5 rfl (lv_at hl 0 rfl) ?_
      refine va_get (D := (dC, dI)) (ci := 7) (v := .int (N 0 0)) (C := RX7) (T := TX7) (N := 6) hx hb hts hinX7 hown hK hP 0 rfl rfl 0 (by decide) hw1 (fun _ h9 => h9) rfl dX7_remove_6 ?_
      refine lv_icmp_ge (tgt := 83) hx hb dX7_remove_9 (by decide) (fun c9 => ?_) (fun c9 => ?_)
      · have hf := it_t hf c9
        exact hkx83 (sr (sr (sr (sr (sr M 0 (N 0)) 1 (N 1)) 2 (N 2)) 3 (N 3)) 4 (N 4)) l1 hf _ (lv_sub hl [0, 1] rfl) _ _ hP hD hS
      · have hf := it_f hf c9
        refine lv_aload_n hx hb dX7_remove_12 rfl (lv_at hl 0 rfl) ?_
        refine va_get (D := (dC, dI)) (ci := 7) (v := .ref (a 1)) (C := RX7) (T := TX7) (N := 6) hx hb hts hinX7 hown hK hP 0 rfl rfl 2 (by decide) hw2 (fun _ h9 => h9) rfl dX7_remove_13 ?_
        refine lv_iload_n hx hb dX7_remove_16 rfl (lv_at hl 2 rfl) ?_
        refine lv_iconst (v := (1 : Int32)) hx hb dX7_remove_17 (by decide) ?_
        refine lv_isub hx hb dX7_remove_18 ?_
        refine lv_aload_n hx hb dX7_remove_19 rfl (lv_at hl 0 rfl) ?_
        refine va_get (D := (dC, dI)) (ci := 7) (v := .ref (a 1)) (C := RX7) (T := TX7) (N := 6) hx hb hts hinX7 hown hK hP 0 rfl rfl 2 (by decide) hw2 (fun _ h9 => h9) rfl dX7_remove_20 ?_
        refine lv_iload_n hx hb dX7_remove_23 rfl (lv_at hl 2 rfl) ?_
        obtain ⟨hi, hf⟩ := gd_s hf
        refine va_iald (D := (dC, dI)) (f := (N 1)) hx hb hK hP 1 0 rfl rfl (inb_in hi) dX7_remove_24 ?_
        obtain ⟨hi, hf⟩ := gd_s hf
        refine va_iast (D := (dC, dI)) (f := (N 1)) hx hb hK hP hD hS 1 0 rfl rfl (inb_in hi) dX7_remove_25 (fun H locs hP hD hS => ?_)
        have hP : va_P (dC, dI) vwCl (wX7 cI cZ a (sr (sr (sr (sr (sr M 0 (N 0)) 1 (upd (N 1) (l2 - (1 : Int32)).toNatClampNeg (N 1 l2.toNatClampNeg))) 2 (N 2)) 3 (N 3)) 4 (N 4))) H := hP
        have hD : va_D A (wX7 cI cZ a (sr (sr (sr (sr (sr M 0 (N 0)) 1 (upd (N 1) (l2 - (1 : Int32)).toNatClampNeg (N 1 l2.toNatClampNeg))) 2 (N 2)) 3 (N 3)) 4 (N 4))) := hD
        refine lv_aload_n hx hb dX7_remove_26 rfl (lv_at hl 0 rfl) ?_
        refine va_get (D := (dC, dI)) (ci := 7) (v := .ref (a 2)) (C := RX7) (T := TX7) (N := 6) hx hb hts hinX7 hown hK hP 0 rfl rfl 3 (by decide) hw3 (fun _ h9 => h9) rfl dX7_remove_27 ?_
        refine lv_iload_n hx hb dX7_remove_30 rfl (lv_at hl 2 rfl) ?_
        refine lv_iconst (v := (1 : Int32)) hx hb dX7_remove_31 (by decide) ?_
        refine lv_isub hx hb dX7_remove_32 ?_
        refine lv_aload_n hx hb dX7_remove_33 rfl (lv_at hl 0 rfl) ?_
        refine va_get (D := (dC, dI)) (ci := 7) (v := .ref (a 2)) (C := RX7) (T := TX7) (N := 6) hx hb hts hinX7 hown hK hP 0 rfl rfl 3 (by decide) hw3 (fun _ h9 => h9) rfl dX7_remove_34 ?_
        refine lv_iload_n hx hb dX7_remove_37 rfl (lv_at hl 2 rfl) ?_
        obtain ⟨hi, hf⟩ := gd_s hf
        refine va_iald (D := (dC, dI)) (f := (N 2)) hx hb hK hP 2 0 rfl rfl (inb_in hi) dX7_remove_38 ?_
        obtain ⟨hi, hf⟩ := gd_s hf
        refine va_iast (D := (dC, dI)) (f := (N 2)) hx hb hK hP hD hS 2 0 rfl rfl (inb_in hi) dX7_remove_39 (fun H locs hP hD hS => ?_)
        have hP : va_P (dC, dI) vwCl (wX7 cI cZ a (sr (sr (sr (sr (sr M 0 (N 0)) 1 (upd (N 1) (l2 - (1 : Int32)).toNatClampNeg (N 1 l2.toNatClampNeg))) 2 (upd (N 2) (l2 - (1 : Int32)).toNatClampNeg (N 2 l2.toNatClampNeg))) 3 (N 3)) 4 (N 4))) H := hP
        have hD : va_D A (wX7 cI cZ a (sr (sr (sr (sr (sr M 0 (N 0)) 1 (upd (N 1) (l2 - (1 : Int32)).toNatClampNeg (N 1 l2.toNatClampNeg))) 2 (upd (N 2) (l2 - (1 : Int32)).toNatClampNeg (N 2 l2.toNatClampNeg))) 3 (N 3)) 4 (N 4))) := hD
        refine lv_aload_n hx hb dX7_remove_40 rfl (lv_at hl 0 rfl) ?_
        refine va_get (D := (dC, dI)) (ci := 7) (v := .ref (a 3)) (C := RX7) (T := TX7) (N := 6) hx hb hts hinX7 hown hK hP 0 rfl rfl 4 (by decide) hw4 (fun _ h9 => h9) rfl dX7_remove_41 ?_
        refine lv_iload_n hx hb dX7_remove_44 rfl (lv_at hl 2 rfl) ?_
        refine lv_iconst (v := (1 : Int32)) hx hb dX7_remove_45 (by decide) ?_
        refine lv_isub hx hb dX7_remove_46 ?_
        refine lv_aload_n hx hb dX7_remove_47 rfl (lv_at hl 0 rfl) ?_
        refine va_get (D := (dC, dI)) (ci := 7) (v := .ref (a 3)) (C := RX7) (T := TX7) (N := 6) hx hb hts hinX7 hown hK hP 0 rfl rfl 4 (by decide) hw4 (fun _ h9 => h9) rfl dX7_remove_48 ?_
        refine lv_iload_n hx hb dX7_remove_51 rfl (lv_at hl 2 rfl) ?_
        obtain ⟨hi, hf⟩ := gd_s hf
        refine va_iald (D := (dC, dI)) (f := (N 3)) hx hb hK hP 3 0 rfl rfl (inb_in hi) dX7_remove_52 ?_
        obtain ⟨hi, hf⟩ := gd_s hf
        refine va_iast (D := (dC, dI)) (f := (N 3)) hx hb hK hP hD hS 3 0 rfl rfl (inb_in hi) dX7_remove_53 (fun H locs hP hD hS => ?_)
        have hP : va_P (dC, dI) vwCl (wX7 cI cZ a (sr (sr (sr (sr (sr M 0 (N 0)) 1 (upd (N 1) (l2 - (1 : Int32)).toNatClampNeg (N 1 l2.toNatClampNeg))) 2 (upd (N 2) (l2 - (1 : Int32)).toNatClampNeg (N 2 l2.toNatClampNeg))) 3 (upd (N 3) (l2 - (1 : Int32)).toNatClampNeg (N 3 l2.toNatClampNeg))) 4 (N 4))) H := hP
        have hD : va_D A (wX7 cI cZ a (sr (sr (sr (sr (sr M 0 (N 0)) 1 (upd (N 1) (l2 - (1 : Int32)).toNatClampNeg (N 1 l2.toNatClampNeg))) 2 (upd (N 2) (l2 - (1 : Int32)).toNatClampNeg (N 2 l2.toNatClampNeg))) 3 (upd (N 3) (l2 - (1 : Int32)).toNatClampNeg (N 3 l2.toNatClampNeg))) 4 (N 4))) := hD
        refine lv_aload_n hx hb dX7_remove_54 rfl (lv_at hl 0 rfl) ?_
        refine va_get (D := (dC, dI)) (ci := 7) (v := .ref (a 4)) (C := RX7) (T := TX7) (N := 6) hx hb hts hinX7 hown hK hP 0 rfl rfl 5 (by decide) hw5 (fun _ h9 => h9) rfl dX7_remove_55 ?_
        refine lv_iload_n hx hb dX7_remove_58 rfl (lv_at hl 2 rfl) ?_
        refine lv_bipush (v := (10 : Int32)) hx hb dX7_remove_59 (by decide) ?_
        refine lv_imul hx hb dX7_remove_61 ?_
        refine lv_aload_n hx hb dX7_remove_62 rfl (lv_at hl 0 rfl) ?_
        refine va_get (D := (dC, dI)) (ci := 7) (v := .ref (a 4)) (C := RX7) (T := TX7) (N := 6) hx hb hts hinX7 hown hK hP 0 rfl rfl 5 (by decide) hw5 (fun _ h9 => h9) rfl dX7_remove_63 ?_
        refine lv_iload_n hx hb dX7_remove_66 rfl (lv_at hl 2 rfl) ?_
        refine lv_iconst (v := (1 : Int32)) hx hb dX7_remove_67 (by decide) ?_
        refine lv_isub hx hb dX7_remove_68 ?_
        refine lv_bipush (v := (10 : Int32)) hx hb dX7_remove_69 (by decide) ?_
        refine lv_imul hx hb dX7_remove_71 ?_
        refine lv_bipush (v := (10 : Int32)) hx hb dX7_remove_72 (by decide) ?_
        obtain ⟨hz, hf⟩ := gd_s hf
        obtain ⟨h1, h2, h3, h4, h5⟩ := cpk_s hz
        refine va_copyi (D := (dC, dI)) (f := (N 4)) (g := (N 4)) (ty := .int) hx hb (hml.trans hl.1.symm) hown hw6 hw7 hw8 hw9 hK hP hD hS 4 4 0 0 rfl rfl rfl rfl rfl h1 h2 h3 h4 h5 (fun _ _ => rfl) (Nat.le_of_ble_eq_true rfl) (by decide +kernel) dX7_remove_74 (fun H locs hP hD hS => ?_)
        have hP : va_P (dC, dI) vwCl (wX7 cI cZ a (sr (sr (sr (sr (sr M 0 (N 0)) 1 (upd (N 1) (l2 - (1 : Int32)).toNatClampNeg (N 1 l2.toNatClampNeg))) 2 (upd (N 2) (l2 - (1 : Int32)).toNatClampNeg (N 2 l2.toNatClampNeg))) 3 (upd (N 3) (l2 - (1 : Int32)).toNatClampNeg (N 3 l2.toNatClampNeg))) 4 (va_cpy (N 4) (N 4) (l2 * (10 : Int32)).toNatClampNeg ((l2 - (1 : Int32)) * (10 : Int32)).toNatClampNeg (10 : Int32).toNatClampNeg))) H := hP
        have hD : va_D A (wX7 cI cZ a (sr (sr (sr (sr (sr M 0 (N 0)) 1 (upd (N 1) (l2 - (1 : Int32)).toNatClampNeg (N 1 l2.toNatClampNeg))) 2 (upd (N 2) (l2 - (1 : Int32)).toNatClampNeg (N 2 l2.toNatClampNeg))) 3 (upd (N 3) (l2 - (1 : Int32)).toNatClampNeg (N 3 l2.toNatClampNeg))) 4 (va_cpy (N 4) (N 4) (l2 * (10 : Int32)).toNatClampNeg ((l2 - (1 : Int32)) * (10 : Int32)).toNatClampNeg (10 : Int32).toNatClampNeg))) := hD
        refine lv_iinc (v := (l2 + (1 : Int32))) (lv' := [(2, .int (l2 + (1 : Int32))), (0, .ref (a 0)), (1, .int l1)]) hx hb dX7_remove_77 hl (k := 2) rfl rfl (by decide) rfl (fun ls hl => ?_)
        refine lv_goto (tgt := 4) hx hb dX7_remove_80 (by decide) ?_
        exact ih kx83 hkx83 (sr (sr (sr (sr (sr M 0 (N 0)) 1 (upd (N 1) (l2 - (1 : Int32)).toNatClampNeg (N 1 l2.toNatClampNeg))) 2 (upd (N 2) (l2 - (1 : Int32)).toNatClampNeg (N 2 l2.toNatClampNeg))) 3 (upd (N 3) (l2 - (1 : Int32)).toNatClampNeg (N 3 l2.toNatClampNeg))) 4 (va_cpy (N 4) (N 4) (l2 * (10 : Int32)).toNatClampNeg ((l2 - (1 : Int32)) * (10 : Int32)).toNatClampNeg (10 : Int32).toNatClampNeg)) l1 (l2 + (1 : Int32)) hf _ (lv_sub hl [1, 2, 0] rfl) _ _ hP hD hS
  have hfX7_remove_B111 : ∀ (N : Mem), fX7_remove_B111 M  N = some z → ∀ (ls : Array Slot), lv_has ls 3 [] → ∀ (H : Heap) (locs : List Loc), va_P (dC, dI) vwCl (wX7 cI cZ a (sr (sr (sr (sr (sr M 0 (N 0)) 1 (N 1)) 2 (N 2)) 3 (N 3)) 4 (N 4))) H → va_D A (wX7 cI cZ a (sr (sr (sr (sr (sr M 0 (N 0)) 1 (N 1)) 2 (N 2)) 3 (N 3)) 4 (N 4))) → va_S A s.heap H locs → W p l e (headSpec wsX7_remove ({ frames := 1, cells := 0, slots := 0, locals := 60 } : Room)).room s m ([.ref (a 0), .int a1] : List Value).toArray below meth c H locs 0 0 (MQ below (va_Qv (S := Unit) (fun _ => True) (fun _ t => WE (dC, dI) cI cZ (wX7 cI cZ a (sr (sr (sr (sr (sr M 0 (z 0)) 1 (z 1)) 2 (z 2)) 3 (z 3)) 4 (z 4))) A t) A) ([.ref (a 0), .int a1] : List Value).toArray s 0 0 A) (F0 m 111 ls []) := by
    intro  N hf ls hl H locs hP hD hS
    unfold fX7_remove_B111 at hf
    have e9 := so_e hf
    subst e9
    exact W.vret hx hb hr (fun t ht hW => ⟨⟨(), rfl, trivial, WE.mk hP hD ht⟩, hS.F ht⟩) hS.2.2 dX7_remove_111
  have hl := lv_entry ([.ref (a 0), .int a1]) (n := 3) (Nat.le_of_ble_eq_true rfl)
  rw [lg_entry_eq]
  generalize (lg_sl ([.ref (a 0), .int a1]) ++ List.replicate (3 - (lg_sl ([.ref (a 0), .int a1])).length) Slot.unset).toArray = ls at hl ⊢
  have hl : lv_has ls 3 [(0, .ref (a 0)), (1, .int a1)] := hl
  unfold fX7_remove at hf
  suffices hgo : ∀ (H : Heap) (locs : List Loc), va_P (dC, dI) vwCl (wX7 cI cZ a M) H → va_D A (wX7 cI cZ a M) → va_S A s.heap H locs → W p l e (headSpec wsX7_remove ({ frames := 1, cells := 0, slots := 0, locals := 60 } : Room)).room s m ([.ref (a 0), .int a1] : List Value).toArray below meth c H locs 0 0 (MQ below (va_Qv (S := Unit) (fun _ => True) (fun _ t => WE (dC, dI) cI cZ (wX7 cI cZ a (sr (sr (sr (sr (sr M 0 (z 0)) 1 (z 1)) 2 (z 2)) 3 (z 3)) 4 (z 4))) A t) A) ([.ref (a 0), .int a1] : List Value).toArray s 0 0 A) (F0 m 0 ls []) from hgo _ _ hP hD hS
  intro H locs hP hD hS
  refine lv_iload_n hx hb dX7_remove_0 rfl (lv_at hl 1 rfl) ?_
  refine lv_iconst (v := (1 : Int32)) hx hb dX7_remove_1 (by decide) ?_
  refine lv_iadd hx hb dX7_remove_2 ?_
  refine lv_istore_n (lv' := [(2, .int (a1 + (1 : Int32))), (0, .ref (a 0)), (1, .int a1)]) hx hb dX7_remove_3 rfl hl (by decide) rfl (fun ls hl => ?_)
  refine hfX7_remove_L4 5000 _ (fun N l1 hf ls hl H locs hP hD hS => ?_) M a1 (a1 + (1 : Int32)) hf _ (lv_sub hl [1, 2, 0] rfl) _ _ hP hD hS
  refine lv_aload_n hx hb dX7_remove_83 rfl (lv_at hl 0 rfl) ?_
  refine lv_dup hx hb dX7_remove_84 rfl ?_
  refine va_get (D := (dC, dI)) (ci := 7) (v := .int (N 0 0)) (C := RX7) (T := TX7) (N := 6) hx hb hts hinX7 hown hK hP 0 rfl rfl 0 (by decide) hw1 (fun _ h9 => h9) rfl dX7_remove_85 ?_
  refine lv_iconst (v := (1 : Int32)) hx hb dX7_remove_88 (by decide) ?_
  refine lv_isub hx hb dX7_remove_89 ?_
  refine va_put (D := (dC, dI)) (ci := 7) (v := .int ((N 0 0) - (1 : Int32))) (ty := .int) (C := RX7) (T := TX7) (N := 6) hx hb hts hinX7 tyX7 tyX7_ok nmX7 hown hK hP hD hS 0 rfl rfl 0 (by decide) hw1 (fun _ h9 => h9) rfl (by decide +kernel) rfl rfl (Nat.le_of_ble_eq_true rfl) dX7_remove_90 (fun H locs hP hD hS => ?_)
  have hP : va_P (dC, dI) vwCl (wX7 cI cZ a (sr (sr (sr (sr (sr M 0 (upd (N 0) 0 ((N 0 0) - (1 : Int32)))) 1 (N 1)) 2 (N 2)) 3 (N 3)) 4 (N 4))) H := hP
  have hD : va_D A (wX7 cI cZ a (sr (sr (sr (sr (sr M 0 (upd (N 0) 0 ((N 0 0) - (1 : Int32)))) 1 (N 1)) 2 (N 2)) 3 (N 3)) 4 (N 4))) := hD
  refine lv_aload_n hx hb dX7_remove_93 rfl (lv_at hl 0 rfl) ?_
  refine va_get (D := (dC, dI)) (ci := 7) (v := .int (N 0 1)) (C := RX7) (T := TX7) (N := 6) hx hb hts hinX7 hown hK hP 0 rfl rfl 1 (by decide) hw10 (fun _ h9 => h9) rfl dX7_remove_94 ?_
  refine lv_iload_n hx hb dX7_remove_97 rfl (lv_at hl 1 rfl) ?_
  refine lv_icmp_le (tgt := 111) hx hb dX7_remove_98 (by decide) (fun c9 => ?_) (fun c9 => ?_)
  · have hf := it_t hf c9
    exact hfX7_remove_B111  (sr (sr (sr (sr (sr M 0 (upd (N 0) 0 ((N 0 0) - (1 : Int32)))) 1 (N 1)) 2 (N 2)) 3 (N 3)) 4 (N 4)) hf _ (lv_sub hl [] rfl) _ _ hP hD hS
  · have hf := it_f hf c9
    refine lv_aload_n hx hb dX7_remove_101 rfl (lv_at hl 0 rfl) ?_
    refine lv_dup hx hb dX7_remove_102 rfl ?_
    refine va_get (D := (dC, dI)) (ci := 7) (v := .int (N 0 1)) (C := RX7) (T := TX7) (N := 6) hx hb hts hinX7 hown hK hP 0 rfl rfl 1 (by decide) hw10 (fun _ h9 => h9) rfl dX7_remove_103 ?_
    refine lv_iconst (v := (1 : Int32)) hx hb dX7_remove_106 (by decide) ?_
    refine lv_isub hx hb dX7_remove_107 ?_
    refine va_put (D := (dC, dI)) (ci := 7) (v := .int ((N 0 1) - (1 : Int32))) (ty := .int) (C := RX7) (T := TX7) (N := 6) hx hb hts hinX7 tyX7 tyX7_ok nmX7 hown hK hP hD hS 0 rfl rfl 1 (by decide) hw10 (fun _ h9 => h9) rfl (by decide +kernel) rfl rfl (Nat.le_of_ble_eq_true rfl) dX7_remove_108 (fun H locs hP hD hS => ?_)
    have hP : va_P (dC, dI) vwCl (wX7 cI cZ a (sr (sr (sr (sr (sr M 0 (upd (upd (N 0) 0 ((N 0 0) - (1 : Int32))) 1 ((N 0 1) - (1 : Int32)))) 1 (N 1)) 2 (N 2)) 3 (N 3)) 4 (N 4))) H := hP
    have hD : va_D A (wX7 cI cZ a (sr (sr (sr (sr (sr M 0 (upd (upd (N 0) 0 ((N 0 0) - (1 : Int32))) 1 ((N 0 1) - (1 : Int32)))) 1 (N 1)) 2 (N 2)) 3 (N 3)) 4 (N 4))) := hD
    exact hfX7_remove_B111  (sr (sr (sr (sr (sr M 0 (upd (upd (N 0) 0 ((N 0 0) - (1 : Int32))) 1 ((N 0 1) - (1 : Int32)))) 1 (N 1)) 2 (N 2)) 3 (N 3)) 4 (N 4)) hf _ (lv_sub hl [] rfl) _ _ hP hD hS
set_option maxHeartbeats 4000000 in
set_option maxRecDepth 100000 in
theorem c_X7_countIn (l : Launch) (dC : Nat → ClassId) (dI : Nat → Nat → Nat) (cI cZ : ClassId) (a : Nat → Nat) (M : Mem) (a1 : Int32) (a2 : Int32) (z : Int32) (hf : fX7_countIn M a1 a2 = some z) : Met l yX7_countIn wsX7_countIn ({ frames := 0, cells := 0, slots := 0, locals := 0 } : Room) (va_Pc [.ref (a 0), .int a1, .int a2] (RO (dC, dI) cI cZ (wX7 cI cZ a M))) (k2_QcV (.int z)) 0 0 (fun _ => False) := by
  refine Met.ofW (cc := cX7_countIn) (maxL := 3) (ret := (some .int)) (by decide) rfl ?_
  intro p e s m args below meth c s₁ B hml hv
  obtain ⟨rfl, hP, hK, hNW⟩ := hv
  have hx := B.exec
  have hb := B.bytes
  have hr := B.returns
  have hts := atoms_spec (ws := wsX7_countIn) B.pre
  have hown : s.vm.findClass RX7 = some m.cls := findClass_of_methodNamed B.named
  have hlocks := B.notSynchronized
  have hinX7 : ∀ w ∈ u_ws RX7 TX7 6, w ∈ wsX7_countIn := by decide +kernel
  have hw1 := hts (.fieldLink RX7 28 "GlideShelves$Tower" "things" "[I") (by decide +kernel)
  have hl := lv_entry ([.ref (a 0), .int a1, .int a2]) (n := 3) (Nat.le_of_ble_eq_true rfl)
  rw [lg_entry_eq]
  generalize (lg_sl ([.ref (a 0), .int a1, .int a2]) ++ List.replicate (3 - (lg_sl ([.ref (a 0), .int a1, .int a2])).length) Slot.unset).toArray = ls at hl ⊢
  have hl : lv_has ls 3 [(0, .ref (a 0)), (1, .int a1), (2, .int a2)] := hl
  unfold fX7_countIn at hf
  refine lv_aload_n hx hb dX7_countIn_0 rfl (lv_at hl 0 rfl) ?_
  refine va_get (D := (dC, dI)) (ci := 7) (v := .ref (a 4)) (C := RX7) (T := TX7) (N := 6) hx hb hts hinX7 hown hK hP 0 rfl rfl 5 (by decide) hw1 (fun _ h9 => h9) rfl dX7_countIn_1 ?_
  refine lv_iload_n hx hb dX7_countIn_4 rfl (lv_at hl 1 rfl) ?_
  refine lv_bipush (v := (10 : Int32)) hx hb dX7_countIn_5 (by decide) ?_
  refine lv_imul hx hb dX7_countIn_7 ?_
  refine lv_iload_n hx hb dX7_countIn_8 rfl (lv_at hl 2 rfl) ?_
  refine lv_iadd hx hb dX7_countIn_9 ?_
  obtain ⟨hi, hf⟩ := gd_s hf
  refine va_iald (D := (dC, dI)) (f := (M 4)) hx hb hK hP 4 0 rfl rfl (inb_in hi) dX7_countIn_10 ?_
  exact W.iret (v := (M 4 ((a1 * (10 : Int32)) + a2).toNatClampNeg)) hx hb hr (fun t ht hW => ⟨congrArg (fun x => Outcome.returned (some (Value.int x))) (so_e hf), ht⟩) fl0 dX7_countIn_11
set_option maxHeartbeats 4000000 in
set_option maxRecDepth 100000 in
theorem c_X7_change (l : Launch) (dC : Nat → ClassId) (dI : Nat → Nat → Nat) (cI cZ : ClassId) (a : Nat → Nat) (sz : Nat) (M : Mem) (a1 : Int32) (a2 : Int32) (a3 : Int32) (z : Int32 × Mem) (hf : fX7_change M a1 a2 a3 = some z) : Met l yX7_change wsX7_change ({ frames := 0, cells := 0, slots := 0, locals := 0 } : Room) (va_Pc [.ref (a 0), .int a1, .int a2, .int a3] (WR (dC, dI) cI cZ (wX7 cI cZ a M) sz)) (va_Qi (S := Unit) (fun r _ => r = z.1) (fun _ t => WE (dC, dI) cI cZ (wX7 cI cZ a (sr M 4 (z.2 4))) (va_A (wX7 cI cZ a M) sz) t) (va_A (wX7 cI cZ a M) sz)) 0 0 (va_A (wX7 cI cZ a M) sz) := by
  refine Met.ofW (cc := cX7_change) (maxL := 4) (ret := (some .int)) (by decide) rfl ?_
  intro p e s m args below meth c s₁ B hml hv
  obtain ⟨rfl, hsz, hP, hK, hD0, hNW⟩ := hv
  have hx := B.exec
  have hb := B.bytes
  have hr := B.returns
  have hts := atoms_spec (ws := wsX7_change) B.pre
  have hown : s.vm.findClass RX7 = some m.cls := findClass_of_methodNamed B.named
  have hlocks := B.notSynchronized
  have hinX7 : ∀ w ∈ u_ws RX7 TX7 6, w ∈ wsX7_change := by decide +kernel
  have hw1 := hts (.fieldLink RX7 28 "GlideShelves$Tower" "things" "[I") (by decide +kernel)
  subst hsz
  have hD := hD0.self (sz := s.heap.size)
  generalize hAe : va_A (wX7 cI cZ a M) s.heap.size = A at hD ⊢
  have hA : ∀ q : Nat, s.heap.size ≤ q → A q := fun q h => by rw [← hAe]; exact Or.inr h
  have hS : va_S A s.heap s.heap [] := va_S.rf
  have hl := lv_entry ([.ref (a 0), .int a1, .int a2, .int a3]) (n := 4) (Nat.le_of_ble_eq_true rfl)
  rw [lg_entry_eq]
  generalize (lg_sl ([.ref (a 0), .int a1, .int a2, .int a3]) ++ List.replicate (4 - (lg_sl ([.ref (a 0), .int a1, .int a2, .int a3])).length) Slot.unset).toArray = ls at hl ⊢
  have hl : lv_has ls 4 [(0, .ref (a 0)), (1, .int a1), (2, .int a2), (3, .int a3)] := hl
  unfold fX7_change at hf
  suffices hgo : ∀ (H : Heap) (locs : List Loc), va_P (dC, dI) vwCl (wX7 cI cZ a M) H → va_D A (wX7 cI cZ a M) → va_S A s.heap H locs → W p l e (headSpec wsX7_change ({ frames := 0, cells := 0, slots := 0, locals := 0 } : Room)).room s m ([.ref (a 0), .int a1, .int a2, .int a3] : List Value).toArray below meth c H locs 0 0 (MQ below (va_Qi (S := Unit) (fun r _ => r = z.1) (fun _ t => WE (dC, dI) cI cZ (wX7 cI cZ a (sr M 4 (z.2 4))) A t) A) ([.ref (a 0), .int a1, .int a2, .int a3] : List Value).toArray s 0 0 A) (F0 m 0 ls []) from hgo _ _ hP hD hS
  intro H locs hP hD hS
  refine lv_aload_n hx hb dX7_change_0 rfl (lv_at hl 0 rfl) ?_
  refine va_get (D := (dC, dI)) (ci := 7) (v := .ref (a 4)) (C := RX7) (T := TX7) (N := 6) hx hb hts hinX7 hown hK hP 0 rfl rfl 5 (by decide) hw1 (fun _ h9 => h9) rfl dX7_change_1 ?_
  refine lv_iload_n hx hb dX7_change_4 rfl (lv_at hl 1 rfl) ?_
  refine lv_bipush (v := (10 : Int32)) hx hb dX7_change_5 (by decide) ?_
  refine lv_imul hx hb dX7_change_7 ?_
  refine lv_iload_n hx hb dX7_change_8 rfl (lv_at hl 2 rfl) ?_
  refine lv_iadd hx hb dX7_change_9 ?_
  refine lv_dup2_11 hx hb dX7_change_10 rfl rfl ?_
  obtain ⟨hi, hf⟩ := gd_s hf
  refine va_iald (D := (dC, dI)) (f := (M 4)) hx hb hK hP 4 0 rfl rfl (inb_in hi) dX7_change_11 ?_
  refine lv_iload_n hx hb dX7_change_12 rfl (lv_at hl 3 rfl) ?_
  refine lv_iadd hx hb dX7_change_13 ?_
  obtain ⟨hi, hf⟩ := gd_s hf
  refine va_iast (D := (dC, dI)) (f := (M 4)) hx hb hK hP hD hS 4 0 rfl rfl (inb_in hi) dX7_change_14 (fun H locs hP hD hS => ?_)
  have hP : va_P (dC, dI) vwCl (wX7 cI cZ a (sr M 4 (upd (M 4) ((a1 * (10 : Int32)) + a2).toNatClampNeg ((M 4 ((a1 * (10 : Int32)) + a2).toNatClampNeg) + a3)))) H := hP
  have hD : va_D A (wX7 cI cZ a (sr M 4 (upd (M 4) ((a1 * (10 : Int32)) + a2).toNatClampNeg ((M 4 ((a1 * (10 : Int32)) + a2).toNatClampNeg) + a3)))) := hD
  refine lv_aload_n hx hb dX7_change_15 rfl (lv_at hl 0 rfl) ?_
  refine va_get (D := (dC, dI)) (ci := 7) (v := .ref (a 4)) (C := RX7) (T := TX7) (N := 6) hx hb hts hinX7 hown hK hP 0 rfl rfl 5 (by decide) hw1 (fun _ h9 => h9) rfl dX7_change_16 ?_
  refine lv_iload_n hx hb dX7_change_19 rfl (lv_at hl 1 rfl) ?_
  refine lv_bipush (v := (10 : Int32)) hx hb dX7_change_20 (by decide) ?_
  refine lv_imul hx hb dX7_change_22 ?_
  refine lv_iload_n hx hb dX7_change_23 rfl (lv_at hl 2 rfl) ?_
  refine lv_iadd hx hb dX7_change_24 ?_
  obtain ⟨hi, hf⟩ := gd_s hf
  refine va_iald (D := (dC, dI)) (f := (upd (M 4) ((a1 * (10 : Int32)) + a2).toNatClampNeg ((M 4 ((a1 * (10 : Int32)) + a2).toNatClampNeg) + a3))) hx hb hK hP 4 0 rfl rfl (inb_in hi) dX7_change_25 ?_
  have e9 := so_e hf
  subst e9
  exact W.iret (v := ((upd (M 4) ((a1 * (10 : Int32)) + a2).toNatClampNeg ((M 4 ((a1 * (10 : Int32)) + a2).toNatClampNeg) + a3)) ((a1 * (10 : Int32)) + a2).toNatClampNeg)) hx hb hr (fun t ht hW => ⟨⟨((upd (M 4) ((a1 * (10 : Int32)) + a2).toNatClampNeg ((M 4 ((a1 * (10 : Int32)) + a2).toNatClampNeg) + a3)) ((a1 * (10 : Int32)) + a2).toNatClampNeg), (), rfl, rfl, WE.mk hP hD ht⟩, hS.F ht⟩) hS.2.2 dX7_change_26
set_option maxHeartbeats 4000000 in
set_option maxRecDepth 100000 in
theorem c_X7_isEmpty (l : Launch) (dC : Nat → ClassId) (dI : Nat → Nat → Nat) (cI cZ : ClassId) (a : Nat → Nat) (M : Mem) (a1 : Int32) (z : Int32) (hf : fX7_isEmpty M a1 = some z) : Met l yX7_isEmpty wsX7_isEmpty ({ frames := 1, cells := 0, slots := 0, locals := 22 } : Room) (va_Pc [.ref (a 0), .int a1] (RO (dC, dI) cI cZ (wX7 cI cZ a M))) (k2_QcV (.int z)) 0 0 (fun _ => False) := by
  refine Met.ofW (cc := cX7_isEmpty) (maxL := 3) (ret := (some .boolean)) (by decide) rfl ?_
  intro p e s m args below meth c s₁ B hml hv
  obtain ⟨rfl, hP, hK, hNW⟩ := hv
  have hx := B.exec
  have hb := B.bytes
  have hr := B.returns
  have hts := atoms_spec (ws := wsX7_isEmpty) B.pre
  have hown : s.vm.findClass RX7 = some m.cls := findClass_of_methodNamed B.named
  have hlocks := B.notSynchronized
  have hfX7_isEmpty_L2 : ∀ (n : Nat) (kx17 : Unit → Option (Int32)) (hkx17 : ∀ (_ : Unit), kx17 () = some z → ∀ (ls : Array Slot), lv_has ls 3 [] → W p l e (headSpec wsX7_isEmpty ({ frames := 1, cells := 0, slots := 0, locals := 22 } : Room)).room s m ([.ref (a 0), .int a1] : List Value).toArray below meth c s.heap [] 0 0 (MQ below (k2_QcV (.int z)) ([.ref (a 0), .int a1] : List Value).toArray s 0 0 (fun _ => False)) (F0 m 17 ls [])) (kx25 : Unit → Option (Int32)) (hkx25 : ∀ (_ : Unit), kx25 () = some z → ∀ (ls : Array Slot), lv_has ls 3 [] → W p l e (headSpec wsX7_isEmpty ({ frames := 1, cells := 0, slots := 0, locals := 22 } : Room)).room s m ([.ref (a 0), .int a1] : List Value).toArray below meth c s.heap [] 0 0 (MQ below (k2_QcV (.int z)) ([.ref (a 0), .int a1] : List Value).toArray s 0 0 (fun _ => False)) (F0 m 25 ls [])), ∀ (l1 : Int32) (l2 : Int32), fX7_isEmpty_L2 M n kx17 kx25 l1 l2 = some z → ∀ (ls : Array Slot), lv_has ls 3 [(0, .ref (a 0)), (1, .int l1), (2, .int l2)] → W p l e (headSpec wsX7_isEmpty ({ frames := 1, cells := 0, slots := 0, locals := 22 } : Room)).room s m ([.ref (a 0), .int a1] : List Value).toArray below meth c s.heap [] 0 0 (MQ below (k2_QcV (.int z)) ([.ref (a 0), .int a1] : List Value).toArray s 0 0 (fun _ => False)) (F0 m 2 ls []) := by
    intro n
    induction n with
    | zero =>
      intro kx17 hkx17 kx25 hkx25 l1 l2 hf ls hl
      rw [fX7_isEmpty_L2] at hf
      cases hf
    | succ n ih =>
      intro kx17 hkx17 kx25 hkx25 l1 l2 hf ls hl
      rw [fX7_isEmpty_L2] at hf
      refine lv_iload_n hx hb dX7_isEmpty_2 rfl (lv_at hl 2 rfl) ?_
      refine lv_bipush (v := (10 : Int32)) hx hb dX7_isEmpty_3 (by decide) ?_
      refine lv_icmp_ge (tgt := 25) hx hb dX7_isEmpty_5 (by decide) (fun c9 => ?_) (fun c9 => ?_)
      · have hf := it_t hf c9
        exact hkx25 () hf _ (lv_sub hl [] rfl)
      · have hf := it_f hf c9
        refine lv_aload_n hx hb dX7_isEmpty_8 rfl (lv_at hl 0 rfl) ?_
        refine lv_iload_n hx hb dX7_isEmpty_9 rfl (lv_at hl 1 rfl) ?_
        refine lv_iload_n hx hb dX7_isEmpty_10 rfl (lv_at hl 2 rfl) ?_
        obtain ⟨r11, hc11, hf⟩ := bi_s hf
        have hPc := hP
        refine cRO (W.runV (As := [.int l1, .int l2]) (rest := []) ⟨hx, hb, hml, hown, hts⟩ (c_X7_countIn l dC dI cI cZ a M l1 l2 r11 hc11) (cwV 2 hts gX7_isEmpty_X7_countIn rfl rfl rfl (by decide +kernel) ⟨Nat.le_of_ble_eq_true rfl, Nat.le_of_ble_eq_true rfl⟩) ⟨RO.blind, va_recv hK hP (ci := 7) (q0 := 0) rfl rfl, RO.pre hPc hK hNW⟩ rfl rfl hl.1 rfl (lv_room (Nat.le_of_ble_eq_true rfl)) dX7_isEmpty_11 ⟨Nat.le_of_ble_eq_true rfl, Nat.le_of_ble_eq_true rfl⟩) ?_
        refine lv_if_le (tgt := 19) hx hb dX7_isEmpty_14 (by decide) (fun c9 => ?_) (fun c9 => ?_)
        · have hf := it_t hf c9
          refine lv_iinc (v := (l2 + (1 : Int32))) (lv' := [(2, .int (l2 + (1 : Int32))), (0, .ref (a 0)), (1, .int l1)]) hx hb dX7_isEmpty_19 hl (k := 2) rfl rfl (by decide) rfl (fun ls hl => ?_)
          refine lv_goto (tgt := 2) hx hb dX7_isEmpty_22 (by decide) ?_
          exact ih kx17 hkx17 kx25 hkx25 l1 (l2 + (1 : Int32)) hf _ (lv_sub hl [1, 2, 0] rfl)
        · have hf := it_f hf c9
          exact hkx17 () hf _ (lv_sub hl [] rfl)
  have hl := lv_entry ([.ref (a 0), .int a1]) (n := 3) (Nat.le_of_ble_eq_true rfl)
  rw [lg_entry_eq]
  generalize (lg_sl ([.ref (a 0), .int a1]) ++ List.replicate (3 - (lg_sl ([.ref (a 0), .int a1])).length) Slot.unset).toArray = ls at hl ⊢
  have hl : lv_has ls 3 [(0, .ref (a 0)), (1, .int a1)] := hl
  unfold fX7_isEmpty at hf
  refine lv_iconst (v := (0 : Int32)) hx hb dX7_isEmpty_0 (by decide) ?_
  refine lv_istore_n (lv' := [(2, .int (0 : Int32)), (0, .ref (a 0)), (1, .int a1)]) hx hb dX7_isEmpty_1 rfl hl (by decide) rfl (fun ls hl => ?_)
  refine hfX7_isEmpty_L2 5000 _ (fun _ hf ls hl => ?_) _ (fun _ hf ls hl => ?_) a1 (0 : Int32) hf _ (lv_sub hl [1, 2, 0] rfl)
  · refine lv_iconst (v := (0 : Int32)) hx hb dX7_isEmpty_17 (by decide) ?_
    obtain ⟨hz, hf⟩ := gd_s hf
    exact W.zret (v := (0 : Int32)) hx hb hr (isb_nar hz) (fun t ht hW => ⟨congrArg (fun x => Outcome.returned (some (Value.int x))) (so_e hf), ht⟩) fl0 dX7_isEmpty_18
  · refine lv_iconst (v := (1 : Int32)) hx hb dX7_isEmpty_25 (by decide) ?_
    obtain ⟨hz, hf⟩ := gd_s hf
    exact W.zret (v := (1 : Int32)) hx hb hr (isb_nar hz) (fun t ht hW => ⟨congrArg (fun x => Outcome.returned (some (Value.int x))) (so_e hf), ht⟩) fl0 dX7_isEmpty_26
set_option maxHeartbeats 4000000 in
set_option maxRecDepth 100000 in
theorem c_X7_stockOf (l : Launch) (dC : Nat → ClassId) (dI : Nat → Nat → Nat) (cI cZ : ClassId) (a : Nat → Nat) (M : Mem) (a1 : Int32) (z : Int32) (hf : fX7_stockOf M a1 = some z) : Met l yX7_stockOf wsX7_stockOf ({ frames := 1, cells := 0, slots := 0, locals := 22 } : Room) (va_Pc [.ref (a 0), .int a1] (RO (dC, dI) cI cZ (wX7 cI cZ a M))) (k2_QcV (.int z)) 0 0 (fun _ => False) := by
  refine Met.ofW (cc := cX7_stockOf) (maxL := 4) (ret := (some .int)) (by decide) rfl ?_
  intro p e s m args below meth c s₁ B hml hv
  obtain ⟨rfl, hP, hK, hNW⟩ := hv
  have hx := B.exec
  have hb := B.bytes
  have hr := B.returns
  have hts := atoms_spec (ws := wsX7_stockOf) B.pre
  have hown : s.vm.findClass RX7 = some m.cls := findClass_of_methodNamed B.named
  have hlocks := B.notSynchronized
  have hinX7 : ∀ w ∈ u_ws RX7 TX7 6, w ∈ wsX7_stockOf := by decide +kernel
  have hw1 := hts (.fieldLink RX7 9 "GlideShelves$Tower" "count" "I") (by decide +kernel)
  have hfX7_stockOf_L4 : ∀ (n : Nat) (kx27 : Int32 → Option (Int32)) (hkx27 : ∀ (l2 : Int32), kx27 l2 = some z → ∀ (ls : Array Slot), lv_has ls 4 [(2, .int l2)] → W p l e (headSpec wsX7_stockOf ({ frames := 1, cells := 0, slots := 0, locals := 22 } : Room)).room s m ([.ref (a 0), .int a1] : List Value).toArray below meth c s.heap [] 0 0 (MQ below (k2_QcV (.int z)) ([.ref (a 0), .int a1] : List Value).toArray s 0 0 (fun _ => False)) (F0 m 27 ls [])), ∀ (l1 : Int32) (l2 : Int32) (l3 : Int32), fX7_stockOf_L4 M n kx27 l1 l2 l3 = some z → ∀ (ls : Array Slot), lv_has ls 4 [(0, .ref (a 0)), (1, .int l1), (2, .int l2), (3, .int l3)] → W p l e (headSpec wsX7_stockOf ({ frames := 1, cells := 0, slots := 0, locals := 22 } : Room)).room s m ([.ref (a 0), .int a1] : List Value).toArray below meth c s.heap [] 0 0 (MQ below (k2_QcV (.int z)) ([.ref (a 0), .int a1] : List Value).toArray s 0 0 (fun _ => False)) (F0 m 4 ls []) := by
    intro n
    induction n with
    | zero =>
      intro kx27 hkx27 l1 l2 l3 hf ls hl
      rw [fX7_stockOf_L4] at hf
      cases hf
    | succ n ih =>
      intro kx27 hkx27 l1 l2 l3 hf ls hl
      rw [fX7_stockOf_L4] at hf
      refine lv_iload_n hx hb dX7_stockOf_4 rfl (lv_at hl 3 rfl) ?_
      refine lv_aload_n hx hb dX7_stockOf_5 rfl (lv_at hl 0 rfl) ?_
      refine va_get (D := (dC, dI)) (ci := 7) (v := .int (M 0 0)) (C := RX7) (T := TX7) (N := 6) hx hb hts hinX7 hown hK hP 0 rfl rfl 0 (by decide) hw1 (fun _ h9 => h9) rfl dX7_stockOf_6 ?_
      refine lv_icmp_ge (tgt := 27) hx hb dX7_stockOf_9 (by decide) (fun c9 => ?_) (fun c9 => ?_)
      · have hf := it_t hf c9
        exact hkx27 l2 hf _ (lv_sub hl [2] rfl)
      · have hf := it_f hf c9
        refine lv_iload_n hx hb dX7_stockOf_12 rfl (lv_at hl 2 rfl) ?_
        refine lv_aload_n hx hb dX7_stockOf_13 rfl (lv_at hl 0 rfl) ?_
        refine lv_iload_n hx hb dX7_stockOf_14 rfl (lv_at hl 3 rfl) ?_
        refine lv_iload_n hx hb dX7_stockOf_15 rfl (lv_at hl 1 rfl) ?_
        obtain ⟨r16, hc16, hf⟩ := bi_s hf
        have hPc := hP
        refine cRO (W.runV (As := [.int l3, .int l1]) (rest := [.int l2]) ⟨hx, hb, hml, hown, hts⟩ (c_X7_countIn l dC dI cI cZ a M l3 l1 r16 hc16) (cwV 2 hts gX7_stockOf_X7_countIn rfl rfl rfl (by decide +kernel) ⟨Nat.le_of_ble_eq_true rfl, Nat.le_of_ble_eq_true rfl⟩) ⟨RO.blind, va_recv hK hP (ci := 7) (q0 := 0) rfl rfl, RO.pre hPc hK hNW⟩ rfl rfl hl.1 rfl (lv_room (Nat.le_of_ble_eq_true rfl)) dX7_stockOf_16 ⟨Nat.le_of_ble_eq_true rfl, Nat.le_of_ble_eq_true rfl⟩) ?_
        refine lv_iadd hx hb dX7_stockOf_19 ?_
        refine lv_istore_n (lv' := [(2, .int (l2 + r16)), (0, .ref (a 0)), (1, .int l1), (3, .int l3)]) hx hb dX7_stockOf_20 rfl hl (by decide) rfl (fun ls hl => ?_)
        refine lv_iinc (v := (l3 + (1 : Int32))) (lv' := [(3, .int (l3 + (1 : Int32))), (2, .int (l2 + r16)), (0, .ref (a 0)), (1, .int l1)]) hx hb dX7_stockOf_21 hl (k := 3) rfl rfl (by decide) rfl (fun ls hl => ?_)
        refine lv_goto (tgt := 4) hx hb dX7_stockOf_24 (by decide) ?_
        exact ih kx27 hkx27 l1 (l2 + r16) (l3 + (1 : Int32)) hf _ (lv_sub hl [2, 3, 1, 0] rfl)
  have hl := lv_entry ([.ref (a 0), .int a1]) (n := 4) (Nat.le_of_ble_eq_true rfl)
  rw [lg_entry_eq]
  generalize (lg_sl ([.ref (a 0), .int a1]) ++ List.replicate (4 - (lg_sl ([.ref (a 0), .int a1])).length) Slot.unset).toArray = ls at hl ⊢
  have hl : lv_has ls 4 [(0, .ref (a 0)), (1, .int a1)] := hl
  unfold fX7_stockOf at hf
  refine lv_iconst (v := (0 : Int32)) hx hb dX7_stockOf_0 (by decide) ?_
  refine lv_istore_n (lv' := [(2, .int (0 : Int32)), (0, .ref (a 0)), (1, .int a1)]) hx hb dX7_stockOf_1 rfl hl (by decide) rfl (fun ls hl => ?_)
  refine lv_iconst (v := (0 : Int32)) hx hb dX7_stockOf_2 (by decide) ?_
  refine lv_istore_n (lv' := [(3, .int (0 : Int32)), (2, .int (0 : Int32)), (0, .ref (a 0)), (1, .int a1)]) hx hb dX7_stockOf_3 rfl hl (by decide) rfl (fun ls hl => ?_)
  refine hfX7_stockOf_L4 5000 _ (fun l2 hf ls hl => ?_) a1 (0 : Int32) (0 : Int32) hf _ (lv_sub hl [2, 3, 1, 0] rfl)
  refine lv_iload_n hx hb dX7_stockOf_27 rfl (lv_at hl 0 rfl) ?_
  exact W.iret (v := l2) hx hb hr (fun t ht hW => ⟨congrArg (fun x => Outcome.returned (some (Value.int x))) (so_e hf), ht⟩) fl0 dX7_stockOf_28
set_option maxHeartbeats 4000000 in
set_option maxRecDepth 100000 in
theorem c_X7_helps (l : Launch) (dC : Nat → ClassId) (dI : Nat → Nat → Nat) (cI cZ : ClassId) (a : Nat → Nat) (M : Mem) (a1 : Int32) (z : Int32) (hf : fX7_helps M a1 = some z) : Met l yX7_helps wsX7_helps ({ frames := 1, cells := 0, slots := 0, locals := 22 } : Room) (va_Pc [.ref (a 0), .int a1, .ref (a 5)] (RO (dC, dI) cI cZ (wX7_helps cI cZ a M))) (k2_QcV (.int z)) 0 0 (fun _ => False) := by
  refine Met.ofW (cc := cX7_helps) (maxL := 4) (ret := (some .boolean)) (by decide) rfl ?_
  intro p e s m args below meth c s₁ B hml hv
  obtain ⟨rfl, hP, hK, hNW⟩ := hv
  have hx := B.exec
  have hb := B.bytes
  have hr := B.returns
  have hts := atoms_spec (ws := wsX7_helps) B.pre
  have hown : s.vm.findClass RX7 = some m.cls := findClass_of_methodNamed B.named
  have hlocks := B.notSynchronized
  have hfX7_helps_B31 : ∀ (kb : Int32 → Int32 → Option (Int32)) (hkb : ∀ (l1 : Int32) (l3 : Int32), kb l1 l3 = some z → ∀ (ls : Array Slot), lv_has ls 4 [(0, .ref (a 0)), (1, .int l1), (2, .ref (a 5)), (3, .int l3)] → W p l e (headSpec wsX7_helps ({ frames := 1, cells := 0, slots := 0, locals := 22 } : Room)).room s m ([.ref (a 0), .int a1, .ref (a 5)] : List Value).toArray below meth c s.heap [] 0 0 (MQ below (k2_QcV (.int z)) ([.ref (a 0), .int a1, .ref (a 5)] : List Value).toArray s 0 0 (fun _ => False)) (F0 m 2 ls [])) (kx37 : Unit → Option (Int32)) (hkx37 : ∀ (_ : Unit), kx37 () = some z → ∀ (ls : Array Slot), lv_has ls 4 [] → W p l e (headSpec wsX7_helps ({ frames := 1, cells := 0, slots := 0, locals := 22 } : Room)).room s m ([.ref (a 0), .int a1, .ref (a 5)] : List Value).toArray below meth c s.heap [] 0 0 (MQ below (k2_QcV (.int z)) ([.ref (a 0), .int a1, .ref (a 5)] : List Value).toArray s 0 0 (fun _ => False)) (F0 m 37 ls [])), ∀ (l1 : Int32) (l3 : Int32), fX7_helps_B31 M kb kx37 l1 l3 = some z → ∀ (ls : Array Slot), lv_has ls 4 [(0, .ref (a 0)), (1, .int l1), (2, .ref (a 5)), (3, .int l3)] → W p l e (headSpec wsX7_helps ({ frames := 1, cells := 0, slots := 0, locals := 22 } : Room)).room s m ([.ref (a 0), .int a1, .ref (a 5)] : List Value).toArray below meth c s.heap [] 0 0 (MQ below (k2_QcV (.int z)) ([.ref (a 0), .int a1, .ref (a 5)] : List Value).toArray s 0 0 (fun _ => False)) (F0 m 31 ls []) := by
    intro kb hkb kx37 hkx37 l1 l3 hf ls hl
    unfold fX7_helps_B31 at hf
    refine lv_iinc (v := (l3 + (1 : Int32))) (lv' := [(3, .int (l3 + (1 : Int32))), (0, .ref (a 0)), (1, .int l1), (2, .ref (a 5))]) hx hb dX7_helps_31 hl (k := 3) rfl rfl (by decide) rfl (fun ls hl => ?_)
    refine lv_goto (tgt := 2) hx hb dX7_helps_34 (by decide) ?_
    exact hkb l1 (l3 + (1 : Int32)) hf _ (lv_sub hl [1, 2, 3, 0] rfl)
  have hfX7_helps_L2 : ∀ (n : Nat) (kx29 : Unit → Option (Int32)) (hkx29 : ∀ (_ : Unit), kx29 () = some z → ∀ (ls : Array Slot), lv_has ls 4 [] → W p l e (headSpec wsX7_helps ({ frames := 1, cells := 0, slots := 0, locals := 22 } : Room)).room s m ([.ref (a 0), .int a1, .ref (a 5)] : List Value).toArray below meth c s.heap [] 0 0 (MQ below (k2_QcV (.int z)) ([.ref (a 0), .int a1, .ref (a 5)] : List Value).toArray s 0 0 (fun _ => False)) (F0 m 29 ls [])) (kx37 : Unit → Option (Int32)) (hkx37 : ∀ (_ : Unit), kx37 () = some z → ∀ (ls : Array Slot), lv_has ls 4 [] → W p l e (headSpec wsX7_helps ({ frames := 1, cells := 0, slots := 0, locals := 22 } : Room)).room s m ([.ref (a 0), .int a1, .ref (a 5)] : List Value).toArray below meth c s.heap [] 0 0 (MQ below (k2_QcV (.int z)) ([.ref (a 0), .int a1, .ref (a 5)] : List Value).toArray s 0 0 (fun _ => False)) (F0 m 37 ls [])), ∀ (l1 : Int32) (l3 : Int32), fX7_helps_L2 M n kx29 kx37 l1 l3 = some z → ∀ (ls : Array Slot), lv_has ls 4 [(0, .ref (a 0)), (1, .int l1), (2, .ref (a 5)), (3, .int l3)] → W p l e (headSpec wsX7_helps ({ frames := 1, cells := 0, slots := 0, locals := 22 } : Room)).room s m ([.ref (a 0), .int a1, .ref (a 5)] : List Value).toArray below meth c s.heap [] 0 0 (MQ below (k2_QcV (.int z)) ([.ref (a 0), .int a1, .ref (a 5)] : List Value).toArray s 0 0 (fun _ => False)) (F0 m 2 ls []) := by
    intro n
    induction n with
    | zero =>
      intro kx29 hkx29 kx37 hkx37 l1 l3 hf ls hl
      rw [fX7_helps_L2] at hf
      cases hf
    | succ n ih =>
      intro kx29 hkx29 kx37 hkx37 l1 l3 hf ls hl
      rw [fX7_helps_L2] at hf
      refine lv_iload_n hx hb dX7_helps_2 rfl (lv_at hl 3 rfl) ?_
      refine lv_bipush (v := (10 : Int32)) hx hb dX7_helps_3 (by decide) ?_
      refine lv_icmp_ge (tgt := 37) hx hb dX7_helps_5 (by decide) (fun c9 => ?_) (fun c9 => ?_)
      · have hf := it_t hf c9
        exact hkx37 () hf _ (lv_sub hl [] rfl)
      · have hf := it_f hf c9
        refine lv_iload_n hx hb dX7_helps_8 rfl (lv_at hl 3 rfl) ?_
        refine lv_aload_n hx hb dX7_helps_9 rfl (lv_at hl 2 rfl) ?_
        refine va_alen (v := (10 : Int32)) hx hb hK hP 5 0 rfl rfl rfl dX7_helps_10 ?_
        refine lv_icmp_ge (tgt := 37) hx hb dX7_helps_11 (by decide) (fun c9 => ?_) (fun c9 => ?_)
        · have hf := it_t hf c9
          exact hkx37 () hf _ (lv_sub hl [] rfl)
        · have hf := it_f hf c9
          refine lv_aload_n hx hb dX7_helps_14 rfl (lv_at hl 2 rfl) ?_
          refine lv_iload_n hx hb dX7_helps_15 rfl (lv_at hl 3 rfl) ?_
          obtain ⟨hi, hf⟩ := gd_s hf
          refine va_iald (D := (dC, dI)) (f := (M 5)) hx hb hK hP 5 0 rfl rfl (inb_in hi) dX7_helps_16 ?_
          refine lv_if_le (tgt := 31) hx hb dX7_helps_17 (by decide) (fun c9 => ?_) (fun c9 => ?_)
          · have hf := it_t hf c9
            exact hfX7_helps_B31 _ (ih kx29 hkx29 kx37 hkx37) _ hkx37 l1 l3 hf _ (lv_sub hl [0, 1, 2, 3] rfl)
          · have hf := it_f hf c9
            refine lv_aload_n hx hb dX7_helps_20 rfl (lv_at hl 0 rfl) ?_
            refine lv_iload_n hx hb dX7_helps_21 rfl (lv_at hl 1 rfl) ?_
            refine lv_iload_n hx hb dX7_helps_22 rfl (lv_at hl 3 rfl) ?_
            obtain ⟨r23, hc23, hf⟩ := bi_s hf
            have hPc := hP.sub (ws' := (wX7 cI cZ a M)) [0, 1, 2, 3, 4] rfl
            refine cRO (W.runV (As := [.int l1, .int l3]) (rest := []) ⟨hx, hb, hml, hown, hts⟩ (c_X7_countIn l dC dI cI cZ a M l1 l3 r23 hc23) (cwV 2 hts gX7_helps_X7_countIn rfl rfl rfl (by decide +kernel) ⟨Nat.le_of_ble_eq_true rfl, Nat.le_of_ble_eq_true rfl⟩) ⟨RO.blind, va_recv hK hP (ci := 7) (q0 := 0) rfl rfl, RO.pre hPc hK hNW⟩ rfl rfl hl.1 rfl (lv_room (Nat.le_of_ble_eq_true rfl)) dX7_helps_23 ⟨Nat.le_of_ble_eq_true rfl, Nat.le_of_ble_eq_true rfl⟩) ?_
            refine lv_if_le (tgt := 31) hx hb dX7_helps_26 (by decide) (fun c9 => ?_) (fun c9 => ?_)
            · have hf := it_t hf c9
              exact hfX7_helps_B31 _ (ih kx29 hkx29 kx37 hkx37) _ hkx37 l1 l3 hf _ (lv_sub hl [0, 1, 2, 3] rfl)
            · have hf := it_f hf c9
              exact hkx29 () hf _ (lv_sub hl [] rfl)
  have hl := lv_entry ([.ref (a 0), .int a1, .ref (a 5)]) (n := 4) (Nat.le_of_ble_eq_true rfl)
  rw [lg_entry_eq]
  generalize (lg_sl ([.ref (a 0), .int a1, .ref (a 5)]) ++ List.replicate (4 - (lg_sl ([.ref (a 0), .int a1, .ref (a 5)])).length) Slot.unset).toArray = ls at hl ⊢
  have hl : lv_has ls 4 [(0, .ref (a 0)), (1, .int a1), (2, .ref (a 5))] := hl
  unfold fX7_helps at hf
  refine lv_iconst (v := (0 : Int32)) hx hb dX7_helps_0 (by decide) ?_
  refine lv_istore_n (lv' := [(3, .int (0 : Int32)), (0, .ref (a 0)), (1, .int a1), (2, .ref (a 5))]) hx hb dX7_helps_1 rfl hl (by decide) rfl (fun ls hl => ?_)
  refine hfX7_helps_L2 5000 _ (fun _ hf ls hl => ?_) _ (fun _ hf ls hl => ?_) a1 (0 : Int32) hf _ (lv_sub hl [1, 2, 3, 0] rfl)
  · refine lv_iconst (v := (1 : Int32)) hx hb dX7_helps_29 (by decide) ?_
    obtain ⟨hz, hf⟩ := gd_s hf
    exact W.zret (v := (1 : Int32)) hx hb hr (isb_nar hz) (fun t ht hW => ⟨congrArg (fun x => Outcome.returned (some (Value.int x))) (so_e hf), ht⟩) fl0 dX7_helps_30
  · refine lv_iconst (v := (0 : Int32)) hx hb dX7_helps_37 (by decide) ?_
    obtain ⟨hz, hf⟩ := gd_s hf
    exact W.zret (v := (0 : Int32)) hx hb hr (isb_nar hz) (fun t ht hW => ⟨congrArg (fun x => Outcome.returned (some (Value.int x))) (so_e hf), ht⟩) fl0 dX7_helps_38
set_option maxHeartbeats 4000000 in
set_option maxRecDepth 100000 in
theorem c_X7_lend (l : Launch) (dC : Nat → ClassId) (dI : Nat → Nat → Nat) (cI cZ : ClassId) (a : Nat → Nat) (sz : Nat) (M : Mem) (a1 : Int32) (a3 : Int32) (z : Mem) (hf : fX7_lend M a1 a3 = some z) : Met l yX7_lend wsX7_lend ({ frames := 1, cells := 0, slots := 0, locals := 22 } : Room) (va_Pc [.ref (a 0), .int a1, .ref (a 5), .int a3] (WR (dC, dI) cI cZ (wX7_lend cI cZ a M) sz)) (va_Qv (S := Unit) (fun _ => True) (fun _ t => WE (dC, dI) cI cZ (wX7_lend cI cZ a (sr M 5 (z 5))) (va_A (wX7_lend cI cZ a M) sz) t) (va_A (wX7_lend cI cZ a M) sz)) 0 0 (va_A (wX7_lend cI cZ a M) sz) := by
  refine Met.ofW (cc := cX7_lend) (maxL := 5) (ret := none) (by decide) rfl ?_
  intro p e s m args below meth c s₁ B hml hv
  obtain ⟨rfl, hsz, hP, hK, hD0, hNW⟩ := hv
  have hx := B.exec
  have hb := B.bytes
  have hr := B.returns
  have hts := atoms_spec (ws := wsX7_lend) B.pre
  have hown : s.vm.findClass RX7 = some m.cls := findClass_of_methodNamed B.named
  have hlocks := B.notSynchronized
  subst hsz
  have hD := hD0.self (sz := s.heap.size)
  generalize hAe : va_A (wX7_lend cI cZ a M) s.heap.size = A at hD ⊢
  have hA : ∀ q : Nat, s.heap.size ≤ q → A q := fun q h => by rw [← hAe]; exact Or.inr h
  have hS : va_S A s.heap s.heap [] := va_S.rf
  have hfX7_lend_L3 : ∀ (n : Nat) (kx39 : Mem → Option (Mem)) (hkx39 : ∀ (N : Mem), kx39 N = some z → ∀ (ls : Array Slot), lv_has ls 5 [] → ∀ (H : Heap) (locs : List Loc), va_P (dC, dI) vwCl (wX7_lend cI cZ a (sr M 5 (N 5))) H → va_D A (wX7_lend cI cZ a (sr M 5 (N 5))) → va_S A s.heap H locs → W p l e (headSpec wsX7_lend ({ frames := 1, cells := 0, slots := 0, locals := 22 } : Room)).room s m ([.ref (a 0), .int a1, .ref (a 5), .int a3] : List Value).toArray below meth c H locs 0 0 (MQ below (va_Qv (S := Unit) (fun _ => True) (fun _ t => WE (dC, dI) cI cZ (wX7_lend cI cZ a (sr M 5 (z 5))) A t) A) ([.ref (a 0), .int a1, .ref (a 5), .int a3] : List Value).toArray s 0 0 A) (F0 m 39 ls [])), ∀ (N : Mem) (l1 : Int32) (l3 : Int32) (l4 : Int32), fX7_lend_L3 M n kx39 N l1 l3 l4 = some z → ∀ (ls : Array Slot), lv_has ls 5 [(0, .ref (a 0)), (1, .int l1), (2, .ref (a 5)), (3, .int l3), (4, .int l4)] → ∀ (H : Heap) (locs : List Loc), va_P (dC, dI) vwCl (wX7_lend cI cZ a (sr M 5 (N 5))) H → va_D A (wX7_lend cI cZ a (sr M 5 (N 5))) → va_S A s.heap H locs → W p l e (headSpec wsX7_lend ({ frames := 1, cells := 0, slots := 0, locals := 22 } : Room)).room s m ([.ref (a 0), .int a1, .ref (a 5), .int a3] : List Value).toArray below meth c H locs 0 0 (MQ below (va_Qv (S := Unit) (fun _ => True) (fun _ t => WE (dC, dI) cI cZ (wX7_lend cI cZ a (sr M 5 (z 5))) A t) A) ([.ref (a 0), .int a1, .ref (a 5), .int a3] : List Value).toArray s 0 0 A) (F0 m 3 ls []) := by
    intro n
    induction n with
    | zero =>
      intro kx39 hkx39 N l1 l3 l4 hf ls hl H locs hP hD hS
      rw [fX7_lend_L3] at hf
      cases hf
    | succ n ih =>
      intro kx39 hkx39 N l1 l3 l4 hf ls hl H locs hP hD hS
      rw [fX7_lend_L3] at hf
      refine lv_iload hx hb dX7_lend_3 (lv_at hl 4 rfl) ?_
      refine lv_bipush (v := (10 : Int32)) hx hb dX7_lend_5 (by decide) ?_
      refine lv_icmp_ge (tgt := 39) hx hb dX7_lend_7 (by decide) (fun c9 => ?_) (fun c9 => ?_)
      · have hf := it_t hf c9
        exact hkx39 (sr M 5 (N 5)) hf _ (lv_sub hl [] rfl) _ _ hP hD hS
      · have hf := it_f hf c9
        refine lv_iload hx hb dX7_lend_10 (lv_at hl 4 rfl) ?_
        refine lv_aload_n hx hb dX7_lend_12 rfl (lv_at hl 2 rfl) ?_
        refine va_alen (v := (10 : Int32)) hx hb hK hP 5 0 rfl rfl rfl dX7_lend_13 ?_
        refine lv_icmp_ge (tgt := 39) hx hb dX7_lend_14 (by decide) (fun c9 => ?_) (fun c9 => ?_)
        · have hf := it_t hf c9
          exact hkx39 (sr M 5 (N 5)) hf _ (lv_sub hl [] rfl) _ _ hP hD hS
        · have hf := it_f hf c9
          refine lv_aload_n hx hb dX7_lend_17 rfl (lv_at hl 2 rfl) ?_
          refine lv_iload hx hb dX7_lend_18 (lv_at hl 4 rfl) ?_
          refine lv_dup2_11 hx hb dX7_lend_20 rfl rfl ?_
          obtain ⟨hi, hf⟩ := gd_s hf
          refine va_iald (D := (dC, dI)) (f := (N 5)) hx hb hK hP 5 0 rfl rfl (inb_in hi) dX7_lend_21 ?_
          refine lv_iload_n hx hb dX7_lend_22 rfl (lv_at hl 3 rfl) ?_
          refine lv_aload_n hx hb dX7_lend_23 rfl (lv_at hl 0 rfl) ?_
          refine lv_iload_n hx hb dX7_lend_24 rfl (lv_at hl 1 rfl) ?_
          refine lv_iload hx hb dX7_lend_25 (lv_at hl 4 rfl) ?_
          obtain ⟨r27, hc27, hf⟩ := bi_s hf
          have hPc := hP.sub (ws' := (wX7 cI cZ a (sr M 5 (N 5)))) [0, 1, 2, 3, 4] rfl
          refine cRO (W.runV (As := [.int l1, .int l4]) (rest := [.int l3, .int (N 5 l4.toNatClampNeg), .int l4, .ref (a 5)]) ⟨hx, hb, hml, hown, hts⟩ (c_X7_countIn l dC dI cI cZ a (sr M 5 (N 5)) l1 l4 r27 hc27) (cwV 2 hts gX7_lend_X7_countIn rfl rfl rfl (by decide +kernel) ⟨Nat.le_of_ble_eq_true rfl, Nat.le_of_ble_eq_true rfl⟩) ⟨RO.blind, va_recv hK hP (ci := 7) (q0 := 0) rfl rfl, RO.pre hPc hK hNW⟩ rfl rfl hl.1 rfl (lv_room (Nat.le_of_ble_eq_true rfl)) dX7_lend_27 ⟨Nat.le_of_ble_eq_true rfl, Nat.le_of_ble_eq_true rfl⟩) ?_
          refine lv_imul hx hb dX7_lend_30 ?_
          refine lv_iadd hx hb dX7_lend_31 ?_
          obtain ⟨hi, hf⟩ := gd_s hf
          refine va_iast (D := (dC, dI)) (f := (N 5)) hx hb hK hP hD hS 5 0 rfl rfl (inb_in hi) dX7_lend_32 (fun H locs hP hD hS => ?_)
          have hP : va_P (dC, dI) vwCl (wX7_lend cI cZ a (sr M 5 (upd (N 5) l4.toNatClampNeg ((N 5 l4.toNatClampNeg) + (l3 * r27))))) H := hP
          have hD : va_D A (wX7_lend cI cZ a (sr M 5 (upd (N 5) l4.toNatClampNeg ((N 5 l4.toNatClampNeg) + (l3 * r27))))) := hD
          refine lv_iinc (v := (l4 + (1 : Int32))) (lv' := [(4, .int (l4 + (1 : Int32))), (0, .ref (a 0)), (1, .int l1), (2, .ref (a 5)), (3, .int l3)]) hx hb dX7_lend_33 hl (k := 4) rfl rfl (by decide) rfl (fun ls hl => ?_)
          refine lv_goto (tgt := 3) hx hb dX7_lend_36 (by decide) ?_
          exact ih kx39 hkx39 (sr M 5 (upd (N 5) l4.toNatClampNeg ((N 5 l4.toNatClampNeg) + (l3 * r27)))) l1 l3 (l4 + (1 : Int32)) hf _ (lv_sub hl [1, 2, 3, 4, 0] rfl) _ _ hP hD hS
  have hl := lv_entry ([.ref (a 0), .int a1, .ref (a 5), .int a3]) (n := 5) (Nat.le_of_ble_eq_true rfl)
  rw [lg_entry_eq]
  generalize (lg_sl ([.ref (a 0), .int a1, .ref (a 5), .int a3]) ++ List.replicate (5 - (lg_sl ([.ref (a 0), .int a1, .ref (a 5), .int a3])).length) Slot.unset).toArray = ls at hl ⊢
  have hl : lv_has ls 5 [(0, .ref (a 0)), (1, .int a1), (2, .ref (a 5)), (3, .int a3)] := hl
  unfold fX7_lend at hf
  suffices hgo : ∀ (H : Heap) (locs : List Loc), va_P (dC, dI) vwCl (wX7_lend cI cZ a M) H → va_D A (wX7_lend cI cZ a M) → va_S A s.heap H locs → W p l e (headSpec wsX7_lend ({ frames := 1, cells := 0, slots := 0, locals := 22 } : Room)).room s m ([.ref (a 0), .int a1, .ref (a 5), .int a3] : List Value).toArray below meth c H locs 0 0 (MQ below (va_Qv (S := Unit) (fun _ => True) (fun _ t => WE (dC, dI) cI cZ (wX7_lend cI cZ a (sr M 5 (z 5))) A t) A) ([.ref (a 0), .int a1, .ref (a 5), .int a3] : List Value).toArray s 0 0 A) (F0 m 0 ls []) from hgo _ _ hP hD hS
  intro H locs hP hD hS
  refine lv_iconst (v := (0 : Int32)) hx hb dX7_lend_0 (by decide) ?_
  refine lv_istore (lv' := [(4, .int (0 : Int32)), (0, .ref (a 0)), (1, .int a1), (2, .ref (a 5)), (3, .int a3)]) hx hb dX7_lend_1 hl (by decide) rfl (fun ls hl => ?_)
  refine hfX7_lend_L3 5000 _ (fun N hf ls hl H locs hP hD hS => ?_) M a1 a3 (0 : Int32) hf _ (lv_sub hl [1, 2, 3, 4, 0] rfl) _ _ hP hD hS
  have e9 := so_e hf
  subst e9
  exact W.vret hx hb hr (fun t ht hW => ⟨⟨(), rfl, trivial, WE.mk hP hD ht⟩, hS.F ht⟩) hS.2.2 dX7_lend_39
set_option maxHeartbeats 4000000 in
set_option maxRecDepth 100000 in
theorem c_X7_rowOf (l : Launch) (a0 : Int32) (a1 : Int32) (z : Int32) (hf : fX7_rowOf a0 a1 = some z) : Met l yX7_rowOf wsX7_rowOf ({ frames := 0, cells := 0, slots := 0, locals := 0 } : Room) (va_Pc [.int a0, .int a1] (fun _ => True)) (k2_QcV (.int z)) 0 0 (fun _ => False) := by
  refine Met.ofW (cc := cX7_rowOf) (maxL := 2) (ret := (some .int)) (by decide) rfl ?_
  intro p e s m args below meth c s₁ B hml hv
  obtain ⟨rfl, -⟩ := hv
  have hx := B.exec
  have hb := B.bytes
  have hr := B.returns
  have hts := atoms_spec (ws := wsX7_rowOf) B.pre
  have hown : s.vm.findClass RX7 = some m.cls := findClass_of_methodNamed B.named
  have hlocks := B.notSynchronized
  have hl := lv_entry ([.int a0, .int a1]) (n := 2) (Nat.le_of_ble_eq_true rfl)
  rw [lg_entry_eq]
  generalize (lg_sl ([.int a0, .int a1]) ++ List.replicate (2 - (lg_sl ([.int a0, .int a1])).length) Slot.unset).toArray = ls at hl ⊢
  have hl : lv_has ls 2 [(0, .int a0), (1, .int a1)] := hl
  unfold fX7_rowOf at hf
  refine lv_iconst (v := (1 : Int32)) hx hb dX7_rowOf_0 (by decide) ?_
  refine lv_iload_n hx hb dX7_rowOf_1 rfl (lv_at hl 1 rfl) ?_
  refine lv_ishl hx hb dX7_rowOf_2 ?_
  refine lv_iconst (v := (1 : Int32)) hx hb dX7_rowOf_3 (by decide) ?_
  refine lv_isub hx hb dX7_rowOf_4 ?_
  refine lv_iload_n hx hb dX7_rowOf_5 rfl (lv_at hl 0 rfl) ?_
  refine lv_ishl hx hb dX7_rowOf_6 ?_
  exact W.iret (v := ((((1 : Int32) <<< (a1 &&& 31)) - (1 : Int32)) <<< (a0 &&& 31))) hx hb hr (fun t ht hW => ⟨congrArg (fun x => Outcome.returned (some (Value.int x))) (so_e hf), ht⟩) fl0 dX7_rowOf_7
set_option maxHeartbeats 4000000 in
set_option maxRecDepth 100000 in
theorem c_X7_fits (l : Launch) (a0 : Int32) (a1 : Int32) (a2 : Int32) (z : Int32) (hf : fX7_fits a0 a1 a2 = some z) : Met l yX7_fits wsX7_fits ({ frames := 0, cells := 0, slots := 0, locals := 0 } : Room) (va_Pc [.int a0, .int a1, .int a2] (fun _ => True)) (k2_QcV (.int z)) 0 0 (fun _ => False) := by
  refine Met.ofW (cc := cX7_fits) (maxL := 3) (ret := (some .boolean)) (by decide) rfl ?_
  intro p e s m args below meth c s₁ B hml hv
  obtain ⟨rfl, -⟩ := hv
  have hx := B.exec
  have hb := B.bytes
  have hr := B.returns
  have hts := atoms_spec (ws := wsX7_fits) B.pre
  have hown : s.vm.findClass RX7 = some m.cls := findClass_of_methodNamed B.named
  have hlocks := B.notSynchronized
  have hfX7_fits_B25 : ∀ (s0 : Int32), fX7_fits_B25  s0 = some z → ∀ (ls : Array Slot), lv_has ls 3 [] → W p l e (headSpec wsX7_fits ({ frames := 0, cells := 0, slots := 0, locals := 0 } : Room)).room s m ([.int a0, .int a1, .int a2] : List Value).toArray below meth c s.heap [] 0 0 (MQ below (k2_QcV (.int z)) ([.int a0, .int a1, .int a2] : List Value).toArray s 0 0 (fun _ => False)) (F0 m 25 ls [.int s0]) := by
    intro  s0 hf ls hl
    unfold fX7_fits_B25 at hf
    obtain ⟨hz, hf⟩ := gd_s hf
    exact W.zret (v := s0) hx hb hr (isb_nar hz) (fun t ht hW => ⟨congrArg (fun x => Outcome.returned (some (Value.int x))) (so_e hf), ht⟩) fl0 dX7_fits_25
  have hfX7_fits_B24 : ∀ (_ : Unit), fX7_fits_B24  () = some z → ∀ (ls : Array Slot), lv_has ls 3 [] → W p l e (headSpec wsX7_fits ({ frames := 0, cells := 0, slots := 0, locals := 0 } : Room)).room s m ([.int a0, .int a1, .int a2] : List Value).toArray below meth c s.heap [] 0 0 (MQ below (k2_QcV (.int z)) ([.int a0, .int a1, .int a2] : List Value).toArray s 0 0 (fun _ => False)) (F0 m 24 ls []) := by
    intro  _ hf ls hl
    unfold fX7_fits_B24 at hf
    refine lv_iconst (v := (0 : Int32)) hx hb dX7_fits_24 (by decide) ?_
    exact hfX7_fits_B25  (0 : Int32) hf _ (lv_sub hl [] rfl)
  have hl := lv_entry ([.int a0, .int a1, .int a2]) (n := 3) (Nat.le_of_ble_eq_true rfl)
  rw [lg_entry_eq]
  generalize (lg_sl ([.int a0, .int a1, .int a2]) ++ List.replicate (3 - (lg_sl ([.int a0, .int a1, .int a2])).length) Slot.unset).toArray = ls at hl ⊢
  have hl : lv_has ls 3 [(0, .int a0), (1, .int a1), (2, .int a2)] := hl
  unfold fX7_fits at hf
  refine lv_iload_n hx hb dX7_fits_0 rfl (lv_at hl 1 rfl) ?_
  refine lv_iload_n hx hb dX7_fits_1 rfl (lv_at hl 2 rfl) ?_
  refine lv_iadd hx hb dX7_fits_2 ?_
  refine lv_bipush (v := (20 : Int32)) hx hb dX7_fits_3 (by decide) ?_
  refine lv_icmp_gt (tgt := 24) hx hb dX7_fits_5 (by decide) (fun c9 => ?_) (fun c9 => ?_)
  · have hf := it_t hf c9
    exact hfX7_fits_B24  () hf _ (lv_sub hl [] rfl)
  · have hf := it_f hf c9
    refine lv_iload_n hx hb dX7_fits_8 rfl (lv_at hl 0 rfl) ?_
    refine lv_iload_n hx hb dX7_fits_9 rfl (lv_at hl 1 rfl) ?_
    refine lv_ishr hx hb dX7_fits_10 ?_
    refine lv_iconst (v := (1 : Int32)) hx hb dX7_fits_11 (by decide) ?_
    refine lv_iload_n hx hb dX7_fits_12 rfl (lv_at hl 2 rfl) ?_
    refine lv_ishl hx hb dX7_fits_13 ?_
    refine lv_iconst (v := (1 : Int32)) hx hb dX7_fits_14 (by decide) ?_
    refine lv_isub hx hb dX7_fits_15 ?_
    refine lv_iand hx hb dX7_fits_16 ?_
    refine lv_if_ne (tgt := 24) hx hb dX7_fits_17 (by decide) (fun c9 => ?_) (fun c9 => ?_)
    · have hf := it_t hf c9
      exact hfX7_fits_B24  () hf _ (lv_sub hl [] rfl)
    · have hf := it_n hf c9
      refine lv_iconst (v := (1 : Int32)) hx hb dX7_fits_20 (by decide) ?_
      refine lv_goto (tgt := 25) hx hb dX7_fits_21 (by decide) ?_
      exact hfX7_fits_B25  (1 : Int32) hf _ (lv_sub hl [] rfl)
set_option maxHeartbeats 4000000 in
set_option maxRecDepth 100000 in
theorem c_X7_firstFit (l : Launch) (a0 : Int32) (a1 : Int32) (a2 : Int32) (z : Int32) (hf : fX7_firstFit a0 a1 a2 = some z) : Met l yX7_firstFit wsX7_firstFit ({ frames := 1, cells := 0, slots := 0, locals := 22 } : Room) (va_Pc [.int a0, .int a1, .int a2] (fun _ => True)) (k2_QcV (.int z)) 0 0 (fun _ => False) := by
  refine Met.ofW (cc := cX7_firstFit) (maxL := 4) (ret := (some .int)) (by decide) rfl ?_
  intro p e s m args below meth c s₁ B hml hv
  obtain ⟨rfl, -⟩ := hv
  have hx := B.exec
  have hb := B.bytes
  have hr := B.returns
  have hts := atoms_spec (ws := wsX7_firstFit) B.pre
  have hown : s.vm.findClass RX7 = some m.cls := findClass_of_methodNamed B.named
  have hlocks := B.notSynchronized
  have hfX7_firstFit_L2 : ∀ (n : Nat) (kx17 : Int32 → Option (Int32)) (hkx17 : ∀ (l3 : Int32), kx17 l3 = some z → ∀ (ls : Array Slot), lv_has ls 4 [(3, .int l3)] → W p l e (headSpec wsX7_firstFit ({ frames := 1, cells := 0, slots := 0, locals := 22 } : Room)).room s m ([.int a0, .int a1, .int a2] : List Value).toArray below meth c s.heap [] 0 0 (MQ below (k2_QcV (.int z)) ([.int a0, .int a1, .int a2] : List Value).toArray s 0 0 (fun _ => False)) (F0 m 17 ls [])) (kx28 : Int32 → Option (Int32)) (hkx28 : ∀ (l3 : Int32), kx28 l3 = some z → ∀ (ls : Array Slot), lv_has ls 4 [(3, .int l3)] → W p l e (headSpec wsX7_firstFit ({ frames := 1, cells := 0, slots := 0, locals := 22 } : Room)).room s m ([.int a0, .int a1, .int a2] : List Value).toArray below meth c s.heap [] 0 0 (MQ below (k2_QcV (.int z)) ([.int a0, .int a1, .int a2] : List Value).toArray s 0 0 (fun _ => False)) (F0 m 28 ls [])) (kx39 : Unit → Option (Int32)) (hkx39 : ∀ (_ : Unit), kx39 () = some z → ∀ (ls : Array Slot), lv_has ls 4 [] → W p l e (headSpec wsX7_firstFit ({ frames := 1, cells := 0, slots := 0, locals := 22 } : Room)).room s m ([.int a0, .int a1, .int a2] : List Value).toArray below meth c s.heap [] 0 0 (MQ below (k2_QcV (.int z)) ([.int a0, .int a1, .int a2] : List Value).toArray s 0 0 (fun _ => False)) (F0 m 39 ls [])), ∀ (l0 : Int32) (l1 : Int32) (l2 : Int32) (l3 : Int32), fX7_firstFit_L2 n kx17 kx28 kx39 l0 l1 l2 l3 = some z → ∀ (ls : Array Slot), lv_has ls 4 [(0, .int l0), (1, .int l1), (2, .int l2), (3, .int l3)] → W p l e (headSpec wsX7_firstFit ({ frames := 1, cells := 0, slots := 0, locals := 22 } : Room)).room s m ([.int a0, .int a1, .int a2] : List Value).toArray below meth c s.heap [] 0 0 (MQ below (k2_QcV (.int z)) ([.int a0, .int a1, .int a2] : List Value).toArray s 0 0 (fun _ => False)) (F0 m 2 ls []) := by
    intro n
    induction n with
    | zero =>
      intro kx17 hkx17 kx28 hkx28 kx39 hkx39 l0 l1 l2 l3 hf ls hl
      rw [fX7_firstFit_L2] at hf
      cases hf
    | succ n ih =>
      intro kx17 hkx17 kx28 hkx28 kx39 hkx39 l0 l1 l2 l3 hf ls hl
      rw [fX7_firstFit_L2] at hf
      refine lv_iload_n hx hb dX7_firstFit_2 rfl (lv_at hl 3 rfl) ?_
      refine lv_bipush (v := (20 : Int32)) hx hb dX7_firstFit_3 (by decide) ?_
      refine lv_icmp_ge (tgt := 39) hx hb dX7_firstFit_5 (by decide) (fun c9 => ?_) (fun c9 => ?_)
      · have hf := it_t hf c9
        exact hkx39 () hf _ (lv_sub hl [] rfl)
      · have hf := it_f hf c9
        refine lv_iload_n hx hb dX7_firstFit_8 rfl (lv_at hl 0 rfl) ?_
        refine lv_iload_n hx hb dX7_firstFit_9 rfl (lv_at hl 3 rfl) ?_
        refine lv_iload_n hx hb dX7_firstFit_10 rfl (lv_at hl 2 rfl) ?_
        obtain ⟨r11, hc11, hf⟩ := bi_s hf
        refine cRO (W.runS (As := [.int l0, .int l3, .int l2]) (rest := []) ⟨hx, hb, hml, hown, hts⟩ (c_X7_fits l l0 l3 l2 r11 hc11) (va_cwS 3 hts gX7_firstFit_X7_fits rfl rfl rfl (by decide +kernel) ⟨Nat.le_of_ble_eq_true rfl, Nat.le_of_ble_eq_true rfl⟩) ⟨tr_blind, tr_pre⟩ rfl rfl hl.1 rfl (lv_room (Nat.le_of_ble_eq_true rfl)) dX7_firstFit_11 ⟨Nat.le_of_ble_eq_true rfl, Nat.le_of_ble_eq_true rfl⟩) ?_
        refine lv_if_eq (tgt := 19) hx hb dX7_firstFit_14 (by decide) (fun c9 => ?_) (fun c9 => ?_)
        · have hf := it_t hf c9
          refine lv_iload_n hx hb dX7_firstFit_19 rfl (lv_at hl 1 rfl) ?_
          refine lv_iload_n hx hb dX7_firstFit_20 rfl (lv_at hl 3 rfl) ?_
          refine lv_iload_n hx hb dX7_firstFit_21 rfl (lv_at hl 2 rfl) ?_
          obtain ⟨r22, hc22, hf⟩ := bi_s hf
          refine cRO (W.runS (As := [.int l1, .int l3, .int l2]) (rest := []) ⟨hx, hb, hml, hown, hts⟩ (c_X7_fits l l1 l3 l2 r22 hc22) (va_cwS 3 hts gX7_firstFit_X7_fits rfl rfl rfl (by decide +kernel) ⟨Nat.le_of_ble_eq_true rfl, Nat.le_of_ble_eq_true rfl⟩) ⟨tr_blind, tr_pre⟩ rfl rfl hl.1 rfl (lv_room (Nat.le_of_ble_eq_true rfl)) dX7_firstFit_22 ⟨Nat.le_of_ble_eq_true rfl, Nat.le_of_ble_eq_true rfl⟩) ?_
          refine lv_if_eq (tgt := 33) hx hb dX7_firstFit_25 (by decide) (fun c9 => ?_) (fun c9 => ?_)
          · have hf := it_t hf c9
            refine lv_iinc (v := (l3 + (1 : Int32))) (lv' := [(3, .int (l3 + (1 : Int32))), (0, .int l0), (1, .int l1), (2, .int l2)]) hx hb dX7_firstFit_33 hl (k := 3) rfl rfl (by decide) rfl (fun ls hl => ?_)
            refine lv_goto (tgt := 2) hx hb dX7_firstFit_36 (by decide) ?_
            exact ih kx17 hkx17 kx28 hkx28 kx39 hkx39 l0 l1 l2 (l3 + (1 : Int32)) hf _ (lv_sub hl [1, 2, 3, 0] rfl)
          · have hf := it_f hf c9
            exact hkx28 l3 hf _ (lv_sub hl [3] rfl)
        · have hf := it_f hf c9
          exact hkx17 l3 hf _ (lv_sub hl [3] rfl)
  have hl := lv_entry ([.int a0, .int a1, .int a2]) (n := 4) (Nat.le_of_ble_eq_true rfl)
  rw [lg_entry_eq]
  generalize (lg_sl ([.int a0, .int a1, .int a2]) ++ List.replicate (4 - (lg_sl ([.int a0, .int a1, .int a2])).length) Slot.unset).toArray = ls at hl ⊢
  have hl : lv_has ls 4 [(0, .int a0), (1, .int a1), (2, .int a2)] := hl
  unfold fX7_firstFit at hf
  refine lv_iconst (v := (0 : Int32)) hx hb dX7_firstFit_0 (by decide) ?_
  refine lv_istore_n (lv' := [(3, .int (0 : Int32)), (0, .int a0), (1, .int a1), (2, .int a2)]) hx hb dX7_firstFit_1 rfl hl (by decide) rfl (fun ls hl => ?_)
  refine hfX7_firstFit_L2 5000 _ (fun l3 hf ls hl => ?_) _ (fun l3 hf ls hl => ?_) _ (fun _ hf ls hl => ?_) a0 a1 a2 (0 : Int32) hf _ (lv_sub hl [1, 2, 3, 0] rfl)
  · refine lv_iload_n hx hb dX7_firstFit_17 rfl (lv_at hl 0 rfl) ?_
    exact W.iret (v := l3) hx hb hr (fun t ht hW => ⟨congrArg (fun x => Outcome.returned (some (Value.int x))) (so_e hf), ht⟩) fl0 dX7_firstFit_18
  · refine lv_bipush (v := (20 : Int32)) hx hb dX7_firstFit_28 (by decide) ?_
    refine lv_iload_n hx hb dX7_firstFit_30 rfl (lv_at hl 0 rfl) ?_
    refine lv_iadd hx hb dX7_firstFit_31 ?_
    exact W.iret (v := ((20 : Int32) + l3)) hx hb hr (fun t ht hW => ⟨congrArg (fun x => Outcome.returned (some (Value.int x))) (so_e hf), ht⟩) fl0 dX7_firstFit_32
  · refine lv_iconst (v := (-1 : Int32)) hx hb dX7_firstFit_39 (by decide) ?_
    exact W.iret (v := (-1 : Int32)) hx hb hr (fun t ht hW => ⟨congrArg (fun x => Outcome.returned (some (Value.int x))) (so_e hf), ht⟩) fl0 dX7_firstFit_40
set_option maxHeartbeats 4000000 in
set_option maxRecDepth 100000 in
theorem c_X7_wayOf (l : Launch) (a0 : Int32) (z : Int32) (hf : fX7_wayOf a0 = some z) : Met l yX7_wayOf wsX7_wayOf ({ frames := 0, cells := 0, slots := 0, locals := 0 } : Room) (va_Pc [.int a0] (fun _ => True)) (k2_QcV (.int z)) 0 0 (fun _ => False) := by
  refine Met.ofW (cc := cX7_wayOf) (maxL := 1) (ret := (some .int)) (by decide) rfl ?_
  intro p e s m args below meth c s₁ B hml hv
  obtain ⟨rfl, -⟩ := hv
  have hx := B.exec
  have hb := B.bytes
  have hr := B.returns
  have hts := atoms_spec (ws := wsX7_wayOf) B.pre
  have hown : s.vm.findClass RX7 = some m.cls := findClass_of_methodNamed B.named
  have hlocks := B.notSynchronized
  have hl := lv_entry ([.int a0]) (n := 1) (Nat.le_of_ble_eq_true rfl)
  rw [lg_entry_eq]
  generalize (lg_sl ([.int a0]) ++ List.replicate (1 - (lg_sl ([.int a0])).length) Slot.unset).toArray = ls at hl ⊢
  have hl : lv_has ls 1 [(0, .int a0)] := hl
  unfold fX7_wayOf at hf
  refine lv_iload_n hx hb dX7_wayOf_0 rfl (lv_at hl 0 rfl) ?_
  refine lv_bipush (v := (20 : Int32)) hx hb dX7_wayOf_1 (by decide) ?_
  refine lv_irem hx hb dX7_wayOf_3 (by decide) ?_
  refine lv_iconst (v := (2 : Int32)) hx hb dX7_wayOf_4 (by decide) ?_
  refine lv_iload_n hx hb dX7_wayOf_5 rfl (lv_at hl 0 rfl) ?_
  refine lv_bipush (v := (20 : Int32)) hx hb dX7_wayOf_6 (by decide) ?_
  refine lv_idiv hx hb dX7_wayOf_8 (by decide) ?_
  refine lv_imul hx hb dX7_wayOf_9 ?_
  refine lv_iadd hx hb dX7_wayOf_10 ?_
  exact W.iret (v := ((a0 - a0 / (20 : Int32) * (20 : Int32)) + ((2 : Int32) * (a0 / (20 : Int32))))) hx hb hr (fun t ht hW => ⟨congrArg (fun x => Outcome.returned (some (Value.int x))) (so_e hf), ht⟩) fl0 dX7_wayOf_11
set_option maxHeartbeats 4000000 in
set_option maxRecDepth 100000 in
theorem c_X7_takenOn (l : Launch) (dC : Nat → ClassId) (dI : Nat → Nat → Nat) (cI cZ : ClassId) (a : Nat → Nat) (M : Mem) (a1 : Int32) (z : Int32) (hf : fX7_takenOn M a1 = some z) : Met l yX7_takenOn wsX7_takenOn ({ frames := 1, cells := 0, slots := 0, locals := 21 } : Room) (va_Pc [.ref (a 0), .int a1] (RO (dC, dI) cI cZ (wX7 cI cZ a M))) (k2_QcV (.int z)) 0 0 (fun _ => False) := by
  refine Met.ofW (cc := cX7_takenOn) (maxL := 4) (ret := (some .int)) (by decide) rfl ?_
  intro p e s m args below meth c s₁ B hml hv
  obtain ⟨rfl, hP, hK, hNW⟩ := hv
  have hx := B.exec
  have hb := B.bytes
  have hr := B.returns
  have hts := atoms_spec (ws := wsX7_takenOn) B.pre
  have hown : s.vm.findClass RX7 = some m.cls := findClass_of_methodNamed B.named
  have hlocks := B.notSynchronized
  have hinX7 : ∀ w ∈ u_ws RX7 TX7 6, w ∈ wsX7_takenOn := by decide +kernel
  have hw1 := hts (.fieldLink RX7 9 "GlideShelves$Tower" "count" "I") (by decide +kernel)
  have hw2 := hts (.fieldLink RX7 15 "GlideShelves$Tower" "window" "I") (by decide +kernel)
  have hw3 := hts (.fieldLink RX7 22 "GlideShelves$Tower" "places" "[I") (by decide +kernel)
  have hw4 := hts (.fieldLink RX7 18 "GlideShelves$Tower" "heights" "[I") (by decide +kernel)
  have hfX7_takenOn_B54 : ∀ (kb : Int32 → Int32 → Int32 → Option (Int32)) (hkb : ∀ (l1 : Int32) (l2 : Int32) (l3 : Int32), kb l1 l2 l3 = some z → ∀ (ls : Array Slot), lv_has ls 4 [(0, .ref (a 0)), (1, .int l1), (2, .int l2), (3, .int l3)] → W p l e (headSpec wsX7_takenOn ({ frames := 1, cells := 0, slots := 0, locals := 21 } : Room)).room s m ([.ref (a 0), .int a1] : List Value).toArray below meth c s.heap [] 0 0 (MQ below (k2_QcV (.int z)) ([.ref (a 0), .int a1] : List Value).toArray s 0 0 (fun _ => False)) (F0 m 4 ls [])) (kx60 : Int32 → Option (Int32)) (hkx60 : ∀ (l2 : Int32), kx60 l2 = some z → ∀ (ls : Array Slot), lv_has ls 4 [(2, .int l2)] → W p l e (headSpec wsX7_takenOn ({ frames := 1, cells := 0, slots := 0, locals := 21 } : Room)).room s m ([.ref (a 0), .int a1] : List Value).toArray below meth c s.heap [] 0 0 (MQ below (k2_QcV (.int z)) ([.ref (a 0), .int a1] : List Value).toArray s 0 0 (fun _ => False)) (F0 m 60 ls [])), ∀ (l1 : Int32) (l2 : Int32) (l3 : Int32), fX7_takenOn_B54 M kb kx60 l1 l2 l3 = some z → ∀ (ls : Array Slot), lv_has ls 4 [(0, .ref (a 0)), (1, .int l1), (2, .int l2), (3, .int l3)] → W p l e (headSpec wsX7_takenOn ({ frames := 1, cells := 0, slots := 0, locals := 21 } : Room)).room s m ([.ref (a 0), .int a1] : List Value).toArray below meth c s.heap [] 0 0 (MQ below (k2_QcV (.int z)) ([.ref (a 0), .int a1] : List Value).toArray s 0 0 (fun _ => False)) (F0 m 54 ls []) := by
    intro kb hkb kx60 hkx60 l1 l2 l3 hf ls hl
    unfold fX7_takenOn_B54 at hf
    refine lv_iinc (v := (l3 + (1 : Int32))) (lv' := [(3, .int (l3 + (1 : Int32))), (0, .ref (a 0)), (1, .int l1), (2, .int l2)]) hx hb dX7_takenOn_54 hl (k := 3) rfl rfl (by decide) rfl (fun ls hl => ?_)
    refine lv_goto (tgt := 4) hx hb dX7_takenOn_57 (by decide) ?_
    exact hkb l1 l2 (l3 + (1 : Int32)) hf _ (lv_sub hl [1, 2, 3, 0] rfl)
  have hfX7_takenOn_L4 : ∀ (n : Nat) (kx60 : Int32 → Option (Int32)) (hkx60 : ∀ (l2 : Int32), kx60 l2 = some z → ∀ (ls : Array Slot), lv_has ls 4 [(2, .int l2)] → W p l e (headSpec wsX7_takenOn ({ frames := 1, cells := 0, slots := 0, locals := 21 } : Room)).room s m ([.ref (a 0), .int a1] : List Value).toArray below meth c s.heap [] 0 0 (MQ below (k2_QcV (.int z)) ([.ref (a 0), .int a1] : List Value).toArray s 0 0 (fun _ => False)) (F0 m 60 ls [])), ∀ (l1 : Int32) (l2 : Int32) (l3 : Int32), fX7_takenOn_L4 M n kx60 l1 l2 l3 = some z → ∀ (ls : Array Slot), lv_has ls 4 [(0, .ref (a 0)), (1, .int l1), (2, .int l2), (3, .int l3)] → W p l e (headSpec wsX7_takenOn ({ frames := 1, cells := 0, slots := 0, locals := 21 } : Room)).room s m ([.ref (a 0), .int a1] : List Value).toArray below meth c s.heap [] 0 0 (MQ below (k2_QcV (.int z)) ([.ref (a 0), .int a1] : List Value).toArray s 0 0 (fun _ => False)) (F0 m 4 ls []) := by
    intro n
    induction n with
    | zero =>
      intro kx60 hkx60 l1 l2 l3 hf ls hl
      rw [fX7_takenOn_L4] at hf
      cases hf
    | succ n ih =>
      intro kx60 hkx60 l1 l2 l3 hf ls hl
      rw [fX7_takenOn_L4] at hf
      refine lv_iload_n hx hb dX7_takenOn_4 rfl (lv_at hl 3 rfl) ?_
      refine lv_aload_n hx hb dX7_takenOn_5 rfl (lv_at hl 0 rfl) ?_
      refine va_get (D := (dC, dI)) (ci := 7) (v := .int (M 0 0)) (C := RX7) (T := TX7) (N := 6) hx hb hts hinX7 hown hK hP 0 rfl rfl 0 (by decide) hw1 (fun _ h9 => h9) rfl dX7_takenOn_6 ?_
      refine lv_icmp_ge (tgt := 60) hx hb dX7_takenOn_9 (by decide) (fun c9 => ?_) (fun c9 => ?_)
      · have hf := it_t hf c9
        exact hkx60 l2 hf _ (lv_sub hl [2] rfl)
      · have hf := it_f hf c9
        refine lv_iload_n hx hb dX7_takenOn_12 rfl (lv_at hl 3 rfl) ?_
        refine lv_aload_n hx hb dX7_takenOn_13 rfl (lv_at hl 0 rfl) ?_
        refine va_get (D := (dC, dI)) (ci := 7) (v := .int (M 0 1)) (C := RX7) (T := TX7) (N := 6) hx hb hts hinX7 hown hK hP 0 rfl rfl 1 (by decide) hw2 (fun _ h9 => h9) rfl dX7_takenOn_14 ?_
        refine lv_icmp_eq (tgt := 54) hx hb dX7_takenOn_17 (by decide) (fun c9 => ?_) (fun c9 => ?_)
        · have hf := it_t hf c9
          exact hfX7_takenOn_B54 _ (ih kx60 hkx60) _ hkx60 l1 l2 l3 hf _ (lv_sub hl [0, 1, 2, 3] rfl)
        · have hf := it_f hf c9
          refine lv_aload_n hx hb dX7_takenOn_20 rfl (lv_at hl 0 rfl) ?_
          refine va_get (D := (dC, dI)) (ci := 7) (v := .ref (a 2)) (C := RX7) (T := TX7) (N := 6) hx hb hts hinX7 hown hK hP 0 rfl rfl 3 (by decide) hw3 (fun _ h9 => h9) rfl dX7_takenOn_21 ?_
          refine lv_iload_n hx hb dX7_takenOn_24 rfl (lv_at hl 3 rfl) ?_
          obtain ⟨hi, hf⟩ := gd_s hf
          refine va_iald (D := (dC, dI)) (f := (M 2)) hx hb hK hP 2 0 rfl rfl (inb_in hi) dX7_takenOn_25 ?_
          refine lv_bipush (v := (20 : Int32)) hx hb dX7_takenOn_26 (by decide) ?_
          refine lv_idiv hx hb dX7_takenOn_28 (by decide) ?_
          refine lv_iload_n hx hb dX7_takenOn_29 rfl (lv_at hl 1 rfl) ?_
          refine lv_icmp_ne (tgt := 54) hx hb dX7_takenOn_30 (by decide) (fun c9 => ?_) (fun c9 => ?_)
          · have hf := it_t hf c9
            exact hfX7_takenOn_B54 _ (ih kx60 hkx60) _ hkx60 l1 l2 l3 hf _ (lv_sub hl [0, 1, 2, 3] rfl)
          · have hf := it_n hf c9
            refine lv_iload_n hx hb dX7_takenOn_33 rfl (lv_at hl 2 rfl) ?_
            refine lv_aload_n hx hb dX7_takenOn_34 rfl (lv_at hl 0 rfl) ?_
            refine va_get (D := (dC, dI)) (ci := 7) (v := .ref (a 2)) (C := RX7) (T := TX7) (N := 6) hx hb hts hinX7 hown hK hP 0 rfl rfl 3 (by decide) hw3 (fun _ h9 => h9) rfl dX7_takenOn_35 ?_
            refine lv_iload_n hx hb dX7_takenOn_38 rfl (lv_at hl 3 rfl) ?_
            obtain ⟨hi, hf⟩ := gd_s hf
            refine va_iald (D := (dC, dI)) (f := (M 2)) hx hb hK hP 2 0 rfl rfl (inb_in hi) dX7_takenOn_39 ?_
            refine lv_bipush (v := (20 : Int32)) hx hb dX7_takenOn_40 (by decide) ?_
            refine lv_irem hx hb dX7_takenOn_42 (by decide) ?_
            refine lv_aload_n hx hb dX7_takenOn_43 rfl (lv_at hl 0 rfl) ?_
            refine va_get (D := (dC, dI)) (ci := 7) (v := .ref (a 1)) (C := RX7) (T := TX7) (N := 6) hx hb hts hinX7 hown hK hP 0 rfl rfl 2 (by decide) hw4 (fun _ h9 => h9) rfl dX7_takenOn_44 ?_
            refine lv_iload_n hx hb dX7_takenOn_47 rfl (lv_at hl 3 rfl) ?_
            obtain ⟨hi, hf⟩ := gd_s hf
            refine va_iald (D := (dC, dI)) (f := (M 1)) hx hb hK hP 1 0 rfl rfl (inb_in hi) dX7_takenOn_48 ?_
            obtain ⟨r49, hc49, hf⟩ := bi_s hf
            refine cRO (W.runS (As := [.int ((M 2 l3.toNatClampNeg) - (M 2 l3.toNatClampNeg) / (20 : Int32) * (20 : Int32)), .int (M 1 l3.toNatClampNeg)]) (rest := [.int l2]) ⟨hx, hb, hml, hown, hts⟩ (c_X7_rowOf l ((M 2 l3.toNatClampNeg) - (M 2 l3.toNatClampNeg) / (20 : Int32) * (20 : Int32)) (M 1 l3.toNatClampNeg) r49 hc49) (va_cwS 2 hts gX7_takenOn_X7_rowOf rfl rfl rfl (by decide +kernel) ⟨Nat.le_of_ble_eq_true rfl, Nat.le_of_ble_eq_true rfl⟩) ⟨tr_blind, tr_pre⟩ rfl rfl hl.1 rfl (lv_room (Nat.le_of_ble_eq_true rfl)) dX7_takenOn_49 ⟨Nat.le_of_ble_eq_true rfl, Nat.le_of_ble_eq_true rfl⟩) ?_
            refine lv_ior hx hb dX7_takenOn_52 ?_
            refine lv_istore_n (lv' := [(2, .int (l2 ||| r49)), (0, .ref (a 0)), (1, .int l1), (3, .int l3)]) hx hb dX7_takenOn_53 rfl hl (by decide) rfl (fun ls hl => ?_)
            exact hfX7_takenOn_B54 _ (ih kx60 hkx60) _ hkx60 l1 (l2 ||| r49) l3 hf _ (lv_sub hl [1, 2, 0, 3] rfl)
  have hl := lv_entry ([.ref (a 0), .int a1]) (n := 4) (Nat.le_of_ble_eq_true rfl)
  rw [lg_entry_eq]
  generalize (lg_sl ([.ref (a 0), .int a1]) ++ List.replicate (4 - (lg_sl ([.ref (a 0), .int a1])).length) Slot.unset).toArray = ls at hl ⊢
  have hl : lv_has ls 4 [(0, .ref (a 0)), (1, .int a1)] := hl
  unfold fX7_takenOn at hf
  refine lv_iconst (v := (0 : Int32)) hx hb dX7_takenOn_0 (by decide) ?_
  refine lv_istore_n (lv' := [(2, .int (0 : Int32)), (0, .ref (a 0)), (1, .int a1)]) hx hb dX7_takenOn_1 rfl hl (by decide) rfl (fun ls hl => ?_)
  refine lv_iconst (v := (0 : Int32)) hx hb dX7_takenOn_2 (by decide) ?_
  refine lv_istore_n (lv' := [(3, .int (0 : Int32)), (2, .int (0 : Int32)), (0, .ref (a 0)), (1, .int a1)]) hx hb dX7_takenOn_3 rfl hl (by decide) rfl (fun ls hl => ?_)
  refine hfX7_takenOn_L4 5000 _ (fun l2 hf ls hl => ?_) a1 (0 : Int32) (0 : Int32) hf _ (lv_sub hl [2, 3, 1, 0] rfl)
  refine lv_iload_n hx hb dX7_takenOn_60 rfl (lv_at hl 0 rfl) ?_
  exact W.iret (v := l2) hx hb hr (fun t ht hW => ⟨congrArg (fun x => Outcome.returned (some (Value.int x))) (so_e hf), ht⟩) fl0 dX7_takenOn_61
set_option maxHeartbeats 4000000 in
set_option maxRecDepth 100000 in
theorem c_X7_firstFree (l : Launch) (dC : Nat → ClassId) (dI : Nat → Nat → Nat) (cI cZ : ClassId) (a : Nat → Nat) (M : Mem) (a1 : Int32) (z : Int32) (hf : fX7_firstFree M a1 = some z) : Met l yX7_firstFree wsX7_firstFree ({ frames := 2, cells := 0, slots := 0, locals := 45 } : Room) (va_Pc [.ref (a 0), .int a1] (RO (dC, dI) cI cZ (wX7 cI cZ a M))) (k2_QcV (.int z)) 0 0 (fun _ => False) := by
  refine Met.ofW (cc := cX7_firstFree) (maxL := 2) (ret := (some .int)) (by decide) rfl ?_
  intro p e s m args below meth c s₁ B hml hv
  obtain ⟨rfl, hP, hK, hNW⟩ := hv
  have hx := B.exec
  have hb := B.bytes
  have hr := B.returns
  have hts := atoms_spec (ws := wsX7_firstFree) B.pre
  have hown : s.vm.findClass RX7 = some m.cls := findClass_of_methodNamed B.named
  have hlocks := B.notSynchronized
  have hl := lv_entry ([.ref (a 0), .int a1]) (n := 2) (Nat.le_of_ble_eq_true rfl)
  rw [lg_entry_eq]
  generalize (lg_sl ([.ref (a 0), .int a1]) ++ List.replicate (2 - (lg_sl ([.ref (a 0), .int a1])).length) Slot.unset).toArray = ls at hl ⊢
  have hl : lv_has ls 2 [(0, .ref (a 0)), (1, .int a1)] := hl
  unfold fX7_firstFree at hf
  refine lv_aload_n hx hb dX7_firstFree_0 rfl (lv_at hl 0 rfl) ?_
  refine lv_iconst (v := (0 : Int32)) hx hb dX7_firstFree_1 (by decide) ?_
  obtain ⟨r2, hc2, hf⟩ := bi_s hf
  have hPc := hP
  refine cRO (W.runV (As := [.int (0 : Int32)]) (rest := []) ⟨hx, hb, hml, hown, hts⟩ (c_X7_takenOn l dC dI cI cZ a M (0 : Int32) r2 hc2) (cwV 1 hts gX7_firstFree_X7_takenOn rfl rfl rfl (by decide +kernel) ⟨Nat.le_of_ble_eq_true rfl, Nat.le_of_ble_eq_true rfl⟩) ⟨RO.blind, va_recv hK hP (ci := 7) (q0 := 0) rfl rfl, RO.pre hPc hK hNW⟩ rfl rfl hl.1 rfl (lv_room (Nat.le_of_ble_eq_true rfl)) dX7_firstFree_2 ⟨Nat.le_of_ble_eq_true rfl, Nat.le_of_ble_eq_true rfl⟩) ?_
  refine lv_aload_n hx hb dX7_firstFree_5 rfl (lv_at hl 0 rfl) ?_
  refine lv_iconst (v := (1 : Int32)) hx hb dX7_firstFree_6 (by decide) ?_
  obtain ⟨r7, hc7, hf⟩ := bi_s hf
  have hPc := hP
  refine cRO (W.runV (As := [.int (1 : Int32)]) (rest := [.int r2]) ⟨hx, hb, hml, hown, hts⟩ (c_X7_takenOn l dC dI cI cZ a M (1 : Int32) r7 hc7) (cwV 1 hts gX7_firstFree_X7_takenOn rfl rfl rfl (by decide +kernel) ⟨Nat.le_of_ble_eq_true rfl, Nat.le_of_ble_eq_true rfl⟩) ⟨RO.blind, va_recv hK hP (ci := 7) (q0 := 0) rfl rfl, RO.pre hPc hK hNW⟩ rfl rfl hl.1 rfl (lv_room (Nat.le_of_ble_eq_true rfl)) dX7_firstFree_7 ⟨Nat.le_of_ble_eq_true rfl, Nat.le_of_ble_eq_true rfl⟩) ?_
  refine lv_iload_n hx hb dX7_firstFree_10 rfl (lv_at hl 1 rfl) ?_
  obtain ⟨r11, hc11, hf⟩ := bi_s hf
  refine cRO (W.runS (As := [.int r2, .int r7, .int a1]) (rest := []) ⟨hx, hb, hml, hown, hts⟩ (c_X7_firstFit l r2 r7 a1 r11 hc11) (va_cwS 3 hts gX7_firstFree_X7_firstFit rfl rfl rfl (by decide +kernel) ⟨Nat.le_of_ble_eq_true rfl, Nat.le_of_ble_eq_true rfl⟩) ⟨tr_blind, tr_pre⟩ rfl rfl hl.1 rfl (lv_room (Nat.le_of_ble_eq_true rfl)) dX7_firstFree_11 ⟨Nat.le_of_ble_eq_true rfl, Nat.le_of_ble_eq_true rfl⟩) ?_
  exact W.iret (v := r11) hx hb hr (fun t ht hW => ⟨congrArg (fun x => Outcome.returned (some (Value.int x))) (so_e hf), ht⟩) fl0 dX7_firstFree_14
set_option maxHeartbeats 4000000 in
set_option maxRecDepth 100000 in
theorem c_X7_holderOf (l : Launch) (dC : Nat → ClassId) (dI : Nat → Nat → Nat) (cI cZ : ClassId) (a : Nat → Nat) (M : Mem) (a1 : Int32) (z : Int32) (hf : fX7_holderOf M a1 = some z) : Met l yX7_holderOf wsX7_holderOf ({ frames := 0, cells := 0, slots := 0, locals := 0 } : Room) (va_Pc [.ref (a 0), .int a1] (RO (dC, dI) cI cZ (wX7 cI cZ a M))) (k2_QcV (.int z)) 0 0 (fun _ => False) := by
  refine Met.ofW (cc := cX7_holderOf) (maxL := 3) (ret := (some .int)) (by decide) rfl ?_
  intro p e s m args below meth c s₁ B hml hv
  obtain ⟨rfl, hP, hK, hNW⟩ := hv
  have hx := B.exec
  have hb := B.bytes
  have hr := B.returns
  have hts := atoms_spec (ws := wsX7_holderOf) B.pre
  have hown : s.vm.findClass RX7 = some m.cls := findClass_of_methodNamed B.named
  have hlocks := B.notSynchronized
  have hinX7 : ∀ w ∈ u_ws RX7 TX7 6, w ∈ wsX7_holderOf := by decide +kernel
  have hw1 := hts (.fieldLink RX7 9 "GlideShelves$Tower" "count" "I") (by decide +kernel)
  have hw2 := hts (.fieldLink RX7 15 "GlideShelves$Tower" "window" "I") (by decide +kernel)
  have hw3 := hts (.fieldLink RX7 22 "GlideShelves$Tower" "places" "[I") (by decide +kernel)
  have hw4 := hts (.fieldLink RX7 18 "GlideShelves$Tower" "heights" "[I") (by decide +kernel)
  have hfX7_holderOf_B47 : ∀ (kb : Int32 → Int32 → Option (Int32)) (hkb : ∀ (l1 : Int32) (l2 : Int32), kb l1 l2 = some z → ∀ (ls : Array Slot), lv_has ls 3 [(0, .ref (a 0)), (1, .int l1), (2, .int l2)] → W p l e (headSpec wsX7_holderOf ({ frames := 0, cells := 0, slots := 0, locals := 0 } : Room)).room s m ([.ref (a 0), .int a1] : List Value).toArray below meth c s.heap [] 0 0 (MQ below (k2_QcV (.int z)) ([.ref (a 0), .int a1] : List Value).toArray s 0 0 (fun _ => False)) (F0 m 2 ls [])) (kx53 : Unit → Option (Int32)) (hkx53 : ∀ (_ : Unit), kx53 () = some z → ∀ (ls : Array Slot), lv_has ls 3 [] → W p l e (headSpec wsX7_holderOf ({ frames := 0, cells := 0, slots := 0, locals := 0 } : Room)).room s m ([.ref (a 0), .int a1] : List Value).toArray below meth c s.heap [] 0 0 (MQ below (k2_QcV (.int z)) ([.ref (a 0), .int a1] : List Value).toArray s 0 0 (fun _ => False)) (F0 m 53 ls [])), ∀ (l1 : Int32) (l2 : Int32), fX7_holderOf_B47 M kb kx53 l1 l2 = some z → ∀ (ls : Array Slot), lv_has ls 3 [(0, .ref (a 0)), (1, .int l1), (2, .int l2)] → W p l e (headSpec wsX7_holderOf ({ frames := 0, cells := 0, slots := 0, locals := 0 } : Room)).room s m ([.ref (a 0), .int a1] : List Value).toArray below meth c s.heap [] 0 0 (MQ below (k2_QcV (.int z)) ([.ref (a 0), .int a1] : List Value).toArray s 0 0 (fun _ => False)) (F0 m 47 ls []) := by
    intro kb hkb kx53 hkx53 l1 l2 hf ls hl
    unfold fX7_holderOf_B47 at hf
    refine lv_iinc (v := (l2 + (1 : Int32))) (lv' := [(2, .int (l2 + (1 : Int32))), (0, .ref (a 0)), (1, .int l1)]) hx hb dX7_holderOf_47 hl (k := 2) rfl rfl (by decide) rfl (fun ls hl => ?_)
    refine lv_goto (tgt := 2) hx hb dX7_holderOf_50 (by decide) ?_
    exact hkb l1 (l2 + (1 : Int32)) hf _ (lv_sub hl [1, 2, 0] rfl)
  have hfX7_holderOf_L2 : ∀ (n : Nat) (kx45 : Int32 → Option (Int32)) (hkx45 : ∀ (l2 : Int32), kx45 l2 = some z → ∀ (ls : Array Slot), lv_has ls 3 [(2, .int l2)] → W p l e (headSpec wsX7_holderOf ({ frames := 0, cells := 0, slots := 0, locals := 0 } : Room)).room s m ([.ref (a 0), .int a1] : List Value).toArray below meth c s.heap [] 0 0 (MQ below (k2_QcV (.int z)) ([.ref (a 0), .int a1] : List Value).toArray s 0 0 (fun _ => False)) (F0 m 45 ls [])) (kx53 : Unit → Option (Int32)) (hkx53 : ∀ (_ : Unit), kx53 () = some z → ∀ (ls : Array Slot), lv_has ls 3 [] → W p l e (headSpec wsX7_holderOf ({ frames := 0, cells := 0, slots := 0, locals := 0 } : Room)).room s m ([.ref (a 0), .int a1] : List Value).toArray below meth c s.heap [] 0 0 (MQ below (k2_QcV (.int z)) ([.ref (a 0), .int a1] : List Value).toArray s 0 0 (fun _ => False)) (F0 m 53 ls [])), ∀ (l1 : Int32) (l2 : Int32), fX7_holderOf_L2 M n kx45 kx53 l1 l2 = some z → ∀ (ls : Array Slot), lv_has ls 3 [(0, .ref (a 0)), (1, .int l1), (2, .int l2)] → W p l e (headSpec wsX7_holderOf ({ frames := 0, cells := 0, slots := 0, locals := 0 } : Room)).room s m ([.ref (a 0), .int a1] : List Value).toArray below meth c s.heap [] 0 0 (MQ below (k2_QcV (.int z)) ([.ref (a 0), .int a1] : List Value).toArray s 0 0 (fun _ => False)) (F0 m 2 ls []) := by
    intro n
    induction n with
    | zero =>
      intro kx45 hkx45 kx53 hkx53 l1 l2 hf ls hl
      rw [fX7_holderOf_L2] at hf
      cases hf
    | succ n ih =>
      intro kx45 hkx45 kx53 hkx53 l1 l2 hf ls hl
      rw [fX7_holderOf_L2] at hf
      refine lv_iload_n hx hb dX7_holderOf_2 rfl (lv_at hl 2 rfl) ?_
      refine lv_aload_n hx hb dX7_holderOf_3 rfl (lv_at hl 0 rfl) ?_
      refine va_get (D := (dC, dI)) (ci := 7) (v := .int (M 0 0)) (C := RX7) (T := TX7) (N := 6) hx hb hts hinX7 hown hK hP 0 rfl rfl 0 (by decide) hw1 (fun _ h9 => h9) rfl dX7_holderOf_4 ?_
      refine lv_icmp_ge (tgt := 53) hx hb dX7_holderOf_7 (by decide) (fun c9 => ?_) (fun c9 => ?_)
      · have hf := it_t hf c9
        exact hkx53 () hf _ (lv_sub hl [] rfl)
      · have hf := it_f hf c9
        refine lv_iload_n hx hb dX7_holderOf_10 rfl (lv_at hl 2 rfl) ?_
        refine lv_aload_n hx hb dX7_holderOf_11 rfl (lv_at hl 0 rfl) ?_
        refine va_get (D := (dC, dI)) (ci := 7) (v := .int (M 0 1)) (C := RX7) (T := TX7) (N := 6) hx hb hts hinX7 hown hK hP 0 rfl rfl 1 (by decide) hw2 (fun _ h9 => h9) rfl dX7_holderOf_12 ?_
        refine lv_icmp_eq (tgt := 47) hx hb dX7_holderOf_15 (by decide) (fun c9 => ?_) (fun c9 => ?_)
        · have hf := it_t hf c9
          exact hfX7_holderOf_B47 _ (ih kx45 hkx45 kx53 hkx53) _ hkx53 l1 l2 hf _ (lv_sub hl [0, 1, 2] rfl)
        · have hf := it_f hf c9
          refine lv_iload_n hx hb dX7_holderOf_18 rfl (lv_at hl 1 rfl) ?_
          refine lv_aload_n hx hb dX7_holderOf_19 rfl (lv_at hl 0 rfl) ?_
          refine va_get (D := (dC, dI)) (ci := 7) (v := .ref (a 2)) (C := RX7) (T := TX7) (N := 6) hx hb hts hinX7 hown hK hP 0 rfl rfl 3 (by decide) hw3 (fun _ h9 => h9) rfl dX7_holderOf_20 ?_
          refine lv_iload_n hx hb dX7_holderOf_23 rfl (lv_at hl 2 rfl) ?_
          obtain ⟨hi, hf⟩ := gd_s hf
          refine va_iald (D := (dC, dI)) (f := (M 2)) hx hb hK hP 2 0 rfl rfl (inb_in hi) dX7_holderOf_24 ?_
          refine lv_icmp_lt (tgt := 47) hx hb dX7_holderOf_25 (by decide) (fun c9 => ?_) (fun c9 => ?_)
          · have hf := it_t hf c9
            exact hfX7_holderOf_B47 _ (ih kx45 hkx45 kx53 hkx53) _ hkx53 l1 l2 hf _ (lv_sub hl [0, 1, 2] rfl)
          · have hf := it_f hf c9
            refine lv_iload_n hx hb dX7_holderOf_28 rfl (lv_at hl 1 rfl) ?_
            refine lv_aload_n hx hb dX7_holderOf_29 rfl (lv_at hl 0 rfl) ?_
            refine va_get (D := (dC, dI)) (ci := 7) (v := .ref (a 2)) (C := RX7) (T := TX7) (N := 6) hx hb hts hinX7 hown hK hP 0 rfl rfl 3 (by decide) hw3 (fun _ h9 => h9) rfl dX7_holderOf_30 ?_
            refine lv_iload_n hx hb dX7_holderOf_33 rfl (lv_at hl 2 rfl) ?_
            obtain ⟨hi, hf⟩ := gd_s hf
            refine va_iald (D := (dC, dI)) (f := (M 2)) hx hb hK hP 2 0 rfl rfl (inb_in hi) dX7_holderOf_34 ?_
            refine lv_aload_n hx hb dX7_holderOf_35 rfl (lv_at hl 0 rfl) ?_
            refine va_get (D := (dC, dI)) (ci := 7) (v := .ref (a 1)) (C := RX7) (T := TX7) (N := 6) hx hb hts hinX7 hown hK hP 0 rfl rfl 2 (by decide) hw4 (fun _ h9 => h9) rfl dX7_holderOf_36 ?_
            refine lv_iload_n hx hb dX7_holderOf_39 rfl (lv_at hl 2 rfl) ?_
            obtain ⟨hi, hf⟩ := gd_s hf
            refine va_iald (D := (dC, dI)) (f := (M 1)) hx hb hK hP 1 0 rfl rfl (inb_in hi) dX7_holderOf_40 ?_
            refine lv_iadd hx hb dX7_holderOf_41 ?_
            refine lv_icmp_ge (tgt := 47) hx hb dX7_holderOf_42 (by decide) (fun c9 => ?_) (fun c9 => ?_)
            · have hf := it_t hf c9
              exact hfX7_holderOf_B47 _ (ih kx45 hkx45 kx53 hkx53) _ hkx53 l1 l2 hf _ (lv_sub hl [0, 1, 2] rfl)
            · have hf := it_f hf c9
              exact hkx45 l2 hf _ (lv_sub hl [2] rfl)
  have hl := lv_entry ([.ref (a 0), .int a1]) (n := 3) (Nat.le_of_ble_eq_true rfl)
  rw [lg_entry_eq]
  generalize (lg_sl ([.ref (a 0), .int a1]) ++ List.replicate (3 - (lg_sl ([.ref (a 0), .int a1])).length) Slot.unset).toArray = ls at hl ⊢
  have hl : lv_has ls 3 [(0, .ref (a 0)), (1, .int a1)] := hl
  unfold fX7_holderOf at hf
  refine lv_iconst (v := (0 : Int32)) hx hb dX7_holderOf_0 (by decide) ?_
  refine lv_istore_n (lv' := [(2, .int (0 : Int32)), (0, .ref (a 0)), (1, .int a1)]) hx hb dX7_holderOf_1 rfl hl (by decide) rfl (fun ls hl => ?_)
  refine hfX7_holderOf_L2 5000 _ (fun l2 hf ls hl => ?_) _ (fun _ hf ls hl => ?_) a1 (0 : Int32) hf _ (lv_sub hl [1, 2, 0] rfl)
  · refine lv_iload_n hx hb dX7_holderOf_45 rfl (lv_at hl 0 rfl) ?_
    exact W.iret (v := l2) hx hb hr (fun t ht hW => ⟨congrArg (fun x => Outcome.returned (some (Value.int x))) (so_e hf), ht⟩) fl0 dX7_holderOf_46
  · refine lv_iconst (v := (-1 : Int32)) hx hb dX7_holderOf_53 (by decide) ?_
    exact W.iret (v := (-1 : Int32)) hx hb hr (fun t ht hW => ⟨congrArg (fun x => Outcome.returned (some (Value.int x))) (so_e hf), ht⟩) fl0 dX7_holderOf_54
