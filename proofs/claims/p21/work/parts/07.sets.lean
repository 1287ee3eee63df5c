theorem bc16 : ∀ a, a < 16 → ((((((((nI (a)) - ((((nI (a)).toUInt32 >>> ((nI (1)).toUInt32 &&& Int32.toUInt32 31)).toInt32) &&& 1431655765)) &&& 858993459) + (((((nI (a)) - ((((nI (a)).toUInt32 >>> ((nI (1)).toUInt32 &&& Int32.toUInt32 31)).toInt32) &&& 1431655765)).toUInt32 >>> ((nI (2)).toUInt32 &&& Int32.toUInt32 31)).toInt32) &&& 858993459)) + ((((((nI (a)) - ((((nI (a)).toUInt32 >>> ((nI (1)).toUInt32 &&& Int32.toUInt32 31)).toInt32) &&& 1431655765)) &&& 858993459) + (((((nI (a)) - ((((nI (a)).toUInt32 >>> ((nI (1)).toUInt32 &&& Int32.toUInt32 31)).toInt32) &&& 1431655765)).toUInt32 >>> ((nI (2)).toUInt32 &&& Int32.toUInt32 31)).toInt32) &&& 858993459)).toUInt32 >>> ((nI (4)).toUInt32 &&& Int32.toUInt32 31)).toInt32)) &&& 252645135) + ((((((((nI (a)) - ((((nI (a)).toUInt32 >>> ((nI (1)).toUInt32 &&& Int32.toUInt32 31)).toInt32) &&& 1431655765)) &&& 858993459) + (((((nI (a)) - ((((nI (a)).toUInt32 >>> ((nI (1)).toUInt32 &&& Int32.toUInt32 31)).toInt32) &&& 1431655765)).toUInt32 >>> ((nI (2)).toUInt32 &&& Int32.toUInt32 31)).toInt32) &&& 858993459)) + ((((((nI (a)) - ((((nI (a)).toUInt32 >>> ((nI (1)).toUInt32 &&& Int32.toUInt32 31)).toInt32) &&& 1431655765)) &&& 858993459) + (((((nI (a)) - ((((nI (a)).toUInt32 >>> ((nI (1)).toUInt32 &&& Int32.toUInt32 31)).toInt32) &&& 1431655765)).toUInt32 >>> ((nI (2)).toUInt32 &&& Int32.toUInt32 31)).toInt32) &&& 858993459)).toUInt32 >>> ((nI (4)).toUInt32 &&& Int32.toUInt32 31)).toInt32)) &&& 252645135).toUInt32 >>> ((nI (8)).toUInt32 &&& Int32.toUInt32 31)).toInt32)) + (((((((((nI (a)) - ((((nI (a)).toUInt32 >>> ((nI (1)).toUInt32 &&& Int32.toUInt32 31)).toInt32) &&& 1431655765)) &&& 858993459) + (((((nI (a)) - ((((nI (a)).toUInt32 >>> ((nI (1)).toUInt32 &&& Int32.toUInt32 31)).toInt32) &&& 1431655765)).toUInt32 >>> ((nI (2)).toUInt32 &&& Int32.toUInt32 31)).toInt32) &&& 858993459)) + ((((((nI (a)) - ((((nI (a)).toUInt32 >>> ((nI (1)).toUInt32 &&& Int32.toUInt32 31)).toInt32) &&& 1431655765)) &&& 858993459) + (((((nI (a)) - ((((nI (a)).toUInt32 >>> ((nI (1)).toUInt32 &&& Int32.toUInt32 31)).toInt32) &&& 1431655765)).toUInt32 >>> ((nI (2)).toUInt32 &&& Int32.toUInt32 31)).toInt32) &&& 858993459)).toUInt32 >>> ((nI (4)).toUInt32 &&& Int32.toUInt32 31)).toInt32)) &&& 252645135) + ((((((((nI (a)) - ((((nI (a)).toUInt32 >>> ((nI (1)).toUInt32 &&& Int32.toUInt32 31)).toInt32) &&& 1431655765)) &&& 858993459) + (((((nI (a)) - ((((nI (a)).toUInt32 >>> ((nI (1)).toUInt32 &&& Int32.toUInt32 31)).toInt32) &&& 1431655765)).toUInt32 >>> ((nI (2)).toUInt32 &&& Int32.toUInt32 31)).toInt32) &&& 858993459)) + ((((((nI (a)) - ((((nI (a)).toUInt32 >>> ((nI (1)).toUInt32 &&& Int32.toUInt32 31)).toInt32) &&& 1431655765)) &&& 858993459) + (((((nI (a)) - ((((nI (a)).toUInt32 >>> ((nI (1)).toUInt32 &&& Int32.toUInt32 31)).toInt32) &&& 1431655765)).toUInt32 >>> ((nI (2)).toUInt32 &&& Int32.toUInt32 31)).toInt32) &&& 858993459)).toUInt32 >>> ((nI (4)).toUInt32 &&& Int32.toUInt32 31)).toInt32)) &&& 252645135).toUInt32 >>> ((nI (8)).toUInt32 &&& Int32.toUInt32 31)).toInt32)).toUInt32 >>> ((nI (16)).toUInt32 &&& Int32.toUInt32 31)).toInt32)) &&& (nI (63)) = nI (pc4 a) := by decide +kernel
set_option maxRecDepth 100000 in
set_option maxHeartbeats 4000000 in
theorem c_J6_bitCount_0f7a4 (l : Launch) (g : GG) (a : Nat) (ha : a < 16) : IM l yJ6_bitCount_0f7a4 wsJ6_bitCount_0f7a4 1 g [.int (nI a)] [] (fun x w1 => x = nI (pc4 a) ∧ w1 = []) := by
  refine fun sz => im_body (Qc := fun A => va_Qi _ (iB g _) A) (cc := cJ6_bitCount_0f7a4) (maxL := 1) (ret := (some .int)) (by decide) rfl (Nat.le_of_ble_eq_true rfl) ?_ sz
  intro pg ev s0 mi below meth cd A hx hb hr hml hts hown hlocks hK hA H hP hD hS ls hl
  have hl : lv_has ls 1 [(0, .int (nI a))] := hl
  refine lv_iload_n hx hb dJ6_bitCount_0f7a4_0 rfl (lv_at hl 0 rfl) ?_
  refine lv_iload_n hx hb dJ6_bitCount_0f7a4_1 rfl (lv_at hl 0 rfl) ?_
  refine lv_iconst (v := nI (1)) hx hb dJ6_bitCount_0f7a4_2 (by decide) ?_
  refine lv_iushr hx hb dJ6_bitCount_0f7a4_3 rfl ?_
  refine lv_ldcw (v := 1431655765) hx hb hown (hts _ (List.mem_cons_of_mem _ (List.mem_of_getElem? (i := 0) rfl))) dJ6_bitCount_0f7a4_4 ?_
  refine lv_iand hx hb dJ6_bitCount_0f7a4_7 ?_
  refine lv_isub hx hb dJ6_bitCount_0f7a4_8 ?_
  refine lv_istore_n (lv' := [(0, .int ((nI (a)) - ((((nI (a)).toUInt32 >>> ((nI (1)).toUInt32 &&& Int32.toUInt32 31)).toInt32) &&& 1431655765)))]) hx hb dJ6_bitCount_0f7a4_9 rfl hl (by decide) rfl (fun ls hl => ?_)
  refine lv_iload_n hx hb dJ6_bitCount_0f7a4_10 rfl (lv_at hl 0 rfl) ?_
  refine lv_ldcw (v := 858993459) hx hb hown (hts _ (List.mem_cons_of_mem _ (List.mem_of_getElem? (i := 1) rfl))) dJ6_bitCount_0f7a4_11 ?_
  refine lv_iand hx hb dJ6_bitCount_0f7a4_14 ?_
  refine lv_iload_n hx hb dJ6_bitCount_0f7a4_15 rfl (lv_at hl 0 rfl) ?_
  refine lv_iconst (v := nI (2)) hx hb dJ6_bitCount_0f7a4_16 (by decide) ?_
  refine lv_iushr hx hb dJ6_bitCount_0f7a4_17 rfl ?_
  refine lv_ldcw (v := 858993459) hx hb hown (hts _ (List.mem_cons_of_mem _ (List.mem_of_getElem? (i := 1) rfl))) dJ6_bitCount_0f7a4_18 ?_
  refine lv_iand hx hb dJ6_bitCount_0f7a4_21 ?_
  refine lv_iadd hx hb dJ6_bitCount_0f7a4_22 ?_
  refine lv_istore_n (lv' := [(0, .int ((((nI (a)) - ((((nI (a)).toUInt32 >>> ((nI (1)).toUInt32 &&& Int32.toUInt32 31)).toInt32) &&& 1431655765)) &&& 858993459) + (((((nI (a)) - ((((nI (a)).toUInt32 >>> ((nI (1)).toUInt32 &&& Int32.toUInt32 31)).toInt32) &&& 1431655765)).toUInt32 >>> ((nI (2)).toUInt32 &&& Int32.toUInt32 31)).toInt32) &&& 858993459)))]) hx hb dJ6_bitCount_0f7a4_23 rfl hl (by decide) rfl (fun ls hl => ?_)
  refine lv_iload_n hx hb dJ6_bitCount_0f7a4_24 rfl (lv_at hl 0 rfl) ?_
  refine lv_iload_n hx hb dJ6_bitCount_0f7a4_25 rfl (lv_at hl 0 rfl) ?_
  refine lv_iconst (v := nI (4)) hx hb dJ6_bitCount_0f7a4_26 (by decide) ?_
  refine lv_iushr hx hb dJ6_bitCount_0f7a4_27 rfl ?_
  refine lv_iadd hx hb dJ6_bitCount_0f7a4_28 ?_
  refine lv_ldcw (v := 252645135) hx hb hown (hts _ (List.mem_cons_of_mem _ (List.mem_of_getElem? (i := 2) rfl))) dJ6_bitCount_0f7a4_29 ?_
  refine lv_iand hx hb dJ6_bitCount_0f7a4_32 ?_
  refine lv_istore_n (lv' := [(0, .int ((((((nI (a)) - ((((nI (a)).toUInt32 >>> ((nI (1)).toUInt32 &&& Int32.toUInt32 31)).toInt32) &&& 1431655765)) &&& 858993459) + (((((nI (a)) - ((((nI (a)).toUInt32 >>> ((nI (1)).toUInt32 &&& Int32.toUInt32 31)).toInt32) &&& 1431655765)).toUInt32 >>> ((nI (2)).toUInt32 &&& Int32.toUInt32 31)).toInt32) &&& 858993459)) + ((((((nI (a)) - ((((nI (a)).toUInt32 >>> ((nI (1)).toUInt32 &&& Int32.toUInt32 31)).toInt32) &&& 1431655765)) &&& 858993459) + (((((nI (a)) - ((((nI (a)).toUInt32 >>> ((nI (1)).toUInt32 &&& Int32.toUInt32 31)).toInt32) &&& 1431655765)).toUInt32 >>> ((nI (2)).toUInt32 &&& Int32.toUInt32 31)).toInt32) &&& 858993459)).toUInt32 >>> ((nI (4)).toUInt32 &&& Int32.toUInt32 31)).toInt32)) &&& 252645135))]) hx hb dJ6_bitCount_0f7a4_33 rfl hl (by decide) rfl (fun ls hl => ?_)
  refine lv_iload_n hx hb dJ6_bitCount_0f7a4_34 rfl (lv_at hl 0 rfl) ?_
  refine lv_iload_n hx hb dJ6_bitCount_0f7a4_35 rfl (lv_at hl 0 rfl) ?_
  refine lv_bipush (v := nI (8)) hx hb dJ6_bitCount_0f7a4_36 (by decide) ?_
  refine lv_iushr hx hb dJ6_bitCount_0f7a4_38 rfl ?_
  refine lv_iadd hx hb dJ6_bitCount_0f7a4_39 ?_
  refine lv_istore_n (lv' := [(0, .int (((((((nI (a)) - ((((nI (a)).toUInt32 >>> ((nI (1)).toUInt32 &&& Int32.toUInt32 31)).toInt32) &&& 1431655765)) &&& 858993459) + (((((nI (a)) - ((((nI (a)).toUInt32 >>> ((nI (1)).toUInt32 &&& Int32.toUInt32 31)).toInt32) &&& 1431655765)).toUInt32 >>> ((nI (2)).toUInt32 &&& Int32.toUInt32 31)).toInt32) &&& 858993459)) + ((((((nI (a)) - ((((nI (a)).toUInt32 >>> ((nI (1)).toUInt32 &&& Int32.toUInt32 31)).toInt32) &&& 1431655765)) &&& 858993459) + (((((nI (a)) - ((((nI (a)).toUInt32 >>> ((nI (1)).toUInt32 &&& Int32.toUInt32 31)).toInt32) &&& 1431655765)).toUInt32 >>> ((nI (2)).toUInt32 &&& Int32.toUInt32 31)).toInt32) &&& 858993459)).toUInt32 >>> ((nI (4)).toUInt32 &&& Int32.toUInt32 31)).toInt32)) &&& 252645135) + ((((((((nI (a)) - ((((nI (a)).toUInt32 >>> ((nI (1)).toUInt32 &&& Int32.toUInt32 31)).toInt32) &&& 1431655765)) &&& 858993459) + (((((nI (a)) - ((((nI (a)).toUInt32 >>> ((nI (1)).toUInt32 &&& Int32.toUInt32 31)).toInt32) &&& 1431655765)).toUInt32 >>> ((nI (2)).toUInt32 &&& Int32.toUInt32 31)).toInt32) &&& 858993459)) + ((((((nI (a)) - ((((nI (a)).toUInt32 >>> ((nI (1)).toUInt32 &&& Int32.toUInt32 31)).toInt32) &&& 1431655765)) &&& 858993459) + (((((nI (a)) - ((((nI (a)).toUInt32 >>> ((nI (1)).toUInt32 &&& Int32.toUInt32 31)).toInt32) &&& 1431655765)).toUInt32 >>> ((nI (2)).toUInt32 &&& Int32.toUInt32 31)).toInt32) &&& 858993459)).toUInt32 >>> ((nI (4)).toUInt32 &&& Int32.toUInt32 31)).toInt32)) &&& 252645135).toUInt32 >>> ((nI (8)).toUInt32 &&& Int32.toUInt32 31)).toInt32)))]) hx hb dJ6_bitCount_0f7a4_40 rfl hl (by decide) rfl (fun ls hl => ?_)
  refine lv_iload_n hx hb dJ6_bitCount_0f7a4_41 rfl (lv_at hl 0 rfl) ?_
  refine lv_iload_n hx hb dJ6_bitCount_0f7a4_42 rfl (lv_at hl 0 rfl) ?_
  refine lv_bipush (v := nI (16)) hx hb dJ6_bitCount_0f7a4_43 (by decide) ?_
  refine lv_iushr hx hb dJ6_bitCount_0f7a4_45 rfl ?_
  refine lv_iadd hx hb dJ6_bitCount_0f7a4_46 ?_
  refine lv_istore_n (lv' := [(0, .int ((((((((nI (a)) - ((((nI (a)).toUInt32 >>> ((nI (1)).toUInt32 &&& Int32.toUInt32 31)).toInt32) &&& 1431655765)) &&& 858993459) + (((((nI (a)) - ((((nI (a)).toUInt32 >>> ((nI (1)).toUInt32 &&& Int32.toUInt32 31)).toInt32) &&& 1431655765)).toUInt32 >>> ((nI (2)).toUInt32 &&& Int32.toUInt32 31)).toInt32) &&& 858993459)) + ((((((nI (a)) - ((((nI (a)).toUInt32 >>> ((nI (1)).toUInt32 &&& Int32.toUInt32 31)).toInt32) &&& 1431655765)) &&& 858993459) + (((((nI (a)) - ((((nI (a)).toUInt32 >>> ((nI (1)).toUInt32 &&& Int32.toUInt32 31)).toInt32) &&& 1431655765)).toUInt32 >>> ((nI (2)).toUInt32 &&& Int32.toUInt32 31)).toInt32) &&& 858993459)).toUInt32 >>> ((nI (4)).toUInt32 &&& Int32.toUInt32 31)).toInt32)) &&& 252645135) + ((((((((nI (a)) - ((((nI (a)).toUInt32 >>> ((nI (1)).toUInt32 &&& Int32.toUInt32 31)).toInt32) &&& 1431655765)) &&& 858993459) + (((((nI (a)) - ((((nI (a)).toUInt32 >>> ((nI (1)).toUInt32 &&& Int32.toUInt32 31)).toInt32) &&& 1431655765)).toUInt32 >>> ((nI (2)).toUInt32 &&& Int32.toUInt32 31)).toInt32) &&& 858993459)) + ((((((nI (a)) - ((((nI (a)).toUInt32 >>> ((nI (1)).toUInt32 &&& Int32.toUInt32 31)).toInt32) &&& 1431655765)) &&& 858993459) + (((((nI (a)) - ((((nI (a)).toUInt32 >>> ((nI (1)).toUInt32 &&& Int32.toUInt32 31)).toInt32) &&& 1431655765)).toUInt32 >>> ((nI (2)).toUInt32 &&& Int32.toUInt32 31)).toInt32) &&& 858993459)).toUInt32 >>> ((nI (4)).toUInt32 &&& Int32.toUInt32 31)).toInt32)) &&& 252645135).toUInt32 >>> ((nI (8)).toUInt32 &&& Int32.toUInt32 31)).toInt32)) + (((((((((nI (a)) - ((((nI (a)).toUInt32 >>> ((nI (1)).toUInt32 &&& Int32.toUInt32 31)).toInt32) &&& 1431655765)) &&& 858993459) + (((((nI (a)) - ((((nI (a)).toUInt32 >>> ((nI (1)).toUInt32 &&& Int32.toUInt32 31)).toInt32) &&& 1431655765)).toUInt32 >>> ((nI (2)).toUInt32 &&& Int32.toUInt32 31)).toInt32) &&& 858993459)) + ((((((nI (a)) - ((((nI (a)).toUInt32 >>> ((nI (1)).toUInt32 &&& Int32.toUInt32 31)).toInt32) &&& 1431655765)) &&& 858993459) + (((((nI (a)) - ((((nI (a)).toUInt32 >>> ((nI (1)).toUInt32 &&& Int32.toUInt32 31)).toInt32) &&& 1431655765)).toUInt32 >>> ((nI (2)).toUInt32 &&& Int32.toUInt32 31)).toInt32) &&& 858993459)).toUInt32 >>> ((nI (4)).toUInt32 &&& Int32.toUInt32 31)).toInt32)) &&& 252645135) + ((((((((nI (a)) - ((((nI (a)).toUInt32 >>> ((nI (1)).toUInt32 &&& Int32.toUInt32 31)).toInt32) &&& 1431655765)) &&& 858993459) + (((((nI (a)) - ((((nI (a)).toUInt32 >>> ((nI (1)).toUInt32 &&& Int32.toUInt32 31)).toInt32) &&& 1431655765)).toUInt32 >>> ((nI (2)).toUInt32 &&& Int32.toUInt32 31)).toInt32) &&& 858993459)) + ((((((nI (a)) - ((((nI (a)).toUInt32 >>> ((nI (1)).toUInt32 &&& Int32.toUInt32 31)).toInt32) &&& 1431655765)) &&& 858993459) + (((((nI (a)) - ((((nI (a)).toUInt32 >>> ((nI (1)).toUInt32 &&& Int32.toUInt32 31)).toInt32) &&& 1431655765)).toUInt32 >>> ((nI (2)).toUInt32 &&& Int32.toUInt32 31)).toInt32) &&& 858993459)).toUInt32 >>> ((nI (4)).toUInt32 &&& Int32.toUInt32 31)).toInt32)) &&& 252645135).toUInt32 >>> ((nI (8)).toUInt32 &&& Int32.toUInt32 31)).toInt32)).toUInt32 >>> ((nI (16)).toUInt32 &&& Int32.toUInt32 31)).toInt32)))]) hx hb dJ6_bitCount_0f7a4_47 rfl hl (by decide) rfl (fun ls hl => ?_)
  refine lv_iload_n hx hb dJ6_bitCount_0f7a4_48 rfl (lv_at hl 0 rfl) ?_
  refine lv_bipush (v := nI (63)) hx hb dJ6_bitCount_0f7a4_49 (by decide) ?_
  refine lv_iand hx hb dJ6_bitCount_0f7a4_51 ?_
  exact im_ret (w1 := []) (v := ((((((((nI (a)) - ((((nI (a)).toUInt32 >>> ((nI (1)).toUInt32 &&& Int32.toUInt32 31)).toInt32) &&& 1431655765)) &&& 858993459) + (((((nI (a)) - ((((nI (a)).toUInt32 >>> ((nI (1)).toUInt32 &&& Int32.toUInt32 31)).toInt32) &&& 1431655765)).toUInt32 >>> ((nI (2)).toUInt32 &&& Int32.toUInt32 31)).toInt32) &&& 858993459)) + ((((((nI (a)) - ((((nI (a)).toUInt32 >>> ((nI (1)).toUInt32 &&& Int32.toUInt32 31)).toInt32) &&& 1431655765)) &&& 858993459) + (((((nI (a)) - ((((nI (a)).toUInt32 >>> ((nI (1)).toUInt32 &&& Int32.toUInt32 31)).toInt32) &&& 1431655765)).toUInt32 >>> ((nI (2)).toUInt32 &&& Int32.toUInt32 31)).toInt32) &&& 858993459)).toUInt32 >>> ((nI (4)).toUInt32 &&& Int32.toUInt32 31)).toInt32)) &&& 252645135) + ((((((((nI (a)) - ((((nI (a)).toUInt32 >>> ((nI (1)).toUInt32 &&& Int32.toUInt32 31)).toInt32) &&& 1431655765)) &&& 858993459) + (((((nI (a)) - ((((nI (a)).toUInt32 >>> ((nI (1)).toUInt32 &&& Int32.toUInt32 31)).toInt32) &&& 1431655765)).toUInt32 >>> ((nI (2)).toUInt32 &&& Int32.toUInt32 31)).toInt32) &&& 858993459)) + ((((((nI (a)) - ((((nI (a)).toUInt32 >>> ((nI (1)).toUInt32 &&& Int32.toUInt32 31)).toInt32) &&& 1431655765)) &&& 858993459) + (((((nI (a)) - ((((nI (a)).toUInt32 >>> ((nI (1)).toUInt32 &&& Int32.toUInt32 31)).toInt32) &&& 1431655765)).toUInt32 >>> ((nI (2)).toUInt32 &&& Int32.toUInt32 31)).toInt32) &&& 858993459)).toUInt32 >>> ((nI (4)).toUInt32 &&& Int32.toUInt32 31)).toInt32)) &&& 252645135).toUInt32 >>> ((nI (8)).toUInt32 &&& Int32.toUInt32 31)).toInt32)) + (((((((((nI (a)) - ((((nI (a)).toUInt32 >>> ((nI (1)).toUInt32 &&& Int32.toUInt32 31)).toInt32) &&& 1431655765)) &&& 858993459) + (((((nI (a)) - ((((nI (a)).toUInt32 >>> ((nI (1)).toUInt32 &&& Int32.toUInt32 31)).toInt32) &&& 1431655765)).toUInt32 >>> ((nI (2)).toUInt32 &&& Int32.toUInt32 31)).toInt32) &&& 858993459)) + ((((((nI (a)) - ((((nI (a)).toUInt32 >>> ((nI (1)).toUInt32 &&& Int32.toUInt32 31)).toInt32) &&& 1431655765)) &&& 858993459) + (((((nI (a)) - ((((nI (a)).toUInt32 >>> ((nI (1)).toUInt32 &&& Int32.toUInt32 31)).toInt32) &&& 1431655765)).toUInt32 >>> ((nI (2)).toUInt32 &&& Int32.toUInt32 31)).toInt32) &&& 858993459)).toUInt32 >>> ((nI (4)).toUInt32 &&& Int32.toUInt32 31)).toInt32)) &&& 252645135) + ((((((((nI (a)) - ((((nI (a)).toUInt32 >>> ((nI (1)).toUInt32 &&& Int32.toUInt32 31)).toInt32) &&& 1431655765)) &&& 858993459) + (((((nI (a)) - ((((nI (a)).toUInt32 >>> ((nI (1)).toUInt32 &&& Int32.toUInt32 31)).toInt32) &&& 1431655765)).toUInt32 >>> ((nI (2)).toUInt32 &&& Int32.toUInt32 31)).toInt32) &&& 858993459)) + ((((((nI (a)) - ((((nI (a)).toUInt32 >>> ((nI (1)).toUInt32 &&& Int32.toUInt32 31)).toInt32) &&& 1431655765)) &&& 858993459) + (((((nI (a)) - ((((nI (a)).toUInt32 >>> ((nI (1)).toUInt32 &&& Int32.toUInt32 31)).toInt32) &&& 1431655765)).toUInt32 >>> ((nI (2)).toUInt32 &&& Int32.toUInt32 31)).toInt32) &&& 858993459)).toUInt32 >>> ((nI (4)).toUInt32 &&& Int32.toUInt32 31)).toInt32)) &&& 252645135).toUInt32 >>> ((nI (8)).toUInt32 &&& Int32.toUInt32 31)).toInt32)).toUInt32 >>> ((nI (16)).toUInt32 &&& Int32.toUInt32 31)).toInt32)) &&& (nI (63))) hx hb hr hlocks hP hS rfl ⟨bc16 a ha, rfl⟩ dJ6_bitCount_0f7a4_52

set_option maxRecDepth 100000 in
set_option maxHeartbeats 4000000 in
theorem c_X2_between (l : Launch) (g : GG) (x r a : Nat) (m : Nat → Nat) (f t : Nat) (hf : f < 5) (ht : t < 5) : IM l yX2_between wsX2_between 2 g [.ref x, .int (nI f), .int (nI t)] [(x, .inr (2, [.ref r])), (r, .inr (4, [.ref a])), (a, .inl (gI g, 25, .inl (rM (m))))] (fun x1 w1 => x1 = nI (m (f * 5 + t)) ∧ w1 = [(x, .inr (2, [.ref r])), (r, .inr (4, [.ref a])), (a, .inl (gI g, 25, .inl (rM (m))))]) := by
  refine fun sz => im_body (Qc := fun A => va_Qi _ (iB g _) A) (cc := cX2_between) (maxL := 3) (ret := (some .int)) (by decide) rfl (Nat.le_of_ble_eq_true rfl) ?_ sz
  intro pg ev s0 mi below meth cd A hx hb hr hml hts hown hlocks hK hA H hP hD hS ls hl
  have hl : lv_has ls 3 [(0, .ref x), (1, .int (nI f)), (2, .int (nI t))] := hl
  refine lv_aload_n hx hb dX2_between_0 rfl (lv_at hl 0 rfl) ?_
  refine va_get (D := g.1) (ci := 2) (v := .ref r) (C := RX2) (T := TX2) (N := 1) hx hb hts (fun _ h => (List.mem_cons_of_mem _ (List.mem_append_left _ (List.mem_append_right _ h)))) hown hK.1 hP 0 rfl rfl 0 (by decide) (hts _ (List.mem_cons_of_mem _ (List.mem_append_left _ (List.mem_append_left _ (List.mem_of_getElem? (i := 0) rfl))))) (fun _ h9 => h9) rfl dX2_between_1 ?_
  refine lv_iload_n hx hb dX2_between_4 rfl (lv_at hl 1 rfl) ?_
  refine lv_iconst (v := nI (5)) hx hb dX2_between_5 (by decide) ?_
  refine nv_imul hx hb dX2_between_6 ?_
  refine lv_iload_n hx hb dX2_between_7 rfl (lv_at hl 2 rfl) ?_
  refine nv_iadd hx hb dX2_between_8 ?_
  refine im_V (k := 1) hx hb hml hown hts (c_X4_get l g r a 25 (rM (m)) ((f * 5) + t) (by omega) (by decide)) gX2_between_X4_get rfl (by decide +kernel) ⟨Nat.le_of_ble_eq_true rfl, Nat.le_of_ble_eq_true rfl⟩ ⟨Nat.zero_le _, Nat.zero_le _⟩ hK hP hD hS hA [1, 2] rfl (by decide) 1 4 rfl rfl rfl hl.1 (rest := []) (As := [.int (nI ((f * 5) + t))]) rfl (Nat.le_of_ble_eq_true rfl) dX2_between_9 (fun x1 w1 H locs hpo hpd hS => ?_)
  obtain ⟨hx1, rfl⟩ := hpo
  have hx1 : x1 = nI (m ((f * 5) + t)) := hx1
  subst hx1
  obtain ⟨hP, hD⟩ := hpd [(x, .inr (2, [.ref r])), (r, .inr (4, [.ref a])), (a, .inl (gI g, 25, .inl (rM (m))))] [0] 3 rfl rfl [(x, .inr (2, [.ref r]))] rfl rfl (by decide) (by decide)
  exact im_ret (w1 := [(x, .inr (2, [.ref r])), (r, .inr (4, [.ref a])), (a, .inl (gI g, 25, .inl (rM (m))))]) (v := nI (m ((f * 5) + t))) hx hb hr hlocks hP hS rfl ⟨rfl, rfl⟩ dX2_between_12

set_option maxRecDepth 100000 in
set_option maxHeartbeats 4000000 in
theorem c_X2_contains (l : Launch) (g : GG) (x r a : Nat) (m : Nat → Nat) (f t k : Nat) (hm : mOk m) (hf : f < 5) (ht : t < 5) (hk : k < 4) : IM l yX2_contains wsX2_contains 3 g [.ref x, .int (nI f), .int (nI t), .int (nI k)] [(x, .inr (2, [.ref r])), (r, .inr (4, [.ref a])), (a, .inl (gI g, 25, .inl (rM (m))))] (fun x1 w1 => x1 = b2i ((m (f * 5 + t)).testBit k) ∧ w1 = [(x, .inr (2, [.ref r])), (r, .inr (4, [.ref a])), (a, .inl (gI g, 25, .inl (rM (m))))]) := by
  refine fun sz => im_body (Qc := fun A => va_Qi _ (iB g _) A) (cc := cX2_contains) (maxL := 4) (ret := (some .boolean)) (by decide) rfl (Nat.le_of_ble_eq_true rfl) ?_ sz
  intro pg ev s0 mi below meth cd A hx hb hr hml hts hown hlocks hK hA H hP hD hS ls hl
  have hl : lv_has ls 4 [(0, .ref x), (1, .int (nI f)), (2, .int (nI t)), (3, .int (nI k))] := hl
  refine lv_aload_n hx hb dX2_contains_0 rfl (lv_at hl 0 rfl) ?_
  refine lv_iload_n hx hb dX2_contains_1 rfl (lv_at hl 1 rfl) ?_
  refine lv_iload_n hx hb dX2_contains_2 rfl (lv_at hl 2 rfl) ?_
  refine im_V (k := 2) hx hb hml hown hts (c_X2_between l g x r a (m) (f) (t) (by omega) (by omega)) gX2_contains_X2_between rfl (by decide +kernel) ⟨Nat.le_of_ble_eq_true rfl, Nat.le_of_ble_eq_true rfl⟩ ⟨Nat.zero_le _, Nat.zero_le _⟩ hK hP hD hS hA [0, 1, 2] rfl (by decide) 0 2 rfl rfl rfl hl.1 (rest := []) (As := [.int (nI f), .int (nI t)]) rfl (Nat.le_of_ble_eq_true rfl) dX2_contains_3 (fun x1 w1 H locs hpo hpd hS => ?_)
  obtain ⟨hx1, rfl⟩ := hpo
  have hx1 : x1 = nI (m (f * 5 + t)) := hx1
  subst hx1
  obtain ⟨hP, hD⟩ := hpd [(x, .inr (2, [.ref r])), (r, .inr (4, [.ref a])), (a, .inl (gI g, 25, .inl (rM (m))))] [] 3 rfl rfl [] rfl rfl (by decide) (by decide)
  refine lv_iload_n hx hb dX2_contains_6 rfl (lv_at hl 3 rfl) ?_
  refine nv_ishr hx hb (by omega) (by have := hm (f * 5 + t); omega) dX2_contains_7 ?_
  refine lv_iconst (v := nI (1)) hx hb dX2_contains_8 (by decide) ?_
  refine nv_iand hx hb dX2_contains_9 ?_
  refine nv_if_eq (tgt := 17) hx hb and1_lt dX2_contains_10 (by decide) (fun c_1 => ?_) (fun c_1 => ?_)
  · skip
    refine lv_iconst (v := nI (0)) hx hb dX2_contains_17 (by decide) ?_
    exact im_retz (w1 := [(x, .inr (2, [.ref r])), (r, .inr (4, [.ref a])), (a, .inl (gI g, 25, .inl (rM (m))))]) (v := nI (0)) hx hb hr hlocks hP hS rfl ⟨by rw [tb_eq c_1]; rfl, rfl⟩ (by first | exact b2i_nar _ | rfl) dX2_contains_18
  · skip
    refine lv_iconst (v := nI (1)) hx hb dX2_contains_13 (by decide) ?_
    refine lv_goto (tgt := 18) hx hb dX2_contains_14 (by decide) ?_
    exact im_retz (w1 := [(x, .inr (2, [.ref r])), (r, .inr (4, [.ref a])), (a, .inl (gI g, 25, .inl (rM (m))))]) (v := nI (1)) hx hb hr hlocks hP hS rfl ⟨by rw [tb_ne c_1]; rfl, rfl⟩ (by first | exact b2i_nar _ | rfl) dX2_contains_18

set_option maxRecDepth 100000 in
set_option maxHeartbeats 4000000 in
theorem c_X2_toggle (l : Launch) (g : GG) (x r a : Nat) (m : Nat → Nat) (f t k : Nat) (hm : mOk m) (hf : f < 5) (ht : t < 5) (hk : k < 4) : IM l yX2_toggle wsX2_toggle 4 g [.ref x, .int (nI f), .int (nI t), .int (nI k)] [(x, .inr (2, [.ref r])), (r, .inr (4, [.ref a])), (a, .inl (gI g, 25, .inl (rM (m))))] (fun x1 w1 => x1 = b2i ((m (f * 5 + t) ^^^ (1 <<< k)).testBit k) ∧ w1 = [(x, .inr (2, [.ref r])), (r, .inr (4, [.ref a])), (a, .inl (gI g, 25, .inl (rM (va_up m (f * 5 + t) (m (f * 5 + t) ^^^ (1 <<< k))))))]) := by
  refine fun sz => im_body (Qc := fun A => va_Qi _ (iB g _) A) (cc := cX2_toggle) (maxL := 4) (ret := (some .boolean)) (by decide) rfl (Nat.le_of_ble_eq_true rfl) ?_ sz
  intro pg ev s0 mi below meth cd A hx hb hr hml hts hown hlocks hK hA H hP hD hS ls hl
  have hl : lv_has ls 4 [(0, .ref x), (1, .int (nI f)), (2, .int (nI t)), (3, .int (nI k))] := hl
  refine lv_aload_n hx hb dX2_toggle_0 rfl (lv_at hl 0 rfl) ?_
  refine va_get (D := g.1) (ci := 2) (v := .ref r) (C := RX2) (T := TX2) (N := 1) hx hb hts (fun _ h => (List.mem_cons_of_mem _ (List.mem_append_left _ (List.mem_append_right _ h)))) hown hK.1 hP 0 rfl rfl 0 (by decide) (hts _ (List.mem_cons_of_mem _ (List.mem_append_left _ (List.mem_append_left _ (List.mem_of_getElem? (i := 0) rfl))))) (fun _ h9 => h9) rfl dX2_toggle_1 ?_
  refine lv_iload_n hx hb dX2_toggle_4 rfl (lv_at hl 1 rfl) ?_
  refine lv_iconst (v := nI (5)) hx hb dX2_toggle_5 (by decide) ?_
  refine nv_imul hx hb dX2_toggle_6 ?_
  refine lv_iload_n hx hb dX2_toggle_7 rfl (lv_at hl 2 rfl) ?_
  refine nv_iadd hx hb dX2_toggle_8 ?_
  refine lv_aload_n hx hb dX2_toggle_9 rfl (lv_at hl 0 rfl) ?_
  refine lv_iload_n hx hb dX2_toggle_10 rfl (lv_at hl 1 rfl) ?_
  refine lv_iload_n hx hb dX2_toggle_11 rfl (lv_at hl 2 rfl) ?_
  refine im_V (k := 2) hx hb hml hown hts (c_X2_between l g x r a (m) (f) (t) (by omega) (by omega)) gX2_toggle_X2_between rfl (by decide +kernel) ⟨Nat.le_of_ble_eq_true rfl, Nat.le_of_ble_eq_true rfl⟩ ⟨Nat.zero_le _, Nat.zero_le _⟩ hK hP hD hS hA [0, 1, 2] rfl (by decide) 0 2 rfl rfl rfl hl.1 (rest := [.int (nI ((f * 5) + t)), .ref r]) (As := [.int (nI f), .int (nI t)]) rfl (Nat.le_of_ble_eq_true rfl) dX2_toggle_12 (fun x1 w1 H locs hpo hpd hS => ?_)
  obtain ⟨hx1, rfl⟩ := hpo
  have hx1 : x1 = nI (m (f * 5 + t)) := hx1
  subst hx1
  obtain ⟨hP, hD⟩ := hpd [(x, .inr (2, [.ref r])), (r, .inr (4, [.ref a])), (a, .inl (gI g, 25, .inl (rM (m))))] [] 3 rfl rfl [] rfl rfl (by decide) (by decide)
  refine lv_iconst (v := nI (1)) hx hb dX2_toggle_15 (by decide) ?_
  refine lv_iload_n hx hb dX2_toggle_16 rfl (lv_at hl 3 rfl) ?_
  refine nv_ishl hx hb (by omega) (shl_b hk) dX2_toggle_17 ?_
  refine nv_ixor hx hb dX2_toggle_18 ?_
  refine im_Vv (k := 2) hx hb hml hown hts (c_X4_set l g r a 25 (rM (m)) (rM (va_up m ((f * 5) + t) ((m (f * 5 + t)) ^^^ (1 <<< k)))) ((f * 5) + t) (nI ((m (f * 5 + t)) ^^^ (1 <<< k))) (by omega) (by decide) (upd_rM _ _ _)) gX2_toggle_X4_set rfl (by decide +kernel) ⟨Nat.le_of_ble_eq_true rfl, Nat.le_of_ble_eq_true rfl⟩ ⟨Nat.zero_le _, Nat.zero_le _⟩ hK hP hD hS hA [1, 2] rfl (by decide) 1 4 rfl rfl rfl hl.1 (rest := []) (As := [.int (nI ((f * 5) + t)), .int (nI ((m (f * 5 + t)) ^^^ (1 <<< k)))]) rfl (Nat.le_of_ble_eq_true rfl) dX2_toggle_19 (fun w1 H locs hpo hpd hS => ?_)
  obtain rfl := hpo
  obtain ⟨hP, hD⟩ := hpd [(x, .inr (2, [.ref r])), (r, .inr (4, [.ref a])), (a, .inl (gI g, 25, .inl (rM (va_up m ((f * 5) + t) ((m (f * 5 + t)) ^^^ (1 <<< k))))))] [0] 3 rfl rfl [(x, .inr (2, [.ref r]))] rfl rfl (by decide) (by decide)
  refine lv_aload_n hx hb dX2_toggle_22 rfl (lv_at hl 0 rfl) ?_
  refine lv_iload_n hx hb dX2_toggle_23 rfl (lv_at hl 1 rfl) ?_
  refine lv_iload_n hx hb dX2_toggle_24 rfl (lv_at hl 2 rfl) ?_
  refine lv_iload_n hx hb dX2_toggle_25 rfl (lv_at hl 3 rfl) ?_
  refine im_V (k := 3) hx hb hml hown hts (c_X2_contains l g x r a (va_up m ((f * 5) + t) ((m (f * 5 + t)) ^^^ (1 <<< k))) (f) (t) (k) (mOk_up hm (xor16 (hm _) (shl1_lt hk))) (by omega) (by omega) (by omega)) gX2_toggle_X2_contains rfl (by decide +kernel) ⟨Nat.le_of_ble_eq_true rfl, Nat.le_of_ble_eq_true rfl⟩ ⟨Nat.zero_le _, Nat.zero_le _⟩ hK hP hD hS hA [0, 1, 2] rfl (by decide) 0 2 rfl rfl rfl hl.1 (rest := []) (As := [.int (nI f), .int (nI t), .int (nI k)]) rfl (Nat.le_of_ble_eq_true rfl) dX2_toggle_26 (fun x1 w1 H locs hpo hpd hS => ?_)
  obtain ⟨hx1, rfl⟩ := hpo
  have hx1 : x1 = b2i (((va_up m ((f * 5) + t) ((m (f * 5 + t)) ^^^ (1 <<< k))) (f * 5 + t)).testBit k) := hx1
  subst hx1
  obtain ⟨hP, hD⟩ := hpd [(x, .inr (2, [.ref r])), (r, .inr (4, [.ref a])), (a, .inl (gI g, 25, .inl (rM (va_up m ((f * 5) + t) ((m (f * 5 + t)) ^^^ (1 <<< k))))))] [] 3 rfl rfl [] rfl rfl (by decide) (by decide)
  exact im_retz (w1 := [(x, .inr (2, [.ref r])), (r, .inr (4, [.ref a])), (a, .inl (gI g, 25, .inl (rM (va_up m ((f * 5) + t) ((m (f * 5 + t)) ^^^ (1 <<< k))))))]) (v := b2i (((va_up m ((f * 5) + t) ((m (f * 5 + t)) ^^^ (1 <<< k))) (f * 5 + t)).testBit k)) hx hb hr hlocks hP hS rfl ⟨by simp [va_up], rfl⟩ (by first | exact b2i_nar _ | rfl) dX2_toggle_29

set_option maxRecDepth 100000 in
set_option maxHeartbeats 4000000 in
theorem c_X2_add (l : Launch) (g : GG) (x r a : Nat) (m : Nat → Nat) (f t d : Nat) (hm : mOk m) (hf : f < 5) (ht : t < 5) (hd : d < 16) : IM l yX2_add wsX2_add 3 g [.ref x, .int (nI f), .int (nI t), .int (nI d)] [(x, .inr (2, [.ref r])), (r, .inr (4, [.ref a])), (a, .inl (gI g, 25, .inl (rM (m))))] (fun x1 w1 => x1 = b2i (decide (m (f * 5 + t) ||| d ≠ m (f * 5 + t))) ∧ w1 = [(x, .inr (2, [.ref r])), (r, .inr (4, [.ref a])), (a, .inl (gI g, 25, .inl (rM (va_up m (f * 5 + t) (m (f * 5 + t) ||| d)))))]) := by
  refine fun sz => im_body (Qc := fun A => va_Qi _ (iB g _) A) (cc := cX2_add) (maxL := 5) (ret := (some .boolean)) (by decide) rfl (Nat.le_of_ble_eq_true rfl) ?_ sz
  intro pg ev s0 mi below meth cd A hx hb hr hml hts hown hlocks hK hA H hP hD hS ls hl
  have hl : lv_has ls 5 [(0, .ref x), (1, .int (nI f)), (2, .int (nI t)), (3, .int (nI d))] := hl
  refine lv_aload_n hx hb dX2_add_0 rfl (lv_at hl 0 rfl) ?_
  refine lv_iload_n hx hb dX2_add_1 rfl (lv_at hl 1 rfl) ?_
  refine lv_iload_n hx hb dX2_add_2 rfl (lv_at hl 2 rfl) ?_
  refine im_V (k := 2) hx hb hml hown hts (c_X2_between l g x r a (m) (f) (t) (by omega) (by omega)) gX2_add_X2_between rfl (by decide +kernel) ⟨Nat.le_of_ble_eq_true rfl, Nat.le_of_ble_eq_true rfl⟩ ⟨Nat.zero_le _, Nat.zero_le _⟩ hK hP hD hS hA [0, 1, 2] rfl (by decide) 0 2 rfl rfl rfl hl.1 (rest := []) (As := [.int (nI f), .int (nI t)]) rfl (Nat.le_of_ble_eq_true rfl) dX2_add_3 (fun x1 w1 H locs hpo hpd hS => ?_)
  obtain ⟨hx1, rfl⟩ := hpo
  have hx1 : x1 = nI (m (f * 5 + t)) := hx1
  subst hx1
  obtain ⟨hP, hD⟩ := hpd [(x, .inr (2, [.ref r])), (r, .inr (4, [.ref a])), (a, .inl (gI g, 25, .inl (rM (m))))] [] 3 rfl rfl [] rfl rfl (by decide) (by decide)
  refine lv_istore (lv' := [(4, .int (nI (m (f * 5 + t)))), (0, .ref x), (1, .int (nI f)), (2, .int (nI t)), (3, .int (nI d))]) hx hb dX2_add_6 hl (by decide) rfl (fun ls hl => ?_)
  refine lv_aload_n hx hb dX2_add_8 rfl (lv_at hl 1 rfl) ?_
  refine va_get (D := g.1) (ci := 2) (v := .ref r) (C := RX2) (T := TX2) (N := 1) hx hb hts (fun _ h => (List.mem_cons_of_mem _ (List.mem_append_left _ (List.mem_append_right _ h)))) hown hK.1 hP 0 rfl rfl 0 (by decide) (hts _ (List.mem_cons_of_mem _ (List.mem_append_left _ (List.mem_append_left _ (List.mem_of_getElem? (i := 0) rfl))))) (fun _ h9 => h9) rfl dX2_add_9 ?_
  refine lv_iload_n hx hb dX2_add_12 rfl (lv_at hl 2 rfl) ?_
  refine lv_iconst (v := nI (5)) hx hb dX2_add_13 (by decide) ?_
  refine nv_imul hx hb dX2_add_14 ?_
  refine lv_iload_n hx hb dX2_add_15 rfl (lv_at hl 3 rfl) ?_
  refine nv_iadd hx hb dX2_add_16 ?_
  refine lv_iload hx hb dX2_add_17 (lv_at hl 0 rfl) ?_
  refine lv_iload_n hx hb dX2_add_19 rfl (lv_at hl 4 rfl) ?_
  refine nv_ior hx hb dX2_add_20 ?_
  refine im_Vv (k := 2) hx hb hml hown hts (c_X4_set l g r a 25 (rM (m)) (rM (va_up m ((f * 5) + t) ((m (f * 5 + t)) ||| d))) ((f * 5) + t) (nI ((m (f * 5 + t)) ||| d)) (by omega) (by decide) (upd_rM _ _ _)) gX2_add_X4_set rfl (by decide +kernel) ⟨Nat.le_of_ble_eq_true rfl, Nat.le_of_ble_eq_true rfl⟩ ⟨Nat.zero_le _, Nat.zero_le _⟩ hK hP hD hS hA [1, 2] rfl (by decide) 1 4 rfl rfl rfl hl.1 (rest := []) (As := [.int (nI ((f * 5) + t)), .int (nI ((m (f * 5 + t)) ||| d))]) rfl (Nat.le_of_ble_eq_true rfl) dX2_add_21 (fun w1 H locs hpo hpd hS => ?_)
  obtain rfl := hpo
  obtain ⟨hP, hD⟩ := hpd [(x, .inr (2, [.ref r])), (r, .inr (4, [.ref a])), (a, .inl (gI g, 25, .inl (rM (va_up m ((f * 5) + t) ((m (f * 5 + t)) ||| d)))))] [0] 3 rfl rfl [(x, .inr (2, [.ref r]))] rfl rfl (by decide) (by decide)
  refine lv_iload_n hx hb dX2_add_24 rfl (lv_at hl 4 rfl) ?_
  refine lv_iload hx hb dX2_add_25 (lv_at hl 0 rfl) ?_
  refine lv_iconst (v := -1) hx hb dX2_add_27 (by decide) ?_
  refine lv_ixor hx hb dX2_add_28 ?_
  refine nv_andn hx hb hd (hm _) dX2_add_29 ?_
  refine nv_if_eq (tgt := 37) hx hb (by have := and16 (b := 15 ^^^ m (f * 5 + t)) hd; omega) dX2_add_30 (by decide) (fun c_1 => ?_) (fun c_1 => ?_)
  · skip
    refine lv_iconst (v := nI (0)) hx hb dX2_add_37 (by decide) ?_
    exact im_retz (w1 := [(x, .inr (2, [.ref r])), (r, .inr (4, [.ref a])), (a, .inl (gI g, 25, .inl (rM (va_up m ((f * 5) + t) ((m (f * 5 + t)) ||| d)))))]) (v := nI (0)) hx hb hr hlocks hP hS rfl ⟨by rw [decide_eq_false (fun z => absurd c_1 ((andn_or d hd _ (hm _)).mpr z))]; rfl, rfl⟩ (by first | exact b2i_nar _ | rfl) dX2_add_38
  · skip
    refine lv_iconst (v := nI (1)) hx hb dX2_add_33 (by decide) ?_
    refine lv_goto (tgt := 38) hx hb dX2_add_34 (by decide) ?_
    exact im_retz (w1 := [(x, .inr (2, [.ref r])), (r, .inr (4, [.ref a])), (a, .inl (gI g, 25, .inl (rM (va_up m ((f * 5) + t) ((m (f * 5 + t)) ||| d)))))]) (v := nI (1)) hx hb hr hlocks hP hS rfl ⟨by rw [decide_eq_true ((andn_or d hd _ (hm _)).mp c_1)]; rfl, rfl⟩ (by first | exact b2i_nar _ | rfl) dX2_add_38

set_option maxRecDepth 100000 in
set_option maxHeartbeats 4000000 in
theorem c_X2_count (l : Launch) (g : GG) (x r a : Nat) (m : Nat → Nat) (hm : mOk m) : IM l yX2_count wsX2_count 2 g [.ref x] [(x, .inr (2, [.ref r])), (r, .inr (4, [.ref a])), (a, .inl (gI g, 25, .inl (rM (m))))] (fun x1 w1 => x1 = nI (cntN m 25) ∧ w1 = [(x, .inr (2, [.ref r])), (r, .inr (4, [.ref a])), (a, .inl (gI g, 25, .inl (rM (m))))]) := by
  refine fun sz => im_body (Qc := fun A => va_Qi _ (iB g _) A) (cc := cX2_count) (maxL := 3) (ret := (some .int)) (by decide) rfl (Nat.le_of_ble_eq_true rfl) ?_ sz
  intro pg ev s0 mi below meth cd A hx hb hr hml hts hown hlocks hK hA H hP hD hS ls hl
  have hl : lv_has ls 3 [(0, .ref x)] := hl
  refine lv_iconst (v := nI (0)) hx hb dX2_count_0 (by decide) ?_
  refine lv_istore_n (lv' := [(1, .int (nI 0)), (0, .ref x)]) hx hb dX2_count_1 rfl hl (by decide) rfl (fun ls hl => ?_)
  refine lv_iconst (v := nI (0)) hx hb dX2_count_2 (by decide) ?_
  refine lv_istore_n (lv' := [(2, .int (nI 0)), (1, .int (nI 0)), (0, .ref x)]) hx hb dX2_count_3 rfl hl (by decide) rfl (fun ls hl => ?_)
  have lp : ∀ (k9 : Nat) (i : Nat) (hi : i ≤ 25) , 25 - i < k9 → ∀ (H : Heap) (locs : List Loc), va_P g.1 vwCl [(x, .inr (2, [.ref r])), (r, .inr (4, [.ref a])), (a, .inl (gI g, 25, .inl (rM (m))))] H → va_D A [(x, .inr (2, [.ref r])), (r, .inr (4, [.ref a])), (a, .inl (gI g, 25, .inl (rM (m))))] → va_S A s0.heap H locs → ∀ ls : Array Slot, lv_has ls 3 [(2, .int (nI i)), (1, .int (nI (cntN m i))), (0, .ref x)] → W pg l ev (rmL 2) s0 mi ([.ref x] : List Value).toArray below meth cd H locs 0 0 (MQ below (va_Qi (fun x1 w1 => x1 = nI (cntN m 25) ∧ w1 = [(x, .inr (2, [.ref r])), (r, .inr (4, [.ref a])), (a, .inl (gI g, 25, .inl (rM (m))))]) (iB g [(x, .inr (2, [.ref r])), (r, .inr (4, [.ref a])), (a, .inl (gI g, 25, .inl (rM (m))))]) A) ([.ref x] : List Value).toArray s0 0 0 A) (F0 mi 4 ls []) := by
    intro k9
    induction k9 with
    | zero => intros; omega
    | succ k9 lp_ih =>
      intro i hi hmz H locs hP hD hS ls hl
      refine lv_iload_n hx hb dX2_count_4 rfl (lv_at hl 0 rfl) ?_
      refine lv_bipush (v := nI (25)) hx hb dX2_count_5 (by decide) ?_
      refine nv_icmp_ge (tgt := 30) hx hb (by omega) (by omega) dX2_count_7 (by decide) (fun c_1 => ?_) (fun c_1 => ?_)
      · skip
        have ei : i = 25 := by omega
        subst ei
        refine lv_iload_n hx hb dX2_count_30 rfl (lv_at hl 1 rfl) ?_
        exact im_ret (w1 := [(x, .inr (2, [.ref r])), (r, .inr (4, [.ref a])), (a, .inl (gI g, 25, .inl (rM (m))))]) (v := nI (cntN m 25)) hx hb hr hlocks hP hS rfl ⟨rfl, rfl⟩ dX2_count_31
      · skip
        refine lv_iload_n hx hb dX2_count_10 rfl (lv_at hl 1 rfl) ?_
        refine lv_aload_n hx hb dX2_count_11 rfl (lv_at hl 2 rfl) ?_
        refine va_get (D := g.1) (ci := 2) (v := .ref r) (C := RX2) (T := TX2) (N := 1) hx hb hts (fun _ h => (List.mem_cons_of_mem _ (List.mem_append_left _ (List.mem_append_right _ h)))) hown hK.1 hP 0 rfl rfl 0 (by decide) (hts _ (List.mem_cons_of_mem _ (List.mem_append_left _ (List.mem_append_left _ (List.mem_of_getElem? (i := 0) rfl))))) (fun _ h9 => h9) rfl dX2_count_12 ?_
        refine lv_iload_n hx hb dX2_count_15 rfl (lv_at hl 0 rfl) ?_
        refine im_V (k := 1) hx hb hml hown hts (c_X4_get l g r a 25 (rM (m)) i (by omega) (by decide)) gX2_count_X4_get rfl (by decide +kernel) ⟨Nat.le_of_ble_eq_true rfl, Nat.le_of_ble_eq_true rfl⟩ ⟨Nat.zero_le _, Nat.zero_le _⟩ hK hP hD hS hA [1, 2] rfl (by decide) 1 4 rfl rfl rfl hl.1 (rest := [.int (nI (cntN m i))]) (As := [.int (nI i)]) rfl (Nat.le_of_ble_eq_true rfl) dX2_count_16 (fun x1 w1 H locs hpo hpd hS => ?_)
        obtain ⟨hx1, rfl⟩ := hpo
        have hx1 : x1 = nI (m i) := hx1
        subst hx1
        obtain ⟨hP, hD⟩ := hpd [(x, .inr (2, [.ref r])), (r, .inr (4, [.ref a])), (a, .inl (gI g, 25, .inl (rM (m))))] [0] 3 rfl rfl [(x, .inr (2, [.ref r]))] rfl rfl (by decide) (by decide)
        refine im_S (k := 1) hx hb hml hown hts (c_J6_bitCount_0f7a4 l g (m i) (hm _)) gX2_count_J6_bitCount_0f7a4 rfl (by decide +kernel) ⟨Nat.le_of_ble_eq_true rfl, Nat.le_of_ble_eq_true rfl⟩ ⟨Nat.zero_le _, Nat.zero_le _⟩ hK hP hD hS hA [] rfl (by decide) rfl hl.1 (rest := [.int (nI (cntN m i))]) (As := [.int (nI (m i))]) rfl (Nat.le_of_ble_eq_true rfl) dX2_count_19 (fun x1 w1 H locs hpo hpd hS => ?_)
        obtain ⟨hx1, rfl⟩ := hpo
        have hx1 : x1 = nI (pc4 (m i)) := hx1
        subst hx1
        obtain ⟨hP, hD⟩ := hpd [(x, .inr (2, [.ref r])), (r, .inr (4, [.ref a])), (a, .inl (gI g, 25, .inl (rM (m))))] [0, 1, 2] 3 rfl rfl [(x, .inr (2, [.ref r])), (r, .inr (4, [.ref a])), (a, .inl (gI g, 25, .inl (rM (m))))] rfl rfl (by decide) (by decide)
        refine nv_iadd hx hb dX2_count_22 ?_
        refine lv_istore_n (lv' := [(1, .int (nI ((cntN m i) + (pc4 (m i))))), (2, .int (nI i)), (0, .ref x)]) hx hb dX2_count_23 rfl hl (by decide) rfl (fun ls hl => ?_)
        refine lv_iinc (v := nI (i + 1)) (lv' := [(2, .int (nI (i + 1))), (1, .int (nI ((cntN m i) + (pc4 (m i))))), (0, .ref x)]) hx hb dX2_count_24 hl (k := 1) rfl (by show nI _ + _ = _; rw [show Int32.ofInt 1 = nI 1 from by decide, nI_add]) (by decide) rfl (fun ls hl => ?_)
        refine lv_goto (tgt := 4) hx hb dX2_count_27 (by decide) ?_
        have eq_1 : ((cntN m i) + (pc4 (m i))) = (cntN m (i + 1)) := by rfl
        have hl : lv_has ls 3 [(2, .int (nI (i + 1))), (1, .int (nI (cntN m (i + 1)))), (0, .ref x)] := by ((try rw [← eq_1]); exact hl)
        have hP : va_P g.1 vwCl [(x, .inr (2, [.ref r])), (r, .inr (4, [.ref a])), (a, .inl (gI g, 25, .inl (rM (m))))] H := by ((try rw [← eq_1]); exact hP)
        have hD : va_D A [(x, .inr (2, [.ref r])), (r, .inr (4, [.ref a])), (a, .inl (gI g, 25, .inl (rM (m))))] := by ((try rw [← eq_1]); exact hD)
        exact lp_ih (i + 1) (by omega)  (by omega) _ _ hP hD hS ls (lv_sub hl [0, 1, 2] rfl)
  have eq_2 : (0) = (cntN m 0) := by rfl
  have hl : lv_has ls 3 [(2, .int (nI 0)), (1, .int (nI (cntN m 0))), (0, .ref x)] := by ((try rw [← eq_2]); exact hl)
  have hP : va_P g.1 vwCl [(x, .inr (2, [.ref r])), (r, .inr (4, [.ref a])), (a, .inl (gI g, 25, .inl (rM (m))))] H := by ((try rw [← eq_2]); exact hP)
  have hD : va_D A [(x, .inr (2, [.ref r])), (r, .inr (4, [.ref a])), (a, .inl (gI g, 25, .inl (rM (m))))] := by ((try rw [← eq_2]); exact hD)
  exact lp (25 + 1) 0 (Nat.zero_le _)  (by omega) _ _ hP hD hS ls (lv_sub hl [0, 1, 2] rfl)

set_option maxRecDepth 100000 in
set_option maxHeartbeats 4000000 in
theorem c_X2_removeAll (l : Launch) (g : GG) (x r a : Nat) (m : Nat → Nat)  : IMv l yX2_removeAll wsX2_removeAll 2 g [.ref x] [(x, .inr (2, [.ref r])), (r, .inr (4, [.ref a])), (a, .inl (gI g, 25, .inl (rM (m))))] (fun w1 => w1 = [(x, .inr (2, [.ref r])), (r, .inr (4, [.ref a])), (a, .inl (gI g, 25, .inl (rM (fun _ => 0))))]) := by
  refine fun sz => im_body (Qc := fun A => va_Qv _ (iB g _) A) (cc := cX2_removeAll) (maxL := 1) (ret := none) (by decide) rfl (Nat.le_of_ble_eq_true rfl) ?_ sz
  intro pg ev s0 mi below meth cd A hx hb hr hml hts hown hlocks hK hA H hP hD hS ls hl
  have hl : lv_has ls 1 [(0, .ref x)] := hl
  refine lv_aload_n hx hb dX2_removeAll_0 rfl (lv_at hl 0 rfl) ?_
  refine va_get (D := g.1) (ci := 2) (v := .ref r) (C := RX2) (T := TX2) (N := 1) hx hb hts (fun _ h => (List.mem_cons_of_mem _ (List.mem_append_left _ (List.mem_append_right _ h)))) hown hK.1 hP 0 rfl rfl 0 (by decide) (hts _ (List.mem_cons_of_mem _ (List.mem_append_left _ (List.mem_append_left _ (List.mem_of_getElem? (i := 0) rfl))))) (fun _ h9 => h9) rfl dX2_removeAll_1 ?_
  refine lv_iconst (v := nI (0)) hx hb dX2_removeAll_4 (by decide) ?_
  refine im_Vv (k := 1) hx hb hml hown hts (c_X4_fill l g r a 25 (rM (m)) (nI (0)) (by decide)) gX2_removeAll_X4_fill rfl (by decide +kernel) ⟨Nat.le_of_ble_eq_true rfl, Nat.le_of_ble_eq_true rfl⟩ ⟨Nat.zero_le _, Nat.zero_le _⟩ hK hP hD hS hA [1, 2] rfl (by decide) 1 4 rfl rfl rfl hl.1 (rest := []) (As := [.int (nI 0)]) rfl (Nat.le_of_ble_eq_true rfl) dX2_removeAll_5 (fun w1 H locs hpo hpd hS => ?_)
  obtain rfl := hpo
  obtain ⟨hP, hD⟩ := hpd [(x, .inr (2, [.ref r])), (r, .inr (4, [.ref a])), (a, .inl (gI g, 25, .inl (rM (fun _ => 0))))] [0] 3 rfl rfl [(x, .inr (2, [.ref r]))] rfl rfl (by decide) (by decide)
  exact im_retv (w1 := [(x, .inr (2, [.ref r])), (r, .inr (4, [.ref a])), (a, .inl (gI g, 25, .inl (rM (fun _ => 0))))]) hx hb hr hlocks hP hS rfl rfl dX2_removeAll_8

set_option maxRecDepth 100000 in
set_option maxHeartbeats 4000000 in
theorem c_X2_become (l : Launch) (g : GG) (x r a y r2 a2 : Nat) (m m2 : Nat → Nat) : IMv l yX2_become wsX2_become 3 g [.ref x, .ref y] [(x, .inr (2, [.ref r])), (r, .inr (4, [.ref a])), (a, .inl (gI g, 25, .inl (rM (m)))), (y, .inr (2, [.ref r2])), (r2, .inr (4, [.ref a2])), (a2, .inl (gI g, 25, .inl (rM (m2))))] (fun w1 => w1 = [(x, .inr (2, [.ref r])), (r, .inr (4, [.ref a])), (a, .inl (gI g, 25, .inl (rM (m2)))), (y, .inr (2, [.ref r2])), (r2, .inr (4, [.ref a2])), (a2, .inl (gI g, 25, .inl (rM (m2))))]) := by
  refine fun sz => im_body (Qc := fun A => va_Qv _ (iB g _) A) (cc := cX2_become) (maxL := 2) (ret := none) (by decide) rfl (Nat.le_of_ble_eq_true rfl) ?_ sz
  intro pg ev s0 mi below meth cd A hx hb hr hml hts hown hlocks hK hA H hP hD hS ls hl
  have hl : lv_has ls 2 [(0, .ref x), (1, .ref y)] := hl
  refine lv_aload_n hx hb dX2_become_0 rfl (lv_at hl 0 rfl) ?_
  refine va_get (D := g.1) (ci := 2) (v := .ref r) (C := RX2) (T := TX2) (N := 1) hx hb hts (fun _ h => (List.mem_cons_of_mem _ (List.mem_append_left _ (List.mem_append_right _ h)))) hown hK.1 hP 0 rfl rfl 0 (by decide) (hts _ (List.mem_cons_of_mem _ (List.mem_append_left _ (List.mem_append_left _ (List.mem_of_getElem? (i := 0) rfl))))) (fun _ h9 => h9) rfl dX2_become_1 ?_
  refine lv_aload_n hx hb dX2_become_4 rfl (lv_at hl 1 rfl) ?_
  refine va_get (D := g.1) (ci := 2) (v := .ref r2) (C := RX2) (T := TX2) (N := 1) hx hb hts (fun _ h => (List.mem_cons_of_mem _ (List.mem_append_left _ (List.mem_append_right _ h)))) hown hK.1 hP 3 rfl rfl 0 (by decide) (hts _ (List.mem_cons_of_mem _ (List.mem_append_left _ (List.mem_append_left _ (List.mem_of_getElem? (i := 0) rfl))))) (fun _ h9 => h9) rfl dX2_become_5 ?_
  refine im_Vv (k := 1) hx hb hml hown hts (c_X4_become l g r a r2 a2 25 (rM (m)) (rM (m2)) (by decide)) gX2_become_X4_become rfl (by decide +kernel) ⟨Nat.le_of_ble_eq_true rfl, Nat.le_of_ble_eq_true rfl⟩ ⟨Nat.zero_le _, Nat.zero_le _⟩ hK hP hD hS hA [1, 2, 4, 5] rfl (by decide) 1 4 rfl rfl rfl hl.1 (rest := []) (As := [.ref r2]) rfl (Nat.le_of_ble_eq_true rfl) dX2_become_8 (fun w1 H locs hpo hpd hS => ?_)
  obtain rfl := hpo
  obtain ⟨hP, hD⟩ := hpd [(x, .inr (2, [.ref r])), (r, .inr (4, [.ref a])), (a, .inl (gI g, 25, .inl (rM (m2)))), (y, .inr (2, [.ref r2])), (r2, .inr (4, [.ref a2])), (a2, .inl (gI g, 25, .inl (rM (m2))))] [0, 3] 6 rfl rfl [(x, .inr (2, [.ref r])), (y, .inr (2, [.ref r2]))] rfl rfl (by decide) (by decide)
  exact im_retv (w1 := [(x, .inr (2, [.ref r])), (r, .inr (4, [.ref a])), (a, .inl (gI g, 25, .inl (rM (m2)))), (y, .inr (2, [.ref r2])), (r2, .inr (4, [.ref a2])), (a2, .inl (gI g, 25, .inl (rM (m2))))]) hx hb hr hlocks hP hS rfl rfl dX2_become_11

set_option maxRecDepth 100000 in
set_option maxHeartbeats 4000000 in
theorem c_X0_replace (l : Launch) (g : GG) (x r a : Nat) (ch : Nat → Option Nat) (f t : Nat) (o : Option Nat) (hf : f < 4) (ht : t < 4) : IM l yX0_replace wsX0_replace 2 g [.ref x, .int (nI f), .int (nI t), .int (oI (o))] [(x, .inr (0, [.ref r])), (r, .inr (4, [.ref a])), (a, .inl (gI g, 16, .inl (rO (ch))))] (fun x1 w1 => x1 = oI (ch (f * 4 + t)) ∧ w1 = [(x, .inr (0, [.ref r])), (r, .inr (4, [.ref a])), (a, .inl (gI g, 16, .inl (rO (va_up ch (f * 4 + t) o))))]) := by
  refine fun sz => im_body (Qc := fun A => va_Qi _ (iB g _) A) (cc := cX0_replace) (maxL := 6) (ret := (some .int)) (by decide) rfl (Nat.le_of_ble_eq_true rfl) ?_ sz
  intro pg ev s0 mi below meth cd A hx hb hr hml hts hown hlocks hK hA H hP hD hS ls hl
  have hl : lv_has ls 6 [(0, .ref x), (1, .int (nI f)), (2, .int (nI t)), (3, .int (oI (o)))] := hl
  refine lv_iload_n hx hb dX0_replace_0 rfl (lv_at hl 1 rfl) ?_
  refine lv_iconst (v := nI (4)) hx hb dX0_replace_1 (by decide) ?_
  refine nv_imul hx hb dX0_replace_2 ?_
  refine lv_iload_n hx hb dX0_replace_3 rfl (lv_at hl 2 rfl) ?_
  refine nv_iadd hx hb dX0_replace_4 ?_
  refine lv_istore (lv' := [(4, .int (nI ((f * 4) + t))), (0, .ref x), (1, .int (nI f)), (2, .int (nI t)), (3, .int (oI (o)))]) hx hb dX0_replace_5 hl (by decide) rfl (fun ls hl => ?_)
  refine lv_aload_n hx hb dX0_replace_7 rfl (lv_at hl 1 rfl) ?_
  refine va_get (D := g.1) (ci := 0) (v := .ref r) (C := RX0) (T := TX0) (N := 1) hx hb hts (fun _ h => (List.mem_cons_of_mem _ (List.mem_append_left _ (List.mem_append_right _ h)))) hown hK.1 hP 0 rfl rfl 0 (by decide) (hts _ (List.mem_cons_of_mem _ (List.mem_append_left _ (List.mem_append_left _ (List.mem_of_getElem? (i := 0) rfl))))) (fun _ h9 => h9) rfl dX0_replace_8 ?_
  refine lv_iload hx hb dX0_replace_11 (lv_at hl 0 rfl) ?_
  refine im_V (k := 1) hx hb hml hown hts (c_X4_get l g r a 16 (rO (ch)) ((f * 4) + t) (by omega) (by decide)) gX0_replace_X4_get rfl (by decide +kernel) ⟨Nat.le_of_ble_eq_true rfl, Nat.le_of_ble_eq_true rfl⟩ ⟨Nat.zero_le _, Nat.zero_le _⟩ hK hP hD hS hA [1, 2] rfl (by decide) 1 4 rfl rfl rfl hl.1 (rest := []) (As := [.int (nI ((f * 4) + t))]) rfl (Nat.le_of_ble_eq_true rfl) dX0_replace_13 (fun x1 w1 H locs hpo hpd hS => ?_)
  obtain ⟨hx1, rfl⟩ := hpo
  have hx1 : x1 = oI (ch ((f * 4) + t)) := hx1
  subst hx1
  obtain ⟨hP, hD⟩ := hpd [(x, .inr (0, [.ref r])), (r, .inr (4, [.ref a])), (a, .inl (gI g, 16, .inl (rO (ch))))] [0] 3 rfl rfl [(x, .inr (0, [.ref r]))] rfl rfl (by decide) (by decide)
  refine lv_istore (lv' := [(5, .int (oI (ch ((f * 4) + t)))), (4, .int (nI ((f * 4) + t))), (0, .ref x), (1, .int (nI f)), (2, .int (nI t)), (3, .int (oI (o)))]) hx hb dX0_replace_16 hl (by decide) rfl (fun ls hl => ?_)
  refine lv_aload_n hx hb dX0_replace_18 rfl (lv_at hl 2 rfl) ?_
  refine va_get (D := g.1) (ci := 0) (v := .ref r) (C := RX0) (T := TX0) (N := 1) hx hb hts (fun _ h => (List.mem_cons_of_mem _ (List.mem_append_left _ (List.mem_append_right _ h)))) hown hK.1 hP 0 rfl rfl 0 (by decide) (hts _ (List.mem_cons_of_mem _ (List.mem_append_left _ (List.mem_append_left _ (List.mem_of_getElem? (i := 0) rfl))))) (fun _ h9 => h9) rfl dX0_replace_19 ?_
  refine lv_iload hx hb dX0_replace_22 (lv_at hl 1 rfl) ?_
  refine lv_iload_n hx hb dX0_replace_24 rfl (lv_at hl 5 rfl) ?_
  refine im_Vv (k := 2) hx hb hml hown hts (c_X4_set l g r a 16 (rO (ch)) (rO (va_up ch ((f * 4) + t) (o))) ((f * 4) + t) (oI (o)) (by omega) (by decide) (upd_rO _ _ (o))) gX0_replace_X4_set rfl (by decide +kernel) ⟨Nat.le_of_ble_eq_true rfl, Nat.le_of_ble_eq_true rfl⟩ ⟨Nat.zero_le _, Nat.zero_le _⟩ hK hP hD hS hA [1, 2] rfl (by decide) 1 4 rfl rfl rfl hl.1 (rest := []) (As := [.int (nI ((f * 4) + t)), .int (oI (o))]) rfl (Nat.le_of_ble_eq_true rfl) dX0_replace_25 (fun w1 H locs hpo hpd hS => ?_)
  obtain rfl := hpo
  obtain ⟨hP, hD⟩ := hpd [(x, .inr (0, [.ref r])), (r, .inr (4, [.ref a])), (a, .inl (gI g, 16, .inl (rO (va_up ch ((f * 4) + t) (o)))))] [0] 3 rfl rfl [(x, .inr (0, [.ref r]))] rfl rfl (by decide) (by decide)
  refine lv_iload hx hb dX0_replace_28 (lv_at hl 0 rfl) ?_
  exact im_ret (w1 := [(x, .inr (0, [.ref r])), (r, .inr (4, [.ref a])), (a, .inl (gI g, 16, .inl (rO (va_up ch ((f * 4) + t) (o)))))]) (v := oI (ch ((f * 4) + t))) hx hb hr hlocks hP hS rfl ⟨rfl, rfl⟩ dX0_replace_30

set_option maxRecDepth 100000 in
set_option maxHeartbeats 4000000 in
theorem c_X0_impliedBy (l : Launch) (g : GG) (x r a : Nat) (ch : Nat → Option Nat) (fk sk : Nat) (hc : chOk ch) (h1 : fk < 16) (h2 : sk < 16) : IM l yX0_impliedBy wsX0_impliedBy 2 g [.ref x, .int (nI fk), .int (nI sk)] [(x, .inr (0, [.ref r])), (r, .inr (4, [.ref a])), (a, .inl (gI g, 16, .inl (rO (ch))))] (fun x1 w1 => x1 = nI (imp ch fk sk) ∧ w1 = [(x, .inr (0, [.ref r])), (r, .inr (4, [.ref a])), (a, .inl (gI g, 16, .inl (rO (ch))))]) := by
  refine fun sz => im_body (Qc := fun A => va_Qi _ (iB g _) A) (cc := cX0_impliedBy) (maxL := 7) (ret := (some .int)) (by decide) rfl (Nat.le_of_ble_eq_true rfl) ?_ sz
  intro pg ev s0 mi below meth cd A hx hb hr hml hts hown hlocks hK hA H hP hD hS ls hl
  have hl : lv_has ls 7 [(0, .ref x), (1, .int (nI fk)), (2, .int (nI sk))] := hl
  refine lv_iconst (v := nI (0)) hx hb dX0_impliedBy_0 (by decide) ?_
  refine lv_istore_n (lv' := [(3, .int (nI 0)), (0, .ref x), (1, .int (nI fk)), (2, .int (nI sk))]) hx hb dX0_impliedBy_1 rfl hl (by decide) rfl (fun ls hl => ?_)
  refine lv_iload_n hx hb dX0_impliedBy_2 rfl (lv_at hl 2 rfl) ?_
  refine nv_if_eq (tgt := 10) hx hb (by omega) dX0_impliedBy_3 (by decide) (fun c_1 => ?_) (fun c_1 => ?_)
  · skip
    refine lv_iload_n hx hb dX0_impliedBy_10 rfl (lv_at hl 0 rfl) ?_
    exact im_ret (w1 := [(x, .inr (0, [.ref r])), (r, .inr (4, [.ref a])), (a, .inl (gI g, 16, .inl (rO (ch))))]) (v := nI (0)) hx hb hr hlocks hP hS rfl ⟨by rw [imp, if_pos (by omega)], rfl⟩ dX0_impliedBy_11
  · skip
    refine lv_iload_n hx hb dX0_impliedBy_6 rfl (lv_at hl 3 rfl) ?_
    refine nv_if_ne (tgt := 12) hx hb (by omega) dX0_impliedBy_7 (by decide) (fun c_2 => ?_) (fun c_2 => ?_)
    · skip
      refine lv_iconst (v := nI (0)) hx hb dX0_impliedBy_12 (by decide) ?_
      refine lv_istore (lv' := [(4, .int (nI 0)), (3, .int (nI 0)), (0, .ref x), (1, .int (nI fk)), (2, .int (nI sk))]) hx hb dX0_impliedBy_13 hl (by decide) rfl (fun ls hl => ?_)
      have lp : ∀ (k9 : Nat) (i : Nat) (hi : i ≤ 16) , 16 - i < k9 → ∀ (H : Heap) (locs : List Loc), va_P g.1 vwCl [(x, .inr (0, [.ref r])), (r, .inr (4, [.ref a])), (a, .inl (gI g, 16, .inl (rO (ch))))] H → va_D A [(x, .inr (0, [.ref r])), (r, .inr (4, [.ref a])), (a, .inl (gI g, 16, .inl (rO (ch))))] → va_S A s0.heap H locs → ∀ ls : Array Slot, lv_has ls 7 [(3, .int (nI (impN ch fk sk i))), (4, .int (nI i)), (0, .ref x), (1, .int (nI fk)), (2, .int (nI sk))] → W pg l ev (rmL 2) s0 mi ([.ref x, .int (nI fk), .int (nI sk)] : List Value).toArray below meth cd H locs 0 0 (MQ below (va_Qi (fun x1 w1 => x1 = nI (imp ch fk sk) ∧ w1 = [(x, .inr (0, [.ref r])), (r, .inr (4, [.ref a])), (a, .inl (gI g, 16, .inl (rO (ch))))]) (iB g [(x, .inr (0, [.ref r])), (r, .inr (4, [.ref a])), (a, .inl (gI g, 16, .inl (rO (ch))))]) A) ([.ref x, .int (nI fk), .int (nI sk)] : List Value).toArray s0 0 0 A) (F0 mi 15 ls []) := by
        intro k9
        induction k9 with
        | zero => intros; omega
        | succ k9 lp_ih =>
          intro i hi hmz H locs hP hD hS ls hl
          refine lv_iload hx hb dX0_impliedBy_15 (lv_at hl 1 rfl) ?_
          refine lv_bipush (v := nI (16)) hx hb dX0_impliedBy_17 (by decide) ?_
          refine nv_icmp_ge (tgt := 82) hx hb (by omega) (by omega) dX0_impliedBy_19 (by decide) (fun c_3 => ?_) (fun c_3 => ?_)
          · skip
            have ei : i = 16 := by omega
            subst ei
            refine lv_iload_n hx hb dX0_impliedBy_82 rfl (lv_at hl 0 rfl) ?_
            exact im_ret (w1 := [(x, .inr (0, [.ref r])), (r, .inr (4, [.ref a])), (a, .inl (gI g, 16, .inl (rO (ch))))]) (v := nI (impN ch fk sk 16)) hx hb hr hlocks hP hS rfl ⟨by rw [imp, if_neg (by omega)], rfl⟩ dX0_impliedBy_83
          · skip
            refine lv_aload_n hx hb dX0_impliedBy_22 rfl (lv_at hl 2 rfl) ?_
            refine va_get (D := g.1) (ci := 0) (v := .ref r) (C := RX0) (T := TX0) (N := 1) hx hb hts (fun _ h => (List.mem_cons_of_mem _ (List.mem_append_left _ (List.mem_append_right _ h)))) hown hK.1 hP 0 rfl rfl 0 (by decide) (hts _ (List.mem_cons_of_mem _ (List.mem_append_left _ (List.mem_append_left _ (List.mem_of_getElem? (i := 0) rfl))))) (fun _ h9 => h9) rfl dX0_impliedBy_23 ?_
            refine lv_iload hx hb dX0_impliedBy_26 (lv_at hl 1 rfl) ?_
            refine im_V (k := 1) hx hb hml hown hts (c_X4_get l g r a 16 (rO (ch)) i (by omega) (by decide)) gX0_impliedBy_X4_get rfl (by decide +kernel) ⟨Nat.le_of_ble_eq_true rfl, Nat.le_of_ble_eq_true rfl⟩ ⟨Nat.zero_le _, Nat.zero_le _⟩ hK hP hD hS hA [1, 2] rfl (by decide) 1 4 rfl rfl rfl hl.1 (rest := []) (As := [.int (nI i)]) rfl (Nat.le_of_ble_eq_true rfl) dX0_impliedBy_28 (fun x1 w1 H locs hpo hpd hS => ?_)
            obtain ⟨hx1, rfl⟩ := hpo
            have hx1 : x1 = oI (ch i) := hx1
            subst hx1
            obtain ⟨hP, hD⟩ := hpd [(x, .inr (0, [.ref r])), (r, .inr (4, [.ref a])), (a, .inl (gI g, 16, .inl (rO (ch))))] [0] 3 rfl rfl [(x, .inr (0, [.ref r]))] rfl rfl (by decide) (by decide)
            refine lv_istore (lv' := [(5, .int (oI (ch i))), (3, .int (nI (impN ch fk sk i))), (4, .int (nI i)), (0, .ref x), (1, .int (nI fk)), (2, .int (nI sk))]) hx hb dX0_impliedBy_31 hl (by decide) rfl (fun ls hl => ?_)
            refine lv_iload_n hx hb dX0_impliedBy_33 rfl (lv_at hl 4 rfl) ?_
            refine lv_iload hx hb dX0_impliedBy_34 (lv_at hl 2 rfl) ?_
            refine lv_iconst (v := nI (4)) hx hb dX0_impliedBy_36 (by decide) ?_
            refine nv_idiv hx hb (by omega) (by omega) (by omega) dX0_impliedBy_37 ?_
            refine nv_ishr hx hb (by omega) (by omega) dX0_impliedBy_38 ?_
            refine lv_iload_n hx hb dX0_impliedBy_39 rfl (lv_at hl 5 rfl) ?_
            refine lv_iload hx hb dX0_impliedBy_40 (lv_at hl 2 rfl) ?_
            refine lv_iconst (v := nI (4)) hx hb dX0_impliedBy_42 (by decide) ?_
            refine nv_irem hx hb (by omega) (by omega) (by omega) dX0_impliedBy_43 ?_
            refine nv_ishr hx hb (by omega) (by omega) dX0_impliedBy_44 ?_
            refine nv_iand hx hb dX0_impliedBy_45 ?_
            refine lv_iconst (v := nI (1)) hx hb dX0_impliedBy_46 (by decide) ?_
            refine nv_iand hx hb dX0_impliedBy_47 ?_
            refine nv_if_eq (tgt := 55) hx hb and1_lt dX0_impliedBy_48 (by decide) (fun c_4 => ?_) (fun c_4 => ?_)
            · skip
              refine lv_iconst (v := nI (0)) hx hb dX0_impliedBy_55 (by decide) ?_
              refine lv_istore (lv' := [(6, .int (nI 0)), (5, .int (oI (ch i))), (3, .int (nI (impN ch fk sk i))), (4, .int (nI i)), (0, .ref x), (1, .int (nI fk)), (2, .int (nI sk))]) hx hb dX0_impliedBy_56 hl (by decide) rfl (fun ls hl => ?_)
              refine lv_iload hx hb dX0_impliedBy_58 (lv_at hl 0 rfl) ?_
              refine nv_if_eq (tgt := 76) hx hb (by omega) dX0_impliedBy_60 (by decide) (fun c_5 => ?_) (fun c_5 => ?_)
              · skip
                refine lv_iinc (v := nI (i + 1)) (lv' := [(4, .int (nI (i + 1))), (6, .int (nI 0)), (5, .int (oI (ch i))), (3, .int (nI (impN ch fk sk i))), (0, .ref x), (1, .int (nI fk)), (2, .int (nI sk))]) hx hb dX0_impliedBy_76 hl (k := 3) rfl (by show nI _ + _ = _; rw [show Int32.ofInt 1 = nI 1 from by decide, nI_add]) (by decide) rfl (fun ls hl => ?_)
                refine lv_goto (tgt := 15) hx hb dX0_impliedBy_79 (by decide) ?_
                have eq_1 : (impN ch fk sk i) = (impN ch fk sk (i + 1)) := by first | with_reducible rfl | exact (impN_no (by assumption)).symm | exact (impN_none (by assumption)).symm | exact (impN_yes (by assumption) (by assumption)).symm
                have hl : lv_has ls 7 [(4, .int (nI (i + 1))), (6, .int (nI 0)), (5, .int (oI (ch i))), (3, .int (nI (impN ch fk sk (i + 1)))), (0, .ref x), (1, .int (nI fk)), (2, .int (nI sk))] := by ((try rw [← eq_1]); exact hl)
                have hP : va_P g.1 vwCl [(x, .inr (0, [.ref r])), (r, .inr (4, [.ref a])), (a, .inl (gI g, 16, .inl (rO (ch))))] H := by ((try rw [← eq_1]); exact hP)
                have hD : va_D A [(x, .inr (0, [.ref r])), (r, .inr (4, [.ref a])), (a, .inl (gI g, 16, .inl (rO (ch))))] := by ((try rw [← eq_1]); exact hD)
                exact lp_ih (i + 1) (by omega)  (by omega) _ _ hP hD hS ls (lv_sub hl [3, 0, 4, 5, 6] rfl)
              · skip
                exfalso; first | exact c_5 | omega | (simp at c_5; done) | (exact absurd c_5 (by simp))
            · skip
              refine lv_iconst (v := nI (1)) hx hb dX0_impliedBy_51 (by decide) ?_
              refine lv_goto (tgt := 56) hx hb dX0_impliedBy_52 (by decide) ?_
              refine lv_istore (lv' := [(6, .int (nI 1)), (5, .int (oI (ch i))), (3, .int (nI (impN ch fk sk i))), (4, .int (nI i)), (0, .ref x), (1, .int (nI fk)), (2, .int (nI sk))]) hx hb dX0_impliedBy_56 hl (by decide) rfl (fun ls hl => ?_)
              refine lv_iload hx hb dX0_impliedBy_58 (lv_at hl 0 rfl) ?_
              refine nv_if_eq (tgt := 76) hx hb (by omega) dX0_impliedBy_60 (by decide) (fun c_6 => ?_) (fun c_6 => ?_)
              · skip
                exfalso; first | exact c_6 | omega | (simp at c_6; done) | (exact absurd c_6 (by simp))
              · skip
                refine lv_iload hx hb dX0_impliedBy_63 (lv_at hl 1 rfl) ?_
                refine lv_iconst (v := -1) hx hb dX0_impliedBy_65 (by decide) ?_
                refine lv_icmp_eq (tgt := 76) hx hb dX0_impliedBy_66 (by decide) (fun c_7 => ?_) (fun c_7 => ?_)
                · skip
                  have hno : ch i = none := oI_eq (fun k h => by have := hc _ _ h; omega) c_7
                  refine lv_iinc (v := nI (i + 1)) (lv' := [(4, .int (nI (i + 1))), (6, .int (nI 1)), (5, .int (oI (ch i))), (3, .int (nI (impN ch fk sk i))), (0, .ref x), (1, .int (nI fk)), (2, .int (nI sk))]) hx hb dX0_impliedBy_76 hl (k := 3) rfl (by show nI _ + _ = _; rw [show Int32.ofInt 1 = nI 1 from by decide, nI_add]) (by decide) rfl (fun ls hl => ?_)
                  refine lv_goto (tgt := 15) hx hb dX0_impliedBy_79 (by decide) ?_
                  have eq_2 : (impN ch fk sk i) = (impN ch fk sk (i + 1)) := by first | with_reducible rfl | exact (impN_no (by assumption)).symm | exact (impN_none (by assumption)).symm | exact (impN_yes (by assumption) (by assumption)).symm
                  have hl : lv_has ls 7 [(4, .int (nI (i + 1))), (6, .int (nI 1)), (5, .int (oI (ch i))), (3, .int (nI (impN ch fk sk (i + 1)))), (0, .ref x), (1, .int (nI fk)), (2, .int (nI sk))] := by ((try rw [← eq_2]); exact hl)
                  have hP : va_P g.1 vwCl [(x, .inr (0, [.ref r])), (r, .inr (4, [.ref a])), (a, .inl (gI g, 16, .inl (rO (ch))))] H := by ((try rw [← eq_2]); exact hP)
                  have hD : va_D A [(x, .inr (0, [.ref r])), (r, .inr (4, [.ref a])), (a, .inl (gI g, 16, .inl (rO (ch))))] := by ((try rw [← eq_2]); exact hD)
                  exact lp_ih (i + 1) (by omega)  (by omega) _ _ hP hD hS ls (lv_sub hl [3, 0, 4, 5, 6] rfl)
                · skip
                  obtain ⟨kk, hkk⟩ := oI_ne c_7
                  have hkk4 : kk < 4 := hc _ _ hkk
                  have hl : lv_has ls 7 [(6, .int (nI 1)), (5, .int (nI kk)), (3, .int (nI (impN ch fk sk i))), (4, .int (nI i)), (0, .ref x), (1, .int (nI fk)), (2, .int (nI sk))] := by rw [hkk] at hl; exact hl
                  refine lv_iload_n hx hb dX0_impliedBy_69 rfl (lv_at hl 2 rfl) ?_
                  refine lv_iconst (v := nI (1)) hx hb dX0_impliedBy_70 (by decide) ?_
                  refine lv_iload hx hb dX0_impliedBy_71 (lv_at hl 1 rfl) ?_
                  refine nv_ishl hx hb (by omega) (shl_b hkk4) dX0_impliedBy_73 ?_
                  refine nv_ior hx hb dX0_impliedBy_74 ?_
                  refine lv_istore_n (lv' := [(3, .int (nI ((impN ch fk sk i) ||| (1 <<< kk)))), (6, .int (nI 1)), (5, .int (nI kk)), (4, .int (nI i)), (0, .ref x), (1, .int (nI fk)), (2, .int (nI sk))]) hx hb dX0_impliedBy_75 rfl hl (by decide) rfl (fun ls hl => ?_)
                  refine lv_iinc (v := nI (i + 1)) (lv' := [(4, .int (nI (i + 1))), (3, .int (nI ((impN ch fk sk i) ||| (1 <<< kk)))), (6, .int (nI 1)), (5, .int (nI kk)), (0, .ref x), (1, .int (nI fk)), (2, .int (nI sk))]) hx hb dX0_impliedBy_76 hl (k := 3) rfl (by show nI _ + _ = _; rw [show Int32.ofInt 1 = nI 1 from by decide, nI_add]) (by decide) rfl (fun ls hl => ?_)
                  refine lv_goto (tgt := 15) hx hb dX0_impliedBy_79 (by decide) ?_
                  have eq_3 : ((impN ch fk sk i) ||| (1 <<< kk)) = (impN ch fk sk (i + 1)) := by first | with_reducible rfl | exact (impN_no (by assumption)).symm | exact (impN_none (by assumption)).symm | exact (impN_yes (by assumption) (by assumption)).symm
                  have hl : lv_has ls 7 [(4, .int (nI (i + 1))), (3, .int (nI (impN ch fk sk (i + 1)))), (6, .int (nI 1)), (5, .int (nI kk)), (0, .ref x), (1, .int (nI fk)), (2, .int (nI sk))] := by ((try rw [← eq_3]); exact hl)
                  have hP : va_P g.1 vwCl [(x, .inr (0, [.ref r])), (r, .inr (4, [.ref a])), (a, .inl (gI g, 16, .inl (rO (ch))))] H := by ((try rw [← eq_3]); exact hP)
                  have hD : va_D A [(x, .inr (0, [.ref r])), (r, .inr (4, [.ref a])), (a, .inl (gI g, 16, .inl (rO (ch))))] := by ((try rw [← eq_3]); exact hD)
                  exact lp_ih (i + 1) (by omega)  (by omega) _ _ hP hD hS ls (lv_sub hl [1, 0, 4, 5, 6] rfl)
      have eq_4 : (0) = (impN ch fk sk 0) := by rfl
      have hl : lv_has ls 7 [(4, .int (nI 0)), (3, .int (nI (impN ch fk sk 0))), (0, .ref x), (1, .int (nI fk)), (2, .int (nI sk))] := by ((try rw [← eq_4]); exact hl)
      have hP : va_P g.1 vwCl [(x, .inr (0, [.ref r])), (r, .inr (4, [.ref a])), (a, .inl (gI g, 16, .inl (rO (ch))))] H := by ((try rw [← eq_4]); exact hP)
      have hD : va_D A [(x, .inr (0, [.ref r])), (r, .inr (4, [.ref a])), (a, .inl (gI g, 16, .inl (rO (ch))))] := by ((try rw [← eq_4]); exact hD)
      exact lp (16 + 1) 0 (Nat.zero_le _)  (by omega) _ _ hP hD hS ls (lv_sub hl [1, 0, 2, 3, 4] rfl)
    · skip
      refine lv_iload_n hx hb dX0_impliedBy_10 rfl (lv_at hl 0 rfl) ?_
      exact im_ret (w1 := [(x, .inr (0, [.ref r])), (r, .inr (4, [.ref a])), (a, .inl (gI g, 16, .inl (rO (ch))))]) (v := nI (0)) hx hb hr hlocks hP hS rfl ⟨by rw [imp, if_pos (by omega)], rfl⟩ dX0_impliedBy_11

set_option maxRecDepth 100000 in
set_option maxHeartbeats 4000000 in
theorem c_X2_addImplied (l : Launch) (g : GG) (x r a y r2 a2 : Nat) (m : Nat → Nat) (ch : Nat → Option Nat) (hc : chOk ch) (hm : mOk m) : IM l yX2_addImplied wsX2_addImplied 4 g [.ref x, .ref y] [(x, .inr (2, [.ref r])), (r, .inr (4, [.ref a])), (a, .inl (gI g, 25, .inl (rM (m)))), (y, .inr (0, [.ref r2])), (r2, .inr (4, [.ref a2])), (a2, .inl (gI g, 16, .inl (rO (ch))))] (fun x1 w1 => x1 = b2i (swV ch (m, false) 5).2 ∧ w1 = [(x, .inr (2, [.ref r])), (r, .inr (4, [.ref a])), (a, .inl (gI g, 25, .inl (rM ((swV ch (m, false) 5).1)))), (y, .inr (0, [.ref r2])), (r2, .inr (4, [.ref a2])), (a2, .inl (gI g, 16, .inl (rO (ch))))]) := by
  refine fun sz => im_body (Qc := fun A => va_Qi _ (iB g _) A) (cc := cX2_addImplied) (maxL := 7) (ret := (some .boolean)) (by decide) rfl (Nat.le_of_ble_eq_true rfl) ?_ sz
  intro pg ev s0 mi below meth cd A hx hb hr hml hts hown hlocks hK hA H hP hD hS ls hl
  have hl : lv_has ls 7 [(0, .ref x), (1, .ref y)] := hl
  refine lv_iconst (v := nI (0)) hx hb dX2_addImplied_0 (by decide) ?_
  refine lv_istore_n (lv' := [(2, .int (nI 0)), (0, .ref x), (1, .ref y)]) hx hb dX2_addImplied_1 rfl hl (by decide) rfl (fun ls hl => ?_)
  refine lv_iconst (v := nI (0)) hx hb dX2_addImplied_2 (by decide) ?_
  refine lv_istore_n (lv' := [(3, .int (nI 0)), (2, .int (nI 0)), (0, .ref x), (1, .ref y)]) hx hb dX2_addImplied_3 rfl hl (by decide) rfl (fun ls hl => ?_)
  have lv : ∀ (k9 : Nat) (v : Nat) (hv : v ≤ 5) , 5 - v < k9 → ∀ (H : Heap) (locs : List Loc), va_P g.1 vwCl [(x, .inr (2, [.ref r])), (r, .inr (4, [.ref a])), (a, .inl (gI g, 25, .inl (rM ((swV ch (m, false) v).1)))), (y, .inr (0, [.ref r2])), (r2, .inr (4, [.ref a2])), (a2, .inl (gI g, 16, .inl (rO (ch))))] H → va_D A [(x, .inr (2, [.ref r])), (r, .inr (4, [.ref a])), (a, .inl (gI g, 25, .inl (rM ((swV ch (m, false) v).1)))), (y, .inr (0, [.ref r2])), (r2, .inr (4, [.ref a2])), (a2, .inl (gI g, 16, .inl (rO (ch))))] → va_S A s0.heap H locs → ∀ ls : Array Slot, lv_has ls 7 [(2, .int (b2i ((swV ch (m, false) v).2))), (0, .ref x), (1, .ref y), (3, .int (nI v))] → W pg l ev (rmL 4) s0 mi ([.ref x, .ref y] : List Value).toArray below meth cd H locs 0 0 (MQ below (va_Qi (fun x1 w1 => x1 = b2i (swV ch (m, false) 5).2 ∧ w1 = [(x, .inr (2, [.ref r])), (r, .inr (4, [.ref a])), (a, .inl (gI g, 25, .inl (rM ((swV ch (m, false) 5).1)))), (y, .inr (0, [.ref r2])), (r2, .inr (4, [.ref a2])), (a2, .inl (gI g, 16, .inl (rO (ch))))]) (iB g [(x, .inr (2, [.ref r])), (r, .inr (4, [.ref a])), (a, .inl (gI g, 25, .inl (rM (m)))), (y, .inr (0, [.ref r2])), (r2, .inr (4, [.ref a2])), (a2, .inl (gI g, 16, .inl (rO (ch))))]) A) ([.ref x, .ref y] : List Value).toArray s0 0 0 A) (F0 mi 4 ls []) := by
    intro k9
    induction k9 with
    | zero => intros; omega
    | succ k9 lv_ih =>
      intro v hv hmz H locs hP hD hS ls hl
      refine lv_iload_n hx hb dX2_addImplied_4 rfl (lv_at hl 3 rfl) ?_
      refine lv_iconst (v := nI (5)) hx hb dX2_addImplied_5 (by decide) ?_
      refine nv_icmp_ge (tgt := 97) hx hb (by omega) (by omega) dX2_addImplied_6 (by decide) (fun c_1 => ?_) (fun c_1 => ?_)
      · skip
        have ev : v = 5 := by omega
        subst ev
        refine lv_iload_n hx hb dX2_addImplied_97 rfl (lv_at hl 0 rfl) ?_
        exact im_retz (w1 := [(x, .inr (2, [.ref r])), (r, .inr (4, [.ref a])), (a, .inl (gI g, 25, .inl (rM ((swV ch (m, false) 5).1)))), (y, .inr (0, [.ref r2])), (r2, .inr (4, [.ref a2])), (a2, .inl (gI g, 16, .inl (rO (ch))))]) (v := b2i ((swV ch (m, false) 5).2)) hx hb hr hlocks hP hS rfl ⟨rfl, rfl⟩ (by first | exact b2i_nar _ | rfl) dX2_addImplied_98
      · skip
        refine lv_iconst (v := nI (0)) hx hb dX2_addImplied_9 (by decide) ?_
        refine lv_istore (lv' := [(4, .int (nI 0)), (2, .int (b2i ((swV ch (m, false) v).2))), (0, .ref x), (1, .ref y), (3, .int (nI v))]) hx hb dX2_addImplied_10 hl (by decide) rfl (fun ls hl => ?_)
        have lf : ∀ (k9 : Nat) (f : Nat) (hf : f ≤ 5) , 5 - f < k9 → ∀ (H : Heap) (locs : List Loc), va_P g.1 vwCl [(x, .inr (2, [.ref r])), (r, .inr (4, [.ref a])), (a, .inl (gI g, 25, .inl (rM ((swF ch v (swV ch (m, false) v) f).1)))), (y, .inr (0, [.ref r2])), (r2, .inr (4, [.ref a2])), (a2, .inl (gI g, 16, .inl (rO (ch))))] H → va_D A [(x, .inr (2, [.ref r])), (r, .inr (4, [.ref a])), (a, .inl (gI g, 25, .inl (rM ((swF ch v (swV ch (m, false) v) f).1)))), (y, .inr (0, [.ref r2])), (r2, .inr (4, [.ref a2])), (a2, .inl (gI g, 16, .inl (rO (ch))))] → va_S A s0.heap H locs → ∀ ls : Array Slot, lv_has ls 7 [(2, .int (b2i ((swF ch v (swV ch (m, false) v) f).2))), (0, .ref x), (1, .ref y), (3, .int (nI v)), (4, .int (nI f))] → W pg l ev (rmL 4) s0 mi ([.ref x, .ref y] : List Value).toArray below meth cd H locs 0 0 (MQ below (va_Qi (fun x1 w1 => x1 = b2i (swV ch (m, false) 5).2 ∧ w1 = [(x, .inr (2, [.ref r])), (r, .inr (4, [.ref a])), (a, .inl (gI g, 25, .inl (rM ((swV ch (m, false) 5).1)))), (y, .inr (0, [.ref r2])), (r2, .inr (4, [.ref a2])), (a2, .inl (gI g, 16, .inl (rO (ch))))]) (iB g [(x, .inr (2, [.ref r])), (r, .inr (4, [.ref a])), (a, .inl (gI g, 25, .inl (rM (m)))), (y, .inr (0, [.ref r2])), (r2, .inr (4, [.ref a2])), (a2, .inl (gI g, 16, .inl (rO (ch))))]) A) ([.ref x, .ref y] : List Value).toArray s0 0 0 A) (F0 mi 12 ls []) := by
          intro k9
          induction k9 with
          | zero => intros; omega
          | succ k9 lf_ih =>
            intro f hf hmz H locs hP hD hS ls hl
            refine lv_iload hx hb dX2_addImplied_12 (lv_at hl 4 rfl) ?_
            refine lv_iconst (v := nI (5)) hx hb dX2_addImplied_14 (by decide) ?_
            refine nv_icmp_ge (tgt := 91) hx hb (by omega) (by omega) dX2_addImplied_15 (by decide) (fun c_2 => ?_) (fun c_2 => ?_)
            · skip
              have ef : f = 5 := by omega
              subst ef
              refine lv_iinc (v := nI (v + 1)) (lv' := [(3, .int (nI (v + 1))), (2, .int (b2i ((swF ch v (swV ch (m, false) v) 5).2))), (0, .ref x), (1, .ref y), (4, .int (nI 5))]) hx hb dX2_addImplied_91 hl (k := 3) rfl (by show nI _ + _ = _; rw [show Int32.ofInt 1 = nI 1 from by decide, nI_add]) (by decide) rfl (fun ls hl => ?_)
              refine lv_goto (tgt := 4) hx hb dX2_addImplied_94 (by decide) ?_
              have eq_1 : ((swF ch v (swV ch (m, false) v) 5).2) = ((swV ch (m, false) (v + 1)).2) := by rfl
              have eq_2 : ((swF ch v (swV ch (m, false) v) 5).1) = ((swV ch (m, false) (v + 1)).1) := by rfl
              have hl : lv_has ls 7 [(3, .int (nI (v + 1))), (2, .int (b2i ((swV ch (m, false) (v + 1)).2))), (0, .ref x), (1, .ref y), (4, .int (nI 5))] := by ((try rw [← eq_1]); (try rw [← eq_2]); exact hl)
              have hP : va_P g.1 vwCl [(x, .inr (2, [.ref r])), (r, .inr (4, [.ref a])), (a, .inl (gI g, 25, .inl (rM ((swV ch (m, false) (v + 1)).1)))), (y, .inr (0, [.ref r2])), (r2, .inr (4, [.ref a2])), (a2, .inl (gI g, 16, .inl (rO (ch))))] H := by ((try rw [← eq_1]); (try rw [← eq_2]); exact hP)
              have hD : va_D A [(x, .inr (2, [.ref r])), (r, .inr (4, [.ref a])), (a, .inl (gI g, 25, .inl (rM ((swV ch (m, false) (v + 1)).1)))), (y, .inr (0, [.ref r2])), (r2, .inr (4, [.ref a2])), (a2, .inl (gI g, 16, .inl (rO (ch))))] := by ((try rw [← eq_1]); (try rw [← eq_2]); exact hD)
              exact lv_ih (v + 1) (by omega)  (by omega) _ _ hP hD hS ls (lv_sub hl [1, 2, 3, 0] rfl)
            · skip
              refine lv_iconst (v := nI (0)) hx hb dX2_addImplied_18 (by decide) ?_
              refine lv_istore (lv' := [(5, .int (nI 0)), (2, .int (b2i ((swF ch v (swV ch (m, false) v) f).2))), (0, .ref x), (1, .ref y), (3, .int (nI v)), (4, .int (nI f))]) hx hb dX2_addImplied_19 hl (by decide) rfl (fun ls hl => ?_)
              have lt : ∀ (k9 : Nat) (t : Nat) (ht : t ≤ 5) , 5 - t < k9 → ∀ (H : Heap) (locs : List Loc), va_P g.1 vwCl [(x, .inr (2, [.ref r])), (r, .inr (4, [.ref a])), (a, .inl (gI g, 25, .inl (rM ((swT ch v f (swF ch v (swV ch (m, false) v) f) t).1)))), (y, .inr (0, [.ref r2])), (r2, .inr (4, [.ref a2])), (a2, .inl (gI g, 16, .inl (rO (ch))))] H → va_D A [(x, .inr (2, [.ref r])), (r, .inr (4, [.ref a])), (a, .inl (gI g, 25, .inl (rM ((swT ch v f (swF ch v (swV ch (m, false) v) f) t).1)))), (y, .inr (0, [.ref r2])), (r2, .inr (4, [.ref a2])), (a2, .inl (gI g, 16, .inl (rO (ch))))] → va_S A s0.heap H locs → ∀ ls : Array Slot, lv_has ls 7 [(2, .int (b2i ((swT ch v f (swF ch v (swV ch (m, false) v) f) t).2))), (0, .ref x), (1, .ref y), (3, .int (nI v)), (4, .int (nI f)), (5, .int (nI t))] → W pg l ev (rmL 4) s0 mi ([.ref x, .ref y] : List Value).toArray below meth cd H locs 0 0 (MQ below (va_Qi (fun x1 w1 => x1 = b2i (swV ch (m, false) 5).2 ∧ w1 = [(x, .inr (2, [.ref r])), (r, .inr (4, [.ref a])), (a, .inl (gI g, 25, .inl (rM ((swV ch (m, false) 5).1)))), (y, .inr (0, [.ref r2])), (r2, .inr (4, [.ref a2])), (a2, .inl (gI g, 16, .inl (rO (ch))))]) (iB g [(x, .inr (2, [.ref r])), (r, .inr (4, [.ref a])), (a, .inl (gI g, 25, .inl (rM (m)))), (y, .inr (0, [.ref r2])), (r2, .inr (4, [.ref a2])), (a2, .inl (gI g, 16, .inl (rO (ch))))]) A) ([.ref x, .ref y] : List Value).toArray s0 0 0 A) (F0 mi 21 ls []) := by
                intro k9
                induction k9 with
                | zero => intros; omega
                | succ k9 lt_ih =>
                  intro t ht hmz H locs hP hD hS ls hl
                  refine lv_iload hx hb dX2_addImplied_21 (lv_at hl 5 rfl) ?_
                  refine lv_iconst (v := nI (5)) hx hb dX2_addImplied_23 (by decide) ?_
                  refine nv_icmp_ge (tgt := 85) hx hb (by omega) (by omega) dX2_addImplied_24 (by decide) (fun c_3 => ?_) (fun c_3 => ?_)
                  · skip
                    have et : t = 5 := by omega
                    subst et
                    refine lv_iinc (v := nI (f + 1)) (lv' := [(4, .int (nI (f + 1))), (2, .int (b2i ((swT ch v f (swF ch v (swV ch (m, false) v) f) 5).2))), (0, .ref x), (1, .ref y), (3, .int (nI v)), (5, .int (nI 5))]) hx hb dX2_addImplied_85 hl (k := 4) rfl (by show nI _ + _ = _; rw [show Int32.ofInt 1 = nI 1 from by decide, nI_add]) (by decide) rfl (fun ls hl => ?_)
                    refine lv_goto (tgt := 12) hx hb dX2_addImplied_88 (by decide) ?_
                    have eq_3 : ((swT ch v f (swF ch v (swV ch (m, false) v) f) 5).2) = ((swF ch v (swV ch (m, false) v) (f + 1)).2) := by rfl
                    have eq_4 : ((swT ch v f (swF ch v (swV ch (m, false) v) f) 5).1) = ((swF ch v (swV ch (m, false) v) (f + 1)).1) := by rfl
                    have hl : lv_has ls 7 [(4, .int (nI (f + 1))), (2, .int (b2i ((swF ch v (swV ch (m, false) v) (f + 1)).2))), (0, .ref x), (1, .ref y), (3, .int (nI v)), (5, .int (nI 5))] := by ((try rw [← eq_3]); (try rw [← eq_4]); exact hl)
                    have hP : va_P g.1 vwCl [(x, .inr (2, [.ref r])), (r, .inr (4, [.ref a])), (a, .inl (gI g, 25, .inl (rM ((swF ch v (swV ch (m, false) v) (f + 1)).1)))), (y, .inr (0, [.ref r2])), (r2, .inr (4, [.ref a2])), (a2, .inl (gI g, 16, .inl (rO (ch))))] H := by ((try rw [← eq_3]); (try rw [← eq_4]); exact hP)
                    have hD : va_D A [(x, .inr (2, [.ref r])), (r, .inr (4, [.ref a])), (a, .inl (gI g, 25, .inl (rM ((swF ch v (swV ch (m, false) v) (f + 1)).1)))), (y, .inr (0, [.ref r2])), (r2, .inr (4, [.ref a2])), (a2, .inl (gI g, 16, .inl (rO (ch))))] := by ((try rw [← eq_3]); (try rw [← eq_4]); exact hD)
                    exact lf_ih (f + 1) (by omega)  (by omega) _ _ hP hD hS ls (lv_sub hl [1, 2, 3, 4, 0] rfl)
                  · skip
                    refine lv_iload hx hb dX2_addImplied_27 (lv_at hl 4 rfl) ?_
                    refine lv_iload_n hx hb dX2_addImplied_29 rfl (lv_at hl 3 rfl) ?_
                    refine nv_icmp_eq (tgt := 79) hx hb (by omega) (by omega) dX2_addImplied_30 (by decide) (fun c_4 => ?_) (fun c_4 => ?_)
                    · skip
                      refine lv_iinc (v := nI (t + 1)) (lv' := [(5, .int (nI (t + 1))), (2, .int (b2i ((swT ch v f (swF ch v (swV ch (m, false) v) f) t).2))), (0, .ref x), (1, .ref y), (3, .int (nI v)), (4, .int (nI f))]) hx hb dX2_addImplied_79 hl (k := 5) rfl (by show nI _ + _ = _; rw [show Int32.ofInt 1 = nI 1 from by decide, nI_add]) (by decide) rfl (fun ls hl => ?_)
                      refine lv_goto (tgt := 21) hx hb dX2_addImplied_82 (by decide) ?_
                      have eq_5 : ((swT ch v f (swF ch v (swV ch (m, false) v) f) t).2) = ((swT ch v f (swF ch v (swV ch (m, false) v) f) (t + 1)).2) := by first | with_reducible rfl | (simp [swT, sw1, *]; done) | (show _ = (sw1 ch v f t (swT ch v f (swF ch v (swV ch (m, false) v) f) t)).1; rw [sw1, if_neg (by omega)]) | (show _ = (sw1 ch v f t (swT ch v f (swF ch v (swV ch (m, false) v) f) t)).2; rw [sw1, if_pos (by omega)])
                      have eq_6 : ((swT ch v f (swF ch v (swV ch (m, false) v) f) t).1) = ((swT ch v f (swF ch v (swV ch (m, false) v) f) (t + 1)).1) := by first | with_reducible rfl | (simp [swT, sw1, *]; done) | (show _ = (sw1 ch v f t (swT ch v f (swF ch v (swV ch (m, false) v) f) t)).1; rw [sw1, if_neg (by omega)]) | (show _ = (sw1 ch v f t (swT ch v f (swF ch v (swV ch (m, false) v) f) t)).2; rw [sw1, if_pos (by omega)])
                      have hl : lv_has ls 7 [(5, .int (nI (t + 1))), (2, .int (b2i ((swT ch v f (swF ch v (swV ch (m, false) v) f) (t + 1)).2))), (0, .ref x), (1, .ref y), (3, .int (nI v)), (4, .int (nI f))] := by ((try rw [← eq_5]); (try rw [← eq_6]); exact hl)
                      have hP : va_P g.1 vwCl [(x, .inr (2, [.ref r])), (r, .inr (4, [.ref a])), (a, .inl (gI g, 25, .inl (rM ((swT ch v f (swF ch v (swV ch (m, false) v) f) (t + 1)).1)))), (y, .inr (0, [.ref r2])), (r2, .inr (4, [.ref a2])), (a2, .inl (gI g, 16, .inl (rO (ch))))] H := by ((try rw [← eq_5]); (try rw [← eq_6]); exact hP)
                      have hD : va_D A [(x, .inr (2, [.ref r])), (r, .inr (4, [.ref a])), (a, .inl (gI g, 25, .inl (rM ((swT ch v f (swF ch v (swV ch (m, false) v) f) (t + 1)).1)))), (y, .inr (0, [.ref r2])), (r2, .inr (4, [.ref a2])), (a2, .inl (gI g, 16, .inl (rO (ch))))] := by ((try rw [← eq_5]); (try rw [← eq_6]); exact hD)
                      exact lt_ih (t + 1) (by omega)  (by omega) _ _ hP hD hS ls (lv_sub hl [1, 2, 3, 4, 5, 0] rfl)
                    · skip
                      refine lv_iload hx hb dX2_addImplied_33 (lv_at hl 5 rfl) ?_
                      refine lv_iload_n hx hb dX2_addImplied_35 rfl (lv_at hl 3 rfl) ?_
                      refine nv_icmp_eq (tgt := 79) hx hb (by omega) (by omega) dX2_addImplied_36 (by decide) (fun c_5 => ?_) (fun c_5 => ?_)
                      · skip
                        refine lv_iinc (v := nI (t + 1)) (lv' := [(5, .int (nI (t + 1))), (2, .int (b2i ((swT ch v f (swF ch v (swV ch (m, false) v) f) t).2))), (0, .ref x), (1, .ref y), (3, .int (nI v)), (4, .int (nI f))]) hx hb dX2_addImplied_79 hl (k := 5) rfl (by show nI _ + _ = _; rw [show Int32.ofInt 1 = nI 1 from by decide, nI_add]) (by decide) rfl (fun ls hl => ?_)
                        refine lv_goto (tgt := 21) hx hb dX2_addImplied_82 (by decide) ?_
                        have eq_7 : ((swT ch v f (swF ch v (swV ch (m, false) v) f) t).2) = ((swT ch v f (swF ch v (swV ch (m, false) v) f) (t + 1)).2) := by first | with_reducible rfl | (simp [swT, sw1, *]; done) | (show _ = (sw1 ch v f t (swT ch v f (swF ch v (swV ch (m, false) v) f) t)).1; rw [sw1, if_neg (by omega)]) | (show _ = (sw1 ch v f t (swT ch v f (swF ch v (swV ch (m, false) v) f) t)).2; rw [sw1, if_pos (by omega)])
                        have eq_8 : ((swT ch v f (swF ch v (swV ch (m, false) v) f) t).1) = ((swT ch v f (swF ch v (swV ch (m, false) v) f) (t + 1)).1) := by first | with_reducible rfl | (simp [swT, sw1, *]; done) | (show _ = (sw1 ch v f t (swT ch v f (swF ch v (swV ch (m, false) v) f) t)).1; rw [sw1, if_neg (by omega)]) | (show _ = (sw1 ch v f t (swT ch v f (swF ch v (swV ch (m, false) v) f) t)).2; rw [sw1, if_pos (by omega)])
                        have hl : lv_has ls 7 [(5, .int (nI (t + 1))), (2, .int (b2i ((swT ch v f (swF ch v (swV ch (m, false) v) f) (t + 1)).2))), (0, .ref x), (1, .ref y), (3, .int (nI v)), (4, .int (nI f))] := by ((try rw [← eq_7]); (try rw [← eq_8]); exact hl)
                        have hP : va_P g.1 vwCl [(x, .inr (2, [.ref r])), (r, .inr (4, [.ref a])), (a, .inl (gI g, 25, .inl (rM ((swT ch v f (swF ch v (swV ch (m, false) v) f) (t + 1)).1)))), (y, .inr (0, [.ref r2])), (r2, .inr (4, [.ref a2])), (a2, .inl (gI g, 16, .inl (rO (ch))))] H := by ((try rw [← eq_7]); (try rw [← eq_8]); exact hP)
                        have hD : va_D A [(x, .inr (2, [.ref r])), (r, .inr (4, [.ref a])), (a, .inl (gI g, 25, .inl (rM ((swT ch v f (swF ch v (swV ch (m, false) v) f) (t + 1)).1)))), (y, .inr (0, [.ref r2])), (r2, .inr (4, [.ref a2])), (a2, .inl (gI g, 16, .inl (rO (ch))))] := by ((try rw [← eq_7]); (try rw [← eq_8]); exact hD)
                        exact lt_ih (t + 1) (by omega)  (by omega) _ _ hP hD hS ls (lv_sub hl [1, 2, 3, 4, 5, 0] rfl)
                      · skip
                        refine lv_iload hx hb dX2_addImplied_39 (lv_at hl 4 rfl) ?_
                        refine lv_iload hx hb dX2_addImplied_41 (lv_at hl 5 rfl) ?_
                        refine nv_icmp_eq (tgt := 79) hx hb (by omega) (by omega) dX2_addImplied_43 (by decide) (fun c_6 => ?_) (fun c_6 => ?_)
                        · skip
                          refine lv_iinc (v := nI (t + 1)) (lv' := [(5, .int (nI (t + 1))), (2, .int (b2i ((swT ch v f (swF ch v (swV ch (m, false) v) f) t).2))), (0, .ref x), (1, .ref y), (3, .int (nI v)), (4, .int (nI f))]) hx hb dX2_addImplied_79 hl (k := 5) rfl (by show nI _ + _ = _; rw [show Int32.ofInt 1 = nI 1 from by decide, nI_add]) (by decide) rfl (fun ls hl => ?_)
                          refine lv_goto (tgt := 21) hx hb dX2_addImplied_82 (by decide) ?_
                          have eq_9 : ((swT ch v f (swF ch v (swV ch (m, false) v) f) t).2) = ((swT ch v f (swF ch v (swV ch (m, false) v) f) (t + 1)).2) := by first | with_reducible rfl | (simp [swT, sw1, *]; done) | (show _ = (sw1 ch v f t (swT ch v f (swF ch v (swV ch (m, false) v) f) t)).1; rw [sw1, if_neg (by omega)]) | (show _ = (sw1 ch v f t (swT ch v f (swF ch v (swV ch (m, false) v) f) t)).2; rw [sw1, if_pos (by omega)])
                          have eq_10 : ((swT ch v f (swF ch v (swV ch (m, false) v) f) t).1) = ((swT ch v f (swF ch v (swV ch (m, false) v) f) (t + 1)).1) := by first | with_reducible rfl | (simp [swT, sw1, *]; done) | (show _ = (sw1 ch v f t (swT ch v f (swF ch v (swV ch (m, false) v) f) t)).1; rw [sw1, if_neg (by omega)]) | (show _ = (sw1 ch v f t (swT ch v f (swF ch v (swV ch (m, false) v) f) t)).2; rw [sw1, if_pos (by omega)])
                          have hl : lv_has ls 7 [(5, .int (nI (t + 1))), (2, .int (b2i ((swT ch v f (swF ch v (swV ch (m, false) v) f) (t + 1)).2))), (0, .ref x), (1, .ref y), (3, .int (nI v)), (4, .int (nI f))] := by ((try rw [← eq_9]); (try rw [← eq_10]); exact hl)
                          have hP : va_P g.1 vwCl [(x, .inr (2, [.ref r])), (r, .inr (4, [.ref a])), (a, .inl (gI g, 25, .inl (rM ((swT ch v f (swF ch v (swV ch (m, false) v) f) (t + 1)).1)))), (y, .inr (0, [.ref r2])), (r2, .inr (4, [.ref a2])), (a2, .inl (gI g, 16, .inl (rO (ch))))] H := by ((try rw [← eq_9]); (try rw [← eq_10]); exact hP)
                          have hD : va_D A [(x, .inr (2, [.ref r])), (r, .inr (4, [.ref a])), (a, .inl (gI g, 25, .inl (rM ((swT ch v f (swF ch v (swV ch (m, false) v) f) (t + 1)).1)))), (y, .inr (0, [.ref r2])), (r2, .inr (4, [.ref a2])), (a2, .inl (gI g, 16, .inl (rO (ch))))] := by ((try rw [← eq_9]); (try rw [← eq_10]); exact hD)
                          exact lt_ih (t + 1) (by omega)  (by omega) _ _ hP hD hS ls (lv_sub hl [1, 2, 3, 4, 5, 0] rfl)
                        · skip
                          refine lv_aload_n hx hb dX2_addImplied_46 rfl (lv_at hl 2 rfl) ?_
                          refine lv_aload_n hx hb dX2_addImplied_47 rfl (lv_at hl 1 rfl) ?_
                          refine lv_iload hx hb dX2_addImplied_48 (lv_at hl 4 rfl) ?_
                          refine lv_iload_n hx hb dX2_addImplied_50 rfl (lv_at hl 3 rfl) ?_
                          refine im_V (k := 2) hx hb hml hown hts (c_X2_between l g x r a ((swT ch v f (swF ch v (swV ch (m, false) v) f) t).1) (f) (v) (by omega) (by omega)) gX2_addImplied_X2_between rfl (by decide +kernel) ⟨Nat.le_of_ble_eq_true rfl, Nat.le_of_ble_eq_true rfl⟩ ⟨Nat.zero_le _, Nat.zero_le _⟩ hK hP hD hS hA [0, 1, 2] rfl (by decide) 0 2 rfl rfl rfl hl.1 (rest := [.ref y]) (As := [.int (nI f), .int (nI v)]) rfl (Nat.le_of_ble_eq_true rfl) dX2_addImplied_51 (fun x1 w1 H locs hpo hpd hS => ?_)
                          obtain ⟨hx1, rfl⟩ := hpo
                          have hx1 : x1 = nI (((swT ch v f (swF ch v (swV ch (m, false) v) f) t).1) (f * 5 + v)) := hx1
                          subst hx1
                          obtain ⟨hP, hD⟩ := hpd [(x, .inr (2, [.ref r])), (r, .inr (4, [.ref a])), (a, .inl (gI g, 25, .inl (rM ((swT ch v f (swF ch v (swV ch (m, false) v) f) t).1)))), (y, .inr (0, [.ref r2])), (r2, .inr (4, [.ref a2])), (a2, .inl (gI g, 16, .inl (rO (ch))))] [3, 4, 5] 6 rfl rfl [(y, .inr (0, [.ref r2])), (r2, .inr (4, [.ref a2])), (a2, .inl (gI g, 16, .inl (rO (ch))))] rfl rfl (by decide) (by decide)
                          refine lv_aload_n hx hb dX2_addImplied_54 rfl (lv_at hl 1 rfl) ?_
                          refine lv_iload_n hx hb dX2_addImplied_55 rfl (lv_at hl 3 rfl) ?_
                          refine lv_iload hx hb dX2_addImplied_56 (lv_at hl 5 rfl) ?_
                          refine im_V (k := 2) hx hb hml hown hts (c_X2_between l g x r a ((swT ch v f (swF ch v (swV ch (m, false) v) f) t).1) (v) (t) (by omega) (by omega)) gX2_addImplied_X2_between rfl (by decide +kernel) ⟨Nat.le_of_ble_eq_true rfl, Nat.le_of_ble_eq_true rfl⟩ ⟨Nat.zero_le _, Nat.zero_le _⟩ hK hP hD hS hA [0, 1, 2] rfl (by decide) 0 2 rfl rfl rfl hl.1 (rest := [.int (nI (((swT ch v f (swF ch v (swV ch (m, false) v) f) t).1) (f * 5 + v))), .ref y]) (As := [.int (nI v), .int (nI t)]) rfl (Nat.le_of_ble_eq_true rfl) dX2_addImplied_58 (fun x1 w1 H locs hpo hpd hS => ?_)
                          obtain ⟨hx1, rfl⟩ := hpo
                          have hx1 : x1 = nI (((swT ch v f (swF ch v (swV ch (m, false) v) f) t).1) (v * 5 + t)) := hx1
                          subst hx1
                          obtain ⟨hP, hD⟩ := hpd [(x, .inr (2, [.ref r])), (r, .inr (4, [.ref a])), (a, .inl (gI g, 25, .inl (rM ((swT ch v f (swF ch v (swV ch (m, false) v) f) t).1)))), (y, .inr (0, [.ref r2])), (r2, .inr (4, [.ref a2])), (a2, .inl (gI g, 16, .inl (rO (ch))))] [3, 4, 5] 6 rfl rfl [(y, .inr (0, [.ref r2])), (r2, .inr (4, [.ref a2])), (a2, .inl (gI g, 16, .inl (rO (ch))))] rfl rfl (by decide) (by decide)
                          refine im_V (k := 2) hx hb hml hown hts (c_X0_impliedBy l g y r2 a2 (ch) (((swT ch v f (swF ch v (swV ch (m, false) v) f) t).1) (f * 5 + v)) (((swT ch v f (swF ch v (swV ch (m, false) v) f) t).1) (v * 5 + t)) hc ((swT_ok hc (swF_ok hc (swV_ok hc hm _) _) _) _) ((swT_ok hc (swF_ok hc (swV_ok hc hm _) _) _) _)) gX2_addImplied_X0_impliedBy rfl (by decide +kernel) ⟨Nat.le_of_ble_eq_true rfl, Nat.le_of_ble_eq_true rfl⟩ ⟨Nat.zero_le _, Nat.zero_le _⟩ hK hP hD hS hA [3, 4, 5] rfl (by decide) 3 0 rfl rfl rfl hl.1 (rest := []) (As := [.int (nI (((swT ch v f (swF ch v (swV ch (m, false) v) f) t).1) (f * 5 + v))), .int (nI (((swT ch v f (swF ch v (swV ch (m, false) v) f) t).1) (v * 5 + t)))]) rfl (Nat.le_of_ble_eq_true rfl) dX2_addImplied_61 (fun x1 w1 H locs hpo hpd hS => ?_)
                          obtain ⟨hx1, rfl⟩ := hpo
                          have hx1 : x1 = nI (imp ch (((swT ch v f (swF ch v (swV ch (m, false) v) f) t).1) (f * 5 + v)) (((swT ch v f (swF ch v (swV ch (m, false) v) f) t).1) (v * 5 + t))) := hx1
                          subst hx1
                          obtain ⟨hP, hD⟩ := hpd [(x, .inr (2, [.ref r])), (r, .inr (4, [.ref a])), (a, .inl (gI g, 25, .inl (rM ((swT ch v f (swF ch v (swV ch (m, false) v) f) t).1)))), (y, .inr (0, [.ref r2])), (r2, .inr (4, [.ref a2])), (a2, .inl (gI g, 16, .inl (rO (ch))))] [0, 1, 2] 6 rfl rfl [(x, .inr (2, [.ref r])), (r, .inr (4, [.ref a])), (a, .inl (gI g, 25, .inl (rM ((swT ch v f (swF ch v (swV ch (m, false) v) f) t).1))))] rfl rfl (by decide) (by decide)
                          refine lv_istore (lv' := [(6, .int (nI (imp ch (((swT ch v f (swF ch v (swV ch (m, false) v) f) t).1) (f * 5 + v)) (((swT ch v f (swF ch v (swV ch (m, false) v) f) t).1) (v * 5 + t))))), (2, .int (b2i ((swT ch v f (swF ch v (swV ch (m, false) v) f) t).2))), (0, .ref x), (1, .ref y), (3, .int (nI v)), (4, .int (nI f)), (5, .int (nI t))]) hx hb dX2_addImplied_64 hl (by decide) rfl (fun ls hl => ?_)
                          refine lv_iload_n hx hb dX2_addImplied_66 rfl (lv_at hl 1 rfl) ?_
                          refine lv_aload_n hx hb dX2_addImplied_67 rfl (lv_at hl 2 rfl) ?_
                          refine lv_iload hx hb dX2_addImplied_68 (lv_at hl 5 rfl) ?_
                          refine lv_iload hx hb dX2_addImplied_70 (lv_at hl 6 rfl) ?_
                          refine lv_iload hx hb dX2_addImplied_72 (lv_at hl 0 rfl) ?_
                          refine im_V (k := 3) hx hb hml hown hts (c_X2_add l g x r a ((swT ch v f (swF ch v (swV ch (m, false) v) f) t).1) (f) (t) (imp ch (((swT ch v f (swF ch v (swV ch (m, false) v) f) t).1) (f * 5 + v)) (((swT ch v f (swF ch v (swV ch (m, false) v) f) t).1) (v * 5 + t))) (swT_ok hc (swF_ok hc (swV_ok hc hm _) _) _) (by omega) (by omega) (imp_lt hc _ _)) gX2_addImplied_X2_add rfl (by decide +kernel) ⟨Nat.le_of_ble_eq_true rfl, Nat.le_of_ble_eq_true rfl⟩ ⟨Nat.zero_le _, Nat.zero_le _⟩ hK hP hD hS hA [0, 1, 2] rfl (by decide) 0 2 rfl rfl rfl hl.1 (rest := [.int (b2i ((swT ch v f (swF ch v (swV ch (m, false) v) f) t).2))]) (As := [.int (nI f), .int (nI t), .int (nI (imp ch (((swT ch v f (swF ch v (swV ch (m, false) v) f) t).1) (f * 5 + v)) (((swT ch v f (swF ch v (swV ch (m, false) v) f) t).1) (v * 5 + t))))]) rfl (Nat.le_of_ble_eq_true rfl) dX2_addImplied_74 (fun x1 w1 H locs hpo hpd hS => ?_)
                          obtain ⟨hx1, rfl⟩ := hpo
                          have hx1 : x1 = b2i (decide (((swT ch v f (swF ch v (swV ch (m, false) v) f) t).1) (f * 5 + t) ||| (imp ch (((swT ch v f (swF ch v (swV ch (m, false) v) f) t).1) (f * 5 + v)) (((swT ch v f (swF ch v (swV ch (m, false) v) f) t).1) (v * 5 + t))) ≠ ((swT ch v f (swF ch v (swV ch (m, false) v) f) t).1) (f * 5 + t))) := hx1
                          subst hx1
                          obtain ⟨hP, hD⟩ := hpd [(x, .inr (2, [.ref r])), (r, .inr (4, [.ref a])), (a, .inl (gI g, 25, .inl (rM (va_up ((swT ch v f (swF ch v (swV ch (m, false) v) f) t).1) (f * 5 + t) (((swT ch v f (swF ch v (swV ch (m, false) v) f) t).1) (f * 5 + t) ||| (imp ch (((swT ch v f (swF ch v (swV ch (m, false) v) f) t).1) (f * 5 + v)) (((swT ch v f (swF ch v (swV ch (m, false) v) f) t).1) (v * 5 + t)))))))), (y, .inr (0, [.ref r2])), (r2, .inr (4, [.ref a2])), (a2, .inl (gI g, 16, .inl (rO (ch))))] [3, 4, 5] 6 rfl rfl [(y, .inr (0, [.ref r2])), (r2, .inr (4, [.ref a2])), (a2, .inl (gI g, 16, .inl (rO (ch))))] rfl rfl (by decide) (by decide)
                          refine bv_ior hx hb dX2_addImplied_77 ?_
                          refine lv_istore_n (lv' := [(2, .int (b2i (((swT ch v f (swF ch v (swV ch (m, false) v) f) t).2) || (decide (((swT ch v f (swF ch v (swV ch (m, false) v) f) t).1) (f * 5 + t) ||| (imp ch (((swT ch v f (swF ch v (swV ch (m, false) v) f) t).1) (f * 5 + v)) (((swT ch v f (swF ch v (swV ch (m, false) v) f) t).1) (v * 5 + t))) ≠ ((swT ch v f (swF ch v (swV ch (m, false) v) f) t).1) (f * 5 + t)))))), (6, .int (nI (imp ch (((swT ch v f (swF ch v (swV ch (m, false) v) f) t).1) (f * 5 + v)) (((swT ch v f (swF ch v (swV ch (m, false) v) f) t).1) (v * 5 + t))))), (0, .ref x), (1, .ref y), (3, .int (nI v)), (4, .int (nI f)), (5, .int (nI t))]) hx hb dX2_addImplied_78 rfl hl (by decide) rfl (fun ls hl => ?_)
                          refine lv_iinc (v := nI (t + 1)) (lv' := [(5, .int (nI (t + 1))), (2, .int (b2i (((swT ch v f (swF ch v (swV ch (m, false) v) f) t).2) || (decide (((swT ch v f (swF ch v (swV ch (m, false) v) f) t).1) (f * 5 + t) ||| (imp ch (((swT ch v f (swF ch v (swV ch (m, false) v) f) t).1) (f * 5 + v)) (((swT ch v f (swF ch v (swV ch (m, false) v) f) t).1) (v * 5 + t))) ≠ ((swT ch v f (swF ch v (swV ch (m, false) v) f) t).1) (f * 5 + t)))))), (6, .int (nI (imp ch (((swT ch v f (swF ch v (swV ch (m, false) v) f) t).1) (f * 5 + v)) (((swT ch v f (swF ch v (swV ch (m, false) v) f) t).1) (v * 5 + t))))), (0, .ref x), (1, .ref y), (3, .int (nI v)), (4, .int (nI f))]) hx hb dX2_addImplied_79 hl (k := 6) rfl (by show nI _ + _ = _; rw [show Int32.ofInt 1 = nI 1 from by decide, nI_add]) (by decide) rfl (fun ls hl => ?_)
                          refine lv_goto (tgt := 21) hx hb dX2_addImplied_82 (by decide) ?_
                          have eq_11 : (((swT ch v f (swF ch v (swV ch (m, false) v) f) t).2) || (decide (((swT ch v f (swF ch v (swV ch (m, false) v) f) t).1) (f * 5 + t) ||| (imp ch (((swT ch v f (swF ch v (swV ch (m, false) v) f) t).1) (f * 5 + v)) (((swT ch v f (swF ch v (swV ch (m, false) v) f) t).1) (v * 5 + t))) ≠ ((swT ch v f (swF ch v (swV ch (m, false) v) f) t).1) (f * 5 + t)))) = ((swT ch v f (swF ch v (swV ch (m, false) v) f) (t + 1)).2) := by first | with_reducible rfl | (simp [swT, sw1, *]; done) | (show _ = (sw1 ch v f t (swT ch v f (swF ch v (swV ch (m, false) v) f) t)).1; rw [sw1, if_neg (by omega)]) | (show _ = (sw1 ch v f t (swT ch v f (swF ch v (swV ch (m, false) v) f) t)).2; rw [sw1, if_pos (by omega)])
                          have eq_12 : (va_up ((swT ch v f (swF ch v (swV ch (m, false) v) f) t).1) (f * 5 + t) (((swT ch v f (swF ch v (swV ch (m, false) v) f) t).1) (f * 5 + t) ||| (imp ch (((swT ch v f (swF ch v (swV ch (m, false) v) f) t).1) (f * 5 + v)) (((swT ch v f (swF ch v (swV ch (m, false) v) f) t).1) (v * 5 + t))))) = ((swT ch v f (swF ch v (swV ch (m, false) v) f) (t + 1)).1) := by first | with_reducible rfl | (simp [swT, sw1, *]; done) | (show _ = (sw1 ch v f t (swT ch v f (swF ch v (swV ch (m, false) v) f) t)).1; rw [sw1, if_neg (by omega)]) | (show _ = (sw1 ch v f t (swT ch v f (swF ch v (swV ch (m, false) v) f) t)).2; rw [sw1, if_pos (by omega)])
                          have hl : lv_has ls 7 [(5, .int (nI (t + 1))), (2, .int (b2i ((swT ch v f (swF ch v (swV ch (m, false) v) f) (t + 1)).2))), (6, .int (nI (imp ch (((swT ch v f (swF ch v (swV ch (m, false) v) f) t).1) (f * 5 + v)) (((swT ch v f (swF ch v (swV ch (m, false) v) f) t).1) (v * 5 + t))))), (0, .ref x), (1, .ref y), (3, .int (nI v)), (4, .int (nI f))] := by ((try rw [← eq_11]); (try rw [← eq_12]); exact hl)
                          have hP : va_P g.1 vwCl [(x, .inr (2, [.ref r])), (r, .inr (4, [.ref a])), (a, .inl (gI g, 25, .inl (rM ((swT ch v f (swF ch v (swV ch (m, false) v) f) (t + 1)).1)))), (y, .inr (0, [.ref r2])), (r2, .inr (4, [.ref a2])), (a2, .inl (gI g, 16, .inl (rO (ch))))] H := by ((try rw [← eq_11]); (try rw [← eq_12]); exact hP)
                          have hD : va_D A [(x, .inr (2, [.ref r])), (r, .inr (4, [.ref a])), (a, .inl (gI g, 25, .inl (rM ((swT ch v f (swF ch v (swV ch (m, false) v) f) (t + 1)).1)))), (y, .inr (0, [.ref r2])), (r2, .inr (4, [.ref a2])), (a2, .inl (gI g, 16, .inl (rO (ch))))] := by ((try rw [← eq_11]); (try rw [← eq_12]); exact hD)
                          exact lt_ih (t + 1) (by omega)  (by omega) _ _ hP hD hS ls (lv_sub hl [1, 3, 4, 5, 6, 0] rfl)
              have eq_13 : ((swF ch v (swV ch (m, false) v) f).2) = ((swT ch v f (swF ch v (swV ch (m, false) v) f) 0).2) := by rfl
              have eq_14 : ((swF ch v (swV ch (m, false) v) f).1) = ((swT ch v f (swF ch v (swV ch (m, false) v) f) 0).1) := by rfl
              have hl : lv_has ls 7 [(5, .int (nI 0)), (2, .int (b2i ((swT ch v f (swF ch v (swV ch (m, false) v) f) 0).2))), (0, .ref x), (1, .ref y), (3, .int (nI v)), (4, .int (nI f))] := by ((try rw [← eq_13]); (try rw [← eq_14]); exact hl)
              have hP : va_P g.1 vwCl [(x, .inr (2, [.ref r])), (r, .inr (4, [.ref a])), (a, .inl (gI g, 25, .inl (rM ((swT ch v f (swF ch v (swV ch (m, false) v) f) 0).1)))), (y, .inr (0, [.ref r2])), (r2, .inr (4, [.ref a2])), (a2, .inl (gI g, 16, .inl (rO (ch))))] H := by ((try rw [← eq_13]); (try rw [← eq_14]); exact hP)
              have hD : va_D A [(x, .inr (2, [.ref r])), (r, .inr (4, [.ref a])), (a, .inl (gI g, 25, .inl (rM ((swT ch v f (swF ch v (swV ch (m, false) v) f) 0).1)))), (y, .inr (0, [.ref r2])), (r2, .inr (4, [.ref a2])), (a2, .inl (gI g, 16, .inl (rO (ch))))] := by ((try rw [← eq_13]); (try rw [← eq_14]); exact hD)
              exact lt (5 + 1) 0 (Nat.zero_le _)  (by omega) _ _ hP hD hS ls (lv_sub hl [1, 2, 3, 4, 5, 0] rfl)
        have eq_15 : ((swV ch (m, false) v).2) = ((swF ch v (swV ch (m, false) v) 0).2) := by rfl
        have eq_16 : ((swV ch (m, false) v).1) = ((swF ch v (swV ch (m, false) v) 0).1) := by rfl
        have hl : lv_has ls 7 [(4, .int (nI 0)), (2, .int (b2i ((swF ch v (swV ch (m, false) v) 0).2))), (0, .ref x), (1, .ref y), (3, .int (nI v))] := by ((try rw [← eq_15]); (try rw [← eq_16]); exact hl)
        have hP : va_P g.1 vwCl [(x, .inr (2, [.ref r])), (r, .inr (4, [.ref a])), (a, .inl (gI g, 25, .inl (rM ((swF ch v (swV ch (m, false) v) 0).1)))), (y, .inr (0, [.ref r2])), (r2, .inr (4, [.ref a2])), (a2, .inl (gI g, 16, .inl (rO (ch))))] H := by ((try rw [← eq_15]); (try rw [← eq_16]); exact hP)
        have hD : va_D A [(x, .inr (2, [.ref r])), (r, .inr (4, [.ref a])), (a, .inl (gI g, 25, .inl (rM ((swF ch v (swV ch (m, false) v) 0).1)))), (y, .inr (0, [.ref r2])), (r2, .inr (4, [.ref a2])), (a2, .inl (gI g, 16, .inl (rO (ch))))] := by ((try rw [← eq_15]); (try rw [← eq_16]); exact hD)
        exact lf (5 + 1) 0 (Nat.zero_le _)  (by omega) _ _ hP hD hS ls (lv_sub hl [1, 2, 3, 4, 0] rfl)
  have eq_17 : (nI (0)) = (b2i ((swV ch (m, false) 0).2)) := by rfl
  have eq_18 : (m) = ((swV ch (m, false) 0).1) := by rfl
  have hl : lv_has ls 7 [(3, .int (nI 0)), (2, .int (b2i ((swV ch (m, false) 0).2))), (0, .ref x), (1, .ref y)] := by ((try rw [← eq_17]); (try rw [← eq_18]); exact hl)
  have hP : va_P g.1 vwCl [(x, .inr (2, [.ref r])), (r, .inr (4, [.ref a])), (a, .inl (gI g, 25, .inl (rM ((swV ch (m, false) 0).1)))), (y, .inr (0, [.ref r2])), (r2, .inr (4, [.ref a2])), (a2, .inl (gI g, 16, .inl (rO (ch))))] H := by ((try rw [← eq_17]); (try rw [← eq_18]); exact hP)
  have hD : va_D A [(x, .inr (2, [.ref r])), (r, .inr (4, [.ref a])), (a, .inl (gI g, 25, .inl (rM ((swV ch (m, false) 0).1)))), (y, .inr (0, [.ref r2])), (r2, .inr (4, [.ref a2])), (a2, .inl (gI g, 16, .inl (rO (ch))))] := by ((try rw [← eq_17]); (try rw [← eq_18]); exact hD)
  exact lv (5 + 1) 0 (Nat.zero_le _)  (by omega) _ _ hP hD hS ls (lv_sub hl [1, 2, 3, 0] rfl)

set_option maxRecDepth 100000 in
set_option maxHeartbeats 4000000 in
theorem c_X2_addAllImplied (l : Launch) (g : GG) (x r0 a y r2 a2 : Nat) (m : Nat → Nat) (ch : Nat → Option Nat) (hc : chOk ch) (hm : mOk m) : IMv l yX2_addAllImplied wsX2_addAllImplied 5 g [.ref x, .ref y] [(x, .inr (2, [.ref r0])), (r0, .inr (4, [.ref a])), (a, .inl (gI g, 25, .inl (rM (m)))), (y, .inr (0, [.ref r2])), (r2, .inr (4, [.ref a2])), (a2, .inl (gI g, 16, .inl (rO (ch))))] (fun w1 => w1 = [(x, .inr (2, [.ref r0])), (r0, .inr (4, [.ref a])), (a, .inl (gI g, 25, .inl (rM (clo ch m)))), (y, .inr (0, [.ref r2])), (r2, .inr (4, [.ref a2])), (a2, .inl (gI g, 16, .inl (rO (ch))))]) := by
  refine fun sz => im_body (Qc := fun A => va_Qv _ (iB g _) A) (cc := cX2_addAllImplied) (maxL := 4) (ret := none) (by decide) rfl (Nat.le_of_ble_eq_true rfl) ?_ sz
  intro pg ev s0 mi below meth cd A hx hb hr hml hts hown hlocks hK hA H hP hD hS ls hl
  have hl : lv_has ls 4 [(0, .ref x), (1, .ref y)] := hl
  refine lv_iconst (v := nI (1)) hx hb dX2_addAllImplied_0 (by decide) ?_
  refine lv_istore_n (lv' := [(2, .int (nI 1)), (0, .ref x), (1, .ref y)]) hx hb dX2_addAllImplied_1 rfl hl (by decide) rfl (fun ls hl => ?_)
  refine lv_iconst (v := nI (0)) hx hb dX2_addAllImplied_2 (by decide) ?_
  refine lv_istore_n (lv' := [(3, .int (nI 0)), (2, .int (nI 1)), (0, .ref x), (1, .ref y)]) hx hb dX2_addAllImplied_3 rfl hl (by decide) rfl (fun ls hl => ?_)
  have lp : ∀ (k9 : Nat) (rd : Nat) (hrd : rd ≤ 101) , 101 - rd < k9 → ∀ (H : Heap) (locs : List Loc), va_P g.1 vwCl [(x, .inr (2, [.ref r0])), (r0, .inr (4, [.ref a])), (a, .inl (gI g, 25, .inl (rM ((rnd ch m rd).1)))), (y, .inr (0, [.ref r2])), (r2, .inr (4, [.ref a2])), (a2, .inl (gI g, 16, .inl (rO (ch))))] H → va_D A [(x, .inr (2, [.ref r0])), (r0, .inr (4, [.ref a])), (a, .inl (gI g, 25, .inl (rM ((rnd ch m rd).1)))), (y, .inr (0, [.ref r2])), (r2, .inr (4, [.ref a2])), (a2, .inl (gI g, 16, .inl (rO (ch))))] → va_S A s0.heap H locs → ∀ ls : Array Slot, lv_has ls 4 [(2, .int (b2i ((rnd ch m rd).2))), (3, .int (nI rd)), (0, .ref x), (1, .ref y)] → W pg l ev (rmL 5) s0 mi ([.ref x, .ref y] : List Value).toArray below meth cd H locs 0 0 (MQ below (va_Qv (fun w1 => w1 = [(x, .inr (2, [.ref r0])), (r0, .inr (4, [.ref a])), (a, .inl (gI g, 25, .inl (rM (clo ch m)))), (y, .inr (0, [.ref r2])), (r2, .inr (4, [.ref a2])), (a2, .inl (gI g, 16, .inl (rO (ch))))]) (iB g [(x, .inr (2, [.ref r0])), (r0, .inr (4, [.ref a])), (a, .inl (gI g, 25, .inl (rM (m)))), (y, .inr (0, [.ref r2])), (r2, .inr (4, [.ref a2])), (a2, .inl (gI g, 16, .inl (rO (ch))))]) A) ([.ref x, .ref y] : List Value).toArray s0 0 0 A) (F0 mi 4 ls []) := by
    intro k9
    induction k9 with
    | zero => intros; omega
    | succ k9 lp_ih =>
      intro rd hrd hmz H locs hP hD hS ls hl
      refine lv_iload_n hx hb dX2_addAllImplied_4 rfl (lv_at hl 0 rfl) ?_
      refine bv_if_eq (tgt := 26) hx hb dX2_addAllImplied_5 (by decide) (fun c_1 => ?_) (fun c_1 => ?_)
      · skip
        exact im_retv (w1 := [(x, .inr (2, [.ref r0])), (r0, .inr (4, [.ref a])), (a, .inl (gI g, 25, .inl (rM ((rnd ch m rd).1)))), (y, .inr (0, [.ref r2])), (r2, .inr (4, [.ref a2])), (a2, .inl (gI g, 16, .inl (rO (ch))))]) hx hb hr hlocks hP hS rfl (by first | rw [clo_stop (by assumption) (by assumption)] | rw [clo_last (by assumption) (by assumption)]) dX2_addAllImplied_26
      · skip
        refine lv_iload_n hx hb dX2_addAllImplied_8 rfl (lv_at hl 1 rfl) ?_
        refine lv_bipush (v := nI (100)) hx hb dX2_addAllImplied_9 (by decide) ?_
        refine nv_icmp_gt (tgt := 26) hx hb (by omega) (by omega) dX2_addAllImplied_11 (by decide) (fun c_2 => ?_) (fun c_2 => ?_)
        · skip
          exact im_retv (w1 := [(x, .inr (2, [.ref r0])), (r0, .inr (4, [.ref a])), (a, .inl (gI g, 25, .inl (rM ((rnd ch m rd).1)))), (y, .inr (0, [.ref r2])), (r2, .inr (4, [.ref a2])), (a2, .inl (gI g, 16, .inl (rO (ch))))]) hx hb hr hlocks hP hS rfl (by first | rw [clo_stop (by assumption) (by assumption)] | rw [clo_last (by assumption) (by assumption)]) dX2_addAllImplied_26
        · skip
          refine lv_aload_n hx hb dX2_addAllImplied_14 rfl (lv_at hl 2 rfl) ?_
          refine lv_aload_n hx hb dX2_addAllImplied_15 rfl (lv_at hl 3 rfl) ?_
          refine im_V (k := 1) hx hb hml hown hts (c_X2_addImplied l g x r0 a y r2 a2 ((rnd ch m rd).1) (ch) hc (rnd_ok hc hm _)) gX2_addAllImplied_X2_addImplied rfl (by decide +kernel) ⟨Nat.le_of_ble_eq_true rfl, Nat.le_of_ble_eq_true rfl⟩ ⟨Nat.zero_le _, Nat.zero_le _⟩ hK hP hD hS hA [0, 1, 2, 3, 4, 5] rfl (by decide) 0 2 rfl rfl rfl hl.1 (rest := []) (As := [.ref y]) rfl (Nat.le_of_ble_eq_true rfl) dX2_addAllImplied_16 (fun x1 w1 H locs hpo hpd hS => ?_)
          obtain ⟨hx1, rfl⟩ := hpo
          have hx1 : x1 = b2i ((swV ch ((rnd ch m rd).1, false) 5).2) := hx1
          subst hx1
          obtain ⟨hP, hD⟩ := hpd [(x, .inr (2, [.ref r0])), (r0, .inr (4, [.ref a])), (a, .inl (gI g, 25, .inl (rM ((swV ch ((rnd ch m rd).1, false) 5).1)))), (y, .inr (0, [.ref r2])), (r2, .inr (4, [.ref a2])), (a2, .inl (gI g, 16, .inl (rO (ch))))] [] 6 rfl rfl [] rfl rfl (by decide) (by decide)
          refine lv_istore_n (lv' := [(2, .int (b2i ((swV ch ((rnd ch m rd).1, false) 5).2))), (3, .int (nI rd)), (0, .ref x), (1, .ref y)]) hx hb dX2_addAllImplied_19 rfl hl (by decide) rfl (fun ls hl => ?_)
          refine lv_iinc (v := nI (rd + 1)) (lv' := [(3, .int (nI (rd + 1))), (2, .int (b2i ((swV ch ((rnd ch m rd).1, false) 5).2))), (0, .ref x), (1, .ref y)]) hx hb dX2_addAllImplied_20 hl (k := 1) rfl (by show nI _ + _ = _; rw [show Int32.ofInt 1 = nI 1 from by decide, nI_add]) (by decide) rfl (fun ls hl => ?_)
          refine lv_goto (tgt := 4) hx hb dX2_addAllImplied_23 (by decide) ?_
          have eq_1 : ((swV ch ((rnd ch m rd).1, false) 5).2) = ((rnd ch m (rd + 1)).2) := by rw [rnd_go (by assumption)]
          have eq_2 : ((swV ch ((rnd ch m rd).1, false) 5).1) = ((rnd ch m (rd + 1)).1) := by rw [rnd_go (by assumption)]
          have hl : lv_has ls 4 [(3, .int (nI (rd + 1))), (2, .int (b2i ((rnd ch m (rd + 1)).2))), (0, .ref x), (1, .ref y)] := by ((try rw [← eq_1]); (try rw [← eq_2]); exact hl)
          have hP : va_P g.1 vwCl [(x, .inr (2, [.ref r0])), (r0, .inr (4, [.ref a])), (a, .inl (gI g, 25, .inl (rM ((rnd ch m (rd + 1)).1)))), (y, .inr (0, [.ref r2])), (r2, .inr (4, [.ref a2])), (a2, .inl (gI g, 16, .inl (rO (ch))))] H := by ((try rw [← eq_1]); (try rw [← eq_2]); exact hP)
          have hD : va_D A [(x, .inr (2, [.ref r0])), (r0, .inr (4, [.ref a])), (a, .inl (gI g, 25, .inl (rM ((rnd ch m (rd + 1)).1)))), (y, .inr (0, [.ref r2])), (r2, .inr (4, [.ref a2])), (a2, .inl (gI g, 16, .inl (rO (ch))))] := by ((try rw [← eq_1]); (try rw [← eq_2]); exact hD)
          exact lp_ih (rd + 1) (by omega)  (by omega) _ _ hP hD hS ls (lv_sub hl [1, 0, 2, 3] rfl)
  have eq_3 : (nI (1)) = (b2i ((rnd ch m 0).2)) := by rfl
  have eq_4 : (m) = ((rnd ch m 0).1) := by rfl
  have hl : lv_has ls 4 [(3, .int (nI 0)), (2, .int (b2i ((rnd ch m 0).2))), (0, .ref x), (1, .ref y)] := by ((try rw [← eq_3]); (try rw [← eq_4]); exact hl)
  have hP : va_P g.1 vwCl [(x, .inr (2, [.ref r0])), (r0, .inr (4, [.ref a])), (a, .inl (gI g, 25, .inl (rM ((rnd ch m 0).1)))), (y, .inr (0, [.ref r2])), (r2, .inr (4, [.ref a2])), (a2, .inl (gI g, 16, .inl (rO (ch))))] H := by ((try rw [← eq_3]); (try rw [← eq_4]); exact hP)
  have hD : va_D A [(x, .inr (2, [.ref r0])), (r0, .inr (4, [.ref a])), (a, .inl (gI g, 25, .inl (rM ((rnd ch m 0).1)))), (y, .inr (0, [.ref r2])), (r2, .inr (4, [.ref a2])), (a2, .inl (gI g, 16, .inl (rO (ch))))] := by ((try rw [← eq_3]); (try rw [← eq_4]); exact hD)
  exact lp (101 + 1) 0 (Nat.zero_le _)  (by omega) _ _ hP hD hS ls (lv_sub hl [1, 0, 2, 3] rfl)

set_option maxRecDepth 100000 in
set_option maxHeartbeats 4000000 in
theorem c_X6_pointsFor (l : Launch) (g : GG) (w h d b : Nat) (hw : w < 16) (hh : h < 16) (hd : d < 16) (hb9 : b < 16) : IM l yX6_pointsFor wsX6_pointsFor 2 g [.int (nI w), .int (nI h), .int (nI d), .int (nI b)] [] (fun x1 w1 => x1 = nI (pf w h d b) ∧ w1 = []) := by
  refine fun sz => im_body (Qc := fun A => va_Qi _ (iB g _) A) (cc := cX6_pointsFor) (maxL := 6) (ret := (some .int)) (by decide) rfl (Nat.le_of_ble_eq_true rfl) ?_ sz
  intro pg ev s0 mi below meth cd A hx hb hr hml hts hown hlocks hK hA H hP hD hS ls hl
  have hl : lv_has ls 6 [(0, .int (nI w)), (1, .int (nI h)), (2, .int (nI d)), (3, .int (nI b))] := hl
  refine lv_iload_n hx hb dX6_pointsFor_0 rfl (lv_at hl 0 rfl) ?_
  refine lv_iload_n hx hb dX6_pointsFor_1 rfl (lv_at hl 1 rfl) ?_
  refine lv_iconst (v := -1) hx hb dX6_pointsFor_2 (by decide) ?_
  refine lv_ixor hx hb dX6_pointsFor_3 ?_
  refine nv_andn hx hb hw hh dX6_pointsFor_4 ?_
  refine lv_istore (lv' := [(4, .int (nI (w &&& (15 ^^^ h)))), (0, .int (nI w)), (1, .int (nI h)), (2, .int (nI d)), (3, .int (nI b))]) hx hb dX6_pointsFor_5 hl (by decide) rfl (fun ls hl => ?_)
  refine lv_iconst (v := nI (4)) hx hb dX6_pointsFor_7 (by decide) ?_
  refine lv_iload_n hx hb dX6_pointsFor_8 rfl (lv_at hl 1 rfl) ?_
  refine lv_iload_n hx hb dX6_pointsFor_9 rfl (lv_at hl 2 rfl) ?_
  refine nv_iand hx hb dX6_pointsFor_10 ?_
  refine im_S (k := 1) hx hb hml hown hts (c_J6_bitCount_0f7a4 l g (w &&& h) (and16 hw)) gX6_pointsFor_J6_bitCount_0f7a4 rfl (by decide +kernel) ⟨Nat.le_of_ble_eq_true rfl, Nat.le_of_ble_eq_true rfl⟩ ⟨Nat.zero_le _, Nat.zero_le _⟩ hK hP hD hS hA [] rfl (by decide) rfl hl.1 (rest := [.int (nI 4)]) (As := [.int (nI (w &&& h))]) rfl (Nat.le_of_ble_eq_true rfl) dX6_pointsFor_11 (fun x1 w1 H locs hpo hpd hS => ?_)
  obtain ⟨hx1, rfl⟩ := hpo
  have hx1 : x1 = nI (pc4 (w &&& h)) := hx1
  subst hx1
  obtain ⟨hP, hD⟩ := hpd [] [] 0 rfl rfl [] rfl rfl (by decide) (by decide)
  refine nv_imul hx hb dX6_pointsFor_14 ?_
  refine lv_istore (lv' := [(5, .int (nI (4 * (pc4 (w &&& h))))), (4, .int (nI (w &&& (15 ^^^ h)))), (0, .int (nI w)), (1, .int (nI h)), (2, .int (nI d)), (3, .int (nI b))]) hx hb dX6_pointsFor_15 hl (by decide) rfl (fun ls hl => ?_)
  refine lv_iload_n hx hb dX6_pointsFor_17 rfl (lv_at hl 4 rfl) ?_
  refine nv_if_eq (tgt := 32) hx hb (by omega) dX6_pointsFor_18 (by decide) (fun c_1 => ?_) (fun c_1 => ?_)
  · skip
    refine lv_iload hx hb dX6_pointsFor_32 (lv_at hl 0 rfl) ?_
    refine lv_iconst (v := nI (1)) hx hb dX6_pointsFor_34 (by decide) ?_
    refine lv_iload hx hb dX6_pointsFor_35 (lv_at hl 1 rfl) ?_
    refine lv_iload_n hx hb dX6_pointsFor_37 rfl (lv_at hl 5 rfl) ?_
    refine nv_iand hx hb dX6_pointsFor_38 ?_
    refine im_S (k := 1) hx hb hml hown hts (c_J6_bitCount_0f7a4 l g ((w &&& (15 ^^^ h)) &&& b) (and16 (and16 hw))) gX6_pointsFor_J6_bitCount_0f7a4 rfl (by decide +kernel) ⟨Nat.le_of_ble_eq_true rfl, Nat.le_of_ble_eq_true rfl⟩ ⟨Nat.zero_le _, Nat.zero_le _⟩ hK hP hD hS hA [] rfl (by decide) rfl hl.1 (rest := [.int (nI 1), .int (nI (4 * (pc4 (w &&& h))))]) (As := [.int (nI ((w &&& (15 ^^^ h)) &&& b))]) rfl (Nat.le_of_ble_eq_true rfl) dX6_pointsFor_39 (fun x1 w1 H locs hpo hpd hS => ?_)
    obtain ⟨hx1, rfl⟩ := hpo
    have hx1 : x1 = nI (pc4 ((w &&& (15 ^^^ h)) &&& b)) := hx1
    subst hx1
    obtain ⟨hP, hD⟩ := hpd [] [] 0 rfl rfl [] rfl rfl (by decide) (by decide)
    refine nv_imul hx hb dX6_pointsFor_42 ?_
    refine nv_iadd hx hb dX6_pointsFor_43 ?_
    exact im_ret (w1 := []) (v := nI ((4 * (pc4 (w &&& h))) + (1 * (pc4 ((w &&& (15 ^^^ h)) &&& b))))) hx hb hr hlocks hP hS rfl ⟨by rw [pf, if_pos c_1], rfl⟩ dX6_pointsFor_44
  · skip
    refine lv_iload hx hb dX6_pointsFor_21 (lv_at hl 0 rfl) ?_
    refine lv_iconst (v := nI (2)) hx hb dX6_pointsFor_23 (by decide) ?_
    refine lv_iload hx hb dX6_pointsFor_24 (lv_at hl 1 rfl) ?_
    refine im_S (k := 1) hx hb hml hown hts (c_J6_bitCount_0f7a4 l g (w &&& (15 ^^^ h)) (and16 hw)) gX6_pointsFor_J6_bitCount_0f7a4 rfl (by decide +kernel) ⟨Nat.le_of_ble_eq_true rfl, Nat.le_of_ble_eq_true rfl⟩ ⟨Nat.zero_le _, Nat.zero_le _⟩ hK hP hD hS hA [] rfl (by decide) rfl hl.1 (rest := [.int (nI 2), .int (nI (4 * (pc4 (w &&& h))))]) (As := [.int (nI (w &&& (15 ^^^ h)))]) rfl (Nat.le_of_ble_eq_true rfl) dX6_pointsFor_26 (fun x1 w1 H locs hpo hpd hS => ?_)
    obtain ⟨hx1, rfl⟩ := hpo
    have hx1 : x1 = nI (pc4 (w &&& (15 ^^^ h))) := hx1
    subst hx1
    obtain ⟨hP, hD⟩ := hpd [] [] 0 rfl rfl [] rfl rfl (by decide) (by decide)
    refine nv_imul hx hb dX6_pointsFor_29 ?_
    refine nv_iadd hx hb dX6_pointsFor_30 ?_
    exact im_ret (w1 := []) (v := nI ((4 * (pc4 (w &&& h))) + (2 * (pc4 (w &&& (15 ^^^ h)))))) hx hb hr hlocks hP hS rfl ⟨by rw [pf, if_neg c_1], rfl⟩ dX6_pointsFor_31

set_option maxRecDepth 100000 in
set_option maxHeartbeats 4000000 in
theorem c_X3_place (l : Launch) (g : GG) (e1 l1 o1 p1 : Nat) : IM l yX3_place wsX3_place 1 g [.int (nI e1), .int (nI l1), .int (nI o1), .int (nI p1)] [] (fun x1 w1 => x1 = nI ((e1 * 5 + l1) * 25 + o1 * 5 + p1) ∧ w1 = []) := by
  refine fun sz => im_body (Qc := fun A => va_Qi _ (iB g _) A) (cc := cX3_place) (maxL := 4) (ret := (some .int)) (by decide) rfl (Nat.le_of_ble_eq_true rfl) ?_ sz
  intro pg ev s0 mi below meth cd A hx hb hr hml hts hown hlocks hK hA H hP hD hS ls hl
  have hl : lv_has ls 4 [(0, .int (nI e1)), (1, .int (nI l1)), (2, .int (nI o1)), (3, .int (nI p1))] := hl
  refine lv_iload_n hx hb dX3_place_0 rfl (lv_at hl 0 rfl) ?_
  refine lv_iconst (v := nI (5)) hx hb dX3_place_1 (by decide) ?_
  refine nv_imul hx hb dX3_place_2 ?_
  refine lv_iload_n hx hb dX3_place_3 rfl (lv_at hl 1 rfl) ?_
  refine nv_iadd hx hb dX3_place_4 ?_
  refine lv_bipush (v := nI (25)) hx hb dX3_place_5 (by decide) ?_
  refine nv_imul hx hb dX3_place_7 ?_
  refine lv_iload_n hx hb dX3_place_8 rfl (lv_at hl 2 rfl) ?_
  refine lv_iconst (v := nI (5)) hx hb dX3_place_9 (by decide) ?_
  refine nv_imul hx hb dX3_place_10 ?_
  refine nv_iadd hx hb dX3_place_11 ?_
  refine lv_iload_n hx hb dX3_place_12 rfl (lv_at hl 3 rfl) ?_
  refine nv_iadd hx hb dX3_place_13 ?_
  exact im_ret (w1 := []) (v := nI (((((e1 * 5) + l1) * 25) + (o1 * 5)) + p1)) hx hb hr hlocks hP hS rfl ⟨rfl, rfl⟩ dX3_place_14

set_option maxRecDepth 100000 in
set_option maxHeartbeats 4000000 in
theorem c_X5_alike (l : Launch) (g : GG) (x r a : Nat) (gr : Nat → Nat) (o1 o2 : Nat) (hg : grOk gr) (h1 : o1 < 32) (h2 : o2 < 32) : IM l yX5_alike wsX5_alike 2 g [.ref x, .int (nI o1), .int (nI o2)] [(x, .inr (5, [.ref r])), (r, .inr (4, [.ref a])), (a, .inl (gI g, 32, .inl (rM (gr))))] (fun x1 w1 => x1 = b2i (decide (gr o1 = gr o2)) ∧ w1 = [(x, .inr (5, [.ref r])), (r, .inr (4, [.ref a])), (a, .inl (gI g, 32, .inl (rM (gr))))]) := by
  refine fun sz => im_body (Qc := fun A => va_Qi _ (iB g _) A) (cc := cX5_alike) (maxL := 3) (ret := (some .boolean)) (by decide) rfl (Nat.le_of_ble_eq_true rfl) ?_ sz
  intro pg ev s0 mi below meth cd A hx hb hr hml hts hown hlocks hK hA H hP hD hS ls hl
  have hl : lv_has ls 3 [(0, .ref x), (1, .int (nI o1)), (2, .int (nI o2))] := hl
  refine lv_aload_n hx hb dX5_alike_0 rfl (lv_at hl 0 rfl) ?_
  refine va_get (D := g.1) (ci := 5) (v := .ref r) (C := RX5) (T := TX5) (N := 1) hx hb hts (fun _ h => (List.mem_cons_of_mem _ (List.mem_append_left _ (List.mem_append_right _ h)))) hown hK.1 hP 0 rfl rfl 0 (by decide) (hts _ (List.mem_cons_of_mem _ (List.mem_append_left _ (List.mem_append_left _ (List.mem_of_getElem? (i := 0) rfl))))) (fun _ h9 => h9) rfl dX5_alike_1 ?_
  refine lv_iload_n hx hb dX5_alike_4 rfl (lv_at hl 1 rfl) ?_
  refine im_V (k := 1) hx hb hml hown hts (c_X4_get l g r a 32 (rM (gr)) o1 (by omega) (by decide)) gX5_alike_X4_get rfl (by decide +kernel) ⟨Nat.le_of_ble_eq_true rfl, Nat.le_of_ble_eq_true rfl⟩ ⟨Nat.zero_le _, Nat.zero_le _⟩ hK hP hD hS hA [1, 2] rfl (by decide) 1 4 rfl rfl rfl hl.1 (rest := []) (As := [.int (nI o1)]) rfl (Nat.le_of_ble_eq_true rfl) dX5_alike_5 (fun x1 w1 H locs hpo hpd hS => ?_)
  obtain ⟨hx1, rfl⟩ := hpo
  have hx1 : x1 = nI (gr o1) := hx1
  subst hx1
  obtain ⟨hP, hD⟩ := hpd [(x, .inr (5, [.ref r])), (r, .inr (4, [.ref a])), (a, .inl (gI g, 32, .inl (rM (gr))))] [0] 3 rfl rfl [(x, .inr (5, [.ref r]))] rfl rfl (by decide) (by decide)
  refine lv_aload_n hx hb dX5_alike_8 rfl (lv_at hl 0 rfl) ?_
  refine va_get (D := g.1) (ci := 5) (v := .ref r) (C := RX5) (T := TX5) (N := 1) hx hb hts (fun _ h => (List.mem_cons_of_mem _ (List.mem_append_left _ (List.mem_append_right _ h)))) hown hK.1 hP 0 rfl rfl 0 (by decide) (hts _ (List.mem_cons_of_mem _ (List.mem_append_left _ (List.mem_append_left _ (List.mem_of_getElem? (i := 0) rfl))))) (fun _ h9 => h9) rfl dX5_alike_9 ?_
  refine lv_iload_n hx hb dX5_alike_12 rfl (lv_at hl 2 rfl) ?_
  refine im_V (k := 1) hx hb hml hown hts (c_X4_get l g r a 32 (rM (gr)) o2 (by omega) (by decide)) gX5_alike_X4_get rfl (by decide +kernel) ⟨Nat.le_of_ble_eq_true rfl, Nat.le_of_ble_eq_true rfl⟩ ⟨Nat.zero_le _, Nat.zero_le _⟩ hK hP hD hS hA [1, 2] rfl (by decide) 1 4 rfl rfl rfl hl.1 (rest := [.int (nI (gr o1))]) (As := [.int (nI o2)]) rfl (Nat.le_of_ble_eq_true rfl) dX5_alike_13 (fun x1 w1 H locs hpo hpd hS => ?_)
  obtain ⟨hx1, rfl⟩ := hpo
  have hx1 : x1 = nI (gr o2) := hx1
  subst hx1
  obtain ⟨hP, hD⟩ := hpd [(x, .inr (5, [.ref r])), (r, .inr (4, [.ref a])), (a, .inl (gI g, 32, .inl (rM (gr))))] [0] 3 rfl rfl [(x, .inr (5, [.ref r]))] rfl rfl (by decide) (by decide)
  refine nv_icmp_ne (tgt := 23) hx hb (by have := hg o1; omega) (by have := hg o2; omega) dX5_alike_16 (by decide) (fun c_1 => ?_) (fun c_1 => ?_)
  · skip
    refine lv_iconst (v := nI (0)) hx hb dX5_alike_23 (by decide) ?_
    exact im_retz (w1 := [(x, .inr (5, [.ref r])), (r, .inr (4, [.ref a])), (a, .inl (gI g, 32, .inl (rM (gr))))]) (v := nI (0)) hx hb hr hlocks hP hS rfl ⟨by rw [decide_eq_false c_1]; rfl, rfl⟩ (by first | exact b2i_nar _ | rfl) dX5_alike_24
  · skip
    refine lv_iconst (v := nI (1)) hx hb dX5_alike_19 (by decide) ?_
    refine lv_goto (tgt := 24) hx hb dX5_alike_20 (by decide) ?_
    exact im_retz (w1 := [(x, .inr (5, [.ref r])), (r, .inr (4, [.ref a])), (a, .inl (gI g, 32, .inl (rM (gr))))]) (v := nI (1)) hx hb hr hlocks hP hS rfl ⟨by rw [decide_eq_true c_1]; rfl, rfl⟩ (by first | exact b2i_nar _ | rfl) dX5_alike_24

set_option maxRecDepth 100000 in
set_option maxHeartbeats 4000000 in
theorem c_X5_join (l : Launch) (g : GG) (x r a : Nat) (gr : Nat → Nat) (o1 o2 : Nat) (hg : grOk gr) (h1 : o1 < 32) (h2 : o2 < 32) : IMv l yX5_join wsX5_join 2 g [.ref x, .int (nI o1), .int (nI o2)] [(x, .inr (5, [.ref r])), (r, .inr (4, [.ref a])), (a, .inl (gI g, 32, .inl (rM (gr))))] (fun w1 => w1 = [(x, .inr (5, [.ref r])), (r, .inr (4, [.ref a])), (a, .inl (gI g, 32, .inl (rM (jn gr (gr o1) (gr o2) 32))))]) := by
  refine fun sz => im_body (Qc := fun A => va_Qv _ (iB g _) A) (cc := cX5_join) (maxL := 6) (ret := none) (by decide) rfl (Nat.le_of_ble_eq_true rfl) ?_ sz
  intro pg ev s0 mi below meth cd A hx hb hr hml hts hown hlocks hK hA H hP hD hS ls hl
  have hl : lv_has ls 6 [(0, .ref x), (1, .int (nI o1)), (2, .int (nI o2))] := hl
  refine lv_aload_n hx hb dX5_join_0 rfl (lv_at hl 0 rfl) ?_
  refine va_get (D := g.1) (ci := 5) (v := .ref r) (C := RX5) (T := TX5) (N := 1) hx hb hts (fun _ h => (List.mem_cons_of_mem _ (List.mem_append_left _ (List.mem_append_right _ h)))) hown hK.1 hP 0 rfl rfl 0 (by decide) (hts _ (List.mem_cons_of_mem _ (List.mem_append_left _ (List.mem_append_left _ (List.mem_of_getElem? (i := 0) rfl))))) (fun _ h9 => h9) rfl dX5_join_1 ?_
  refine lv_iload_n hx hb dX5_join_4 rfl (lv_at hl 1 rfl) ?_
  refine im_V (k := 1) hx hb hml hown hts (c_X4_get l g r a 32 (rM (gr)) o1 (by omega) (by decide)) gX5_join_X4_get rfl (by decide +kernel) ⟨Nat.le_of_ble_eq_true rfl, Nat.le_of_ble_eq_true rfl⟩ ⟨Nat.zero_le _, Nat.zero_le _⟩ hK hP hD hS hA [1, 2] rfl (by decide) 1 4 rfl rfl rfl hl.1 (rest := []) (As := [.int (nI o1)]) rfl (Nat.le_of_ble_eq_true rfl) dX5_join_5 (fun x1 w1 H locs hpo hpd hS => ?_)
  obtain ⟨hx1, rfl⟩ := hpo
  have hx1 : x1 = nI (gr o1) := hx1
  subst hx1
  obtain ⟨hP, hD⟩ := hpd [(x, .inr (5, [.ref r])), (r, .inr (4, [.ref a])), (a, .inl (gI g, 32, .inl (rM (gr))))] [0] 3 rfl rfl [(x, .inr (5, [.ref r]))] rfl rfl (by decide) (by decide)
  refine lv_istore_n (lv' := [(3, .int (nI (gr o1))), (0, .ref x), (1, .int (nI o1)), (2, .int (nI o2))]) hx hb dX5_join_8 rfl hl (by decide) rfl (fun ls hl => ?_)
  refine lv_aload_n hx hb dX5_join_9 rfl (lv_at hl 1 rfl) ?_
  refine va_get (D := g.1) (ci := 5) (v := .ref r) (C := RX5) (T := TX5) (N := 1) hx hb hts (fun _ h => (List.mem_cons_of_mem _ (List.mem_append_left _ (List.mem_append_right _ h)))) hown hK.1 hP 0 rfl rfl 0 (by decide) (hts _ (List.mem_cons_of_mem _ (List.mem_append_left _ (List.mem_append_left _ (List.mem_of_getElem? (i := 0) rfl))))) (fun _ h9 => h9) rfl dX5_join_10 ?_
  refine lv_iload_n hx hb dX5_join_13 rfl (lv_at hl 3 rfl) ?_
  refine im_V (k := 1) hx hb hml hown hts (c_X4_get l g r a 32 (rM (gr)) o2 (by omega) (by decide)) gX5_join_X4_get rfl (by decide +kernel) ⟨Nat.le_of_ble_eq_true rfl, Nat.le_of_ble_eq_true rfl⟩ ⟨Nat.zero_le _, Nat.zero_le _⟩ hK hP hD hS hA [1, 2] rfl (by decide) 1 4 rfl rfl rfl hl.1 (rest := []) (As := [.int (nI o2)]) rfl (Nat.le_of_ble_eq_true rfl) dX5_join_14 (fun x1 w1 H locs hpo hpd hS => ?_)
  obtain ⟨hx1, rfl⟩ := hpo
  have hx1 : x1 = nI (gr o2) := hx1
  subst hx1
  obtain ⟨hP, hD⟩ := hpd [(x, .inr (5, [.ref r])), (r, .inr (4, [.ref a])), (a, .inl (gI g, 32, .inl (rM (gr))))] [0] 3 rfl rfl [(x, .inr (5, [.ref r]))] rfl rfl (by decide) (by decide)
  refine lv_istore (lv' := [(4, .int (nI (gr o2))), (3, .int (nI (gr o1))), (0, .ref x), (1, .int (nI o1)), (2, .int (nI o2))]) hx hb dX5_join_17 hl (by decide) rfl (fun ls hl => ?_)
  refine lv_iconst (v := nI (0)) hx hb dX5_join_19 (by decide) ?_
  refine lv_istore (lv' := [(5, .int (nI 0)), (4, .int (nI (gr o2))), (3, .int (nI (gr o1))), (0, .ref x), (1, .int (nI o1)), (2, .int (nI o2))]) hx hb dX5_join_20 hl (by decide) rfl (fun ls hl => ?_)
  have lp : ∀ (k9 : Nat) (i : Nat) (hi : i ≤ 32) , 32 - i < k9 → ∀ (H : Heap) (locs : List Loc), va_P g.1 vwCl [(x, .inr (5, [.ref r])), (r, .inr (4, [.ref a])), (a, .inl (gI g, 32, .inl (rM (jn gr (gr o1) (gr o2) i))))] H → va_D A [(x, .inr (5, [.ref r])), (r, .inr (4, [.ref a])), (a, .inl (gI g, 32, .inl (rM (jn gr (gr o1) (gr o2) i))))] → va_S A s0.heap H locs → ∀ ls : Array Slot, lv_has ls 6 [(5, .int (nI i)), (0, .ref x), (3, .int (nI (gr o1))), (4, .int (nI (gr o2)))] → W pg l ev (rmL 2) s0 mi ([.ref x, .int (nI o1), .int (nI o2)] : List Value).toArray below meth cd H locs 0 0 (MQ below (va_Qv (fun w1 => w1 = [(x, .inr (5, [.ref r])), (r, .inr (4, [.ref a])), (a, .inl (gI g, 32, .inl (rM (jn gr (gr o1) (gr o2) 32))))]) (iB g [(x, .inr (5, [.ref r])), (r, .inr (4, [.ref a])), (a, .inl (gI g, 32, .inl (rM (gr))))]) A) ([.ref x, .int (nI o1), .int (nI o2)] : List Value).toArray s0 0 0 A) (F0 mi 22 ls []) := by
    intro k9
    induction k9 with
    | zero => intros; omega
    | succ k9 lp_ih =>
      intro i hi hmz H locs hP hD hS ls hl
      refine lv_iload hx hb dX5_join_22 (lv_at hl 0 rfl) ?_
      refine lv_bipush (v := nI (32)) hx hb dX5_join_24 (by decide) ?_
      refine nv_icmp_ge (tgt := 59) hx hb (by omega) (by omega) dX5_join_26 (by decide) (fun c_1 => ?_) (fun c_1 => ?_)
      · skip
        have ei : i = 32 := by omega
        subst ei
        exact im_retv (w1 := [(x, .inr (5, [.ref r])), (r, .inr (4, [.ref a])), (a, .inl (gI g, 32, .inl (rM (jn gr (gr o1) (gr o2) 32))))]) hx hb hr hlocks hP hS rfl rfl dX5_join_59
      · skip
        refine lv_aload_n hx hb dX5_join_29 rfl (lv_at hl 1 rfl) ?_
        refine va_get (D := g.1) (ci := 5) (v := .ref r) (C := RX5) (T := TX5) (N := 1) hx hb hts (fun _ h => (List.mem_cons_of_mem _ (List.mem_append_left _ (List.mem_append_right _ h)))) hown hK.1 hP 0 rfl rfl 0 (by decide) (hts _ (List.mem_cons_of_mem _ (List.mem_append_left _ (List.mem_append_left _ (List.mem_of_getElem? (i := 0) rfl))))) (fun _ h9 => h9) rfl dX5_join_30 ?_
        refine lv_iload hx hb dX5_join_33 (lv_at hl 0 rfl) ?_
        refine im_V (k := 1) hx hb hml hown hts (c_X4_get l g r a 32 (rM (jn gr (gr o1) (gr o2) i)) i (by omega) (by decide)) gX5_join_X4_get rfl (by decide +kernel) ⟨Nat.le_of_ble_eq_true rfl, Nat.le_of_ble_eq_true rfl⟩ ⟨Nat.zero_le _, Nat.zero_le _⟩ hK hP hD hS hA [1, 2] rfl (by decide) 1 4 rfl rfl rfl hl.1 (rest := []) (As := [.int (nI i)]) rfl (Nat.le_of_ble_eq_true rfl) dX5_join_35 (fun x1 w1 H locs hpo hpd hS => ?_)
        obtain ⟨hx1, rfl⟩ := hpo
        have hx1 : x1 = nI ((jn gr (gr o1) (gr o2) i) i) := hx1
        subst hx1
        obtain ⟨hP, hD⟩ := hpd [(x, .inr (5, [.ref r])), (r, .inr (4, [.ref a])), (a, .inl (gI g, 32, .inl (rM (jn gr (gr o1) (gr o2) i))))] [0] 3 rfl rfl [(x, .inr (5, [.ref r]))] rfl rfl (by decide) (by decide)
        refine lv_iload hx hb dX5_join_38 (lv_at hl 3 rfl) ?_
        refine nv_icmp_ne (tgt := 53) hx hb (by have := jn_ok (gr := gr) (left := gr o2) (i := i) hg (hg o1) i; omega) (by have := hg o2; omega) dX5_join_40 (by decide) (fun c_2 => ?_) (fun c_2 => ?_)
        · skip
          refine lv_iinc (v := nI (i + 1)) (lv' := [(5, .int (nI (i + 1))), (0, .ref x), (3, .int (nI (gr o1))), (4, .int (nI (gr o2)))]) hx hb dX5_join_53 hl (k := 0) rfl (by show nI _ + _ = _; rw [show Int32.ofInt 1 = nI 1 from by decide, nI_add]) (by decide) rfl (fun ls hl => ?_)
          refine lv_goto (tgt := 22) hx hb dX5_join_56 (by decide) ?_
          have eq_1 : (jn gr (gr o1) (gr o2) i) = (jn gr (gr o1) (gr o2) (i + 1)) := by first | exact jn_put (by assumption) | exact jn_keep (by assumption)
          have hl : lv_has ls 6 [(5, .int (nI (i + 1))), (0, .ref x), (3, .int (nI (gr o1))), (4, .int (nI (gr o2)))] := by ((try rw [← eq_1]); exact hl)
          have hP : va_P g.1 vwCl [(x, .inr (5, [.ref r])), (r, .inr (4, [.ref a])), (a, .inl (gI g, 32, .inl (rM (jn gr (gr o1) (gr o2) (i + 1)))))] H := by ((try rw [← eq_1]); exact hP)
          have hD : va_D A [(x, .inr (5, [.ref r])), (r, .inr (4, [.ref a])), (a, .inl (gI g, 32, .inl (rM (jn gr (gr o1) (gr o2) (i + 1)))))] := by ((try rw [← eq_1]); exact hD)
          exact lp_ih (i + 1) (by omega)  (by omega) _ _ hP hD hS ls (lv_sub hl [0, 1, 2, 3] rfl)
        · skip
          refine lv_aload_n hx hb dX5_join_43 rfl (lv_at hl 1 rfl) ?_
          refine va_get (D := g.1) (ci := 5) (v := .ref r) (C := RX5) (T := TX5) (N := 1) hx hb hts (fun _ h => (List.mem_cons_of_mem _ (List.mem_append_left _ (List.mem_append_right _ h)))) hown hK.1 hP 0 rfl rfl 0 (by decide) (hts _ (List.mem_cons_of_mem _ (List.mem_append_left _ (List.mem_append_left _ (List.mem_of_getElem? (i := 0) rfl))))) (fun _ h9 => h9) rfl dX5_join_44 ?_
          refine lv_iload hx hb dX5_join_47 (lv_at hl 0 rfl) ?_
          refine lv_iload_n hx hb dX5_join_49 rfl (lv_at hl 2 rfl) ?_
          refine im_Vv (k := 2) hx hb hml hown hts (c_X4_set l g r a 32 (rM (jn gr (gr o1) (gr o2) i)) (rM (va_up (jn gr (gr o1) (gr o2) i) i (gr o1))) i (nI (gr o1)) (by omega) (by decide) (upd_rM _ _ _)) gX5_join_X4_set rfl (by decide +kernel) ⟨Nat.le_of_ble_eq_true rfl, Nat.le_of_ble_eq_true rfl⟩ ⟨Nat.zero_le _, Nat.zero_le _⟩ hK hP hD hS hA [1, 2] rfl (by decide) 1 4 rfl rfl rfl hl.1 (rest := []) (As := [.int (nI i), .int (nI (gr o1))]) rfl (Nat.le_of_ble_eq_true rfl) dX5_join_50 (fun w1 H locs hpo hpd hS => ?_)
          obtain rfl := hpo
          obtain ⟨hP, hD⟩ := hpd [(x, .inr (5, [.ref r])), (r, .inr (4, [.ref a])), (a, .inl (gI g, 32, .inl (rM (va_up (jn gr (gr o1) (gr o2) i) i (gr o1)))))] [0] 3 rfl rfl [(x, .inr (5, [.ref r]))] rfl rfl (by decide) (by decide)
          refine lv_iinc (v := nI (i + 1)) (lv' := [(5, .int (nI (i + 1))), (0, .ref x), (3, .int (nI (gr o1))), (4, .int (nI (gr o2)))]) hx hb dX5_join_53 hl (k := 0) rfl (by show nI _ + _ = _; rw [show Int32.ofInt 1 = nI 1 from by decide, nI_add]) (by decide) rfl (fun ls hl => ?_)
          refine lv_goto (tgt := 22) hx hb dX5_join_56 (by decide) ?_
          have eq_2 : (va_up (jn gr (gr o1) (gr o2) i) i (gr o1)) = (jn gr (gr o1) (gr o2) (i + 1)) := by first | exact jn_put (by assumption) | exact jn_keep (by assumption)
          have hl : lv_has ls 6 [(5, .int (nI (i + 1))), (0, .ref x), (3, .int (nI (gr o1))), (4, .int (nI (gr o2)))] := by ((try rw [← eq_2]); exact hl)
          have hP : va_P g.1 vwCl [(x, .inr (5, [.ref r])), (r, .inr (4, [.ref a])), (a, .inl (gI g, 32, .inl (rM (jn gr (gr o1) (gr o2) (i + 1)))))] H := by ((try rw [← eq_2]); exact hP)
          have hD : va_D A [(x, .inr (5, [.ref r])), (r, .inr (4, [.ref a])), (a, .inl (gI g, 32, .inl (rM (jn gr (gr o1) (gr o2) (i + 1)))))] := by ((try rw [← eq_2]); exact hD)
          exact lp_ih (i + 1) (by omega)  (by omega) _ _ hP hD hS ls (lv_sub hl [0, 1, 2, 3] rfl)
  have eq_3 : (gr) = (jn gr (gr o1) (gr o2) 0) := by exact (jn_0 _ _ _).symm
  have hl : lv_has ls 6 [(5, .int (nI 0)), (4, .int (nI (gr o2))), (3, .int (nI (gr o1))), (0, .ref x), (1, .int (nI o1)), (2, .int (nI o2))] := by ((try rw [← eq_3]); exact hl)
  have hP : va_P g.1 vwCl [(x, .inr (5, [.ref r])), (r, .inr (4, [.ref a])), (a, .inl (gI g, 32, .inl (rM (jn gr (gr o1) (gr o2) 0))))] H := by ((try rw [← eq_3]); exact hP)
  have hD : va_D A [(x, .inr (5, [.ref r])), (r, .inr (4, [.ref a])), (a, .inl (gI g, 32, .inl (rM (jn gr (gr o1) (gr o2) 0))))] := by ((try rw [← eq_3]); exact hD)
  exact lp (32 + 1) 0 (Nat.zero_le _)  (by omega) _ _ hP hD hS ls (lv_sub hl [0, 3, 2, 1] rfl)

set_option maxRecDepth 100000 in
set_option maxHeartbeats 4000000 in
theorem c_X1_add (l : Launch) (g : GG) (mp w wa ow rw oa : Nat) (wt mt : Nat → Nat) (n : Nat) (wd : Nat) (hn : n < 5) : IM l yX1_add wsX1_add 2 g [.ref mp, .int (nI wd)] [(mp, .inr (1, [.ref w, .ref ow, .int (nI n)])), (w, .inr (4, [.ref wa])), (wa, .inl (gI g, 5, .inl (rM (wt)))), (ow, .inr (2, [.ref rw])), (rw, .inr (4, [.ref oa])), (oa, .inl (gI g, 25, .inl (rM (mt))))] (fun x1 w1 => x1 = nI n ∧ w1 = [(mp, .inr (1, [.ref w, .ref ow, .int (nI (n + 1))])), (w, .inr (4, [.ref wa])), (wa, .inl (gI g, 5, .inl (rM (va_up wt n wd)))), (ow, .inr (2, [.ref rw])), (rw, .inr (4, [.ref oa])), (oa, .inl (gI g, 25, .inl (rM (mt))))]) := by
  refine fun sz => im_body (Qc := fun A => va_Qi _ (iB g _) A) (cc := cX1_add) (maxL := 2) (ret := (some .int)) (by decide) rfl (Nat.le_of_ble_eq_true rfl) ?_ sz
  intro pg ev s0 mi below meth cd A hx hb hr hml hts hown hlocks hK hA H hP hD hS ls hl
  have hl : lv_has ls 2 [(0, .ref mp), (1, .int (nI wd))] := hl
  refine lv_aload_n hx hb dX1_add_0 rfl (lv_at hl 0 rfl) ?_
  refine va_get (D := g.1) (ci := 1) (v := .ref w) (C := RX1) (T := TX1) (N := 3) hx hb hts (fun _ h => (List.mem_cons_of_mem _ (List.mem_append_left _ (List.mem_append_right _ h)))) hown hK.1 hP 0 rfl rfl 0 (by decide) (hts _ (List.mem_cons_of_mem _ (List.mem_append_left _ (List.mem_append_left _ (List.mem_of_getElem? (i := 0) rfl))))) (fun _ h9 => h9) rfl dX1_add_1 ?_
  refine lv_aload_n hx hb dX1_add_4 rfl (lv_at hl 0 rfl) ?_
  refine va_get (D := g.1) (ci := 1) (v := .int (nI n)) (C := RX1) (T := TX1) (N := 3) hx hb hts (fun _ h => (List.mem_cons_of_mem _ (List.mem_append_left _ (List.mem_append_right _ h)))) hown hK.1 hP 0 rfl rfl 2 (by decide) (hts _ (List.mem_cons_of_mem _ (List.mem_append_left _ (List.mem_append_left _ (List.mem_of_getElem? (i := 1) rfl))))) (fun _ h9 => h9) rfl dX1_add_5 ?_
  refine lv_iload_n hx hb dX1_add_8 rfl (lv_at hl 1 rfl) ?_
  refine im_Vv (k := 2) hx hb hml hown hts (c_X4_set l g w wa 5 (rM (wt)) (rM (va_up wt n wd)) n (nI (wd)) (by omega) (by decide) (upd_rM _ _ _)) gX1_add_X4_set rfl (by decide +kernel) ⟨Nat.le_of_ble_eq_true rfl, Nat.le_of_ble_eq_true rfl⟩ ⟨Nat.zero_le _, Nat.zero_le _⟩ hK hP hD hS hA [1, 2] rfl (by decide) 1 4 rfl rfl rfl hl.1 (rest := []) (As := [.int (nI n), .int (nI wd)]) rfl (Nat.le_of_ble_eq_true rfl) dX1_add_9 (fun w1 H locs hpo hpd hS => ?_)
  obtain rfl := hpo
  obtain ⟨hP, hD⟩ := hpd [(mp, .inr (1, [.ref w, .ref ow, .int (nI n)])), (w, .inr (4, [.ref wa])), (wa, .inl (gI g, 5, .inl (rM (va_up wt n wd)))), (ow, .inr (2, [.ref rw])), (rw, .inr (4, [.ref oa])), (oa, .inl (gI g, 25, .inl (rM (mt))))] [0, 3, 4, 5] 6 rfl rfl [(mp, .inr (1, [.ref w, .ref ow, .int (nI n)])), (ow, .inr (2, [.ref rw])), (rw, .inr (4, [.ref oa])), (oa, .inl (gI g, 25, .inl (rM (mt))))] rfl rfl (by decide) (by decide)
  refine lv_aload_n hx hb dX1_add_12 rfl (lv_at hl 0 rfl) ?_
  refine lv_dup hx hb dX1_add_13 rfl ?_
  refine va_get (D := g.1) (ci := 1) (v := .int (nI n)) (C := RX1) (T := TX1) (N := 3) hx hb hts (fun _ h => (List.mem_cons_of_mem _ (List.mem_append_left _ (List.mem_append_right _ h)))) hown hK.1 hP 0 rfl rfl 2 (by decide) (hts _ (List.mem_cons_of_mem _ (List.mem_append_left _ (List.mem_append_left _ (List.mem_of_getElem? (i := 1) rfl))))) (fun _ h9 => h9) rfl dX1_add_14 ?_
  refine lv_iconst (v := nI (1)) hx hb dX1_add_17 (by decide) ?_
  refine nv_iadd hx hb dX1_add_18 ?_
  refine va_put (D := g.1) (ci := 1) (v := .int (nI (n + 1))) (ty := .int) (C := RX1) (T := TX1) (N := 3) hx hb hts (fun _ h => (List.mem_cons_of_mem _ (List.mem_append_left _ (List.mem_append_right _ h)))) tyX1 tyX1_ok nmX1 hown hK.1 hP hD hS 0 rfl rfl 2 (by decide) (hts _ (List.mem_cons_of_mem _ (List.mem_append_left _ (List.mem_append_left _ (List.mem_of_getElem? (i := 1) rfl))))) (fun _ h9 => h9) rfl (by decide +kernel) rfl rfl (Nat.le_of_ble_eq_true rfl) dX1_add_19 (fun H locs hP hD hS => ?_)
  have hP : va_P g.1 vwCl [(mp, .inr (1, [.ref w, .ref ow, .int (nI (n + 1))])), (w, .inr (4, [.ref wa])), (wa, .inl (gI g, 5, .inl (rM (va_up wt n wd)))), (ow, .inr (2, [.ref rw])), (rw, .inr (4, [.ref oa])), (oa, .inl (gI g, 25, .inl (rM (mt))))] H := hP
  have hD : va_D A [(mp, .inr (1, [.ref w, .ref ow, .int (nI (n + 1))])), (w, .inr (4, [.ref wa])), (wa, .inl (gI g, 5, .inl (rM (va_up wt n wd)))), (ow, .inr (2, [.ref rw])), (rw, .inr (4, [.ref oa])), (oa, .inl (gI g, 25, .inl (rM (mt))))] := hD
  refine lv_aload_n hx hb dX1_add_22 rfl (lv_at hl 0 rfl) ?_
  refine va_get (D := g.1) (ci := 1) (v := .int (nI (n + 1))) (C := RX1) (T := TX1) (N := 3) hx hb hts (fun _ h => (List.mem_cons_of_mem _ (List.mem_append_left _ (List.mem_append_right _ h)))) hown hK.1 hP 0 rfl rfl 2 (by decide) (hts _ (List.mem_cons_of_mem _ (List.mem_append_left _ (List.mem_append_left _ (List.mem_of_getElem? (i := 1) rfl))))) (fun _ h9 => h9) rfl dX1_add_23 ?_
  refine lv_iconst (v := nI (1)) hx hb dX1_add_26 (by decide) ?_
  refine nv_isub hx hb (by omega) dX1_add_27 ?_
  exact im_ret (w1 := [(mp, .inr (1, [.ref w, .ref ow, .int (nI (n + 1))])), (w, .inr (4, [.ref wa])), (wa, .inl (gI g, 5, .inl (rM (va_up wt n wd)))), (ow, .inr (2, [.ref rw])), (rw, .inr (4, [.ref oa])), (oa, .inl (gI g, 25, .inl (rM (mt))))]) (v := nI ((n + 1) - 1)) hx hb hr hlocks hP hS rfl ⟨by rw [Nat.add_sub_cancel], rfl⟩ dX1_add_28

set_option maxRecDepth 100000 in
set_option maxHeartbeats 4000000 in
theorem c_X1_removeAll (l : Launch) (g : GG) (mp w wa ow rw oa : Nat) (wt mt : Nat → Nat) (n : Nat) (hm : mOk mt) : IM l yX1_removeAll wsX1_removeAll 3 g [.ref mp] [(mp, .inr (1, [.ref w, .ref ow, .int (nI n)])), (w, .inr (4, [.ref wa])), (wa, .inl (gI g, 5, .inl (rM (wt)))), (ow, .inr (2, [.ref rw])), (rw, .inr (4, [.ref oa])), (oa, .inl (gI g, 25, .inl (rM (mt))))] (fun x1 w1 => x1 = nI (n + cntN mt 25) ∧ w1 = [(mp, .inr (1, [.ref w, .ref ow, .int (nI 0)])), (w, .inr (4, [.ref wa])), (wa, .inl (gI g, 5, .inl (rM (wt)))), (ow, .inr (2, [.ref rw])), (rw, .inr (4, [.ref oa])), (oa, .inl (gI g, 25, .inl (rM (fun _ => 0))))]) := by
  refine fun sz => im_body (Qc := fun A => va_Qi _ (iB g _) A) (cc := cX1_removeAll) (maxL := 2) (ret := (some .int)) (by decide) rfl (Nat.le_of_ble_eq_true rfl) ?_ sz
  intro pg ev s0 mi below meth cd A hx hb hr hml hts hown hlocks hK hA H hP hD hS ls hl
  have hl : lv_has ls 2 [(0, .ref mp)] := hl
  refine lv_aload_n hx hb dX1_removeAll_0 rfl (lv_at hl 0 rfl) ?_
  refine va_get (D := g.1) (ci := 1) (v := .int (nI n)) (C := RX1) (T := TX1) (N := 3) hx hb hts (fun _ h => (List.mem_cons_of_mem _ (List.mem_append_left _ (List.mem_append_left _ (List.mem_append_right _ h))))) hown hK.1 hP 0 rfl rfl 2 (by decide) (hts _ (List.mem_cons_of_mem _ (List.mem_append_left _ (List.mem_append_left _ (List.mem_append_left _ (List.mem_append_left _ (List.mem_of_getElem? (i := 0) rfl))))))) (fun _ h9 => h9) rfl dX1_removeAll_1 ?_
  refine lv_aload_n hx hb dX1_removeAll_4 rfl (lv_at hl 0 rfl) ?_
  refine va_get (D := g.1) (ci := 1) (v := .ref ow) (C := RX1) (T := TX1) (N := 3) hx hb hts (fun _ h => (List.mem_cons_of_mem _ (List.mem_append_left _ (List.mem_append_left _ (List.mem_append_right _ h))))) hown hK.1 hP 0 rfl rfl 1 (by decide) (hts _ (List.mem_cons_of_mem _ (List.mem_append_left _ (List.mem_append_left _ (List.mem_append_left _ (List.mem_append_left _ (List.mem_of_getElem? (i := 1) rfl))))))) (fun _ h9 => h9) rfl dX1_removeAll_5 ?_
  refine im_V (k := 0) hx hb hml hown hts (c_X2_count l g ow rw oa (mt) hm) gX1_removeAll_X2_count rfl (by decide +kernel) ⟨Nat.le_of_ble_eq_true rfl, Nat.le_of_ble_eq_true rfl⟩ ⟨Nat.zero_le _, Nat.zero_le _⟩ hK hP hD hS hA [3, 4, 5] rfl (by decide) 3 2 rfl rfl rfl hl.1 (rest := [.int (nI n)]) (As := []) rfl (Nat.le_of_ble_eq_true rfl) dX1_removeAll_8 (fun x1 w1 H locs hpo hpd hS => ?_)
  obtain ⟨hx1, rfl⟩ := hpo
  have hx1 : x1 = nI (cntN mt 25) := hx1
  subst hx1
  obtain ⟨hP, hD⟩ := hpd [(mp, .inr (1, [.ref w, .ref ow, .int (nI n)])), (w, .inr (4, [.ref wa])), (wa, .inl (gI g, 5, .inl (rM (wt)))), (ow, .inr (2, [.ref rw])), (rw, .inr (4, [.ref oa])), (oa, .inl (gI g, 25, .inl (rM (mt))))] [0, 1, 2] 6 rfl rfl [(mp, .inr (1, [.ref w, .ref ow, .int (nI n)])), (w, .inr (4, [.ref wa])), (wa, .inl (gI g, 5, .inl (rM (wt))))] rfl rfl (by decide) (by decide)
  refine nv_iadd hx hb dX1_removeAll_11 ?_
  refine lv_istore_n (lv' := [(1, .int (nI (n + (cntN mt 25)))), (0, .ref mp)]) hx hb dX1_removeAll_12 rfl hl (by decide) rfl (fun ls hl => ?_)
  refine lv_aload_n hx hb dX1_removeAll_13 rfl (lv_at hl 1 rfl) ?_
  refine lv_iconst (v := nI (0)) hx hb dX1_removeAll_14 (by decide) ?_
  refine va_put (D := g.1) (ci := 1) (v := .int (nI 0)) (ty := .int) (C := RX1) (T := TX1) (N := 3) hx hb hts (fun _ h => (List.mem_cons_of_mem _ (List.mem_append_left _ (List.mem_append_left _ (List.mem_append_right _ h))))) tyX1 tyX1_ok nmX1 hown hK.1 hP hD hS 0 rfl rfl 2 (by decide) (hts _ (List.mem_cons_of_mem _ (List.mem_append_left _ (List.mem_append_left _ (List.mem_append_left _ (List.mem_append_left _ (List.mem_of_getElem? (i := 0) rfl))))))) (fun _ h9 => h9) rfl (by decide +kernel) rfl rfl (Nat.le_of_ble_eq_true rfl) dX1_removeAll_15 (fun H locs hP hD hS => ?_)
  have hP : va_P g.1 vwCl [(mp, .inr (1, [.ref w, .ref ow, .int (nI 0)])), (w, .inr (4, [.ref wa])), (wa, .inl (gI g, 5, .inl (rM (wt)))), (ow, .inr (2, [.ref rw])), (rw, .inr (4, [.ref oa])), (oa, .inl (gI g, 25, .inl (rM (mt))))] H := hP
  have hD : va_D A [(mp, .inr (1, [.ref w, .ref ow, .int (nI 0)])), (w, .inr (4, [.ref wa])), (wa, .inl (gI g, 5, .inl (rM (wt)))), (ow, .inr (2, [.ref rw])), (rw, .inr (4, [.ref oa])), (oa, .inl (gI g, 25, .inl (rM (mt))))] := hD
  refine lv_aload_n hx hb dX1_removeAll_18 rfl (lv_at hl 1 rfl) ?_
  refine va_get (D := g.1) (ci := 1) (v := .ref ow) (C := RX1) (T := TX1) (N := 3) hx hb hts (fun _ h => (List.mem_cons_of_mem _ (List.mem_append_left _ (List.mem_append_left _ (List.mem_append_right _ h))))) hown hK.1 hP 0 rfl rfl 1 (by decide) (hts _ (List.mem_cons_of_mem _ (List.mem_append_left _ (List.mem_append_left _ (List.mem_append_left _ (List.mem_append_left _ (List.mem_of_getElem? (i := 1) rfl))))))) (fun _ h9 => h9) rfl dX1_removeAll_19 ?_
  refine im_Vv (k := 0) hx hb hml hown hts (c_X2_removeAll l g ow rw oa (mt)) gX1_removeAll_X2_removeAll rfl (by decide +kernel) ⟨Nat.le_of_ble_eq_true rfl, Nat.le_of_ble_eq_true rfl⟩ ⟨Nat.zero_le _, Nat.zero_le _⟩ hK hP hD hS hA [3, 4, 5] rfl (by decide) 3 2 rfl rfl rfl hl.1 (rest := []) (As := []) rfl (Nat.le_of_ble_eq_true rfl) dX1_removeAll_22 (fun w1 H locs hpo hpd hS => ?_)
  obtain rfl := hpo
  obtain ⟨hP, hD⟩ := hpd [(mp, .inr (1, [.ref w, .ref ow, .int (nI 0)])), (w, .inr (4, [.ref wa])), (wa, .inl (gI g, 5, .inl (rM (wt)))), (ow, .inr (2, [.ref rw])), (rw, .inr (4, [.ref oa])), (oa, .inl (gI g, 25, .inl (rM (fun _ => 0))))] [0, 1, 2] 6 rfl rfl [(mp, .inr (1, [.ref w, .ref ow, .int (nI 0)])), (w, .inr (4, [.ref wa])), (wa, .inl (gI g, 5, .inl (rM (wt))))] rfl rfl (by decide) (by decide)
  refine lv_iload_n hx hb dX1_removeAll_25 rfl (lv_at hl 0 rfl) ?_
  exact im_ret (w1 := [(mp, .inr (1, [.ref w, .ref ow, .int (nI 0)])), (w, .inr (4, [.ref wa])), (wa, .inl (gI g, 5, .inl (rM (wt)))), (ow, .inr (2, [.ref rw])), (rw, .inr (4, [.ref oa])), (oa, .inl (gI g, 25, .inl (rM (fun _ => 0))))]) (v := nI (n + (cntN mt 25))) hx hb hr hlocks hP hS rfl ⟨rfl, rfl⟩ dX1_removeAll_26
