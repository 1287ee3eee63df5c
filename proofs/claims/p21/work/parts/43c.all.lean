/-- what 'all' comes to -/
def a_all (σ : Stt) : Int64 := (((((((((((((((((((((((((((((((7 * 7) + ((nI (s_n σ 0)).toInt64)) * 101) + ((nI (a_ct σ 0)).toInt64)) * 101) + ((nI (a_hl σ 0)).toInt64)) * 7) + ((nI (s_n σ 1)).toInt64)) * 101) + ((nI (a_ct σ 1)).toInt64)) * 101) + ((nI (a_hl σ 1)).toInt64)) * 7) + ((nI (s_n σ 2)).toInt64)) * 101) + ((nI (a_ct σ 2)).toInt64)) * 101) + ((nI (a_hl σ 2)).toInt64)) * 7) + ((nI (s_n σ 3)).toInt64)) * 101) + ((nI (a_ct σ 3)).toInt64)) * 101) + ((nI (a_hl σ 3)).toInt64)) * 401) + ((nI (a_pts σ 1)).toInt64)) * 7) + ((nI (a_lk σ 1)).toInt64)) * 401) + ((nI (a_pts σ 2)).toInt64)) * 7) + ((nI (a_lk σ 2)).toInt64)
set_option maxRecDepth 100000 in
set_option maxHeartbeats 8000000 in
theorem c_all (l : Launch) (g : GG) (ad : Nat → Nat) (gm : Nat → Option Nat) (hG : GM ad gm) (σ : Stt) (hσ : SOk σ)  : ML l yL_all wsL_all 12 g ad gm [.ref (ad 0)] σ (a_all σ) := by
  intro z0 hz0 sz
  refine im_body (Qc := fun A => va_Ql (fun (x : Int64) (w : va_W) => x = (a_all σ) ∧ ∃ z', ZOk z' ∧ w = MW g ad gm σ z') (iB g (MW g ad gm σ z0)) A) (cc := cL_all) (maxL := 4) (ret := (some .long)) (by decide) rfl (Nat.le_of_ble_eq_true rfl) ?_ sz
  intro pg ev s0 mi below meth cd A hx hb hr hml hts hown hlocks hK hA H0 hP0 hD0 hS0 ls0 hl0
  have hl0 : lv_has ls0 4 [(0, .ref (ad 0))] := hl0
  have hP := hP0; have hD := hD0; have hS := hS0; have hl := hl0; have hz := hz0
  refine lv_ldc2 (v := 7) hx hb hown (hts _ (List.mem_cons_of_mem _ (List.mem_append_left _ (List.mem_append_left _ (List.mem_append_left _ (List.mem_append_left _ (List.mem_append_left _ (List.mem_append_left _ (List.mem_append_left _ (List.mem_append_left _ (List.mem_append_left _ (List.mem_of_getElem? (i := 0) rfl)))))))))))) dL_all_0 ?_
  refine lv_lstore_n (lv' := [(1, .long (7)), (0, .ref (ad 0))]) hx hb dL_all_3 rfl hl (by decide) rfl (fun ls hl => ?_)
  refine lv_iconst (v := nI (0)) hx hb dL_all_4 (by decide) ?_
  refine lv_istore_n (lv' := [(3, .int (nI 0)), (1, .long (7)), (0, .ref (ad 0))]) hx hb dL_all_5 rfl hl (by decide) rfl (fun ls hl => ?_)
  refine lv_iload_n hx hb dL_all_6 rfl (lv_at hl 0 rfl) ?_
  refine lv_iconst (v := nI (4)) hx hb dL_all_7 (by decide) ?_
  refine lv_icmp_ge (tgt := 52) hx hb dL_all_8 (by decide) (fun c_1 => absurd c_1 (by decide)) (fun c_1 => ?_)
  refine lv_lload_n hx hb dL_all_11 rfl (lv_at hl 1 rfl) ?_
  refine lv_ldc2 (v := 7) hx hb hown (hts _ (List.mem_cons_of_mem _ (List.mem_append_left _ (List.mem_append_left _ (List.mem_append_left _ (List.mem_append_left _ (List.mem_append_left _ (List.mem_append_left _ (List.mem_append_left _ (List.mem_append_left _ (List.mem_append_left _ (List.mem_of_getElem? (i := 0) rfl)))))))))))) dL_all_12 ?_
  refine lv_lmul hx hb dL_all_15 ?_
  refine lv_aload_n hx hb dL_all_16 rfl (lv_at hl 2 rfl) ?_
  refine lv_iload_n hx hb dL_all_17 rfl (lv_at hl 0 rfl) ?_
  refine mc_V (k := 1) hx hb hml hown hts (mc_ideas l g ad gm hG σ hσ 0 (by omega)) gL_all_X6_ideas rfl (by decide +kernel) ⟨Nat.le_of_ble_eq_true rfl, Nat.le_of_ble_eq_true rfl⟩ ⟨Nat.zero_le _, Nat.zero_le _⟩ hK hz hP hD hS hA rfl hl.1 (rest := [.long (7 * 7)]) (As := [.int (nI 0)]) rfl (Nat.le_of_ble_eq_true rfl) dL_all_18 (fun z H locs hz hP hD hS => ?_)
  refine lv_i2l (v := (nI (s_n σ 0)).toInt64) hx hb dL_all_21 rfl ?_
  refine lv_ladd hx hb dL_all_22 ?_
  refine lv_ldc2 (v := 101) hx hb hown (hts _ (List.mem_cons_of_mem _ (List.mem_append_left _ (List.mem_append_left _ (List.mem_append_left _ (List.mem_append_left _ (List.mem_append_left _ (List.mem_append_left _ (List.mem_append_left _ (List.mem_append_left _ (List.mem_append_left _ (List.mem_of_getElem? (i := 1) rfl)))))))))))) dL_all_23 ?_
  refine lv_lmul hx hb dL_all_26 ?_
  refine lv_aload_n hx hb dL_all_27 rfl (lv_at hl 2 rfl) ?_
  refine lv_iload_n hx hb dL_all_28 rfl (lv_at hl 0 rfl) ?_
  refine mc_V (k := 1) hx hb hml hown hts (mc_links l g ad gm hG σ hσ 0 (by omega)) gL_all_X6_links rfl (by decide +kernel) ⟨Nat.le_of_ble_eq_true rfl, Nat.le_of_ble_eq_true rfl⟩ ⟨Nat.zero_le _, Nat.zero_le _⟩ hK hz hP hD hS hA rfl hl.1 (rest := [.long (((7 * 7) + ((nI (s_n σ 0)).toInt64)) * 101)]) (As := [.int (nI 0)]) rfl (Nat.le_of_ble_eq_true rfl) dL_all_29 (fun z H locs hz hP hD hS => ?_)
  refine lv_i2l (v := (nI (a_ct σ 0)).toInt64) hx hb dL_all_32 rfl ?_
  refine lv_ladd hx hb dL_all_33 ?_
  refine lv_ldc2 (v := 101) hx hb hown (hts _ (List.mem_cons_of_mem _ (List.mem_append_left _ (List.mem_append_left _ (List.mem_append_left _ (List.mem_append_left _ (List.mem_append_left _ (List.mem_append_left _ (List.mem_append_left _ (List.mem_append_left _ (List.mem_append_left _ (List.mem_of_getElem? (i := 1) rfl)))))))))))) dL_all_34 ?_
  refine lv_lmul hx hb dL_all_37 ?_
  refine lv_aload_n hx hb dL_all_38 rfl (lv_at hl 2 rfl) ?_
  refine lv_iload_n hx hb dL_all_39 rfl (lv_at hl 0 rfl) ?_
  refine mc_V (k := 1) hx hb hml hown hts (mc_held l g ad gm hG σ hσ 0 (by omega)) gL_all_X6_held rfl (by decide +kernel) ⟨Nat.le_of_ble_eq_true rfl, Nat.le_of_ble_eq_true rfl⟩ ⟨Nat.zero_le _, Nat.zero_le _⟩ hK hz hP hD hS hA rfl hl.1 (rest := [.long (((((7 * 7) + ((nI (s_n σ 0)).toInt64)) * 101) + ((nI (a_ct σ 0)).toInt64)) * 101)]) (As := [.int (nI 0)]) rfl (Nat.le_of_ble_eq_true rfl) dL_all_40 (fun z H locs hz hP hD hS => ?_)
  refine lv_i2l (v := (nI (a_hl σ 0)).toInt64) hx hb dL_all_43 rfl ?_
  refine lv_ladd hx hb dL_all_44 ?_
  refine lv_lstore_n (lv' := [(1, .long ((((((7 * 7) + ((nI (s_n σ 0)).toInt64)) * 101) + ((nI (a_ct σ 0)).toInt64)) * 101) + ((nI (a_hl σ 0)).toInt64))), (3, .int (nI 0)), (0, .ref (ad 0))]) hx hb dL_all_45 rfl hl (by decide) rfl (fun ls hl => ?_)
  refine lv_iinc (v := nI (0 + 1)) (lv' := [(3, .int (nI (0 + 1))), (1, .long ((((((7 * 7) + ((nI (s_n σ 0)).toInt64)) * 101) + ((nI (a_ct σ 0)).toInt64)) * 101) + ((nI (a_hl σ 0)).toInt64))), (0, .ref (ad 0))]) hx hb dL_all_46 hl (k := 1) rfl (by show nI _ + _ = _; rw [show Int32.ofInt 1 = nI 1 from by decide, nI_add]) (by decide) rfl (fun ls hl => ?_)
  refine lv_goto (tgt := 6) hx hb dL_all_49 (by decide) ?_
  have hl : lv_has ls 4 [(3, .int (nI 1)), (1, .long ((((((7 * 7) + ((nI (s_n σ 0)).toInt64)) * 101) + ((nI (a_ct σ 0)).toInt64)) * 101) + ((nI (a_hl σ 0)).toInt64))), (0, .ref (ad 0))] := hl
  refine lv_iload_n hx hb dL_all_6 rfl (lv_at hl 0 rfl) ?_
  refine lv_iconst (v := nI (4)) hx hb dL_all_7 (by decide) ?_
  refine lv_icmp_ge (tgt := 52) hx hb dL_all_8 (by decide) (fun c_2 => absurd c_2 (by decide)) (fun c_2 => ?_)
  refine lv_lload_n hx hb dL_all_11 rfl (lv_at hl 1 rfl) ?_
  refine lv_ldc2 (v := 7) hx hb hown (hts _ (List.mem_cons_of_mem _ (List.mem_append_left _ (List.mem_append_left _ (List.mem_append_left _ (List.mem_append_left _ (List.mem_append_left _ (List.mem_append_left _ (List.mem_append_left _ (List.mem_append_left _ (List.mem_append_left _ (List.mem_of_getElem? (i := 0) rfl)))))))))))) dL_all_12 ?_
  refine lv_lmul hx hb dL_all_15 ?_
  refine lv_aload_n hx hb dL_all_16 rfl (lv_at hl 2 rfl) ?_
  refine lv_iload_n hx hb dL_all_17 rfl (lv_at hl 0 rfl) ?_
  refine mc_V (k := 1) hx hb hml hown hts (mc_ideas l g ad gm hG σ hσ 1 (by omega)) gL_all_X6_ideas rfl (by decide +kernel) ⟨Nat.le_of_ble_eq_true rfl, Nat.le_of_ble_eq_true rfl⟩ ⟨Nat.zero_le _, Nat.zero_le _⟩ hK hz hP hD hS hA rfl hl.1 (rest := [.long (((((((7 * 7) + ((nI (s_n σ 0)).toInt64)) * 101) + ((nI (a_ct σ 0)).toInt64)) * 101) + ((nI (a_hl σ 0)).toInt64)) * 7)]) (As := [.int (nI 1)]) rfl (Nat.le_of_ble_eq_true rfl) dL_all_18 (fun z H locs hz hP hD hS => ?_)
  refine lv_i2l (v := (nI (s_n σ 1)).toInt64) hx hb dL_all_21 rfl ?_
  refine lv_ladd hx hb dL_all_22 ?_
  refine lv_ldc2 (v := 101) hx hb hown (hts _ (List.mem_cons_of_mem _ (List.mem_append_left _ (List.mem_append_left _ (List.mem_append_left _ (List.mem_append_left _ (List.mem_append_left _ (List.mem_append_left _ (List.mem_append_left _ (List.mem_append_left _ (List.mem_append_left _ (List.mem_of_getElem? (i := 1) rfl)))))))))))) dL_all_23 ?_
  refine lv_lmul hx hb dL_all_26 ?_
  refine lv_aload_n hx hb dL_all_27 rfl (lv_at hl 2 rfl) ?_
  refine lv_iload_n hx hb dL_all_28 rfl (lv_at hl 0 rfl) ?_
  refine mc_V (k := 1) hx hb hml hown hts (mc_links l g ad gm hG σ hσ 1 (by omega)) gL_all_X6_links rfl (by decide +kernel) ⟨Nat.le_of_ble_eq_true rfl, Nat.le_of_ble_eq_true rfl⟩ ⟨Nat.zero_le _, Nat.zero_le _⟩ hK hz hP hD hS hA rfl hl.1 (rest := [.long (((((((((7 * 7) + ((nI (s_n σ 0)).toInt64)) * 101) + ((nI (a_ct σ 0)).toInt64)) * 101) + ((nI (a_hl σ 0)).toInt64)) * 7) + ((nI (s_n σ 1)).toInt64)) * 101)]) (As := [.int (nI 1)]) rfl (Nat.le_of_ble_eq_true rfl) dL_all_29 (fun z H locs hz hP hD hS => ?_)
  refine lv_i2l (v := (nI (a_ct σ 1)).toInt64) hx hb dL_all_32 rfl ?_
  refine lv_ladd hx hb dL_all_33 ?_
  refine lv_ldc2 (v := 101) hx hb hown (hts _ (List.mem_cons_of_mem _ (List.mem_append_left _ (List.mem_append_left _ (List.mem_append_left _ (List.mem_append_left _ (List.mem_append_left _ (List.mem_append_left _ (List.mem_append_left _ (List.mem_append_left _ (List.mem_append_left _ (List.mem_of_getElem? (i := 1) rfl)))))))))))) dL_all_34 ?_
  refine lv_lmul hx hb dL_all_37 ?_
  refine lv_aload_n hx hb dL_all_38 rfl (lv_at hl 2 rfl) ?_
  refine lv_iload_n hx hb dL_all_39 rfl (lv_at hl 0 rfl) ?_
  refine mc_V (k := 1) hx hb hml hown hts (mc_held l g ad gm hG σ hσ 1 (by omega)) gL_all_X6_held rfl (by decide +kernel) ⟨Nat.le_of_ble_eq_true rfl, Nat.le_of_ble_eq_true rfl⟩ ⟨Nat.zero_le _, Nat.zero_le _⟩ hK hz hP hD hS hA rfl hl.1 (rest := [.long (((((((((((7 * 7) + ((nI (s_n σ 0)).toInt64)) * 101) + ((nI (a_ct σ 0)).toInt64)) * 101) + ((nI (a_hl σ 0)).toInt64)) * 7) + ((nI (s_n σ 1)).toInt64)) * 101) + ((nI (a_ct σ 1)).toInt64)) * 101)]) (As := [.int (nI 1)]) rfl (Nat.le_of_ble_eq_true rfl) dL_all_40 (fun z H locs hz hP hD hS => ?_)
  refine lv_i2l (v := (nI (a_hl σ 1)).toInt64) hx hb dL_all_43 rfl ?_
  refine lv_ladd hx hb dL_all_44 ?_
  refine lv_lstore_n (lv' := [(1, .long ((((((((((((7 * 7) + ((nI (s_n σ 0)).toInt64)) * 101) + ((nI (a_ct σ 0)).toInt64)) * 101) + ((nI (a_hl σ 0)).toInt64)) * 7) + ((nI (s_n σ 1)).toInt64)) * 101) + ((nI (a_ct σ 1)).toInt64)) * 101) + ((nI (a_hl σ 1)).toInt64))), (3, .int (nI 1)), (0, .ref (ad 0))]) hx hb dL_all_45 rfl hl (by decide) rfl (fun ls hl => ?_)
  refine lv_iinc (v := nI (1 + 1)) (lv' := [(3, .int (nI (1 + 1))), (1, .long ((((((((((((7 * 7) + ((nI (s_n σ 0)).toInt64)) * 101) + ((nI (a_ct σ 0)).toInt64)) * 101) + ((nI (a_hl σ 0)).toInt64)) * 7) + ((nI (s_n σ 1)).toInt64)) * 101) + ((nI (a_ct σ 1)).toInt64)) * 101) + ((nI (a_hl σ 1)).toInt64))), (0, .ref (ad 0))]) hx hb dL_all_46 hl (k := 1) rfl (by show nI _ + _ = _; rw [show Int32.ofInt 1 = nI 1 from by decide, nI_add]) (by decide) rfl (fun ls hl => ?_)
  refine lv_goto (tgt := 6) hx hb dL_all_49 (by decide) ?_
  have hl : lv_has ls 4 [(3, .int (nI 2)), (1, .long ((((((((((((7 * 7) + ((nI (s_n σ 0)).toInt64)) * 101) + ((nI (a_ct σ 0)).toInt64)) * 101) + ((nI (a_hl σ 0)).toInt64)) * 7) + ((nI (s_n σ 1)).toInt64)) * 101) + ((nI (a_ct σ 1)).toInt64)) * 101) + ((nI (a_hl σ 1)).toInt64))), (0, .ref (ad 0))] := hl
  refine lv_iload_n hx hb dL_all_6 rfl (lv_at hl 0 rfl) ?_
  refine lv_iconst (v := nI (4)) hx hb dL_all_7 (by decide) ?_
  refine lv_icmp_ge (tgt := 52) hx hb dL_all_8 (by decide) (fun c_3 => absurd c_3 (by decide)) (fun c_3 => ?_)
  refine lv_lload_n hx hb dL_all_11 rfl (lv_at hl 1 rfl) ?_
  refine lv_ldc2 (v := 7) hx hb hown (hts _ (List.mem_cons_of_mem _ (List.mem_append_left _ (List.mem_append_left _ (List.mem_append_left _ (List.mem_append_left _ (List.mem_append_left _ (List.mem_append_left _ (List.mem_append_left _ (List.mem_append_left _ (List.mem_append_left _ (List.mem_of_getElem? (i := 0) rfl)))))))))))) dL_all_12 ?_
  refine lv_lmul hx hb dL_all_15 ?_
  refine lv_aload_n hx hb dL_all_16 rfl (lv_at hl 2 rfl) ?_
  refine lv_iload_n hx hb dL_all_17 rfl (lv_at hl 0 rfl) ?_
  refine mc_V (k := 1) hx hb hml hown hts (mc_ideas l g ad gm hG σ hσ 2 (by omega)) gL_all_X6_ideas rfl (by decide +kernel) ⟨Nat.le_of_ble_eq_true rfl, Nat.le_of_ble_eq_true rfl⟩ ⟨Nat.zero_le _, Nat.zero_le _⟩ hK hz hP hD hS hA rfl hl.1 (rest := [.long (((((((((((((7 * 7) + ((nI (s_n σ 0)).toInt64)) * 101) + ((nI (a_ct σ 0)).toInt64)) * 101) + ((nI (a_hl σ 0)).toInt64)) * 7) + ((nI (s_n σ 1)).toInt64)) * 101) + ((nI (a_ct σ 1)).toInt64)) * 101) + ((nI (a_hl σ 1)).toInt64)) * 7)]) (As := [.int (nI 2)]) rfl (Nat.le_of_ble_eq_true rfl) dL_all_18 (fun z H locs hz hP hD hS => ?_)
  refine lv_i2l (v := (nI (s_n σ 2)).toInt64) hx hb dL_all_21 rfl ?_
  refine lv_ladd hx hb dL_all_22 ?_
  refine lv_ldc2 (v := 101) hx hb hown (hts _ (List.mem_cons_of_mem _ (List.mem_append_left _ (List.mem_append_left _ (List.mem_append_left _ (List.mem_append_left _ (List.mem_append_left _ (List.mem_append_left _ (List.mem_append_left _ (List.mem_append_left _ (List.mem_append_left _ (List.mem_of_getElem? (i := 1) rfl)))))))))))) dL_all_23 ?_
  refine lv_lmul hx hb dL_all_26 ?_
  refine lv_aload_n hx hb dL_all_27 rfl (lv_at hl 2 rfl) ?_
  refine lv_iload_n hx hb dL_all_28 rfl (lv_at hl 0 rfl) ?_
  refine mc_V (k := 1) hx hb hml hown hts (mc_links l g ad gm hG σ hσ 2 (by omega)) gL_all_X6_links rfl (by decide +kernel) ⟨Nat.le_of_ble_eq_true rfl, Nat.le_of_ble_eq_true rfl⟩ ⟨Nat.zero_le _, Nat.zero_le _⟩ hK hz hP hD hS hA rfl hl.1 (rest := [.long (((((((((((((((7 * 7) + ((nI (s_n σ 0)).toInt64)) * 101) + ((nI (a_ct σ 0)).toInt64)) * 101) + ((nI (a_hl σ 0)).toInt64)) * 7) + ((nI (s_n σ 1)).toInt64)) * 101) + ((nI (a_ct σ 1)).toInt64)) * 101) + ((nI (a_hl σ 1)).toInt64)) * 7) + ((nI (s_n σ 2)).toInt64)) * 101)]) (As := [.int (nI 2)]) rfl (Nat.le_of_ble_eq_true rfl) dL_all_29 (fun z H locs hz hP hD hS => ?_)
  refine lv_i2l (v := (nI (a_ct σ 2)).toInt64) hx hb dL_all_32 rfl ?_
  refine lv_ladd hx hb dL_all_33 ?_
  refine lv_ldc2 (v := 101) hx hb hown (hts _ (List.mem_cons_of_mem _ (List.mem_append_left _ (List.mem_append_left _ (List.mem_append_left _ (List.mem_append_left _ (List.mem_append_left _ (List.mem_append_left _ (List.mem_append_left _ (List.mem_append_left _ (List.mem_append_left _ (List.mem_of_getElem? (i := 1) rfl)))))))))))) dL_all_34 ?_
  refine lv_lmul hx hb dL_all_37 ?_
  refine lv_aload_n hx hb dL_all_38 rfl (lv_at hl 2 rfl) ?_
  refine lv_iload_n hx hb dL_all_39 rfl (lv_at hl 0 rfl) ?_
  refine mc_V (k := 1) hx hb hml hown hts (mc_held l g ad gm hG σ hσ 2 (by omega)) gL_all_X6_held rfl (by decide +kernel) ⟨Nat.le_of_ble_eq_true rfl, Nat.le_of_ble_eq_true rfl⟩ ⟨Nat.zero_le _, Nat.zero_le _⟩ hK hz hP hD hS hA rfl hl.1 (rest := [.long (((((((((((((((((7 * 7) + ((nI (s_n σ 0)).toInt64)) * 101) + ((nI (a_ct σ 0)).toInt64)) * 101) + ((nI (a_hl σ 0)).toInt64)) * 7) + ((nI (s_n σ 1)).toInt64)) * 101) + ((nI (a_ct σ 1)).toInt64)) * 101) + ((nI (a_hl σ 1)).toInt64)) * 7) + ((nI (s_n σ 2)).toInt64)) * 101) + ((nI (a_ct σ 2)).toInt64)) * 101)]) (As := [.int (nI 2)]) rfl (Nat.le_of_ble_eq_true rfl) dL_all_40 (fun z H locs hz hP hD hS => ?_)
  refine lv_i2l (v := (nI (a_hl σ 2)).toInt64) hx hb dL_all_43 rfl ?_
  refine lv_ladd hx hb dL_all_44 ?_
  refine lv_lstore_n (lv' := [(1, .long ((((((((((((((((((7 * 7) + ((nI (s_n σ 0)).toInt64)) * 101) + ((nI (a_ct σ 0)).toInt64)) * 101) + ((nI (a_hl σ 0)).toInt64)) * 7) + ((nI (s_n σ 1)).toInt64)) * 101) + ((nI (a_ct σ 1)).toInt64)) * 101) + ((nI (a_hl σ 1)).toInt64)) * 7) + ((nI (s_n σ 2)).toInt64)) * 101) + ((nI (a_ct σ 2)).toInt64)) * 101) + ((nI (a_hl σ 2)).toInt64))), (3, .int (nI 2)), (0, .ref (ad 0))]) hx hb dL_all_45 rfl hl (by decide) rfl (fun ls hl => ?_)
  refine lv_iinc (v := nI (2 + 1)) (lv' := [(3, .int (nI (2 + 1))), (1, .long ((((((((((((((((((7 * 7) + ((nI (s_n σ 0)).toInt64)) * 101) + ((nI (a_ct σ 0)).toInt64)) * 101) + ((nI (a_hl σ 0)).toInt64)) * 7) + ((nI (s_n σ 1)).toInt64)) * 101) + ((nI (a_ct σ 1)).toInt64)) * 101) + ((nI (a_hl σ 1)).toInt64)) * 7) + ((nI (s_n σ 2)).toInt64)) * 101) + ((nI (a_ct σ 2)).toInt64)) * 101) + ((nI (a_hl σ 2)).toInt64))), (0, .ref (ad 0))]) hx hb dL_all_46 hl (k := 1) rfl (by show nI _ + _ = _; rw [show Int32.ofInt 1 = nI 1 from by decide, nI_add]) (by decide) rfl (fun ls hl => ?_)
  refine lv_goto (tgt := 6) hx hb dL_all_49 (by decide) ?_
  have hl : lv_has ls 4 [(3, .int (nI 3)), (1, .long ((((((((((((((((((7 * 7) + ((nI (s_n σ 0)).toInt64)) * 101) + ((nI (a_ct σ 0)).toInt64)) * 101) + ((nI (a_hl σ 0)).toInt64)) * 7) + ((nI (s_n σ 1)).toInt64)) * 101) + ((nI (a_ct σ 1)).toInt64)) * 101) + ((nI (a_hl σ 1)).toInt64)) * 7) + ((nI (s_n σ 2)).toInt64)) * 101) + ((nI (a_ct σ 2)).toInt64)) * 101) + ((nI (a_hl σ 2)).toInt64))), (0, .ref (ad 0))] := hl
  refine lv_iload_n hx hb dL_all_6 rfl (lv_at hl 0 rfl) ?_
  refine lv_iconst (v := nI (4)) hx hb dL_all_7 (by decide) ?_
  refine lv_icmp_ge (tgt := 52) hx hb dL_all_8 (by decide) (fun c_4 => absurd c_4 (by decide)) (fun c_4 => ?_)
  refine lv_lload_n hx hb dL_all_11 rfl (lv_at hl 1 rfl) ?_
  refine lv_ldc2 (v := 7) hx hb hown (hts _ (List.mem_cons_of_mem _ (List.mem_append_left _ (List.mem_append_left _ (List.mem_append_left _ (List.mem_append_left _ (List.mem_append_left _ (List.mem_append_left _ (List.mem_append_left _ (List.mem_append_left _ (List.mem_append_left _ (List.mem_of_getElem? (i := 0) rfl)))))))))))) dL_all_12 ?_
  refine lv_lmul hx hb dL_all_15 ?_
  refine lv_aload_n hx hb dL_all_16 rfl (lv_at hl 2 rfl) ?_
  refine lv_iload_n hx hb dL_all_17 rfl (lv_at hl 0 rfl) ?_
  refine mc_V (k := 1) hx hb hml hown hts (mc_ideas l g ad gm hG σ hσ 3 (by omega)) gL_all_X6_ideas rfl (by decide +kernel) ⟨Nat.le_of_ble_eq_true rfl, Nat.le_of_ble_eq_true rfl⟩ ⟨Nat.zero_le _, Nat.zero_le _⟩ hK hz hP hD hS hA rfl hl.1 (rest := [.long (((((((((((((((((((7 * 7) + ((nI (s_n σ 0)).toInt64)) * 101) + ((nI (a_ct σ 0)).toInt64)) * 101) + ((nI (a_hl σ 0)).toInt64)) * 7) + ((nI (s_n σ 1)).toInt64)) * 101) + ((nI (a_ct σ 1)).toInt64)) * 101) + ((nI (a_hl σ 1)).toInt64)) * 7) + ((nI (s_n σ 2)).toInt64)) * 101) + ((nI (a_ct σ 2)).toInt64)) * 101) + ((nI (a_hl σ 2)).toInt64)) * 7)]) (As := [.int (nI 3)]) rfl (Nat.le_of_ble_eq_true rfl) dL_all_18 (fun z H locs hz hP hD hS => ?_)
  refine lv_i2l (v := (nI (s_n σ 3)).toInt64) hx hb dL_all_21 rfl ?_
  refine lv_ladd hx hb dL_all_22 ?_
  refine lv_ldc2 (v := 101) hx hb hown (hts _ (List.mem_cons_of_mem _ (List.mem_append_left _ (List.mem_append_left _ (List.mem_append_left _ (List.mem_append_left _ (List.mem_append_left _ (List.mem_append_left _ (List.mem_append_left _ (List.mem_append_left _ (List.mem_append_left _ (List.mem_of_getElem? (i := 1) rfl)))))))))))) dL_all_23 ?_
  refine lv_lmul hx hb dL_all_26 ?_
  refine lv_aload_n hx hb dL_all_27 rfl (lv_at hl 2 rfl) ?_
  refine lv_iload_n hx hb dL_all_28 rfl (lv_at hl 0 rfl) ?_
  refine mc_V (k := 1) hx hb hml hown hts (mc_links l g ad gm hG σ hσ 3 (by omega)) gL_all_X6_links rfl (by decide +kernel) ⟨Nat.le_of_ble_eq_true rfl, Nat.le_of_ble_eq_true rfl⟩ ⟨Nat.zero_le _, Nat.zero_le _⟩ hK hz hP hD hS hA rfl hl.1 (rest := [.long (((((((((((((((((((((7 * 7) + ((nI (s_n σ 0)).toInt64)) * 101) + ((nI (a_ct σ 0)).toInt64)) * 101) + ((nI (a_hl σ 0)).toInt64)) * 7) + ((nI (s_n σ 1)).toInt64)) * 101) + ((nI (a_ct σ 1)).toInt64)) * 101) + ((nI (a_hl σ 1)).toInt64)) * 7) + ((nI (s_n σ 2)).toInt64)) * 101) + ((nI (a_ct σ 2)).toInt64)) * 101) + ((nI (a_hl σ 2)).toInt64)) * 7) + ((nI (s_n σ 3)).toInt64)) * 101)]) (As := [.int (nI 3)]) rfl (Nat.le_of_ble_eq_true rfl) dL_all_29 (fun z H locs hz hP hD hS => ?_)
  refine lv_i2l (v := (nI (a_ct σ 3)).toInt64) hx hb dL_all_32 rfl ?_
  refine lv_ladd hx hb dL_all_33 ?_
  refine lv_ldc2 (v := 101) hx hb hown (hts _ (List.mem_cons_of_mem _ (List.mem_append_left _ (List.mem_append_left _ (List.mem_append_left _ (List.mem_append_left _ (List.mem_append_left _ (List.mem_append_left _ (List.mem_append_left _ (List.mem_append_left _ (List.mem_append_left _ (List.mem_of_getElem? (i := 1) rfl)))))))))))) dL_all_34 ?_
  refine lv_lmul hx hb dL_all_37 ?_
  refine lv_aload_n hx hb dL_all_38 rfl (lv_at hl 2 rfl) ?_
  refine lv_iload_n hx hb dL_all_39 rfl (lv_at hl 0 rfl) ?_
  refine mc_V (k := 1) hx hb hml hown hts (mc_held l g ad gm hG σ hσ 3 (by omega)) gL_all_X6_held rfl (by decide +kernel) ⟨Nat.le_of_ble_eq_true rfl, Nat.le_of_ble_eq_true rfl⟩ ⟨Nat.zero_le _, Nat.zero_le _⟩ hK hz hP hD hS hA rfl hl.1 (rest := [.long (((((((((((((((((((((((7 * 7) + ((nI (s_n σ 0)).toInt64)) * 101) + ((nI (a_ct σ 0)).toInt64)) * 101) + ((nI (a_hl σ 0)).toInt64)) * 7) + ((nI (s_n σ 1)).toInt64)) * 101) + ((nI (a_ct σ 1)).toInt64)) * 101) + ((nI (a_hl σ 1)).toInt64)) * 7) + ((nI (s_n σ 2)).toInt64)) * 101) + ((nI (a_ct σ 2)).toInt64)) * 101) + ((nI (a_hl σ 2)).toInt64)) * 7) + ((nI (s_n σ 3)).toInt64)) * 101) + ((nI (a_ct σ 3)).toInt64)) * 101)]) (As := [.int (nI 3)]) rfl (Nat.le_of_ble_eq_true rfl) dL_all_40 (fun z H locs hz hP hD hS => ?_)
  refine lv_i2l (v := (nI (a_hl σ 3)).toInt64) hx hb dL_all_43 rfl ?_
  refine lv_ladd hx hb dL_all_44 ?_
  refine lv_lstore_n (lv' := [(1, .long ((((((((((((((((((((((((7 * 7) + ((nI (s_n σ 0)).toInt64)) * 101) + ((nI (a_ct σ 0)).toInt64)) * 101) + ((nI (a_hl σ 0)).toInt64)) * 7) + ((nI (s_n σ 1)).toInt64)) * 101) + ((nI (a_ct σ 1)).toInt64)) * 101) + ((nI (a_hl σ 1)).toInt64)) * 7) + ((nI (s_n σ 2)).toInt64)) * 101) + ((nI (a_ct σ 2)).toInt64)) * 101) + ((nI (a_hl σ 2)).toInt64)) * 7) + ((nI (s_n σ 3)).toInt64)) * 101) + ((nI (a_ct σ 3)).toInt64)) * 101) + ((nI (a_hl σ 3)).toInt64))), (3, .int (nI 3)), (0, .ref (ad 0))]) hx hb dL_all_45 rfl hl (by decide) rfl (fun ls hl => ?_)
  refine lv_iinc (v := nI (3 + 1)) (lv' := [(3, .int (nI (3 + 1))), (1, .long ((((((((((((((((((((((((7 * 7) + ((nI (s_n σ 0)).toInt64)) * 101) + ((nI (a_ct σ 0)).toInt64)) * 101) + ((nI (a_hl σ 0)).toInt64)) * 7) + ((nI (s_n σ 1)).toInt64)) * 101) + ((nI (a_ct σ 1)).toInt64)) * 101) + ((nI (a_hl σ 1)).toInt64)) * 7) + ((nI (s_n σ 2)).toInt64)) * 101) + ((nI (a_ct σ 2)).toInt64)) * 101) + ((nI (a_hl σ 2)).toInt64)) * 7) + ((nI (s_n σ 3)).toInt64)) * 101) + ((nI (a_ct σ 3)).toInt64)) * 101) + ((nI (a_hl σ 3)).toInt64))), (0, .ref (ad 0))]) hx hb dL_all_46 hl (k := 1) rfl (by show nI _ + _ = _; rw [show Int32.ofInt 1 = nI 1 from by decide, nI_add]) (by decide) rfl (fun ls hl => ?_)
  refine lv_goto (tgt := 6) hx hb dL_all_49 (by decide) ?_
  have hl : lv_has ls 4 [(3, .int (nI 4)), (1, .long ((((((((((((((((((((((((7 * 7) + ((nI (s_n σ 0)).toInt64)) * 101) + ((nI (a_ct σ 0)).toInt64)) * 101) + ((nI (a_hl σ 0)).toInt64)) * 7) + ((nI (s_n σ 1)).toInt64)) * 101) + ((nI (a_ct σ 1)).toInt64)) * 101) + ((nI (a_hl σ 1)).toInt64)) * 7) + ((nI (s_n σ 2)).toInt64)) * 101) + ((nI (a_ct σ 2)).toInt64)) * 101) + ((nI (a_hl σ 2)).toInt64)) * 7) + ((nI (s_n σ 3)).toInt64)) * 101) + ((nI (a_ct σ 3)).toInt64)) * 101) + ((nI (a_hl σ 3)).toInt64))), (0, .ref (ad 0))] := hl
  refine lv_iload_n hx hb dL_all_6 rfl (lv_at hl 0 rfl) ?_
  refine lv_iconst (v := nI (4)) hx hb dL_all_7 (by decide) ?_
  refine lv_icmp_ge (tgt := 52) hx hb dL_all_8 (by decide) (fun c_5 => ?_) (fun c_5 => absurd c_5 (by decide))
  refine lv_iconst (v := nI (1)) hx hb dL_all_52 (by decide) ?_
  refine lv_istore_n (lv' := [(3, .int (nI 1)), (1, .long ((((((((((((((((((((((((7 * 7) + ((nI (s_n σ 0)).toInt64)) * 101) + ((nI (a_ct σ 0)).toInt64)) * 101) + ((nI (a_hl σ 0)).toInt64)) * 7) + ((nI (s_n σ 1)).toInt64)) * 101) + ((nI (a_ct σ 1)).toInt64)) * 101) + ((nI (a_hl σ 1)).toInt64)) * 7) + ((nI (s_n σ 2)).toInt64)) * 101) + ((nI (a_ct σ 2)).toInt64)) * 101) + ((nI (a_hl σ 2)).toInt64)) * 7) + ((nI (s_n σ 3)).toInt64)) * 101) + ((nI (a_ct σ 3)).toInt64)) * 101) + ((nI (a_hl σ 3)).toInt64))), (0, .ref (ad 0))]) hx hb dL_all_53 rfl hl (by decide) rfl (fun ls hl => ?_)
  refine lv_iload_n hx hb dL_all_54 rfl (lv_at hl 0 rfl) ?_
  refine lv_iconst (v := nI (3)) hx hb dL_all_55 (by decide) ?_
  refine lv_icmp_ge (tgt := 89) hx hb dL_all_56 (by decide) (fun c_6 => absurd c_6 (by decide)) (fun c_6 => ?_)
  refine lv_lload_n hx hb dL_all_59 rfl (lv_at hl 1 rfl) ?_
  refine lv_ldc2 (v := 401) hx hb hown (hts _ (List.mem_cons_of_mem _ (List.mem_append_left _ (List.mem_append_left _ (List.mem_append_left _ (List.mem_append_left _ (List.mem_append_left _ (List.mem_append_left _ (List.mem_append_left _ (List.mem_append_left _ (List.mem_append_left _ (List.mem_of_getElem? (i := 2) rfl)))))))))))) dL_all_60 ?_
  refine lv_lmul hx hb dL_all_63 ?_
  refine lv_aload_n hx hb dL_all_64 rfl (lv_at hl 2 rfl) ?_
  refine lv_iload_n hx hb dL_all_65 rfl (lv_at hl 0 rfl) ?_
  refine mc_V (k := 1) hx hb hml hown hts (mc_points l g ad gm hG σ hσ 1 (by omega) (by omega)) gL_all_X6_points rfl (by decide +kernel) ⟨Nat.le_of_ble_eq_true rfl, Nat.le_of_ble_eq_true rfl⟩ ⟨Nat.zero_le _, Nat.zero_le _⟩ hK hz hP hD hS hA rfl hl.1 (rest := [.long (((((((((((((((((((((((((7 * 7) + ((nI (s_n σ 0)).toInt64)) * 101) + ((nI (a_ct σ 0)).toInt64)) * 101) + ((nI (a_hl σ 0)).toInt64)) * 7) + ((nI (s_n σ 1)).toInt64)) * 101) + ((nI (a_ct σ 1)).toInt64)) * 101) + ((nI (a_hl σ 1)).toInt64)) * 7) + ((nI (s_n σ 2)).toInt64)) * 101) + ((nI (a_ct σ 2)).toInt64)) * 101) + ((nI (a_hl σ 2)).toInt64)) * 7) + ((nI (s_n σ 3)).toInt64)) * 101) + ((nI (a_ct σ 3)).toInt64)) * 101) + ((nI (a_hl σ 3)).toInt64)) * 401)]) (As := [.int (nI 1)]) rfl (Nat.le_of_ble_eq_true rfl) dL_all_66 (fun z H locs hz hP hD hS => ?_)
  refine lv_i2l (v := (nI (a_pts σ 1)).toInt64) hx hb dL_all_69 rfl ?_
  refine lv_ladd hx hb dL_all_70 ?_
  refine lv_ldc2 (v := 7) hx hb hown (hts _ (List.mem_cons_of_mem _ (List.mem_append_left _ (List.mem_append_left _ (List.mem_append_left _ (List.mem_append_left _ (List.mem_append_left _ (List.mem_append_left _ (List.mem_append_left _ (List.mem_append_left _ (List.mem_append_left _ (List.mem_of_getElem? (i := 0) rfl)))))))))))) dL_all_71 ?_
  refine lv_lmul hx hb dL_all_74 ?_
  refine lv_aload_n hx hb dL_all_75 rfl (lv_at hl 2 rfl) ?_
  refine lv_iload_n hx hb dL_all_76 rfl (lv_at hl 0 rfl) ?_
  refine mc_V (k := 1) hx hb hml hown hts (mc_lacking l g ad gm hG σ hσ 1 (by omega) (by omega)) gL_all_X6_lacking rfl (by decide +kernel) ⟨Nat.le_of_ble_eq_true rfl, Nat.le_of_ble_eq_true rfl⟩ ⟨Nat.zero_le _, Nat.zero_le _⟩ hK hz hP hD hS hA rfl hl.1 (rest := [.long (((((((((((((((((((((((((((7 * 7) + ((nI (s_n σ 0)).toInt64)) * 101) + ((nI (a_ct σ 0)).toInt64)) * 101) + ((nI (a_hl σ 0)).toInt64)) * 7) + ((nI (s_n σ 1)).toInt64)) * 101) + ((nI (a_ct σ 1)).toInt64)) * 101) + ((nI (a_hl σ 1)).toInt64)) * 7) + ((nI (s_n σ 2)).toInt64)) * 101) + ((nI (a_ct σ 2)).toInt64)) * 101) + ((nI (a_hl σ 2)).toInt64)) * 7) + ((nI (s_n σ 3)).toInt64)) * 101) + ((nI (a_ct σ 3)).toInt64)) * 101) + ((nI (a_hl σ 3)).toInt64)) * 401) + ((nI (a_pts σ 1)).toInt64)) * 7)]) (As := [.int (nI 1)]) rfl (Nat.le_of_ble_eq_true rfl) dL_all_77 (fun z H locs hz hP hD hS => ?_)
  refine lv_i2l (v := (nI (a_lk σ 1)).toInt64) hx hb dL_all_80 rfl ?_
  refine lv_ladd hx hb dL_all_81 ?_
  refine lv_lstore_n (lv' := [(1, .long ((((((((((((((((((((((((((((7 * 7) + ((nI (s_n σ 0)).toInt64)) * 101) + ((nI (a_ct σ 0)).toInt64)) * 101) + ((nI (a_hl σ 0)).toInt64)) * 7) + ((nI (s_n σ 1)).toInt64)) * 101) + ((nI (a_ct σ 1)).toInt64)) * 101) + ((nI (a_hl σ 1)).toInt64)) * 7) + ((nI (s_n σ 2)).toInt64)) * 101) + ((nI (a_ct σ 2)).toInt64)) * 101) + ((nI (a_hl σ 2)).toInt64)) * 7) + ((nI (s_n σ 3)).toInt64)) * 101) + ((nI (a_ct σ 3)).toInt64)) * 101) + ((nI (a_hl σ 3)).toInt64)) * 401) + ((nI (a_pts σ 1)).toInt64)) * 7) + ((nI (a_lk σ 1)).toInt64))), (3, .int (nI 1)), (0, .ref (ad 0))]) hx hb dL_all_82 rfl hl (by decide) rfl (fun ls hl => ?_)
  refine lv_iinc (v := nI (1 + 1)) (lv' := [(3, .int (nI (1 + 1))), (1, .long ((((((((((((((((((((((((((((7 * 7) + ((nI (s_n σ 0)).toInt64)) * 101) + ((nI (a_ct σ 0)).toInt64)) * 101) + ((nI (a_hl σ 0)).toInt64)) * 7) + ((nI (s_n σ 1)).toInt64)) * 101) + ((nI (a_ct σ 1)).toInt64)) * 101) + ((nI (a_hl σ 1)).toInt64)) * 7) + ((nI (s_n σ 2)).toInt64)) * 101) + ((nI (a_ct σ 2)).toInt64)) * 101) + ((nI (a_hl σ 2)).toInt64)) * 7) + ((nI (s_n σ 3)).toInt64)) * 101) + ((nI (a_ct σ 3)).toInt64)) * 101) + ((nI (a_hl σ 3)).toInt64)) * 401) + ((nI (a_pts σ 1)).toInt64)) * 7) + ((nI (a_lk σ 1)).toInt64))), (0, .ref (ad 0))]) hx hb dL_all_83 hl (k := 1) rfl (by show nI _ + _ = _; rw [show Int32.ofInt 1 = nI 1 from by decide, nI_add]) (by decide) rfl (fun ls hl => ?_)
  refine lv_goto (tgt := 54) hx hb dL_all_86 (by decide) ?_
  have hl : lv_has ls 4 [(3, .int (nI 2)), (1, .long ((((((((((((((((((((((((((((7 * 7) + ((nI (s_n σ 0)).toInt64)) * 101) + ((nI (a_ct σ 0)).toInt64)) * 101) + ((nI (a_hl σ 0)).toInt64)) * 7) + ((nI (s_n σ 1)).toInt64)) * 101) + ((nI (a_ct σ 1)).toInt64)) * 101) + ((nI (a_hl σ 1)).toInt64)) * 7) + ((nI (s_n σ 2)).toInt64)) * 101) + ((nI (a_ct σ 2)).toInt64)) * 101) + ((nI (a_hl σ 2)).toInt64)) * 7) + ((nI (s_n σ 3)).toInt64)) * 101) + ((nI (a_ct σ 3)).toInt64)) * 101) + ((nI (a_hl σ 3)).toInt64)) * 401) + ((nI (a_pts σ 1)).toInt64)) * 7) + ((nI (a_lk σ 1)).toInt64))), (0, .ref (ad 0))] := hl
  refine lv_iload_n hx hb dL_all_54 rfl (lv_at hl 0 rfl) ?_
  refine lv_iconst (v := nI (3)) hx hb dL_all_55 (by decide) ?_
  refine lv_icmp_ge (tgt := 89) hx hb dL_all_56 (by decide) (fun c_7 => absurd c_7 (by decide)) (fun c_7 => ?_)
  refine lv_lload_n hx hb dL_all_59 rfl (lv_at hl 1 rfl) ?_
  refine lv_ldc2 (v := 401) hx hb hown (hts _ (List.mem_cons_of_mem _ (List.mem_append_left _ (List.mem_append_left _ (List.mem_append_left _ (List.mem_append_left _ (List.mem_append_left _ (List.mem_append_left _ (List.mem_append_left _ (List.mem_append_left _ (List.mem_append_left _ (List.mem_of_getElem? (i := 2) rfl)))))))))))) dL_all_60 ?_
  refine lv_lmul hx hb dL_all_63 ?_
  refine lv_aload_n hx hb dL_all_64 rfl (lv_at hl 2 rfl) ?_
  refine lv_iload_n hx hb dL_all_65 rfl (lv_at hl 0 rfl) ?_
  refine mc_V (k := 1) hx hb hml hown hts (mc_points l g ad gm hG σ hσ 2 (by omega) (by omega)) gL_all_X6_points rfl (by decide +kernel) ⟨Nat.le_of_ble_eq_true rfl, Nat.le_of_ble_eq_true rfl⟩ ⟨Nat.zero_le _, Nat.zero_le _⟩ hK hz hP hD hS hA rfl hl.1 (rest := [.long (((((((((((((((((((((((((((((7 * 7) + ((nI (s_n σ 0)).toInt64)) * 101) + ((nI (a_ct σ 0)).toInt64)) * 101) + ((nI (a_hl σ 0)).toInt64)) * 7) + ((nI (s_n σ 1)).toInt64)) * 101) + ((nI (a_ct σ 1)).toInt64)) * 101) + ((nI (a_hl σ 1)).toInt64)) * 7) + ((nI (s_n σ 2)).toInt64)) * 101) + ((nI (a_ct σ 2)).toInt64)) * 101) + ((nI (a_hl σ 2)).toInt64)) * 7) + ((nI (s_n σ 3)).toInt64)) * 101) + ((nI (a_ct σ 3)).toInt64)) * 101) + ((nI (a_hl σ 3)).toInt64)) * 401) + ((nI (a_pts σ 1)).toInt64)) * 7) + ((nI (a_lk σ 1)).toInt64)) * 401)]) (As := [.int (nI 2)]) rfl (Nat.le_of_ble_eq_true rfl) dL_all_66 (fun z H locs hz hP hD hS => ?_)
  refine lv_i2l (v := (nI (a_pts σ 2)).toInt64) hx hb dL_all_69 rfl ?_
  refine lv_ladd hx hb dL_all_70 ?_
  refine lv_ldc2 (v := 7) hx hb hown (hts _ (List.mem_cons_of_mem _ (List.mem_append_left _ (List.mem_append_left _ (List.mem_append_left _ (List.mem_append_left _ (List.mem_append_left _ (List.mem_append_left _ (List.mem_append_left _ (List.mem_append_left _ (List.mem_append_left _ (List.mem_of_getElem? (i := 0) rfl)))))))))))) dL_all_71 ?_
  refine lv_lmul hx hb dL_all_74 ?_
  refine lv_aload_n hx hb dL_all_75 rfl (lv_at hl 2 rfl) ?_
  refine lv_iload_n hx hb dL_all_76 rfl (lv_at hl 0 rfl) ?_
  refine mc_V (k := 1) hx hb hml hown hts (mc_lacking l g ad gm hG σ hσ 2 (by omega) (by omega)) gL_all_X6_lacking rfl (by decide +kernel) ⟨Nat.le_of_ble_eq_true rfl, Nat.le_of_ble_eq_true rfl⟩ ⟨Nat.zero_le _, Nat.zero_le _⟩ hK hz hP hD hS hA rfl hl.1 (rest := [.long (((((((((((((((((((((((((((((((7 * 7) + ((nI (s_n σ 0)).toInt64)) * 101) + ((nI (a_ct σ 0)).toInt64)) * 101) + ((nI (a_hl σ 0)).toInt64)) * 7) + ((nI (s_n σ 1)).toInt64)) * 101) + ((nI (a_ct σ 1)).toInt64)) * 101) + ((nI (a_hl σ 1)).toInt64)) * 7) + ((nI (s_n σ 2)).toInt64)) * 101) + ((nI (a_ct σ 2)).toInt64)) * 101) + ((nI (a_hl σ 2)).toInt64)) * 7) + ((nI (s_n σ 3)).toInt64)) * 101) + ((nI (a_ct σ 3)).toInt64)) * 101) + ((nI (a_hl σ 3)).toInt64)) * 401) + ((nI (a_pts σ 1)).toInt64)) * 7) + ((nI (a_lk σ 1)).toInt64)) * 401) + ((nI (a_pts σ 2)).toInt64)) * 7)]) (As := [.int (nI 2)]) rfl (Nat.le_of_ble_eq_true rfl) dL_all_77 (fun z H locs hz hP hD hS => ?_)
  refine lv_i2l (v := (nI (a_lk σ 2)).toInt64) hx hb dL_all_80 rfl ?_
  refine lv_ladd hx hb dL_all_81 ?_
  refine lv_lstore_n (lv' := [(1, .long ((((((((((((((((((((((((((((((((7 * 7) + ((nI (s_n σ 0)).toInt64)) * 101) + ((nI (a_ct σ 0)).toInt64)) * 101) + ((nI (a_hl σ 0)).toInt64)) * 7) + ((nI (s_n σ 1)).toInt64)) * 101) + ((nI (a_ct σ 1)).toInt64)) * 101) + ((nI (a_hl σ 1)).toInt64)) * 7) + ((nI (s_n σ 2)).toInt64)) * 101) + ((nI (a_ct σ 2)).toInt64)) * 101) + ((nI (a_hl σ 2)).toInt64)) * 7) + ((nI (s_n σ 3)).toInt64)) * 101) + ((nI (a_ct σ 3)).toInt64)) * 101) + ((nI (a_hl σ 3)).toInt64)) * 401) + ((nI (a_pts σ 1)).toInt64)) * 7) + ((nI (a_lk σ 1)).toInt64)) * 401) + ((nI (a_pts σ 2)).toInt64)) * 7) + ((nI (a_lk σ 2)).toInt64))), (3, .int (nI 2)), (0, .ref (ad 0))]) hx hb dL_all_82 rfl hl (by decide) rfl (fun ls hl => ?_)
  refine lv_iinc (v := nI (2 + 1)) (lv' := [(3, .int (nI (2 + 1))), (1, .long ((((((((((((((((((((((((((((((((7 * 7) + ((nI (s_n σ 0)).toInt64)) * 101) + ((nI (a_ct σ 0)).toInt64)) * 101) + ((nI (a_hl σ 0)).toInt64)) * 7) + ((nI (s_n σ 1)).toInt64)) * 101) + ((nI (a_ct σ 1)).toInt64)) * 101) + ((nI (a_hl σ 1)).toInt64)) * 7) + ((nI (s_n σ 2)).toInt64)) * 101) + ((nI (a_ct σ 2)).toInt64)) * 101) + ((nI (a_hl σ 2)).toInt64)) * 7) + ((nI (s_n σ 3)).toInt64)) * 101) + ((nI (a_ct σ 3)).toInt64)) * 101) + ((nI (a_hl σ 3)).toInt64)) * 401) + ((nI (a_pts σ 1)).toInt64)) * 7) + ((nI (a_lk σ 1)).toInt64)) * 401) + ((nI (a_pts σ 2)).toInt64)) * 7) + ((nI (a_lk σ 2)).toInt64))), (0, .ref (ad 0))]) hx hb dL_all_83 hl (k := 1) rfl (by show nI _ + _ = _; rw [show Int32.ofInt 1 = nI 1 from by decide, nI_add]) (by decide) rfl (fun ls hl => ?_)
  refine lv_goto (tgt := 54) hx hb dL_all_86 (by decide) ?_
  have hl : lv_has ls 4 [(3, .int (nI 3)), (1, .long ((((((((((((((((((((((((((((((((7 * 7) + ((nI (s_n σ 0)).toInt64)) * 101) + ((nI (a_ct σ 0)).toInt64)) * 101) + ((nI (a_hl σ 0)).toInt64)) * 7) + ((nI (s_n σ 1)).toInt64)) * 101) + ((nI (a_ct σ 1)).toInt64)) * 101) + ((nI (a_hl σ 1)).toInt64)) * 7) + ((nI (s_n σ 2)).toInt64)) * 101) + ((nI (a_ct σ 2)).toInt64)) * 101) + ((nI (a_hl σ 2)).toInt64)) * 7) + ((nI (s_n σ 3)).toInt64)) * 101) + ((nI (a_ct σ 3)).toInt64)) * 101) + ((nI (a_hl σ 3)).toInt64)) * 401) + ((nI (a_pts σ 1)).toInt64)) * 7) + ((nI (a_lk σ 1)).toInt64)) * 401) + ((nI (a_pts σ 2)).toInt64)) * 7) + ((nI (a_lk σ 2)).toInt64))), (0, .ref (ad 0))] := hl
  refine lv_iload_n hx hb dL_all_54 rfl (lv_at hl 0 rfl) ?_
  refine lv_iconst (v := nI (3)) hx hb dL_all_55 (by decide) ?_
  refine lv_icmp_ge (tgt := 89) hx hb dL_all_56 (by decide) (fun c_8 => ?_) (fun c_8 => absurd c_8 (by decide))
  refine lv_lload_n hx hb dL_all_89 rfl (lv_at hl 1 rfl) ?_
  exact ml_ret (w1 := MW g ad gm σ z) hx hb hr hlocks hP hS MW_adr ⟨rfl, z, hz, rfl⟩ dL_all_90
