theorem xng_eI : ∀ w ∈ (vx_atS RX6 180 eI xNM).filter (fun w => !goodWord w), w ∈ [Cond.declares (Bundle.initS "java/lang/RuntimeException"), .declares (Bundle.initS "java/lang/Exception"), .declares (Bundle.initS Bundle.tN), .castable eI eI] := by decide +kernel
theorem xot_eI : ∀ w ∈ Cond.classLink RX6 176 eI :: Cond.initialized eI :: vx_atS RX6 180 eI xNM, vx_ot w = true := by decide +kernel

theorem xng_eA : ∀ w ∈ (vx_atS RX6 191 eA xNM).filter (fun w => !goodWord w), w ∈ [Cond.declares (Bundle.initS "java/lang/RuntimeException"), .declares (Bundle.initS "java/lang/Exception"), .declares (Bundle.initS Bundle.tN), .castable eA eA] := by decide +kernel
theorem xot_eA : ∀ w ∈ Cond.classLink RX6 187 eA :: Cond.initialized eA :: vx_atS RX6 191 eA xNM, vx_ot w = true := by decide +kernel

theorem xng_eS : ∀ w ∈ (vx_atS RX6 76 eS xNM).filter (fun w => !goodWord w), w ∈ [Cond.declares (Bundle.initS "java/lang/RuntimeException"), .declares (Bundle.initS "java/lang/Exception"), .declares (Bundle.initS Bundle.tN), .castable eS eS] := by decide +kernel
theorem xot_eS : ∀ w ∈ Cond.classLink RX6 72 eS :: Cond.initialized eS :: vx_atS RX6 76 eS xNM, vx_ot w = true := by decide +kernel

set_option maxRecDepth 100000 in
set_option maxHeartbeats 4000000 in
theorem x_X6_mapAt (l : Launch) (hst : l.stackTraces = false) (g : GG) (X ma f0 f2 f3 f4 f5 f6 f7 : Nat) (bl : Option Nat) (bg : Nat) (gm : Nat → Option Nat) (v : Int32) (hbd : inR v 4 = false) : XM l yX6_mapAt wsX6_mapAt 1 g [.ref X, .int (v)] [(X, .inr (6, [.ref f0, .ref ma, .ref f2, .ref f3, .ref f4, .ref f5, .ref f6, .ref f7, .int (oI (bl)), .int (nI bg)])), (ma, .inl (gO g, 4, .inr (.inr (.inr (.inr (gm))))))] eI := by
  refine fun sz => xm_body (cc := cX6_mapAt) (maxL := 3) (ret := (some (.object "ConceptMarker$ConceptMap"))) (by decide) rfl (Nat.le_of_ble_eq_true rfl) ?_ sz
  intro pg ev s0 mi below meth cd A hx hb hr hml hts hown hlocks hK hA hNX hZ ht H hP hD hS ls hl
  have hl : lv_has ls 3 [(0, .ref X), (1, .int (v))] := hl
  refine lv_iload_n hx hb dX6_mapAt_0 rfl (lv_at hl 1 rfl) ?_
  refine lv_if_lt (tgt := 22) hx hb dX6_mapAt_1 (by decide) (fun c_1 => ?_) (fun c_1 => ?_)
  · skip
    refine lv_null hx hb dX6_mapAt_22 ?_
    refine lv_astore_nN (lv' := [(2, .null), (0, .ref X), (1, .int (v))]) hx hb dX6_mapAt_23 rfl hl (by decide) rfl (fun ls hl => ?_)
    refine lv_aload_nN hx hb dX6_mapAt_24 rfl (lv_at hl 0 rfl) ?_
    refine lv_ifnonnullN hx hb dX6_mapAt_25 ?_
    exact xm_throw (E := eI) (text := "no such map") (ik := 176) (is := 178) (ic := 180) (rest := []) hx hb hst hown (by decide +kernel) (hts _ (List.mem_cons_of_mem _ (List.mem_append_left _ (List.mem_append_left _ (List.mem_of_getElem? (i := 0) rfl))))) (hts _ (List.mem_cons_of_mem _ (List.mem_append_left _ (List.mem_append_left _ (List.mem_of_getElem? (i := 1) rfl))))) (by decide +kernel) (fun _ h => hts _ (List.mem_cons_of_mem _ (List.mem_append_right _ h))) xng_eI xot_eI hNX.2.1.1 hNX hZ hS hP (hl.1.trans hml.symm) ht dX6_mapAt_28 dX6_mapAt_31 dX6_mapAt_32 dX6_mapAt_34 dX6_mapAt_37 (by decide) (Nat.le_of_ble_eq_true rfl) hlocks
  · skip
    refine lv_iload_n hx hb dX6_mapAt_4 rfl (lv_at hl 1 rfl) ?_
    refine lv_aload_n hx hb dX6_mapAt_5 rfl (lv_at hl 0 rfl) ?_
    refine va_get (D := g.1) (ci := 6) (v := .ref ma) (C := RX6) (T := TX6) (N := 10) hx hb hts (fun _ h => (List.mem_cons_of_mem _ (List.mem_append_left _ (List.mem_append_right _ h)))) hown hK.1 hP 0 rfl rfl 1 (by decide) (hts _ (List.mem_cons_of_mem _ (List.mem_append_left _ (List.mem_append_left _ (List.mem_of_getElem? (i := 2) rfl))))) (fun _ h9 => h9) rfl dX6_mapAt_6 ?_
    refine va_alen (v := nI (4)) hx hb hK.1 hP 1 2 rfl rfl rfl dX6_mapAt_9 ?_
    refine lv_icmp_ge (tgt := 22) hx hb dX6_mapAt_10 (by decide) (fun c_2 => ?_) (fun c_2 => ?_)
    · skip
      refine lv_null hx hb dX6_mapAt_22 ?_
      refine lv_astore_nN (lv' := [(2, .null), (0, .ref X), (1, .int (v))]) hx hb dX6_mapAt_23 rfl hl (by decide) rfl (fun ls hl => ?_)
      refine lv_aload_nN hx hb dX6_mapAt_24 rfl (lv_at hl 0 rfl) ?_
      refine lv_ifnonnullN hx hb dX6_mapAt_25 ?_
      exact xm_throw (E := eI) (text := "no such map") (ik := 176) (is := 178) (ic := 180) (rest := []) hx hb hst hown (by decide +kernel) (hts _ (List.mem_cons_of_mem _ (List.mem_append_left _ (List.mem_append_left _ (List.mem_of_getElem? (i := 0) rfl))))) (hts _ (List.mem_cons_of_mem _ (List.mem_append_left _ (List.mem_append_left _ (List.mem_of_getElem? (i := 1) rfl))))) (by decide +kernel) (fun _ h => hts _ (List.mem_cons_of_mem _ (List.mem_append_right _ h))) xng_eI xot_eI hNX.2.1.1 hNX hZ hS hP (hl.1.trans hml.symm) ht dX6_mapAt_28 dX6_mapAt_31 dX6_mapAt_32 dX6_mapAt_34 dX6_mapAt_37 (by decide) (Nat.le_of_ble_eq_true rfl) hlocks
    · skip
      exfalso; rw [inX_1 (by decide) (by assumption) c_2] at hbd; cases hbd

set_option maxRecDepth 100000 in
set_option maxHeartbeats 4000000 in
theorem x_X6_modelAt_0 (l : Launch) (hst : l.stackTraces = false) (g : GG) (X ma f0 f2 f3 f4 f5 f6 f7 : Nat) (bl : Option Nat) (bg : Nat) (gm : Nat → Option Nat) : XM l yX6_modelAt wsX6_modelAt 2 g [.ref X, .int (nI 0)] [(X, .inr (6, [.ref f0, .ref ma, .ref f2, .ref f3, .ref f4, .ref f5, .ref f6, .ref f7, .int (oI (bl)), .int (nI bg)])), (ma, .inl (gO g, 4, .inr (.inr (.inr (.inr (gm))))))] eI := by
  refine fun sz => xm_body (cc := cX6_modelAt) (maxL := 2) (ret := (some (.object "ConceptMarker$ConceptMap"))) (by decide) rfl (Nat.le_of_ble_eq_true rfl) ?_ sz
  intro pg ev s0 mi below meth cd A hx hb hr hml hts hown hlocks hK hA hNX hZ ht H hP hD hS ls hl
  have hl : lv_has ls 2 [(0, .ref X), (1, .int (nI 0))] := hl
  refine lv_iload_n hx hb dX6_modelAt_0 rfl (lv_at hl 1 rfl) ?_
  refine nv_if_ne (tgt := 14) hx hb (by omega) dX6_modelAt_1 (by decide) (fun c_1 => ?_) (fun c_1 => ?_)
  · skip
    exfalso; first | exact c_1 | omega | (simp at c_1; done) | (exact absurd c_1 (by simp))
  · skip
    exact xm_throw (E := eI) (text := "no such model") (ik := 176) (is := 181) (ic := 180) (rest := []) hx hb hst hown (by decide +kernel) (hts _ (List.mem_cons_of_mem _ (List.mem_append_left _ (List.mem_append_left _ (List.mem_of_getElem? (i := 0) rfl))))) (hts _ (List.mem_cons_of_mem _ (List.mem_append_left _ (List.mem_append_left _ (List.mem_of_getElem? (i := 1) rfl))))) (by decide +kernel) (fun _ h => hts _ (List.mem_cons_of_mem _ (List.mem_append_right _ h))) xng_eI xot_eI hNX.2.1.1 hNX hZ hS hP (hl.1.trans hml.symm) ht dX6_modelAt_4 dX6_modelAt_7 dX6_modelAt_8 dX6_modelAt_10 dX6_modelAt_13 (by decide) (Nat.le_of_ble_eq_true rfl) hlocks

set_option maxRecDepth 100000 in
set_option maxHeartbeats 4000000 in
theorem x_X6_modelAt_m (l : Launch) (hst : l.stackTraces = false) (g : GG) (X ma f0 f2 f3 f4 f5 f6 f7 : Nat) (bl : Option Nat) (bg : Nat) (gm : Nat → Option Nat) (v : Int32) (h0 : v ≠ 0) (hbd : inR v 4 = false) : XM l yX6_modelAt wsX6_modelAt 2 g [.ref X, .int (v)] [(X, .inr (6, [.ref f0, .ref ma, .ref f2, .ref f3, .ref f4, .ref f5, .ref f6, .ref f7, .int (oI (bl)), .int (nI bg)])), (ma, .inl (gO g, 4, .inr (.inr (.inr (.inr (gm))))))] eI := by
  refine fun sz => xm_body (cc := cX6_modelAt) (maxL := 2) (ret := (some (.object "ConceptMarker$ConceptMap"))) (by decide) rfl (Nat.le_of_ble_eq_true rfl) ?_ sz
  intro pg ev s0 mi below meth cd A hx hb hr hml hts hown hlocks hK hA hNX hZ ht H hP hD hS ls hl
  have hl : lv_has ls 2 [(0, .ref X), (1, .int (v))] := hl
  refine lv_iload_n hx hb dX6_modelAt_0 rfl (lv_at hl 1 rfl) ?_
  refine lv_if_ne (tgt := 14) hx hb dX6_modelAt_1 (by decide) (fun c_1 => ?_) (fun c_1 => ?_)
  · skip
    refine lv_aload_n hx hb dX6_modelAt_14 rfl (lv_at hl 0 rfl) ?_
    refine lv_iload_n hx hb dX6_modelAt_15 rfl (lv_at hl 1 rfl) ?_
    exact xm_V (k := 1) hx hb hml hown hts (x_X6_mapAt l hst g X ma f0 f2 f3 f4 f5 f6 f7 (bl) (bg) (gm) v hbd) gX6_modelAt_X6_mapAt rfl (by decide +kernel) ⟨Nat.le_of_ble_eq_true rfl, Nat.le_of_ble_eq_true rfl⟩ hK hNX hZ hP hD hS hA [0, 1] rfl (by decide) 0 6 rfl rfl rfl hl.1 (rest := []) (As := [.int (v)]) rfl (Nat.le_of_ble_eq_true rfl) dX6_modelAt_16 hlocks ht
  · skip
    exact absurd c_1 h0

theorem x_X6_modelAt (l : Launch) (hst : l.stackTraces = false) (g : GG) (X ma f0 f2 f3 f4 f5 f6 f7 : Nat) (bl : Option Nat) (bg : Nat) (gm : Nat → Option Nat) (v : Int32) (hbd : inM v = false) : XM l yX6_modelAt wsX6_modelAt 2 g [.ref X, .int v] [(X, .inr (6, [.ref f0, .ref ma, .ref f2, .ref f3, .ref f4, .ref f5, .ref f6, .ref f7, .int (oI (bl)), .int (nI bg)])), (ma, .inl (gO g, 4, .inr (.inr (.inr (.inr (gm))))))] eI := by
  rcases inM_cases hbd with rfl | ⟨h0, h1⟩
  · exact x_X6_modelAt_0 l hst g X ma f0 f2 f3 f4 f5 f6 f7 bl bg gm
  · exact x_X6_modelAt_m l hst g X ma f0 f2 f3 f4 f5 f6 f7 bl bg gm v h0 h1

set_option maxRecDepth 100000 in
set_option maxHeartbeats 4000000 in
theorem x_X6_requireIdea (l : Launch) (hst : l.stackTraces = false) (g : GG) (mk f0 f1 n : Nat) (v : Int32) (hn : n ≤ 5) (hbd : inR v n = false) : XM l yX6_requireIdea wsX6_requireIdea 1 g [.ref mk, .int (v)] [(mk, .inr (1, [.ref f0, .ref f1, .int (nI n)]))] eI := by
  refine fun sz => xm_body (cc := cX6_requireIdea) (maxL := 2) (ret := none) (by decide) rfl (Nat.le_of_ble_eq_true rfl) ?_ sz
  intro pg ev s0 mi below meth cd A hx hb hr hml hts hown hlocks hK hA hNX hZ ht H hP hD hS ls hl
  have hl : lv_has ls 2 [(0, .ref mk), (1, .int (v))] := hl
  refine lv_iload_n hx hb dX6_requireIdea_0 rfl (lv_at hl 1 rfl) ?_
  refine lv_if_lt (tgt := 12) hx hb dX6_requireIdea_1 (by decide) (fun c_1 => ?_) (fun c_1 => ?_)
  · skip
    exact xm_throw (E := eI) (text := "no such idea") (ik := 176) (is := 183) (ic := 180) (rest := []) hx hb hst hown (by decide +kernel) (hts _ (List.mem_cons_of_mem _ (List.mem_append_left _ (List.mem_append_left _ (List.mem_of_getElem? (i := 0) rfl))))) (hts _ (List.mem_cons_of_mem _ (List.mem_append_left _ (List.mem_append_left _ (List.mem_of_getElem? (i := 1) rfl))))) (by decide +kernel) (fun _ h => hts _ (List.mem_cons_of_mem _ (List.mem_append_right _ h))) xng_eI xot_eI hNX.2.1.1 hNX hZ hS hP (hl.1.trans hml.symm) ht dX6_requireIdea_12 dX6_requireIdea_15 dX6_requireIdea_16 dX6_requireIdea_18 dX6_requireIdea_21 (by decide) (Nat.le_of_ble_eq_true rfl) hlocks
  · skip
    refine lv_iload_n hx hb dX6_requireIdea_4 rfl (lv_at hl 1 rfl) ?_
    refine lv_aload_n hx hb dX6_requireIdea_5 rfl (lv_at hl 0 rfl) ?_
    refine va_getN (D := g.1) (ci := 1) (v := .int (nI n)) (C := RX1) (T := TX1) (N := 3) hx hb hts (fun _ h => (List.mem_cons_of_mem _ (List.mem_append_left _ (List.mem_append_right _ h)))) hown hK.1 hP 0 rfl rfl 2 (by decide) (va_Nw.use rfl hK.2.1.2.1) (fun _ h9 => h9) rfl dX6_requireIdea_6 ?_
    refine lv_icmp_lt (tgt := 22) hx hb dX6_requireIdea_9 (by decide) (fun c_2 => ?_) (fun c_2 => ?_)
    · skip
      exfalso; rw [inX_1 (by omega) (by assumption) (Int32.not_le.mpr c_2)] at hbd; cases hbd
    · skip
      exact xm_throw (E := eI) (text := "no such idea") (ik := 176) (is := 183) (ic := 180) (rest := []) hx hb hst hown (by decide +kernel) (hts _ (List.mem_cons_of_mem _ (List.mem_append_left _ (List.mem_append_left _ (List.mem_of_getElem? (i := 0) rfl))))) (hts _ (List.mem_cons_of_mem _ (List.mem_append_left _ (List.mem_append_left _ (List.mem_of_getElem? (i := 1) rfl))))) (by decide +kernel) (fun _ h => hts _ (List.mem_cons_of_mem _ (List.mem_append_right _ h))) xng_eI xot_eI hNX.2.1.1 hNX hZ hS hP (hl.1.trans hml.symm) ht dX6_requireIdea_12 dX6_requireIdea_15 dX6_requireIdea_16 dX6_requireIdea_18 dX6_requireIdea_21 (by decide) (Nat.le_of_ble_eq_true rfl) hlocks

set_option maxRecDepth 100000 in
set_option maxHeartbeats 4000000 in
theorem x_X6_requireWord (l : Launch) (hst : l.stackTraces = false) (g : GG) (v : Int32) (hbd : inR v 32 = false) : XM l yX6_requireWord wsX6_requireWord 1 g [.int (v)] [] eI := by
  refine fun sz => xm_body (cc := cX6_requireWord) (maxL := 1) (ret := none) (by decide) rfl (Nat.le_of_ble_eq_true rfl) ?_ sz
  intro pg ev s0 mi below meth cd A hx hb hr hml hts hown hlocks hK hA hNX hZ ht H hP hD hS ls hl
  have hl : lv_has ls 1 [(0, .int (v))] := hl
  refine lv_iload_n hx hb dX6_requireWord_0 rfl (lv_at hl 0 rfl) ?_
  refine lv_if_lt (tgt := 10) hx hb dX6_requireWord_1 (by decide) (fun c_1 => ?_) (fun c_1 => ?_)
  · skip
    exact xm_throw (E := eI) (text := "no such word") (ik := 176) (is := 185) (ic := 180) (rest := []) hx hb hst hown (by decide +kernel) (hts _ (List.mem_cons_of_mem _ (List.mem_append_left _ (List.mem_of_getElem? (i := 0) rfl)))) (hts _ (List.mem_cons_of_mem _ (List.mem_append_left _ (List.mem_of_getElem? (i := 1) rfl)))) (by decide +kernel) (fun _ h => hts _ (List.mem_cons_of_mem _ (List.mem_append_right _ h))) xng_eI xot_eI hNX.2.1.1 hNX hZ hS hP (hl.1.trans hml.symm) ht dX6_requireWord_10 dX6_requireWord_13 dX6_requireWord_14 dX6_requireWord_16 dX6_requireWord_19 (by decide) (Nat.le_of_ble_eq_true rfl) hlocks
  · skip
    refine lv_iload_n hx hb dX6_requireWord_4 rfl (lv_at hl 0 rfl) ?_
    refine lv_bipush (v := nI (32)) hx hb dX6_requireWord_5 (by decide) ?_
    refine lv_icmp_lt (tgt := 20) hx hb dX6_requireWord_7 (by decide) (fun c_2 => ?_) (fun c_2 => ?_)
    · skip
      exfalso; rw [inX_1 (by decide) (by assumption) (Int32.not_le.mpr c_2)] at hbd; cases hbd
    · skip
      exact xm_throw (E := eI) (text := "no such word") (ik := 176) (is := 185) (ic := 180) (rest := []) hx hb hst hown (by decide +kernel) (hts _ (List.mem_cons_of_mem _ (List.mem_append_left _ (List.mem_of_getElem? (i := 0) rfl)))) (hts _ (List.mem_cons_of_mem _ (List.mem_append_left _ (List.mem_of_getElem? (i := 1) rfl)))) (by decide +kernel) (fun _ h => hts _ (List.mem_cons_of_mem _ (List.mem_append_right _ h))) xng_eI xot_eI hNX.2.1.1 hNX hZ hS hP (hl.1.trans hml.symm) ht dX6_requireWord_10 dX6_requireWord_13 dX6_requireWord_14 dX6_requireWord_16 dX6_requireWord_19 (by decide) (Nat.le_of_ble_eq_true rfl) hlocks

set_option maxRecDepth 100000 in
set_option maxHeartbeats 4000000 in
theorem x_X6_requireKind (l : Launch) (hst : l.stackTraces = false) (g : GG) (v : Int32) (hbd : inR v 4 = false) : XM l yX6_requireKind wsX6_requireKind 1 g [.int (v)] [] eA := by
  refine fun sz => xm_body (cc := cX6_requireKind) (maxL := 1) (ret := none) (by decide) rfl (Nat.le_of_ble_eq_true rfl) ?_ sz
  intro pg ev s0 mi below meth cd A hx hb hr hml hts hown hlocks hK hA hNX hZ ht H hP hD hS ls hl
  have hl : lv_has ls 1 [(0, .int (v))] := hl
  refine lv_iload_n hx hb dX6_requireKind_0 rfl (lv_at hl 0 rfl) ?_
  refine lv_if_lt (tgt := 9) hx hb dX6_requireKind_1 (by decide) (fun c_1 => ?_) (fun c_1 => ?_)
  · skip
    exact xm_throw (E := eA) (text := "no such kind") (ik := 187) (is := 189) (ic := 191) (rest := []) hx hb hst hown (by decide +kernel) (hts _ (List.mem_cons_of_mem _ (List.mem_append_left _ (List.mem_of_getElem? (i := 0) rfl)))) (hts _ (List.mem_cons_of_mem _ (List.mem_append_left _ (List.mem_of_getElem? (i := 1) rfl)))) (by decide +kernel) (fun _ h => hts _ (List.mem_cons_of_mem _ (List.mem_append_right _ h))) xng_eA xot_eA hNX.2.1.2.1 hNX hZ hS hP (hl.1.trans hml.symm) ht dX6_requireKind_9 dX6_requireKind_12 dX6_requireKind_13 dX6_requireKind_15 dX6_requireKind_18 (by decide) (Nat.le_of_ble_eq_true rfl) hlocks
  · skip
    refine lv_iload_n hx hb dX6_requireKind_4 rfl (lv_at hl 0 rfl) ?_
    refine lv_iconst (v := nI (4)) hx hb dX6_requireKind_5 (by decide) ?_
    refine lv_icmp_lt (tgt := 19) hx hb dX6_requireKind_6 (by decide) (fun c_2 => ?_) (fun c_2 => ?_)
    · skip
      exfalso; rw [inX_1 (by decide) (by assumption) (Int32.not_le.mpr c_2)] at hbd; cases hbd
    · skip
      exact xm_throw (E := eA) (text := "no such kind") (ik := 187) (is := 189) (ic := 191) (rest := []) hx hb hst hown (by decide +kernel) (hts _ (List.mem_cons_of_mem _ (List.mem_append_left _ (List.mem_of_getElem? (i := 0) rfl)))) (hts _ (List.mem_cons_of_mem _ (List.mem_append_left _ (List.mem_of_getElem? (i := 1) rfl)))) (by decide +kernel) (fun _ h => hts _ (List.mem_cons_of_mem _ (List.mem_append_right _ h))) xng_eA xot_eA hNX.2.1.2.1 hNX hZ hS hP (hl.1.trans hml.symm) ht dX6_requireKind_9 dX6_requireKind_12 dX6_requireKind_13 dX6_requireKind_15 dX6_requireKind_18 (by decide) (Nat.le_of_ble_eq_true rfl) hlocks

set_option maxRecDepth 100000 in
set_option maxHeartbeats 4000000 in
theorem x_X6_requireLink_2 (l : Launch) (hst : l.stackTraces = false) (g : GG) (mk f0 f1 n : Nat) (a1 b1 d1 : Int32) (hn : n ≤ 5) (hbd : inR a1 n = false) : XM l yX6_requireLink wsX6_requireLink 2 g [.ref mk, .int (a1), .int (b1), .int (d1)] [(mk, .inr (1, [.ref f0, .ref f1, .int (nI n)]))] eI := by
  refine fun sz => xm_body (cc := cX6_requireLink) (maxL := 4) (ret := none) (by decide) rfl (Nat.le_of_ble_eq_true rfl) ?_ sz
  intro pg ev s0 mi below meth cd A hx hb hr hml hts hown hlocks hK hA hNX hZ ht H hP hD hS ls hl
  have hl : lv_has ls 4 [(0, .ref mk), (1, .int (a1)), (2, .int (b1)), (3, .int (d1))] := hl
  refine lv_aload_n hx hb dX6_requireLink_0 rfl (lv_at hl 0 rfl) ?_
  refine lv_iload_n hx hb dX6_requireLink_1 rfl (lv_at hl 1 rfl) ?_
  exact xm_S (k := 2) hx hb hml hown hts (x_X6_requireIdea l hst g mk f0 f1 (n) (a1) (by omega) hbd) gX6_requireLink_X6_requireIdea rfl (by decide +kernel) ⟨Nat.le_of_ble_eq_true rfl, Nat.le_of_ble_eq_true rfl⟩ hK hNX hZ hP hD hS hA [0] rfl (by decide) rfl hl.1 (rest := []) (As := [.ref mk, .int (a1)]) rfl (Nat.le_of_ble_eq_true rfl) dX6_requireLink_2 hlocks ht

set_option maxRecDepth 100000 in
set_option maxHeartbeats 4000000 in
theorem x_X6_requireLink_3 (l : Launch) (hst : l.stackTraces = false) (g : GG) (mk f0 f1 n : Nat) (f : Nat) (b1 d1 : Int32) (hn : n ≤ 5) (hf : f < n) (hbd : inR b1 n = false) : XM l yX6_requireLink wsX6_requireLink 2 g [.ref mk, .int (nI f), .int (b1), .int (d1)] [(mk, .inr (1, [.ref f0, .ref f1, .int (nI n)]))] eI := by
  refine fun sz => xm_body (cc := cX6_requireLink) (maxL := 4) (ret := none) (by decide) rfl (Nat.le_of_ble_eq_true rfl) ?_ sz
  intro pg ev s0 mi below meth cd A hx hb hr hml hts hown hlocks hK hA hNX hZ ht H hP hD hS ls hl
  have hl : lv_has ls 4 [(0, .ref mk), (1, .int (nI f)), (2, .int (b1)), (3, .int (d1))] := hl
  refine lv_aload_n hx hb dX6_requireLink_0 rfl (lv_at hl 0 rfl) ?_
  refine lv_iload_n hx hb dX6_requireLink_1 rfl (lv_at hl 1 rfl) ?_
  refine im_Sv (k := 2) hx hb hml hown hts (c_X6_requireIdea l g mk f0 f1 (n) (f) (by omega) (by omega)) gX6_requireLink_X6_requireIdea rfl (by decide +kernel) ⟨Nat.le_of_ble_eq_true rfl, Nat.le_of_ble_eq_true rfl⟩ ⟨Nat.zero_le _, Nat.zero_le _⟩ hK hP hD hS hA [0] rfl (by decide) rfl hl.1 (rest := []) (As := [.ref mk, .int (nI f)]) rfl (Nat.le_of_ble_eq_true rfl) dX6_requireLink_2 (fun w1 H locs hpo hpd hS => ?_)
  obtain rfl := hpo
  obtain ⟨hP, hD⟩ := hpd [(mk, .inr (1, [.ref f0, .ref f1, .int (nI n)]))] [] 1 rfl rfl [] rfl rfl (by decide) (by decide)
  refine lv_aload_n hx hb dX6_requireLink_5 rfl (lv_at hl 0 rfl) ?_
  refine lv_iload_n hx hb dX6_requireLink_6 rfl (lv_at hl 2 rfl) ?_
  exact xm_S (k := 2) hx hb hml hown hts (x_X6_requireIdea l hst g mk f0 f1 (n) (b1) (by omega) hbd) gX6_requireLink_X6_requireIdea rfl (by decide +kernel) ⟨Nat.le_of_ble_eq_true rfl, Nat.le_of_ble_eq_true rfl⟩ hK hNX hZ hP hD hS hA [0] rfl (by decide) rfl hl.1 (rest := []) (As := [.ref mk, .int (b1)]) rfl (Nat.le_of_ble_eq_true rfl) dX6_requireLink_7 hlocks ht

set_option maxRecDepth 100000 in
set_option maxHeartbeats 4000000 in
theorem x_X6_requireLink_4 (l : Launch) (hst : l.stackTraces = false) (g : GG) (mk f0 f1 n : Nat) (f : Nat) (d1 : Int32) (hn : n ≤ 5) (hf : f < n) : XM l yX6_requireLink wsX6_requireLink 2 g [.ref mk, .int (nI f), .int (nI f), .int (d1)] [(mk, .inr (1, [.ref f0, .ref f1, .int (nI n)]))] eA := by
  refine fun sz => xm_body (cc := cX6_requireLink) (maxL := 4) (ret := none) (by decide) rfl (Nat.le_of_ble_eq_true rfl) ?_ sz
  intro pg ev s0 mi below meth cd A hx hb hr hml hts hown hlocks hK hA hNX hZ ht H hP hD hS ls hl
  have hl : lv_has ls 4 [(0, .ref mk), (1, .int (nI f)), (2, .int (nI f)), (3, .int (d1))] := hl
  refine lv_aload_n hx hb dX6_requireLink_0 rfl (lv_at hl 0 rfl) ?_
  refine lv_iload_n hx hb dX6_requireLink_1 rfl (lv_at hl 1 rfl) ?_
  refine im_Sv (k := 2) hx hb hml hown hts (c_X6_requireIdea l g mk f0 f1 (n) (f) (by omega) (by omega)) gX6_requireLink_X6_requireIdea rfl (by decide +kernel) ⟨Nat.le_of_ble_eq_true rfl, Nat.le_of_ble_eq_true rfl⟩ ⟨Nat.zero_le _, Nat.zero_le _⟩ hK hP hD hS hA [0] rfl (by decide) rfl hl.1 (rest := []) (As := [.ref mk, .int (nI f)]) rfl (Nat.le_of_ble_eq_true rfl) dX6_requireLink_2 (fun w1 H locs hpo hpd hS => ?_)
  obtain rfl := hpo
  obtain ⟨hP, hD⟩ := hpd [(mk, .inr (1, [.ref f0, .ref f1, .int (nI n)]))] [] 1 rfl rfl [] rfl rfl (by decide) (by decide)
  refine lv_aload_n hx hb dX6_requireLink_5 rfl (lv_at hl 0 rfl) ?_
  refine lv_iload_n hx hb dX6_requireLink_6 rfl (lv_at hl 2 rfl) ?_
  refine im_Sv (k := 2) hx hb hml hown hts (c_X6_requireIdea l g mk f0 f1 (n) (f) (by omega) (by omega)) gX6_requireLink_X6_requireIdea rfl (by decide +kernel) ⟨Nat.le_of_ble_eq_true rfl, Nat.le_of_ble_eq_true rfl⟩ ⟨Nat.zero_le _, Nat.zero_le _⟩ hK hP hD hS hA [0] rfl (by decide) rfl hl.1 (rest := []) (As := [.ref mk, .int (nI f)]) rfl (Nat.le_of_ble_eq_true rfl) dX6_requireLink_7 (fun w1 H locs hpo hpd hS => ?_)
  obtain rfl := hpo
  obtain ⟨hP, hD⟩ := hpd [(mk, .inr (1, [.ref f0, .ref f1, .int (nI n)]))] [] 1 rfl rfl [] rfl rfl (by decide) (by decide)
  refine lv_iload_n hx hb dX6_requireLink_10 rfl (lv_at hl 1 rfl) ?_
  refine lv_iload_n hx hb dX6_requireLink_11 rfl (lv_at hl 2 rfl) ?_
  refine nv_icmp_ne (tgt := 25) hx hb (by omega) (by omega) dX6_requireLink_12 (by decide) (fun c_1 => ?_) (fun c_1 => ?_)
  · skip
    exact absurd rfl c_1
  · skip
    exact xm_throw (E := eA) (text := "a link is between different ideas") (ik := 187) (is := 192) (ic := 191) (rest := []) hx hb hst hown (by decide +kernel) (hts _ (List.mem_cons_of_mem _ (List.mem_append_left _ (List.mem_append_left _ (List.mem_append_left _ (List.mem_of_getElem? (i := 0) rfl)))))) (hts _ (List.mem_cons_of_mem _ (List.mem_append_left _ (List.mem_append_left _ (List.mem_append_left _ (List.mem_of_getElem? (i := 1) rfl)))))) (by decide +kernel) (fun _ h => hts _ (List.mem_cons_of_mem _ (List.mem_append_left _ (List.mem_append_right _ h)))) xng_eA xot_eA hNX.2.1.2.1 hNX hZ hS hP (hl.1.trans hml.symm) ht dX6_requireLink_15 dX6_requireLink_18 dX6_requireLink_19 dX6_requireLink_21 dX6_requireLink_24 (by decide) (Nat.le_of_ble_eq_true rfl) hlocks

set_option maxRecDepth 100000 in
set_option maxHeartbeats 4000000 in
theorem x_X6_requireLink_5 (l : Launch) (hst : l.stackTraces = false) (g : GG) (mk f0 f1 n : Nat) (f t : Nat) (d1 : Int32) (hn : n ≤ 5) (hf : f < n) (ht9 : t < n) (hft : f ≠ t) (hbd : inR d1 4 = false) : XM l yX6_requireLink wsX6_requireLink 2 g [.ref mk, .int (nI f), .int (nI t), .int (d1)] [(mk, .inr (1, [.ref f0, .ref f1, .int (nI n)]))] eA := by
  refine fun sz => xm_body (cc := cX6_requireLink) (maxL := 4) (ret := none) (by decide) rfl (Nat.le_of_ble_eq_true rfl) ?_ sz
  intro pg ev s0 mi below meth cd A hx hb hr hml hts hown hlocks hK hA hNX hZ ht H hP hD hS ls hl
  have hl : lv_has ls 4 [(0, .ref mk), (1, .int (nI f)), (2, .int (nI t)), (3, .int (d1))] := hl
  refine lv_aload_n hx hb dX6_requireLink_0 rfl (lv_at hl 0 rfl) ?_
  refine lv_iload_n hx hb dX6_requireLink_1 rfl (lv_at hl 1 rfl) ?_
  refine im_Sv (k := 2) hx hb hml hown hts (c_X6_requireIdea l g mk f0 f1 (n) (f) (by omega) (by omega)) gX6_requireLink_X6_requireIdea rfl (by decide +kernel) ⟨Nat.le_of_ble_eq_true rfl, Nat.le_of_ble_eq_true rfl⟩ ⟨Nat.zero_le _, Nat.zero_le _⟩ hK hP hD hS hA [0] rfl (by decide) rfl hl.1 (rest := []) (As := [.ref mk, .int (nI f)]) rfl (Nat.le_of_ble_eq_true rfl) dX6_requireLink_2 (fun w1 H locs hpo hpd hS => ?_)
  obtain rfl := hpo
  obtain ⟨hP, hD⟩ := hpd [(mk, .inr (1, [.ref f0, .ref f1, .int (nI n)]))] [] 1 rfl rfl [] rfl rfl (by decide) (by decide)
  refine lv_aload_n hx hb dX6_requireLink_5 rfl (lv_at hl 0 rfl) ?_
  refine lv_iload_n hx hb dX6_requireLink_6 rfl (lv_at hl 2 rfl) ?_
  refine im_Sv (k := 2) hx hb hml hown hts (c_X6_requireIdea l g mk f0 f1 (n) (t) (by omega) (by omega)) gX6_requireLink_X6_requireIdea rfl (by decide +kernel) ⟨Nat.le_of_ble_eq_true rfl, Nat.le_of_ble_eq_true rfl⟩ ⟨Nat.zero_le _, Nat.zero_le _⟩ hK hP hD hS hA [0] rfl (by decide) rfl hl.1 (rest := []) (As := [.ref mk, .int (nI t)]) rfl (Nat.le_of_ble_eq_true rfl) dX6_requireLink_7 (fun w1 H locs hpo hpd hS => ?_)
  obtain rfl := hpo
  obtain ⟨hP, hD⟩ := hpd [(mk, .inr (1, [.ref f0, .ref f1, .int (nI n)]))] [] 1 rfl rfl [] rfl rfl (by decide) (by decide)
  refine lv_iload_n hx hb dX6_requireLink_10 rfl (lv_at hl 1 rfl) ?_
  refine lv_iload_n hx hb dX6_requireLink_11 rfl (lv_at hl 2 rfl) ?_
  refine nv_icmp_ne (tgt := 25) hx hb (by omega) (by omega) dX6_requireLink_12 (by decide) (fun c_1 => ?_) (fun c_1 => ?_)
  · skip
    refine lv_iload_n hx hb dX6_requireLink_25 rfl (lv_at hl 3 rfl) ?_
    exact xm_S (k := 1) hx hb hml hown hts (x_X6_requireKind l hst g d1 hbd) gX6_requireLink_X6_requireKind rfl (by decide +kernel) ⟨Nat.le_of_ble_eq_true rfl, Nat.le_of_ble_eq_true rfl⟩ hK hNX hZ hP hD hS hA [] rfl (by decide) rfl hl.1 (rest := []) (As := [.int (d1)]) rfl (Nat.le_of_ble_eq_true rfl) dX6_requireLink_26 hlocks ht
  · skip
    exfalso; first | exact c_1 | omega | (simp at c_1; done) | (exact absurd c_1 (by simp))

theorem x_X6_requireLink (l : Launch) (hst : l.stackTraces = false) (g : GG) (mk f0 f1 n : Nat) (a1 b1 d1 : Int32) (r9 : Nat) (hn : n ≤ 5) (hr9 : lkB2 n a1 b1 d1 = r9) (hr0 : r9 ≠ 0) : XM l yX6_requireLink wsX6_requireLink 2 g [.ref mk, .int a1, .int b1, .int d1] [(mk, .inr (1, [.ref f0, .ref f1, .int (nI n)]))] (xE r9) := by
  rcases lkB2_cases hn hr9 hr0 with ⟨h2, rfl⟩ | ⟨f, h2, rfl, h3, rfl⟩ | ⟨f, h2, rfl, rfl, rfl⟩ | ⟨f, t, h2, rfl, h3, rfl, h4, h5, rfl⟩
  · exact x_X6_requireLink_2 l hst g mk f0 f1 n a1 b1 d1 hn h2
  · exact x_X6_requireLink_3 l hst g mk f0 f1 n f b1 d1 hn h2 h3
  · exact x_X6_requireLink_4 l hst g mk f0 f1 n f d1 hn h2
  · exact x_X6_requireLink_5 l hst g mk f0 f1 n f t d1 hn h2 h3 h4 h5

set_option maxRecDepth 100000 in
set_option maxHeartbeats 4000000 in
theorem x_X6_addIdea_m (l : Launch) (hst : l.stackTraces = false) (g : GG) (X ma f0 f2 f3 f4 f5 f6 f7 : Nat) (bl : Option Nat) (bg : Nat) (gm : Nat → Option Nat) (v : Int32) (hbd : inR v 4 = false) (a1 : Int32)  : XM l yX6_addIdea wsX6_addIdea 3 g [.ref X, .int (v), .int (a1)] [(X, .inr (6, [.ref f0, .ref ma, .ref f2, .ref f3, .ref f4, .ref f5, .ref f6, .ref f7, .int (oI (bl)), .int (nI bg)])), (ma, .inl (gO g, 4, .inr (.inr (.inr (.inr (gm))))))] eI := by
  refine fun sz => xm_body (cc := cX6_addIdea) (maxL := 4) (ret := (some .int)) (by decide) rfl (Nat.le_of_ble_eq_true rfl) ?_ sz
  intro pg ev s0 mi below meth cd A hx hb hr hml hts hown hlocks hK hA hNX hZ ht H hP hD hS ls hl
  have hl : lv_has ls 4 [(0, .ref X), (1, .int (v)), (2, .int (a1))] := hl
  refine lv_aload_n hx hb dX6_addIdea_0 rfl (lv_at hl 0 rfl) ?_
  refine lv_iload_n hx hb dX6_addIdea_1 rfl (lv_at hl 1 rfl) ?_
  exact xm_V (k := 1) hx hb hml hown hts (x_X6_mapAt l hst g X ma f0 f2 f3 f4 f5 f6 f7 (bl) (bg) (gm) v hbd) gX6_addIdea_X6_mapAt rfl (by decide +kernel) ⟨Nat.le_of_ble_eq_true rfl, Nat.le_of_ble_eq_true rfl⟩ hK hNX hZ hP hD hS hA [0, 1] rfl (by decide) 0 6 rfl rfl rfl hl.1 (rest := []) (As := [.int (v)]) rfl (Nat.le_of_ble_eq_true rfl) dX6_addIdea_2 hlocks ht

set_option maxRecDepth 100000 in
set_option maxHeartbeats 4000000 in
theorem x_X6_link_m (l : Launch) (hst : l.stackTraces = false) (g : GG) (X ma f0 f2 f3 f4 f5 f6 f7 : Nat) (bl : Option Nat) (bg : Nat) (gm : Nat → Option Nat) (v : Int32) (hbd : inR v 4 = false) (a1 : Int32) (b1 : Int32) (d1 : Int32)  : XM l yX6_link wsX6_link 5 g [.ref X, .int (v), .int (a1), .int (b1), .int (d1)] [(X, .inr (6, [.ref f0, .ref ma, .ref f2, .ref f3, .ref f4, .ref f5, .ref f6, .ref f7, .int (oI (bl)), .int (nI bg)])), (ma, .inl (gO g, 4, .inr (.inr (.inr (.inr (gm))))))] eI := by
  refine fun sz => xm_body (cc := cX6_link) (maxL := 6) (ret := (some .boolean)) (by decide) rfl (Nat.le_of_ble_eq_true rfl) ?_ sz
  intro pg ev s0 mi below meth cd A hx hb hr hml hts hown hlocks hK hA hNX hZ ht H hP hD hS ls hl
  have hl : lv_has ls 6 [(0, .ref X), (1, .int (v)), (2, .int (a1)), (3, .int (b1)), (4, .int (d1))] := hl
  refine lv_aload_n hx hb dX6_link_0 rfl (lv_at hl 0 rfl) ?_
  refine lv_iload_n hx hb dX6_link_1 rfl (lv_at hl 1 rfl) ?_
  exact xm_V (k := 1) hx hb hml hown hts (x_X6_mapAt l hst g X ma f0 f2 f3 f4 f5 f6 f7 (bl) (bg) (gm) v hbd) gX6_link_X6_mapAt rfl (by decide +kernel) ⟨Nat.le_of_ble_eq_true rfl, Nat.le_of_ble_eq_true rfl⟩ hK hNX hZ hP hD hS hA [0, 1] rfl (by decide) 0 6 rfl rfl rfl hl.1 (rest := []) (As := [.int (v)]) rfl (Nat.le_of_ble_eq_true rfl) dX6_link_2 hlocks ht

set_option maxRecDepth 100000 in
set_option maxHeartbeats 4000000 in
theorem x_X6_clear_m (l : Launch) (hst : l.stackTraces = false) (g : GG) (X ma f0 f2 f3 f4 f5 f6 f7 : Nat) (bl : Option Nat) (bg : Nat) (gm : Nat → Option Nat) (v : Int32) (hbd : inR v 4 = false)  : XM l yX6_clear wsX6_clear 4 g [.ref X, .int (v)] [(X, .inr (6, [.ref f0, .ref ma, .ref f2, .ref f3, .ref f4, .ref f5, .ref f6, .ref f7, .int (oI (bl)), .int (nI bg)])), (ma, .inl (gO g, 4, .inr (.inr (.inr (.inr (gm))))))] eI := by
  refine fun sz => xm_body (cc := cX6_clear) (maxL := 2) (ret := (some .int)) (by decide) rfl (Nat.le_of_ble_eq_true rfl) ?_ sz
  intro pg ev s0 mi below meth cd A hx hb hr hml hts hown hlocks hK hA hNX hZ ht H hP hD hS ls hl
  have hl : lv_has ls 2 [(0, .ref X), (1, .int (v))] := hl
  refine lv_aload_n hx hb dX6_clear_0 rfl (lv_at hl 0 rfl) ?_
  refine lv_iload_n hx hb dX6_clear_1 rfl (lv_at hl 1 rfl) ?_
  exact xm_V (k := 1) hx hb hml hown hts (x_X6_mapAt l hst g X ma f0 f2 f3 f4 f5 f6 f7 (bl) (bg) (gm) v hbd) gX6_clear_X6_mapAt rfl (by decide +kernel) ⟨Nat.le_of_ble_eq_true rfl, Nat.le_of_ble_eq_true rfl⟩ hK hNX hZ hP hD hS hA [0, 1] rfl (by decide) 0 6 rfl rfl rfl hl.1 (rest := []) (As := [.int (v)]) rfl (Nat.le_of_ble_eq_true rfl) dX6_clear_2 hlocks ht

set_option maxRecDepth 100000 in
set_option maxHeartbeats 4000000 in
theorem x_X6_ideas_m (l : Launch) (hst : l.stackTraces = false) (g : GG) (X ma f0 f2 f3 f4 f5 f6 f7 : Nat) (bl : Option Nat) (bg : Nat) (gm : Nat → Option Nat) (v : Int32) (hbd : inR v 4 = false)  : XM l yX6_ideas wsX6_ideas 2 g [.ref X, .int (v)] [(X, .inr (6, [.ref f0, .ref ma, .ref f2, .ref f3, .ref f4, .ref f5, .ref f6, .ref f7, .int (oI (bl)), .int (nI bg)])), (ma, .inl (gO g, 4, .inr (.inr (.inr (.inr (gm))))))] eI := by
  refine fun sz => xm_body (cc := cX6_ideas) (maxL := 2) (ret := (some .int)) (by decide) rfl (Nat.le_of_ble_eq_true rfl) ?_ sz
  intro pg ev s0 mi below meth cd A hx hb hr hml hts hown hlocks hK hA hNX hZ ht H hP hD hS ls hl
  have hl : lv_has ls 2 [(0, .ref X), (1, .int (v))] := hl
  refine lv_aload_n hx hb dX6_ideas_0 rfl (lv_at hl 0 rfl) ?_
  refine lv_iload_n hx hb dX6_ideas_1 rfl (lv_at hl 1 rfl) ?_
  exact xm_V (k := 1) hx hb hml hown hts (x_X6_mapAt l hst g X ma f0 f2 f3 f4 f5 f6 f7 (bl) (bg) (gm) v hbd) gX6_ideas_X6_mapAt rfl (by decide +kernel) ⟨Nat.le_of_ble_eq_true rfl, Nat.le_of_ble_eq_true rfl⟩ hK hNX hZ hP hD hS hA [0, 1] rfl (by decide) 0 6 rfl rfl rfl hl.1 (rest := []) (As := [.int (v)]) rfl (Nat.le_of_ble_eq_true rfl) dX6_ideas_2 hlocks ht

set_option maxRecDepth 100000 in
set_option maxHeartbeats 4000000 in
theorem x_X6_links_m (l : Launch) (hst : l.stackTraces = false) (g : GG) (X ma f0 f2 f3 f4 f5 f6 f7 : Nat) (bl : Option Nat) (bg : Nat) (gm : Nat → Option Nat) (v : Int32) (hbd : inR v 4 = false)  : XM l yX6_links wsX6_links 3 g [.ref X, .int (v)] [(X, .inr (6, [.ref f0, .ref ma, .ref f2, .ref f3, .ref f4, .ref f5, .ref f6, .ref f7, .int (oI (bl)), .int (nI bg)])), (ma, .inl (gO g, 4, .inr (.inr (.inr (.inr (gm))))))] eI := by
  refine fun sz => xm_body (cc := cX6_links) (maxL := 2) (ret := (some .int)) (by decide) rfl (Nat.le_of_ble_eq_true rfl) ?_ sz
  intro pg ev s0 mi below meth cd A hx hb hr hml hts hown hlocks hK hA hNX hZ ht H hP hD hS ls hl
  have hl : lv_has ls 2 [(0, .ref X), (1, .int (v))] := hl
  refine lv_aload_n hx hb dX6_links_0 rfl (lv_at hl 0 rfl) ?_
  refine lv_iload_n hx hb dX6_links_1 rfl (lv_at hl 1 rfl) ?_
  exact xm_V (k := 1) hx hb hml hown hts (x_X6_mapAt l hst g X ma f0 f2 f3 f4 f5 f6 f7 (bl) (bg) (gm) v hbd) gX6_links_X6_mapAt rfl (by decide +kernel) ⟨Nat.le_of_ble_eq_true rfl, Nat.le_of_ble_eq_true rfl⟩ hK hNX hZ hP hD hS hA [0, 1] rfl (by decide) 0 6 rfl rfl rfl hl.1 (rest := []) (As := [.int (v)]) rfl (Nat.le_of_ble_eq_true rfl) dX6_links_2 hlocks ht

set_option maxRecDepth 100000 in
set_option maxHeartbeats 4000000 in
theorem x_X6_holds_m (l : Launch) (hst : l.stackTraces = false) (g : GG) (X ma f0 f2 f3 f4 f5 f6 f7 : Nat) (bl : Option Nat) (bg : Nat) (gm : Nat → Option Nat) (v : Int32) (hbd : inR v 4 = false) (a1 : Int32) (b1 : Int32) (d1 : Int32)  : XM l yX6_holds wsX6_holds 6 g [.ref X, .int (v), .int (a1), .int (b1), .int (d1)] [(X, .inr (6, [.ref f0, .ref ma, .ref f2, .ref f3, .ref f4, .ref f5, .ref f6, .ref f7, .int (oI (bl)), .int (nI bg)])), (ma, .inl (gO g, 4, .inr (.inr (.inr (.inr (gm))))))] eI := by
  refine fun sz => xm_body (cc := cX6_holds) (maxL := 6) (ret := (some .boolean)) (by decide) rfl (Nat.le_of_ble_eq_true rfl) ?_ sz
  intro pg ev s0 mi below meth cd A hx hb hr hml hts hown hlocks hK hA hNX hZ ht H hP hD hS ls hl
  have hl : lv_has ls 6 [(0, .ref X), (1, .int (v)), (2, .int (a1)), (3, .int (b1)), (4, .int (d1))] := hl
  refine lv_aload_n hx hb dX6_holds_0 rfl (lv_at hl 0 rfl) ?_
  refine lv_iload_n hx hb dX6_holds_1 rfl (lv_at hl 1 rfl) ?_
  exact xm_V (k := 1) hx hb hml hown hts (x_X6_mapAt l hst g X ma f0 f2 f3 f4 f5 f6 f7 (bl) (bg) (gm) v hbd) gX6_holds_X6_mapAt rfl (by decide +kernel) ⟨Nat.le_of_ble_eq_true rfl, Nat.le_of_ble_eq_true rfl⟩ hK hNX hZ hP hD hS hA [0, 1] rfl (by decide) 0 6 rfl rfl rfl hl.1 (rest := []) (As := [.int (v)]) rfl (Nat.le_of_ble_eq_true rfl) dX6_holds_2 hlocks ht

set_option maxRecDepth 100000 in
set_option maxHeartbeats 4000000 in
theorem x_X6_held_m (l : Launch) (hst : l.stackTraces = false) (g : GG) (X ma f0 f2 f3 f4 f5 f6 f7 : Nat) (bl : Option Nat) (bg : Nat) (gm : Nat → Option Nat) (v : Int32) (hbd : inR v 4 = false)  : XM l yX6_held wsX6_held 6 g [.ref X, .int (v)] [(X, .inr (6, [.ref f0, .ref ma, .ref f2, .ref f3, .ref f4, .ref f5, .ref f6, .ref f7, .int (oI (bl)), .int (nI bg)])), (ma, .inl (gO g, 4, .inr (.inr (.inr (.inr (gm))))))] eI := by
  refine fun sz => xm_body (cc := cX6_held) (maxL := 2) (ret := (some .int)) (by decide) rfl (Nat.le_of_ble_eq_true rfl) ?_ sz
  intro pg ev s0 mi below meth cd A hx hb hr hml hts hown hlocks hK hA hNX hZ ht H hP hD hS ls hl
  have hl : lv_has ls 2 [(0, .ref X), (1, .int (v))] := hl
  refine lv_aload_n hx hb dX6_held_0 rfl (lv_at hl 0 rfl) ?_
  refine va_get (D := g.1) (ci := 6) (v := .ref f4) (C := RX6) (T := TX6) (N := 10) hx hb hts (fun _ h => (List.mem_cons_of_mem _ (List.mem_append_left _ (List.mem_append_left _ (List.mem_append_left _ (List.mem_append_left _ (List.mem_append_left _ (List.mem_append_right _ h)))))))) hown hK.1 hP 0 rfl rfl 4 (by decide) (hts _ (List.mem_cons_of_mem _ (List.mem_append_left _ (List.mem_append_left _ (List.mem_append_left _ (List.mem_append_left _ (List.mem_append_left _ (List.mem_append_left _ (List.mem_append_left _ (List.mem_of_getElem? (i := 0) rfl)))))))))) (fun _ h9 => h9) rfl dX6_held_1 ?_
  refine lv_aload_n hx hb dX6_held_4 rfl (lv_at hl 0 rfl) ?_
  refine lv_iload_n hx hb dX6_held_5 rfl (lv_at hl 1 rfl) ?_
  exact xm_V (k := 1) hx hb hml hown hts (x_X6_mapAt l hst g X ma f0 f2 f3 f4 f5 f6 f7 (bl) (bg) (gm) v hbd) gX6_held_X6_mapAt rfl (by decide +kernel) ⟨Nat.le_of_ble_eq_true rfl, Nat.le_of_ble_eq_true rfl⟩ hK hNX hZ hP hD hS hA [0, 1] rfl (by decide) 0 6 rfl rfl rfl hl.1 (rest := [.ref f4]) (As := [.int (v)]) rfl (Nat.le_of_ble_eq_true rfl) dX6_held_6 hlocks ht

set_option maxRecDepth 100000 in
set_option maxHeartbeats 4000000 in
theorem x_X6_points_m (l : Launch) (hst : l.stackTraces = false) (g : GG) (X ma f0 f2 f3 f4 f5 f6 f7 : Nat) (bl : Option Nat) (bg : Nat) (gm : Nat → Option Nat) (v : Int32) (hbd : inM v = false)  : XM l yX6_points wsX6_points 10 g [.ref X, .int (v)] [(X, .inr (6, [.ref f0, .ref ma, .ref f2, .ref f3, .ref f4, .ref f5, .ref f6, .ref f7, .int (oI (bl)), .int (nI bg)])), (ma, .inl (gO g, 4, .inr (.inr (.inr (.inr (gm))))))] eI := by
  refine fun sz => xm_body (cc := cX6_points) (maxL := 2) (ret := (some .int)) (by decide) rfl (Nat.le_of_ble_eq_true rfl) ?_ sz
  intro pg ev s0 mi below meth cd A hx hb hr hml hts hown hlocks hK hA hNX hZ ht H hP hD hS ls hl
  have hl : lv_has ls 2 [(0, .ref X), (1, .int (v))] := hl
  refine lv_aload_n hx hb dX6_points_0 rfl (lv_at hl 0 rfl) ?_
  refine lv_aload_n hx hb dX6_points_1 rfl (lv_at hl 0 rfl) ?_
  refine lv_iload_n hx hb dX6_points_2 rfl (lv_at hl 1 rfl) ?_
  exact xm_V (k := 1) hx hb hml hown hts (x_X6_modelAt l hst g X ma f0 f2 f3 f4 f5 f6 f7 (bl) (bg) (gm) v hbd) gX6_points_X6_modelAt rfl (by decide +kernel) ⟨Nat.le_of_ble_eq_true rfl, Nat.le_of_ble_eq_true rfl⟩ hK hNX hZ hP hD hS hA [0, 1] rfl (by decide) 0 6 rfl rfl rfl hl.1 (rest := [.ref X]) (As := [.int (v)]) rfl (Nat.le_of_ble_eq_true rfl) dX6_points_3 hlocks ht

set_option maxRecDepth 100000 in
set_option maxHeartbeats 4000000 in
theorem x_X6_pointsByTrying_m (l : Launch) (hst : l.stackTraces = false) (g : GG) (X ma f0 f2 f3 f4 f5 f6 f7 : Nat) (bl : Option Nat) (bg : Nat) (gm : Nat → Option Nat) (v : Int32) (hbd : inM v = false)  : XM l yX6_pointsByTrying wsX6_pointsByTrying 10 g [.ref X, .int (v)] [(X, .inr (6, [.ref f0, .ref ma, .ref f2, .ref f3, .ref f4, .ref f5, .ref f6, .ref f7, .int (oI (bl)), .int (nI bg)])), (ma, .inl (gO g, 4, .inr (.inr (.inr (.inr (gm))))))] eI := by
  refine fun sz => xm_body (cc := cX6_pointsByTrying) (maxL := 2) (ret := (some .int)) (by decide) rfl (Nat.le_of_ble_eq_true rfl) ?_ sz
  intro pg ev s0 mi below meth cd A hx hb hr hml hts hown hlocks hK hA hNX hZ ht H hP hD hS ls hl
  have hl : lv_has ls 2 [(0, .ref X), (1, .int (v))] := hl
  refine lv_aload_n hx hb dX6_pointsByTrying_0 rfl (lv_at hl 0 rfl) ?_
  refine lv_aload_n hx hb dX6_pointsByTrying_1 rfl (lv_at hl 0 rfl) ?_
  refine lv_iload_n hx hb dX6_pointsByTrying_2 rfl (lv_at hl 1 rfl) ?_
  exact xm_V (k := 1) hx hb hml hown hts (x_X6_modelAt l hst g X ma f0 f2 f3 f4 f5 f6 f7 (bl) (bg) (gm) v hbd) gX6_pointsByTrying_X6_modelAt rfl (by decide +kernel) ⟨Nat.le_of_ble_eq_true rfl, Nat.le_of_ble_eq_true rfl⟩ hK hNX hZ hP hD hS hA [0, 1] rfl (by decide) 0 6 rfl rfl rfl hl.1 (rest := [.ref X]) (As := [.int (v)]) rfl (Nat.le_of_ble_eq_true rfl) dX6_pointsByTrying_3 hlocks ht

set_option maxRecDepth 100000 in
set_option maxHeartbeats 4000000 in
theorem x_X6_mark_m (l : Launch) (hst : l.stackTraces = false) (g : GG) (X ma f0 f2 f3 f4 f5 f6 f7 : Nat) (bl : Option Nat) (bg : Nat) (gm : Nat → Option Nat) (v : Int32) (hbd : inM v = false)  : XM l yX6_mark wsX6_mark 11 g [.ref X, .int (v)] [(X, .inr (6, [.ref f0, .ref ma, .ref f2, .ref f3, .ref f4, .ref f5, .ref f6, .ref f7, .int (oI (bl)), .int (nI bg)])), (ma, .inl (gO g, 4, .inr (.inr (.inr (.inr (gm))))))] eI := by
  refine fun sz => xm_body (cc := cX6_mark) (maxL := 2) (ret := (some .int)) (by decide) rfl (Nat.le_of_ble_eq_true rfl) ?_ sz
  intro pg ev s0 mi below meth cd A hx hb hr hml hts hown hlocks hK hA hNX hZ ht H hP hD hS ls hl
  have hl : lv_has ls 2 [(0, .ref X), (1, .int (v))] := hl
  refine lv_aload_n hx hb dX6_mark_0 rfl (lv_at hl 0 rfl) ?_
  refine lv_aload_n hx hb dX6_mark_1 rfl (lv_at hl 0 rfl) ?_
  refine lv_iload_n hx hb dX6_mark_2 rfl (lv_at hl 1 rfl) ?_
  exact xm_V (k := 1) hx hb hml hown hts (x_X6_modelAt l hst g X ma f0 f2 f3 f4 f5 f6 f7 (bl) (bg) (gm) v hbd) gX6_mark_X6_modelAt rfl (by decide +kernel) ⟨Nat.le_of_ble_eq_true rfl, Nat.le_of_ble_eq_true rfl⟩ hK hNX hZ hP hD hS hA [0, 1] rfl (by decide) 0 6 rfl rfl rfl hl.1 (rest := [.ref X]) (As := [.int (v)]) rfl (Nat.le_of_ble_eq_true rfl) dX6_mark_3 hlocks ht

set_option maxRecDepth 100000 in
set_option maxHeartbeats 4000000 in
theorem x_X6_matchOf_m (l : Launch) (hst : l.stackTraces = false) (g : GG) (X ma f0 f2 f3 f4 f5 f6 f7 : Nat) (bl : Option Nat) (bg : Nat) (gm : Nat → Option Nat) (v : Int32) (hbd : inM v = false) (a1 : Int32)  : XM l yX6_matchOf wsX6_matchOf 10 g [.ref X, .int (v), .int (a1)] [(X, .inr (6, [.ref f0, .ref ma, .ref f2, .ref f3, .ref f4, .ref f5, .ref f6, .ref f7, .int (oI (bl)), .int (nI bg)])), (ma, .inl (gO g, 4, .inr (.inr (.inr (.inr (gm))))))] eI := by
  refine fun sz => xm_body (cc := cX6_matchOf) (maxL := 4) (ret := (some .int)) (by decide) rfl (Nat.le_of_ble_eq_true rfl) ?_ sz
  intro pg ev s0 mi below meth cd A hx hb hr hml hts hown hlocks hK hA hNX hZ ht H hP hD hS ls hl
  have hl : lv_has ls 4 [(0, .ref X), (1, .int (v)), (2, .int (a1))] := hl
  refine lv_aload_n hx hb dX6_matchOf_0 rfl (lv_at hl 0 rfl) ?_
  refine lv_iload_n hx hb dX6_matchOf_1 rfl (lv_at hl 1 rfl) ?_
  exact xm_V (k := 1) hx hb hml hown hts (x_X6_modelAt l hst g X ma f0 f2 f3 f4 f5 f6 f7 (bl) (bg) (gm) v hbd) gX6_matchOf_X6_modelAt rfl (by decide +kernel) ⟨Nat.le_of_ble_eq_true rfl, Nat.le_of_ble_eq_true rfl⟩ hK hNX hZ hP hD hS hA [0, 1] rfl (by decide) 0 6 rfl rfl rfl hl.1 (rest := []) (As := [.int (v)]) rfl (Nat.le_of_ble_eq_true rfl) dX6_matchOf_2 hlocks ht

set_option maxRecDepth 100000 in
set_option maxHeartbeats 4000000 in
theorem x_X6_verdict_m (l : Launch) (hst : l.stackTraces = false) (g : GG) (X ma f0 f2 f3 f4 f5 f6 f7 : Nat) (bl : Option Nat) (bg : Nat) (gm : Nat → Option Nat) (v : Int32) (hbd : inM v = false) (a1 : Int32) (b1 : Int32) (d1 : Int32)  : XM l yX6_verdict wsX6_verdict 10 g [.ref X, .int (v), .int (a1), .int (b1), .int (d1)] [(X, .inr (6, [.ref f0, .ref ma, .ref f2, .ref f3, .ref f4, .ref f5, .ref f6, .ref f7, .int (oI (bl)), .int (nI bg)])), (ma, .inl (gO g, 4, .inr (.inr (.inr (.inr (gm))))))] eI := by
  refine fun sz => xm_body (cc := cX6_verdict) (maxL := 8) (ret := (some .int)) (by decide) rfl (Nat.le_of_ble_eq_true rfl) ?_ sz
  intro pg ev s0 mi below meth cd A hx hb hr hml hts hown hlocks hK hA hNX hZ ht H hP hD hS ls hl
  have hl : lv_has ls 8 [(0, .ref X), (1, .int (v)), (2, .int (a1)), (3, .int (b1)), (4, .int (d1))] := hl
  refine lv_aload_n hx hb dX6_verdict_0 rfl (lv_at hl 0 rfl) ?_
  refine lv_iload_n hx hb dX6_verdict_1 rfl (lv_at hl 1 rfl) ?_
  exact xm_V (k := 1) hx hb hml hown hts (x_X6_modelAt l hst g X ma f0 f2 f3 f4 f5 f6 f7 (bl) (bg) (gm) v hbd) gX6_verdict_X6_modelAt rfl (by decide +kernel) ⟨Nat.le_of_ble_eq_true rfl, Nat.le_of_ble_eq_true rfl⟩ hK hNX hZ hP hD hS hA [0, 1] rfl (by decide) 0 6 rfl rfl rfl hl.1 (rest := []) (As := [.int (v)]) rfl (Nat.le_of_ble_eq_true rfl) dX6_verdict_2 hlocks ht

set_option maxRecDepth 100000 in
set_option maxHeartbeats 4000000 in
theorem x_X6_lacking_m (l : Launch) (hst : l.stackTraces = false) (g : GG) (X ma f0 f2 f3 f4 f5 f6 f7 : Nat) (bl : Option Nat) (bg : Nat) (gm : Nat → Option Nat) (v : Int32) (hbd : inM v = false)  : XM l yX6_lacking wsX6_lacking 10 g [.ref X, .int (v)] [(X, .inr (6, [.ref f0, .ref ma, .ref f2, .ref f3, .ref f4, .ref f5, .ref f6, .ref f7, .int (oI (bl)), .int (nI bg)])), (ma, .inl (gO g, 4, .inr (.inr (.inr (.inr (gm))))))] eI := by
  refine fun sz => xm_body (cc := cX6_lacking) (maxL := 5) (ret := (some .int)) (by decide) rfl (Nat.le_of_ble_eq_true rfl) ?_ sz
  intro pg ev s0 mi below meth cd A hx hb hr hml hts hown hlocks hK hA hNX hZ ht H hP hD hS ls hl
  have hl : lv_has ls 5 [(0, .ref X), (1, .int (v))] := hl
  refine lv_aload_n hx hb dX6_lacking_0 rfl (lv_at hl 0 rfl) ?_
  refine lv_iload_n hx hb dX6_lacking_1 rfl (lv_at hl 1 rfl) ?_
  exact xm_V (k := 1) hx hb hml hown hts (x_X6_modelAt l hst g X ma f0 f2 f3 f4 f5 f6 f7 (bl) (bg) (gm) v hbd) gX6_lacking_X6_modelAt rfl (by decide +kernel) ⟨Nat.le_of_ble_eq_true rfl, Nat.le_of_ble_eq_true rfl⟩ hK hNX hZ hP hD hS hA [0, 1] rfl (by decide) 0 6 rfl rfl rfl hl.1 (rest := []) (As := [.int (v)]) rfl (Nat.le_of_ble_eq_true rfl) dX6_lacking_2 hlocks ht

set_option maxRecDepth 100000 in
set_option maxHeartbeats 4000000 in
theorem x_X6_hint_m (l : Launch) (hst : l.stackTraces = false) (g : GG) (X ma f0 f2 f3 f4 f5 f6 f7 : Nat) (bl : Option Nat) (bg : Nat) (gm : Nat → Option Nat) (v : Int32) (hbd : inM v = false)  : XM l yX6_hint wsX6_hint 11 g [.ref X, .int (v)] [(X, .inr (6, [.ref f0, .ref ma, .ref f2, .ref f3, .ref f4, .ref f5, .ref f6, .ref f7, .int (oI (bl)), .int (nI bg)])), (ma, .inl (gO g, 4, .inr (.inr (.inr (.inr (gm))))))] eI := by
  refine fun sz => xm_body (cc := cX6_hint) (maxL := 2) (ret := (some .int)) (by decide) rfl (Nat.le_of_ble_eq_true rfl) ?_ sz
  intro pg ev s0 mi below meth cd A hx hb hr hml hts hown hlocks hK hA hNX hZ ht H hP hD hS ls hl
  have hl : lv_has ls 2 [(0, .ref X), (1, .int (v))] := hl
  refine lv_aload_n hx hb dX6_hint_0 rfl (lv_at hl 0 rfl) ?_
  refine lv_aload_n hx hb dX6_hint_1 rfl (lv_at hl 0 rfl) ?_
  refine lv_iload_n hx hb dX6_hint_2 rfl (lv_at hl 1 rfl) ?_
  exact xm_V (k := 1) hx hb hml hown hts (x_X6_modelAt l hst g X ma f0 f2 f3 f4 f5 f6 f7 (bl) (bg) (gm) v hbd) gX6_hint_X6_modelAt rfl (by decide +kernel) ⟨Nat.le_of_ble_eq_true rfl, Nat.le_of_ble_eq_true rfl⟩ hK hNX hZ hP hD hS hA [0, 1] rfl (by decide) 0 6 rfl rfl rfl hl.1 (rest := [.ref X]) (As := [.int (v)]) rfl (Nat.le_of_ble_eq_true rfl) dX6_hint_3 hlocks ht

set_option maxRecDepth 100000 in
set_option maxHeartbeats 4000000 in
theorem x_X6_gain_m (l : Launch) (hst : l.stackTraces = false) (g : GG) (X ma f0 f2 f3 f4 f5 f6 f7 : Nat) (bl : Option Nat) (bg : Nat) (gm : Nat → Option Nat) (v : Int32) (hbd : inM v = false)  : XM l yX6_gain wsX6_gain 11 g [.ref X, .int (v)] [(X, .inr (6, [.ref f0, .ref ma, .ref f2, .ref f3, .ref f4, .ref f5, .ref f6, .ref f7, .int (oI (bl)), .int (nI bg)])), (ma, .inl (gO g, 4, .inr (.inr (.inr (.inr (gm))))))] eI := by
  refine fun sz => xm_body (cc := cX6_gain) (maxL := 2) (ret := (some .int)) (by decide) rfl (Nat.le_of_ble_eq_true rfl) ?_ sz
  intro pg ev s0 mi below meth cd A hx hb hr hml hts hown hlocks hK hA hNX hZ ht H hP hD hS ls hl
  have hl : lv_has ls 2 [(0, .ref X), (1, .int (v))] := hl
  refine lv_aload_n hx hb dX6_gain_0 rfl (lv_at hl 0 rfl) ?_
  refine lv_aload_n hx hb dX6_gain_1 rfl (lv_at hl 0 rfl) ?_
  refine lv_iload_n hx hb dX6_gain_2 rfl (lv_at hl 1 rfl) ?_
  exact xm_V (k := 1) hx hb hml hown hts (x_X6_modelAt l hst g X ma f0 f2 f3 f4 f5 f6 f7 (bl) (bg) (gm) v hbd) gX6_gain_X6_modelAt rfl (by decide +kernel) ⟨Nat.le_of_ble_eq_true rfl, Nat.le_of_ble_eq_true rfl⟩ hK hNX hZ hP hD hS hA [0, 1] rfl (by decide) 0 6 rfl rfl rfl hl.1 (rest := [.ref X]) (As := [.int (v)]) rfl (Nat.le_of_ble_eq_true rfl) dX6_gain_3 hlocks ht

set_option maxRecDepth 100000 in
set_option maxHeartbeats 4000000 in
theorem x_X6_synonyms_a (l : Launch) (hst : l.stackTraces = false) (g : GG) (X ma f0 f2 f3 f4 f5 f6 f7 : Nat) (bl : Option Nat) (bg : Nat) (gm : Nat → Option Nat) (v w : Int32) (hbd : inR v 32 = false) : XM l yX6_synonyms wsX6_synonyms 3 g [.ref X, .int (v), .int (w)] [(X, .inr (6, [.ref f0, .ref ma, .ref f2, .ref f3, .ref f4, .ref f5, .ref f6, .ref f7, .int (oI (bl)), .int (nI bg)])), (ma, .inl (gO g, 4, .inr (.inr (.inr (.inr (gm))))))] eI := by
  refine fun sz => xm_body (cc := cX6_synonyms) (maxL := 4) (ret := (some .boolean)) (by decide) rfl (Nat.le_of_ble_eq_true rfl) ?_ sz
  intro pg ev s0 mi below meth cd A hx hb hr hml hts hown hlocks hK hA hNX hZ ht H hP hD hS ls hl
  have hl : lv_has ls 4 [(0, .ref X), (1, .int (v)), (2, .int (w))] := hl
  refine lv_iload_n hx hb dX6_synonyms_0 rfl (lv_at hl 1 rfl) ?_
  exact xm_S (k := 1) hx hb hml hown hts (x_X6_requireWord l hst g v hbd) gX6_synonyms_X6_requireWord rfl (by decide +kernel) ⟨Nat.le_of_ble_eq_true rfl, Nat.le_of_ble_eq_true rfl⟩ hK hNX hZ hP hD hS hA [] rfl (by decide) rfl hl.1 (rest := []) (As := [.int (v)]) rfl (Nat.le_of_ble_eq_true rfl) dX6_synonyms_1 hlocks ht

set_option maxRecDepth 100000 in
set_option maxHeartbeats 4000000 in
theorem x_X6_synonyms_b (l : Launch) (hst : l.stackTraces = false) (g : GG) (X ma f0 f2 f3 f4 f5 f6 f7 : Nat) (bl : Option Nat) (bg : Nat) (gm : Nat → Option Nat) (o1 : Nat) (w : Int32) (h1 : o1 < 32) (hbd : inR w 32 = false) : XM l yX6_synonyms wsX6_synonyms 3 g [.ref X, .int (nI o1), .int (w)] [(X, .inr (6, [.ref f0, .ref ma, .ref f2, .ref f3, .ref f4, .ref f5, .ref f6, .ref f7, .int (oI (bl)), .int (nI bg)])), (ma, .inl (gO g, 4, .inr (.inr (.inr (.inr (gm))))))] eI := by
  refine fun sz => xm_body (cc := cX6_synonyms) (maxL := 4) (ret := (some .boolean)) (by decide) rfl (Nat.le_of_ble_eq_true rfl) ?_ sz
  intro pg ev s0 mi below meth cd A hx hb hr hml hts hown hlocks hK hA hNX hZ ht H hP hD hS ls hl
  have hl : lv_has ls 4 [(0, .ref X), (1, .int (nI o1)), (2, .int (w))] := hl
  refine lv_iload_n hx hb dX6_synonyms_0 rfl (lv_at hl 1 rfl) ?_
  refine im_Sv (k := 1) hx hb hml hown hts (c_X6_requireWord l g (o1) (by omega)) gX6_synonyms_X6_requireWord rfl (by decide +kernel) ⟨Nat.le_of_ble_eq_true rfl, Nat.le_of_ble_eq_true rfl⟩ ⟨Nat.zero_le _, Nat.zero_le _⟩ hK hP hD hS hA [] rfl (by decide) rfl hl.1 (rest := []) (As := [.int (nI o1)]) rfl (Nat.le_of_ble_eq_true rfl) dX6_synonyms_1 (fun w1 H locs hpo hpd hS => ?_)
  obtain rfl := hpo
  obtain ⟨hP, hD⟩ := hpd [(X, .inr (6, [.ref f0, .ref ma, .ref f2, .ref f3, .ref f4, .ref f5, .ref f6, .ref f7, .int (oI (bl)), .int (nI bg)])), (ma, .inl (gO g, 4, .inr (.inr (.inr (.inr (gm))))))] [0, 1] 2 rfl rfl [(X, .inr (6, [.ref f0, .ref ma, .ref f2, .ref f3, .ref f4, .ref f5, .ref f6, .ref f7, .int (oI (bl)), .int (nI bg)])), (ma, .inl (gO g, 4, .inr (.inr (.inr (.inr (gm))))))] rfl rfl (by decide) (by decide)
  refine lv_iload_n hx hb dX6_synonyms_4 rfl (lv_at hl 2 rfl) ?_
  exact xm_S (k := 1) hx hb hml hown hts (x_X6_requireWord l hst g w hbd) gX6_synonyms_X6_requireWord rfl (by decide +kernel) ⟨Nat.le_of_ble_eq_true rfl, Nat.le_of_ble_eq_true rfl⟩ hK hNX hZ hP hD hS hA [] rfl (by decide) rfl hl.1 (rest := []) (As := [.int (w)]) rfl (Nat.le_of_ble_eq_true rfl) dX6_synonyms_5 hlocks ht

set_option maxRecDepth 100000 in
set_option maxHeartbeats 4000000 in
theorem x_X6_chain_a (l : Launch) (hst : l.stackTraces = false) (g : GG) (X ma f0 f2 f3 f4 f5 f6 f7 : Nat) (bl : Option Nat) (bg : Nat) (gm : Nat → Option Nat) (v w z : Int32) (hbd : inR v 4 = false) : XM l yX6_chain wsX6_chain 3 g [.ref X, .int (v), .int (w), .int (z)] [(X, .inr (6, [.ref f0, .ref ma, .ref f2, .ref f3, .ref f4, .ref f5, .ref f6, .ref f7, .int (oI (bl)), .int (nI bg)])), (ma, .inl (gO g, 4, .inr (.inr (.inr (.inr (gm))))))] eA := by
  refine fun sz => xm_body (cc := cX6_chain) (maxL := 4) (ret := (some .int)) (by decide) rfl (Nat.le_of_ble_eq_true rfl) ?_ sz
  intro pg ev s0 mi below meth cd A hx hb hr hml hts hown hlocks hK hA hNX hZ ht H hP hD hS ls hl
  have hl : lv_has ls 4 [(0, .ref X), (1, .int (v)), (2, .int (w)), (3, .int (z))] := hl
  refine lv_iload_n hx hb dX6_chain_0 rfl (lv_at hl 1 rfl) ?_
  exact xm_S (k := 1) hx hb hml hown hts (x_X6_requireKind l hst g v hbd) gX6_chain_X6_requireKind rfl (by decide +kernel) ⟨Nat.le_of_ble_eq_true rfl, Nat.le_of_ble_eq_true rfl⟩ hK hNX hZ hP hD hS hA [] rfl (by decide) rfl hl.1 (rest := []) (As := [.int (v)]) rfl (Nat.le_of_ble_eq_true rfl) dX6_chain_1 hlocks ht

set_option maxRecDepth 100000 in
set_option maxHeartbeats 4000000 in
theorem x_X6_chain_b (l : Launch) (hst : l.stackTraces = false) (g : GG) (X ma f0 f2 f3 f4 f5 f6 f7 : Nat) (bl : Option Nat) (bg : Nat) (gm : Nat → Option Nat) (f : Nat) (w z : Int32) (hf : f < 4) (hbd : inR w 4 = false) : XM l yX6_chain wsX6_chain 3 g [.ref X, .int (nI f), .int (w), .int (z)] [(X, .inr (6, [.ref f0, .ref ma, .ref f2, .ref f3, .ref f4, .ref f5, .ref f6, .ref f7, .int (oI (bl)), .int (nI bg)])), (ma, .inl (gO g, 4, .inr (.inr (.inr (.inr (gm))))))] eA := by
  refine fun sz => xm_body (cc := cX6_chain) (maxL := 4) (ret := (some .int)) (by decide) rfl (Nat.le_of_ble_eq_true rfl) ?_ sz
  intro pg ev s0 mi below meth cd A hx hb hr hml hts hown hlocks hK hA hNX hZ ht H hP hD hS ls hl
  have hl : lv_has ls 4 [(0, .ref X), (1, .int (nI f)), (2, .int (w)), (3, .int (z))] := hl
  refine lv_iload_n hx hb dX6_chain_0 rfl (lv_at hl 1 rfl) ?_
  refine im_Sv (k := 1) hx hb hml hown hts (c_X6_requireKind l g (f) (by omega)) gX6_chain_X6_requireKind rfl (by decide +kernel) ⟨Nat.le_of_ble_eq_true rfl, Nat.le_of_ble_eq_true rfl⟩ ⟨Nat.zero_le _, Nat.zero_le _⟩ hK hP hD hS hA [] rfl (by decide) rfl hl.1 (rest := []) (As := [.int (nI f)]) rfl (Nat.le_of_ble_eq_true rfl) dX6_chain_1 (fun w1 H locs hpo hpd hS => ?_)
  obtain rfl := hpo
  obtain ⟨hP, hD⟩ := hpd [(X, .inr (6, [.ref f0, .ref ma, .ref f2, .ref f3, .ref f4, .ref f5, .ref f6, .ref f7, .int (oI (bl)), .int (nI bg)])), (ma, .inl (gO g, 4, .inr (.inr (.inr (.inr (gm))))))] [0, 1] 2 rfl rfl [(X, .inr (6, [.ref f0, .ref ma, .ref f2, .ref f3, .ref f4, .ref f5, .ref f6, .ref f7, .int (oI (bl)), .int (nI bg)])), (ma, .inl (gO g, 4, .inr (.inr (.inr (.inr (gm))))))] rfl rfl (by decide) (by decide)
  refine lv_iload_n hx hb dX6_chain_4 rfl (lv_at hl 2 rfl) ?_
  exact xm_S (k := 1) hx hb hml hown hts (x_X6_requireKind l hst g w hbd) gX6_chain_X6_requireKind rfl (by decide +kernel) ⟨Nat.le_of_ble_eq_true rfl, Nat.le_of_ble_eq_true rfl⟩ hK hNX hZ hP hD hS hA [] rfl (by decide) rfl hl.1 (rest := []) (As := [.int (w)]) rfl (Nat.le_of_ble_eq_true rfl) dX6_chain_5 hlocks ht

set_option maxRecDepth 100000 in
set_option maxHeartbeats 4000000 in
theorem x_X6_chain_c (l : Launch) (hst : l.stackTraces = false) (g : GG) (X ma f0 f2 f3 f4 f5 f6 f7 : Nat) (bl : Option Nat) (bg : Nat) (gm : Nat → Option Nat) (f t : Nat) (z : Int32) (hf : f < 4) (ht9 : t < 4) (hz : z ≠ -1) (hbd : inR z 4 = false) : XM l yX6_chain wsX6_chain 3 g [.ref X, .int (nI f), .int (nI t), .int (z)] [(X, .inr (6, [.ref f0, .ref ma, .ref f2, .ref f3, .ref f4, .ref f5, .ref f6, .ref f7, .int (oI (bl)), .int (nI bg)])), (ma, .inl (gO g, 4, .inr (.inr (.inr (.inr (gm))))))] eA := by
  refine fun sz => xm_body (cc := cX6_chain) (maxL := 4) (ret := (some .int)) (by decide) rfl (Nat.le_of_ble_eq_true rfl) ?_ sz
  intro pg ev s0 mi below meth cd A hx hb hr hml hts hown hlocks hK hA hNX hZ ht H hP hD hS ls hl
  have hl : lv_has ls 4 [(0, .ref X), (1, .int (nI f)), (2, .int (nI t)), (3, .int (z))] := hl
  refine lv_iload_n hx hb dX6_chain_0 rfl (lv_at hl 1 rfl) ?_
  refine im_Sv (k := 1) hx hb hml hown hts (c_X6_requireKind l g (f) (by omega)) gX6_chain_X6_requireKind rfl (by decide +kernel) ⟨Nat.le_of_ble_eq_true rfl, Nat.le_of_ble_eq_true rfl⟩ ⟨Nat.zero_le _, Nat.zero_le _⟩ hK hP hD hS hA [] rfl (by decide) rfl hl.1 (rest := []) (As := [.int (nI f)]) rfl (Nat.le_of_ble_eq_true rfl) dX6_chain_1 (fun w1 H locs hpo hpd hS => ?_)
  obtain rfl := hpo
  obtain ⟨hP, hD⟩ := hpd [(X, .inr (6, [.ref f0, .ref ma, .ref f2, .ref f3, .ref f4, .ref f5, .ref f6, .ref f7, .int (oI (bl)), .int (nI bg)])), (ma, .inl (gO g, 4, .inr (.inr (.inr (.inr (gm))))))] [0, 1] 2 rfl rfl [(X, .inr (6, [.ref f0, .ref ma, .ref f2, .ref f3, .ref f4, .ref f5, .ref f6, .ref f7, .int (oI (bl)), .int (nI bg)])), (ma, .inl (gO g, 4, .inr (.inr (.inr (.inr (gm))))))] rfl rfl (by decide) (by decide)
  refine lv_iload_n hx hb dX6_chain_4 rfl (lv_at hl 2 rfl) ?_
  refine im_Sv (k := 1) hx hb hml hown hts (c_X6_requireKind l g (t) (by omega)) gX6_chain_X6_requireKind rfl (by decide +kernel) ⟨Nat.le_of_ble_eq_true rfl, Nat.le_of_ble_eq_true rfl⟩ ⟨Nat.zero_le _, Nat.zero_le _⟩ hK hP hD hS hA [] rfl (by decide) rfl hl.1 (rest := []) (As := [.int (nI t)]) rfl (Nat.le_of_ble_eq_true rfl) dX6_chain_5 (fun w1 H locs hpo hpd hS => ?_)
  obtain rfl := hpo
  obtain ⟨hP, hD⟩ := hpd [(X, .inr (6, [.ref f0, .ref ma, .ref f2, .ref f3, .ref f4, .ref f5, .ref f6, .ref f7, .int (oI (bl)), .int (nI bg)])), (ma, .inl (gO g, 4, .inr (.inr (.inr (.inr (gm))))))] [0, 1] 2 rfl rfl [(X, .inr (6, [.ref f0, .ref ma, .ref f2, .ref f3, .ref f4, .ref f5, .ref f6, .ref f7, .int (oI (bl)), .int (nI bg)])), (ma, .inl (gO g, 4, .inr (.inr (.inr (.inr (gm))))))] rfl rfl (by decide) (by decide)
  refine lv_iload_n hx hb dX6_chain_8 rfl (lv_at hl 3 rfl) ?_
  refine lv_iconst (v := -1) hx hb dX6_chain_9 (by decide) ?_
  refine lv_icmp_eq (tgt := 17) hx hb dX6_chain_10 (by decide) (fun c_1 => ?_) (fun c_1 => ?_)
  · skip
    exact absurd c_1 hz
  · skip
    refine lv_iload_n hx hb dX6_chain_13 rfl (lv_at hl 3 rfl) ?_
    exact xm_S (k := 1) hx hb hml hown hts (x_X6_requireKind l hst g z hbd) gX6_chain_X6_requireKind rfl (by decide +kernel) ⟨Nat.le_of_ble_eq_true rfl, Nat.le_of_ble_eq_true rfl⟩ hK hNX hZ hP hD hS hA [] rfl (by decide) rfl hl.1 (rest := []) (As := [.int (z)]) rfl (Nat.le_of_ble_eq_true rfl) dX6_chain_14 hlocks ht

set_option maxRecDepth 100000 in
set_option maxHeartbeats 4000000 in
theorem x_X6_addIdea_w (l : Launch) (hst : l.stackTraces = false) (g : GG) (X ma f0 f2 f3 f4 f5 f6 f7 : Nat) (bl : Option Nat) (bg : Nat) (gm : Nat → Option Nat) (mk w w0 ow rw oa : Nat) (wt mt : Nat → Nat) (n k : Nat) (hk4 : k < 4) (hgk : gm k = some mk) (hn : n ≤ 5) (z : Int32) (hbd : inR z 32 = false) : XM l yX6_addIdea wsX6_addIdea 3 g [.ref X, .int (nI k), .int (z)] [(X, .inr (6, [.ref f0, .ref ma, .ref f2, .ref f3, .ref f4, .ref f5, .ref f6, .ref f7, .int (oI (bl)), .int (nI bg)])), (ma, .inl (gO g, 4, .inr (.inr (.inr (.inr (gm)))))), (mk, .inr (1, [.ref w, .ref ow, .int (nI n)])), (w, .inr (4, [.ref w0])), (w0, .inl (gI g, 5, .inl (rM (wt)))), (ow, .inr (2, [.ref rw])), (rw, .inr (4, [.ref oa])), (oa, .inl (gI g, 25, .inl (rM (mt))))] eI := by
  refine fun sz => xm_body (cc := cX6_addIdea) (maxL := 4) (ret := (some .int)) (by decide) rfl (Nat.le_of_ble_eq_true rfl) ?_ sz
  intro pg ev s0 mi below meth cd A hx hb hr hml hts hown hlocks hK hA hNX hZ ht H hP hD hS ls hl
  have hl : lv_has ls 4 [(0, .ref X), (1, .int (nI k)), (2, .int (z))] := hl
  refine lv_aload_n hx hb dX6_addIdea_0 rfl (lv_at hl 0 rfl) ?_
  refine lv_iload_n hx hb dX6_addIdea_1 rfl (lv_at hl 1 rfl) ?_
  refine im_Vr (k := 1) hx hb hml hown hts (c_X6_mapAt l g X ma f0 f2 f3 f4 f5 f6 f7 (bl) (bg) (gm) k mk hk4 hgk) gX6_addIdea_X6_mapAt rfl (by decide +kernel) ⟨Nat.le_of_ble_eq_true rfl, Nat.le_of_ble_eq_true rfl⟩ ⟨Nat.zero_le _, Nat.zero_le _⟩ hK hP hD hS hA [0, 1] rfl (by decide) 0 6 rfl rfl rfl hl.1 (rest := []) (As := [.int (nI k)]) rfl (Nat.le_of_ble_eq_true rfl) dX6_addIdea_2 (fun x1 w1 H locs hpo hpd hS => ?_)
  obtain ⟨hx1, rfl⟩ := hpo
  have hx1 : mk = x1 := hx1.symm
  subst hx1
  obtain ⟨hP, hD⟩ := hpd [(X, .inr (6, [.ref f0, .ref ma, .ref f2, .ref f3, .ref f4, .ref f5, .ref f6, .ref f7, .int (oI (bl)), .int (nI bg)])), (ma, .inl (gO g, 4, .inr (.inr (.inr (.inr (gm)))))), (mk, .inr (1, [.ref w, .ref ow, .int (nI n)])), (w, .inr (4, [.ref w0])), (w0, .inl (gI g, 5, .inl (rM (wt)))), (ow, .inr (2, [.ref rw])), (rw, .inr (4, [.ref oa])), (oa, .inl (gI g, 25, .inl (rM (mt))))] [2, 3, 4, 5, 6, 7] 8 rfl rfl [(mk, .inr (1, [.ref w, .ref ow, .int (nI n)])), (w, .inr (4, [.ref w0])), (w0, .inl (gI g, 5, .inl (rM (wt)))), (ow, .inr (2, [.ref rw])), (rw, .inr (4, [.ref oa])), (oa, .inl (gI g, 25, .inl (rM (mt))))] rfl rfl (by decide) (by decide)
  refine lv_astore_n (lv' := [(3, .ref mk), (0, .ref X), (1, .int (nI k)), (2, .int (z))]) hx hb dX6_addIdea_5 rfl hl (by decide) rfl (fun ls hl => ?_)
  refine lv_iload_n hx hb dX6_addIdea_6 rfl (lv_at hl 3 rfl) ?_
  exact xm_S (k := 1) hx hb hml hown hts (x_X6_requireWord l hst g z hbd) gX6_addIdea_X6_requireWord rfl (by decide +kernel) ⟨Nat.le_of_ble_eq_true rfl, Nat.le_of_ble_eq_true rfl⟩ hK hNX hZ hP hD hS hA [] rfl (by decide) rfl hl.1 (rest := []) (As := [.int (z)]) rfl (Nat.le_of_ble_eq_true rfl) dX6_addIdea_7 hlocks ht

set_option maxRecDepth 100000 in
set_option maxHeartbeats 4000000 in
theorem x_X6_addIdea_full (l : Launch) (hst : l.stackTraces = false) (g : GG) (X ma f0 f2 f3 f4 f5 f6 f7 : Nat) (bl : Option Nat) (bg : Nat) (gm : Nat → Option Nat) (mk w w0 ow rw oa : Nat) (wt mt : Nat → Nat) (n k : Nat) (hk4 : k < 4) (hgk : gm k = some mk) (hn : n ≤ 5) (wd : Nat) (hwd : wd < 32) (hfl : n = 5) : XM l yX6_addIdea wsX6_addIdea 3 g [.ref X, .int (nI k), .int (nI wd)] [(X, .inr (6, [.ref f0, .ref ma, .ref f2, .ref f3, .ref f4, .ref f5, .ref f6, .ref f7, .int (oI (bl)), .int (nI bg)])), (ma, .inl (gO g, 4, .inr (.inr (.inr (.inr (gm)))))), (mk, .inr (1, [.ref w, .ref ow, .int (nI n)])), (w, .inr (4, [.ref w0])), (w0, .inl (gI g, 5, .inl (rM (wt)))), (ow, .inr (2, [.ref rw])), (rw, .inr (4, [.ref oa])), (oa, .inl (gI g, 25, .inl (rM (mt))))] eS := by
  refine fun sz => xm_body (cc := cX6_addIdea) (maxL := 4) (ret := (some .int)) (by decide) rfl (Nat.le_of_ble_eq_true rfl) ?_ sz
  intro pg ev s0 mi below meth cd A hx hb hr hml hts hown hlocks hK hA hNX hZ ht H hP hD hS ls hl
  have hl : lv_has ls 4 [(0, .ref X), (1, .int (nI k)), (2, .int (nI wd))] := hl
  refine lv_aload_n hx hb dX6_addIdea_0 rfl (lv_at hl 0 rfl) ?_
  refine lv_iload_n hx hb dX6_addIdea_1 rfl (lv_at hl 1 rfl) ?_
  refine im_Vr (k := 1) hx hb hml hown hts (c_X6_mapAt l g X ma f0 f2 f3 f4 f5 f6 f7 (bl) (bg) (gm) k mk hk4 hgk) gX6_addIdea_X6_mapAt rfl (by decide +kernel) ⟨Nat.le_of_ble_eq_true rfl, Nat.le_of_ble_eq_true rfl⟩ ⟨Nat.zero_le _, Nat.zero_le _⟩ hK hP hD hS hA [0, 1] rfl (by decide) 0 6 rfl rfl rfl hl.1 (rest := []) (As := [.int (nI k)]) rfl (Nat.le_of_ble_eq_true rfl) dX6_addIdea_2 (fun x1 w1 H locs hpo hpd hS => ?_)
  obtain ⟨hx1, rfl⟩ := hpo
  have hx1 : mk = x1 := hx1.symm
  subst hx1
  obtain ⟨hP, hD⟩ := hpd [(X, .inr (6, [.ref f0, .ref ma, .ref f2, .ref f3, .ref f4, .ref f5, .ref f6, .ref f7, .int (oI (bl)), .int (nI bg)])), (ma, .inl (gO g, 4, .inr (.inr (.inr (.inr (gm)))))), (mk, .inr (1, [.ref w, .ref ow, .int (nI n)])), (w, .inr (4, [.ref w0])), (w0, .inl (gI g, 5, .inl (rM (wt)))), (ow, .inr (2, [.ref rw])), (rw, .inr (4, [.ref oa])), (oa, .inl (gI g, 25, .inl (rM (mt))))] [2, 3, 4, 5, 6, 7] 8 rfl rfl [(mk, .inr (1, [.ref w, .ref ow, .int (nI n)])), (w, .inr (4, [.ref w0])), (w0, .inl (gI g, 5, .inl (rM (wt)))), (ow, .inr (2, [.ref rw])), (rw, .inr (4, [.ref oa])), (oa, .inl (gI g, 25, .inl (rM (mt))))] rfl rfl (by decide) (by decide)
  refine lv_astore_n (lv' := [(3, .ref mk), (0, .ref X), (1, .int (nI k)), (2, .int (nI wd))]) hx hb dX6_addIdea_5 rfl hl (by decide) rfl (fun ls hl => ?_)
  refine lv_iload_n hx hb dX6_addIdea_6 rfl (lv_at hl 3 rfl) ?_
  refine im_Sv (k := 1) hx hb hml hown hts (c_X6_requireWord l g (wd) (by omega)) gX6_addIdea_X6_requireWord rfl (by decide +kernel) ⟨Nat.le_of_ble_eq_true rfl, Nat.le_of_ble_eq_true rfl⟩ ⟨Nat.zero_le _, Nat.zero_le _⟩ hK hP hD hS hA [] rfl (by decide) rfl hl.1 (rest := []) (As := [.int (nI wd)]) rfl (Nat.le_of_ble_eq_true rfl) dX6_addIdea_7 (fun w1 H locs hpo hpd hS => ?_)
  obtain rfl := hpo
  obtain ⟨hP, hD⟩ := hpd [(X, .inr (6, [.ref f0, .ref ma, .ref f2, .ref f3, .ref f4, .ref f5, .ref f6, .ref f7, .int (oI (bl)), .int (nI bg)])), (ma, .inl (gO g, 4, .inr (.inr (.inr (.inr (gm)))))), (mk, .inr (1, [.ref w, .ref ow, .int (nI n)])), (w, .inr (4, [.ref w0])), (w0, .inl (gI g, 5, .inl (rM (wt)))), (ow, .inr (2, [.ref rw])), (rw, .inr (4, [.ref oa])), (oa, .inl (gI g, 25, .inl (rM (mt))))] [0, 1, 2, 3, 4, 5, 6, 7] 8 rfl rfl [(X, .inr (6, [.ref f0, .ref ma, .ref f2, .ref f3, .ref f4, .ref f5, .ref f6, .ref f7, .int (oI (bl)), .int (nI bg)])), (ma, .inl (gO g, 4, .inr (.inr (.inr (.inr (gm)))))), (mk, .inr (1, [.ref w, .ref ow, .int (nI n)])), (w, .inr (4, [.ref w0])), (w0, .inl (gI g, 5, .inl (rM (wt)))), (ow, .inr (2, [.ref rw])), (rw, .inr (4, [.ref oa])), (oa, .inl (gI g, 25, .inl (rM (mt))))] rfl rfl (by decide) (by decide)
  refine lv_aload_n hx hb dX6_addIdea_10 rfl (lv_at hl 0 rfl) ?_
  refine va_getN (D := g.1) (ci := 1) (v := .int (nI n)) (C := RX1) (T := TX1) (N := 3) hx hb hts (fun _ h => (List.mem_cons_of_mem _ (List.mem_append_left _ (List.mem_append_left _ (List.mem_append_left _ (List.mem_append_left _ (List.mem_append_right _ h))))))) hown hK.1 hP 2 rfl rfl 2 (by decide) (va_Nw.use rfl hK.2.1.2.1) (fun _ h9 => h9) rfl dX6_addIdea_11 ?_
  refine lv_iconst (v := nI (5)) hx hb dX6_addIdea_14 (by decide) ?_
  refine nv_icmp_lt (tgt := 28) hx hb (by omega) (by omega) dX6_addIdea_15 (by decide) (fun c_1 => ?_) (fun c_1 => ?_)
  · skip
    exfalso; first | exact c_1 | omega | (simp at c_1; done) | (exact absurd c_1 (by simp))
  · skip
    exact xm_throw (E := eS) (text := "the map has all the ideas that it can have") (ik := 72) (is := 74) (ic := 76) (rest := []) hx hb hst hown (by decide +kernel) (hts _ (List.mem_cons_of_mem _ (List.mem_append_left _ (List.mem_append_left _ (List.mem_append_left _ (List.mem_append_left _ (List.mem_append_left _ (List.mem_append_left _ (List.mem_of_getElem? (i := 0) rfl))))))))) (hts _ (List.mem_cons_of_mem _ (List.mem_append_left _ (List.mem_append_left _ (List.mem_append_left _ (List.mem_append_left _ (List.mem_append_left _ (List.mem_append_left _ (List.mem_of_getElem? (i := 1) rfl))))))))) (by decide +kernel) (fun _ h => hts _ (List.mem_cons_of_mem _ (List.mem_append_left _ (List.mem_append_right _ h)))) xng_eS xot_eS hNX.2.1.2.2 hNX hZ hS hP (hl.1.trans hml.symm) ht dX6_addIdea_18 dX6_addIdea_21 dX6_addIdea_22 dX6_addIdea_24 dX6_addIdea_27 (by decide) (Nat.le_of_ble_eq_true rfl) hlocks

set_option maxRecDepth 100000 in
set_option maxHeartbeats 4000000 in
theorem x_X6_link_l (l : Launch) (hst : l.stackTraces = false) (g : GG) (X ma f0 f2 f3 f4 f5 f6 f7 : Nat) (bl : Option Nat) (bg : Nat) (gm : Nat → Option Nat) (mk w w0 ow rw oa : Nat) (wt mt : Nat → Nat) (n k : Nat) (hk4 : k < 4) (hgk : gm k = some mk) (hn : n ≤ 5) (a1 b1 d1 : Int32) (r9 : Nat) (hr9 : lkB2 n a1 b1 d1 = r9) (hr0 : r9 ≠ 0)  : XM l yX6_link wsX6_link 5 g [.ref X, .int (nI k), .int (a1), .int (b1), .int (d1)] [(X, .inr (6, [.ref f0, .ref ma, .ref f2, .ref f3, .ref f4, .ref f5, .ref f6, .ref f7, .int (oI (bl)), .int (nI bg)])), (ma, .inl (gO g, 4, .inr (.inr (.inr (.inr (gm)))))), (mk, .inr (1, [.ref w, .ref ow, .int (nI n)])), (w, .inr (4, [.ref w0])), (w0, .inl (gI g, 5, .inl (rM (wt)))), (ow, .inr (2, [.ref rw])), (rw, .inr (4, [.ref oa])), (oa, .inl (gI g, 25, .inl (rM (mt))))] (xE r9) := by
  refine fun sz => xm_body (cc := cX6_link) (maxL := 6) (ret := (some .boolean)) (by decide) rfl (Nat.le_of_ble_eq_true rfl) ?_ sz
  intro pg ev s0 mi below meth cd A hx hb hr hml hts hown hlocks hK hA hNX hZ ht H hP hD hS ls hl
  have hl : lv_has ls 6 [(0, .ref X), (1, .int (nI k)), (2, .int (a1)), (3, .int (b1)), (4, .int (d1))] := hl
  refine lv_aload_n hx hb dX6_link_0 rfl (lv_at hl 0 rfl) ?_
  refine lv_iload_n hx hb dX6_link_1 rfl (lv_at hl 1 rfl) ?_
  refine im_Vr (k := 1) hx hb hml hown hts (c_X6_mapAt l g X ma f0 f2 f3 f4 f5 f6 f7 (bl) (bg) (gm) k mk hk4 hgk) gX6_link_X6_mapAt rfl (by decide +kernel) ⟨Nat.le_of_ble_eq_true rfl, Nat.le_of_ble_eq_true rfl⟩ ⟨Nat.zero_le _, Nat.zero_le _⟩ hK hP hD hS hA [0, 1] rfl (by decide) 0 6 rfl rfl rfl hl.1 (rest := []) (As := [.int (nI k)]) rfl (Nat.le_of_ble_eq_true rfl) dX6_link_2 (fun x1 w1 H locs hpo hpd hS => ?_)
  obtain ⟨hx1, rfl⟩ := hpo
  have hx1 : mk = x1 := hx1.symm
  subst hx1
  obtain ⟨hP, hD⟩ := hpd [(X, .inr (6, [.ref f0, .ref ma, .ref f2, .ref f3, .ref f4, .ref f5, .ref f6, .ref f7, .int (oI (bl)), .int (nI bg)])), (ma, .inl (gO g, 4, .inr (.inr (.inr (.inr (gm)))))), (mk, .inr (1, [.ref w, .ref ow, .int (nI n)])), (w, .inr (4, [.ref w0])), (w0, .inl (gI g, 5, .inl (rM (wt)))), (ow, .inr (2, [.ref rw])), (rw, .inr (4, [.ref oa])), (oa, .inl (gI g, 25, .inl (rM (mt))))] [2, 3, 4, 5, 6, 7] 8 rfl rfl [(mk, .inr (1, [.ref w, .ref ow, .int (nI n)])), (w, .inr (4, [.ref w0])), (w0, .inl (gI g, 5, .inl (rM (wt)))), (ow, .inr (2, [.ref rw])), (rw, .inr (4, [.ref oa])), (oa, .inl (gI g, 25, .inl (rM (mt))))] rfl rfl (by decide) (by decide)
  refine lv_astore (lv' := [(5, .ref mk), (0, .ref X), (1, .int (nI k)), (2, .int (a1)), (3, .int (b1)), (4, .int (d1))]) hx hb dX6_link_5 hl (by decide) rfl (fun ls hl => ?_)
  refine lv_aload hx hb dX6_link_7 (lv_at hl 0 rfl) ?_
  refine lv_iload_n hx hb dX6_link_9 rfl (lv_at hl 3 rfl) ?_
  refine lv_iload_n hx hb dX6_link_10 rfl (lv_at hl 4 rfl) ?_
  refine lv_iload hx hb dX6_link_11 (lv_at hl 5 rfl) ?_
  exact xm_S (k := 4) hx hb hml hown hts (x_X6_requireLink l hst g mk w ow (n) a1 b1 d1 r9 hn hr9 hr0) gX6_link_X6_requireLink rfl (by decide +kernel) ⟨Nat.le_of_ble_eq_true rfl, Nat.le_of_ble_eq_true rfl⟩ hK hNX hZ hP hD hS hA [2] rfl (by decide) rfl hl.1 (rest := []) (As := [.ref mk, .int (a1), .int (b1), .int (d1)]) rfl (Nat.le_of_ble_eq_true rfl) dX6_link_13 hlocks ht

set_option maxRecDepth 100000 in
set_option maxHeartbeats 4000000 in
theorem x_X6_holds_l (l : Launch) (hst : l.stackTraces = false) (g : GG) (X ma f0 f2 f3 f4 f5 f6 f7 : Nat) (bl : Option Nat) (bg : Nat) (gm : Nat → Option Nat) (mk w w0 ow rw oa : Nat) (wt mt : Nat → Nat) (n k : Nat) (hk4 : k < 4) (hgk : gm k = some mk) (hn : n ≤ 5) (a1 b1 d1 : Int32) (r9 : Nat) (hr9 : lkB2 n a1 b1 d1 = r9) (hr0 : r9 ≠ 0)  : XM l yX6_holds wsX6_holds 6 g [.ref X, .int (nI k), .int (a1), .int (b1), .int (d1)] [(X, .inr (6, [.ref f0, .ref ma, .ref f2, .ref f3, .ref f4, .ref f5, .ref f6, .ref f7, .int (oI (bl)), .int (nI bg)])), (ma, .inl (gO g, 4, .inr (.inr (.inr (.inr (gm)))))), (mk, .inr (1, [.ref w, .ref ow, .int (nI n)])), (w, .inr (4, [.ref w0])), (w0, .inl (gI g, 5, .inl (rM (wt)))), (ow, .inr (2, [.ref rw])), (rw, .inr (4, [.ref oa])), (oa, .inl (gI g, 25, .inl (rM (mt))))] (xE r9) := by
  refine fun sz => xm_body (cc := cX6_holds) (maxL := 6) (ret := (some .boolean)) (by decide) rfl (Nat.le_of_ble_eq_true rfl) ?_ sz
  intro pg ev s0 mi below meth cd A hx hb hr hml hts hown hlocks hK hA hNX hZ ht H hP hD hS ls hl
  have hl : lv_has ls 6 [(0, .ref X), (1, .int (nI k)), (2, .int (a1)), (3, .int (b1)), (4, .int (d1))] := hl
  refine lv_aload_n hx hb dX6_holds_0 rfl (lv_at hl 0 rfl) ?_
  refine lv_iload_n hx hb dX6_holds_1 rfl (lv_at hl 1 rfl) ?_
  refine im_Vr (k := 1) hx hb hml hown hts (c_X6_mapAt l g X ma f0 f2 f3 f4 f5 f6 f7 (bl) (bg) (gm) k mk hk4 hgk) gX6_holds_X6_mapAt rfl (by decide +kernel) ⟨Nat.le_of_ble_eq_true rfl, Nat.le_of_ble_eq_true rfl⟩ ⟨Nat.zero_le _, Nat.zero_le _⟩ hK hP hD hS hA [0, 1] rfl (by decide) 0 6 rfl rfl rfl hl.1 (rest := []) (As := [.int (nI k)]) rfl (Nat.le_of_ble_eq_true rfl) dX6_holds_2 (fun x1 w1 H locs hpo hpd hS => ?_)
  obtain ⟨hx1, rfl⟩ := hpo
  have hx1 : mk = x1 := hx1.symm
  subst hx1
  obtain ⟨hP, hD⟩ := hpd [(X, .inr (6, [.ref f0, .ref ma, .ref f2, .ref f3, .ref f4, .ref f5, .ref f6, .ref f7, .int (oI (bl)), .int (nI bg)])), (ma, .inl (gO g, 4, .inr (.inr (.inr (.inr (gm)))))), (mk, .inr (1, [.ref w, .ref ow, .int (nI n)])), (w, .inr (4, [.ref w0])), (w0, .inl (gI g, 5, .inl (rM (wt)))), (ow, .inr (2, [.ref rw])), (rw, .inr (4, [.ref oa])), (oa, .inl (gI g, 25, .inl (rM (mt))))] [2, 3, 4, 5, 6, 7] 8 rfl rfl [(mk, .inr (1, [.ref w, .ref ow, .int (nI n)])), (w, .inr (4, [.ref w0])), (w0, .inl (gI g, 5, .inl (rM (wt)))), (ow, .inr (2, [.ref rw])), (rw, .inr (4, [.ref oa])), (oa, .inl (gI g, 25, .inl (rM (mt))))] rfl rfl (by decide) (by decide)
  refine lv_astore (lv' := [(5, .ref mk), (0, .ref X), (1, .int (nI k)), (2, .int (a1)), (3, .int (b1)), (4, .int (d1))]) hx hb dX6_holds_5 hl (by decide) rfl (fun ls hl => ?_)
  refine lv_aload hx hb dX6_holds_7 (lv_at hl 0 rfl) ?_
  refine lv_iload_n hx hb dX6_holds_9 rfl (lv_at hl 3 rfl) ?_
  refine lv_iload_n hx hb dX6_holds_10 rfl (lv_at hl 4 rfl) ?_
  refine lv_iload hx hb dX6_holds_11 (lv_at hl 5 rfl) ?_
  exact xm_S (k := 4) hx hb hml hown hts (x_X6_requireLink l hst g mk w ow (n) a1 b1 d1 r9 hn hr9 hr0) gX6_holds_X6_requireLink rfl (by decide +kernel) ⟨Nat.le_of_ble_eq_true rfl, Nat.le_of_ble_eq_true rfl⟩ hK hNX hZ hP hD hS hA [2] rfl (by decide) rfl hl.1 (rest := []) (As := [.ref mk, .int (a1), .int (b1), .int (d1)]) rfl (Nat.le_of_ble_eq_true rfl) dX6_holds_13 hlocks ht

set_option maxRecDepth 100000 in
set_option maxHeartbeats 4000000 in
theorem x_X6_verdict_l (l : Launch) (hst : l.stackTraces = false) (g : GG) (X ma f0 f2 f3 f4 f5 f6 f7 : Nat) (bl : Option Nat) (bg : Nat) (gm : Nat → Option Nat) (mk w w0 ow rw oa : Nat) (wt mt : Nat → Nat) (n k : Nat) (hk4 : k < 4) (hgk : gm k = some mk) (hk0 : k ≠ 0) (hn : n ≤ 5) (a1 b1 d1 : Int32) (r9 : Nat) (hr9 : lkB2 n a1 b1 d1 = r9) (hr0 : r9 ≠ 0)  : XM l yX6_verdict wsX6_verdict 10 g [.ref X, .int (nI k), .int (a1), .int (b1), .int (d1)] [(X, .inr (6, [.ref f0, .ref ma, .ref f2, .ref f3, .ref f4, .ref f5, .ref f6, .ref f7, .int (oI (bl)), .int (nI bg)])), (ma, .inl (gO g, 4, .inr (.inr (.inr (.inr (gm)))))), (mk, .inr (1, [.ref w, .ref ow, .int (nI n)])), (w, .inr (4, [.ref w0])), (w0, .inl (gI g, 5, .inl (rM (wt)))), (ow, .inr (2, [.ref rw])), (rw, .inr (4, [.ref oa])), (oa, .inl (gI g, 25, .inl (rM (mt))))] (xE r9) := by
  refine fun sz => xm_body (cc := cX6_verdict) (maxL := 8) (ret := (some .int)) (by decide) rfl (Nat.le_of_ble_eq_true rfl) ?_ sz
  intro pg ev s0 mi below meth cd A hx hb hr hml hts hown hlocks hK hA hNX hZ ht H hP hD hS ls hl
  have hl : lv_has ls 8 [(0, .ref X), (1, .int (nI k)), (2, .int (a1)), (3, .int (b1)), (4, .int (d1))] := hl
  refine lv_aload_n hx hb dX6_verdict_0 rfl (lv_at hl 0 rfl) ?_
  refine lv_iload_n hx hb dX6_verdict_1 rfl (lv_at hl 1 rfl) ?_
  refine im_Vr (k := 1) hx hb hml hown hts (c_X6_modelAt l g X ma f0 f2 f3 f4 f5 f6 f7 (bl) (bg) (gm) k mk hk4 hgk hk0) gX6_verdict_X6_modelAt rfl (by decide +kernel) ⟨Nat.le_of_ble_eq_true rfl, Nat.le_of_ble_eq_true rfl⟩ ⟨Nat.zero_le _, Nat.zero_le _⟩ hK hP hD hS hA [0, 1] rfl (by decide) 0 6 rfl rfl rfl hl.1 (rest := []) (As := [.int (nI k)]) rfl (Nat.le_of_ble_eq_true rfl) dX6_verdict_2 (fun x1 w1 H locs hpo hpd hS => ?_)
  obtain ⟨hx1, rfl⟩ := hpo
  have hx1 : mk = x1 := hx1.symm
  subst hx1
  obtain ⟨hP, hD⟩ := hpd [(X, .inr (6, [.ref f0, .ref ma, .ref f2, .ref f3, .ref f4, .ref f5, .ref f6, .ref f7, .int (oI (bl)), .int (nI bg)])), (ma, .inl (gO g, 4, .inr (.inr (.inr (.inr (gm)))))), (mk, .inr (1, [.ref w, .ref ow, .int (nI n)])), (w, .inr (4, [.ref w0])), (w0, .inl (gI g, 5, .inl (rM (wt)))), (ow, .inr (2, [.ref rw])), (rw, .inr (4, [.ref oa])), (oa, .inl (gI g, 25, .inl (rM (mt))))] [2, 3, 4, 5, 6, 7] 8 rfl rfl [(mk, .inr (1, [.ref w, .ref ow, .int (nI n)])), (w, .inr (4, [.ref w0])), (w0, .inl (gI g, 5, .inl (rM (wt)))), (ow, .inr (2, [.ref rw])), (rw, .inr (4, [.ref oa])), (oa, .inl (gI g, 25, .inl (rM (mt))))] rfl rfl (by decide) (by decide)
  refine lv_astore (lv' := [(5, .ref mk), (0, .ref X), (1, .int (nI k)), (2, .int (a1)), (3, .int (b1)), (4, .int (d1))]) hx hb dX6_verdict_5 hl (by decide) rfl (fun ls hl => ?_)
  refine lv_aload hx hb dX6_verdict_7 (lv_at hl 0 rfl) ?_
  refine lv_iload_n hx hb dX6_verdict_9 rfl (lv_at hl 3 rfl) ?_
  refine lv_iload_n hx hb dX6_verdict_10 rfl (lv_at hl 4 rfl) ?_
  refine lv_iload hx hb dX6_verdict_11 (lv_at hl 5 rfl) ?_
  exact xm_S (k := 4) hx hb hml hown hts (x_X6_requireLink l hst g mk w ow (n) a1 b1 d1 r9 hn hr9 hr0) gX6_verdict_X6_requireLink rfl (by decide +kernel) ⟨Nat.le_of_ble_eq_true rfl, Nat.le_of_ble_eq_true rfl⟩ hK hNX hZ hP hD hS hA [2] rfl (by decide) rfl hl.1 (rest := []) (As := [.ref mk, .int (a1), .int (b1), .int (d1)]) rfl (Nat.le_of_ble_eq_true rfl) dX6_verdict_13 hlocks ht

set_option maxRecDepth 100000 in
set_option maxHeartbeats 4000000 in
theorem x_X6_verdict_no (l : Launch) (hst : l.stackTraces = false) (g : GG) (X ma f0 f2 f3 f4 f5 f6 f7 : Nat) (bl : Option Nat) (bg : Nat) (gm : Nat → Option Nat) (mk w w0 ow rw oa : Nat) (wt mt : Nat → Nat) (n k : Nat) (hk4 : k < 4) (hgk : gm k = some mk) (hk0 : k ≠ 0) (hn : n ≤ 5) (f t d : Nat) (hf : f < n) (ht9 : t < n) (hft : f ≠ t) (hd4 : d < 4) (hm : mOk mt) (hno : (mt (f * 5 + t)).testBit d = false) : XM l yX6_verdict wsX6_verdict 10 g [.ref X, .int (nI k), .int (nI f), .int (nI t), .int (nI d)] [(X, .inr (6, [.ref f0, .ref ma, .ref f2, .ref f3, .ref f4, .ref f5, .ref f6, .ref f7, .int (oI (bl)), .int (nI bg)])), (ma, .inl (gO g, 4, .inr (.inr (.inr (.inr (gm)))))), (mk, .inr (1, [.ref w, .ref ow, .int (nI n)])), (w, .inr (4, [.ref w0])), (w0, .inl (gI g, 5, .inl (rM (wt)))), (ow, .inr (2, [.ref rw])), (rw, .inr (4, [.ref oa])), (oa, .inl (gI g, 25, .inl (rM (mt))))] eS := by
  refine fun sz => xm_body (cc := cX6_verdict) (maxL := 8) (ret := (some .int)) (by decide) rfl (Nat.le_of_ble_eq_true rfl) ?_ sz
  intro pg ev s0 mi below meth cd A hx hb hr hml hts hown hlocks hK hA hNX hZ ht H hP hD hS ls hl
  have hl : lv_has ls 8 [(0, .ref X), (1, .int (nI k)), (2, .int (nI f)), (3, .int (nI t)), (4, .int (nI d))] := hl
  refine lv_aload_n hx hb dX6_verdict_0 rfl (lv_at hl 0 rfl) ?_
  refine lv_iload_n hx hb dX6_verdict_1 rfl (lv_at hl 1 rfl) ?_
  refine im_Vr (k := 1) hx hb hml hown hts (c_X6_modelAt l g X ma f0 f2 f3 f4 f5 f6 f7 (bl) (bg) (gm) k mk hk4 hgk hk0) gX6_verdict_X6_modelAt rfl (by decide +kernel) ⟨Nat.le_of_ble_eq_true rfl, Nat.le_of_ble_eq_true rfl⟩ ⟨Nat.zero_le _, Nat.zero_le _⟩ hK hP hD hS hA [0, 1] rfl (by decide) 0 6 rfl rfl rfl hl.1 (rest := []) (As := [.int (nI k)]) rfl (Nat.le_of_ble_eq_true rfl) dX6_verdict_2 (fun x1 w1 H locs hpo hpd hS => ?_)
  obtain ⟨hx1, rfl⟩ := hpo
  have hx1 : mk = x1 := hx1.symm
  subst hx1
  obtain ⟨hP, hD⟩ := hpd [(X, .inr (6, [.ref f0, .ref ma, .ref f2, .ref f3, .ref f4, .ref f5, .ref f6, .ref f7, .int (oI (bl)), .int (nI bg)])), (ma, .inl (gO g, 4, .inr (.inr (.inr (.inr (gm)))))), (mk, .inr (1, [.ref w, .ref ow, .int (nI n)])), (w, .inr (4, [.ref w0])), (w0, .inl (gI g, 5, .inl (rM (wt)))), (ow, .inr (2, [.ref rw])), (rw, .inr (4, [.ref oa])), (oa, .inl (gI g, 25, .inl (rM (mt))))] [2, 3, 4, 5, 6, 7] 8 rfl rfl [(mk, .inr (1, [.ref w, .ref ow, .int (nI n)])), (w, .inr (4, [.ref w0])), (w0, .inl (gI g, 5, .inl (rM (wt)))), (ow, .inr (2, [.ref rw])), (rw, .inr (4, [.ref oa])), (oa, .inl (gI g, 25, .inl (rM (mt))))] rfl rfl (by decide) (by decide)
  refine lv_astore (lv' := [(5, .ref mk), (0, .ref X), (1, .int (nI k)), (2, .int (nI f)), (3, .int (nI t)), (4, .int (nI d))]) hx hb dX6_verdict_5 hl (by decide) rfl (fun ls hl => ?_)
  refine lv_aload hx hb dX6_verdict_7 (lv_at hl 0 rfl) ?_
  refine lv_iload_n hx hb dX6_verdict_9 rfl (lv_at hl 3 rfl) ?_
  refine lv_iload_n hx hb dX6_verdict_10 rfl (lv_at hl 4 rfl) ?_
  refine lv_iload hx hb dX6_verdict_11 (lv_at hl 5 rfl) ?_
  refine im_Sv (k := 4) hx hb hml hown hts (c_X6_requireLink l g mk w ow (n) (f) (t) (d) (by omega) (by omega) (by omega) (by omega) (by omega)) gX6_verdict_X6_requireLink rfl (by decide +kernel) ⟨Nat.le_of_ble_eq_true rfl, Nat.le_of_ble_eq_true rfl⟩ ⟨Nat.zero_le _, Nat.zero_le _⟩ hK hP hD hS hA [2] rfl (by decide) rfl hl.1 (rest := []) (As := [.ref mk, .int (nI f), .int (nI t), .int (nI d)]) rfl (Nat.le_of_ble_eq_true rfl) dX6_verdict_13 (fun w1 H locs hpo hpd hS => ?_)
  obtain rfl := hpo
  obtain ⟨hP, hD⟩ := hpd [(X, .inr (6, [.ref f0, .ref ma, .ref f2, .ref f3, .ref f4, .ref f5, .ref f6, .ref f7, .int (oI (bl)), .int (nI bg)])), (ma, .inl (gO g, 4, .inr (.inr (.inr (.inr (gm)))))), (mk, .inr (1, [.ref w, .ref ow, .int (nI n)])), (w, .inr (4, [.ref w0])), (w0, .inl (gI g, 5, .inl (rM (wt)))), (ow, .inr (2, [.ref rw])), (rw, .inr (4, [.ref oa])), (oa, .inl (gI g, 25, .inl (rM (mt))))] [0, 1, 3, 4, 5, 6, 7] 8 rfl rfl [(X, .inr (6, [.ref f0, .ref ma, .ref f2, .ref f3, .ref f4, .ref f5, .ref f6, .ref f7, .int (oI (bl)), .int (nI bg)])), (ma, .inl (gO g, 4, .inr (.inr (.inr (.inr (gm)))))), (w, .inr (4, [.ref w0])), (w0, .inl (gI g, 5, .inl (rM (wt)))), (ow, .inr (2, [.ref rw])), (rw, .inr (4, [.ref oa])), (oa, .inl (gI g, 25, .inl (rM (mt))))] rfl rfl (by decide) (by decide)
  refine lv_aload hx hb dX6_verdict_16 (lv_at hl 0 rfl) ?_
  refine va_getN (D := g.1) (ci := 1) (v := .ref ow) (C := RX1) (T := TX1) (N := 3) hx hb hts (fun _ h => (List.mem_cons_of_mem _ (List.mem_append_left _ (List.mem_append_left _ (List.mem_append_left _ (List.mem_append_left _ (List.mem_append_left _ (List.mem_append_left _ (List.mem_append_left _ (List.mem_append_left _ (List.mem_append_left _ (List.mem_append_right _ h)))))))))))) hown hK.1 hP 2 rfl rfl 1 (by decide) (va_Nw.use rfl hK.2.1.2.2.1) (fun _ h9 => h9) rfl dX6_verdict_18 ?_
  refine lv_iload_n hx hb dX6_verdict_21 rfl (lv_at hl 3 rfl) ?_
  refine lv_iload_n hx hb dX6_verdict_22 rfl (lv_at hl 4 rfl) ?_
  refine lv_iload hx hb dX6_verdict_23 (lv_at hl 5 rfl) ?_
  refine im_V (k := 3) hx hb hml hown hts (c_X2_contains l g ow rw oa (mt) (f) (t) (d) hm (by omega) (by omega) (by omega)) gX6_verdict_X2_contains rfl (by decide +kernel) ⟨Nat.le_of_ble_eq_true rfl, Nat.le_of_ble_eq_true rfl⟩ ⟨Nat.zero_le _, Nat.zero_le _⟩ hK hP hD hS hA [5, 6, 7] rfl (by decide) 5 2 rfl rfl rfl hl.1 (rest := []) (As := [.int (nI f), .int (nI t), .int (nI d)]) rfl (Nat.le_of_ble_eq_true rfl) dX6_verdict_25 (fun x1 w1 H locs hpo hpd hS => ?_)
  obtain ⟨hx1, rfl⟩ := hpo
  have hx1 : x1 = b2i ((mt (f * 5 + t)).testBit d) := hx1
  subst hx1
  obtain ⟨hP, hD⟩ := hpd [(X, .inr (6, [.ref f0, .ref ma, .ref f2, .ref f3, .ref f4, .ref f5, .ref f6, .ref f7, .int (oI (bl)), .int (nI bg)])), (ma, .inl (gO g, 4, .inr (.inr (.inr (.inr (gm)))))), (mk, .inr (1, [.ref w, .ref ow, .int (nI n)])), (w, .inr (4, [.ref w0])), (w0, .inl (gI g, 5, .inl (rM (wt)))), (ow, .inr (2, [.ref rw])), (rw, .inr (4, [.ref oa])), (oa, .inl (gI g, 25, .inl (rM (mt))))] [0, 1, 2, 3, 4] 8 rfl rfl [(X, .inr (6, [.ref f0, .ref ma, .ref f2, .ref f3, .ref f4, .ref f5, .ref f6, .ref f7, .int (oI (bl)), .int (nI bg)])), (ma, .inl (gO g, 4, .inr (.inr (.inr (.inr (gm)))))), (mk, .inr (1, [.ref w, .ref ow, .int (nI n)])), (w, .inr (4, [.ref w0])), (w0, .inl (gI g, 5, .inl (rM (wt))))] rfl rfl (by decide) (by decide)
  refine bv_if_ne (tgt := 41) hx hb dX6_verdict_28 (by decide) (fun c_1 => ?_) (fun c_1 => ?_)
  · skip
    exfalso; rw [hno] at c_1; cases c_1
  · skip
    exact xm_throw (E := eS) (text := "the model does not have the link") (ik := 72) (is := 157) (ic := 76) (rest := []) hx hb hst hown (by decide +kernel) (hts _ (List.mem_cons_of_mem _ (List.mem_append_left _ (List.mem_append_left _ (List.mem_append_left _ (List.mem_append_left _ (List.mem_append_left _ (List.mem_append_left _ (List.mem_append_left _ (List.mem_append_left _ (List.mem_append_left _ (List.mem_append_left _ (List.mem_append_left _ (List.mem_of_getElem? (i := 0) rfl)))))))))))))) (hts _ (List.mem_cons_of_mem _ (List.mem_append_left _ (List.mem_append_left _ (List.mem_append_left _ (List.mem_append_left _ (List.mem_append_left _ (List.mem_append_left _ (List.mem_append_left _ (List.mem_append_left _ (List.mem_append_left _ (List.mem_append_left _ (List.mem_append_left _ (List.mem_of_getElem? (i := 1) rfl)))))))))))))) (by decide +kernel) (fun _ h => hts _ (List.mem_cons_of_mem _ (List.mem_append_left _ (List.mem_append_left _ (List.mem_append_right _ h))))) xng_eS xot_eS hNX.2.1.2.2 hNX hZ hS hP (hl.1.trans hml.symm) ht dX6_verdict_31 dX6_verdict_34 dX6_verdict_35 dX6_verdict_37 dX6_verdict_40 (by decide) (Nat.le_of_ble_eq_true rfl) hlocks

set_option maxRecDepth 100000 in
set_option maxHeartbeats 4000000 in
theorem x_X6_matchOf_i (l : Launch) (hst : l.stackTraces = false) (g : GG) (X ma f0 f2 f3 f4 f5 f6 f7 : Nat) (bl : Option Nat) (bg : Nat) (gm : Nat → Option Nat) (pn : Nat) (p0 p1 : Nat) (k mk : Nat) (hk4 : k < 4) (hgk : gm k = some mk) (hk0 : k ≠ 0) (v : Int32) (hn : pn ≤ 5) (hbd : inR v pn = false)  : XM l yX6_matchOf wsX6_matchOf 10 g [.ref X, .int (nI k), .int (v)] [(X, .inr (6, [.ref f0, .ref ma, .ref f2, .ref f3, .ref f4, .ref f5, .ref f6, .ref f7, .int (oI (bl)), .int (nI bg)])), (ma, .inl (gO g, 4, .inr (.inr (.inr (.inr (gm)))))), (f0, .inr (1, [.ref p0, .ref p1, .int (nI pn)]))] eI := by
  refine fun sz => xm_body (cc := cX6_matchOf) (maxL := 4) (ret := (some .int)) (by decide) rfl (Nat.le_of_ble_eq_true rfl) ?_ sz
  intro pg ev s0 mi below meth cd A hx hb hr hml hts hown hlocks hK hA hNX hZ ht H hP hD hS ls hl
  have hl : lv_has ls 4 [(0, .ref X), (1, .int (nI k)), (2, .int (v))] := hl
  refine lv_aload_n hx hb dX6_matchOf_0 rfl (lv_at hl 0 rfl) ?_
  refine lv_iload_n hx hb dX6_matchOf_1 rfl (lv_at hl 1 rfl) ?_
  refine im_Vr (k := 1) hx hb hml hown hts (c_X6_modelAt l g X ma f0 f2 f3 f4 f5 f6 f7 (bl) (bg) (gm) k mk hk4 hgk hk0) gX6_matchOf_X6_modelAt rfl (by decide +kernel) ⟨Nat.le_of_ble_eq_true rfl, Nat.le_of_ble_eq_true rfl⟩ ⟨Nat.zero_le _, Nat.zero_le _⟩ hK hP hD hS hA [0, 1] rfl (by decide) 0 6 rfl rfl rfl hl.1 (rest := []) (As := [.int (nI k)]) rfl (Nat.le_of_ble_eq_true rfl) dX6_matchOf_2 (fun x1 w1 H locs hpo hpd hS => ?_)
  obtain ⟨hx1, rfl⟩ := hpo
  have hx1 : mk = x1 := hx1.symm
  subst hx1
  obtain ⟨hP, hD⟩ := hpd [(X, .inr (6, [.ref f0, .ref ma, .ref f2, .ref f3, .ref f4, .ref f5, .ref f6, .ref f7, .int (oI (bl)), .int (nI bg)])), (ma, .inl (gO g, 4, .inr (.inr (.inr (.inr (gm)))))), (f0, .inr (1, [.ref p0, .ref p1, .int (nI pn)]))] [2] 3 rfl rfl [(f0, .inr (1, [.ref p0, .ref p1, .int (nI pn)]))] rfl rfl (by decide) (by decide)
  refine lv_astore_n (lv' := [(3, .ref mk), (0, .ref X), (1, .int (nI k)), (2, .int (v))]) hx hb dX6_matchOf_5 rfl hl (by decide) rfl (fun ls hl => ?_)
  refine lv_aload_n hx hb dX6_matchOf_6 rfl (lv_at hl 1 rfl) ?_
  refine va_get (D := g.1) (ci := 6) (v := .ref f0) (C := RX6) (T := TX6) (N := 10) hx hb hts (fun _ h => (List.mem_cons_of_mem _ (List.mem_append_left _ (List.mem_append_left _ (List.mem_append_left _ (List.mem_append_left _ (List.mem_append_left _ (List.mem_append_left _ (List.mem_append_left _ (List.mem_append_right _ h)))))))))) hown hK.1 hP 0 rfl rfl 0 (by decide) (hts _ (List.mem_cons_of_mem _ (List.mem_append_left _ (List.mem_append_left _ (List.mem_append_left _ (List.mem_append_left _ (List.mem_append_left _ (List.mem_append_left _ (List.mem_append_left _ (List.mem_append_left _ (List.mem_append_left _ (List.mem_of_getElem? (i := 0) rfl)))))))))))) (fun _ h9 => h9) rfl dX6_matchOf_7 ?_
  refine lv_iload_n hx hb dX6_matchOf_10 rfl (lv_at hl 3 rfl) ?_
  exact xm_S (k := 2) hx hb hml hown hts (x_X6_requireIdea l hst g f0 p0 p1 (pn) (v) (by omega) hbd) gX6_matchOf_X6_requireIdea rfl (by decide +kernel) ⟨Nat.le_of_ble_eq_true rfl, Nat.le_of_ble_eq_true rfl⟩ hK hNX hZ hP hD hS hA [2] rfl (by decide) rfl hl.1 (rest := []) (As := [.ref f0, .int (v)]) rfl (Nat.le_of_ble_eq_true rfl) dX6_matchOf_11 hlocks ht
