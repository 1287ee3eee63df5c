set_option maxRecDepth 100000 in
set_option maxHeartbeats 4000000 in
theorem c_X7_isMap (l : Launch) (g : GG) (v : Int32) : IM l yX7_isMap wsX7_isMap 1 g [.int (v)] [] (fun x1 w1 => x1 = b2i (inR v 4) ∧ w1 = []) := by
  refine fun sz => im_body (Qc := fun A => va_Qi _ (iB g _) A) (cc := cX7_isMap) (maxL := 1) (ret := (some .boolean)) (by decide) rfl (Nat.le_of_ble_eq_true rfl) ?_ sz
  intro pg ev s0 mi below meth cd A hx hb hr hml hts hown hlocks hK hA H hP hD hS ls hl
  have hl : lv_has ls 1 [(0, .int (v))] := hl
  refine lv_iload_n hx hb dX7_isMap_0 rfl (lv_at hl 0 rfl) ?_
  refine lv_if_lt (tgt := 13) hx hb dX7_isMap_1 (by decide) (fun c_1 => ?_) (fun c_1 => ?_)
  · skip
    refine lv_iconst (v := nI (0)) hx hb dX7_isMap_13 (by decide) ?_
    exact im_retz (w1 := []) (v := nI (0)) hx hb hr hlocks hP hS rfl ⟨by first | (rw [inX_1 (v := v) (n := 4) (by decide) (by assumption) (by assumption)]; rfl) | (rw [inX_a (v := v) (n := 4) (by assumption)]; rfl) | (rw [inX_b (v := v) (n := 4) (by decide) (by assumption)]; rfl), rfl⟩ (by first | exact b2i_nar _ | rfl) dX7_isMap_14
  · skip
    refine lv_iload_n hx hb dX7_isMap_4 rfl (lv_at hl 0 rfl) ?_
    refine lv_iconst (v := nI (4)) hx hb dX7_isMap_5 (by decide) ?_
    refine lv_icmp_ge (tgt := 13) hx hb dX7_isMap_6 (by decide) (fun c_2 => ?_) (fun c_2 => ?_)
    · skip
      refine lv_iconst (v := nI (0)) hx hb dX7_isMap_13 (by decide) ?_
      exact im_retz (w1 := []) (v := nI (0)) hx hb hr hlocks hP hS rfl ⟨by first | (rw [inX_1 (v := v) (n := 4) (by decide) (by assumption) (by assumption)]; rfl) | (rw [inX_a (v := v) (n := 4) (by assumption)]; rfl) | (rw [inX_b (v := v) (n := 4) (by decide) (by assumption)]; rfl), rfl⟩ (by first | exact b2i_nar _ | rfl) dX7_isMap_14
    · skip
      refine lv_iconst (v := nI (1)) hx hb dX7_isMap_9 (by decide) ?_
      refine lv_goto (tgt := 14) hx hb dX7_isMap_10 (by decide) ?_
      exact im_retz (w1 := []) (v := nI (1)) hx hb hr hlocks hP hS rfl ⟨by first | (rw [inX_1 (v := v) (n := 4) (by decide) (by assumption) (by assumption)]; rfl) | (rw [inX_a (v := v) (n := 4) (by assumption)]; rfl) | (rw [inX_b (v := v) (n := 4) (by decide) (by assumption)]; rfl), rfl⟩ (by first | exact b2i_nar _ | rfl) dX7_isMap_14

set_option maxRecDepth 100000 in
set_option maxHeartbeats 4000000 in
theorem c_X7_isWord (l : Launch) (g : GG) (v : Int32) : IM l yX7_isWord wsX7_isWord 1 g [.int (v)] [] (fun x1 w1 => x1 = b2i (inR v 32) ∧ w1 = []) := by
  refine fun sz => im_body (Qc := fun A => va_Qi _ (iB g _) A) (cc := cX7_isWord) (maxL := 1) (ret := (some .boolean)) (by decide) rfl (Nat.le_of_ble_eq_true rfl) ?_ sz
  intro pg ev s0 mi below meth cd A hx hb hr hml hts hown hlocks hK hA H hP hD hS ls hl
  have hl : lv_has ls 1 [(0, .int (v))] := hl
  refine lv_iload_n hx hb dX7_isWord_0 rfl (lv_at hl 0 rfl) ?_
  refine lv_if_lt (tgt := 14) hx hb dX7_isWord_1 (by decide) (fun c_1 => ?_) (fun c_1 => ?_)
  · skip
    refine lv_iconst (v := nI (0)) hx hb dX7_isWord_14 (by decide) ?_
    exact im_retz (w1 := []) (v := nI (0)) hx hb hr hlocks hP hS rfl ⟨by first | (rw [inX_1 (v := v) (n := 32) (by decide) (by assumption) (by assumption)]; rfl) | (rw [inX_a (v := v) (n := 32) (by assumption)]; rfl) | (rw [inX_b (v := v) (n := 32) (by decide) (by assumption)]; rfl), rfl⟩ (by first | exact b2i_nar _ | rfl) dX7_isWord_15
  · skip
    refine lv_iload_n hx hb dX7_isWord_4 rfl (lv_at hl 0 rfl) ?_
    refine lv_bipush (v := nI (32)) hx hb dX7_isWord_5 (by decide) ?_
    refine lv_icmp_ge (tgt := 14) hx hb dX7_isWord_7 (by decide) (fun c_2 => ?_) (fun c_2 => ?_)
    · skip
      refine lv_iconst (v := nI (0)) hx hb dX7_isWord_14 (by decide) ?_
      exact im_retz (w1 := []) (v := nI (0)) hx hb hr hlocks hP hS rfl ⟨by first | (rw [inX_1 (v := v) (n := 32) (by decide) (by assumption) (by assumption)]; rfl) | (rw [inX_a (v := v) (n := 32) (by assumption)]; rfl) | (rw [inX_b (v := v) (n := 32) (by decide) (by assumption)]; rfl), rfl⟩ (by first | exact b2i_nar _ | rfl) dX7_isWord_15
    · skip
      refine lv_iconst (v := nI (1)) hx hb dX7_isWord_10 (by decide) ?_
      refine lv_goto (tgt := 15) hx hb dX7_isWord_11 (by decide) ?_
      exact im_retz (w1 := []) (v := nI (1)) hx hb hr hlocks hP hS rfl ⟨by first | (rw [inX_1 (v := v) (n := 32) (by decide) (by assumption) (by assumption)]; rfl) | (rw [inX_a (v := v) (n := 32) (by assumption)]; rfl) | (rw [inX_b (v := v) (n := 32) (by decide) (by assumption)]; rfl), rfl⟩ (by first | exact b2i_nar _ | rfl) dX7_isWord_15

set_option maxRecDepth 100000 in
set_option maxHeartbeats 4000000 in
theorem c_X7_isKind (l : Launch) (g : GG) (v : Int32) : IM l yX7_isKind wsX7_isKind 1 g [.int (v)] [] (fun x1 w1 => x1 = b2i (inR v 4) ∧ w1 = []) := by
  refine fun sz => im_body (Qc := fun A => va_Qi _ (iB g _) A) (cc := cX7_isKind) (maxL := 1) (ret := (some .boolean)) (by decide) rfl (Nat.le_of_ble_eq_true rfl) ?_ sz
  intro pg ev s0 mi below meth cd A hx hb hr hml hts hown hlocks hK hA H hP hD hS ls hl
  have hl : lv_has ls 1 [(0, .int (v))] := hl
  refine lv_iload_n hx hb dX7_isKind_0 rfl (lv_at hl 0 rfl) ?_
  refine lv_if_lt (tgt := 13) hx hb dX7_isKind_1 (by decide) (fun c_1 => ?_) (fun c_1 => ?_)
  · skip
    refine lv_iconst (v := nI (0)) hx hb dX7_isKind_13 (by decide) ?_
    exact im_retz (w1 := []) (v := nI (0)) hx hb hr hlocks hP hS rfl ⟨by first | (rw [inX_1 (v := v) (n := 4) (by decide) (by assumption) (by assumption)]; rfl) | (rw [inX_a (v := v) (n := 4) (by assumption)]; rfl) | (rw [inX_b (v := v) (n := 4) (by decide) (by assumption)]; rfl), rfl⟩ (by first | exact b2i_nar _ | rfl) dX7_isKind_14
  · skip
    refine lv_iload_n hx hb dX7_isKind_4 rfl (lv_at hl 0 rfl) ?_
    refine lv_iconst (v := nI (4)) hx hb dX7_isKind_5 (by decide) ?_
    refine lv_icmp_ge (tgt := 13) hx hb dX7_isKind_6 (by decide) (fun c_2 => ?_) (fun c_2 => ?_)
    · skip
      refine lv_iconst (v := nI (0)) hx hb dX7_isKind_13 (by decide) ?_
      exact im_retz (w1 := []) (v := nI (0)) hx hb hr hlocks hP hS rfl ⟨by first | (rw [inX_1 (v := v) (n := 4) (by decide) (by assumption) (by assumption)]; rfl) | (rw [inX_a (v := v) (n := 4) (by assumption)]; rfl) | (rw [inX_b (v := v) (n := 4) (by decide) (by assumption)]; rfl), rfl⟩ (by first | exact b2i_nar _ | rfl) dX7_isKind_14
    · skip
      refine lv_iconst (v := nI (1)) hx hb dX7_isKind_9 (by decide) ?_
      refine lv_goto (tgt := 14) hx hb dX7_isKind_10 (by decide) ?_
      exact im_retz (w1 := []) (v := nI (1)) hx hb hr hlocks hP hS rfl ⟨by first | (rw [inX_1 (v := v) (n := 4) (by decide) (by assumption) (by assumption)]; rfl) | (rw [inX_a (v := v) (n := 4) (by assumption)]; rfl) | (rw [inX_b (v := v) (n := 4) (by decide) (by assumption)]; rfl), rfl⟩ (by first | exact b2i_nar _ | rfl) dX7_isKind_14

set_option maxRecDepth 100000 in
set_option maxHeartbeats 4000000 in
theorem c_X7_isModel (l : Launch) (g : GG) (v : Int32) : IM l yX7_isModel wsX7_isModel 1 g [.int (v)] [] (fun x1 w1 => x1 = b2i (inM v) ∧ w1 = []) := by
  refine fun sz => im_body (Qc := fun A => va_Qi _ (iB g _) A) (cc := cX7_isModel) (maxL := 1) (ret := (some .boolean)) (by decide) rfl (Nat.le_of_ble_eq_true rfl) ?_ sz
  intro pg ev s0 mi below meth cd A hx hb hr hml hts hown hlocks hK hA H hP hD hS ls hl
  have hl : lv_has ls 1 [(0, .int (v))] := hl
  refine lv_iload_n hx hb dX7_isModel_0 rfl (lv_at hl 0 rfl) ?_
  refine lv_if_le (tgt := 13) hx hb dX7_isModel_1 (by decide) (fun c_1 => ?_) (fun c_1 => ?_)
  · skip
    refine lv_iconst (v := nI (0)) hx hb dX7_isModel_13 (by decide) ?_
    exact im_retz (w1 := []) (v := nI (0)) hx hb hr hlocks hP hS rfl ⟨by first | (rw [inM_1 (v := v) (by assumption) (by assumption)]; rfl) | (rw [inM_a (v := v) (by assumption)]; rfl) | (rw [inM_b (v := v) (by assumption)]; rfl), rfl⟩ (by first | exact b2i_nar _ | rfl) dX7_isModel_14
  · skip
    refine lv_iload_n hx hb dX7_isModel_4 rfl (lv_at hl 0 rfl) ?_
    refine lv_iconst (v := nI (4)) hx hb dX7_isModel_5 (by decide) ?_
    refine lv_icmp_ge (tgt := 13) hx hb dX7_isModel_6 (by decide) (fun c_2 => ?_) (fun c_2 => ?_)
    · skip
      refine lv_iconst (v := nI (0)) hx hb dX7_isModel_13 (by decide) ?_
      exact im_retz (w1 := []) (v := nI (0)) hx hb hr hlocks hP hS rfl ⟨by first | (rw [inM_1 (v := v) (by assumption) (by assumption)]; rfl) | (rw [inM_a (v := v) (by assumption)]; rfl) | (rw [inM_b (v := v) (by assumption)]; rfl), rfl⟩ (by first | exact b2i_nar _ | rfl) dX7_isModel_14
    · skip
      refine lv_iconst (v := nI (1)) hx hb dX7_isModel_9 (by decide) ?_
      refine lv_goto (tgt := 14) hx hb dX7_isModel_10 (by decide) ?_
      exact im_retz (w1 := []) (v := nI (1)) hx hb hr hlocks hP hS rfl ⟨by first | (rw [inM_1 (v := v) (by assumption) (by assumption)]; rfl) | (rw [inM_a (v := v) (by assumption)]; rfl) | (rw [inM_b (v := v) (by assumption)]; rfl), rfl⟩ (by first | exact b2i_nar _ | rfl) dX7_isModel_14

set_option maxRecDepth 100000 in
set_option maxHeartbeats 4000000 in
theorem c_X7_asks_t (l : Launch) (g : GG) (o ia wa ha oa ga ca ma ba ka : Nat) (idn wd : Nat → Nat) (hs ho : Nat → Bool) (gr : Nat → Nat) (ch mt bs bk : Nat → Option Nat) (hnt : Option Nat) (gd tn : Nat)  : IM l yX7_asks wsX7_asks 1 g [.ref o, .int (b2i (true))] [(o, .inr (7, [.ref ia, .ref wa, .ref ha, .ref oa, .ref ga, .ref ca, .ref ma, .ref ba, .ref ka, .int (oI (hnt)), .int (nI gd), .int (nI tn)])), (ia, .inl (gI g, 4, .inl (rM (idn)))), (wa, .inl (gI g, 20, .inl (rM (wd)))), (ha, .inl (gZ g, 400, .inl (rB (hs)))), (oa, .inl (gZ g, 400, .inl (rB (ho)))), (ga, .inl (gI g, 32, .inl (rM (gr)))), (ca, .inl (gI g, 16, .inl (rO (ch)))), (ma, .inl (gI g, 5, .inl (rO (mt)))), (ba, .inl (gI g, 5, .inl (rO (bs)))), (ka, .inl (gI g, 5, .inl (rO (bk))))] (fun x1 w1 => x1 = b2i true ∧ w1 = [(o, .inr (7, [.ref ia, .ref wa, .ref ha, .ref oa, .ref ga, .ref ca, .ref ma, .ref ba, .ref ka, .int (oI (hnt)), .int (nI gd), .int (nI 0)])), (ia, .inl (gI g, 4, .inl (rM (idn)))), (wa, .inl (gI g, 20, .inl (rM (wd)))), (ha, .inl (gZ g, 400, .inl (rB (hs)))), (oa, .inl (gZ g, 400, .inl (rB (ho)))), (ga, .inl (gI g, 32, .inl (rM (gr)))), (ca, .inl (gI g, 16, .inl (rO (ch)))), (ma, .inl (gI g, 5, .inl (rO (mt)))), (ba, .inl (gI g, 5, .inl (rO (bs)))), (ka, .inl (gI g, 5, .inl (rO (bk))))]) := by
  refine fun sz => im_body (Qc := fun A => va_Qi _ (iB g _) A) (cc := cX7_asks) (maxL := 2) (ret := (some .boolean)) (by decide) rfl (Nat.le_of_ble_eq_true rfl) ?_ sz
  intro pg ev s0 mi below meth cd A hx hb hr hml hts hown hlocks hK hA H hP hD hS ls hl
  have hl : lv_has ls 2 [(0, .ref o), (1, .int (b2i (true)))] := hl
  refine lv_aload_n hx hb dX7_asks_0 rfl (lv_at hl 0 rfl) ?_
  refine lv_iload_n hx hb dX7_asks_1 rfl (lv_at hl 1 rfl) ?_
  refine bv_if_eq (tgt := 9) hx hb dX7_asks_2 (by decide) (fun c_1 => ?_) (fun c_1 => ?_)
  · skip
    exfalso; first | exact c_1 | omega | (simp at c_1; done) | (exact absurd c_1 (by simp))
  · skip
    refine lv_iconst (v := nI (0)) hx hb dX7_asks_5 (by decide) ?_
    refine lv_goto (tgt := 10) hx hb dX7_asks_6 (by decide) ?_
    refine va_put (D := g.1) (ci := 7) (v := .int (nI 0)) (ty := .int) (C := RX7) (T := TX7) (N := 12) hx hb hts (fun _ h => (List.mem_cons_of_mem _ (List.mem_append_right _ h))) tyX7 tyX7_ok nmX7 hown hK.1 hP hD hS 0 rfl rfl 11 (by decide) (hts _ (List.mem_cons_of_mem _ (List.mem_append_left _ (List.mem_of_getElem? (i := 0) rfl)))) (fun _ h9 => h9) rfl (by decide +kernel) rfl rfl (Nat.le_of_ble_eq_true rfl) dX7_asks_10 (fun H locs hP hD hS => ?_)
    have hP : va_P g.1 vwCl [(o, .inr (7, [.ref ia, .ref wa, .ref ha, .ref oa, .ref ga, .ref ca, .ref ma, .ref ba, .ref ka, .int (oI (hnt)), .int (nI gd), .int (nI 0)])), (ia, .inl (gI g, 4, .inl (rM (idn)))), (wa, .inl (gI g, 20, .inl (rM (wd)))), (ha, .inl (gZ g, 400, .inl (rB (hs)))), (oa, .inl (gZ g, 400, .inl (rB (ho)))), (ga, .inl (gI g, 32, .inl (rM (gr)))), (ca, .inl (gI g, 16, .inl (rO (ch)))), (ma, .inl (gI g, 5, .inl (rO (mt)))), (ba, .inl (gI g, 5, .inl (rO (bs)))), (ka, .inl (gI g, 5, .inl (rO (bk))))] H := hP
    have hD : va_D A [(o, .inr (7, [.ref ia, .ref wa, .ref ha, .ref oa, .ref ga, .ref ca, .ref ma, .ref ba, .ref ka, .int (oI (hnt)), .int (nI gd), .int (nI 0)])), (ia, .inl (gI g, 4, .inl (rM (idn)))), (wa, .inl (gI g, 20, .inl (rM (wd)))), (ha, .inl (gZ g, 400, .inl (rB (hs)))), (oa, .inl (gZ g, 400, .inl (rB (ho)))), (ga, .inl (gI g, 32, .inl (rM (gr)))), (ca, .inl (gI g, 16, .inl (rO (ch)))), (ma, .inl (gI g, 5, .inl (rO (mt)))), (ba, .inl (gI g, 5, .inl (rO (bs)))), (ka, .inl (gI g, 5, .inl (rO (bk))))] := hD
    refine lv_iload_n hx hb dX7_asks_13 rfl (lv_at hl 1 rfl) ?_
    exact im_retz (w1 := [(o, .inr (7, [.ref ia, .ref wa, .ref ha, .ref oa, .ref ga, .ref ca, .ref ma, .ref ba, .ref ka, .int (oI (hnt)), .int (nI gd), .int (nI 0)])), (ia, .inl (gI g, 4, .inl (rM (idn)))), (wa, .inl (gI g, 20, .inl (rM (wd)))), (ha, .inl (gZ g, 400, .inl (rB (hs)))), (oa, .inl (gZ g, 400, .inl (rB (ho)))), (ga, .inl (gI g, 32, .inl (rM (gr)))), (ca, .inl (gI g, 16, .inl (rO (ch)))), (ma, .inl (gI g, 5, .inl (rO (mt)))), (ba, .inl (gI g, 5, .inl (rO (bs)))), (ka, .inl (gI g, 5, .inl (rO (bk))))]) (v := b2i (true)) hx hb hr hlocks hP hS rfl ⟨rfl, rfl⟩ (by first | exact b2i_nar _ | rfl) dX7_asks_14

set_option maxRecDepth 100000 in
set_option maxHeartbeats 4000000 in
theorem c_X7_asks_f (l : Launch) (g : GG) (o ia wa ha oa ga ca ma ba ka : Nat) (idn wd : Nat → Nat) (hs ho : Nat → Bool) (gr : Nat → Nat) (ch mt bs bk : Nat → Option Nat) (hnt : Option Nat) (gd tn : Nat)  : IM l yX7_asks wsX7_asks 1 g [.ref o, .int (b2i (false))] [(o, .inr (7, [.ref ia, .ref wa, .ref ha, .ref oa, .ref ga, .ref ca, .ref ma, .ref ba, .ref ka, .int (oI (hnt)), .int (nI gd), .int (nI tn)])), (ia, .inl (gI g, 4, .inl (rM (idn)))), (wa, .inl (gI g, 20, .inl (rM (wd)))), (ha, .inl (gZ g, 400, .inl (rB (hs)))), (oa, .inl (gZ g, 400, .inl (rB (ho)))), (ga, .inl (gI g, 32, .inl (rM (gr)))), (ca, .inl (gI g, 16, .inl (rO (ch)))), (ma, .inl (gI g, 5, .inl (rO (mt)))), (ba, .inl (gI g, 5, .inl (rO (bs)))), (ka, .inl (gI g, 5, .inl (rO (bk))))] (fun x1 w1 => x1 = b2i false ∧ w1 = [(o, .inr (7, [.ref ia, .ref wa, .ref ha, .ref oa, .ref ga, .ref ca, .ref ma, .ref ba, .ref ka, .int (oI (hnt)), .int (nI gd), .int (nI 1)])), (ia, .inl (gI g, 4, .inl (rM (idn)))), (wa, .inl (gI g, 20, .inl (rM (wd)))), (ha, .inl (gZ g, 400, .inl (rB (hs)))), (oa, .inl (gZ g, 400, .inl (rB (ho)))), (ga, .inl (gI g, 32, .inl (rM (gr)))), (ca, .inl (gI g, 16, .inl (rO (ch)))), (ma, .inl (gI g, 5, .inl (rO (mt)))), (ba, .inl (gI g, 5, .inl (rO (bs)))), (ka, .inl (gI g, 5, .inl (rO (bk))))]) := by
  refine fun sz => im_body (Qc := fun A => va_Qi _ (iB g _) A) (cc := cX7_asks) (maxL := 2) (ret := (some .boolean)) (by decide) rfl (Nat.le_of_ble_eq_true rfl) ?_ sz
  intro pg ev s0 mi below meth cd A hx hb hr hml hts hown hlocks hK hA H hP hD hS ls hl
  have hl : lv_has ls 2 [(0, .ref o), (1, .int (b2i (false)))] := hl
  refine lv_aload_n hx hb dX7_asks_0 rfl (lv_at hl 0 rfl) ?_
  refine lv_iload_n hx hb dX7_asks_1 rfl (lv_at hl 1 rfl) ?_
  refine bv_if_eq (tgt := 9) hx hb dX7_asks_2 (by decide) (fun c_1 => ?_) (fun c_1 => ?_)
  · skip
    refine lv_iconst (v := nI (1)) hx hb dX7_asks_9 (by decide) ?_
    refine va_put (D := g.1) (ci := 7) (v := .int (nI 1)) (ty := .int) (C := RX7) (T := TX7) (N := 12) hx hb hts (fun _ h => (List.mem_cons_of_mem _ (List.mem_append_right _ h))) tyX7 tyX7_ok nmX7 hown hK.1 hP hD hS 0 rfl rfl 11 (by decide) (hts _ (List.mem_cons_of_mem _ (List.mem_append_left _ (List.mem_of_getElem? (i := 0) rfl)))) (fun _ h9 => h9) rfl (by decide +kernel) rfl rfl (Nat.le_of_ble_eq_true rfl) dX7_asks_10 (fun H locs hP hD hS => ?_)
    have hP : va_P g.1 vwCl [(o, .inr (7, [.ref ia, .ref wa, .ref ha, .ref oa, .ref ga, .ref ca, .ref ma, .ref ba, .ref ka, .int (oI (hnt)), .int (nI gd), .int (nI 1)])), (ia, .inl (gI g, 4, .inl (rM (idn)))), (wa, .inl (gI g, 20, .inl (rM (wd)))), (ha, .inl (gZ g, 400, .inl (rB (hs)))), (oa, .inl (gZ g, 400, .inl (rB (ho)))), (ga, .inl (gI g, 32, .inl (rM (gr)))), (ca, .inl (gI g, 16, .inl (rO (ch)))), (ma, .inl (gI g, 5, .inl (rO (mt)))), (ba, .inl (gI g, 5, .inl (rO (bs)))), (ka, .inl (gI g, 5, .inl (rO (bk))))] H := hP
    have hD : va_D A [(o, .inr (7, [.ref ia, .ref wa, .ref ha, .ref oa, .ref ga, .ref ca, .ref ma, .ref ba, .ref ka, .int (oI (hnt)), .int (nI gd), .int (nI 1)])), (ia, .inl (gI g, 4, .inl (rM (idn)))), (wa, .inl (gI g, 20, .inl (rM (wd)))), (ha, .inl (gZ g, 400, .inl (rB (hs)))), (oa, .inl (gZ g, 400, .inl (rB (ho)))), (ga, .inl (gI g, 32, .inl (rM (gr)))), (ca, .inl (gI g, 16, .inl (rO (ch)))), (ma, .inl (gI g, 5, .inl (rO (mt)))), (ba, .inl (gI g, 5, .inl (rO (bs)))), (ka, .inl (gI g, 5, .inl (rO (bk))))] := hD
    refine lv_iload_n hx hb dX7_asks_13 rfl (lv_at hl 1 rfl) ?_
    exact im_retz (w1 := [(o, .inr (7, [.ref ia, .ref wa, .ref ha, .ref oa, .ref ga, .ref ca, .ref ma, .ref ba, .ref ka, .int (oI (hnt)), .int (nI gd), .int (nI 1)])), (ia, .inl (gI g, 4, .inl (rM (idn)))), (wa, .inl (gI g, 20, .inl (rM (wd)))), (ha, .inl (gZ g, 400, .inl (rB (hs)))), (oa, .inl (gZ g, 400, .inl (rB (ho)))), (ga, .inl (gI g, 32, .inl (rM (gr)))), (ca, .inl (gI g, 16, .inl (rO (ch)))), (ma, .inl (gI g, 5, .inl (rO (mt)))), (ba, .inl (gI g, 5, .inl (rO (bs)))), (ka, .inl (gI g, 5, .inl (rO (bk))))]) (v := b2i (false)) hx hb hr hlocks hP hS rfl ⟨rfl, rfl⟩ (by first | exact b2i_nar _ | rfl) dX7_asks_14
  · skip
    exfalso; first | exact c_1 | omega | (simp at c_1; done) | (exact absurd c_1 (by simp))

set_option maxRecDepth 100000 in
set_option maxHeartbeats 4000000 in
theorem c_X7_isIdea (l : Launch) (g : GG) (o ia wa ha oa ga ca ma ba ka : Nat) (idn wd : Nat → Nat) (hs ho : Nat → Bool) (gr : Nat → Nat) (ch mt bs bk : Nat → Option Nat) (hnt : Option Nat) (gd tn : Nat) (m f : Nat) (hm : m < 4) (hf : f < idn m) (hq5 : idn m ≤ 5) : IM l yX7_isIdea wsX7_isIdea 2 g [.ref o, .int (nI m), .int (nI f)] [(o, .inr (7, [.ref ia, .ref wa, .ref ha, .ref oa, .ref ga, .ref ca, .ref ma, .ref ba, .ref ka, .int (oI (hnt)), .int (nI gd), .int (nI tn)])), (ia, .inl (gI g, 4, .inl (rM (idn)))), (wa, .inl (gI g, 20, .inl (rM (wd)))), (ha, .inl (gZ g, 400, .inl (rB (hs)))), (oa, .inl (gZ g, 400, .inl (rB (ho)))), (ga, .inl (gI g, 32, .inl (rM (gr)))), (ca, .inl (gI g, 16, .inl (rO (ch)))), (ma, .inl (gI g, 5, .inl (rO (mt)))), (ba, .inl (gI g, 5, .inl (rO (bs)))), (ka, .inl (gI g, 5, .inl (rO (bk))))] (fun x1 w1 => x1 = b2i true ∧ w1 = [(o, .inr (7, [.ref ia, .ref wa, .ref ha, .ref oa, .ref ga, .ref ca, .ref ma, .ref ba, .ref ka, .int (oI (hnt)), .int (nI gd), .int (nI tn)])), (ia, .inl (gI g, 4, .inl (rM (idn)))), (wa, .inl (gI g, 20, .inl (rM (wd)))), (ha, .inl (gZ g, 400, .inl (rB (hs)))), (oa, .inl (gZ g, 400, .inl (rB (ho)))), (ga, .inl (gI g, 32, .inl (rM (gr)))), (ca, .inl (gI g, 16, .inl (rO (ch)))), (ma, .inl (gI g, 5, .inl (rO (mt)))), (ba, .inl (gI g, 5, .inl (rO (bs)))), (ka, .inl (gI g, 5, .inl (rO (bk))))]) := by
  refine fun sz => im_body (Qc := fun A => va_Qi _ (iB g _) A) (cc := cX7_isIdea) (maxL := 3) (ret := (some .boolean)) (by decide) rfl (Nat.le_of_ble_eq_true rfl) ?_ sz
  intro pg ev s0 mi below meth cd A hx hb hr hml hts hown hlocks hK hA H hP hD hS ls hl
  have hl : lv_has ls 3 [(0, .ref o), (1, .int (nI m)), (2, .int (nI f))] := hl
  refine lv_iload_n hx hb dX7_isIdea_0 rfl (lv_at hl 1 rfl) ?_
  refine im_S (k := 1) hx hb hml hown hts (c_X7_isMap l g (nI (m))) gX7_isIdea_X7_isMap rfl (by decide +kernel) ⟨Nat.le_of_ble_eq_true rfl, Nat.le_of_ble_eq_true rfl⟩ ⟨Nat.zero_le _, Nat.zero_le _⟩ hK hP hD hS hA [] rfl (by decide) rfl hl.1 (rest := []) (As := [.int (nI m)]) rfl (Nat.le_of_ble_eq_true rfl) dX7_isIdea_1 (fun x1 w1 H locs hpo hpd hS => ?_)
  obtain ⟨hx1, rfl⟩ := hpo
  rw [inR_nI (by omega) (by decide)] at hx1
  have hx1 : x1 = b2i (true) := hx1
  subst hx1
  obtain ⟨hP, hD⟩ := hpd [(o, .inr (7, [.ref ia, .ref wa, .ref ha, .ref oa, .ref ga, .ref ca, .ref ma, .ref ba, .ref ka, .int (oI (hnt)), .int (nI gd), .int (nI tn)])), (ia, .inl (gI g, 4, .inl (rM (idn)))), (wa, .inl (gI g, 20, .inl (rM (wd)))), (ha, .inl (gZ g, 400, .inl (rB (hs)))), (oa, .inl (gZ g, 400, .inl (rB (ho)))), (ga, .inl (gI g, 32, .inl (rM (gr)))), (ca, .inl (gI g, 16, .inl (rO (ch)))), (ma, .inl (gI g, 5, .inl (rO (mt)))), (ba, .inl (gI g, 5, .inl (rO (bs)))), (ka, .inl (gI g, 5, .inl (rO (bk))))] [0, 1, 2, 3, 4, 5, 6, 7, 8, 9] 10 rfl rfl [(o, .inr (7, [.ref ia, .ref wa, .ref ha, .ref oa, .ref ga, .ref ca, .ref ma, .ref ba, .ref ka, .int (oI (hnt)), .int (nI gd), .int (nI tn)])), (ia, .inl (gI g, 4, .inl (rM (idn)))), (wa, .inl (gI g, 20, .inl (rM (wd)))), (ha, .inl (gZ g, 400, .inl (rB (hs)))), (oa, .inl (gZ g, 400, .inl (rB (ho)))), (ga, .inl (gI g, 32, .inl (rM (gr)))), (ca, .inl (gI g, 16, .inl (rO (ch)))), (ma, .inl (gI g, 5, .inl (rO (mt)))), (ba, .inl (gI g, 5, .inl (rO (bs)))), (ka, .inl (gI g, 5, .inl (rO (bk))))] rfl rfl (by decide) (by decide)
  refine bv_if_eq (tgt := 25) hx hb dX7_isIdea_4 (by decide) (fun c_1 => ?_) (fun c_1 => ?_)
  · skip
    exfalso; first | exact c_1 | omega | (simp at c_1; done) | (exact absurd c_1 (by simp))
  · skip
    refine lv_iload_n hx hb dX7_isIdea_7 rfl (lv_at hl 2 rfl) ?_
    refine nv_if_lt (tgt := 25) hx hb (by omega) dX7_isIdea_8 (by decide) (fun c_2 => ?_) (fun c_2 => ?_)
    · skip
      exfalso; first | exact c_2 | omega | (simp at c_2; done) | (exact absurd c_2 (by simp))
    · skip
      refine lv_iload_n hx hb dX7_isIdea_11 rfl (lv_at hl 2 rfl) ?_
      refine lv_aload_n hx hb dX7_isIdea_12 rfl (lv_at hl 0 rfl) ?_
      refine va_get (D := g.1) (ci := 7) (v := .ref ia) (C := RX7) (T := TX7) (N := 12) hx hb hts (fun _ h => (List.mem_cons_of_mem _ (List.mem_append_right _ h))) hown hK.1 hP 0 rfl rfl 0 (by decide) (hts _ (List.mem_cons_of_mem _ (List.mem_append_left _ (List.mem_of_getElem? (i := 0) rfl)))) (fun _ h9 => h9) rfl dX7_isIdea_13 ?_
      refine lv_iload_n hx hb dX7_isIdea_16 rfl (lv_at hl 1 rfl) ?_
      refine nv_iald (v := nI (idn m)) hx hb hK hP 1 rfl (by omega) (by decide) rfl dX7_isIdea_17 ?_
      refine nv_icmp_ge (tgt := 25) hx hb (by omega) (by omega) dX7_isIdea_18 (by decide) (fun c_3 => ?_) (fun c_3 => ?_)
      · skip
        exfalso; first | exact c_3 | omega | (simp at c_3; done) | (exact absurd c_3 (by simp))
      · skip
        refine lv_iconst (v := nI (1)) hx hb dX7_isIdea_21 (by decide) ?_
        refine lv_goto (tgt := 26) hx hb dX7_isIdea_22 (by decide) ?_
        exact im_retz (w1 := [(o, .inr (7, [.ref ia, .ref wa, .ref ha, .ref oa, .ref ga, .ref ca, .ref ma, .ref ba, .ref ka, .int (oI (hnt)), .int (nI gd), .int (nI tn)])), (ia, .inl (gI g, 4, .inl (rM (idn)))), (wa, .inl (gI g, 20, .inl (rM (wd)))), (ha, .inl (gZ g, 400, .inl (rB (hs)))), (oa, .inl (gZ g, 400, .inl (rB (ho)))), (ga, .inl (gI g, 32, .inl (rM (gr)))), (ca, .inl (gI g, 16, .inl (rO (ch)))), (ma, .inl (gI g, 5, .inl (rO (mt)))), (ba, .inl (gI g, 5, .inl (rO (bs)))), (ka, .inl (gI g, 5, .inl (rO (bk))))]) (v := nI (1)) hx hb hr hlocks hP hS rfl ⟨rfl, rfl⟩ (by first | exact b2i_nar _ | rfl) dX7_isIdea_26

set_option maxRecDepth 100000 in
set_option maxHeartbeats 4000000 in
theorem c_X7_isIdea_m (l : Launch) (g : GG) (o ia wa ha oa ga ca ma ba ka : Nat) (idn wd : Nat → Nat) (hs ho : Nat → Bool) (gr : Nat → Nat) (ch mt bs bk : Nat → Option Nat) (hnt : Option Nat) (gd tn : Nat) (v w : Int32) (hbd : inR v 4 = false) : IM l yX7_isIdea wsX7_isIdea 2 g [.ref o, .int (v), .int (w)] [(o, .inr (7, [.ref ia, .ref wa, .ref ha, .ref oa, .ref ga, .ref ca, .ref ma, .ref ba, .ref ka, .int (oI (hnt)), .int (nI gd), .int (nI tn)])), (ia, .inl (gI g, 4, .inl (rM (idn)))), (wa, .inl (gI g, 20, .inl (rM (wd)))), (ha, .inl (gZ g, 400, .inl (rB (hs)))), (oa, .inl (gZ g, 400, .inl (rB (ho)))), (ga, .inl (gI g, 32, .inl (rM (gr)))), (ca, .inl (gI g, 16, .inl (rO (ch)))), (ma, .inl (gI g, 5, .inl (rO (mt)))), (ba, .inl (gI g, 5, .inl (rO (bs)))), (ka, .inl (gI g, 5, .inl (rO (bk))))] (fun x1 w1 => x1 = b2i false ∧ w1 = [(o, .inr (7, [.ref ia, .ref wa, .ref ha, .ref oa, .ref ga, .ref ca, .ref ma, .ref ba, .ref ka, .int (oI (hnt)), .int (nI gd), .int (nI tn)])), (ia, .inl (gI g, 4, .inl (rM (idn)))), (wa, .inl (gI g, 20, .inl (rM (wd)))), (ha, .inl (gZ g, 400, .inl (rB (hs)))), (oa, .inl (gZ g, 400, .inl (rB (ho)))), (ga, .inl (gI g, 32, .inl (rM (gr)))), (ca, .inl (gI g, 16, .inl (rO (ch)))), (ma, .inl (gI g, 5, .inl (rO (mt)))), (ba, .inl (gI g, 5, .inl (rO (bs)))), (ka, .inl (gI g, 5, .inl (rO (bk))))]) := by
  refine fun sz => im_body (Qc := fun A => va_Qi _ (iB g _) A) (cc := cX7_isIdea) (maxL := 3) (ret := (some .boolean)) (by decide) rfl (Nat.le_of_ble_eq_true rfl) ?_ sz
  intro pg ev s0 mi below meth cd A hx hb hr hml hts hown hlocks hK hA H hP hD hS ls hl
  have hl : lv_has ls 3 [(0, .ref o), (1, .int (v)), (2, .int (w))] := hl
  refine lv_iload_n hx hb dX7_isIdea_0 rfl (lv_at hl 1 rfl) ?_
  refine im_S (k := 1) hx hb hml hown hts (c_X7_isMap l g (v)) gX7_isIdea_X7_isMap rfl (by decide +kernel) ⟨Nat.le_of_ble_eq_true rfl, Nat.le_of_ble_eq_true rfl⟩ ⟨Nat.zero_le _, Nat.zero_le _⟩ hK hP hD hS hA [] rfl (by decide) rfl hl.1 (rest := []) (As := [.int (v)]) rfl (Nat.le_of_ble_eq_true rfl) dX7_isIdea_1 (fun x1 w1 H locs hpo hpd hS => ?_)
  obtain ⟨hx1, rfl⟩ := hpo
  rw [hbd] at hx1
  have hx1 : x1 = b2i (false) := hx1
  subst hx1
  obtain ⟨hP, hD⟩ := hpd [(o, .inr (7, [.ref ia, .ref wa, .ref ha, .ref oa, .ref ga, .ref ca, .ref ma, .ref ba, .ref ka, .int (oI (hnt)), .int (nI gd), .int (nI tn)])), (ia, .inl (gI g, 4, .inl (rM (idn)))), (wa, .inl (gI g, 20, .inl (rM (wd)))), (ha, .inl (gZ g, 400, .inl (rB (hs)))), (oa, .inl (gZ g, 400, .inl (rB (ho)))), (ga, .inl (gI g, 32, .inl (rM (gr)))), (ca, .inl (gI g, 16, .inl (rO (ch)))), (ma, .inl (gI g, 5, .inl (rO (mt)))), (ba, .inl (gI g, 5, .inl (rO (bs)))), (ka, .inl (gI g, 5, .inl (rO (bk))))] [0, 1, 2, 3, 4, 5, 6, 7, 8, 9] 10 rfl rfl [(o, .inr (7, [.ref ia, .ref wa, .ref ha, .ref oa, .ref ga, .ref ca, .ref ma, .ref ba, .ref ka, .int (oI (hnt)), .int (nI gd), .int (nI tn)])), (ia, .inl (gI g, 4, .inl (rM (idn)))), (wa, .inl (gI g, 20, .inl (rM (wd)))), (ha, .inl (gZ g, 400, .inl (rB (hs)))), (oa, .inl (gZ g, 400, .inl (rB (ho)))), (ga, .inl (gI g, 32, .inl (rM (gr)))), (ca, .inl (gI g, 16, .inl (rO (ch)))), (ma, .inl (gI g, 5, .inl (rO (mt)))), (ba, .inl (gI g, 5, .inl (rO (bs)))), (ka, .inl (gI g, 5, .inl (rO (bk))))] rfl rfl (by decide) (by decide)
  refine bv_if_eq (tgt := 25) hx hb dX7_isIdea_4 (by decide) (fun c_1 => ?_) (fun c_1 => ?_)
  · skip
    refine lv_iconst (v := nI (0)) hx hb dX7_isIdea_25 (by decide) ?_
    exact im_retz (w1 := [(o, .inr (7, [.ref ia, .ref wa, .ref ha, .ref oa, .ref ga, .ref ca, .ref ma, .ref ba, .ref ka, .int (oI (hnt)), .int (nI gd), .int (nI tn)])), (ia, .inl (gI g, 4, .inl (rM (idn)))), (wa, .inl (gI g, 20, .inl (rM (wd)))), (ha, .inl (gZ g, 400, .inl (rB (hs)))), (oa, .inl (gZ g, 400, .inl (rB (ho)))), (ga, .inl (gI g, 32, .inl (rM (gr)))), (ca, .inl (gI g, 16, .inl (rO (ch)))), (ma, .inl (gI g, 5, .inl (rO (mt)))), (ba, .inl (gI g, 5, .inl (rO (bs)))), (ka, .inl (gI g, 5, .inl (rO (bk))))]) (v := nI (0)) hx hb hr hlocks hP hS rfl ⟨rfl, rfl⟩ (by first | exact b2i_nar _ | rfl) dX7_isIdea_26
  · skip
    exfalso; first | exact c_1 | omega | (simp at c_1; done) | (exact absurd c_1 (by simp))

set_option maxRecDepth 100000 in
set_option maxHeartbeats 4000000 in
theorem c_X7_isIdea_i (l : Launch) (g : GG) (o ia wa ha oa ga ca ma ba ka : Nat) (idn wd : Nat → Nat) (hs ho : Nat → Bool) (gr : Nat → Nat) (ch mt bs bk : Nat → Option Nat) (hnt : Option Nat) (gd tn : Nat) (m : Nat) (w : Int32) (hm : m < 4) (hbd : inR w (idn m) = false) (hq5 : idn m ≤ 5) : IM l yX7_isIdea wsX7_isIdea 2 g [.ref o, .int (nI m), .int (w)] [(o, .inr (7, [.ref ia, .ref wa, .ref ha, .ref oa, .ref ga, .ref ca, .ref ma, .ref ba, .ref ka, .int (oI (hnt)), .int (nI gd), .int (nI tn)])), (ia, .inl (gI g, 4, .inl (rM (idn)))), (wa, .inl (gI g, 20, .inl (rM (wd)))), (ha, .inl (gZ g, 400, .inl (rB (hs)))), (oa, .inl (gZ g, 400, .inl (rB (ho)))), (ga, .inl (gI g, 32, .inl (rM (gr)))), (ca, .inl (gI g, 16, .inl (rO (ch)))), (ma, .inl (gI g, 5, .inl (rO (mt)))), (ba, .inl (gI g, 5, .inl (rO (bs)))), (ka, .inl (gI g, 5, .inl (rO (bk))))] (fun x1 w1 => x1 = b2i false ∧ w1 = [(o, .inr (7, [.ref ia, .ref wa, .ref ha, .ref oa, .ref ga, .ref ca, .ref ma, .ref ba, .ref ka, .int (oI (hnt)), .int (nI gd), .int (nI tn)])), (ia, .inl (gI g, 4, .inl (rM (idn)))), (wa, .inl (gI g, 20, .inl (rM (wd)))), (ha, .inl (gZ g, 400, .inl (rB (hs)))), (oa, .inl (gZ g, 400, .inl (rB (ho)))), (ga, .inl (gI g, 32, .inl (rM (gr)))), (ca, .inl (gI g, 16, .inl (rO (ch)))), (ma, .inl (gI g, 5, .inl (rO (mt)))), (ba, .inl (gI g, 5, .inl (rO (bs)))), (ka, .inl (gI g, 5, .inl (rO (bk))))]) := by
  refine fun sz => im_body (Qc := fun A => va_Qi _ (iB g _) A) (cc := cX7_isIdea) (maxL := 3) (ret := (some .boolean)) (by decide) rfl (Nat.le_of_ble_eq_true rfl) ?_ sz
  intro pg ev s0 mi below meth cd A hx hb hr hml hts hown hlocks hK hA H hP hD hS ls hl
  have hl : lv_has ls 3 [(0, .ref o), (1, .int (nI m)), (2, .int (w))] := hl
  refine lv_iload_n hx hb dX7_isIdea_0 rfl (lv_at hl 1 rfl) ?_
  refine im_S (k := 1) hx hb hml hown hts (c_X7_isMap l g (nI (m))) gX7_isIdea_X7_isMap rfl (by decide +kernel) ⟨Nat.le_of_ble_eq_true rfl, Nat.le_of_ble_eq_true rfl⟩ ⟨Nat.zero_le _, Nat.zero_le _⟩ hK hP hD hS hA [] rfl (by decide) rfl hl.1 (rest := []) (As := [.int (nI m)]) rfl (Nat.le_of_ble_eq_true rfl) dX7_isIdea_1 (fun x1 w1 H locs hpo hpd hS => ?_)
  obtain ⟨hx1, rfl⟩ := hpo
  rw [inR_nI (by omega) (by decide)] at hx1
  have hx1 : x1 = b2i (true) := hx1
  subst hx1
  obtain ⟨hP, hD⟩ := hpd [(o, .inr (7, [.ref ia, .ref wa, .ref ha, .ref oa, .ref ga, .ref ca, .ref ma, .ref ba, .ref ka, .int (oI (hnt)), .int (nI gd), .int (nI tn)])), (ia, .inl (gI g, 4, .inl (rM (idn)))), (wa, .inl (gI g, 20, .inl (rM (wd)))), (ha, .inl (gZ g, 400, .inl (rB (hs)))), (oa, .inl (gZ g, 400, .inl (rB (ho)))), (ga, .inl (gI g, 32, .inl (rM (gr)))), (ca, .inl (gI g, 16, .inl (rO (ch)))), (ma, .inl (gI g, 5, .inl (rO (mt)))), (ba, .inl (gI g, 5, .inl (rO (bs)))), (ka, .inl (gI g, 5, .inl (rO (bk))))] [0, 1, 2, 3, 4, 5, 6, 7, 8, 9] 10 rfl rfl [(o, .inr (7, [.ref ia, .ref wa, .ref ha, .ref oa, .ref ga, .ref ca, .ref ma, .ref ba, .ref ka, .int (oI (hnt)), .int (nI gd), .int (nI tn)])), (ia, .inl (gI g, 4, .inl (rM (idn)))), (wa, .inl (gI g, 20, .inl (rM (wd)))), (ha, .inl (gZ g, 400, .inl (rB (hs)))), (oa, .inl (gZ g, 400, .inl (rB (ho)))), (ga, .inl (gI g, 32, .inl (rM (gr)))), (ca, .inl (gI g, 16, .inl (rO (ch)))), (ma, .inl (gI g, 5, .inl (rO (mt)))), (ba, .inl (gI g, 5, .inl (rO (bs)))), (ka, .inl (gI g, 5, .inl (rO (bk))))] rfl rfl (by decide) (by decide)
  refine bv_if_eq (tgt := 25) hx hb dX7_isIdea_4 (by decide) (fun c_1 => ?_) (fun c_1 => ?_)
  · skip
    exfalso; first | exact c_1 | omega | (simp at c_1; done) | (exact absurd c_1 (by simp))
  · skip
    refine lv_iload_n hx hb dX7_isIdea_7 rfl (lv_at hl 2 rfl) ?_
    refine lv_if_lt (tgt := 25) hx hb dX7_isIdea_8 (by decide) (fun c_2 => ?_) (fun c_2 => ?_)
    · skip
      refine lv_iconst (v := nI (0)) hx hb dX7_isIdea_25 (by decide) ?_
      exact im_retz (w1 := [(o, .inr (7, [.ref ia, .ref wa, .ref ha, .ref oa, .ref ga, .ref ca, .ref ma, .ref ba, .ref ka, .int (oI (hnt)), .int (nI gd), .int (nI tn)])), (ia, .inl (gI g, 4, .inl (rM (idn)))), (wa, .inl (gI g, 20, .inl (rM (wd)))), (ha, .inl (gZ g, 400, .inl (rB (hs)))), (oa, .inl (gZ g, 400, .inl (rB (ho)))), (ga, .inl (gI g, 32, .inl (rM (gr)))), (ca, .inl (gI g, 16, .inl (rO (ch)))), (ma, .inl (gI g, 5, .inl (rO (mt)))), (ba, .inl (gI g, 5, .inl (rO (bs)))), (ka, .inl (gI g, 5, .inl (rO (bk))))]) (v := nI (0)) hx hb hr hlocks hP hS rfl ⟨rfl, rfl⟩ (by first | exact b2i_nar _ | rfl) dX7_isIdea_26
    · skip
      refine lv_iload_n hx hb dX7_isIdea_11 rfl (lv_at hl 2 rfl) ?_
      refine lv_aload_n hx hb dX7_isIdea_12 rfl (lv_at hl 0 rfl) ?_
      refine va_get (D := g.1) (ci := 7) (v := .ref ia) (C := RX7) (T := TX7) (N := 12) hx hb hts (fun _ h => (List.mem_cons_of_mem _ (List.mem_append_right _ h))) hown hK.1 hP 0 rfl rfl 0 (by decide) (hts _ (List.mem_cons_of_mem _ (List.mem_append_left _ (List.mem_of_getElem? (i := 0) rfl)))) (fun _ h9 => h9) rfl dX7_isIdea_13 ?_
      refine lv_iload_n hx hb dX7_isIdea_16 rfl (lv_at hl 1 rfl) ?_
      refine nv_iald (v := nI (idn m)) hx hb hK hP 1 rfl (by omega) (by decide) rfl dX7_isIdea_17 ?_
      refine lv_icmp_ge (tgt := 25) hx hb dX7_isIdea_18 (by decide) (fun c_3 => ?_) (fun c_3 => ?_)
      · skip
        refine lv_iconst (v := nI (0)) hx hb dX7_isIdea_25 (by decide) ?_
        exact im_retz (w1 := [(o, .inr (7, [.ref ia, .ref wa, .ref ha, .ref oa, .ref ga, .ref ca, .ref ma, .ref ba, .ref ka, .int (oI (hnt)), .int (nI gd), .int (nI tn)])), (ia, .inl (gI g, 4, .inl (rM (idn)))), (wa, .inl (gI g, 20, .inl (rM (wd)))), (ha, .inl (gZ g, 400, .inl (rB (hs)))), (oa, .inl (gZ g, 400, .inl (rB (ho)))), (ga, .inl (gI g, 32, .inl (rM (gr)))), (ca, .inl (gI g, 16, .inl (rO (ch)))), (ma, .inl (gI g, 5, .inl (rO (mt)))), (ba, .inl (gI g, 5, .inl (rO (bs)))), (ka, .inl (gI g, 5, .inl (rO (bk))))]) (v := nI (0)) hx hb hr hlocks hP hS rfl ⟨rfl, rfl⟩ (by first | exact b2i_nar _ | rfl) dX7_isIdea_26
      · skip
        exfalso; rw [inX_1 (by omega) (by assumption) c_3] at hbd; cases hbd

set_option maxRecDepth 100000 in
set_option maxHeartbeats 4000000 in
theorem c_X7_asksLink (l : Launch) (g : GG) (o ia wa ha oa ga ca ma ba ka : Nat) (idn wd : Nat → Nat) (hs ho : Nat → Bool) (gr : Nat → Nat) (ch mt bs bk : Nat → Option Nat) (hnt : Option Nat) (gd tn : Nat) (m f t d : Nat) (hm : m < 4) (hf : f < idn m) (ht : t < idn m) (hft : f ≠ t) (hd : d < 4) (hq5 : idn m ≤ 5) : IM l yX7_asksLink wsX7_asksLink 3 g [.ref o, .int (nI m), .int (nI f), .int (nI t), .int (nI d)] [(o, .inr (7, [.ref ia, .ref wa, .ref ha, .ref oa, .ref ga, .ref ca, .ref ma, .ref ba, .ref ka, .int (oI (hnt)), .int (nI gd), .int (nI tn)])), (ia, .inl (gI g, 4, .inl (rM (idn)))), (wa, .inl (gI g, 20, .inl (rM (wd)))), (ha, .inl (gZ g, 400, .inl (rB (hs)))), (oa, .inl (gZ g, 400, .inl (rB (ho)))), (ga, .inl (gI g, 32, .inl (rM (gr)))), (ca, .inl (gI g, 16, .inl (rO (ch)))), (ma, .inl (gI g, 5, .inl (rO (mt)))), (ba, .inl (gI g, 5, .inl (rO (bs)))), (ka, .inl (gI g, 5, .inl (rO (bk))))] (fun x1 w1 => x1 = b2i true ∧ w1 = [(o, .inr (7, [.ref ia, .ref wa, .ref ha, .ref oa, .ref ga, .ref ca, .ref ma, .ref ba, .ref ka, .int (oI (hnt)), .int (nI gd), .int (nI 0)])), (ia, .inl (gI g, 4, .inl (rM (idn)))), (wa, .inl (gI g, 20, .inl (rM (wd)))), (ha, .inl (gZ g, 400, .inl (rB (hs)))), (oa, .inl (gZ g, 400, .inl (rB (ho)))), (ga, .inl (gI g, 32, .inl (rM (gr)))), (ca, .inl (gI g, 16, .inl (rO (ch)))), (ma, .inl (gI g, 5, .inl (rO (mt)))), (ba, .inl (gI g, 5, .inl (rO (bs)))), (ka, .inl (gI g, 5, .inl (rO (bk))))]) := by
  refine fun sz => im_body (Qc := fun A => va_Qi _ (iB g _) A) (cc := cX7_asksLink) (maxL := 5) (ret := (some .boolean)) (by decide) rfl (Nat.le_of_ble_eq_true rfl) ?_ sz
  intro pg ev s0 mi below meth cd A hx hb hr hml hts hown hlocks hK hA H hP hD hS ls hl
  have hl : lv_has ls 5 [(0, .ref o), (1, .int (nI m)), (2, .int (nI f)), (3, .int (nI t)), (4, .int (nI d))] := hl
  refine lv_aload_n hx hb dX7_asksLink_0 rfl (lv_at hl 0 rfl) ?_
  refine lv_aload_n hx hb dX7_asksLink_1 rfl (lv_at hl 0 rfl) ?_
  refine lv_iload_n hx hb dX7_asksLink_2 rfl (lv_at hl 1 rfl) ?_
  refine lv_iload_n hx hb dX7_asksLink_3 rfl (lv_at hl 2 rfl) ?_
  refine im_V (k := 2) hx hb hml hown hts (c_X7_isIdea l g o ia wa ha oa ga ca ma ba ka (idn) (wd) (hs) (ho) (gr) (ch) (mt) (bs) (bk) (hnt) (gd) (tn) (m) (f) (by omega) (by omega) hq5) gX7_asksLink_X7_isIdea rfl (by decide +kernel) ⟨Nat.le_of_ble_eq_true rfl, Nat.le_of_ble_eq_true rfl⟩ ⟨Nat.zero_le _, Nat.zero_le _⟩ hK hP hD hS hA [0, 1, 2, 3, 4, 5, 6, 7, 8, 9] rfl (by decide) 0 7 rfl rfl rfl hl.1 (rest := [.ref o]) (As := [.int (nI m), .int (nI f)]) rfl (Nat.le_of_ble_eq_true rfl) dX7_asksLink_4 (fun x1 w1 H locs hpo hpd hS => ?_)
  obtain ⟨hx1, rfl⟩ := hpo
  have hx1 : x1 = b2i (true) := hx1
  subst hx1
  obtain ⟨hP, hD⟩ := hpd [(o, .inr (7, [.ref ia, .ref wa, .ref ha, .ref oa, .ref ga, .ref ca, .ref ma, .ref ba, .ref ka, .int (oI (hnt)), .int (nI gd), .int (nI tn)])), (ia, .inl (gI g, 4, .inl (rM (idn)))), (wa, .inl (gI g, 20, .inl (rM (wd)))), (ha, .inl (gZ g, 400, .inl (rB (hs)))), (oa, .inl (gZ g, 400, .inl (rB (ho)))), (ga, .inl (gI g, 32, .inl (rM (gr)))), (ca, .inl (gI g, 16, .inl (rO (ch)))), (ma, .inl (gI g, 5, .inl (rO (mt)))), (ba, .inl (gI g, 5, .inl (rO (bs)))), (ka, .inl (gI g, 5, .inl (rO (bk))))] [] 10 rfl rfl [] rfl rfl (by decide) (by decide)
  refine bv_if_eq (tgt := 19) hx hb dX7_asksLink_7 (by decide) (fun c_1 => ?_) (fun c_1 => ?_)
  · skip
    exfalso; first | exact c_1 | omega | (simp at c_1; done) | (exact absurd c_1 (by simp))
  · skip
    refine lv_aload_n hx hb dX7_asksLink_10 rfl (lv_at hl 0 rfl) ?_
    refine lv_iload_n hx hb dX7_asksLink_11 rfl (lv_at hl 1 rfl) ?_
    refine lv_iload_n hx hb dX7_asksLink_12 rfl (lv_at hl 3 rfl) ?_
    refine im_V (k := 2) hx hb hml hown hts (c_X7_isIdea l g o ia wa ha oa ga ca ma ba ka (idn) (wd) (hs) (ho) (gr) (ch) (mt) (bs) (bk) (hnt) (gd) (tn) (m) (t) (by omega) (by omega) hq5) gX7_asksLink_X7_isIdea rfl (by decide +kernel) ⟨Nat.le_of_ble_eq_true rfl, Nat.le_of_ble_eq_true rfl⟩ ⟨Nat.zero_le _, Nat.zero_le _⟩ hK hP hD hS hA [0, 1, 2, 3, 4, 5, 6, 7, 8, 9] rfl (by decide) 0 7 rfl rfl rfl hl.1 (rest := [.ref o]) (As := [.int (nI m), .int (nI t)]) rfl (Nat.le_of_ble_eq_true rfl) dX7_asksLink_13 (fun x1 w1 H locs hpo hpd hS => ?_)
    obtain ⟨hx1, rfl⟩ := hpo
    have hx1 : x1 = b2i (true) := hx1
    subst hx1
    obtain ⟨hP, hD⟩ := hpd [(o, .inr (7, [.ref ia, .ref wa, .ref ha, .ref oa, .ref ga, .ref ca, .ref ma, .ref ba, .ref ka, .int (oI (hnt)), .int (nI gd), .int (nI tn)])), (ia, .inl (gI g, 4, .inl (rM (idn)))), (wa, .inl (gI g, 20, .inl (rM (wd)))), (ha, .inl (gZ g, 400, .inl (rB (hs)))), (oa, .inl (gZ g, 400, .inl (rB (ho)))), (ga, .inl (gI g, 32, .inl (rM (gr)))), (ca, .inl (gI g, 16, .inl (rO (ch)))), (ma, .inl (gI g, 5, .inl (rO (mt)))), (ba, .inl (gI g, 5, .inl (rO (bs)))), (ka, .inl (gI g, 5, .inl (rO (bk))))] [] 10 rfl rfl [] rfl rfl (by decide) (by decide)
    refine bv_if_ne (tgt := 23) hx hb dX7_asksLink_16 (by decide) (fun c_2 => ?_) (fun c_2 => ?_)
    · skip
      refine lv_iload_n hx hb dX7_asksLink_23 rfl (lv_at hl 2 rfl) ?_
      refine lv_iload_n hx hb dX7_asksLink_24 rfl (lv_at hl 3 rfl) ?_
      refine nv_icmp_eq (tgt := 36) hx hb (by omega) (by omega) dX7_asksLink_25 (by decide) (fun c_3 => ?_) (fun c_3 => ?_)
      · skip
        exfalso; first | exact c_3 | omega | (simp at c_3; done) | (exact absurd c_3 (by simp))
      · skip
        refine lv_iload hx hb dX7_asksLink_28 (lv_at hl 4 rfl) ?_
        refine im_S (k := 1) hx hb hml hown hts (c_X7_isKind l g (nI (d))) gX7_asksLink_X7_isKind rfl (by decide +kernel) ⟨Nat.le_of_ble_eq_true rfl, Nat.le_of_ble_eq_true rfl⟩ ⟨Nat.zero_le _, Nat.zero_le _⟩ hK hP hD hS hA [] rfl (by decide) rfl hl.1 (rest := [.ref o]) (As := [.int (nI d)]) rfl (Nat.le_of_ble_eq_true rfl) dX7_asksLink_30 (fun x1 w1 H locs hpo hpd hS => ?_)
        obtain ⟨hx1, rfl⟩ := hpo
        rw [inR_nI (by omega) (by decide)] at hx1
        have hx1 : x1 = b2i (true) := hx1
        subst hx1
        obtain ⟨hP, hD⟩ := hpd [(o, .inr (7, [.ref ia, .ref wa, .ref ha, .ref oa, .ref ga, .ref ca, .ref ma, .ref ba, .ref ka, .int (oI (hnt)), .int (nI gd), .int (nI tn)])), (ia, .inl (gI g, 4, .inl (rM (idn)))), (wa, .inl (gI g, 20, .inl (rM (wd)))), (ha, .inl (gZ g, 400, .inl (rB (hs)))), (oa, .inl (gZ g, 400, .inl (rB (ho)))), (ga, .inl (gI g, 32, .inl (rM (gr)))), (ca, .inl (gI g, 16, .inl (rO (ch)))), (ma, .inl (gI g, 5, .inl (rO (mt)))), (ba, .inl (gI g, 5, .inl (rO (bs)))), (ka, .inl (gI g, 5, .inl (rO (bk))))] [0, 1, 2, 3, 4, 5, 6, 7, 8, 9] 10 rfl rfl [(o, .inr (7, [.ref ia, .ref wa, .ref ha, .ref oa, .ref ga, .ref ca, .ref ma, .ref ba, .ref ka, .int (oI (hnt)), .int (nI gd), .int (nI tn)])), (ia, .inl (gI g, 4, .inl (rM (idn)))), (wa, .inl (gI g, 20, .inl (rM (wd)))), (ha, .inl (gZ g, 400, .inl (rB (hs)))), (oa, .inl (gZ g, 400, .inl (rB (ho)))), (ga, .inl (gI g, 32, .inl (rM (gr)))), (ca, .inl (gI g, 16, .inl (rO (ch)))), (ma, .inl (gI g, 5, .inl (rO (mt)))), (ba, .inl (gI g, 5, .inl (rO (bs)))), (ka, .inl (gI g, 5, .inl (rO (bk))))] rfl rfl (by decide) (by decide)
        refine bv_if_ne (tgt := 40) hx hb dX7_asksLink_33 (by decide) (fun c_4 => ?_) (fun c_4 => ?_)
        · skip
          refine lv_iconst (v := nI (0)) hx hb dX7_asksLink_40 (by decide) ?_
          refine va_put (D := g.1) (ci := 7) (v := .int (nI 0)) (ty := .int) (C := RX7) (T := TX7) (N := 12) hx hb hts (fun _ h => (List.mem_cons_of_mem _ (List.mem_append_right _ h))) tyX7 tyX7_ok nmX7 hown hK.1 hP hD hS 0 rfl rfl 11 (by decide) (hts _ (List.mem_cons_of_mem _ (List.mem_append_left _ (List.mem_of_getElem? (i := 0) rfl)))) (fun _ h9 => h9) rfl (by decide +kernel) rfl rfl (Nat.le_of_ble_eq_true rfl) dX7_asksLink_41 (fun H locs hP hD hS => ?_)
          have hP : va_P g.1 vwCl [(o, .inr (7, [.ref ia, .ref wa, .ref ha, .ref oa, .ref ga, .ref ca, .ref ma, .ref ba, .ref ka, .int (oI (hnt)), .int (nI gd), .int (nI 0)])), (ia, .inl (gI g, 4, .inl (rM (idn)))), (wa, .inl (gI g, 20, .inl (rM (wd)))), (ha, .inl (gZ g, 400, .inl (rB (hs)))), (oa, .inl (gZ g, 400, .inl (rB (ho)))), (ga, .inl (gI g, 32, .inl (rM (gr)))), (ca, .inl (gI g, 16, .inl (rO (ch)))), (ma, .inl (gI g, 5, .inl (rO (mt)))), (ba, .inl (gI g, 5, .inl (rO (bs)))), (ka, .inl (gI g, 5, .inl (rO (bk))))] H := hP
          have hD : va_D A [(o, .inr (7, [.ref ia, .ref wa, .ref ha, .ref oa, .ref ga, .ref ca, .ref ma, .ref ba, .ref ka, .int (oI (hnt)), .int (nI gd), .int (nI 0)])), (ia, .inl (gI g, 4, .inl (rM (idn)))), (wa, .inl (gI g, 20, .inl (rM (wd)))), (ha, .inl (gZ g, 400, .inl (rB (hs)))), (oa, .inl (gZ g, 400, .inl (rB (ho)))), (ga, .inl (gI g, 32, .inl (rM (gr)))), (ca, .inl (gI g, 16, .inl (rO (ch)))), (ma, .inl (gI g, 5, .inl (rO (mt)))), (ba, .inl (gI g, 5, .inl (rO (bs)))), (ka, .inl (gI g, 5, .inl (rO (bk))))] := hD
          refine lv_aload_n hx hb dX7_asksLink_44 rfl (lv_at hl 0 rfl) ?_
          refine va_get (D := g.1) (ci := 7) (v := .int (nI 0)) (C := RX7) (T := TX7) (N := 12) hx hb hts (fun _ h => (List.mem_cons_of_mem _ (List.mem_append_right _ h))) hown hK.1 hP 0 rfl rfl 11 (by decide) (hts _ (List.mem_cons_of_mem _ (List.mem_append_left _ (List.mem_of_getElem? (i := 0) rfl)))) (fun _ h9 => h9) rfl dX7_asksLink_45 ?_
          refine nv_if_ne (tgt := 55) hx hb (by omega) dX7_asksLink_48 (by decide) (fun c_5 => ?_) (fun c_5 => ?_)
          · skip
            exfalso; first | exact c_5 | omega | (simp at c_5; done) | (exact absurd c_5 (by simp))
          · skip
            refine lv_iconst (v := nI (1)) hx hb dX7_asksLink_51 (by decide) ?_
            refine lv_goto (tgt := 56) hx hb dX7_asksLink_52 (by decide) ?_
            exact im_retz (w1 := [(o, .inr (7, [.ref ia, .ref wa, .ref ha, .ref oa, .ref ga, .ref ca, .ref ma, .ref ba, .ref ka, .int (oI (hnt)), .int (nI gd), .int (nI 0)])), (ia, .inl (gI g, 4, .inl (rM (idn)))), (wa, .inl (gI g, 20, .inl (rM (wd)))), (ha, .inl (gZ g, 400, .inl (rB (hs)))), (oa, .inl (gZ g, 400, .inl (rB (ho)))), (ga, .inl (gI g, 32, .inl (rM (gr)))), (ca, .inl (gI g, 16, .inl (rO (ch)))), (ma, .inl (gI g, 5, .inl (rO (mt)))), (ba, .inl (gI g, 5, .inl (rO (bs)))), (ka, .inl (gI g, 5, .inl (rO (bk))))]) (v := nI (1)) hx hb hr hlocks hP hS rfl ⟨rfl, rfl⟩ (by first | exact b2i_nar _ | rfl) dX7_asksLink_56
        · skip
          exfalso; first | exact c_4 | omega | (simp at c_4; done) | (exact absurd c_4 (by simp))
    · skip
      exfalso; first | exact c_2 | omega | (simp at c_2; done) | (exact absurd c_2 (by simp))

set_option maxRecDepth 100000 in
set_option maxHeartbeats 4000000 in
theorem c_X7_asksLink_b1 (l : Launch) (g : GG) (o ia wa ha oa ga ca ma ba ka : Nat) (idn wd : Nat → Nat) (hs ho : Nat → Bool) (gr : Nat → Nat) (ch mt bs bk : Nat → Option Nat) (hnt : Option Nat) (gd tn : Nat) (v a1 b1 d1 : Int32) (hbd : inR v 4 = false) : IM l yX7_asksLink wsX7_asksLink 3 g [.ref o, .int (v), .int (a1), .int (b1), .int (d1)] [(o, .inr (7, [.ref ia, .ref wa, .ref ha, .ref oa, .ref ga, .ref ca, .ref ma, .ref ba, .ref ka, .int (oI (hnt)), .int (nI gd), .int (nI tn)])), (ia, .inl (gI g, 4, .inl (rM (idn)))), (wa, .inl (gI g, 20, .inl (rM (wd)))), (ha, .inl (gZ g, 400, .inl (rB (hs)))), (oa, .inl (gZ g, 400, .inl (rB (ho)))), (ga, .inl (gI g, 32, .inl (rM (gr)))), (ca, .inl (gI g, 16, .inl (rO (ch)))), (ma, .inl (gI g, 5, .inl (rO (mt)))), (ba, .inl (gI g, 5, .inl (rO (bs)))), (ka, .inl (gI g, 5, .inl (rO (bk))))] (fun x1 w1 => x1 = b2i false ∧ w1 = [(o, .inr (7, [.ref ia, .ref wa, .ref ha, .ref oa, .ref ga, .ref ca, .ref ma, .ref ba, .ref ka, .int (oI (hnt)), .int (nI gd), .int (nI 1)])), (ia, .inl (gI g, 4, .inl (rM (idn)))), (wa, .inl (gI g, 20, .inl (rM (wd)))), (ha, .inl (gZ g, 400, .inl (rB (hs)))), (oa, .inl (gZ g, 400, .inl (rB (ho)))), (ga, .inl (gI g, 32, .inl (rM (gr)))), (ca, .inl (gI g, 16, .inl (rO (ch)))), (ma, .inl (gI g, 5, .inl (rO (mt)))), (ba, .inl (gI g, 5, .inl (rO (bs)))), (ka, .inl (gI g, 5, .inl (rO (bk))))]) := by
  refine fun sz => im_body (Qc := fun A => va_Qi _ (iB g _) A) (cc := cX7_asksLink) (maxL := 5) (ret := (some .boolean)) (by decide) rfl (Nat.le_of_ble_eq_true rfl) ?_ sz
  intro pg ev s0 mi below meth cd A hx hb hr hml hts hown hlocks hK hA H hP hD hS ls hl
  have hl : lv_has ls 5 [(0, .ref o), (1, .int (v)), (2, .int (a1)), (3, .int (b1)), (4, .int (d1))] := hl
  refine lv_aload_n hx hb dX7_asksLink_0 rfl (lv_at hl 0 rfl) ?_
  refine lv_aload_n hx hb dX7_asksLink_1 rfl (lv_at hl 0 rfl) ?_
  refine lv_iload_n hx hb dX7_asksLink_2 rfl (lv_at hl 1 rfl) ?_
  refine lv_iload_n hx hb dX7_asksLink_3 rfl (lv_at hl 2 rfl) ?_
  refine im_V (k := 2) hx hb hml hown hts (c_X7_isIdea_m l g o ia wa ha oa ga ca ma ba ka (idn) (wd) (hs) (ho) (gr) (ch) (mt) (bs) (bk) (hnt) (gd) (tn) (v) (a1) hbd) gX7_asksLink_X7_isIdea rfl (by decide +kernel) ⟨Nat.le_of_ble_eq_true rfl, Nat.le_of_ble_eq_true rfl⟩ ⟨Nat.zero_le _, Nat.zero_le _⟩ hK hP hD hS hA [0, 1, 2, 3, 4, 5, 6, 7, 8, 9] rfl (by decide) 0 7 rfl rfl rfl hl.1 (rest := [.ref o]) (As := [.int (v), .int (a1)]) rfl (Nat.le_of_ble_eq_true rfl) dX7_asksLink_4 (fun x1 w1 H locs hpo hpd hS => ?_)
  obtain ⟨hx1, rfl⟩ := hpo
  have hx1 : x1 = b2i (false) := hx1
  subst hx1
  obtain ⟨hP, hD⟩ := hpd [(o, .inr (7, [.ref ia, .ref wa, .ref ha, .ref oa, .ref ga, .ref ca, .ref ma, .ref ba, .ref ka, .int (oI (hnt)), .int (nI gd), .int (nI tn)])), (ia, .inl (gI g, 4, .inl (rM (idn)))), (wa, .inl (gI g, 20, .inl (rM (wd)))), (ha, .inl (gZ g, 400, .inl (rB (hs)))), (oa, .inl (gZ g, 400, .inl (rB (ho)))), (ga, .inl (gI g, 32, .inl (rM (gr)))), (ca, .inl (gI g, 16, .inl (rO (ch)))), (ma, .inl (gI g, 5, .inl (rO (mt)))), (ba, .inl (gI g, 5, .inl (rO (bs)))), (ka, .inl (gI g, 5, .inl (rO (bk))))] [] 10 rfl rfl [] rfl rfl (by decide) (by decide)
  refine bv_if_eq (tgt := 19) hx hb dX7_asksLink_7 (by decide) (fun c_1 => ?_) (fun c_1 => ?_)
  · skip
    refine lv_iconst (v := nI (1)) hx hb dX7_asksLink_19 (by decide) ?_
    refine lv_goto (tgt := 41) hx hb dX7_asksLink_20 (by decide) ?_
    refine va_put (D := g.1) (ci := 7) (v := .int (nI 1)) (ty := .int) (C := RX7) (T := TX7) (N := 12) hx hb hts (fun _ h => (List.mem_cons_of_mem _ (List.mem_append_right _ h))) tyX7 tyX7_ok nmX7 hown hK.1 hP hD hS 0 rfl rfl 11 (by decide) (hts _ (List.mem_cons_of_mem _ (List.mem_append_left _ (List.mem_of_getElem? (i := 0) rfl)))) (fun _ h9 => h9) rfl (by decide +kernel) rfl rfl (Nat.le_of_ble_eq_true rfl) dX7_asksLink_41 (fun H locs hP hD hS => ?_)
    have hP : va_P g.1 vwCl [(o, .inr (7, [.ref ia, .ref wa, .ref ha, .ref oa, .ref ga, .ref ca, .ref ma, .ref ba, .ref ka, .int (oI (hnt)), .int (nI gd), .int (nI 1)])), (ia, .inl (gI g, 4, .inl (rM (idn)))), (wa, .inl (gI g, 20, .inl (rM (wd)))), (ha, .inl (gZ g, 400, .inl (rB (hs)))), (oa, .inl (gZ g, 400, .inl (rB (ho)))), (ga, .inl (gI g, 32, .inl (rM (gr)))), (ca, .inl (gI g, 16, .inl (rO (ch)))), (ma, .inl (gI g, 5, .inl (rO (mt)))), (ba, .inl (gI g, 5, .inl (rO (bs)))), (ka, .inl (gI g, 5, .inl (rO (bk))))] H := hP
    have hD : va_D A [(o, .inr (7, [.ref ia, .ref wa, .ref ha, .ref oa, .ref ga, .ref ca, .ref ma, .ref ba, .ref ka, .int (oI (hnt)), .int (nI gd), .int (nI 1)])), (ia, .inl (gI g, 4, .inl (rM (idn)))), (wa, .inl (gI g, 20, .inl (rM (wd)))), (ha, .inl (gZ g, 400, .inl (rB (hs)))), (oa, .inl (gZ g, 400, .inl (rB (ho)))), (ga, .inl (gI g, 32, .inl (rM (gr)))), (ca, .inl (gI g, 16, .inl (rO (ch)))), (ma, .inl (gI g, 5, .inl (rO (mt)))), (ba, .inl (gI g, 5, .inl (rO (bs)))), (ka, .inl (gI g, 5, .inl (rO (bk))))] := hD
    refine lv_aload_n hx hb dX7_asksLink_44 rfl (lv_at hl 0 rfl) ?_
    refine va_get (D := g.1) (ci := 7) (v := .int (nI 1)) (C := RX7) (T := TX7) (N := 12) hx hb hts (fun _ h => (List.mem_cons_of_mem _ (List.mem_append_right _ h))) hown hK.1 hP 0 rfl rfl 11 (by decide) (hts _ (List.mem_cons_of_mem _ (List.mem_append_left _ (List.mem_of_getElem? (i := 0) rfl)))) (fun _ h9 => h9) rfl dX7_asksLink_45 ?_
    refine nv_if_ne (tgt := 55) hx hb (by omega) dX7_asksLink_48 (by decide) (fun c_2 => ?_) (fun c_2 => ?_)
    · skip
      refine lv_iconst (v := nI (0)) hx hb dX7_asksLink_55 (by decide) ?_
      exact im_retz (w1 := [(o, .inr (7, [.ref ia, .ref wa, .ref ha, .ref oa, .ref ga, .ref ca, .ref ma, .ref ba, .ref ka, .int (oI (hnt)), .int (nI gd), .int (nI 1)])), (ia, .inl (gI g, 4, .inl (rM (idn)))), (wa, .inl (gI g, 20, .inl (rM (wd)))), (ha, .inl (gZ g, 400, .inl (rB (hs)))), (oa, .inl (gZ g, 400, .inl (rB (ho)))), (ga, .inl (gI g, 32, .inl (rM (gr)))), (ca, .inl (gI g, 16, .inl (rO (ch)))), (ma, .inl (gI g, 5, .inl (rO (mt)))), (ba, .inl (gI g, 5, .inl (rO (bs)))), (ka, .inl (gI g, 5, .inl (rO (bk))))]) (v := nI (0)) hx hb hr hlocks hP hS rfl ⟨rfl, rfl⟩ (by first | exact b2i_nar _ | rfl) dX7_asksLink_56
    · skip
      exfalso; first | exact c_2 | omega | (simp at c_2; done) | (exact absurd c_2 (by simp))
  · skip
    exfalso; first | exact c_1 | omega | (simp at c_1; done) | (exact absurd c_1 (by simp))

set_option maxRecDepth 100000 in
set_option maxHeartbeats 4000000 in
theorem c_X7_asksLink_b2 (l : Launch) (g : GG) (o ia wa ha oa ga ca ma ba ka : Nat) (idn wd : Nat → Nat) (hs ho : Nat → Bool) (gr : Nat → Nat) (ch mt bs bk : Nat → Option Nat) (hnt : Option Nat) (gd tn : Nat) (m : Nat) (a1 b1 d1 : Int32) (hm : m < 4) (hbd : inR a1 (idn m) = false) (hq5 : idn m ≤ 5) : IM l yX7_asksLink wsX7_asksLink 3 g [.ref o, .int (nI m), .int (a1), .int (b1), .int (d1)] [(o, .inr (7, [.ref ia, .ref wa, .ref ha, .ref oa, .ref ga, .ref ca, .ref ma, .ref ba, .ref ka, .int (oI (hnt)), .int (nI gd), .int (nI tn)])), (ia, .inl (gI g, 4, .inl (rM (idn)))), (wa, .inl (gI g, 20, .inl (rM (wd)))), (ha, .inl (gZ g, 400, .inl (rB (hs)))), (oa, .inl (gZ g, 400, .inl (rB (ho)))), (ga, .inl (gI g, 32, .inl (rM (gr)))), (ca, .inl (gI g, 16, .inl (rO (ch)))), (ma, .inl (gI g, 5, .inl (rO (mt)))), (ba, .inl (gI g, 5, .inl (rO (bs)))), (ka, .inl (gI g, 5, .inl (rO (bk))))] (fun x1 w1 => x1 = b2i false ∧ w1 = [(o, .inr (7, [.ref ia, .ref wa, .ref ha, .ref oa, .ref ga, .ref ca, .ref ma, .ref ba, .ref ka, .int (oI (hnt)), .int (nI gd), .int (nI 1)])), (ia, .inl (gI g, 4, .inl (rM (idn)))), (wa, .inl (gI g, 20, .inl (rM (wd)))), (ha, .inl (gZ g, 400, .inl (rB (hs)))), (oa, .inl (gZ g, 400, .inl (rB (ho)))), (ga, .inl (gI g, 32, .inl (rM (gr)))), (ca, .inl (gI g, 16, .inl (rO (ch)))), (ma, .inl (gI g, 5, .inl (rO (mt)))), (ba, .inl (gI g, 5, .inl (rO (bs)))), (ka, .inl (gI g, 5, .inl (rO (bk))))]) := by
  refine fun sz => im_body (Qc := fun A => va_Qi _ (iB g _) A) (cc := cX7_asksLink) (maxL := 5) (ret := (some .boolean)) (by decide) rfl (Nat.le_of_ble_eq_true rfl) ?_ sz
  intro pg ev s0 mi below meth cd A hx hb hr hml hts hown hlocks hK hA H hP hD hS ls hl
  have hl : lv_has ls 5 [(0, .ref o), (1, .int (nI m)), (2, .int (a1)), (3, .int (b1)), (4, .int (d1))] := hl
  refine lv_aload_n hx hb dX7_asksLink_0 rfl (lv_at hl 0 rfl) ?_
  refine lv_aload_n hx hb dX7_asksLink_1 rfl (lv_at hl 0 rfl) ?_
  refine lv_iload_n hx hb dX7_asksLink_2 rfl (lv_at hl 1 rfl) ?_
  refine lv_iload_n hx hb dX7_asksLink_3 rfl (lv_at hl 2 rfl) ?_
  refine im_V (k := 2) hx hb hml hown hts (c_X7_isIdea_i l g o ia wa ha oa ga ca ma ba ka (idn) (wd) (hs) (ho) (gr) (ch) (mt) (bs) (bk) (hnt) (gd) (tn) (m) (a1) (by omega) hbd hq5) gX7_asksLink_X7_isIdea rfl (by decide +kernel) ⟨Nat.le_of_ble_eq_true rfl, Nat.le_of_ble_eq_true rfl⟩ ⟨Nat.zero_le _, Nat.zero_le _⟩ hK hP hD hS hA [0, 1, 2, 3, 4, 5, 6, 7, 8, 9] rfl (by decide) 0 7 rfl rfl rfl hl.1 (rest := [.ref o]) (As := [.int (nI m), .int (a1)]) rfl (Nat.le_of_ble_eq_true rfl) dX7_asksLink_4 (fun x1 w1 H locs hpo hpd hS => ?_)
  obtain ⟨hx1, rfl⟩ := hpo
  have hx1 : x1 = b2i (false) := hx1
  subst hx1
  obtain ⟨hP, hD⟩ := hpd [(o, .inr (7, [.ref ia, .ref wa, .ref ha, .ref oa, .ref ga, .ref ca, .ref ma, .ref ba, .ref ka, .int (oI (hnt)), .int (nI gd), .int (nI tn)])), (ia, .inl (gI g, 4, .inl (rM (idn)))), (wa, .inl (gI g, 20, .inl (rM (wd)))), (ha, .inl (gZ g, 400, .inl (rB (hs)))), (oa, .inl (gZ g, 400, .inl (rB (ho)))), (ga, .inl (gI g, 32, .inl (rM (gr)))), (ca, .inl (gI g, 16, .inl (rO (ch)))), (ma, .inl (gI g, 5, .inl (rO (mt)))), (ba, .inl (gI g, 5, .inl (rO (bs)))), (ka, .inl (gI g, 5, .inl (rO (bk))))] [] 10 rfl rfl [] rfl rfl (by decide) (by decide)
  refine bv_if_eq (tgt := 19) hx hb dX7_asksLink_7 (by decide) (fun c_1 => ?_) (fun c_1 => ?_)
  · skip
    refine lv_iconst (v := nI (1)) hx hb dX7_asksLink_19 (by decide) ?_
    refine lv_goto (tgt := 41) hx hb dX7_asksLink_20 (by decide) ?_
    refine va_put (D := g.1) (ci := 7) (v := .int (nI 1)) (ty := .int) (C := RX7) (T := TX7) (N := 12) hx hb hts (fun _ h => (List.mem_cons_of_mem _ (List.mem_append_right _ h))) tyX7 tyX7_ok nmX7 hown hK.1 hP hD hS 0 rfl rfl 11 (by decide) (hts _ (List.mem_cons_of_mem _ (List.mem_append_left _ (List.mem_of_getElem? (i := 0) rfl)))) (fun _ h9 => h9) rfl (by decide +kernel) rfl rfl (Nat.le_of_ble_eq_true rfl) dX7_asksLink_41 (fun H locs hP hD hS => ?_)
    have hP : va_P g.1 vwCl [(o, .inr (7, [.ref ia, .ref wa, .ref ha, .ref oa, .ref ga, .ref ca, .ref ma, .ref ba, .ref ka, .int (oI (hnt)), .int (nI gd), .int (nI 1)])), (ia, .inl (gI g, 4, .inl (rM (idn)))), (wa, .inl (gI g, 20, .inl (rM (wd)))), (ha, .inl (gZ g, 400, .inl (rB (hs)))), (oa, .inl (gZ g, 400, .inl (rB (ho)))), (ga, .inl (gI g, 32, .inl (rM (gr)))), (ca, .inl (gI g, 16, .inl (rO (ch)))), (ma, .inl (gI g, 5, .inl (rO (mt)))), (ba, .inl (gI g, 5, .inl (rO (bs)))), (ka, .inl (gI g, 5, .inl (rO (bk))))] H := hP
    have hD : va_D A [(o, .inr (7, [.ref ia, .ref wa, .ref ha, .ref oa, .ref ga, .ref ca, .ref ma, .ref ba, .ref ka, .int (oI (hnt)), .int (nI gd), .int (nI 1)])), (ia, .inl (gI g, 4, .inl (rM (idn)))), (wa, .inl (gI g, 20, .inl (rM (wd)))), (ha, .inl (gZ g, 400, .inl (rB (hs)))), (oa, .inl (gZ g, 400, .inl (rB (ho)))), (ga, .inl (gI g, 32, .inl (rM (gr)))), (ca, .inl (gI g, 16, .inl (rO (ch)))), (ma, .inl (gI g, 5, .inl (rO (mt)))), (ba, .inl (gI g, 5, .inl (rO (bs)))), (ka, .inl (gI g, 5, .inl (rO (bk))))] := hD
    refine lv_aload_n hx hb dX7_asksLink_44 rfl (lv_at hl 0 rfl) ?_
    refine va_get (D := g.1) (ci := 7) (v := .int (nI 1)) (C := RX7) (T := TX7) (N := 12) hx hb hts (fun _ h => (List.mem_cons_of_mem _ (List.mem_append_right _ h))) hown hK.1 hP 0 rfl rfl 11 (by decide) (hts _ (List.mem_cons_of_mem _ (List.mem_append_left _ (List.mem_of_getElem? (i := 0) rfl)))) (fun _ h9 => h9) rfl dX7_asksLink_45 ?_
    refine nv_if_ne (tgt := 55) hx hb (by omega) dX7_asksLink_48 (by decide) (fun c_2 => ?_) (fun c_2 => ?_)
    · skip
      refine lv_iconst (v := nI (0)) hx hb dX7_asksLink_55 (by decide) ?_
      exact im_retz (w1 := [(o, .inr (7, [.ref ia, .ref wa, .ref ha, .ref oa, .ref ga, .ref ca, .ref ma, .ref ba, .ref ka, .int (oI (hnt)), .int (nI gd), .int (nI 1)])), (ia, .inl (gI g, 4, .inl (rM (idn)))), (wa, .inl (gI g, 20, .inl (rM (wd)))), (ha, .inl (gZ g, 400, .inl (rB (hs)))), (oa, .inl (gZ g, 400, .inl (rB (ho)))), (ga, .inl (gI g, 32, .inl (rM (gr)))), (ca, .inl (gI g, 16, .inl (rO (ch)))), (ma, .inl (gI g, 5, .inl (rO (mt)))), (ba, .inl (gI g, 5, .inl (rO (bs)))), (ka, .inl (gI g, 5, .inl (rO (bk))))]) (v := nI (0)) hx hb hr hlocks hP hS rfl ⟨rfl, rfl⟩ (by first | exact b2i_nar _ | rfl) dX7_asksLink_56
    · skip
      exfalso; first | exact c_2 | omega | (simp at c_2; done) | (exact absurd c_2 (by simp))
  · skip
    exfalso; first | exact c_1 | omega | (simp at c_1; done) | (exact absurd c_1 (by simp))

set_option maxRecDepth 100000 in
set_option maxHeartbeats 4000000 in
theorem c_X7_asksLink_b3 (l : Launch) (g : GG) (o ia wa ha oa ga ca ma ba ka : Nat) (idn wd : Nat → Nat) (hs ho : Nat → Bool) (gr : Nat → Nat) (ch mt bs bk : Nat → Option Nat) (hnt : Option Nat) (gd tn : Nat) (m f : Nat) (b1 d1 : Int32) (hm : m < 4) (hf : f < idn m) (hbd : inR b1 (idn m) = false) (hq5 : idn m ≤ 5) : IM l yX7_asksLink wsX7_asksLink 3 g [.ref o, .int (nI m), .int (nI f), .int (b1), .int (d1)] [(o, .inr (7, [.ref ia, .ref wa, .ref ha, .ref oa, .ref ga, .ref ca, .ref ma, .ref ba, .ref ka, .int (oI (hnt)), .int (nI gd), .int (nI tn)])), (ia, .inl (gI g, 4, .inl (rM (idn)))), (wa, .inl (gI g, 20, .inl (rM (wd)))), (ha, .inl (gZ g, 400, .inl (rB (hs)))), (oa, .inl (gZ g, 400, .inl (rB (ho)))), (ga, .inl (gI g, 32, .inl (rM (gr)))), (ca, .inl (gI g, 16, .inl (rO (ch)))), (ma, .inl (gI g, 5, .inl (rO (mt)))), (ba, .inl (gI g, 5, .inl (rO (bs)))), (ka, .inl (gI g, 5, .inl (rO (bk))))] (fun x1 w1 => x1 = b2i false ∧ w1 = [(o, .inr (7, [.ref ia, .ref wa, .ref ha, .ref oa, .ref ga, .ref ca, .ref ma, .ref ba, .ref ka, .int (oI (hnt)), .int (nI gd), .int (nI 1)])), (ia, .inl (gI g, 4, .inl (rM (idn)))), (wa, .inl (gI g, 20, .inl (rM (wd)))), (ha, .inl (gZ g, 400, .inl (rB (hs)))), (oa, .inl (gZ g, 400, .inl (rB (ho)))), (ga, .inl (gI g, 32, .inl (rM (gr)))), (ca, .inl (gI g, 16, .inl (rO (ch)))), (ma, .inl (gI g, 5, .inl (rO (mt)))), (ba, .inl (gI g, 5, .inl (rO (bs)))), (ka, .inl (gI g, 5, .inl (rO (bk))))]) := by
  refine fun sz => im_body (Qc := fun A => va_Qi _ (iB g _) A) (cc := cX7_asksLink) (maxL := 5) (ret := (some .boolean)) (by decide) rfl (Nat.le_of_ble_eq_true rfl) ?_ sz
  intro pg ev s0 mi below meth cd A hx hb hr hml hts hown hlocks hK hA H hP hD hS ls hl
  have hl : lv_has ls 5 [(0, .ref o), (1, .int (nI m)), (2, .int (nI f)), (3, .int (b1)), (4, .int (d1))] := hl
  refine lv_aload_n hx hb dX7_asksLink_0 rfl (lv_at hl 0 rfl) ?_
  refine lv_aload_n hx hb dX7_asksLink_1 rfl (lv_at hl 0 rfl) ?_
  refine lv_iload_n hx hb dX7_asksLink_2 rfl (lv_at hl 1 rfl) ?_
  refine lv_iload_n hx hb dX7_asksLink_3 rfl (lv_at hl 2 rfl) ?_
  refine im_V (k := 2) hx hb hml hown hts (c_X7_isIdea l g o ia wa ha oa ga ca ma ba ka (idn) (wd) (hs) (ho) (gr) (ch) (mt) (bs) (bk) (hnt) (gd) (tn) (m) (f) (by omega) (by omega) hq5) gX7_asksLink_X7_isIdea rfl (by decide +kernel) ⟨Nat.le_of_ble_eq_true rfl, Nat.le_of_ble_eq_true rfl⟩ ⟨Nat.zero_le _, Nat.zero_le _⟩ hK hP hD hS hA [0, 1, 2, 3, 4, 5, 6, 7, 8, 9] rfl (by decide) 0 7 rfl rfl rfl hl.1 (rest := [.ref o]) (As := [.int (nI m), .int (nI f)]) rfl (Nat.le_of_ble_eq_true rfl) dX7_asksLink_4 (fun x1 w1 H locs hpo hpd hS => ?_)
  obtain ⟨hx1, rfl⟩ := hpo
  have hx1 : x1 = b2i (true) := hx1
  subst hx1
  obtain ⟨hP, hD⟩ := hpd [(o, .inr (7, [.ref ia, .ref wa, .ref ha, .ref oa, .ref ga, .ref ca, .ref ma, .ref ba, .ref ka, .int (oI (hnt)), .int (nI gd), .int (nI tn)])), (ia, .inl (gI g, 4, .inl (rM (idn)))), (wa, .inl (gI g, 20, .inl (rM (wd)))), (ha, .inl (gZ g, 400, .inl (rB (hs)))), (oa, .inl (gZ g, 400, .inl (rB (ho)))), (ga, .inl (gI g, 32, .inl (rM (gr)))), (ca, .inl (gI g, 16, .inl (rO (ch)))), (ma, .inl (gI g, 5, .inl (rO (mt)))), (ba, .inl (gI g, 5, .inl (rO (bs)))), (ka, .inl (gI g, 5, .inl (rO (bk))))] [] 10 rfl rfl [] rfl rfl (by decide) (by decide)
  refine bv_if_eq (tgt := 19) hx hb dX7_asksLink_7 (by decide) (fun c_1 => ?_) (fun c_1 => ?_)
  · skip
    exfalso; first | exact c_1 | omega | (simp at c_1; done) | (exact absurd c_1 (by simp))
  · skip
    refine lv_aload_n hx hb dX7_asksLink_10 rfl (lv_at hl 0 rfl) ?_
    refine lv_iload_n hx hb dX7_asksLink_11 rfl (lv_at hl 1 rfl) ?_
    refine lv_iload_n hx hb dX7_asksLink_12 rfl (lv_at hl 3 rfl) ?_
    refine im_V (k := 2) hx hb hml hown hts (c_X7_isIdea_i l g o ia wa ha oa ga ca ma ba ka (idn) (wd) (hs) (ho) (gr) (ch) (mt) (bs) (bk) (hnt) (gd) (tn) (m) (b1) (by omega) hbd hq5) gX7_asksLink_X7_isIdea rfl (by decide +kernel) ⟨Nat.le_of_ble_eq_true rfl, Nat.le_of_ble_eq_true rfl⟩ ⟨Nat.zero_le _, Nat.zero_le _⟩ hK hP hD hS hA [0, 1, 2, 3, 4, 5, 6, 7, 8, 9] rfl (by decide) 0 7 rfl rfl rfl hl.1 (rest := [.ref o]) (As := [.int (nI m), .int (b1)]) rfl (Nat.le_of_ble_eq_true rfl) dX7_asksLink_13 (fun x1 w1 H locs hpo hpd hS => ?_)
    obtain ⟨hx1, rfl⟩ := hpo
    have hx1 : x1 = b2i (false) := hx1
    subst hx1
    obtain ⟨hP, hD⟩ := hpd [(o, .inr (7, [.ref ia, .ref wa, .ref ha, .ref oa, .ref ga, .ref ca, .ref ma, .ref ba, .ref ka, .int (oI (hnt)), .int (nI gd), .int (nI tn)])), (ia, .inl (gI g, 4, .inl (rM (idn)))), (wa, .inl (gI g, 20, .inl (rM (wd)))), (ha, .inl (gZ g, 400, .inl (rB (hs)))), (oa, .inl (gZ g, 400, .inl (rB (ho)))), (ga, .inl (gI g, 32, .inl (rM (gr)))), (ca, .inl (gI g, 16, .inl (rO (ch)))), (ma, .inl (gI g, 5, .inl (rO (mt)))), (ba, .inl (gI g, 5, .inl (rO (bs)))), (ka, .inl (gI g, 5, .inl (rO (bk))))] [] 10 rfl rfl [] rfl rfl (by decide) (by decide)
    refine bv_if_ne (tgt := 23) hx hb dX7_asksLink_16 (by decide) (fun c_2 => ?_) (fun c_2 => ?_)
    · skip
      exfalso; first | exact c_2 | omega | (simp at c_2; done) | (exact absurd c_2 (by simp))
    · skip
      refine lv_iconst (v := nI (1)) hx hb dX7_asksLink_19 (by decide) ?_
      refine lv_goto (tgt := 41) hx hb dX7_asksLink_20 (by decide) ?_
      refine va_put (D := g.1) (ci := 7) (v := .int (nI 1)) (ty := .int) (C := RX7) (T := TX7) (N := 12) hx hb hts (fun _ h => (List.mem_cons_of_mem _ (List.mem_append_right _ h))) tyX7 tyX7_ok nmX7 hown hK.1 hP hD hS 0 rfl rfl 11 (by decide) (hts _ (List.mem_cons_of_mem _ (List.mem_append_left _ (List.mem_of_getElem? (i := 0) rfl)))) (fun _ h9 => h9) rfl (by decide +kernel) rfl rfl (Nat.le_of_ble_eq_true rfl) dX7_asksLink_41 (fun H locs hP hD hS => ?_)
      have hP : va_P g.1 vwCl [(o, .inr (7, [.ref ia, .ref wa, .ref ha, .ref oa, .ref ga, .ref ca, .ref ma, .ref ba, .ref ka, .int (oI (hnt)), .int (nI gd), .int (nI 1)])), (ia, .inl (gI g, 4, .inl (rM (idn)))), (wa, .inl (gI g, 20, .inl (rM (wd)))), (ha, .inl (gZ g, 400, .inl (rB (hs)))), (oa, .inl (gZ g, 400, .inl (rB (ho)))), (ga, .inl (gI g, 32, .inl (rM (gr)))), (ca, .inl (gI g, 16, .inl (rO (ch)))), (ma, .inl (gI g, 5, .inl (rO (mt)))), (ba, .inl (gI g, 5, .inl (rO (bs)))), (ka, .inl (gI g, 5, .inl (rO (bk))))] H := hP
      have hD : va_D A [(o, .inr (7, [.ref ia, .ref wa, .ref ha, .ref oa, .ref ga, .ref ca, .ref ma, .ref ba, .ref ka, .int (oI (hnt)), .int (nI gd), .int (nI 1)])), (ia, .inl (gI g, 4, .inl (rM (idn)))), (wa, .inl (gI g, 20, .inl (rM (wd)))), (ha, .inl (gZ g, 400, .inl (rB (hs)))), (oa, .inl (gZ g, 400, .inl (rB (ho)))), (ga, .inl (gI g, 32, .inl (rM (gr)))), (ca, .inl (gI g, 16, .inl (rO (ch)))), (ma, .inl (gI g, 5, .inl (rO (mt)))), (ba, .inl (gI g, 5, .inl (rO (bs)))), (ka, .inl (gI g, 5, .inl (rO (bk))))] := hD
      refine lv_aload_n hx hb dX7_asksLink_44 rfl (lv_at hl 0 rfl) ?_
      refine va_get (D := g.1) (ci := 7) (v := .int (nI 1)) (C := RX7) (T := TX7) (N := 12) hx hb hts (fun _ h => (List.mem_cons_of_mem _ (List.mem_append_right _ h))) hown hK.1 hP 0 rfl rfl 11 (by decide) (hts _ (List.mem_cons_of_mem _ (List.mem_append_left _ (List.mem_of_getElem? (i := 0) rfl)))) (fun _ h9 => h9) rfl dX7_asksLink_45 ?_
      refine nv_if_ne (tgt := 55) hx hb (by omega) dX7_asksLink_48 (by decide) (fun c_3 => ?_) (fun c_3 => ?_)
      · skip
        refine lv_iconst (v := nI (0)) hx hb dX7_asksLink_55 (by decide) ?_
        exact im_retz (w1 := [(o, .inr (7, [.ref ia, .ref wa, .ref ha, .ref oa, .ref ga, .ref ca, .ref ma, .ref ba, .ref ka, .int (oI (hnt)), .int (nI gd), .int (nI 1)])), (ia, .inl (gI g, 4, .inl (rM (idn)))), (wa, .inl (gI g, 20, .inl (rM (wd)))), (ha, .inl (gZ g, 400, .inl (rB (hs)))), (oa, .inl (gZ g, 400, .inl (rB (ho)))), (ga, .inl (gI g, 32, .inl (rM (gr)))), (ca, .inl (gI g, 16, .inl (rO (ch)))), (ma, .inl (gI g, 5, .inl (rO (mt)))), (ba, .inl (gI g, 5, .inl (rO (bs)))), (ka, .inl (gI g, 5, .inl (rO (bk))))]) (v := nI (0)) hx hb hr hlocks hP hS rfl ⟨rfl, rfl⟩ (by first | exact b2i_nar _ | rfl) dX7_asksLink_56
      · skip
        exfalso; first | exact c_3 | omega | (simp at c_3; done) | (exact absurd c_3 (by simp))

set_option maxRecDepth 100000 in
set_option maxHeartbeats 4000000 in
theorem c_X7_asksLink_b4 (l : Launch) (g : GG) (o ia wa ha oa ga ca ma ba ka : Nat) (idn wd : Nat → Nat) (hs ho : Nat → Bool) (gr : Nat → Nat) (ch mt bs bk : Nat → Option Nat) (hnt : Option Nat) (gd tn : Nat) (m f t : Nat) (d1 : Int32) (hm : m < 4) (hf : f < idn m) (ht : t < idn m) (he : f = t) (hq5 : idn m ≤ 5) : IM l yX7_asksLink wsX7_asksLink 3 g [.ref o, .int (nI m), .int (nI f), .int (nI t), .int (d1)] [(o, .inr (7, [.ref ia, .ref wa, .ref ha, .ref oa, .ref ga, .ref ca, .ref ma, .ref ba, .ref ka, .int (oI (hnt)), .int (nI gd), .int (nI tn)])), (ia, .inl (gI g, 4, .inl (rM (idn)))), (wa, .inl (gI g, 20, .inl (rM (wd)))), (ha, .inl (gZ g, 400, .inl (rB (hs)))), (oa, .inl (gZ g, 400, .inl (rB (ho)))), (ga, .inl (gI g, 32, .inl (rM (gr)))), (ca, .inl (gI g, 16, .inl (rO (ch)))), (ma, .inl (gI g, 5, .inl (rO (mt)))), (ba, .inl (gI g, 5, .inl (rO (bs)))), (ka, .inl (gI g, 5, .inl (rO (bk))))] (fun x1 w1 => x1 = b2i false ∧ w1 = [(o, .inr (7, [.ref ia, .ref wa, .ref ha, .ref oa, .ref ga, .ref ca, .ref ma, .ref ba, .ref ka, .int (oI (hnt)), .int (nI gd), .int (nI 2)])), (ia, .inl (gI g, 4, .inl (rM (idn)))), (wa, .inl (gI g, 20, .inl (rM (wd)))), (ha, .inl (gZ g, 400, .inl (rB (hs)))), (oa, .inl (gZ g, 400, .inl (rB (ho)))), (ga, .inl (gI g, 32, .inl (rM (gr)))), (ca, .inl (gI g, 16, .inl (rO (ch)))), (ma, .inl (gI g, 5, .inl (rO (mt)))), (ba, .inl (gI g, 5, .inl (rO (bs)))), (ka, .inl (gI g, 5, .inl (rO (bk))))]) := by
  refine fun sz => im_body (Qc := fun A => va_Qi _ (iB g _) A) (cc := cX7_asksLink) (maxL := 5) (ret := (some .boolean)) (by decide) rfl (Nat.le_of_ble_eq_true rfl) ?_ sz
  intro pg ev s0 mi below meth cd A hx hb hr hml hts hown hlocks hK hA H hP hD hS ls hl
  have hl : lv_has ls 5 [(0, .ref o), (1, .int (nI m)), (2, .int (nI f)), (3, .int (nI t)), (4, .int (d1))] := hl
  refine lv_aload_n hx hb dX7_asksLink_0 rfl (lv_at hl 0 rfl) ?_
  refine lv_aload_n hx hb dX7_asksLink_1 rfl (lv_at hl 0 rfl) ?_
  refine lv_iload_n hx hb dX7_asksLink_2 rfl (lv_at hl 1 rfl) ?_
  refine lv_iload_n hx hb dX7_asksLink_3 rfl (lv_at hl 2 rfl) ?_
  refine im_V (k := 2) hx hb hml hown hts (c_X7_isIdea l g o ia wa ha oa ga ca ma ba ka (idn) (wd) (hs) (ho) (gr) (ch) (mt) (bs) (bk) (hnt) (gd) (tn) (m) (f) (by omega) (by omega) hq5) gX7_asksLink_X7_isIdea rfl (by decide +kernel) ⟨Nat.le_of_ble_eq_true rfl, Nat.le_of_ble_eq_true rfl⟩ ⟨Nat.zero_le _, Nat.zero_le _⟩ hK hP hD hS hA [0, 1, 2, 3, 4, 5, 6, 7, 8, 9] rfl (by decide) 0 7 rfl rfl rfl hl.1 (rest := [.ref o]) (As := [.int (nI m), .int (nI f)]) rfl (Nat.le_of_ble_eq_true rfl) dX7_asksLink_4 (fun x1 w1 H locs hpo hpd hS => ?_)
  obtain ⟨hx1, rfl⟩ := hpo
  have hx1 : x1 = b2i (true) := hx1
  subst hx1
  obtain ⟨hP, hD⟩ := hpd [(o, .inr (7, [.ref ia, .ref wa, .ref ha, .ref oa, .ref ga, .ref ca, .ref ma, .ref ba, .ref ka, .int (oI (hnt)), .int (nI gd), .int (nI tn)])), (ia, .inl (gI g, 4, .inl (rM (idn)))), (wa, .inl (gI g, 20, .inl (rM (wd)))), (ha, .inl (gZ g, 400, .inl (rB (hs)))), (oa, .inl (gZ g, 400, .inl (rB (ho)))), (ga, .inl (gI g, 32, .inl (rM (gr)))), (ca, .inl (gI g, 16, .inl (rO (ch)))), (ma, .inl (gI g, 5, .inl (rO (mt)))), (ba, .inl (gI g, 5, .inl (rO (bs)))), (ka, .inl (gI g, 5, .inl (rO (bk))))] [] 10 rfl rfl [] rfl rfl (by decide) (by decide)
  refine bv_if_eq (tgt := 19) hx hb dX7_asksLink_7 (by decide) (fun c_1 => ?_) (fun c_1 => ?_)
  · skip
    exfalso; first | exact c_1 | omega | (simp at c_1; done) | (exact absurd c_1 (by simp))
  · skip
    refine lv_aload_n hx hb dX7_asksLink_10 rfl (lv_at hl 0 rfl) ?_
    refine lv_iload_n hx hb dX7_asksLink_11 rfl (lv_at hl 1 rfl) ?_
    refine lv_iload_n hx hb dX7_asksLink_12 rfl (lv_at hl 3 rfl) ?_
    refine im_V (k := 2) hx hb hml hown hts (c_X7_isIdea l g o ia wa ha oa ga ca ma ba ka (idn) (wd) (hs) (ho) (gr) (ch) (mt) (bs) (bk) (hnt) (gd) (tn) (m) (t) (by omega) (by omega) hq5) gX7_asksLink_X7_isIdea rfl (by decide +kernel) ⟨Nat.le_of_ble_eq_true rfl, Nat.le_of_ble_eq_true rfl⟩ ⟨Nat.zero_le _, Nat.zero_le _⟩ hK hP hD hS hA [0, 1, 2, 3, 4, 5, 6, 7, 8, 9] rfl (by decide) 0 7 rfl rfl rfl hl.1 (rest := [.ref o]) (As := [.int (nI m), .int (nI t)]) rfl (Nat.le_of_ble_eq_true rfl) dX7_asksLink_13 (fun x1 w1 H locs hpo hpd hS => ?_)
    obtain ⟨hx1, rfl⟩ := hpo
    have hx1 : x1 = b2i (true) := hx1
    subst hx1
    obtain ⟨hP, hD⟩ := hpd [(o, .inr (7, [.ref ia, .ref wa, .ref ha, .ref oa, .ref ga, .ref ca, .ref ma, .ref ba, .ref ka, .int (oI (hnt)), .int (nI gd), .int (nI tn)])), (ia, .inl (gI g, 4, .inl (rM (idn)))), (wa, .inl (gI g, 20, .inl (rM (wd)))), (ha, .inl (gZ g, 400, .inl (rB (hs)))), (oa, .inl (gZ g, 400, .inl (rB (ho)))), (ga, .inl (gI g, 32, .inl (rM (gr)))), (ca, .inl (gI g, 16, .inl (rO (ch)))), (ma, .inl (gI g, 5, .inl (rO (mt)))), (ba, .inl (gI g, 5, .inl (rO (bs)))), (ka, .inl (gI g, 5, .inl (rO (bk))))] [] 10 rfl rfl [] rfl rfl (by decide) (by decide)
    refine bv_if_ne (tgt := 23) hx hb dX7_asksLink_16 (by decide) (fun c_2 => ?_) (fun c_2 => ?_)
    · skip
      refine lv_iload_n hx hb dX7_asksLink_23 rfl (lv_at hl 2 rfl) ?_
      refine lv_iload_n hx hb dX7_asksLink_24 rfl (lv_at hl 3 rfl) ?_
      refine nv_icmp_eq (tgt := 36) hx hb (by omega) (by omega) dX7_asksLink_25 (by decide) (fun c_3 => ?_) (fun c_3 => ?_)
      · skip
        refine lv_iconst (v := nI (2)) hx hb dX7_asksLink_36 (by decide) ?_
        refine lv_goto (tgt := 41) hx hb dX7_asksLink_37 (by decide) ?_
        refine va_put (D := g.1) (ci := 7) (v := .int (nI 2)) (ty := .int) (C := RX7) (T := TX7) (N := 12) hx hb hts (fun _ h => (List.mem_cons_of_mem _ (List.mem_append_right _ h))) tyX7 tyX7_ok nmX7 hown hK.1 hP hD hS 0 rfl rfl 11 (by decide) (hts _ (List.mem_cons_of_mem _ (List.mem_append_left _ (List.mem_of_getElem? (i := 0) rfl)))) (fun _ h9 => h9) rfl (by decide +kernel) rfl rfl (Nat.le_of_ble_eq_true rfl) dX7_asksLink_41 (fun H locs hP hD hS => ?_)
        have hP : va_P g.1 vwCl [(o, .inr (7, [.ref ia, .ref wa, .ref ha, .ref oa, .ref ga, .ref ca, .ref ma, .ref ba, .ref ka, .int (oI (hnt)), .int (nI gd), .int (nI 2)])), (ia, .inl (gI g, 4, .inl (rM (idn)))), (wa, .inl (gI g, 20, .inl (rM (wd)))), (ha, .inl (gZ g, 400, .inl (rB (hs)))), (oa, .inl (gZ g, 400, .inl (rB (ho)))), (ga, .inl (gI g, 32, .inl (rM (gr)))), (ca, .inl (gI g, 16, .inl (rO (ch)))), (ma, .inl (gI g, 5, .inl (rO (mt)))), (ba, .inl (gI g, 5, .inl (rO (bs)))), (ka, .inl (gI g, 5, .inl (rO (bk))))] H := hP
        have hD : va_D A [(o, .inr (7, [.ref ia, .ref wa, .ref ha, .ref oa, .ref ga, .ref ca, .ref ma, .ref ba, .ref ka, .int (oI (hnt)), .int (nI gd), .int (nI 2)])), (ia, .inl (gI g, 4, .inl (rM (idn)))), (wa, .inl (gI g, 20, .inl (rM (wd)))), (ha, .inl (gZ g, 400, .inl (rB (hs)))), (oa, .inl (gZ g, 400, .inl (rB (ho)))), (ga, .inl (gI g, 32, .inl (rM (gr)))), (ca, .inl (gI g, 16, .inl (rO (ch)))), (ma, .inl (gI g, 5, .inl (rO (mt)))), (ba, .inl (gI g, 5, .inl (rO (bs)))), (ka, .inl (gI g, 5, .inl (rO (bk))))] := hD
        refine lv_aload_n hx hb dX7_asksLink_44 rfl (lv_at hl 0 rfl) ?_
        refine va_get (D := g.1) (ci := 7) (v := .int (nI 2)) (C := RX7) (T := TX7) (N := 12) hx hb hts (fun _ h => (List.mem_cons_of_mem _ (List.mem_append_right _ h))) hown hK.1 hP 0 rfl rfl 11 (by decide) (hts _ (List.mem_cons_of_mem _ (List.mem_append_left _ (List.mem_of_getElem? (i := 0) rfl)))) (fun _ h9 => h9) rfl dX7_asksLink_45 ?_
        refine nv_if_ne (tgt := 55) hx hb (by omega) dX7_asksLink_48 (by decide) (fun c_4 => ?_) (fun c_4 => ?_)
        · skip
          refine lv_iconst (v := nI (0)) hx hb dX7_asksLink_55 (by decide) ?_
          exact im_retz (w1 := [(o, .inr (7, [.ref ia, .ref wa, .ref ha, .ref oa, .ref ga, .ref ca, .ref ma, .ref ba, .ref ka, .int (oI (hnt)), .int (nI gd), .int (nI 2)])), (ia, .inl (gI g, 4, .inl (rM (idn)))), (wa, .inl (gI g, 20, .inl (rM (wd)))), (ha, .inl (gZ g, 400, .inl (rB (hs)))), (oa, .inl (gZ g, 400, .inl (rB (ho)))), (ga, .inl (gI g, 32, .inl (rM (gr)))), (ca, .inl (gI g, 16, .inl (rO (ch)))), (ma, .inl (gI g, 5, .inl (rO (mt)))), (ba, .inl (gI g, 5, .inl (rO (bs)))), (ka, .inl (gI g, 5, .inl (rO (bk))))]) (v := nI (0)) hx hb hr hlocks hP hS rfl ⟨rfl, rfl⟩ (by first | exact b2i_nar _ | rfl) dX7_asksLink_56
        · skip
          exfalso; first | exact c_4 | omega | (simp at c_4; done) | (exact absurd c_4 (by simp))
      · skip
        exfalso; first | exact c_3 | omega | (simp at c_3; done) | (exact absurd c_3 (by simp))
    · skip
      exfalso; first | exact c_2 | omega | (simp at c_2; done) | (exact absurd c_2 (by simp))

set_option maxRecDepth 100000 in
set_option maxHeartbeats 4000000 in
theorem c_X7_asksLink_b5 (l : Launch) (g : GG) (o ia wa ha oa ga ca ma ba ka : Nat) (idn wd : Nat → Nat) (hs ho : Nat → Bool) (gr : Nat → Nat) (ch mt bs bk : Nat → Option Nat) (hnt : Option Nat) (gd tn : Nat) (m f t : Nat) (d1 : Int32) (hm : m < 4) (hf : f < idn m) (ht : t < idn m) (hft : f ≠ t) (hbd : inR d1 4 = false) (hq5 : idn m ≤ 5) : IM l yX7_asksLink wsX7_asksLink 3 g [.ref o, .int (nI m), .int (nI f), .int (nI t), .int (d1)] [(o, .inr (7, [.ref ia, .ref wa, .ref ha, .ref oa, .ref ga, .ref ca, .ref ma, .ref ba, .ref ka, .int (oI (hnt)), .int (nI gd), .int (nI tn)])), (ia, .inl (gI g, 4, .inl (rM (idn)))), (wa, .inl (gI g, 20, .inl (rM (wd)))), (ha, .inl (gZ g, 400, .inl (rB (hs)))), (oa, .inl (gZ g, 400, .inl (rB (ho)))), (ga, .inl (gI g, 32, .inl (rM (gr)))), (ca, .inl (gI g, 16, .inl (rO (ch)))), (ma, .inl (gI g, 5, .inl (rO (mt)))), (ba, .inl (gI g, 5, .inl (rO (bs)))), (ka, .inl (gI g, 5, .inl (rO (bk))))] (fun x1 w1 => x1 = b2i false ∧ w1 = [(o, .inr (7, [.ref ia, .ref wa, .ref ha, .ref oa, .ref ga, .ref ca, .ref ma, .ref ba, .ref ka, .int (oI (hnt)), .int (nI gd), .int (nI 2)])), (ia, .inl (gI g, 4, .inl (rM (idn)))), (wa, .inl (gI g, 20, .inl (rM (wd)))), (ha, .inl (gZ g, 400, .inl (rB (hs)))), (oa, .inl (gZ g, 400, .inl (rB (ho)))), (ga, .inl (gI g, 32, .inl (rM (gr)))), (ca, .inl (gI g, 16, .inl (rO (ch)))), (ma, .inl (gI g, 5, .inl (rO (mt)))), (ba, .inl (gI g, 5, .inl (rO (bs)))), (ka, .inl (gI g, 5, .inl (rO (bk))))]) := by
  refine fun sz => im_body (Qc := fun A => va_Qi _ (iB g _) A) (cc := cX7_asksLink) (maxL := 5) (ret := (some .boolean)) (by decide) rfl (Nat.le_of_ble_eq_true rfl) ?_ sz
  intro pg ev s0 mi below meth cd A hx hb hr hml hts hown hlocks hK hA H hP hD hS ls hl
  have hl : lv_has ls 5 [(0, .ref o), (1, .int (nI m)), (2, .int (nI f)), (3, .int (nI t)), (4, .int (d1))] := hl
  refine lv_aload_n hx hb dX7_asksLink_0 rfl (lv_at hl 0 rfl) ?_
  refine lv_aload_n hx hb dX7_asksLink_1 rfl (lv_at hl 0 rfl) ?_
  refine lv_iload_n hx hb dX7_asksLink_2 rfl (lv_at hl 1 rfl) ?_
  refine lv_iload_n hx hb dX7_asksLink_3 rfl (lv_at hl 2 rfl) ?_
  refine im_V (k := 2) hx hb hml hown hts (c_X7_isIdea l g o ia wa ha oa ga ca ma ba ka (idn) (wd) (hs) (ho) (gr) (ch) (mt) (bs) (bk) (hnt) (gd) (tn) (m) (f) (by omega) (by omega) hq5) gX7_asksLink_X7_isIdea rfl (by decide +kernel) ⟨Nat.le_of_ble_eq_true rfl, Nat.le_of_ble_eq_true rfl⟩ ⟨Nat.zero_le _, Nat.zero_le _⟩ hK hP hD hS hA [0, 1, 2, 3, 4, 5, 6, 7, 8, 9] rfl (by decide) 0 7 rfl rfl rfl hl.1 (rest := [.ref o]) (As := [.int (nI m), .int (nI f)]) rfl (Nat.le_of_ble_eq_true rfl) dX7_asksLink_4 (fun x1 w1 H locs hpo hpd hS => ?_)
  obtain ⟨hx1, rfl⟩ := hpo
  have hx1 : x1 = b2i (true) := hx1
  subst hx1
  obtain ⟨hP, hD⟩ := hpd [(o, .inr (7, [.ref ia, .ref wa, .ref ha, .ref oa, .ref ga, .ref ca, .ref ma, .ref ba, .ref ka, .int (oI (hnt)), .int (nI gd), .int (nI tn)])), (ia, .inl (gI g, 4, .inl (rM (idn)))), (wa, .inl (gI g, 20, .inl (rM (wd)))), (ha, .inl (gZ g, 400, .inl (rB (hs)))), (oa, .inl (gZ g, 400, .inl (rB (ho)))), (ga, .inl (gI g, 32, .inl (rM (gr)))), (ca, .inl (gI g, 16, .inl (rO (ch)))), (ma, .inl (gI g, 5, .inl (rO (mt)))), (ba, .inl (gI g, 5, .inl (rO (bs)))), (ka, .inl (gI g, 5, .inl (rO (bk))))] [] 10 rfl rfl [] rfl rfl (by decide) (by decide)
  refine bv_if_eq (tgt := 19) hx hb dX7_asksLink_7 (by decide) (fun c_1 => ?_) (fun c_1 => ?_)
  · skip
    exfalso; first | exact c_1 | omega | (simp at c_1; done) | (exact absurd c_1 (by simp))
  · skip
    refine lv_aload_n hx hb dX7_asksLink_10 rfl (lv_at hl 0 rfl) ?_
    refine lv_iload_n hx hb dX7_asksLink_11 rfl (lv_at hl 1 rfl) ?_
    refine lv_iload_n hx hb dX7_asksLink_12 rfl (lv_at hl 3 rfl) ?_
    refine im_V (k := 2) hx hb hml hown hts (c_X7_isIdea l g o ia wa ha oa ga ca ma ba ka (idn) (wd) (hs) (ho) (gr) (ch) (mt) (bs) (bk) (hnt) (gd) (tn) (m) (t) (by omega) (by omega) hq5) gX7_asksLink_X7_isIdea rfl (by decide +kernel) ⟨Nat.le_of_ble_eq_true rfl, Nat.le_of_ble_eq_true rfl⟩ ⟨Nat.zero_le _, Nat.zero_le _⟩ hK hP hD hS hA [0, 1, 2, 3, 4, 5, 6, 7, 8, 9] rfl (by decide) 0 7 rfl rfl rfl hl.1 (rest := [.ref o]) (As := [.int (nI m), .int (nI t)]) rfl (Nat.le_of_ble_eq_true rfl) dX7_asksLink_13 (fun x1 w1 H locs hpo hpd hS => ?_)
    obtain ⟨hx1, rfl⟩ := hpo
    have hx1 : x1 = b2i (true) := hx1
    subst hx1
    obtain ⟨hP, hD⟩ := hpd [(o, .inr (7, [.ref ia, .ref wa, .ref ha, .ref oa, .ref ga, .ref ca, .ref ma, .ref ba, .ref ka, .int (oI (hnt)), .int (nI gd), .int (nI tn)])), (ia, .inl (gI g, 4, .inl (rM (idn)))), (wa, .inl (gI g, 20, .inl (rM (wd)))), (ha, .inl (gZ g, 400, .inl (rB (hs)))), (oa, .inl (gZ g, 400, .inl (rB (ho)))), (ga, .inl (gI g, 32, .inl (rM (gr)))), (ca, .inl (gI g, 16, .inl (rO (ch)))), (ma, .inl (gI g, 5, .inl (rO (mt)))), (ba, .inl (gI g, 5, .inl (rO (bs)))), (ka, .inl (gI g, 5, .inl (rO (bk))))] [] 10 rfl rfl [] rfl rfl (by decide) (by decide)
    refine bv_if_ne (tgt := 23) hx hb dX7_asksLink_16 (by decide) (fun c_2 => ?_) (fun c_2 => ?_)
    · skip
      refine lv_iload_n hx hb dX7_asksLink_23 rfl (lv_at hl 2 rfl) ?_
      refine lv_iload_n hx hb dX7_asksLink_24 rfl (lv_at hl 3 rfl) ?_
      refine nv_icmp_eq (tgt := 36) hx hb (by omega) (by omega) dX7_asksLink_25 (by decide) (fun c_3 => ?_) (fun c_3 => ?_)
      · skip
        exfalso; first | exact c_3 | omega | (simp at c_3; done) | (exact absurd c_3 (by simp))
      · skip
        refine lv_iload hx hb dX7_asksLink_28 (lv_at hl 4 rfl) ?_
        refine im_S (k := 1) hx hb hml hown hts (c_X7_isKind l g (d1)) gX7_asksLink_X7_isKind rfl (by decide +kernel) ⟨Nat.le_of_ble_eq_true rfl, Nat.le_of_ble_eq_true rfl⟩ ⟨Nat.zero_le _, Nat.zero_le _⟩ hK hP hD hS hA [] rfl (by decide) rfl hl.1 (rest := [.ref o]) (As := [.int (d1)]) rfl (Nat.le_of_ble_eq_true rfl) dX7_asksLink_30 (fun x1 w1 H locs hpo hpd hS => ?_)
        obtain ⟨hx1, rfl⟩ := hpo
        rw [hbd] at hx1
        have hx1 : x1 = b2i (false) := hx1
        subst hx1
        obtain ⟨hP, hD⟩ := hpd [(o, .inr (7, [.ref ia, .ref wa, .ref ha, .ref oa, .ref ga, .ref ca, .ref ma, .ref ba, .ref ka, .int (oI (hnt)), .int (nI gd), .int (nI tn)])), (ia, .inl (gI g, 4, .inl (rM (idn)))), (wa, .inl (gI g, 20, .inl (rM (wd)))), (ha, .inl (gZ g, 400, .inl (rB (hs)))), (oa, .inl (gZ g, 400, .inl (rB (ho)))), (ga, .inl (gI g, 32, .inl (rM (gr)))), (ca, .inl (gI g, 16, .inl (rO (ch)))), (ma, .inl (gI g, 5, .inl (rO (mt)))), (ba, .inl (gI g, 5, .inl (rO (bs)))), (ka, .inl (gI g, 5, .inl (rO (bk))))] [0, 1, 2, 3, 4, 5, 6, 7, 8, 9] 10 rfl rfl [(o, .inr (7, [.ref ia, .ref wa, .ref ha, .ref oa, .ref ga, .ref ca, .ref ma, .ref ba, .ref ka, .int (oI (hnt)), .int (nI gd), .int (nI tn)])), (ia, .inl (gI g, 4, .inl (rM (idn)))), (wa, .inl (gI g, 20, .inl (rM (wd)))), (ha, .inl (gZ g, 400, .inl (rB (hs)))), (oa, .inl (gZ g, 400, .inl (rB (ho)))), (ga, .inl (gI g, 32, .inl (rM (gr)))), (ca, .inl (gI g, 16, .inl (rO (ch)))), (ma, .inl (gI g, 5, .inl (rO (mt)))), (ba, .inl (gI g, 5, .inl (rO (bs)))), (ka, .inl (gI g, 5, .inl (rO (bk))))] rfl rfl (by decide) (by decide)
        refine bv_if_ne (tgt := 40) hx hb dX7_asksLink_33 (by decide) (fun c_4 => ?_) (fun c_4 => ?_)
        · skip
          exfalso; first | exact c_4 | omega | (simp at c_4; done) | (exact absurd c_4 (by simp))
        · skip
          refine lv_iconst (v := nI (2)) hx hb dX7_asksLink_36 (by decide) ?_
          refine lv_goto (tgt := 41) hx hb dX7_asksLink_37 (by decide) ?_
          refine va_put (D := g.1) (ci := 7) (v := .int (nI 2)) (ty := .int) (C := RX7) (T := TX7) (N := 12) hx hb hts (fun _ h => (List.mem_cons_of_mem _ (List.mem_append_right _ h))) tyX7 tyX7_ok nmX7 hown hK.1 hP hD hS 0 rfl rfl 11 (by decide) (hts _ (List.mem_cons_of_mem _ (List.mem_append_left _ (List.mem_of_getElem? (i := 0) rfl)))) (fun _ h9 => h9) rfl (by decide +kernel) rfl rfl (Nat.le_of_ble_eq_true rfl) dX7_asksLink_41 (fun H locs hP hD hS => ?_)
          have hP : va_P g.1 vwCl [(o, .inr (7, [.ref ia, .ref wa, .ref ha, .ref oa, .ref ga, .ref ca, .ref ma, .ref ba, .ref ka, .int (oI (hnt)), .int (nI gd), .int (nI 2)])), (ia, .inl (gI g, 4, .inl (rM (idn)))), (wa, .inl (gI g, 20, .inl (rM (wd)))), (ha, .inl (gZ g, 400, .inl (rB (hs)))), (oa, .inl (gZ g, 400, .inl (rB (ho)))), (ga, .inl (gI g, 32, .inl (rM (gr)))), (ca, .inl (gI g, 16, .inl (rO (ch)))), (ma, .inl (gI g, 5, .inl (rO (mt)))), (ba, .inl (gI g, 5, .inl (rO (bs)))), (ka, .inl (gI g, 5, .inl (rO (bk))))] H := hP
          have hD : va_D A [(o, .inr (7, [.ref ia, .ref wa, .ref ha, .ref oa, .ref ga, .ref ca, .ref ma, .ref ba, .ref ka, .int (oI (hnt)), .int (nI gd), .int (nI 2)])), (ia, .inl (gI g, 4, .inl (rM (idn)))), (wa, .inl (gI g, 20, .inl (rM (wd)))), (ha, .inl (gZ g, 400, .inl (rB (hs)))), (oa, .inl (gZ g, 400, .inl (rB (ho)))), (ga, .inl (gI g, 32, .inl (rM (gr)))), (ca, .inl (gI g, 16, .inl (rO (ch)))), (ma, .inl (gI g, 5, .inl (rO (mt)))), (ba, .inl (gI g, 5, .inl (rO (bs)))), (ka, .inl (gI g, 5, .inl (rO (bk))))] := hD
          refine lv_aload_n hx hb dX7_asksLink_44 rfl (lv_at hl 0 rfl) ?_
          refine va_get (D := g.1) (ci := 7) (v := .int (nI 2)) (C := RX7) (T := TX7) (N := 12) hx hb hts (fun _ h => (List.mem_cons_of_mem _ (List.mem_append_right _ h))) hown hK.1 hP 0 rfl rfl 11 (by decide) (hts _ (List.mem_cons_of_mem _ (List.mem_append_left _ (List.mem_of_getElem? (i := 0) rfl)))) (fun _ h9 => h9) rfl dX7_asksLink_45 ?_
          refine nv_if_ne (tgt := 55) hx hb (by omega) dX7_asksLink_48 (by decide) (fun c_5 => ?_) (fun c_5 => ?_)
          · skip
            refine lv_iconst (v := nI (0)) hx hb dX7_asksLink_55 (by decide) ?_
            exact im_retz (w1 := [(o, .inr (7, [.ref ia, .ref wa, .ref ha, .ref oa, .ref ga, .ref ca, .ref ma, .ref ba, .ref ka, .int (oI (hnt)), .int (nI gd), .int (nI 2)])), (ia, .inl (gI g, 4, .inl (rM (idn)))), (wa, .inl (gI g, 20, .inl (rM (wd)))), (ha, .inl (gZ g, 400, .inl (rB (hs)))), (oa, .inl (gZ g, 400, .inl (rB (ho)))), (ga, .inl (gI g, 32, .inl (rM (gr)))), (ca, .inl (gI g, 16, .inl (rO (ch)))), (ma, .inl (gI g, 5, .inl (rO (mt)))), (ba, .inl (gI g, 5, .inl (rO (bs)))), (ka, .inl (gI g, 5, .inl (rO (bk))))]) (v := nI (0)) hx hb hr hlocks hP hS rfl ⟨rfl, rfl⟩ (by first | exact b2i_nar _ | rfl) dX7_asksLink_56
          · skip
            exfalso; first | exact c_5 | omega | (simp at c_5; done) | (exact absurd c_5 (by simp))
    · skip
      exfalso; first | exact c_2 | omega | (simp at c_2; done) | (exact absurd c_2 (by simp))

theorem c_X7_asksLink_bad (l : Launch) (g : GG) (o ia wa ha oa ga ca ma ba ka : Nat) (idn wd : Nat → Nat) (hs ho : Nat → Bool) (gr : Nat → Nat) (ch mt bs bk : Nat → Option Nat) (hnt : Option Nat) (gd tn : Nat) (v a1 b1 d1 : Int32) (r9 : Nat) (hr9 : lkBad idn v a1 b1 d1 = r9) (hr0 : r9 ≠ 0) (hq5 : ∀ m, idn m ≤ 5) : IM l yX7_asksLink wsX7_asksLink 3 g [.ref o, .int v, .int a1, .int b1, .int d1] [(o, .inr (7, [.ref ia, .ref wa, .ref ha, .ref oa, .ref ga, .ref ca, .ref ma, .ref ba, .ref ka, .int (oI (hnt)), .int (nI gd), .int (nI tn)])), (ia, .inl (gI g, 4, .inl (rM (idn)))), (wa, .inl (gI g, 20, .inl (rM (wd)))), (ha, .inl (gZ g, 400, .inl (rB (hs)))), (oa, .inl (gZ g, 400, .inl (rB (ho)))), (ga, .inl (gI g, 32, .inl (rM (gr)))), (ca, .inl (gI g, 16, .inl (rO (ch)))), (ma, .inl (gI g, 5, .inl (rO (mt)))), (ba, .inl (gI g, 5, .inl (rO (bs)))), (ka, .inl (gI g, 5, .inl (rO (bk))))] (fun x1 w1 => x1 = b2i false ∧ w1 = [(o, .inr (7, [.ref ia, .ref wa, .ref ha, .ref oa, .ref ga, .ref ca, .ref ma, .ref ba, .ref ka, .int (oI (hnt)), .int (nI gd), .int (nI r9)])), (ia, .inl (gI g, 4, .inl (rM (idn)))), (wa, .inl (gI g, 20, .inl (rM (wd)))), (ha, .inl (gZ g, 400, .inl (rB (hs)))), (oa, .inl (gZ g, 400, .inl (rB (ho)))), (ga, .inl (gI g, 32, .inl (rM (gr)))), (ca, .inl (gI g, 16, .inl (rO (ch)))), (ma, .inl (gI g, 5, .inl (rO (mt)))), (ba, .inl (gI g, 5, .inl (rO (bs)))), (ka, .inl (gI g, 5, .inl (rO (bk))))]) := by
  rcases lkBad_cases hq5 hr9 hr0 with ⟨h1, rfl⟩ | ⟨m, h1, rfl, h2, rfl⟩ | ⟨m, f, h1, rfl, h2, rfl, h3, rfl⟩ | ⟨m, f, h1, rfl, h2, rfl, rfl, rfl⟩ | ⟨m, f, t, h1, rfl, h2, rfl, h3, rfl, h4, h5, rfl⟩
  · exact c_X7_asksLink_b1 l g o ia wa ha oa ga ca ma ba ka (idn) (wd) (hs) (ho) (gr) (ch) (mt) (bs) (bk) (hnt) (gd) (tn) v a1 b1 d1 h1
  · exact c_X7_asksLink_b2 l g o ia wa ha oa ga ca ma ba ka (idn) (wd) (hs) (ho) (gr) (ch) (mt) (bs) (bk) (hnt) (gd) (tn) m a1 b1 d1 h1 h2 (hq5 m)
  · exact c_X7_asksLink_b3 l g o ia wa ha oa ga ca ma ba ka (idn) (wd) (hs) (ho) (gr) (ch) (mt) (bs) (bk) (hnt) (gd) (tn) m f b1 d1 h1 h2 h3 (hq5 m)
  · exact c_X7_asksLink_b4 l g o ia wa ha oa ga ca ma ba ka (idn) (wd) (hs) (ho) (gr) (ch) (mt) (bs) (bk) (hnt) (gd) (tn) m f f d1 h1 h2 h2 rfl (hq5 m)
  · exact c_X7_asksLink_b5 l g o ia wa ha oa ga ca ma ba ka (idn) (wd) (hs) (ho) (gr) (ch) (mt) (bs) (bk) (hnt) (gd) (tn) m f t d1 h1 h2 h3 h4 h5 (hq5 m)

set_option maxRecDepth 100000 in
set_option maxHeartbeats 4000000 in
theorem c_X7_addIdea (l : Launch) (g : GG) (o ia wa ha oa ga ca ma ba ka : Nat) (idn wd : Nat → Nat) (hs ho : Nat → Bool) (gr : Nat → Nat) (ch mt bs bk : Nat → Option Nat) (hnt : Option Nat) (gd tn : Nat) (m w : Nat) (hm : m < 4) (hw : w < 32) (hn : idn m < 5) : IM l yX7_addIdea wsX7_addIdea 3 g [.ref o, .int (nI m), .int (nI w)] [(o, .inr (7, [.ref ia, .ref wa, .ref ha, .ref oa, .ref ga, .ref ca, .ref ma, .ref ba, .ref ka, .int (oI (hnt)), .int (nI gd), .int (nI tn)])), (ia, .inl (gI g, 4, .inl (rM (idn)))), (wa, .inl (gI g, 20, .inl (rM (wd)))), (ha, .inl (gZ g, 400, .inl (rB (hs)))), (oa, .inl (gZ g, 400, .inl (rB (ho)))), (ga, .inl (gI g, 32, .inl (rM (gr)))), (ca, .inl (gI g, 16, .inl (rO (ch)))), (ma, .inl (gI g, 5, .inl (rO (mt)))), (ba, .inl (gI g, 5, .inl (rO (bs)))), (ka, .inl (gI g, 5, .inl (rO (bk))))] (fun x1 w1 => x1 = nI (idn m) ∧ w1 = [(o, .inr (7, [.ref ia, .ref wa, .ref ha, .ref oa, .ref ga, .ref ca, .ref ma, .ref ba, .ref ka, .int (oI (hnt)), .int (nI gd), .int (nI 0)])), (ia, .inl (gI g, 4, .inl (rM (va_up idn m (idn m + 1))))), (wa, .inl (gI g, 20, .inl (rM (va_up wd (5 * m + idn m) w)))), (ha, .inl (gZ g, 400, .inl (rB (hs)))), (oa, .inl (gZ g, 400, .inl (rB (ho)))), (ga, .inl (gI g, 32, .inl (rM (gr)))), (ca, .inl (gI g, 16, .inl (rO (ch)))), (ma, .inl (gI g, 5, .inl (rO (mt)))), (ba, .inl (gI g, 5, .inl (rO (bs)))), (ka, .inl (gI g, 5, .inl (rO (bk))))]) := by
  refine fun sz => im_body (Qc := fun A => va_Qi _ (iB g _) A) (cc := cX7_addIdea) (maxL := 3) (ret := (some .int)) (by decide) rfl (Nat.le_of_ble_eq_true rfl) ?_ sz
  intro pg ev s0 mi below meth cd A hx hb hr hml hts hown hlocks hK hA H hP hD hS ls hl
  have hl : lv_has ls 3 [(0, .ref o), (1, .int (nI m)), (2, .int (nI w))] := hl
  refine lv_aload_n hx hb dX7_addIdea_0 rfl (lv_at hl 0 rfl) ?_
  refine lv_iload_n hx hb dX7_addIdea_1 rfl (lv_at hl 1 rfl) ?_
  refine im_S (k := 1) hx hb hml hown hts (c_X7_isMap l g (nI (m))) gX7_addIdea_X7_isMap rfl (by decide +kernel) ⟨Nat.le_of_ble_eq_true rfl, Nat.le_of_ble_eq_true rfl⟩ ⟨Nat.zero_le _, Nat.zero_le _⟩ hK hP hD hS hA [] rfl (by decide) rfl hl.1 (rest := [.ref o]) (As := [.int (nI m)]) rfl (Nat.le_of_ble_eq_true rfl) dX7_addIdea_2 (fun x1 w1 H locs hpo hpd hS => ?_)
  obtain ⟨hx1, rfl⟩ := hpo
  rw [inR_nI (by omega) (by decide)] at hx1
  have hx1 : x1 = b2i (true) := hx1
  subst hx1
  obtain ⟨hP, hD⟩ := hpd [(o, .inr (7, [.ref ia, .ref wa, .ref ha, .ref oa, .ref ga, .ref ca, .ref ma, .ref ba, .ref ka, .int (oI (hnt)), .int (nI gd), .int (nI tn)])), (ia, .inl (gI g, 4, .inl (rM (idn)))), (wa, .inl (gI g, 20, .inl (rM (wd)))), (ha, .inl (gZ g, 400, .inl (rB (hs)))), (oa, .inl (gZ g, 400, .inl (rB (ho)))), (ga, .inl (gI g, 32, .inl (rM (gr)))), (ca, .inl (gI g, 16, .inl (rO (ch)))), (ma, .inl (gI g, 5, .inl (rO (mt)))), (ba, .inl (gI g, 5, .inl (rO (bs)))), (ka, .inl (gI g, 5, .inl (rO (bk))))] [0, 1, 2, 3, 4, 5, 6, 7, 8, 9] 10 rfl rfl [(o, .inr (7, [.ref ia, .ref wa, .ref ha, .ref oa, .ref ga, .ref ca, .ref ma, .ref ba, .ref ka, .int (oI (hnt)), .int (nI gd), .int (nI tn)])), (ia, .inl (gI g, 4, .inl (rM (idn)))), (wa, .inl (gI g, 20, .inl (rM (wd)))), (ha, .inl (gZ g, 400, .inl (rB (hs)))), (oa, .inl (gZ g, 400, .inl (rB (ho)))), (ga, .inl (gI g, 32, .inl (rM (gr)))), (ca, .inl (gI g, 16, .inl (rO (ch)))), (ma, .inl (gI g, 5, .inl (rO (mt)))), (ba, .inl (gI g, 5, .inl (rO (bs)))), (ka, .inl (gI g, 5, .inl (rO (bk))))] rfl rfl (by decide) (by decide)
  refine bv_if_eq (tgt := 19) hx hb dX7_addIdea_5 (by decide) (fun c_1 => ?_) (fun c_1 => ?_)
  · skip
    exfalso; first | exact c_1 | omega | (simp at c_1; done) | (exact absurd c_1 (by simp))
  · skip
    refine lv_iload_n hx hb dX7_addIdea_8 rfl (lv_at hl 2 rfl) ?_
    refine im_S (k := 1) hx hb hml hown hts (c_X7_isWord l g (nI (w))) gX7_addIdea_X7_isWord rfl (by decide +kernel) ⟨Nat.le_of_ble_eq_true rfl, Nat.le_of_ble_eq_true rfl⟩ ⟨Nat.zero_le _, Nat.zero_le _⟩ hK hP hD hS hA [] rfl (by decide) rfl hl.1 (rest := [.ref o]) (As := [.int (nI w)]) rfl (Nat.le_of_ble_eq_true rfl) dX7_addIdea_9 (fun x1 w1 H locs hpo hpd hS => ?_)
    obtain ⟨hx1, rfl⟩ := hpo
    rw [inR_nI (by omega) (by decide)] at hx1
    have hx1 : x1 = b2i (true) := hx1
    subst hx1
    obtain ⟨hP, hD⟩ := hpd [(o, .inr (7, [.ref ia, .ref wa, .ref ha, .ref oa, .ref ga, .ref ca, .ref ma, .ref ba, .ref ka, .int (oI (hnt)), .int (nI gd), .int (nI tn)])), (ia, .inl (gI g, 4, .inl (rM (idn)))), (wa, .inl (gI g, 20, .inl (rM (wd)))), (ha, .inl (gZ g, 400, .inl (rB (hs)))), (oa, .inl (gZ g, 400, .inl (rB (ho)))), (ga, .inl (gI g, 32, .inl (rM (gr)))), (ca, .inl (gI g, 16, .inl (rO (ch)))), (ma, .inl (gI g, 5, .inl (rO (mt)))), (ba, .inl (gI g, 5, .inl (rO (bs)))), (ka, .inl (gI g, 5, .inl (rO (bk))))] [0, 1, 2, 3, 4, 5, 6, 7, 8, 9] 10 rfl rfl [(o, .inr (7, [.ref ia, .ref wa, .ref ha, .ref oa, .ref ga, .ref ca, .ref ma, .ref ba, .ref ka, .int (oI (hnt)), .int (nI gd), .int (nI tn)])), (ia, .inl (gI g, 4, .inl (rM (idn)))), (wa, .inl (gI g, 20, .inl (rM (wd)))), (ha, .inl (gZ g, 400, .inl (rB (hs)))), (oa, .inl (gZ g, 400, .inl (rB (ho)))), (ga, .inl (gI g, 32, .inl (rM (gr)))), (ca, .inl (gI g, 16, .inl (rO (ch)))), (ma, .inl (gI g, 5, .inl (rO (mt)))), (ba, .inl (gI g, 5, .inl (rO (bs)))), (ka, .inl (gI g, 5, .inl (rO (bk))))] rfl rfl (by decide) (by decide)
    refine bv_if_eq (tgt := 19) hx hb dX7_addIdea_12 (by decide) (fun c_2 => ?_) (fun c_2 => ?_)
    · skip
      exfalso; first | exact c_2 | omega | (simp at c_2; done) | (exact absurd c_2 (by simp))
    · skip
      refine lv_iconst (v := nI (1)) hx hb dX7_addIdea_15 (by decide) ?_
      refine lv_goto (tgt := 20) hx hb dX7_addIdea_16 (by decide) ?_
      refine im_V (k := 1) hx hb hml hown hts (c_X7_asks_t l g o ia wa ha oa ga ca ma ba ka (idn) (wd) (hs) (ho) (gr) (ch) (mt) (bs) (bk) (hnt) (gd) (tn)) gX7_addIdea_X7_asks rfl (by decide +kernel) ⟨Nat.le_of_ble_eq_true rfl, Nat.le_of_ble_eq_true rfl⟩ ⟨Nat.zero_le _, Nat.zero_le _⟩ hK hP hD hS hA [0, 1, 2, 3, 4, 5, 6, 7, 8, 9] rfl (by decide) 0 7 rfl rfl rfl hl.1 (rest := []) (As := [.int (nI 1)]) rfl (Nat.le_of_ble_eq_true rfl) dX7_addIdea_20 (fun x1 w1 H locs hpo hpd hS => ?_)
      obtain ⟨hx1, rfl⟩ := hpo
      have hx1 : x1 = b2i (true) := hx1
      subst hx1
      obtain ⟨hP, hD⟩ := hpd [(o, .inr (7, [.ref ia, .ref wa, .ref ha, .ref oa, .ref ga, .ref ca, .ref ma, .ref ba, .ref ka, .int (oI (hnt)), .int (nI gd), .int (nI 0)])), (ia, .inl (gI g, 4, .inl (rM (idn)))), (wa, .inl (gI g, 20, .inl (rM (wd)))), (ha, .inl (gZ g, 400, .inl (rB (hs)))), (oa, .inl (gZ g, 400, .inl (rB (ho)))), (ga, .inl (gI g, 32, .inl (rM (gr)))), (ca, .inl (gI g, 16, .inl (rO (ch)))), (ma, .inl (gI g, 5, .inl (rO (mt)))), (ba, .inl (gI g, 5, .inl (rO (bs)))), (ka, .inl (gI g, 5, .inl (rO (bk))))] [] 10 rfl rfl [] rfl rfl (by decide) (by decide)
      refine bv_if_ne (tgt := 28) hx hb dX7_addIdea_23 (by decide) (fun c_3 => ?_) (fun c_3 => ?_)
      · skip
        refine lv_aload_n hx hb dX7_addIdea_28 rfl (lv_at hl 0 rfl) ?_
        refine va_get (D := g.1) (ci := 7) (v := .ref ia) (C := RX7) (T := TX7) (N := 12) hx hb hts (fun _ h => (List.mem_cons_of_mem _ (List.mem_append_right _ h))) hown hK.1 hP 0 rfl rfl 0 (by decide) (hts _ (List.mem_cons_of_mem _ (List.mem_append_left _ (List.mem_of_getElem? (i := 0) rfl)))) (fun _ h9 => h9) rfl dX7_addIdea_29 ?_
        refine lv_iload_n hx hb dX7_addIdea_32 rfl (lv_at hl 1 rfl) ?_
        refine nv_iald (v := nI (idn m)) hx hb hK hP 1 rfl (by omega) (by decide) rfl dX7_addIdea_33 ?_
        refine lv_iconst (v := nI (5)) hx hb dX7_addIdea_34 (by decide) ?_
        refine nv_icmp_ne (tgt := 44) hx hb (by omega) (by omega) dX7_addIdea_35 (by decide) (fun c_4 => ?_) (fun c_4 => ?_)
        · skip
          refine lv_aload_n hx hb dX7_addIdea_44 rfl (lv_at hl 0 rfl) ?_
          refine va_get (D := g.1) (ci := 7) (v := .ref wa) (C := RX7) (T := TX7) (N := 12) hx hb hts (fun _ h => (List.mem_cons_of_mem _ (List.mem_append_right _ h))) hown hK.1 hP 0 rfl rfl 1 (by decide) (hts _ (List.mem_cons_of_mem _ (List.mem_append_left _ (List.mem_of_getElem? (i := 1) rfl)))) (fun _ h9 => h9) rfl dX7_addIdea_45 ?_
          refine lv_iconst (v := nI (5)) hx hb dX7_addIdea_48 (by decide) ?_
          refine lv_iload_n hx hb dX7_addIdea_49 rfl (lv_at hl 1 rfl) ?_
          refine nv_imul hx hb dX7_addIdea_50 ?_
          refine lv_aload_n hx hb dX7_addIdea_51 rfl (lv_at hl 0 rfl) ?_
          refine va_get (D := g.1) (ci := 7) (v := .ref ia) (C := RX7) (T := TX7) (N := 12) hx hb hts (fun _ h => (List.mem_cons_of_mem _ (List.mem_append_right _ h))) hown hK.1 hP 0 rfl rfl 0 (by decide) (hts _ (List.mem_cons_of_mem _ (List.mem_append_left _ (List.mem_of_getElem? (i := 0) rfl)))) (fun _ h9 => h9) rfl dX7_addIdea_52 ?_
          refine lv_iload_n hx hb dX7_addIdea_55 rfl (lv_at hl 1 rfl) ?_
          refine nv_iald (v := nI (idn m)) hx hb hK hP 1 rfl (by omega) (by decide) rfl dX7_addIdea_56 ?_
          refine nv_iadd hx hb dX7_addIdea_57 ?_
          refine lv_iload_n hx hb dX7_addIdea_58 rfl (lv_at hl 2 rfl) ?_
          refine nv_iast (f' := rM (va_up wd ((5 * m) + (idn m)) w)) hx hb hK hP hD hS 2 rfl (by omega) (by decide) (upd_rM _ _ _) dX7_addIdea_59 (fun H locs hP hD hS => ?_)
          have hP : va_P g.1 vwCl [(o, .inr (7, [.ref ia, .ref wa, .ref ha, .ref oa, .ref ga, .ref ca, .ref ma, .ref ba, .ref ka, .int (oI (hnt)), .int (nI gd), .int (nI 0)])), (ia, .inl (gI g, 4, .inl (rM (idn)))), (wa, .inl (gI g, 20, .inl (rM (va_up wd ((5 * m) + (idn m)) w)))), (ha, .inl (gZ g, 400, .inl (rB (hs)))), (oa, .inl (gZ g, 400, .inl (rB (ho)))), (ga, .inl (gI g, 32, .inl (rM (gr)))), (ca, .inl (gI g, 16, .inl (rO (ch)))), (ma, .inl (gI g, 5, .inl (rO (mt)))), (ba, .inl (gI g, 5, .inl (rO (bs)))), (ka, .inl (gI g, 5, .inl (rO (bk))))] H := hP
          have hD : va_D A [(o, .inr (7, [.ref ia, .ref wa, .ref ha, .ref oa, .ref ga, .ref ca, .ref ma, .ref ba, .ref ka, .int (oI (hnt)), .int (nI gd), .int (nI 0)])), (ia, .inl (gI g, 4, .inl (rM (idn)))), (wa, .inl (gI g, 20, .inl (rM (va_up wd ((5 * m) + (idn m)) w)))), (ha, .inl (gZ g, 400, .inl (rB (hs)))), (oa, .inl (gZ g, 400, .inl (rB (ho)))), (ga, .inl (gI g, 32, .inl (rM (gr)))), (ca, .inl (gI g, 16, .inl (rO (ch)))), (ma, .inl (gI g, 5, .inl (rO (mt)))), (ba, .inl (gI g, 5, .inl (rO (bs)))), (ka, .inl (gI g, 5, .inl (rO (bk))))] := hD
          refine lv_aload_n hx hb dX7_addIdea_60 rfl (lv_at hl 0 rfl) ?_
          refine va_get (D := g.1) (ci := 7) (v := .ref ia) (C := RX7) (T := TX7) (N := 12) hx hb hts (fun _ h => (List.mem_cons_of_mem _ (List.mem_append_right _ h))) hown hK.1 hP 0 rfl rfl 0 (by decide) (hts _ (List.mem_cons_of_mem _ (List.mem_append_left _ (List.mem_of_getElem? (i := 0) rfl)))) (fun _ h9 => h9) rfl dX7_addIdea_61 ?_
          refine lv_iload_n hx hb dX7_addIdea_64 rfl (lv_at hl 1 rfl) ?_
          refine lv_dup2_11 hx hb dX7_addIdea_65 rfl rfl ?_
          refine nv_iald (v := nI (idn m)) hx hb hK hP 1 rfl (by omega) (by decide) rfl dX7_addIdea_66 ?_
          refine lv_iconst (v := nI (1)) hx hb dX7_addIdea_67 (by decide) ?_
          refine nv_iadd hx hb dX7_addIdea_68 ?_
          refine nv_iast (f' := rM (va_up idn m ((idn m) + 1))) hx hb hK hP hD hS 1 rfl (by omega) (by decide) (upd_rM _ _ _) dX7_addIdea_69 (fun H locs hP hD hS => ?_)
          have hP : va_P g.1 vwCl [(o, .inr (7, [.ref ia, .ref wa, .ref ha, .ref oa, .ref ga, .ref ca, .ref ma, .ref ba, .ref ka, .int (oI (hnt)), .int (nI gd), .int (nI 0)])), (ia, .inl (gI g, 4, .inl (rM (va_up idn m ((idn m) + 1))))), (wa, .inl (gI g, 20, .inl (rM (va_up wd ((5 * m) + (idn m)) w)))), (ha, .inl (gZ g, 400, .inl (rB (hs)))), (oa, .inl (gZ g, 400, .inl (rB (ho)))), (ga, .inl (gI g, 32, .inl (rM (gr)))), (ca, .inl (gI g, 16, .inl (rO (ch)))), (ma, .inl (gI g, 5, .inl (rO (mt)))), (ba, .inl (gI g, 5, .inl (rO (bs)))), (ka, .inl (gI g, 5, .inl (rO (bk))))] H := hP
          have hD : va_D A [(o, .inr (7, [.ref ia, .ref wa, .ref ha, .ref oa, .ref ga, .ref ca, .ref ma, .ref ba, .ref ka, .int (oI (hnt)), .int (nI gd), .int (nI 0)])), (ia, .inl (gI g, 4, .inl (rM (va_up idn m ((idn m) + 1))))), (wa, .inl (gI g, 20, .inl (rM (va_up wd ((5 * m) + (idn m)) w)))), (ha, .inl (gZ g, 400, .inl (rB (hs)))), (oa, .inl (gZ g, 400, .inl (rB (ho)))), (ga, .inl (gI g, 32, .inl (rM (gr)))), (ca, .inl (gI g, 16, .inl (rO (ch)))), (ma, .inl (gI g, 5, .inl (rO (mt)))), (ba, .inl (gI g, 5, .inl (rO (bs)))), (ka, .inl (gI g, 5, .inl (rO (bk))))] := hD
          refine lv_aload_n hx hb dX7_addIdea_70 rfl (lv_at hl 0 rfl) ?_
          refine va_get (D := g.1) (ci := 7) (v := .ref ia) (C := RX7) (T := TX7) (N := 12) hx hb hts (fun _ h => (List.mem_cons_of_mem _ (List.mem_append_right _ h))) hown hK.1 hP 0 rfl rfl 0 (by decide) (hts _ (List.mem_cons_of_mem _ (List.mem_append_left _ (List.mem_of_getElem? (i := 0) rfl)))) (fun _ h9 => h9) rfl dX7_addIdea_71 ?_
          refine lv_iload_n hx hb dX7_addIdea_74 rfl (lv_at hl 1 rfl) ?_
          refine nv_iald (v := nI ((va_up idn m ((idn m) + 1)) m)) hx hb hK hP 1 rfl (by omega) (by decide) rfl dX7_addIdea_75 ?_
          refine lv_iconst (v := nI (1)) hx hb dX7_addIdea_76 (by decide) ?_
          refine nv_isub hx hb (by rw [vu_eq]; omega) dX7_addIdea_77 ?_
          exact im_ret (w1 := [(o, .inr (7, [.ref ia, .ref wa, .ref ha, .ref oa, .ref ga, .ref ca, .ref ma, .ref ba, .ref ka, .int (oI (hnt)), .int (nI gd), .int (nI 0)])), (ia, .inl (gI g, 4, .inl (rM (va_up idn m ((idn m) + 1))))), (wa, .inl (gI g, 20, .inl (rM (va_up wd ((5 * m) + (idn m)) w)))), (ha, .inl (gZ g, 400, .inl (rB (hs)))), (oa, .inl (gZ g, 400, .inl (rB (ho)))), (ga, .inl (gI g, 32, .inl (rM (gr)))), (ca, .inl (gI g, 16, .inl (rO (ch)))), (ma, .inl (gI g, 5, .inl (rO (mt)))), (ba, .inl (gI g, 5, .inl (rO (bs)))), (ka, .inl (gI g, 5, .inl (rO (bk))))]) (v := nI (((va_up idn m ((idn m) + 1)) m) - 1)) hx hb hr hlocks hP hS rfl ⟨by rw [vu_eq]; rfl, rfl⟩ dX7_addIdea_78
        · skip
          exfalso; first | exact c_4 | omega | (simp at c_4; done) | (exact absurd c_4 (by simp))
      · skip
        exfalso; first | exact c_3 | omega | (simp at c_3; done) | (exact absurd c_3 (by simp))

set_option maxRecDepth 100000 in
set_option maxHeartbeats 4000000 in
theorem c_X7_addIdea_full (l : Launch) (g : GG) (o ia wa ha oa ga ca ma ba ka : Nat) (idn wd : Nat → Nat) (hs ho : Nat → Bool) (gr : Nat → Nat) (ch mt bs bk : Nat → Option Nat) (hnt : Option Nat) (gd tn : Nat) (m w : Nat) (hm : m < 4) (hw : w < 32) (hn : idn m = 5) : IM l yX7_addIdea wsX7_addIdea 3 g [.ref o, .int (nI m), .int (nI w)] [(o, .inr (7, [.ref ia, .ref wa, .ref ha, .ref oa, .ref ga, .ref ca, .ref ma, .ref ba, .ref ka, .int (oI (hnt)), .int (nI gd), .int (nI tn)])), (ia, .inl (gI g, 4, .inl (rM (idn)))), (wa, .inl (gI g, 20, .inl (rM (wd)))), (ha, .inl (gZ g, 400, .inl (rB (hs)))), (oa, .inl (gZ g, 400, .inl (rB (ho)))), (ga, .inl (gI g, 32, .inl (rM (gr)))), (ca, .inl (gI g, 16, .inl (rO (ch)))), (ma, .inl (gI g, 5, .inl (rO (mt)))), (ba, .inl (gI g, 5, .inl (rO (bs)))), (ka, .inl (gI g, 5, .inl (rO (bk))))] (fun x1 w1 => x1 = nI 0 ∧ w1 = [(o, .inr (7, [.ref ia, .ref wa, .ref ha, .ref oa, .ref ga, .ref ca, .ref ma, .ref ba, .ref ka, .int (oI (hnt)), .int (nI gd), .int (nI 2)])), (ia, .inl (gI g, 4, .inl (rM (idn)))), (wa, .inl (gI g, 20, .inl (rM (wd)))), (ha, .inl (gZ g, 400, .inl (rB (hs)))), (oa, .inl (gZ g, 400, .inl (rB (ho)))), (ga, .inl (gI g, 32, .inl (rM (gr)))), (ca, .inl (gI g, 16, .inl (rO (ch)))), (ma, .inl (gI g, 5, .inl (rO (mt)))), (ba, .inl (gI g, 5, .inl (rO (bs)))), (ka, .inl (gI g, 5, .inl (rO (bk))))]) := by
  refine fun sz => im_body (Qc := fun A => va_Qi _ (iB g _) A) (cc := cX7_addIdea) (maxL := 3) (ret := (some .int)) (by decide) rfl (Nat.le_of_ble_eq_true rfl) ?_ sz
  intro pg ev s0 mi below meth cd A hx hb hr hml hts hown hlocks hK hA H hP hD hS ls hl
  have hl : lv_has ls 3 [(0, .ref o), (1, .int (nI m)), (2, .int (nI w))] := hl
  refine lv_aload_n hx hb dX7_addIdea_0 rfl (lv_at hl 0 rfl) ?_
  refine lv_iload_n hx hb dX7_addIdea_1 rfl (lv_at hl 1 rfl) ?_
  refine im_S (k := 1) hx hb hml hown hts (c_X7_isMap l g (nI (m))) gX7_addIdea_X7_isMap rfl (by decide +kernel) ⟨Nat.le_of_ble_eq_true rfl, Nat.le_of_ble_eq_true rfl⟩ ⟨Nat.zero_le _, Nat.zero_le _⟩ hK hP hD hS hA [] rfl (by decide) rfl hl.1 (rest := [.ref o]) (As := [.int (nI m)]) rfl (Nat.le_of_ble_eq_true rfl) dX7_addIdea_2 (fun x1 w1 H locs hpo hpd hS => ?_)
  obtain ⟨hx1, rfl⟩ := hpo
  rw [inR_nI (by omega) (by decide)] at hx1
  have hx1 : x1 = b2i (true) := hx1
  subst hx1
  obtain ⟨hP, hD⟩ := hpd [(o, .inr (7, [.ref ia, .ref wa, .ref ha, .ref oa, .ref ga, .ref ca, .ref ma, .ref ba, .ref ka, .int (oI (hnt)), .int (nI gd), .int (nI tn)])), (ia, .inl (gI g, 4, .inl (rM (idn)))), (wa, .inl (gI g, 20, .inl (rM (wd)))), (ha, .inl (gZ g, 400, .inl (rB (hs)))), (oa, .inl (gZ g, 400, .inl (rB (ho)))), (ga, .inl (gI g, 32, .inl (rM (gr)))), (ca, .inl (gI g, 16, .inl (rO (ch)))), (ma, .inl (gI g, 5, .inl (rO (mt)))), (ba, .inl (gI g, 5, .inl (rO (bs)))), (ka, .inl (gI g, 5, .inl (rO (bk))))] [0, 1, 2, 3, 4, 5, 6, 7, 8, 9] 10 rfl rfl [(o, .inr (7, [.ref ia, .ref wa, .ref ha, .ref oa, .ref ga, .ref ca, .ref ma, .ref ba, .ref ka, .int (oI (hnt)), .int (nI gd), .int (nI tn)])), (ia, .inl (gI g, 4, .inl (rM (idn)))), (wa, .inl (gI g, 20, .inl (rM (wd)))), (ha, .inl (gZ g, 400, .inl (rB (hs)))), (oa, .inl (gZ g, 400, .inl (rB (ho)))), (ga, .inl (gI g, 32, .inl (rM (gr)))), (ca, .inl (gI g, 16, .inl (rO (ch)))), (ma, .inl (gI g, 5, .inl (rO (mt)))), (ba, .inl (gI g, 5, .inl (rO (bs)))), (ka, .inl (gI g, 5, .inl (rO (bk))))] rfl rfl (by decide) (by decide)
  refine bv_if_eq (tgt := 19) hx hb dX7_addIdea_5 (by decide) (fun c_1 => ?_) (fun c_1 => ?_)
  · skip
    exfalso; first | exact c_1 | omega | (simp at c_1; done) | (exact absurd c_1 (by simp))
  · skip
    refine lv_iload_n hx hb dX7_addIdea_8 rfl (lv_at hl 2 rfl) ?_
    refine im_S (k := 1) hx hb hml hown hts (c_X7_isWord l g (nI (w))) gX7_addIdea_X7_isWord rfl (by decide +kernel) ⟨Nat.le_of_ble_eq_true rfl, Nat.le_of_ble_eq_true rfl⟩ ⟨Nat.zero_le _, Nat.zero_le _⟩ hK hP hD hS hA [] rfl (by decide) rfl hl.1 (rest := [.ref o]) (As := [.int (nI w)]) rfl (Nat.le_of_ble_eq_true rfl) dX7_addIdea_9 (fun x1 w1 H locs hpo hpd hS => ?_)
    obtain ⟨hx1, rfl⟩ := hpo
    rw [inR_nI (by omega) (by decide)] at hx1
    have hx1 : x1 = b2i (true) := hx1
    subst hx1
    obtain ⟨hP, hD⟩ := hpd [(o, .inr (7, [.ref ia, .ref wa, .ref ha, .ref oa, .ref ga, .ref ca, .ref ma, .ref ba, .ref ka, .int (oI (hnt)), .int (nI gd), .int (nI tn)])), (ia, .inl (gI g, 4, .inl (rM (idn)))), (wa, .inl (gI g, 20, .inl (rM (wd)))), (ha, .inl (gZ g, 400, .inl (rB (hs)))), (oa, .inl (gZ g, 400, .inl (rB (ho)))), (ga, .inl (gI g, 32, .inl (rM (gr)))), (ca, .inl (gI g, 16, .inl (rO (ch)))), (ma, .inl (gI g, 5, .inl (rO (mt)))), (ba, .inl (gI g, 5, .inl (rO (bs)))), (ka, .inl (gI g, 5, .inl (rO (bk))))] [0, 1, 2, 3, 4, 5, 6, 7, 8, 9] 10 rfl rfl [(o, .inr (7, [.ref ia, .ref wa, .ref ha, .ref oa, .ref ga, .ref ca, .ref ma, .ref ba, .ref ka, .int (oI (hnt)), .int (nI gd), .int (nI tn)])), (ia, .inl (gI g, 4, .inl (rM (idn)))), (wa, .inl (gI g, 20, .inl (rM (wd)))), (ha, .inl (gZ g, 400, .inl (rB (hs)))), (oa, .inl (gZ g, 400, .inl (rB (ho)))), (ga, .inl (gI g, 32, .inl (rM (gr)))), (ca, .inl (gI g, 16, .inl (rO (ch)))), (ma, .inl (gI g, 5, .inl (rO (mt)))), (ba, .inl (gI g, 5, .inl (rO (bs)))), (ka, .inl (gI g, 5, .inl (rO (bk))))] rfl rfl (by decide) (by decide)
    refine bv_if_eq (tgt := 19) hx hb dX7_addIdea_12 (by decide) (fun c_2 => ?_) (fun c_2 => ?_)
    · skip
      exfalso; first | exact c_2 | omega | (simp at c_2; done) | (exact absurd c_2 (by simp))
    · skip
      refine lv_iconst (v := nI (1)) hx hb dX7_addIdea_15 (by decide) ?_
      refine lv_goto (tgt := 20) hx hb dX7_addIdea_16 (by decide) ?_
      refine im_V (k := 1) hx hb hml hown hts (c_X7_asks_t l g o ia wa ha oa ga ca ma ba ka (idn) (wd) (hs) (ho) (gr) (ch) (mt) (bs) (bk) (hnt) (gd) (tn)) gX7_addIdea_X7_asks rfl (by decide +kernel) ⟨Nat.le_of_ble_eq_true rfl, Nat.le_of_ble_eq_true rfl⟩ ⟨Nat.zero_le _, Nat.zero_le _⟩ hK hP hD hS hA [0, 1, 2, 3, 4, 5, 6, 7, 8, 9] rfl (by decide) 0 7 rfl rfl rfl hl.1 (rest := []) (As := [.int (nI 1)]) rfl (Nat.le_of_ble_eq_true rfl) dX7_addIdea_20 (fun x1 w1 H locs hpo hpd hS => ?_)
      obtain ⟨hx1, rfl⟩ := hpo
      have hx1 : x1 = b2i (true) := hx1
      subst hx1
      obtain ⟨hP, hD⟩ := hpd [(o, .inr (7, [.ref ia, .ref wa, .ref ha, .ref oa, .ref ga, .ref ca, .ref ma, .ref ba, .ref ka, .int (oI (hnt)), .int (nI gd), .int (nI 0)])), (ia, .inl (gI g, 4, .inl (rM (idn)))), (wa, .inl (gI g, 20, .inl (rM (wd)))), (ha, .inl (gZ g, 400, .inl (rB (hs)))), (oa, .inl (gZ g, 400, .inl (rB (ho)))), (ga, .inl (gI g, 32, .inl (rM (gr)))), (ca, .inl (gI g, 16, .inl (rO (ch)))), (ma, .inl (gI g, 5, .inl (rO (mt)))), (ba, .inl (gI g, 5, .inl (rO (bs)))), (ka, .inl (gI g, 5, .inl (rO (bk))))] [] 10 rfl rfl [] rfl rfl (by decide) (by decide)
      refine bv_if_ne (tgt := 28) hx hb dX7_addIdea_23 (by decide) (fun c_3 => ?_) (fun c_3 => ?_)
      · skip
        refine lv_aload_n hx hb dX7_addIdea_28 rfl (lv_at hl 0 rfl) ?_
        refine va_get (D := g.1) (ci := 7) (v := .ref ia) (C := RX7) (T := TX7) (N := 12) hx hb hts (fun _ h => (List.mem_cons_of_mem _ (List.mem_append_right _ h))) hown hK.1 hP 0 rfl rfl 0 (by decide) (hts _ (List.mem_cons_of_mem _ (List.mem_append_left _ (List.mem_of_getElem? (i := 0) rfl)))) (fun _ h9 => h9) rfl dX7_addIdea_29 ?_
        refine lv_iload_n hx hb dX7_addIdea_32 rfl (lv_at hl 1 rfl) ?_
        refine nv_iald (v := nI (idn m)) hx hb hK hP 1 rfl (by omega) (by decide) rfl dX7_addIdea_33 ?_
        refine lv_iconst (v := nI (5)) hx hb dX7_addIdea_34 (by decide) ?_
        refine nv_icmp_ne (tgt := 44) hx hb (by omega) (by omega) dX7_addIdea_35 (by decide) (fun c_4 => ?_) (fun c_4 => ?_)
        · skip
          exfalso; first | exact c_4 | omega | (simp at c_4; done) | (exact absurd c_4 (by simp))
        · skip
          refine lv_aload_n hx hb dX7_addIdea_38 rfl (lv_at hl 0 rfl) ?_
          refine lv_iconst (v := nI (2)) hx hb dX7_addIdea_39 (by decide) ?_
          refine im_V (k := 1) hx hb hml hown hts (c_X7_fails l g o ia wa ha oa ga ca ma ba ka (idn) (wd) (hs) (ho) (gr) (ch) (mt) (bs) (bk) (hnt) (gd) (0) (2)) gX7_addIdea_X7_fails rfl (by decide +kernel) ⟨Nat.le_of_ble_eq_true rfl, Nat.le_of_ble_eq_true rfl⟩ ⟨Nat.zero_le _, Nat.zero_le _⟩ hK hP hD hS hA [0, 1, 2, 3, 4, 5, 6, 7, 8, 9] rfl (by decide) 0 7 rfl rfl rfl hl.1 (rest := []) (As := [.int (nI 2)]) rfl (Nat.le_of_ble_eq_true rfl) dX7_addIdea_40 (fun x1 w1 H locs hpo hpd hS => ?_)
          obtain ⟨hx1, rfl⟩ := hpo
          have hx1 : x1 = nI (0) := hx1
          subst hx1
          obtain ⟨hP, hD⟩ := hpd [(o, .inr (7, [.ref ia, .ref wa, .ref ha, .ref oa, .ref ga, .ref ca, .ref ma, .ref ba, .ref ka, .int (oI (hnt)), .int (nI gd), .int (nI 2)])), (ia, .inl (gI g, 4, .inl (rM (idn)))), (wa, .inl (gI g, 20, .inl (rM (wd)))), (ha, .inl (gZ g, 400, .inl (rB (hs)))), (oa, .inl (gZ g, 400, .inl (rB (ho)))), (ga, .inl (gI g, 32, .inl (rM (gr)))), (ca, .inl (gI g, 16, .inl (rO (ch)))), (ma, .inl (gI g, 5, .inl (rO (mt)))), (ba, .inl (gI g, 5, .inl (rO (bs)))), (ka, .inl (gI g, 5, .inl (rO (bk))))] [] 10 rfl rfl [] rfl rfl (by decide) (by decide)
          exact im_ret (w1 := [(o, .inr (7, [.ref ia, .ref wa, .ref ha, .ref oa, .ref ga, .ref ca, .ref ma, .ref ba, .ref ka, .int (oI (hnt)), .int (nI gd), .int (nI 2)])), (ia, .inl (gI g, 4, .inl (rM (idn)))), (wa, .inl (gI g, 20, .inl (rM (wd)))), (ha, .inl (gZ g, 400, .inl (rB (hs)))), (oa, .inl (gZ g, 400, .inl (rB (ho)))), (ga, .inl (gI g, 32, .inl (rM (gr)))), (ca, .inl (gI g, 16, .inl (rO (ch)))), (ma, .inl (gI g, 5, .inl (rO (mt)))), (ba, .inl (gI g, 5, .inl (rO (bs)))), (ka, .inl (gI g, 5, .inl (rO (bk))))]) (v := nI (0)) hx hb hr hlocks hP hS rfl ⟨rfl, rfl⟩ dX7_addIdea_43
      · skip
        exfalso; first | exact c_3 | omega | (simp at c_3; done) | (exact absurd c_3 (by simp))

set_option maxRecDepth 100000 in
set_option maxHeartbeats 4000000 in
theorem c_X7_addIdea_m (l : Launch) (g : GG) (o ia wa ha oa ga ca ma ba ka : Nat) (idn wd : Nat → Nat) (hs ho : Nat → Bool) (gr : Nat → Nat) (ch mt bs bk : Nat → Option Nat) (hnt : Option Nat) (gd tn : Nat) (v w : Int32) (hbd : inR v 4 = false) : IM l yX7_addIdea wsX7_addIdea 3 g [.ref o, .int (v), .int (w)] [(o, .inr (7, [.ref ia, .ref wa, .ref ha, .ref oa, .ref ga, .ref ca, .ref ma, .ref ba, .ref ka, .int (oI (hnt)), .int (nI gd), .int (nI tn)])), (ia, .inl (gI g, 4, .inl (rM (idn)))), (wa, .inl (gI g, 20, .inl (rM (wd)))), (ha, .inl (gZ g, 400, .inl (rB (hs)))), (oa, .inl (gZ g, 400, .inl (rB (ho)))), (ga, .inl (gI g, 32, .inl (rM (gr)))), (ca, .inl (gI g, 16, .inl (rO (ch)))), (ma, .inl (gI g, 5, .inl (rO (mt)))), (ba, .inl (gI g, 5, .inl (rO (bs)))), (ka, .inl (gI g, 5, .inl (rO (bk))))] (fun x1 w1 => x1 = nI 0 ∧ w1 = [(o, .inr (7, [.ref ia, .ref wa, .ref ha, .ref oa, .ref ga, .ref ca, .ref ma, .ref ba, .ref ka, .int (oI (hnt)), .int (nI gd), .int (nI 1)])), (ia, .inl (gI g, 4, .inl (rM (idn)))), (wa, .inl (gI g, 20, .inl (rM (wd)))), (ha, .inl (gZ g, 400, .inl (rB (hs)))), (oa, .inl (gZ g, 400, .inl (rB (ho)))), (ga, .inl (gI g, 32, .inl (rM (gr)))), (ca, .inl (gI g, 16, .inl (rO (ch)))), (ma, .inl (gI g, 5, .inl (rO (mt)))), (ba, .inl (gI g, 5, .inl (rO (bs)))), (ka, .inl (gI g, 5, .inl (rO (bk))))]) := by
  refine fun sz => im_body (Qc := fun A => va_Qi _ (iB g _) A) (cc := cX7_addIdea) (maxL := 3) (ret := (some .int)) (by decide) rfl (Nat.le_of_ble_eq_true rfl) ?_ sz
  intro pg ev s0 mi below meth cd A hx hb hr hml hts hown hlocks hK hA H hP hD hS ls hl
  have hl : lv_has ls 3 [(0, .ref o), (1, .int (v)), (2, .int (w))] := hl
  refine lv_aload_n hx hb dX7_addIdea_0 rfl (lv_at hl 0 rfl) ?_
  refine lv_iload_n hx hb dX7_addIdea_1 rfl (lv_at hl 1 rfl) ?_
  refine im_S (k := 1) hx hb hml hown hts (c_X7_isMap l g (v)) gX7_addIdea_X7_isMap rfl (by decide +kernel) ⟨Nat.le_of_ble_eq_true rfl, Nat.le_of_ble_eq_true rfl⟩ ⟨Nat.zero_le _, Nat.zero_le _⟩ hK hP hD hS hA [] rfl (by decide) rfl hl.1 (rest := [.ref o]) (As := [.int (v)]) rfl (Nat.le_of_ble_eq_true rfl) dX7_addIdea_2 (fun x1 w1 H locs hpo hpd hS => ?_)
  obtain ⟨hx1, rfl⟩ := hpo
  rw [hbd] at hx1
  have hx1 : x1 = b2i (false) := hx1
  subst hx1
  obtain ⟨hP, hD⟩ := hpd [(o, .inr (7, [.ref ia, .ref wa, .ref ha, .ref oa, .ref ga, .ref ca, .ref ma, .ref ba, .ref ka, .int (oI (hnt)), .int (nI gd), .int (nI tn)])), (ia, .inl (gI g, 4, .inl (rM (idn)))), (wa, .inl (gI g, 20, .inl (rM (wd)))), (ha, .inl (gZ g, 400, .inl (rB (hs)))), (oa, .inl (gZ g, 400, .inl (rB (ho)))), (ga, .inl (gI g, 32, .inl (rM (gr)))), (ca, .inl (gI g, 16, .inl (rO (ch)))), (ma, .inl (gI g, 5, .inl (rO (mt)))), (ba, .inl (gI g, 5, .inl (rO (bs)))), (ka, .inl (gI g, 5, .inl (rO (bk))))] [0, 1, 2, 3, 4, 5, 6, 7, 8, 9] 10 rfl rfl [(o, .inr (7, [.ref ia, .ref wa, .ref ha, .ref oa, .ref ga, .ref ca, .ref ma, .ref ba, .ref ka, .int (oI (hnt)), .int (nI gd), .int (nI tn)])), (ia, .inl (gI g, 4, .inl (rM (idn)))), (wa, .inl (gI g, 20, .inl (rM (wd)))), (ha, .inl (gZ g, 400, .inl (rB (hs)))), (oa, .inl (gZ g, 400, .inl (rB (ho)))), (ga, .inl (gI g, 32, .inl (rM (gr)))), (ca, .inl (gI g, 16, .inl (rO (ch)))), (ma, .inl (gI g, 5, .inl (rO (mt)))), (ba, .inl (gI g, 5, .inl (rO (bs)))), (ka, .inl (gI g, 5, .inl (rO (bk))))] rfl rfl (by decide) (by decide)
  refine bv_if_eq (tgt := 19) hx hb dX7_addIdea_5 (by decide) (fun c_1 => ?_) (fun c_1 => ?_)
  · skip
    refine lv_iconst (v := nI (0)) hx hb dX7_addIdea_19 (by decide) ?_
    refine im_V (k := 1) hx hb hml hown hts (c_X7_asks_f l g o ia wa ha oa ga ca ma ba ka (idn) (wd) (hs) (ho) (gr) (ch) (mt) (bs) (bk) (hnt) (gd) (tn)) gX7_addIdea_X7_asks rfl (by decide +kernel) ⟨Nat.le_of_ble_eq_true rfl, Nat.le_of_ble_eq_true rfl⟩ ⟨Nat.zero_le _, Nat.zero_le _⟩ hK hP hD hS hA [0, 1, 2, 3, 4, 5, 6, 7, 8, 9] rfl (by decide) 0 7 rfl rfl rfl hl.1 (rest := []) (As := [.int (nI 0)]) rfl (Nat.le_of_ble_eq_true rfl) dX7_addIdea_20 (fun x1 w1 H locs hpo hpd hS => ?_)
    obtain ⟨hx1, rfl⟩ := hpo
    have hx1 : x1 = b2i (false) := hx1
    subst hx1
    obtain ⟨hP, hD⟩ := hpd [(o, .inr (7, [.ref ia, .ref wa, .ref ha, .ref oa, .ref ga, .ref ca, .ref ma, .ref ba, .ref ka, .int (oI (hnt)), .int (nI gd), .int (nI 1)])), (ia, .inl (gI g, 4, .inl (rM (idn)))), (wa, .inl (gI g, 20, .inl (rM (wd)))), (ha, .inl (gZ g, 400, .inl (rB (hs)))), (oa, .inl (gZ g, 400, .inl (rB (ho)))), (ga, .inl (gI g, 32, .inl (rM (gr)))), (ca, .inl (gI g, 16, .inl (rO (ch)))), (ma, .inl (gI g, 5, .inl (rO (mt)))), (ba, .inl (gI g, 5, .inl (rO (bs)))), (ka, .inl (gI g, 5, .inl (rO (bk))))] [] 10 rfl rfl [] rfl rfl (by decide) (by decide)
    refine bv_if_ne (tgt := 28) hx hb dX7_addIdea_23 (by decide) (fun c_2 => ?_) (fun c_2 => ?_)
    · skip
      exfalso; first | exact c_2 | omega | (simp at c_2; done) | (exact absurd c_2 (by simp))
    · skip
      refine lv_iconst (v := nI (0)) hx hb dX7_addIdea_26 (by decide) ?_
      exact im_ret (w1 := [(o, .inr (7, [.ref ia, .ref wa, .ref ha, .ref oa, .ref ga, .ref ca, .ref ma, .ref ba, .ref ka, .int (oI (hnt)), .int (nI gd), .int (nI 1)])), (ia, .inl (gI g, 4, .inl (rM (idn)))), (wa, .inl (gI g, 20, .inl (rM (wd)))), (ha, .inl (gZ g, 400, .inl (rB (hs)))), (oa, .inl (gZ g, 400, .inl (rB (ho)))), (ga, .inl (gI g, 32, .inl (rM (gr)))), (ca, .inl (gI g, 16, .inl (rO (ch)))), (ma, .inl (gI g, 5, .inl (rO (mt)))), (ba, .inl (gI g, 5, .inl (rO (bs)))), (ka, .inl (gI g, 5, .inl (rO (bk))))]) (v := nI (0)) hx hb hr hlocks hP hS rfl ⟨rfl, rfl⟩ dX7_addIdea_27
  · skip
    exfalso; first | exact c_1 | omega | (simp at c_1; done) | (exact absurd c_1 (by simp))

set_option maxRecDepth 100000 in
set_option maxHeartbeats 4000000 in
theorem c_X7_addIdea_w (l : Launch) (g : GG) (o ia wa ha oa ga ca ma ba ka : Nat) (idn wd : Nat → Nat) (hs ho : Nat → Bool) (gr : Nat → Nat) (ch mt bs bk : Nat → Option Nat) (hnt : Option Nat) (gd tn : Nat) (m : Nat) (w : Int32) (hm : m < 4) (hbd : inR w 32 = false) : IM l yX7_addIdea wsX7_addIdea 3 g [.ref o, .int (nI m), .int (w)] [(o, .inr (7, [.ref ia, .ref wa, .ref ha, .ref oa, .ref ga, .ref ca, .ref ma, .ref ba, .ref ka, .int (oI (hnt)), .int (nI gd), .int (nI tn)])), (ia, .inl (gI g, 4, .inl (rM (idn)))), (wa, .inl (gI g, 20, .inl (rM (wd)))), (ha, .inl (gZ g, 400, .inl (rB (hs)))), (oa, .inl (gZ g, 400, .inl (rB (ho)))), (ga, .inl (gI g, 32, .inl (rM (gr)))), (ca, .inl (gI g, 16, .inl (rO (ch)))), (ma, .inl (gI g, 5, .inl (rO (mt)))), (ba, .inl (gI g, 5, .inl (rO (bs)))), (ka, .inl (gI g, 5, .inl (rO (bk))))] (fun x1 w1 => x1 = nI 0 ∧ w1 = [(o, .inr (7, [.ref ia, .ref wa, .ref ha, .ref oa, .ref ga, .ref ca, .ref ma, .ref ba, .ref ka, .int (oI (hnt)), .int (nI gd), .int (nI 1)])), (ia, .inl (gI g, 4, .inl (rM (idn)))), (wa, .inl (gI g, 20, .inl (rM (wd)))), (ha, .inl (gZ g, 400, .inl (rB (hs)))), (oa, .inl (gZ g, 400, .inl (rB (ho)))), (ga, .inl (gI g, 32, .inl (rM (gr)))), (ca, .inl (gI g, 16, .inl (rO (ch)))), (ma, .inl (gI g, 5, .inl (rO (mt)))), (ba, .inl (gI g, 5, .inl (rO (bs)))), (ka, .inl (gI g, 5, .inl (rO (bk))))]) := by
  refine fun sz => im_body (Qc := fun A => va_Qi _ (iB g _) A) (cc := cX7_addIdea) (maxL := 3) (ret := (some .int)) (by decide) rfl (Nat.le_of_ble_eq_true rfl) ?_ sz
  intro pg ev s0 mi below meth cd A hx hb hr hml hts hown hlocks hK hA H hP hD hS ls hl
  have hl : lv_has ls 3 [(0, .ref o), (1, .int (nI m)), (2, .int (w))] := hl
  refine lv_aload_n hx hb dX7_addIdea_0 rfl (lv_at hl 0 rfl) ?_
  refine lv_iload_n hx hb dX7_addIdea_1 rfl (lv_at hl 1 rfl) ?_
  refine im_S (k := 1) hx hb hml hown hts (c_X7_isMap l g (nI (m))) gX7_addIdea_X7_isMap rfl (by decide +kernel) ⟨Nat.le_of_ble_eq_true rfl, Nat.le_of_ble_eq_true rfl⟩ ⟨Nat.zero_le _, Nat.zero_le _⟩ hK hP hD hS hA [] rfl (by decide) rfl hl.1 (rest := [.ref o]) (As := [.int (nI m)]) rfl (Nat.le_of_ble_eq_true rfl) dX7_addIdea_2 (fun x1 w1 H locs hpo hpd hS => ?_)
  obtain ⟨hx1, rfl⟩ := hpo
  rw [inR_nI (by omega) (by decide)] at hx1
  have hx1 : x1 = b2i (true) := hx1
  subst hx1
  obtain ⟨hP, hD⟩ := hpd [(o, .inr (7, [.ref ia, .ref wa, .ref ha, .ref oa, .ref ga, .ref ca, .ref ma, .ref ba, .ref ka, .int (oI (hnt)), .int (nI gd), .int (nI tn)])), (ia, .inl (gI g, 4, .inl (rM (idn)))), (wa, .inl (gI g, 20, .inl (rM (wd)))), (ha, .inl (gZ g, 400, .inl (rB (hs)))), (oa, .inl (gZ g, 400, .inl (rB (ho)))), (ga, .inl (gI g, 32, .inl (rM (gr)))), (ca, .inl (gI g, 16, .inl (rO (ch)))), (ma, .inl (gI g, 5, .inl (rO (mt)))), (ba, .inl (gI g, 5, .inl (rO (bs)))), (ka, .inl (gI g, 5, .inl (rO (bk))))] [0, 1, 2, 3, 4, 5, 6, 7, 8, 9] 10 rfl rfl [(o, .inr (7, [.ref ia, .ref wa, .ref ha, .ref oa, .ref ga, .ref ca, .ref ma, .ref ba, .ref ka, .int (oI (hnt)), .int (nI gd), .int (nI tn)])), (ia, .inl (gI g, 4, .inl (rM (idn)))), (wa, .inl (gI g, 20, .inl (rM (wd)))), (ha, .inl (gZ g, 400, .inl (rB (hs)))), (oa, .inl (gZ g, 400, .inl (rB (ho)))), (ga, .inl (gI g, 32, .inl (rM (gr)))), (ca, .inl (gI g, 16, .inl (rO (ch)))), (ma, .inl (gI g, 5, .inl (rO (mt)))), (ba, .inl (gI g, 5, .inl (rO (bs)))), (ka, .inl (gI g, 5, .inl (rO (bk))))] rfl rfl (by decide) (by decide)
  refine bv_if_eq (tgt := 19) hx hb dX7_addIdea_5 (by decide) (fun c_1 => ?_) (fun c_1 => ?_)
  · skip
    exfalso; first | exact c_1 | omega | (simp at c_1; done) | (exact absurd c_1 (by simp))
  · skip
    refine lv_iload_n hx hb dX7_addIdea_8 rfl (lv_at hl 2 rfl) ?_
    refine im_S (k := 1) hx hb hml hown hts (c_X7_isWord l g (w)) gX7_addIdea_X7_isWord rfl (by decide +kernel) ⟨Nat.le_of_ble_eq_true rfl, Nat.le_of_ble_eq_true rfl⟩ ⟨Nat.zero_le _, Nat.zero_le _⟩ hK hP hD hS hA [] rfl (by decide) rfl hl.1 (rest := [.ref o]) (As := [.int (w)]) rfl (Nat.le_of_ble_eq_true rfl) dX7_addIdea_9 (fun x1 w1 H locs hpo hpd hS => ?_)
    obtain ⟨hx1, rfl⟩ := hpo
    rw [hbd] at hx1
    have hx1 : x1 = b2i (false) := hx1
    subst hx1
    obtain ⟨hP, hD⟩ := hpd [(o, .inr (7, [.ref ia, .ref wa, .ref ha, .ref oa, .ref ga, .ref ca, .ref ma, .ref ba, .ref ka, .int (oI (hnt)), .int (nI gd), .int (nI tn)])), (ia, .inl (gI g, 4, .inl (rM (idn)))), (wa, .inl (gI g, 20, .inl (rM (wd)))), (ha, .inl (gZ g, 400, .inl (rB (hs)))), (oa, .inl (gZ g, 400, .inl (rB (ho)))), (ga, .inl (gI g, 32, .inl (rM (gr)))), (ca, .inl (gI g, 16, .inl (rO (ch)))), (ma, .inl (gI g, 5, .inl (rO (mt)))), (ba, .inl (gI g, 5, .inl (rO (bs)))), (ka, .inl (gI g, 5, .inl (rO (bk))))] [0, 1, 2, 3, 4, 5, 6, 7, 8, 9] 10 rfl rfl [(o, .inr (7, [.ref ia, .ref wa, .ref ha, .ref oa, .ref ga, .ref ca, .ref ma, .ref ba, .ref ka, .int (oI (hnt)), .int (nI gd), .int (nI tn)])), (ia, .inl (gI g, 4, .inl (rM (idn)))), (wa, .inl (gI g, 20, .inl (rM (wd)))), (ha, .inl (gZ g, 400, .inl (rB (hs)))), (oa, .inl (gZ g, 400, .inl (rB (ho)))), (ga, .inl (gI g, 32, .inl (rM (gr)))), (ca, .inl (gI g, 16, .inl (rO (ch)))), (ma, .inl (gI g, 5, .inl (rO (mt)))), (ba, .inl (gI g, 5, .inl (rO (bs)))), (ka, .inl (gI g, 5, .inl (rO (bk))))] rfl rfl (by decide) (by decide)
    refine bv_if_eq (tgt := 19) hx hb dX7_addIdea_12 (by decide) (fun c_2 => ?_) (fun c_2 => ?_)
    · skip
      refine lv_iconst (v := nI (0)) hx hb dX7_addIdea_19 (by decide) ?_
      refine im_V (k := 1) hx hb hml hown hts (c_X7_asks_f l g o ia wa ha oa ga ca ma ba ka (idn) (wd) (hs) (ho) (gr) (ch) (mt) (bs) (bk) (hnt) (gd) (tn)) gX7_addIdea_X7_asks rfl (by decide +kernel) ⟨Nat.le_of_ble_eq_true rfl, Nat.le_of_ble_eq_true rfl⟩ ⟨Nat.zero_le _, Nat.zero_le _⟩ hK hP hD hS hA [0, 1, 2, 3, 4, 5, 6, 7, 8, 9] rfl (by decide) 0 7 rfl rfl rfl hl.1 (rest := []) (As := [.int (nI 0)]) rfl (Nat.le_of_ble_eq_true rfl) dX7_addIdea_20 (fun x1 w1 H locs hpo hpd hS => ?_)
      obtain ⟨hx1, rfl⟩ := hpo
      have hx1 : x1 = b2i (false) := hx1
      subst hx1
      obtain ⟨hP, hD⟩ := hpd [(o, .inr (7, [.ref ia, .ref wa, .ref ha, .ref oa, .ref ga, .ref ca, .ref ma, .ref ba, .ref ka, .int (oI (hnt)), .int (nI gd), .int (nI 1)])), (ia, .inl (gI g, 4, .inl (rM (idn)))), (wa, .inl (gI g, 20, .inl (rM (wd)))), (ha, .inl (gZ g, 400, .inl (rB (hs)))), (oa, .inl (gZ g, 400, .inl (rB (ho)))), (ga, .inl (gI g, 32, .inl (rM (gr)))), (ca, .inl (gI g, 16, .inl (rO (ch)))), (ma, .inl (gI g, 5, .inl (rO (mt)))), (ba, .inl (gI g, 5, .inl (rO (bs)))), (ka, .inl (gI g, 5, .inl (rO (bk))))] [] 10 rfl rfl [] rfl rfl (by decide) (by decide)
      refine bv_if_ne (tgt := 28) hx hb dX7_addIdea_23 (by decide) (fun c_3 => ?_) (fun c_3 => ?_)
      · skip
        exfalso; first | exact c_3 | omega | (simp at c_3; done) | (exact absurd c_3 (by simp))
      · skip
        refine lv_iconst (v := nI (0)) hx hb dX7_addIdea_26 (by decide) ?_
        exact im_ret (w1 := [(o, .inr (7, [.ref ia, .ref wa, .ref ha, .ref oa, .ref ga, .ref ca, .ref ma, .ref ba, .ref ka, .int (oI (hnt)), .int (nI gd), .int (nI 1)])), (ia, .inl (gI g, 4, .inl (rM (idn)))), (wa, .inl (gI g, 20, .inl (rM (wd)))), (ha, .inl (gZ g, 400, .inl (rB (hs)))), (oa, .inl (gZ g, 400, .inl (rB (ho)))), (ga, .inl (gI g, 32, .inl (rM (gr)))), (ca, .inl (gI g, 16, .inl (rO (ch)))), (ma, .inl (gI g, 5, .inl (rO (mt)))), (ba, .inl (gI g, 5, .inl (rO (bs)))), (ka, .inl (gI g, 5, .inl (rO (bk))))]) (v := nI (0)) hx hb hr hlocks hP hS rfl ⟨rfl, rfl⟩ dX7_addIdea_27
    · skip
      exfalso; first | exact c_2 | omega | (simp at c_2; done) | (exact absurd c_2 (by simp))

set_option maxRecDepth 100000 in
set_option maxHeartbeats 4000000 in
theorem c_X7_link (l : Launch) (g : GG) (o ia wa ha oa ga ca ma ba ka : Nat) (idn wd : Nat → Nat) (hs ho : Nat → Bool) (gr : Nat → Nat) (ch mt bs bk : Nat → Option Nat) (hnt : Option Nat) (gd tn : Nat) (m f t d : Nat) (hm : m < 4) (hf : f < idn m) (ht : t < idn m) (hft : f ≠ t) (hd : d < 4) (hq5 : idn m ≤ 5) : IM l yX7_link wsX7_link 4 g [.ref o, .int (nI m), .int (nI f), .int (nI t), .int (nI d)] [(o, .inr (7, [.ref ia, .ref wa, .ref ha, .ref oa, .ref ga, .ref ca, .ref ma, .ref ba, .ref ka, .int (oI (hnt)), .int (nI gd), .int (nI tn)])), (ia, .inl (gI g, 4, .inl (rM (idn)))), (wa, .inl (gI g, 20, .inl (rM (wd)))), (ha, .inl (gZ g, 400, .inl (rB (hs)))), (oa, .inl (gZ g, 400, .inl (rB (ho)))), (ga, .inl (gI g, 32, .inl (rM (gr)))), (ca, .inl (gI g, 16, .inl (rO (ch)))), (ma, .inl (gI g, 5, .inl (rO (mt)))), (ba, .inl (gI g, 5, .inl (rO (bs)))), (ka, .inl (gI g, 5, .inl (rO (bk))))] (fun x1 w1 => x1 = b2i (!hs (atF m f t d)) ∧ w1 = [(o, .inr (7, [.ref ia, .ref wa, .ref ha, .ref oa, .ref ga, .ref ca, .ref ma, .ref ba, .ref ka, .int (oI (hnt)), .int (nI gd), .int (nI 0)])), (ia, .inl (gI g, 4, .inl (rM (idn)))), (wa, .inl (gI g, 20, .inl (rM (wd)))), (ha, .inl (gZ g, 400, .inl (rB (va_up hs (atF m f t d) (!hs (atF m f t d)))))), (oa, .inl (gZ g, 400, .inl (rB (ho)))), (ga, .inl (gI g, 32, .inl (rM (gr)))), (ca, .inl (gI g, 16, .inl (rO (ch)))), (ma, .inl (gI g, 5, .inl (rO (mt)))), (ba, .inl (gI g, 5, .inl (rO (bs)))), (ka, .inl (gI g, 5, .inl (rO (bk))))]) := by
  refine fun sz => im_body (Qc := fun A => va_Qi _ (iB g _) A) (cc := cX7_link) (maxL := 5) (ret := (some .boolean)) (by decide) rfl (Nat.le_of_ble_eq_true rfl) ?_ sz
  intro pg ev s0 mi below meth cd A hx hb hr hml hts hown hlocks hK hA H hP hD hS ls hl
  have hl : lv_has ls 5 [(0, .ref o), (1, .int (nI m)), (2, .int (nI f)), (3, .int (nI t)), (4, .int (nI d))] := hl
  refine lv_aload_n hx hb dX7_link_0 rfl (lv_at hl 0 rfl) ?_
  refine lv_iload_n hx hb dX7_link_1 rfl (lv_at hl 1 rfl) ?_
  refine lv_iload_n hx hb dX7_link_2 rfl (lv_at hl 2 rfl) ?_
  refine lv_iload_n hx hb dX7_link_3 rfl (lv_at hl 3 rfl) ?_
  refine lv_iload hx hb dX7_link_4 (lv_at hl 4 rfl) ?_
  refine im_V (k := 4) hx hb hml hown hts (c_X7_asksLink l g o ia wa ha oa ga ca ma ba ka (idn) (wd) (hs) (ho) (gr) (ch) (mt) (bs) (bk) (hnt) (gd) (tn) (m) (f) (t) (d) (by omega) (by omega) (by omega) (by omega) (by omega) hq5) gX7_link_X7_asksLink rfl (by decide +kernel) ⟨Nat.le_of_ble_eq_true rfl, Nat.le_of_ble_eq_true rfl⟩ ⟨Nat.zero_le _, Nat.zero_le _⟩ hK hP hD hS hA [0, 1, 2, 3, 4, 5, 6, 7, 8, 9] rfl (by decide) 0 7 rfl rfl rfl hl.1 (rest := []) (As := [.int (nI m), .int (nI f), .int (nI t), .int (nI d)]) rfl (Nat.le_of_ble_eq_true rfl) dX7_link_6 (fun x1 w1 H locs hpo hpd hS => ?_)
  obtain ⟨hx1, rfl⟩ := hpo
  have hx1 : x1 = b2i (true) := hx1
  subst hx1
  obtain ⟨hP, hD⟩ := hpd [(o, .inr (7, [.ref ia, .ref wa, .ref ha, .ref oa, .ref ga, .ref ca, .ref ma, .ref ba, .ref ka, .int (oI (hnt)), .int (nI gd), .int (nI 0)])), (ia, .inl (gI g, 4, .inl (rM (idn)))), (wa, .inl (gI g, 20, .inl (rM (wd)))), (ha, .inl (gZ g, 400, .inl (rB (hs)))), (oa, .inl (gZ g, 400, .inl (rB (ho)))), (ga, .inl (gI g, 32, .inl (rM (gr)))), (ca, .inl (gI g, 16, .inl (rO (ch)))), (ma, .inl (gI g, 5, .inl (rO (mt)))), (ba, .inl (gI g, 5, .inl (rO (bs)))), (ka, .inl (gI g, 5, .inl (rO (bk))))] [] 10 rfl rfl [] rfl rfl (by decide) (by decide)
  refine bv_if_ne (tgt := 14) hx hb dX7_link_9 (by decide) (fun c_1 => ?_) (fun c_1 => ?_)
  · skip
    refine lv_aload_n hx hb dX7_link_14 rfl (lv_at hl 0 rfl) ?_
    refine va_get (D := g.1) (ci := 7) (v := .ref ha) (C := RX7) (T := TX7) (N := 12) hx hb hts (fun _ h => (List.mem_cons_of_mem _ (List.mem_append_right _ h))) hown hK.1 hP 0 rfl rfl 2 (by decide) (hts _ (List.mem_cons_of_mem _ (List.mem_append_left _ (List.mem_of_getElem? (i := 0) rfl)))) (fun _ h9 => h9) rfl dX7_link_15 ?_
    refine lv_iload_n hx hb dX7_link_18 rfl (lv_at hl 1 rfl) ?_
    refine lv_iload_n hx hb dX7_link_19 rfl (lv_at hl 2 rfl) ?_
    refine lv_iload_n hx hb dX7_link_20 rfl (lv_at hl 3 rfl) ?_
    refine lv_iload hx hb dX7_link_21 (lv_at hl 4 rfl) ?_
    refine im_S (k := 4) hx hb hml hown hts (c_X7_at l g (m) (f) (t) (d)) gX7_link_X7_at rfl (by decide +kernel) ⟨Nat.le_of_ble_eq_true rfl, Nat.le_of_ble_eq_true rfl⟩ ⟨Nat.zero_le _, Nat.zero_le _⟩ hK hP hD hS hA [] rfl (by decide) rfl hl.1 (rest := [.ref ha]) (As := [.int (nI m), .int (nI f), .int (nI t), .int (nI d)]) rfl (Nat.le_of_ble_eq_true rfl) dX7_link_23 (fun x1 w1 H locs hpo hpd hS => ?_)
    obtain ⟨hx1, rfl⟩ := hpo
    have hx1 : x1 = nI (atF m f t d) := hx1
    subst hx1
    obtain ⟨hP, hD⟩ := hpd [(o, .inr (7, [.ref ia, .ref wa, .ref ha, .ref oa, .ref ga, .ref ca, .ref ma, .ref ba, .ref ka, .int (oI (hnt)), .int (nI gd), .int (nI 0)])), (ia, .inl (gI g, 4, .inl (rM (idn)))), (wa, .inl (gI g, 20, .inl (rM (wd)))), (ha, .inl (gZ g, 400, .inl (rB (hs)))), (oa, .inl (gZ g, 400, .inl (rB (ho)))), (ga, .inl (gI g, 32, .inl (rM (gr)))), (ca, .inl (gI g, 16, .inl (rO (ch)))), (ma, .inl (gI g, 5, .inl (rO (mt)))), (ba, .inl (gI g, 5, .inl (rO (bs)))), (ka, .inl (gI g, 5, .inl (rO (bk))))] [0, 1, 2, 3, 4, 5, 6, 7, 8, 9] 10 rfl rfl [(o, .inr (7, [.ref ia, .ref wa, .ref ha, .ref oa, .ref ga, .ref ca, .ref ma, .ref ba, .ref ka, .int (oI (hnt)), .int (nI gd), .int (nI 0)])), (ia, .inl (gI g, 4, .inl (rM (idn)))), (wa, .inl (gI g, 20, .inl (rM (wd)))), (ha, .inl (gZ g, 400, .inl (rB (hs)))), (oa, .inl (gZ g, 400, .inl (rB (ho)))), (ga, .inl (gI g, 32, .inl (rM (gr)))), (ca, .inl (gI g, 16, .inl (rO (ch)))), (ma, .inl (gI g, 5, .inl (rO (mt)))), (ba, .inl (gI g, 5, .inl (rO (bs)))), (ka, .inl (gI g, 5, .inl (rO (bk))))] rfl rfl (by decide) (by decide)
    refine lv_aload_n hx hb dX7_link_26 rfl (lv_at hl 0 rfl) ?_
    refine va_get (D := g.1) (ci := 7) (v := .ref ha) (C := RX7) (T := TX7) (N := 12) hx hb hts (fun _ h => (List.mem_cons_of_mem _ (List.mem_append_right _ h))) hown hK.1 hP 0 rfl rfl 2 (by decide) (hts _ (List.mem_cons_of_mem _ (List.mem_append_left _ (List.mem_of_getElem? (i := 0) rfl)))) (fun _ h9 => h9) rfl dX7_link_27 ?_
    refine lv_iload_n hx hb dX7_link_30 rfl (lv_at hl 1 rfl) ?_
    refine lv_iload_n hx hb dX7_link_31 rfl (lv_at hl 2 rfl) ?_
    refine lv_iload_n hx hb dX7_link_32 rfl (lv_at hl 3 rfl) ?_
    refine lv_iload hx hb dX7_link_33 (lv_at hl 4 rfl) ?_
    refine im_S (k := 4) hx hb hml hown hts (c_X7_at l g (m) (f) (t) (d)) gX7_link_X7_at rfl (by decide +kernel) ⟨Nat.le_of_ble_eq_true rfl, Nat.le_of_ble_eq_true rfl⟩ ⟨Nat.zero_le _, Nat.zero_le _⟩ hK hP hD hS hA [] rfl (by decide) rfl hl.1 (rest := [.ref ha, .int (nI (atF m f t d)), .ref ha]) (As := [.int (nI m), .int (nI f), .int (nI t), .int (nI d)]) rfl (Nat.le_of_ble_eq_true rfl) dX7_link_35 (fun x1 w1 H locs hpo hpd hS => ?_)
    obtain ⟨hx1, rfl⟩ := hpo
    have hx1 : x1 = nI (atF m f t d) := hx1
    subst hx1
    obtain ⟨hP, hD⟩ := hpd [(o, .inr (7, [.ref ia, .ref wa, .ref ha, .ref oa, .ref ga, .ref ca, .ref ma, .ref ba, .ref ka, .int (oI (hnt)), .int (nI gd), .int (nI 0)])), (ia, .inl (gI g, 4, .inl (rM (idn)))), (wa, .inl (gI g, 20, .inl (rM (wd)))), (ha, .inl (gZ g, 400, .inl (rB (hs)))), (oa, .inl (gZ g, 400, .inl (rB (ho)))), (ga, .inl (gI g, 32, .inl (rM (gr)))), (ca, .inl (gI g, 16, .inl (rO (ch)))), (ma, .inl (gI g, 5, .inl (rO (mt)))), (ba, .inl (gI g, 5, .inl (rO (bs)))), (ka, .inl (gI g, 5, .inl (rO (bk))))] [0, 1, 2, 3, 4, 5, 6, 7, 8, 9] 10 rfl rfl [(o, .inr (7, [.ref ia, .ref wa, .ref ha, .ref oa, .ref ga, .ref ca, .ref ma, .ref ba, .ref ka, .int (oI (hnt)), .int (nI gd), .int (nI 0)])), (ia, .inl (gI g, 4, .inl (rM (idn)))), (wa, .inl (gI g, 20, .inl (rM (wd)))), (ha, .inl (gZ g, 400, .inl (rB (hs)))), (oa, .inl (gZ g, 400, .inl (rB (ho)))), (ga, .inl (gI g, 32, .inl (rM (gr)))), (ca, .inl (gI g, 16, .inl (rO (ch)))), (ma, .inl (gI g, 5, .inl (rO (mt)))), (ba, .inl (gI g, 5, .inl (rO (bs)))), (ka, .inl (gI g, 5, .inl (rO (bk))))] rfl rfl (by decide) (by decide)
    refine nv_zald (v := b2i (hs (atF m f t d))) hx hb hK hP 3 rfl (by unfold atF; omega) (by decide) rfl dX7_link_38 ?_
    refine bv_if_ne (tgt := 46) hx hb dX7_link_39 (by decide) (fun c_2 => ?_) (fun c_2 => ?_)
    · skip
      refine lv_iconst (v := nI (0)) hx hb dX7_link_46 (by decide) ?_
      refine nv_zast (v := false) (f' := rB (va_up hs (atF m f t d) (false))) hx hb hK hP hD hS 3 rfl (by unfold atF; omega) (by decide) (upd_rB _ _ _) dX7_link_47 (fun H locs hP hD hS => ?_)
      have hP : va_P g.1 vwCl [(o, .inr (7, [.ref ia, .ref wa, .ref ha, .ref oa, .ref ga, .ref ca, .ref ma, .ref ba, .ref ka, .int (oI (hnt)), .int (nI gd), .int (nI 0)])), (ia, .inl (gI g, 4, .inl (rM (idn)))), (wa, .inl (gI g, 20, .inl (rM (wd)))), (ha, .inl (gZ g, 400, .inl (rB (va_up hs (atF m f t d) (false))))), (oa, .inl (gZ g, 400, .inl (rB (ho)))), (ga, .inl (gI g, 32, .inl (rM (gr)))), (ca, .inl (gI g, 16, .inl (rO (ch)))), (ma, .inl (gI g, 5, .inl (rO (mt)))), (ba, .inl (gI g, 5, .inl (rO (bs)))), (ka, .inl (gI g, 5, .inl (rO (bk))))] H := hP
      have hD : va_D A [(o, .inr (7, [.ref ia, .ref wa, .ref ha, .ref oa, .ref ga, .ref ca, .ref ma, .ref ba, .ref ka, .int (oI (hnt)), .int (nI gd), .int (nI 0)])), (ia, .inl (gI g, 4, .inl (rM (idn)))), (wa, .inl (gI g, 20, .inl (rM (wd)))), (ha, .inl (gZ g, 400, .inl (rB (va_up hs (atF m f t d) (false))))), (oa, .inl (gZ g, 400, .inl (rB (ho)))), (ga, .inl (gI g, 32, .inl (rM (gr)))), (ca, .inl (gI g, 16, .inl (rO (ch)))), (ma, .inl (gI g, 5, .inl (rO (mt)))), (ba, .inl (gI g, 5, .inl (rO (bs)))), (ka, .inl (gI g, 5, .inl (rO (bk))))] := hD
      refine lv_aload_n hx hb dX7_link_48 rfl (lv_at hl 0 rfl) ?_
      refine va_get (D := g.1) (ci := 7) (v := .ref ha) (C := RX7) (T := TX7) (N := 12) hx hb hts (fun _ h => (List.mem_cons_of_mem _ (List.mem_append_right _ h))) hown hK.1 hP 0 rfl rfl 2 (by decide) (hts _ (List.mem_cons_of_mem _ (List.mem_append_left _ (List.mem_of_getElem? (i := 0) rfl)))) (fun _ h9 => h9) rfl dX7_link_49 ?_
      refine lv_iload_n hx hb dX7_link_52 rfl (lv_at hl 1 rfl) ?_
      refine lv_iload_n hx hb dX7_link_53 rfl (lv_at hl 2 rfl) ?_
      refine lv_iload_n hx hb dX7_link_54 rfl (lv_at hl 3 rfl) ?_
      refine lv_iload hx hb dX7_link_55 (lv_at hl 4 rfl) ?_
      refine im_S (k := 4) hx hb hml hown hts (c_X7_at l g (m) (f) (t) (d)) gX7_link_X7_at rfl (by decide +kernel) ⟨Nat.le_of_ble_eq_true rfl, Nat.le_of_ble_eq_true rfl⟩ ⟨Nat.zero_le _, Nat.zero_le _⟩ hK hP hD hS hA [] rfl (by decide) rfl hl.1 (rest := [.ref ha]) (As := [.int (nI m), .int (nI f), .int (nI t), .int (nI d)]) rfl (Nat.le_of_ble_eq_true rfl) dX7_link_57 (fun x1 w1 H locs hpo hpd hS => ?_)
      obtain ⟨hx1, rfl⟩ := hpo
      have hx1 : x1 = nI (atF m f t d) := hx1
      subst hx1
      obtain ⟨hP, hD⟩ := hpd [(o, .inr (7, [.ref ia, .ref wa, .ref ha, .ref oa, .ref ga, .ref ca, .ref ma, .ref ba, .ref ka, .int (oI (hnt)), .int (nI gd), .int (nI 0)])), (ia, .inl (gI g, 4, .inl (rM (idn)))), (wa, .inl (gI g, 20, .inl (rM (wd)))), (ha, .inl (gZ g, 400, .inl (rB (va_up hs (atF m f t d) (false))))), (oa, .inl (gZ g, 400, .inl (rB (ho)))), (ga, .inl (gI g, 32, .inl (rM (gr)))), (ca, .inl (gI g, 16, .inl (rO (ch)))), (ma, .inl (gI g, 5, .inl (rO (mt)))), (ba, .inl (gI g, 5, .inl (rO (bs)))), (ka, .inl (gI g, 5, .inl (rO (bk))))] [0, 1, 2, 3, 4, 5, 6, 7, 8, 9] 10 rfl rfl [(o, .inr (7, [.ref ia, .ref wa, .ref ha, .ref oa, .ref ga, .ref ca, .ref ma, .ref ba, .ref ka, .int (oI (hnt)), .int (nI gd), .int (nI 0)])), (ia, .inl (gI g, 4, .inl (rM (idn)))), (wa, .inl (gI g, 20, .inl (rM (wd)))), (ha, .inl (gZ g, 400, .inl (rB (va_up hs (atF m f t d) (false))))), (oa, .inl (gZ g, 400, .inl (rB (ho)))), (ga, .inl (gI g, 32, .inl (rM (gr)))), (ca, .inl (gI g, 16, .inl (rO (ch)))), (ma, .inl (gI g, 5, .inl (rO (mt)))), (ba, .inl (gI g, 5, .inl (rO (bs)))), (ka, .inl (gI g, 5, .inl (rO (bk))))] rfl rfl (by decide) (by decide)
      refine nv_zald (v := b2i ((va_up hs (atF m f t d) (false)) (atF m f t d))) hx hb hK hP 3 rfl (by unfold atF; omega) (by decide) rfl dX7_link_60 ?_
      exact im_retz (w1 := [(o, .inr (7, [.ref ia, .ref wa, .ref ha, .ref oa, .ref ga, .ref ca, .ref ma, .ref ba, .ref ka, .int (oI (hnt)), .int (nI gd), .int (nI 0)])), (ia, .inl (gI g, 4, .inl (rM (idn)))), (wa, .inl (gI g, 20, .inl (rM (wd)))), (ha, .inl (gZ g, 400, .inl (rB (va_up hs (atF m f t d) (false))))), (oa, .inl (gZ g, 400, .inl (rB (ho)))), (ga, .inl (gI g, 32, .inl (rM (gr)))), (ca, .inl (gI g, 16, .inl (rO (ch)))), (ma, .inl (gI g, 5, .inl (rO (mt)))), (ba, .inl (gI g, 5, .inl (rO (bs)))), (ka, .inl (gI g, 5, .inl (rO (bk))))]) (v := b2i ((va_up hs (atF m f t d) (false)) (atF m f t d))) hx hb hr hlocks hP hS rfl ⟨by rw [vu_eq]; simp only [*]; rfl, by simp only [*]; rfl⟩ (by first | exact b2i_nar _ | rfl) dX7_link_61
    · skip
      refine lv_iconst (v := nI (1)) hx hb dX7_link_42 (by decide) ?_
      refine lv_goto (tgt := 47) hx hb dX7_link_43 (by decide) ?_
      refine nv_zast (v := true) (f' := rB (va_up hs (atF m f t d) (true))) hx hb hK hP hD hS 3 rfl (by unfold atF; omega) (by decide) (upd_rB _ _ _) dX7_link_47 (fun H locs hP hD hS => ?_)
      have hP : va_P g.1 vwCl [(o, .inr (7, [.ref ia, .ref wa, .ref ha, .ref oa, .ref ga, .ref ca, .ref ma, .ref ba, .ref ka, .int (oI (hnt)), .int (nI gd), .int (nI 0)])), (ia, .inl (gI g, 4, .inl (rM (idn)))), (wa, .inl (gI g, 20, .inl (rM (wd)))), (ha, .inl (gZ g, 400, .inl (rB (va_up hs (atF m f t d) (true))))), (oa, .inl (gZ g, 400, .inl (rB (ho)))), (ga, .inl (gI g, 32, .inl (rM (gr)))), (ca, .inl (gI g, 16, .inl (rO (ch)))), (ma, .inl (gI g, 5, .inl (rO (mt)))), (ba, .inl (gI g, 5, .inl (rO (bs)))), (ka, .inl (gI g, 5, .inl (rO (bk))))] H := hP
      have hD : va_D A [(o, .inr (7, [.ref ia, .ref wa, .ref ha, .ref oa, .ref ga, .ref ca, .ref ma, .ref ba, .ref ka, .int (oI (hnt)), .int (nI gd), .int (nI 0)])), (ia, .inl (gI g, 4, .inl (rM (idn)))), (wa, .inl (gI g, 20, .inl (rM (wd)))), (ha, .inl (gZ g, 400, .inl (rB (va_up hs (atF m f t d) (true))))), (oa, .inl (gZ g, 400, .inl (rB (ho)))), (ga, .inl (gI g, 32, .inl (rM (gr)))), (ca, .inl (gI g, 16, .inl (rO (ch)))), (ma, .inl (gI g, 5, .inl (rO (mt)))), (ba, .inl (gI g, 5, .inl (rO (bs)))), (ka, .inl (gI g, 5, .inl (rO (bk))))] := hD
      refine lv_aload_n hx hb dX7_link_48 rfl (lv_at hl 0 rfl) ?_
      refine va_get (D := g.1) (ci := 7) (v := .ref ha) (C := RX7) (T := TX7) (N := 12) hx hb hts (fun _ h => (List.mem_cons_of_mem _ (List.mem_append_right _ h))) hown hK.1 hP 0 rfl rfl 2 (by decide) (hts _ (List.mem_cons_of_mem _ (List.mem_append_left _ (List.mem_of_getElem? (i := 0) rfl)))) (fun _ h9 => h9) rfl dX7_link_49 ?_
      refine lv_iload_n hx hb dX7_link_52 rfl (lv_at hl 1 rfl) ?_
      refine lv_iload_n hx hb dX7_link_53 rfl (lv_at hl 2 rfl) ?_
      refine lv_iload_n hx hb dX7_link_54 rfl (lv_at hl 3 rfl) ?_
      refine lv_iload hx hb dX7_link_55 (lv_at hl 4 rfl) ?_
      refine im_S (k := 4) hx hb hml hown hts (c_X7_at l g (m) (f) (t) (d)) gX7_link_X7_at rfl (by decide +kernel) ⟨Nat.le_of_ble_eq_true rfl, Nat.le_of_ble_eq_true rfl⟩ ⟨Nat.zero_le _, Nat.zero_le _⟩ hK hP hD hS hA [] rfl (by decide) rfl hl.1 (rest := [.ref ha]) (As := [.int (nI m), .int (nI f), .int (nI t), .int (nI d)]) rfl (Nat.le_of_ble_eq_true rfl) dX7_link_57 (fun x1 w1 H locs hpo hpd hS => ?_)
      obtain ⟨hx1, rfl⟩ := hpo
      have hx1 : x1 = nI (atF m f t d) := hx1
      subst hx1
      obtain ⟨hP, hD⟩ := hpd [(o, .inr (7, [.ref ia, .ref wa, .ref ha, .ref oa, .ref ga, .ref ca, .ref ma, .ref ba, .ref ka, .int (oI (hnt)), .int (nI gd), .int (nI 0)])), (ia, .inl (gI g, 4, .inl (rM (idn)))), (wa, .inl (gI g, 20, .inl (rM (wd)))), (ha, .inl (gZ g, 400, .inl (rB (va_up hs (atF m f t d) (true))))), (oa, .inl (gZ g, 400, .inl (rB (ho)))), (ga, .inl (gI g, 32, .inl (rM (gr)))), (ca, .inl (gI g, 16, .inl (rO (ch)))), (ma, .inl (gI g, 5, .inl (rO (mt)))), (ba, .inl (gI g, 5, .inl (rO (bs)))), (ka, .inl (gI g, 5, .inl (rO (bk))))] [0, 1, 2, 3, 4, 5, 6, 7, 8, 9] 10 rfl rfl [(o, .inr (7, [.ref ia, .ref wa, .ref ha, .ref oa, .ref ga, .ref ca, .ref ma, .ref ba, .ref ka, .int (oI (hnt)), .int (nI gd), .int (nI 0)])), (ia, .inl (gI g, 4, .inl (rM (idn)))), (wa, .inl (gI g, 20, .inl (rM (wd)))), (ha, .inl (gZ g, 400, .inl (rB (va_up hs (atF m f t d) (true))))), (oa, .inl (gZ g, 400, .inl (rB (ho)))), (ga, .inl (gI g, 32, .inl (rM (gr)))), (ca, .inl (gI g, 16, .inl (rO (ch)))), (ma, .inl (gI g, 5, .inl (rO (mt)))), (ba, .inl (gI g, 5, .inl (rO (bs)))), (ka, .inl (gI g, 5, .inl (rO (bk))))] rfl rfl (by decide) (by decide)
      refine nv_zald (v := b2i ((va_up hs (atF m f t d) (true)) (atF m f t d))) hx hb hK hP 3 rfl (by unfold atF; omega) (by decide) rfl dX7_link_60 ?_
      exact im_retz (w1 := [(o, .inr (7, [.ref ia, .ref wa, .ref ha, .ref oa, .ref ga, .ref ca, .ref ma, .ref ba, .ref ka, .int (oI (hnt)), .int (nI gd), .int (nI 0)])), (ia, .inl (gI g, 4, .inl (rM (idn)))), (wa, .inl (gI g, 20, .inl (rM (wd)))), (ha, .inl (gZ g, 400, .inl (rB (va_up hs (atF m f t d) (true))))), (oa, .inl (gZ g, 400, .inl (rB (ho)))), (ga, .inl (gI g, 32, .inl (rM (gr)))), (ca, .inl (gI g, 16, .inl (rO (ch)))), (ma, .inl (gI g, 5, .inl (rO (mt)))), (ba, .inl (gI g, 5, .inl (rO (bs)))), (ka, .inl (gI g, 5, .inl (rO (bk))))]) (v := b2i ((va_up hs (atF m f t d) (true)) (atF m f t d))) hx hb hr hlocks hP hS rfl ⟨by rw [vu_eq]; simp only [*]; rfl, by simp only [*]; rfl⟩ (by first | exact b2i_nar _ | rfl) dX7_link_61
  · skip
    exfalso; first | exact c_1 | omega | (simp at c_1; done) | (exact absurd c_1 (by simp))

set_option maxRecDepth 100000 in
set_option maxHeartbeats 4000000 in
theorem c_X7_link_bad (l : Launch) (g : GG) (o ia wa ha oa ga ca ma ba ka : Nat) (idn wd : Nat → Nat) (hs ho : Nat → Bool) (gr : Nat → Nat) (ch mt bs bk : Nat → Option Nat) (hnt : Option Nat) (gd tn : Nat) (v a1 b1 d1 : Int32) (r9 : Nat) (hr9 : lkBad idn v a1 b1 d1 = r9) (hr0 : r9 ≠ 0) (hq5 : ∀ m, idn m ≤ 5) : IM l yX7_link wsX7_link 4 g [.ref o, .int (v), .int (a1), .int (b1), .int (d1)] [(o, .inr (7, [.ref ia, .ref wa, .ref ha, .ref oa, .ref ga, .ref ca, .ref ma, .ref ba, .ref ka, .int (oI (hnt)), .int (nI gd), .int (nI tn)])), (ia, .inl (gI g, 4, .inl (rM (idn)))), (wa, .inl (gI g, 20, .inl (rM (wd)))), (ha, .inl (gZ g, 400, .inl (rB (hs)))), (oa, .inl (gZ g, 400, .inl (rB (ho)))), (ga, .inl (gI g, 32, .inl (rM (gr)))), (ca, .inl (gI g, 16, .inl (rO (ch)))), (ma, .inl (gI g, 5, .inl (rO (mt)))), (ba, .inl (gI g, 5, .inl (rO (bs)))), (ka, .inl (gI g, 5, .inl (rO (bk))))] (fun x1 w1 => x1 = b2i false ∧ w1 = [(o, .inr (7, [.ref ia, .ref wa, .ref ha, .ref oa, .ref ga, .ref ca, .ref ma, .ref ba, .ref ka, .int (oI (hnt)), .int (nI gd), .int (nI r9)])), (ia, .inl (gI g, 4, .inl (rM (idn)))), (wa, .inl (gI g, 20, .inl (rM (wd)))), (ha, .inl (gZ g, 400, .inl (rB (hs)))), (oa, .inl (gZ g, 400, .inl (rB (ho)))), (ga, .inl (gI g, 32, .inl (rM (gr)))), (ca, .inl (gI g, 16, .inl (rO (ch)))), (ma, .inl (gI g, 5, .inl (rO (mt)))), (ba, .inl (gI g, 5, .inl (rO (bs)))), (ka, .inl (gI g, 5, .inl (rO (bk))))]) := by
  refine fun sz => im_body (Qc := fun A => va_Qi _ (iB g _) A) (cc := cX7_link) (maxL := 5) (ret := (some .boolean)) (by decide) rfl (Nat.le_of_ble_eq_true rfl) ?_ sz
  intro pg ev s0 mi below meth cd A hx hb hr hml hts hown hlocks hK hA H hP hD hS ls hl
  have hl : lv_has ls 5 [(0, .ref o), (1, .int (v)), (2, .int (a1)), (3, .int (b1)), (4, .int (d1))] := hl
  refine lv_aload_n hx hb dX7_link_0 rfl (lv_at hl 0 rfl) ?_
  refine lv_iload_n hx hb dX7_link_1 rfl (lv_at hl 1 rfl) ?_
  refine lv_iload_n hx hb dX7_link_2 rfl (lv_at hl 2 rfl) ?_
  refine lv_iload_n hx hb dX7_link_3 rfl (lv_at hl 3 rfl) ?_
  refine lv_iload hx hb dX7_link_4 (lv_at hl 4 rfl) ?_
  refine im_V (k := 4) hx hb hml hown hts (c_X7_asksLink_bad l g o ia wa ha oa ga ca ma ba ka (idn) (wd) (hs) (ho) (gr) (ch) (mt) (bs) (bk) (hnt) (gd) (tn) (v) (a1) (b1) (d1) r9 hr9 hr0 hq5) gX7_link_X7_asksLink rfl (by decide +kernel) ⟨Nat.le_of_ble_eq_true rfl, Nat.le_of_ble_eq_true rfl⟩ ⟨Nat.zero_le _, Nat.zero_le _⟩ hK hP hD hS hA [0, 1, 2, 3, 4, 5, 6, 7, 8, 9] rfl (by decide) 0 7 rfl rfl rfl hl.1 (rest := []) (As := [.int (v), .int (a1), .int (b1), .int (d1)]) rfl (Nat.le_of_ble_eq_true rfl) dX7_link_6 (fun x1 w1 H locs hpo hpd hS => ?_)
  obtain ⟨hx1, rfl⟩ := hpo
  have hx1 : x1 = b2i (false) := hx1
  subst hx1
  obtain ⟨hP, hD⟩ := hpd [(o, .inr (7, [.ref ia, .ref wa, .ref ha, .ref oa, .ref ga, .ref ca, .ref ma, .ref ba, .ref ka, .int (oI (hnt)), .int (nI gd), .int (nI r9)])), (ia, .inl (gI g, 4, .inl (rM (idn)))), (wa, .inl (gI g, 20, .inl (rM (wd)))), (ha, .inl (gZ g, 400, .inl (rB (hs)))), (oa, .inl (gZ g, 400, .inl (rB (ho)))), (ga, .inl (gI g, 32, .inl (rM (gr)))), (ca, .inl (gI g, 16, .inl (rO (ch)))), (ma, .inl (gI g, 5, .inl (rO (mt)))), (ba, .inl (gI g, 5, .inl (rO (bs)))), (ka, .inl (gI g, 5, .inl (rO (bk))))] [] 10 rfl rfl [] rfl rfl (by decide) (by decide)
  refine bv_if_ne (tgt := 14) hx hb dX7_link_9 (by decide) (fun c_1 => ?_) (fun c_1 => ?_)
  · skip
    exfalso; first | exact c_1 | omega | (simp at c_1; done) | (exact absurd c_1 (by simp))
  · skip
    refine lv_iconst (v := nI (0)) hx hb dX7_link_12 (by decide) ?_
    exact im_retz (w1 := [(o, .inr (7, [.ref ia, .ref wa, .ref ha, .ref oa, .ref ga, .ref ca, .ref ma, .ref ba, .ref ka, .int (oI (hnt)), .int (nI gd), .int (nI r9)])), (ia, .inl (gI g, 4, .inl (rM (idn)))), (wa, .inl (gI g, 20, .inl (rM (wd)))), (ha, .inl (gZ g, 400, .inl (rB (hs)))), (oa, .inl (gZ g, 400, .inl (rB (ho)))), (ga, .inl (gI g, 32, .inl (rM (gr)))), (ca, .inl (gI g, 16, .inl (rO (ch)))), (ma, .inl (gI g, 5, .inl (rO (mt)))), (ba, .inl (gI g, 5, .inl (rO (bs)))), (ka, .inl (gI g, 5, .inl (rO (bk))))]) (v := nI (0)) hx hb hr hlocks hP hS rfl ⟨rfl, rfl⟩ (by first | exact b2i_nar _ | rfl) dX7_link_13

set_option maxRecDepth 100000 in
set_option maxHeartbeats 4000000 in
theorem c_X7_holds (l : Launch) (g : GG) (o ia wa ha oa ga ca ma ba ka : Nat) (idn wd : Nat → Nat) (hs ho : Nat → Bool) (gr : Nat → Nat) (ch mt bs bk : Nat → Option Nat) (hnt : Option Nat) (gd tn : Nat) (m f t d : Nat) (hm : m < 4) (hf : f < idn m) (ht : t < idn m) (hft : f ≠ t) (hd : d < 4) (hq5 : idn m ≤ 5) (hc : chOk ch) : IM l yX7_holds wsX7_holds 4 g [.ref o, .int (nI m), .int (nI f), .int (nI t), .int (nI d)] [(o, .inr (7, [.ref ia, .ref wa, .ref ha, .ref oa, .ref ga, .ref ca, .ref ma, .ref ba, .ref ka, .int (oI (hnt)), .int (nI gd), .int (nI tn)])), (ia, .inl (gI g, 4, .inl (rM (idn)))), (wa, .inl (gI g, 20, .inl (rM (wd)))), (ha, .inl (gZ g, 400, .inl (rB (hs)))), (oa, .inl (gZ g, 400, .inl (rB (ho)))), (ga, .inl (gI g, 32, .inl (rM (gr)))), (ca, .inl (gI g, 16, .inl (rO (ch)))), (ma, .inl (gI g, 5, .inl (rO (mt)))), (ba, .inl (gI g, 5, .inl (rO (bs)))), (ka, .inl (gI g, 5, .inl (rO (bk))))] (fun x1 w1 => x1 = b2i (clB ch m ho hs (atF m f t d)) ∧ w1 = [(o, .inr (7, [.ref ia, .ref wa, .ref ha, .ref oa, .ref ga, .ref ca, .ref ma, .ref ba, .ref ka, .int (oI (hnt)), .int (nI gd), .int (nI 0)])), (ia, .inl (gI g, 4, .inl (rM (idn)))), (wa, .inl (gI g, 20, .inl (rM (wd)))), (ha, .inl (gZ g, 400, .inl (rB (hs)))), (oa, .inl (gZ g, 400, .inl (rB (clB ch m ho hs)))), (ga, .inl (gI g, 32, .inl (rM (gr)))), (ca, .inl (gI g, 16, .inl (rO (ch)))), (ma, .inl (gI g, 5, .inl (rO (mt)))), (ba, .inl (gI g, 5, .inl (rO (bs)))), (ka, .inl (gI g, 5, .inl (rO (bk))))]) := by
  refine fun sz => im_body (Qc := fun A => va_Qi _ (iB g _) A) (cc := cX7_holds) (maxL := 5) (ret := (some .boolean)) (by decide) rfl (Nat.le_of_ble_eq_true rfl) ?_ sz
  intro pg ev s0 mi below meth cd A hx hb hr hml hts hown hlocks hK hA H hP hD hS ls hl
  have hl : lv_has ls 5 [(0, .ref o), (1, .int (nI m)), (2, .int (nI f)), (3, .int (nI t)), (4, .int (nI d))] := hl
  refine lv_aload_n hx hb dX7_holds_0 rfl (lv_at hl 0 rfl) ?_
  refine lv_iload_n hx hb dX7_holds_1 rfl (lv_at hl 1 rfl) ?_
  refine lv_iload_n hx hb dX7_holds_2 rfl (lv_at hl 2 rfl) ?_
  refine lv_iload_n hx hb dX7_holds_3 rfl (lv_at hl 3 rfl) ?_
  refine lv_iload hx hb dX7_holds_4 (lv_at hl 4 rfl) ?_
  refine im_V (k := 4) hx hb hml hown hts (c_X7_asksLink l g o ia wa ha oa ga ca ma ba ka (idn) (wd) (hs) (ho) (gr) (ch) (mt) (bs) (bk) (hnt) (gd) (tn) (m) (f) (t) (d) (by omega) (by omega) (by omega) (by omega) (by omega) hq5) gX7_holds_X7_asksLink rfl (by decide +kernel) ⟨Nat.le_of_ble_eq_true rfl, Nat.le_of_ble_eq_true rfl⟩ ⟨Nat.zero_le _, Nat.zero_le _⟩ hK hP hD hS hA [0, 1, 2, 3, 4, 5, 6, 7, 8, 9] rfl (by decide) 0 7 rfl rfl rfl hl.1 (rest := []) (As := [.int (nI m), .int (nI f), .int (nI t), .int (nI d)]) rfl (Nat.le_of_ble_eq_true rfl) dX7_holds_6 (fun x1 w1 H locs hpo hpd hS => ?_)
  obtain ⟨hx1, rfl⟩ := hpo
  have hx1 : x1 = b2i (true) := hx1
  subst hx1
  obtain ⟨hP, hD⟩ := hpd [(o, .inr (7, [.ref ia, .ref wa, .ref ha, .ref oa, .ref ga, .ref ca, .ref ma, .ref ba, .ref ka, .int (oI (hnt)), .int (nI gd), .int (nI 0)])), (ia, .inl (gI g, 4, .inl (rM (idn)))), (wa, .inl (gI g, 20, .inl (rM (wd)))), (ha, .inl (gZ g, 400, .inl (rB (hs)))), (oa, .inl (gZ g, 400, .inl (rB (ho)))), (ga, .inl (gI g, 32, .inl (rM (gr)))), (ca, .inl (gI g, 16, .inl (rO (ch)))), (ma, .inl (gI g, 5, .inl (rO (mt)))), (ba, .inl (gI g, 5, .inl (rO (bs)))), (ka, .inl (gI g, 5, .inl (rO (bk))))] [] 10 rfl rfl [] rfl rfl (by decide) (by decide)
  refine bv_if_ne (tgt := 14) hx hb dX7_holds_9 (by decide) (fun c_1 => ?_) (fun c_1 => ?_)
  · skip
    refine lv_aload_n hx hb dX7_holds_14 rfl (lv_at hl 0 rfl) ?_
    refine lv_iload_n hx hb dX7_holds_15 rfl (lv_at hl 1 rfl) ?_
    refine im_Vv (k := 1) hx hb hml hown hts (c_X7_closes l g o ia wa ha oa ga ca ma ba ka (idn) (wd) (hs) (ho) (gr) (ch) (mt) (bs) (bk) (hnt) (gd) (0) (m) hc (by omega)) gX7_holds_X7_closes rfl (by decide +kernel) ⟨Nat.le_of_ble_eq_true rfl, Nat.le_of_ble_eq_true rfl⟩ ⟨Nat.zero_le _, Nat.zero_le _⟩ hK hP hD hS hA [0, 1, 2, 3, 4, 5, 6, 7, 8, 9] rfl (by decide) 0 7 rfl rfl rfl hl.1 (rest := []) (As := [.int (nI m)]) rfl (Nat.le_of_ble_eq_true rfl) dX7_holds_16 (fun w1 H locs hpo hpd hS => ?_)
    obtain rfl := hpo
    obtain ⟨hP, hD⟩ := hpd [(o, .inr (7, [.ref ia, .ref wa, .ref ha, .ref oa, .ref ga, .ref ca, .ref ma, .ref ba, .ref ka, .int (oI (hnt)), .int (nI gd), .int (nI 0)])), (ia, .inl (gI g, 4, .inl (rM (idn)))), (wa, .inl (gI g, 20, .inl (rM (wd)))), (ha, .inl (gZ g, 400, .inl (rB (hs)))), (oa, .inl (gZ g, 400, .inl (rB (clB ch m ho hs)))), (ga, .inl (gI g, 32, .inl (rM (gr)))), (ca, .inl (gI g, 16, .inl (rO (ch)))), (ma, .inl (gI g, 5, .inl (rO (mt)))), (ba, .inl (gI g, 5, .inl (rO (bs)))), (ka, .inl (gI g, 5, .inl (rO (bk))))] [] 10 rfl rfl [] rfl rfl (by decide) (by decide)
    refine lv_aload_n hx hb dX7_holds_19 rfl (lv_at hl 0 rfl) ?_
    refine va_get (D := g.1) (ci := 7) (v := .ref oa) (C := RX7) (T := TX7) (N := 12) hx hb hts (fun _ h => (List.mem_cons_of_mem _ (List.mem_append_right _ h))) hown hK.1 hP 0 rfl rfl 3 (by decide) (hts _ (List.mem_cons_of_mem _ (List.mem_append_left _ (List.mem_append_left _ (List.mem_of_getElem? (i := 0) rfl))))) (fun _ h9 => h9) rfl dX7_holds_20 ?_
    refine lv_iload_n hx hb dX7_holds_23 rfl (lv_at hl 1 rfl) ?_
    refine lv_iload_n hx hb dX7_holds_24 rfl (lv_at hl 2 rfl) ?_
    refine lv_iload_n hx hb dX7_holds_25 rfl (lv_at hl 3 rfl) ?_
    refine lv_iload hx hb dX7_holds_26 (lv_at hl 4 rfl) ?_
    refine im_S (k := 4) hx hb hml hown hts (c_X7_at l g (m) (f) (t) (d)) gX7_holds_X7_at rfl (by decide +kernel) ⟨Nat.le_of_ble_eq_true rfl, Nat.le_of_ble_eq_true rfl⟩ ⟨Nat.zero_le _, Nat.zero_le _⟩ hK hP hD hS hA [] rfl (by decide) rfl hl.1 (rest := [.ref oa]) (As := [.int (nI m), .int (nI f), .int (nI t), .int (nI d)]) rfl (Nat.le_of_ble_eq_true rfl) dX7_holds_28 (fun x1 w1 H locs hpo hpd hS => ?_)
    obtain ⟨hx1, rfl⟩ := hpo
    have hx1 : x1 = nI (atF m f t d) := hx1
    subst hx1
    obtain ⟨hP, hD⟩ := hpd [(o, .inr (7, [.ref ia, .ref wa, .ref ha, .ref oa, .ref ga, .ref ca, .ref ma, .ref ba, .ref ka, .int (oI (hnt)), .int (nI gd), .int (nI 0)])), (ia, .inl (gI g, 4, .inl (rM (idn)))), (wa, .inl (gI g, 20, .inl (rM (wd)))), (ha, .inl (gZ g, 400, .inl (rB (hs)))), (oa, .inl (gZ g, 400, .inl (rB (clB ch m ho hs)))), (ga, .inl (gI g, 32, .inl (rM (gr)))), (ca, .inl (gI g, 16, .inl (rO (ch)))), (ma, .inl (gI g, 5, .inl (rO (mt)))), (ba, .inl (gI g, 5, .inl (rO (bs)))), (ka, .inl (gI g, 5, .inl (rO (bk))))] [0, 1, 2, 3, 4, 5, 6, 7, 8, 9] 10 rfl rfl [(o, .inr (7, [.ref ia, .ref wa, .ref ha, .ref oa, .ref ga, .ref ca, .ref ma, .ref ba, .ref ka, .int (oI (hnt)), .int (nI gd), .int (nI 0)])), (ia, .inl (gI g, 4, .inl (rM (idn)))), (wa, .inl (gI g, 20, .inl (rM (wd)))), (ha, .inl (gZ g, 400, .inl (rB (hs)))), (oa, .inl (gZ g, 400, .inl (rB (clB ch m ho hs)))), (ga, .inl (gI g, 32, .inl (rM (gr)))), (ca, .inl (gI g, 16, .inl (rO (ch)))), (ma, .inl (gI g, 5, .inl (rO (mt)))), (ba, .inl (gI g, 5, .inl (rO (bs)))), (ka, .inl (gI g, 5, .inl (rO (bk))))] rfl rfl (by decide) (by decide)
    refine nv_zald (v := b2i ((clB ch m ho hs) (atF m f t d))) hx hb hK hP 4 rfl (by unfold atF; omega) (by decide) rfl dX7_holds_31 ?_
    exact im_retz (w1 := [(o, .inr (7, [.ref ia, .ref wa, .ref ha, .ref oa, .ref ga, .ref ca, .ref ma, .ref ba, .ref ka, .int (oI (hnt)), .int (nI gd), .int (nI 0)])), (ia, .inl (gI g, 4, .inl (rM (idn)))), (wa, .inl (gI g, 20, .inl (rM (wd)))), (ha, .inl (gZ g, 400, .inl (rB (hs)))), (oa, .inl (gZ g, 400, .inl (rB (clB ch m ho hs)))), (ga, .inl (gI g, 32, .inl (rM (gr)))), (ca, .inl (gI g, 16, .inl (rO (ch)))), (ma, .inl (gI g, 5, .inl (rO (mt)))), (ba, .inl (gI g, 5, .inl (rO (bs)))), (ka, .inl (gI g, 5, .inl (rO (bk))))]) (v := b2i ((clB ch m ho hs) (atF m f t d))) hx hb hr hlocks hP hS rfl ⟨rfl, rfl⟩ (by first | exact b2i_nar _ | rfl) dX7_holds_32
  · skip
    exfalso; first | exact c_1 | omega | (simp at c_1; done) | (exact absurd c_1 (by simp))

set_option maxRecDepth 100000 in
set_option maxHeartbeats 4000000 in
theorem c_X7_holds_bad (l : Launch) (g : GG) (o ia wa ha oa ga ca ma ba ka : Nat) (idn wd : Nat → Nat) (hs ho : Nat → Bool) (gr : Nat → Nat) (ch mt bs bk : Nat → Option Nat) (hnt : Option Nat) (gd tn : Nat) (v a1 b1 d1 : Int32) (r9 : Nat) (hr9 : lkBad idn v a1 b1 d1 = r9) (hr0 : r9 ≠ 0) (hq5 : ∀ m, idn m ≤ 5) : IM l yX7_holds wsX7_holds 4 g [.ref o, .int (v), .int (a1), .int (b1), .int (d1)] [(o, .inr (7, [.ref ia, .ref wa, .ref ha, .ref oa, .ref ga, .ref ca, .ref ma, .ref ba, .ref ka, .int (oI (hnt)), .int (nI gd), .int (nI tn)])), (ia, .inl (gI g, 4, .inl (rM (idn)))), (wa, .inl (gI g, 20, .inl (rM (wd)))), (ha, .inl (gZ g, 400, .inl (rB (hs)))), (oa, .inl (gZ g, 400, .inl (rB (ho)))), (ga, .inl (gI g, 32, .inl (rM (gr)))), (ca, .inl (gI g, 16, .inl (rO (ch)))), (ma, .inl (gI g, 5, .inl (rO (mt)))), (ba, .inl (gI g, 5, .inl (rO (bs)))), (ka, .inl (gI g, 5, .inl (rO (bk))))] (fun x1 w1 => x1 = b2i false ∧ w1 = [(o, .inr (7, [.ref ia, .ref wa, .ref ha, .ref oa, .ref ga, .ref ca, .ref ma, .ref ba, .ref ka, .int (oI (hnt)), .int (nI gd), .int (nI r9)])), (ia, .inl (gI g, 4, .inl (rM (idn)))), (wa, .inl (gI g, 20, .inl (rM (wd)))), (ha, .inl (gZ g, 400, .inl (rB (hs)))), (oa, .inl (gZ g, 400, .inl (rB (ho)))), (ga, .inl (gI g, 32, .inl (rM (gr)))), (ca, .inl (gI g, 16, .inl (rO (ch)))), (ma, .inl (gI g, 5, .inl (rO (mt)))), (ba, .inl (gI g, 5, .inl (rO (bs)))), (ka, .inl (gI g, 5, .inl (rO (bk))))]) := by
  refine fun sz => im_body (Qc := fun A => va_Qi _ (iB g _) A) (cc := cX7_holds) (maxL := 5) (ret := (some .boolean)) (by decide) rfl (Nat.le_of_ble_eq_true rfl) ?_ sz
  intro pg ev s0 mi below meth cd A hx hb hr hml hts hown hlocks hK hA H hP hD hS ls hl
  have hl : lv_has ls 5 [(0, .ref o), (1, .int (v)), (2, .int (a1)), (3, .int (b1)), (4, .int (d1))] := hl
  refine lv_aload_n hx hb dX7_holds_0 rfl (lv_at hl 0 rfl) ?_
  refine lv_iload_n hx hb dX7_holds_1 rfl (lv_at hl 1 rfl) ?_
  refine lv_iload_n hx hb dX7_holds_2 rfl (lv_at hl 2 rfl) ?_
  refine lv_iload_n hx hb dX7_holds_3 rfl (lv_at hl 3 rfl) ?_
  refine lv_iload hx hb dX7_holds_4 (lv_at hl 4 rfl) ?_
  refine im_V (k := 4) hx hb hml hown hts (c_X7_asksLink_bad l g o ia wa ha oa ga ca ma ba ka (idn) (wd) (hs) (ho) (gr) (ch) (mt) (bs) (bk) (hnt) (gd) (tn) (v) (a1) (b1) (d1) r9 hr9 hr0 hq5) gX7_holds_X7_asksLink rfl (by decide +kernel) ⟨Nat.le_of_ble_eq_true rfl, Nat.le_of_ble_eq_true rfl⟩ ⟨Nat.zero_le _, Nat.zero_le _⟩ hK hP hD hS hA [0, 1, 2, 3, 4, 5, 6, 7, 8, 9] rfl (by decide) 0 7 rfl rfl rfl hl.1 (rest := []) (As := [.int (v), .int (a1), .int (b1), .int (d1)]) rfl (Nat.le_of_ble_eq_true rfl) dX7_holds_6 (fun x1 w1 H locs hpo hpd hS => ?_)
  obtain ⟨hx1, rfl⟩ := hpo
  have hx1 : x1 = b2i (false) := hx1
  subst hx1
  obtain ⟨hP, hD⟩ := hpd [(o, .inr (7, [.ref ia, .ref wa, .ref ha, .ref oa, .ref ga, .ref ca, .ref ma, .ref ba, .ref ka, .int (oI (hnt)), .int (nI gd), .int (nI r9)])), (ia, .inl (gI g, 4, .inl (rM (idn)))), (wa, .inl (gI g, 20, .inl (rM (wd)))), (ha, .inl (gZ g, 400, .inl (rB (hs)))), (oa, .inl (gZ g, 400, .inl (rB (ho)))), (ga, .inl (gI g, 32, .inl (rM (gr)))), (ca, .inl (gI g, 16, .inl (rO (ch)))), (ma, .inl (gI g, 5, .inl (rO (mt)))), (ba, .inl (gI g, 5, .inl (rO (bs)))), (ka, .inl (gI g, 5, .inl (rO (bk))))] [] 10 rfl rfl [] rfl rfl (by decide) (by decide)
  refine bv_if_ne (tgt := 14) hx hb dX7_holds_9 (by decide) (fun c_1 => ?_) (fun c_1 => ?_)
  · skip
    exfalso; first | exact c_1 | omega | (simp at c_1; done) | (exact absurd c_1 (by simp))
  · skip
    refine lv_iconst (v := nI (0)) hx hb dX7_holds_12 (by decide) ?_
    exact im_retz (w1 := [(o, .inr (7, [.ref ia, .ref wa, .ref ha, .ref oa, .ref ga, .ref ca, .ref ma, .ref ba, .ref ka, .int (oI (hnt)), .int (nI gd), .int (nI r9)])), (ia, .inl (gI g, 4, .inl (rM (idn)))), (wa, .inl (gI g, 20, .inl (rM (wd)))), (ha, .inl (gZ g, 400, .inl (rB (hs)))), (oa, .inl (gZ g, 400, .inl (rB (ho)))), (ga, .inl (gI g, 32, .inl (rM (gr)))), (ca, .inl (gI g, 16, .inl (rO (ch)))), (ma, .inl (gI g, 5, .inl (rO (mt)))), (ba, .inl (gI g, 5, .inl (rO (bs)))), (ka, .inl (gI g, 5, .inl (rO (bk))))]) (v := nI (0)) hx hb hr hlocks hP hS rfl ⟨rfl, rfl⟩ (by first | exact b2i_nar _ | rfl) dX7_holds_13

set_option maxRecDepth 100000 in
set_option maxHeartbeats 4000000 in
theorem c_X7_clear (l : Launch) (g : GG) (o ia wa ha oa ga ca ma ba ka : Nat) (idn wd : Nat → Nat) (hs ho : Nat → Bool) (gr : Nat → Nat) (ch mt bs bk : Nat → Option Nat) (hnt : Option Nat) (gd tn : Nat) (m : Nat) (hm : m < 4) (hq5 : idn m ≤ 5) : IM l yX7_clear wsX7_clear 2 g [.ref o, .int (nI m)] [(o, .inr (7, [.ref ia, .ref wa, .ref ha, .ref oa, .ref ga, .ref ca, .ref ma, .ref ba, .ref ka, .int (oI (hnt)), .int (nI gd), .int (nI tn)])), (ia, .inl (gI g, 4, .inl (rM (idn)))), (wa, .inl (gI g, 20, .inl (rM (wd)))), (ha, .inl (gZ g, 400, .inl (rB (hs)))), (oa, .inl (gZ g, 400, .inl (rB (ho)))), (ga, .inl (gI g, 32, .inl (rM (gr)))), (ca, .inl (gI g, 16, .inl (rO (ch)))), (ma, .inl (gI g, 5, .inl (rO (mt)))), (ba, .inl (gI g, 5, .inl (rO (bs)))), (ka, .inl (gI g, 5, .inl (rO (bk))))] (fun x1 w1 => x1 = nI (idn m + cntB hs (100 * m) 100) ∧ w1 = [(o, .inr (7, [.ref ia, .ref wa, .ref ha, .ref oa, .ref ga, .ref ca, .ref ma, .ref ba, .ref ka, .int (oI (hnt)), .int (nI gd), .int (nI 0)])), (ia, .inl (gI g, 4, .inl (rM (va_up idn m 0)))), (wa, .inl (gI g, 20, .inl (rM (wd)))), (ha, .inl (gZ g, 400, .inl (rB (cpB hs (fun _ => false) (100 * m) 100)))), (oa, .inl (gZ g, 400, .inl (rB (ho)))), (ga, .inl (gI g, 32, .inl (rM (gr)))), (ca, .inl (gI g, 16, .inl (rO (ch)))), (ma, .inl (gI g, 5, .inl (rO (mt)))), (ba, .inl (gI g, 5, .inl (rO (bs)))), (ka, .inl (gI g, 5, .inl (rO (bk))))]) := by
  refine fun sz => im_body (Qc := fun A => va_Qi _ (iB g _) A) (cc := cX7_clear) (maxL := 4) (ret := (some .int)) (by decide) rfl (Nat.le_of_ble_eq_true rfl) ?_ sz
  intro pg ev s0 mi below meth cd A hx hb hr hml hts hown hlocks hK hA H hP hD hS ls hl
  have hl : lv_has ls 4 [(0, .ref o), (1, .int (nI m))] := hl
  refine lv_aload_n hx hb dX7_clear_0 rfl (lv_at hl 0 rfl) ?_
  refine lv_iload_n hx hb dX7_clear_1 rfl (lv_at hl 1 rfl) ?_
  refine im_S (k := 1) hx hb hml hown hts (c_X7_isMap l g (nI (m))) gX7_clear_X7_isMap rfl (by decide +kernel) ⟨Nat.le_of_ble_eq_true rfl, Nat.le_of_ble_eq_true rfl⟩ ⟨Nat.zero_le _, Nat.zero_le _⟩ hK hP hD hS hA [] rfl (by decide) rfl hl.1 (rest := [.ref o]) (As := [.int (nI m)]) rfl (Nat.le_of_ble_eq_true rfl) dX7_clear_2 (fun x1 w1 H locs hpo hpd hS => ?_)
  obtain ⟨hx1, rfl⟩ := hpo
  rw [inR_nI (by omega) (by decide)] at hx1
  have hx1 : x1 = b2i (true) := hx1
  subst hx1
  obtain ⟨hP, hD⟩ := hpd [(o, .inr (7, [.ref ia, .ref wa, .ref ha, .ref oa, .ref ga, .ref ca, .ref ma, .ref ba, .ref ka, .int (oI (hnt)), .int (nI gd), .int (nI tn)])), (ia, .inl (gI g, 4, .inl (rM (idn)))), (wa, .inl (gI g, 20, .inl (rM (wd)))), (ha, .inl (gZ g, 400, .inl (rB (hs)))), (oa, .inl (gZ g, 400, .inl (rB (ho)))), (ga, .inl (gI g, 32, .inl (rM (gr)))), (ca, .inl (gI g, 16, .inl (rO (ch)))), (ma, .inl (gI g, 5, .inl (rO (mt)))), (ba, .inl (gI g, 5, .inl (rO (bs)))), (ka, .inl (gI g, 5, .inl (rO (bk))))] [0, 1, 2, 3, 4, 5, 6, 7, 8, 9] 10 rfl rfl [(o, .inr (7, [.ref ia, .ref wa, .ref ha, .ref oa, .ref ga, .ref ca, .ref ma, .ref ba, .ref ka, .int (oI (hnt)), .int (nI gd), .int (nI tn)])), (ia, .inl (gI g, 4, .inl (rM (idn)))), (wa, .inl (gI g, 20, .inl (rM (wd)))), (ha, .inl (gZ g, 400, .inl (rB (hs)))), (oa, .inl (gZ g, 400, .inl (rB (ho)))), (ga, .inl (gI g, 32, .inl (rM (gr)))), (ca, .inl (gI g, 16, .inl (rO (ch)))), (ma, .inl (gI g, 5, .inl (rO (mt)))), (ba, .inl (gI g, 5, .inl (rO (bs)))), (ka, .inl (gI g, 5, .inl (rO (bk))))] rfl rfl (by decide) (by decide)
  refine im_V (k := 1) hx hb hml hown hts (c_X7_asks_t l g o ia wa ha oa ga ca ma ba ka (idn) (wd) (hs) (ho) (gr) (ch) (mt) (bs) (bk) (hnt) (gd) (tn)) gX7_clear_X7_asks rfl (by decide +kernel) ⟨Nat.le_of_ble_eq_true rfl, Nat.le_of_ble_eq_true rfl⟩ ⟨Nat.zero_le _, Nat.zero_le _⟩ hK hP hD hS hA [0, 1, 2, 3, 4, 5, 6, 7, 8, 9] rfl (by decide) 0 7 rfl rfl rfl hl.1 (rest := []) (As := [.int (b2i (true))]) rfl (Nat.le_of_ble_eq_true rfl) dX7_clear_5 (fun x1 w1 H locs hpo hpd hS => ?_)
  obtain ⟨hx1, rfl⟩ := hpo
  have hx1 : x1 = b2i (true) := hx1
  subst hx1
  obtain ⟨hP, hD⟩ := hpd [(o, .inr (7, [.ref ia, .ref wa, .ref ha, .ref oa, .ref ga, .ref ca, .ref ma, .ref ba, .ref ka, .int (oI (hnt)), .int (nI gd), .int (nI 0)])), (ia, .inl (gI g, 4, .inl (rM (idn)))), (wa, .inl (gI g, 20, .inl (rM (wd)))), (ha, .inl (gZ g, 400, .inl (rB (hs)))), (oa, .inl (gZ g, 400, .inl (rB (ho)))), (ga, .inl (gI g, 32, .inl (rM (gr)))), (ca, .inl (gI g, 16, .inl (rO (ch)))), (ma, .inl (gI g, 5, .inl (rO (mt)))), (ba, .inl (gI g, 5, .inl (rO (bs)))), (ka, .inl (gI g, 5, .inl (rO (bk))))] [] 10 rfl rfl [] rfl rfl (by decide) (by decide)
  refine bv_if_ne (tgt := 13) hx hb dX7_clear_8 (by decide) (fun c_1 => ?_) (fun c_1 => ?_)
  · skip
    refine lv_aload_n hx hb dX7_clear_13 rfl (lv_at hl 0 rfl) ?_
    refine va_get (D := g.1) (ci := 7) (v := .ref ia) (C := RX7) (T := TX7) (N := 12) hx hb hts (fun _ h => (List.mem_cons_of_mem _ (List.mem_append_right _ h))) hown hK.1 hP 0 rfl rfl 0 (by decide) (hts _ (List.mem_cons_of_mem _ (List.mem_append_left _ (List.mem_of_getElem? (i := 0) rfl)))) (fun _ h9 => h9) rfl dX7_clear_14 ?_
    refine lv_iload_n hx hb dX7_clear_17 rfl (lv_at hl 1 rfl) ?_
    refine nv_iald (v := nI (idn m)) hx hb hK hP 1 rfl (by omega) (by decide) rfl dX7_clear_18 ?_
    refine lv_aload_n hx hb dX7_clear_19 rfl (lv_at hl 0 rfl) ?_
    refine lv_iload_n hx hb dX7_clear_20 rfl (lv_at hl 1 rfl) ?_
    refine im_V (k := 1) hx hb hml hown hts (c_X7_linksOf l g o ia wa ha oa ga ca ma ba ka (idn) (wd) (hs) (ho) (gr) (ch) (mt) (bs) (bk) (hnt) (gd) (0) (m) (by omega)) gX7_clear_X7_linksOf rfl (by decide +kernel) ⟨Nat.le_of_ble_eq_true rfl, Nat.le_of_ble_eq_true rfl⟩ ⟨Nat.zero_le _, Nat.zero_le _⟩ hK hP hD hS hA [0, 1, 2, 3, 4, 5, 6, 7, 8, 9] rfl (by decide) 0 7 rfl rfl rfl hl.1 (rest := [.int (nI (idn m))]) (As := [.int (nI m)]) rfl (Nat.le_of_ble_eq_true rfl) dX7_clear_21 (fun x1 w1 H locs hpo hpd hS => ?_)
    obtain ⟨hx1, rfl⟩ := hpo
    have hx1 : x1 = nI (cntB hs (100 * m) 100) := hx1
    subst hx1
    obtain ⟨hP, hD⟩ := hpd [(o, .inr (7, [.ref ia, .ref wa, .ref ha, .ref oa, .ref ga, .ref ca, .ref ma, .ref ba, .ref ka, .int (oI (hnt)), .int (nI gd), .int (nI 0)])), (ia, .inl (gI g, 4, .inl (rM (idn)))), (wa, .inl (gI g, 20, .inl (rM (wd)))), (ha, .inl (gZ g, 400, .inl (rB (hs)))), (oa, .inl (gZ g, 400, .inl (rB (ho)))), (ga, .inl (gI g, 32, .inl (rM (gr)))), (ca, .inl (gI g, 16, .inl (rO (ch)))), (ma, .inl (gI g, 5, .inl (rO (mt)))), (ba, .inl (gI g, 5, .inl (rO (bs)))), (ka, .inl (gI g, 5, .inl (rO (bk))))] [] 10 rfl rfl [] rfl rfl (by decide) (by decide)
    refine nv_iadd hx hb dX7_clear_24 ?_
    refine lv_istore_n (lv' := [(2, .int (nI ((idn m) + (cntB hs (100 * m) 100)))), (0, .ref o), (1, .int (nI m))]) hx hb dX7_clear_25 rfl hl (by decide) rfl (fun ls hl => ?_)
    refine lv_aload_n hx hb dX7_clear_26 rfl (lv_at hl 1 rfl) ?_
    refine va_get (D := g.1) (ci := 7) (v := .ref ia) (C := RX7) (T := TX7) (N := 12) hx hb hts (fun _ h => (List.mem_cons_of_mem _ (List.mem_append_right _ h))) hown hK.1 hP 0 rfl rfl 0 (by decide) (hts _ (List.mem_cons_of_mem _ (List.mem_append_left _ (List.mem_of_getElem? (i := 0) rfl)))) (fun _ h9 => h9) rfl dX7_clear_27 ?_
    refine lv_iload_n hx hb dX7_clear_30 rfl (lv_at hl 2 rfl) ?_
    refine lv_iconst (v := nI (0)) hx hb dX7_clear_31 (by decide) ?_
    refine nv_iast (f' := rM (va_up idn m 0)) hx hb hK hP hD hS 1 rfl (by omega) (by decide) (upd_rM _ _ _) dX7_clear_32 (fun H locs hP hD hS => ?_)
    have hP : va_P g.1 vwCl [(o, .inr (7, [.ref ia, .ref wa, .ref ha, .ref oa, .ref ga, .ref ca, .ref ma, .ref ba, .ref ka, .int (oI (hnt)), .int (nI gd), .int (nI 0)])), (ia, .inl (gI g, 4, .inl (rM (va_up idn m 0)))), (wa, .inl (gI g, 20, .inl (rM (wd)))), (ha, .inl (gZ g, 400, .inl (rB (hs)))), (oa, .inl (gZ g, 400, .inl (rB (ho)))), (ga, .inl (gI g, 32, .inl (rM (gr)))), (ca, .inl (gI g, 16, .inl (rO (ch)))), (ma, .inl (gI g, 5, .inl (rO (mt)))), (ba, .inl (gI g, 5, .inl (rO (bs)))), (ka, .inl (gI g, 5, .inl (rO (bk))))] H := hP
    have hD : va_D A [(o, .inr (7, [.ref ia, .ref wa, .ref ha, .ref oa, .ref ga, .ref ca, .ref ma, .ref ba, .ref ka, .int (oI (hnt)), .int (nI gd), .int (nI 0)])), (ia, .inl (gI g, 4, .inl (rM (va_up idn m 0)))), (wa, .inl (gI g, 20, .inl (rM (wd)))), (ha, .inl (gZ g, 400, .inl (rB (hs)))), (oa, .inl (gZ g, 400, .inl (rB (ho)))), (ga, .inl (gI g, 32, .inl (rM (gr)))), (ca, .inl (gI g, 16, .inl (rO (ch)))), (ma, .inl (gI g, 5, .inl (rO (mt)))), (ba, .inl (gI g, 5, .inl (rO (bs)))), (ka, .inl (gI g, 5, .inl (rO (bk))))] := hD
    refine lv_bipush (v := nI (100)) hx hb dX7_clear_33 (by decide) ?_
    refine lv_iload_n hx hb dX7_clear_35 rfl (lv_at hl 2 rfl) ?_
    refine nv_imul hx hb dX7_clear_36 ?_
    refine lv_istore_n (lv' := [(3, .int (nI (100 * m))), (2, .int (nI ((idn m) + (cntB hs (100 * m) 100)))), (0, .ref o), (1, .int (nI m))]) hx hb dX7_clear_37 rfl hl (by decide) rfl (fun ls hl => ?_)
    have lp : ∀ (k9 : Nat) (i : Nat) (hi : i ≤ 100) , 100 - i < k9 → ∀ (H : Heap) (locs : List Loc), va_P g.1 vwCl [(o, .inr (7, [.ref ia, .ref wa, .ref ha, .ref oa, .ref ga, .ref ca, .ref ma, .ref ba, .ref ka, .int (oI (hnt)), .int (nI gd), .int (nI 0)])), (ia, .inl (gI g, 4, .inl (rM (va_up idn m 0)))), (wa, .inl (gI g, 20, .inl (rM (wd)))), (ha, .inl (gZ g, 400, .inl (rB (cpB hs (fun _ => false) (100 * m) i)))), (oa, .inl (gZ g, 400, .inl (rB (ho)))), (ga, .inl (gI g, 32, .inl (rM (gr)))), (ca, .inl (gI g, 16, .inl (rO (ch)))), (ma, .inl (gI g, 5, .inl (rO (mt)))), (ba, .inl (gI g, 5, .inl (rO (bs)))), (ka, .inl (gI g, 5, .inl (rO (bk))))] H → va_D A [(o, .inr (7, [.ref ia, .ref wa, .ref ha, .ref oa, .ref ga, .ref ca, .ref ma, .ref ba, .ref ka, .int (oI (hnt)), .int (nI gd), .int (nI 0)])), (ia, .inl (gI g, 4, .inl (rM (va_up idn m 0)))), (wa, .inl (gI g, 20, .inl (rM (wd)))), (ha, .inl (gZ g, 400, .inl (rB (cpB hs (fun _ => false) (100 * m) i)))), (oa, .inl (gZ g, 400, .inl (rB (ho)))), (ga, .inl (gI g, 32, .inl (rM (gr)))), (ca, .inl (gI g, 16, .inl (rO (ch)))), (ma, .inl (gI g, 5, .inl (rO (mt)))), (ba, .inl (gI g, 5, .inl (rO (bs)))), (ka, .inl (gI g, 5, .inl (rO (bk))))] → va_S A s0.heap H locs → ∀ ls : Array Slot, lv_has ls 4 [(3, .int (nI (100 * m + i))), (2, .int (nI (idn m + cntB hs (100 * m) 100))), (0, .ref o), (1, .int (nI m))] → W pg l ev (rmL 2) s0 mi ([.ref o, .int (nI m)] : List Value).toArray below meth cd H locs 0 0 (MQ below (va_Qi (fun x1 w1 => x1 = nI (idn m + cntB hs (100 * m) 100) ∧ w1 = [(o, .inr (7, [.ref ia, .ref wa, .ref ha, .ref oa, .ref ga, .ref ca, .ref ma, .ref ba, .ref ka, .int (oI (hnt)), .int (nI gd), .int (nI 0)])), (ia, .inl (gI g, 4, .inl (rM (va_up idn m 0)))), (wa, .inl (gI g, 20, .inl (rM (wd)))), (ha, .inl (gZ g, 400, .inl (rB (cpB hs (fun _ => false) (100 * m) 100)))), (oa, .inl (gZ g, 400, .inl (rB (ho)))), (ga, .inl (gI g, 32, .inl (rM (gr)))), (ca, .inl (gI g, 16, .inl (rO (ch)))), (ma, .inl (gI g, 5, .inl (rO (mt)))), (ba, .inl (gI g, 5, .inl (rO (bs)))), (ka, .inl (gI g, 5, .inl (rO (bk))))]) (iB g [(o, .inr (7, [.ref ia, .ref wa, .ref ha, .ref oa, .ref ga, .ref ca, .ref ma, .ref ba, .ref ka, .int (oI (hnt)), .int (nI gd), .int (nI tn)])), (ia, .inl (gI g, 4, .inl (rM (idn)))), (wa, .inl (gI g, 20, .inl (rM (wd)))), (ha, .inl (gZ g, 400, .inl (rB (hs)))), (oa, .inl (gZ g, 400, .inl (rB (ho)))), (ga, .inl (gI g, 32, .inl (rM (gr)))), (ca, .inl (gI g, 16, .inl (rO (ch)))), (ma, .inl (gI g, 5, .inl (rO (mt)))), (ba, .inl (gI g, 5, .inl (rO (bs)))), (ka, .inl (gI g, 5, .inl (rO (bk))))]) A) ([.ref o, .int (nI m)] : List Value).toArray s0 0 0 A) (F0 mi 38 ls []) := by
      intro k9
      induction k9 with
      | zero => intros; omega
      | succ k9 lp_ih =>
        intro i hi hmz H locs hP hD hS ls hl
        refine lv_iload_n hx hb dX7_clear_38 rfl (lv_at hl 0 rfl) ?_
        refine lv_bipush (v := nI (100)) hx hb dX7_clear_39 (by decide) ?_
        refine lv_iload_n hx hb dX7_clear_41 rfl (lv_at hl 3 rfl) ?_
        refine nv_imul hx hb dX7_clear_42 ?_
        refine lv_bipush (v := nI (100)) hx hb dX7_clear_43 (by decide) ?_
        refine nv_iadd hx hb dX7_clear_45 ?_
        refine nv_icmp_ge (tgt := 62) hx hb (by omega) (by omega) dX7_clear_46 (by decide) (fun c_2 => ?_) (fun c_2 => ?_)
        · skip
          have ei : i = 100 := by omega
          subst ei
          refine lv_iload_n hx hb dX7_clear_62 rfl (lv_at hl 1 rfl) ?_
          exact im_ret (w1 := [(o, .inr (7, [.ref ia, .ref wa, .ref ha, .ref oa, .ref ga, .ref ca, .ref ma, .ref ba, .ref ka, .int (oI (hnt)), .int (nI gd), .int (nI 0)])), (ia, .inl (gI g, 4, .inl (rM (va_up idn m 0)))), (wa, .inl (gI g, 20, .inl (rM (wd)))), (ha, .inl (gZ g, 400, .inl (rB (cpB hs (fun _ => false) (100 * m) 100)))), (oa, .inl (gZ g, 400, .inl (rB (ho)))), (ga, .inl (gI g, 32, .inl (rM (gr)))), (ca, .inl (gI g, 16, .inl (rO (ch)))), (ma, .inl (gI g, 5, .inl (rO (mt)))), (ba, .inl (gI g, 5, .inl (rO (bs)))), (ka, .inl (gI g, 5, .inl (rO (bk))))]) (v := nI (idn m + cntB hs (100 * m) 100)) hx hb hr hlocks hP hS rfl ⟨rfl, rfl⟩ dX7_clear_63
        · skip
          refine lv_aload_n hx hb dX7_clear_49 rfl (lv_at hl 2 rfl) ?_
          refine va_get (D := g.1) (ci := 7) (v := .ref ha) (C := RX7) (T := TX7) (N := 12) hx hb hts (fun _ h => (List.mem_cons_of_mem _ (List.mem_append_right _ h))) hown hK.1 hP 0 rfl rfl 2 (by decide) (hts _ (List.mem_cons_of_mem _ (List.mem_append_left _ (List.mem_of_getElem? (i := 1) rfl)))) (fun _ h9 => h9) rfl dX7_clear_50 ?_
          refine lv_iload_n hx hb dX7_clear_53 rfl (lv_at hl 0 rfl) ?_
          refine lv_iconst (v := nI (0)) hx hb dX7_clear_54 (by decide) ?_
          refine nv_zast (v := false) (f' := rB (va_up (cpB hs (fun _ => false) (100 * m) i) (100 * m + i) (false))) hx hb hK hP hD hS 3 rfl (by omega) (by decide) (upd_rB _ _ _) dX7_clear_55 (fun H locs hP hD hS => ?_)
          have hP : va_P g.1 vwCl [(o, .inr (7, [.ref ia, .ref wa, .ref ha, .ref oa, .ref ga, .ref ca, .ref ma, .ref ba, .ref ka, .int (oI (hnt)), .int (nI gd), .int (nI 0)])), (ia, .inl (gI g, 4, .inl (rM (va_up idn m 0)))), (wa, .inl (gI g, 20, .inl (rM (wd)))), (ha, .inl (gZ g, 400, .inl (rB (va_up (cpB hs (fun _ => false) (100 * m) i) (100 * m + i) (false))))), (oa, .inl (gZ g, 400, .inl (rB (ho)))), (ga, .inl (gI g, 32, .inl (rM (gr)))), (ca, .inl (gI g, 16, .inl (rO (ch)))), (ma, .inl (gI g, 5, .inl (rO (mt)))), (ba, .inl (gI g, 5, .inl (rO (bs)))), (ka, .inl (gI g, 5, .inl (rO (bk))))] H := hP
          have hD : va_D A [(o, .inr (7, [.ref ia, .ref wa, .ref ha, .ref oa, .ref ga, .ref ca, .ref ma, .ref ba, .ref ka, .int (oI (hnt)), .int (nI gd), .int (nI 0)])), (ia, .inl (gI g, 4, .inl (rM (va_up idn m 0)))), (wa, .inl (gI g, 20, .inl (rM (wd)))), (ha, .inl (gZ g, 400, .inl (rB (va_up (cpB hs (fun _ => false) (100 * m) i) (100 * m + i) (false))))), (oa, .inl (gZ g, 400, .inl (rB (ho)))), (ga, .inl (gI g, 32, .inl (rM (gr)))), (ca, .inl (gI g, 16, .inl (rO (ch)))), (ma, .inl (gI g, 5, .inl (rO (mt)))), (ba, .inl (gI g, 5, .inl (rO (bs)))), (ka, .inl (gI g, 5, .inl (rO (bk))))] := hD
          refine lv_iinc (v := nI ((100 * m + i) + 1)) (lv' := [(3, .int (nI ((100 * m + i) + 1))), (2, .int (nI (idn m + cntB hs (100 * m) 100))), (0, .ref o), (1, .int (nI m))]) hx hb dX7_clear_56 hl (k := 0) rfl (by show nI _ + _ = _; rw [show Int32.ofInt 1 = nI 1 from by decide, nI_add]) (by decide) rfl (fun ls hl => ?_)
          refine lv_goto (tgt := 38) hx hb dX7_clear_59 (by decide) ?_
          have eq_1 : ((100 * m + i) + 1) = (100 * m + (i + 1)) := by first | rfl | exact cpB_put _ (fun _ => false) _ _
          have eq_2 : (va_up (cpB hs (fun _ => false) (100 * m) i) (100 * m + i) (false)) = (cpB hs (fun _ => false) (100 * m) (i + 1)) := by first | rfl | exact cpB_put _ (fun _ => false) _ _
          have hl : lv_has ls 4 [(3, .int (nI (100 * m + (i + 1)))), (2, .int (nI (idn m + cntB hs (100 * m) 100))), (0, .ref o), (1, .int (nI m))] := by ((try rw [← eq_1]); (try rw [← eq_2]); exact hl)
          have hP : va_P g.1 vwCl [(o, .inr (7, [.ref ia, .ref wa, .ref ha, .ref oa, .ref ga, .ref ca, .ref ma, .ref ba, .ref ka, .int (oI (hnt)), .int (nI gd), .int (nI 0)])), (ia, .inl (gI g, 4, .inl (rM (va_up idn m 0)))), (wa, .inl (gI g, 20, .inl (rM (wd)))), (ha, .inl (gZ g, 400, .inl (rB (cpB hs (fun _ => false) (100 * m) (i + 1))))), (oa, .inl (gZ g, 400, .inl (rB (ho)))), (ga, .inl (gI g, 32, .inl (rM (gr)))), (ca, .inl (gI g, 16, .inl (rO (ch)))), (ma, .inl (gI g, 5, .inl (rO (mt)))), (ba, .inl (gI g, 5, .inl (rO (bs)))), (ka, .inl (gI g, 5, .inl (rO (bk))))] H := by ((try rw [← eq_1]); (try rw [← eq_2]); exact hP)
          have hD : va_D A [(o, .inr (7, [.ref ia, .ref wa, .ref ha, .ref oa, .ref ga, .ref ca, .ref ma, .ref ba, .ref ka, .int (oI (hnt)), .int (nI gd), .int (nI 0)])), (ia, .inl (gI g, 4, .inl (rM (va_up idn m 0)))), (wa, .inl (gI g, 20, .inl (rM (wd)))), (ha, .inl (gZ g, 400, .inl (rB (cpB hs (fun _ => false) (100 * m) (i + 1))))), (oa, .inl (gZ g, 400, .inl (rB (ho)))), (ga, .inl (gI g, 32, .inl (rM (gr)))), (ca, .inl (gI g, 16, .inl (rO (ch)))), (ma, .inl (gI g, 5, .inl (rO (mt)))), (ba, .inl (gI g, 5, .inl (rO (bs)))), (ka, .inl (gI g, 5, .inl (rO (bk))))] := by ((try rw [← eq_1]); (try rw [← eq_2]); exact hD)
          exact lp_ih (i + 1) (by omega)  (by omega) _ _ hP hD hS ls (lv_sub hl [0, 1, 2, 3] rfl)
    have eq_3 : (100 * m) = (100 * m + 0) := by first | rfl | exact (cpB_0 _ _ _).symm
    have eq_4 : ((idn m) + (cntB hs (100 * m) 100)) = (idn m + cntB hs (100 * m) 100) := by first | rfl | exact (cpB_0 _ _ _).symm
    have eq_5 : (hs) = (cpB hs (fun _ => false) (100 * m) 0) := by first | rfl | exact (cpB_0 _ _ _).symm
    have hl : lv_has ls 4 [(3, .int (nI (100 * m + 0))), (2, .int (nI (idn m + cntB hs (100 * m) 100))), (0, .ref o), (1, .int (nI m))] := by ((try rw [← eq_3]); (try rw [← eq_4]); (try rw [← eq_5]); exact hl)
    have hP : va_P g.1 vwCl [(o, .inr (7, [.ref ia, .ref wa, .ref ha, .ref oa, .ref ga, .ref ca, .ref ma, .ref ba, .ref ka, .int (oI (hnt)), .int (nI gd), .int (nI 0)])), (ia, .inl (gI g, 4, .inl (rM (va_up idn m 0)))), (wa, .inl (gI g, 20, .inl (rM (wd)))), (ha, .inl (gZ g, 400, .inl (rB (cpB hs (fun _ => false) (100 * m) 0)))), (oa, .inl (gZ g, 400, .inl (rB (ho)))), (ga, .inl (gI g, 32, .inl (rM (gr)))), (ca, .inl (gI g, 16, .inl (rO (ch)))), (ma, .inl (gI g, 5, .inl (rO (mt)))), (ba, .inl (gI g, 5, .inl (rO (bs)))), (ka, .inl (gI g, 5, .inl (rO (bk))))] H := by ((try rw [← eq_3]); (try rw [← eq_4]); (try rw [← eq_5]); exact hP)
    have hD : va_D A [(o, .inr (7, [.ref ia, .ref wa, .ref ha, .ref oa, .ref ga, .ref ca, .ref ma, .ref ba, .ref ka, .int (oI (hnt)), .int (nI gd), .int (nI 0)])), (ia, .inl (gI g, 4, .inl (rM (va_up idn m 0)))), (wa, .inl (gI g, 20, .inl (rM (wd)))), (ha, .inl (gZ g, 400, .inl (rB (cpB hs (fun _ => false) (100 * m) 0)))), (oa, .inl (gZ g, 400, .inl (rB (ho)))), (ga, .inl (gI g, 32, .inl (rM (gr)))), (ca, .inl (gI g, 16, .inl (rO (ch)))), (ma, .inl (gI g, 5, .inl (rO (mt)))), (ba, .inl (gI g, 5, .inl (rO (bs)))), (ka, .inl (gI g, 5, .inl (rO (bk))))] := by ((try rw [← eq_3]); (try rw [← eq_4]); (try rw [← eq_5]); exact hD)
    exact lp (100 + 1) 0 (Nat.zero_le _)  (by omega) _ _ hP hD hS ls (lv_sub hl [0, 1, 2, 3] rfl)
  · skip
    exfalso; first | exact c_1 | omega | (simp at c_1; done) | (exact absurd c_1 (by simp))

set_option maxRecDepth 100000 in
set_option maxHeartbeats 4000000 in
theorem c_X7_clear_bad (l : Launch) (g : GG) (o ia wa ha oa ga ca ma ba ka : Nat) (idn wd : Nat → Nat) (hs ho : Nat → Bool) (gr : Nat → Nat) (ch mt bs bk : Nat → Option Nat) (hnt : Option Nat) (gd tn : Nat) (v : Int32) (hbd : inR v 4 = false)  : IM l yX7_clear wsX7_clear 2 g [.ref o, .int (v)] [(o, .inr (7, [.ref ia, .ref wa, .ref ha, .ref oa, .ref ga, .ref ca, .ref ma, .ref ba, .ref ka, .int (oI (hnt)), .int (nI gd), .int (nI tn)])), (ia, .inl (gI g, 4, .inl (rM (idn)))), (wa, .inl (gI g, 20, .inl (rM (wd)))), (ha, .inl (gZ g, 400, .inl (rB (hs)))), (oa, .inl (gZ g, 400, .inl (rB (ho)))), (ga, .inl (gI g, 32, .inl (rM (gr)))), (ca, .inl (gI g, 16, .inl (rO (ch)))), (ma, .inl (gI g, 5, .inl (rO (mt)))), (ba, .inl (gI g, 5, .inl (rO (bs)))), (ka, .inl (gI g, 5, .inl (rO (bk))))] (fun x1 w1 => x1 = nI 0 ∧ w1 = [(o, .inr (7, [.ref ia, .ref wa, .ref ha, .ref oa, .ref ga, .ref ca, .ref ma, .ref ba, .ref ka, .int (oI (hnt)), .int (nI gd), .int (nI 1)])), (ia, .inl (gI g, 4, .inl (rM (idn)))), (wa, .inl (gI g, 20, .inl (rM (wd)))), (ha, .inl (gZ g, 400, .inl (rB (hs)))), (oa, .inl (gZ g, 400, .inl (rB (ho)))), (ga, .inl (gI g, 32, .inl (rM (gr)))), (ca, .inl (gI g, 16, .inl (rO (ch)))), (ma, .inl (gI g, 5, .inl (rO (mt)))), (ba, .inl (gI g, 5, .inl (rO (bs)))), (ka, .inl (gI g, 5, .inl (rO (bk))))]) := by
  refine fun sz => im_body (Qc := fun A => va_Qi _ (iB g _) A) (cc := cX7_clear) (maxL := 4) (ret := (some .int)) (by decide) rfl (Nat.le_of_ble_eq_true rfl) ?_ sz
  intro pg ev s0 mi below meth cd A hx hb hr hml hts hown hlocks hK hA H hP hD hS ls hl
  have hl : lv_has ls 4 [(0, .ref o), (1, .int (v))] := hl
  refine lv_aload_n hx hb dX7_clear_0 rfl (lv_at hl 0 rfl) ?_
  refine lv_iload_n hx hb dX7_clear_1 rfl (lv_at hl 1 rfl) ?_
  refine im_S (k := 1) hx hb hml hown hts (c_X7_isMap l g (v)) gX7_clear_X7_isMap rfl (by decide +kernel) ⟨Nat.le_of_ble_eq_true rfl, Nat.le_of_ble_eq_true rfl⟩ ⟨Nat.zero_le _, Nat.zero_le _⟩ hK hP hD hS hA [] rfl (by decide) rfl hl.1 (rest := [.ref o]) (As := [.int (v)]) rfl (Nat.le_of_ble_eq_true rfl) dX7_clear_2 (fun x1 w1 H locs hpo hpd hS => ?_)
  obtain ⟨hx1, rfl⟩ := hpo
  rw [hbd] at hx1
  have hx1 : x1 = b2i (false) := hx1
  subst hx1
  obtain ⟨hP, hD⟩ := hpd [(o, .inr (7, [.ref ia, .ref wa, .ref ha, .ref oa, .ref ga, .ref ca, .ref ma, .ref ba, .ref ka, .int (oI (hnt)), .int (nI gd), .int (nI tn)])), (ia, .inl (gI g, 4, .inl (rM (idn)))), (wa, .inl (gI g, 20, .inl (rM (wd)))), (ha, .inl (gZ g, 400, .inl (rB (hs)))), (oa, .inl (gZ g, 400, .inl (rB (ho)))), (ga, .inl (gI g, 32, .inl (rM (gr)))), (ca, .inl (gI g, 16, .inl (rO (ch)))), (ma, .inl (gI g, 5, .inl (rO (mt)))), (ba, .inl (gI g, 5, .inl (rO (bs)))), (ka, .inl (gI g, 5, .inl (rO (bk))))] [0, 1, 2, 3, 4, 5, 6, 7, 8, 9] 10 rfl rfl [(o, .inr (7, [.ref ia, .ref wa, .ref ha, .ref oa, .ref ga, .ref ca, .ref ma, .ref ba, .ref ka, .int (oI (hnt)), .int (nI gd), .int (nI tn)])), (ia, .inl (gI g, 4, .inl (rM (idn)))), (wa, .inl (gI g, 20, .inl (rM (wd)))), (ha, .inl (gZ g, 400, .inl (rB (hs)))), (oa, .inl (gZ g, 400, .inl (rB (ho)))), (ga, .inl (gI g, 32, .inl (rM (gr)))), (ca, .inl (gI g, 16, .inl (rO (ch)))), (ma, .inl (gI g, 5, .inl (rO (mt)))), (ba, .inl (gI g, 5, .inl (rO (bs)))), (ka, .inl (gI g, 5, .inl (rO (bk))))] rfl rfl (by decide) (by decide)
  refine im_V (k := 1) hx hb hml hown hts (c_X7_asks_f l g o ia wa ha oa ga ca ma ba ka (idn) (wd) (hs) (ho) (gr) (ch) (mt) (bs) (bk) (hnt) (gd) (tn)) gX7_clear_X7_asks rfl (by decide +kernel) ⟨Nat.le_of_ble_eq_true rfl, Nat.le_of_ble_eq_true rfl⟩ ⟨Nat.zero_le _, Nat.zero_le _⟩ hK hP hD hS hA [0, 1, 2, 3, 4, 5, 6, 7, 8, 9] rfl (by decide) 0 7 rfl rfl rfl hl.1 (rest := []) (As := [.int (b2i (false))]) rfl (Nat.le_of_ble_eq_true rfl) dX7_clear_5 (fun x1 w1 H locs hpo hpd hS => ?_)
  obtain ⟨hx1, rfl⟩ := hpo
  have hx1 : x1 = b2i (false) := hx1
  subst hx1
  obtain ⟨hP, hD⟩ := hpd [(o, .inr (7, [.ref ia, .ref wa, .ref ha, .ref oa, .ref ga, .ref ca, .ref ma, .ref ba, .ref ka, .int (oI (hnt)), .int (nI gd), .int (nI 1)])), (ia, .inl (gI g, 4, .inl (rM (idn)))), (wa, .inl (gI g, 20, .inl (rM (wd)))), (ha, .inl (gZ g, 400, .inl (rB (hs)))), (oa, .inl (gZ g, 400, .inl (rB (ho)))), (ga, .inl (gI g, 32, .inl (rM (gr)))), (ca, .inl (gI g, 16, .inl (rO (ch)))), (ma, .inl (gI g, 5, .inl (rO (mt)))), (ba, .inl (gI g, 5, .inl (rO (bs)))), (ka, .inl (gI g, 5, .inl (rO (bk))))] [] 10 rfl rfl [] rfl rfl (by decide) (by decide)
  refine bv_if_ne (tgt := 13) hx hb dX7_clear_8 (by decide) (fun c_1 => ?_) (fun c_1 => ?_)
  · skip
    exfalso; first | exact c_1 | omega | (simp at c_1; done) | (exact absurd c_1 (by simp))
  · skip
    refine lv_iconst (v := nI (0)) hx hb dX7_clear_11 (by decide) ?_
    exact im_ret (w1 := [(o, .inr (7, [.ref ia, .ref wa, .ref ha, .ref oa, .ref ga, .ref ca, .ref ma, .ref ba, .ref ka, .int (oI (hnt)), .int (nI gd), .int (nI 1)])), (ia, .inl (gI g, 4, .inl (rM (idn)))), (wa, .inl (gI g, 20, .inl (rM (wd)))), (ha, .inl (gZ g, 400, .inl (rB (hs)))), (oa, .inl (gZ g, 400, .inl (rB (ho)))), (ga, .inl (gI g, 32, .inl (rM (gr)))), (ca, .inl (gI g, 16, .inl (rO (ch)))), (ma, .inl (gI g, 5, .inl (rO (mt)))), (ba, .inl (gI g, 5, .inl (rO (bs)))), (ka, .inl (gI g, 5, .inl (rO (bk))))]) (v := nI (0)) hx hb hr hlocks hP hS rfl ⟨rfl, rfl⟩ dX7_clear_12

set_option maxRecDepth 100000 in
set_option maxHeartbeats 4000000 in
theorem c_X7_ideas (l : Launch) (g : GG) (o ia wa ha oa ga ca ma ba ka : Nat) (idn wd : Nat → Nat) (hs ho : Nat → Bool) (gr : Nat → Nat) (ch mt bs bk : Nat → Option Nat) (hnt : Option Nat) (gd tn : Nat) (m : Nat) (hm : m < 4) : IM l yX7_ideas wsX7_ideas 2 g [.ref o, .int (nI m)] [(o, .inr (7, [.ref ia, .ref wa, .ref ha, .ref oa, .ref ga, .ref ca, .ref ma, .ref ba, .ref ka, .int (oI (hnt)), .int (nI gd), .int (nI tn)])), (ia, .inl (gI g, 4, .inl (rM (idn)))), (wa, .inl (gI g, 20, .inl (rM (wd)))), (ha, .inl (gZ g, 400, .inl (rB (hs)))), (oa, .inl (gZ g, 400, .inl (rB (ho)))), (ga, .inl (gI g, 32, .inl (rM (gr)))), (ca, .inl (gI g, 16, .inl (rO (ch)))), (ma, .inl (gI g, 5, .inl (rO (mt)))), (ba, .inl (gI g, 5, .inl (rO (bs)))), (ka, .inl (gI g, 5, .inl (rO (bk))))] (fun x1 w1 => x1 = nI (idn m) ∧ w1 = [(o, .inr (7, [.ref ia, .ref wa, .ref ha, .ref oa, .ref ga, .ref ca, .ref ma, .ref ba, .ref ka, .int (oI (hnt)), .int (nI gd), .int (nI 0)])), (ia, .inl (gI g, 4, .inl (rM (idn)))), (wa, .inl (gI g, 20, .inl (rM (wd)))), (ha, .inl (gZ g, 400, .inl (rB (hs)))), (oa, .inl (gZ g, 400, .inl (rB (ho)))), (ga, .inl (gI g, 32, .inl (rM (gr)))), (ca, .inl (gI g, 16, .inl (rO (ch)))), (ma, .inl (gI g, 5, .inl (rO (mt)))), (ba, .inl (gI g, 5, .inl (rO (bs)))), (ka, .inl (gI g, 5, .inl (rO (bk))))]) := by
  refine fun sz => im_body (Qc := fun A => va_Qi _ (iB g _) A) (cc := cX7_ideas) (maxL := 2) (ret := (some .int)) (by decide) rfl (Nat.le_of_ble_eq_true rfl) ?_ sz
  intro pg ev s0 mi below meth cd A hx hb hr hml hts hown hlocks hK hA H hP hD hS ls hl
  have hl : lv_has ls 2 [(0, .ref o), (1, .int (nI m))] := hl
  refine lv_aload_n hx hb dX7_ideas_0 rfl (lv_at hl 0 rfl) ?_
  refine lv_iload_n hx hb dX7_ideas_1 rfl (lv_at hl 1 rfl) ?_
  refine im_S (k := 1) hx hb hml hown hts (c_X7_isMap l g (nI (m))) gX7_ideas_X7_isMap rfl (by decide +kernel) ⟨Nat.le_of_ble_eq_true rfl, Nat.le_of_ble_eq_true rfl⟩ ⟨Nat.zero_le _, Nat.zero_le _⟩ hK hP hD hS hA [] rfl (by decide) rfl hl.1 (rest := [.ref o]) (As := [.int (nI m)]) rfl (Nat.le_of_ble_eq_true rfl) dX7_ideas_2 (fun x1 w1 H locs hpo hpd hS => ?_)
  obtain ⟨hx1, rfl⟩ := hpo
  rw [inR_nI (by omega) (by decide)] at hx1
  have hx1 : x1 = b2i (true) := hx1
  subst hx1
  obtain ⟨hP, hD⟩ := hpd [(o, .inr (7, [.ref ia, .ref wa, .ref ha, .ref oa, .ref ga, .ref ca, .ref ma, .ref ba, .ref ka, .int (oI (hnt)), .int (nI gd), .int (nI tn)])), (ia, .inl (gI g, 4, .inl (rM (idn)))), (wa, .inl (gI g, 20, .inl (rM (wd)))), (ha, .inl (gZ g, 400, .inl (rB (hs)))), (oa, .inl (gZ g, 400, .inl (rB (ho)))), (ga, .inl (gI g, 32, .inl (rM (gr)))), (ca, .inl (gI g, 16, .inl (rO (ch)))), (ma, .inl (gI g, 5, .inl (rO (mt)))), (ba, .inl (gI g, 5, .inl (rO (bs)))), (ka, .inl (gI g, 5, .inl (rO (bk))))] [0, 1, 2, 3, 4, 5, 6, 7, 8, 9] 10 rfl rfl [(o, .inr (7, [.ref ia, .ref wa, .ref ha, .ref oa, .ref ga, .ref ca, .ref ma, .ref ba, .ref ka, .int (oI (hnt)), .int (nI gd), .int (nI tn)])), (ia, .inl (gI g, 4, .inl (rM (idn)))), (wa, .inl (gI g, 20, .inl (rM (wd)))), (ha, .inl (gZ g, 400, .inl (rB (hs)))), (oa, .inl (gZ g, 400, .inl (rB (ho)))), (ga, .inl (gI g, 32, .inl (rM (gr)))), (ca, .inl (gI g, 16, .inl (rO (ch)))), (ma, .inl (gI g, 5, .inl (rO (mt)))), (ba, .inl (gI g, 5, .inl (rO (bs)))), (ka, .inl (gI g, 5, .inl (rO (bk))))] rfl rfl (by decide) (by decide)
  refine im_V (k := 1) hx hb hml hown hts (c_X7_asks_t l g o ia wa ha oa ga ca ma ba ka (idn) (wd) (hs) (ho) (gr) (ch) (mt) (bs) (bk) (hnt) (gd) (tn)) gX7_ideas_X7_asks rfl (by decide +kernel) ⟨Nat.le_of_ble_eq_true rfl, Nat.le_of_ble_eq_true rfl⟩ ⟨Nat.zero_le _, Nat.zero_le _⟩ hK hP hD hS hA [0, 1, 2, 3, 4, 5, 6, 7, 8, 9] rfl (by decide) 0 7 rfl rfl rfl hl.1 (rest := []) (As := [.int (b2i (true))]) rfl (Nat.le_of_ble_eq_true rfl) dX7_ideas_5 (fun x1 w1 H locs hpo hpd hS => ?_)
  obtain ⟨hx1, rfl⟩ := hpo
  have hx1 : x1 = b2i (true) := hx1
  subst hx1
  obtain ⟨hP, hD⟩ := hpd [(o, .inr (7, [.ref ia, .ref wa, .ref ha, .ref oa, .ref ga, .ref ca, .ref ma, .ref ba, .ref ka, .int (oI (hnt)), .int (nI gd), .int (nI 0)])), (ia, .inl (gI g, 4, .inl (rM (idn)))), (wa, .inl (gI g, 20, .inl (rM (wd)))), (ha, .inl (gZ g, 400, .inl (rB (hs)))), (oa, .inl (gZ g, 400, .inl (rB (ho)))), (ga, .inl (gI g, 32, .inl (rM (gr)))), (ca, .inl (gI g, 16, .inl (rO (ch)))), (ma, .inl (gI g, 5, .inl (rO (mt)))), (ba, .inl (gI g, 5, .inl (rO (bs)))), (ka, .inl (gI g, 5, .inl (rO (bk))))] [] 10 rfl rfl [] rfl rfl (by decide) (by decide)
  refine bv_if_eq (tgt := 20) hx hb dX7_ideas_8 (by decide) (fun c_1 => ?_) (fun c_1 => ?_)
  · skip
    exfalso; first | exact c_1 | omega | (simp at c_1; done) | (exact absurd c_1 (by simp))
  · skip
    refine lv_aload_n hx hb dX7_ideas_11 rfl (lv_at hl 0 rfl) ?_
    refine va_get (D := g.1) (ci := 7) (v := .ref ia) (C := RX7) (T := TX7) (N := 12) hx hb hts (fun _ h => (List.mem_cons_of_mem _ (List.mem_append_right _ h))) hown hK.1 hP 0 rfl rfl 0 (by decide) (hts _ (List.mem_cons_of_mem _ (List.mem_append_left _ (List.mem_of_getElem? (i := 0) rfl)))) (fun _ h9 => h9) rfl dX7_ideas_12 ?_
    refine lv_iload_n hx hb dX7_ideas_15 rfl (lv_at hl 1 rfl) ?_
    refine nv_iald (v := nI (idn m)) hx hb hK hP 1 rfl (by omega) (by decide) rfl dX7_ideas_16 ?_
    refine lv_goto (tgt := 21) hx hb dX7_ideas_17 (by decide) ?_
    exact im_ret (w1 := [(o, .inr (7, [.ref ia, .ref wa, .ref ha, .ref oa, .ref ga, .ref ca, .ref ma, .ref ba, .ref ka, .int (oI (hnt)), .int (nI gd), .int (nI 0)])), (ia, .inl (gI g, 4, .inl (rM (idn)))), (wa, .inl (gI g, 20, .inl (rM (wd)))), (ha, .inl (gZ g, 400, .inl (rB (hs)))), (oa, .inl (gZ g, 400, .inl (rB (ho)))), (ga, .inl (gI g, 32, .inl (rM (gr)))), (ca, .inl (gI g, 16, .inl (rO (ch)))), (ma, .inl (gI g, 5, .inl (rO (mt)))), (ba, .inl (gI g, 5, .inl (rO (bs)))), (ka, .inl (gI g, 5, .inl (rO (bk))))]) (v := nI (idn m)) hx hb hr hlocks hP hS rfl ⟨rfl, rfl⟩ dX7_ideas_21

set_option maxRecDepth 100000 in
set_option maxHeartbeats 4000000 in
theorem c_X7_ideas_bad (l : Launch) (g : GG) (o ia wa ha oa ga ca ma ba ka : Nat) (idn wd : Nat → Nat) (hs ho : Nat → Bool) (gr : Nat → Nat) (ch mt bs bk : Nat → Option Nat) (hnt : Option Nat) (gd tn : Nat) (v : Int32) (hbd : inR v 4 = false)  : IM l yX7_ideas wsX7_ideas 2 g [.ref o, .int (v)] [(o, .inr (7, [.ref ia, .ref wa, .ref ha, .ref oa, .ref ga, .ref ca, .ref ma, .ref ba, .ref ka, .int (oI (hnt)), .int (nI gd), .int (nI tn)])), (ia, .inl (gI g, 4, .inl (rM (idn)))), (wa, .inl (gI g, 20, .inl (rM (wd)))), (ha, .inl (gZ g, 400, .inl (rB (hs)))), (oa, .inl (gZ g, 400, .inl (rB (ho)))), (ga, .inl (gI g, 32, .inl (rM (gr)))), (ca, .inl (gI g, 16, .inl (rO (ch)))), (ma, .inl (gI g, 5, .inl (rO (mt)))), (ba, .inl (gI g, 5, .inl (rO (bs)))), (ka, .inl (gI g, 5, .inl (rO (bk))))] (fun x1 w1 => x1 = nI 0 ∧ w1 = [(o, .inr (7, [.ref ia, .ref wa, .ref ha, .ref oa, .ref ga, .ref ca, .ref ma, .ref ba, .ref ka, .int (oI (hnt)), .int (nI gd), .int (nI 1)])), (ia, .inl (gI g, 4, .inl (rM (idn)))), (wa, .inl (gI g, 20, .inl (rM (wd)))), (ha, .inl (gZ g, 400, .inl (rB (hs)))), (oa, .inl (gZ g, 400, .inl (rB (ho)))), (ga, .inl (gI g, 32, .inl (rM (gr)))), (ca, .inl (gI g, 16, .inl (rO (ch)))), (ma, .inl (gI g, 5, .inl (rO (mt)))), (ba, .inl (gI g, 5, .inl (rO (bs)))), (ka, .inl (gI g, 5, .inl (rO (bk))))]) := by
  refine fun sz => im_body (Qc := fun A => va_Qi _ (iB g _) A) (cc := cX7_ideas) (maxL := 2) (ret := (some .int)) (by decide) rfl (Nat.le_of_ble_eq_true rfl) ?_ sz
  intro pg ev s0 mi below meth cd A hx hb hr hml hts hown hlocks hK hA H hP hD hS ls hl
  have hl : lv_has ls 2 [(0, .ref o), (1, .int (v))] := hl
  refine lv_aload_n hx hb dX7_ideas_0 rfl (lv_at hl 0 rfl) ?_
  refine lv_iload_n hx hb dX7_ideas_1 rfl (lv_at hl 1 rfl) ?_
  refine im_S (k := 1) hx hb hml hown hts (c_X7_isMap l g (v)) gX7_ideas_X7_isMap rfl (by decide +kernel) ⟨Nat.le_of_ble_eq_true rfl, Nat.le_of_ble_eq_true rfl⟩ ⟨Nat.zero_le _, Nat.zero_le _⟩ hK hP hD hS hA [] rfl (by decide) rfl hl.1 (rest := [.ref o]) (As := [.int (v)]) rfl (Nat.le_of_ble_eq_true rfl) dX7_ideas_2 (fun x1 w1 H locs hpo hpd hS => ?_)
  obtain ⟨hx1, rfl⟩ := hpo
  rw [hbd] at hx1
  have hx1 : x1 = b2i (false) := hx1
  subst hx1
  obtain ⟨hP, hD⟩ := hpd [(o, .inr (7, [.ref ia, .ref wa, .ref ha, .ref oa, .ref ga, .ref ca, .ref ma, .ref ba, .ref ka, .int (oI (hnt)), .int (nI gd), .int (nI tn)])), (ia, .inl (gI g, 4, .inl (rM (idn)))), (wa, .inl (gI g, 20, .inl (rM (wd)))), (ha, .inl (gZ g, 400, .inl (rB (hs)))), (oa, .inl (gZ g, 400, .inl (rB (ho)))), (ga, .inl (gI g, 32, .inl (rM (gr)))), (ca, .inl (gI g, 16, .inl (rO (ch)))), (ma, .inl (gI g, 5, .inl (rO (mt)))), (ba, .inl (gI g, 5, .inl (rO (bs)))), (ka, .inl (gI g, 5, .inl (rO (bk))))] [0, 1, 2, 3, 4, 5, 6, 7, 8, 9] 10 rfl rfl [(o, .inr (7, [.ref ia, .ref wa, .ref ha, .ref oa, .ref ga, .ref ca, .ref ma, .ref ba, .ref ka, .int (oI (hnt)), .int (nI gd), .int (nI tn)])), (ia, .inl (gI g, 4, .inl (rM (idn)))), (wa, .inl (gI g, 20, .inl (rM (wd)))), (ha, .inl (gZ g, 400, .inl (rB (hs)))), (oa, .inl (gZ g, 400, .inl (rB (ho)))), (ga, .inl (gI g, 32, .inl (rM (gr)))), (ca, .inl (gI g, 16, .inl (rO (ch)))), (ma, .inl (gI g, 5, .inl (rO (mt)))), (ba, .inl (gI g, 5, .inl (rO (bs)))), (ka, .inl (gI g, 5, .inl (rO (bk))))] rfl rfl (by decide) (by decide)
  refine im_V (k := 1) hx hb hml hown hts (c_X7_asks_f l g o ia wa ha oa ga ca ma ba ka (idn) (wd) (hs) (ho) (gr) (ch) (mt) (bs) (bk) (hnt) (gd) (tn)) gX7_ideas_X7_asks rfl (by decide +kernel) ⟨Nat.le_of_ble_eq_true rfl, Nat.le_of_ble_eq_true rfl⟩ ⟨Nat.zero_le _, Nat.zero_le _⟩ hK hP hD hS hA [0, 1, 2, 3, 4, 5, 6, 7, 8, 9] rfl (by decide) 0 7 rfl rfl rfl hl.1 (rest := []) (As := [.int (b2i (false))]) rfl (Nat.le_of_ble_eq_true rfl) dX7_ideas_5 (fun x1 w1 H locs hpo hpd hS => ?_)
  obtain ⟨hx1, rfl⟩ := hpo
  have hx1 : x1 = b2i (false) := hx1
  subst hx1
  obtain ⟨hP, hD⟩ := hpd [(o, .inr (7, [.ref ia, .ref wa, .ref ha, .ref oa, .ref ga, .ref ca, .ref ma, .ref ba, .ref ka, .int (oI (hnt)), .int (nI gd), .int (nI 1)])), (ia, .inl (gI g, 4, .inl (rM (idn)))), (wa, .inl (gI g, 20, .inl (rM (wd)))), (ha, .inl (gZ g, 400, .inl (rB (hs)))), (oa, .inl (gZ g, 400, .inl (rB (ho)))), (ga, .inl (gI g, 32, .inl (rM (gr)))), (ca, .inl (gI g, 16, .inl (rO (ch)))), (ma, .inl (gI g, 5, .inl (rO (mt)))), (ba, .inl (gI g, 5, .inl (rO (bs)))), (ka, .inl (gI g, 5, .inl (rO (bk))))] [] 10 rfl rfl [] rfl rfl (by decide) (by decide)
  refine bv_if_eq (tgt := 20) hx hb dX7_ideas_8 (by decide) (fun c_1 => ?_) (fun c_1 => ?_)
  · skip
    refine lv_iconst (v := nI (0)) hx hb dX7_ideas_20 (by decide) ?_
    exact im_ret (w1 := [(o, .inr (7, [.ref ia, .ref wa, .ref ha, .ref oa, .ref ga, .ref ca, .ref ma, .ref ba, .ref ka, .int (oI (hnt)), .int (nI gd), .int (nI 1)])), (ia, .inl (gI g, 4, .inl (rM (idn)))), (wa, .inl (gI g, 20, .inl (rM (wd)))), (ha, .inl (gZ g, 400, .inl (rB (hs)))), (oa, .inl (gZ g, 400, .inl (rB (ho)))), (ga, .inl (gI g, 32, .inl (rM (gr)))), (ca, .inl (gI g, 16, .inl (rO (ch)))), (ma, .inl (gI g, 5, .inl (rO (mt)))), (ba, .inl (gI g, 5, .inl (rO (bs)))), (ka, .inl (gI g, 5, .inl (rO (bk))))]) (v := nI (0)) hx hb hr hlocks hP hS rfl ⟨rfl, rfl⟩ dX7_ideas_21
  · skip
    exfalso; first | exact c_1 | omega | (simp at c_1; done) | (exact absurd c_1 (by simp))

set_option maxRecDepth 100000 in
set_option maxHeartbeats 4000000 in
theorem c_X7_links (l : Launch) (g : GG) (o ia wa ha oa ga ca ma ba ka : Nat) (idn wd : Nat → Nat) (hs ho : Nat → Bool) (gr : Nat → Nat) (ch mt bs bk : Nat → Option Nat) (hnt : Option Nat) (gd tn : Nat) (m : Nat) (hm : m < 4) : IM l yX7_links wsX7_links 2 g [.ref o, .int (nI m)] [(o, .inr (7, [.ref ia, .ref wa, .ref ha, .ref oa, .ref ga, .ref ca, .ref ma, .ref ba, .ref ka, .int (oI (hnt)), .int (nI gd), .int (nI tn)])), (ia, .inl (gI g, 4, .inl (rM (idn)))), (wa, .inl (gI g, 20, .inl (rM (wd)))), (ha, .inl (gZ g, 400, .inl (rB (hs)))), (oa, .inl (gZ g, 400, .inl (rB (ho)))), (ga, .inl (gI g, 32, .inl (rM (gr)))), (ca, .inl (gI g, 16, .inl (rO (ch)))), (ma, .inl (gI g, 5, .inl (rO (mt)))), (ba, .inl (gI g, 5, .inl (rO (bs)))), (ka, .inl (gI g, 5, .inl (rO (bk))))] (fun x1 w1 => x1 = nI (cntB hs (100 * m) 100) ∧ w1 = [(o, .inr (7, [.ref ia, .ref wa, .ref ha, .ref oa, .ref ga, .ref ca, .ref ma, .ref ba, .ref ka, .int (oI (hnt)), .int (nI gd), .int (nI 0)])), (ia, .inl (gI g, 4, .inl (rM (idn)))), (wa, .inl (gI g, 20, .inl (rM (wd)))), (ha, .inl (gZ g, 400, .inl (rB (hs)))), (oa, .inl (gZ g, 400, .inl (rB (ho)))), (ga, .inl (gI g, 32, .inl (rM (gr)))), (ca, .inl (gI g, 16, .inl (rO (ch)))), (ma, .inl (gI g, 5, .inl (rO (mt)))), (ba, .inl (gI g, 5, .inl (rO (bs)))), (ka, .inl (gI g, 5, .inl (rO (bk))))]) := by
  refine fun sz => im_body (Qc := fun A => va_Qi _ (iB g _) A) (cc := cX7_links) (maxL := 2) (ret := (some .int)) (by decide) rfl (Nat.le_of_ble_eq_true rfl) ?_ sz
  intro pg ev s0 mi below meth cd A hx hb hr hml hts hown hlocks hK hA H hP hD hS ls hl
  have hl : lv_has ls 2 [(0, .ref o), (1, .int (nI m))] := hl
  refine lv_aload_n hx hb dX7_links_0 rfl (lv_at hl 0 rfl) ?_
  refine lv_iload_n hx hb dX7_links_1 rfl (lv_at hl 1 rfl) ?_
  refine im_S (k := 1) hx hb hml hown hts (c_X7_isMap l g (nI (m))) gX7_links_X7_isMap rfl (by decide +kernel) ⟨Nat.le_of_ble_eq_true rfl, Nat.le_of_ble_eq_true rfl⟩ ⟨Nat.zero_le _, Nat.zero_le _⟩ hK hP hD hS hA [] rfl (by decide) rfl hl.1 (rest := [.ref o]) (As := [.int (nI m)]) rfl (Nat.le_of_ble_eq_true rfl) dX7_links_2 (fun x1 w1 H locs hpo hpd hS => ?_)
  obtain ⟨hx1, rfl⟩ := hpo
  rw [inR_nI (by omega) (by decide)] at hx1
  have hx1 : x1 = b2i (true) := hx1
  subst hx1
  obtain ⟨hP, hD⟩ := hpd [(o, .inr (7, [.ref ia, .ref wa, .ref ha, .ref oa, .ref ga, .ref ca, .ref ma, .ref ba, .ref ka, .int (oI (hnt)), .int (nI gd), .int (nI tn)])), (ia, .inl (gI g, 4, .inl (rM (idn)))), (wa, .inl (gI g, 20, .inl (rM (wd)))), (ha, .inl (gZ g, 400, .inl (rB (hs)))), (oa, .inl (gZ g, 400, .inl (rB (ho)))), (ga, .inl (gI g, 32, .inl (rM (gr)))), (ca, .inl (gI g, 16, .inl (rO (ch)))), (ma, .inl (gI g, 5, .inl (rO (mt)))), (ba, .inl (gI g, 5, .inl (rO (bs)))), (ka, .inl (gI g, 5, .inl (rO (bk))))] [0, 1, 2, 3, 4, 5, 6, 7, 8, 9] 10 rfl rfl [(o, .inr (7, [.ref ia, .ref wa, .ref ha, .ref oa, .ref ga, .ref ca, .ref ma, .ref ba, .ref ka, .int (oI (hnt)), .int (nI gd), .int (nI tn)])), (ia, .inl (gI g, 4, .inl (rM (idn)))), (wa, .inl (gI g, 20, .inl (rM (wd)))), (ha, .inl (gZ g, 400, .inl (rB (hs)))), (oa, .inl (gZ g, 400, .inl (rB (ho)))), (ga, .inl (gI g, 32, .inl (rM (gr)))), (ca, .inl (gI g, 16, .inl (rO (ch)))), (ma, .inl (gI g, 5, .inl (rO (mt)))), (ba, .inl (gI g, 5, .inl (rO (bs)))), (ka, .inl (gI g, 5, .inl (rO (bk))))] rfl rfl (by decide) (by decide)
  refine im_V (k := 1) hx hb hml hown hts (c_X7_asks_t l g o ia wa ha oa ga ca ma ba ka (idn) (wd) (hs) (ho) (gr) (ch) (mt) (bs) (bk) (hnt) (gd) (tn)) gX7_links_X7_asks rfl (by decide +kernel) ⟨Nat.le_of_ble_eq_true rfl, Nat.le_of_ble_eq_true rfl⟩ ⟨Nat.zero_le _, Nat.zero_le _⟩ hK hP hD hS hA [0, 1, 2, 3, 4, 5, 6, 7, 8, 9] rfl (by decide) 0 7 rfl rfl rfl hl.1 (rest := []) (As := [.int (b2i (true))]) rfl (Nat.le_of_ble_eq_true rfl) dX7_links_5 (fun x1 w1 H locs hpo hpd hS => ?_)
  obtain ⟨hx1, rfl⟩ := hpo
  have hx1 : x1 = b2i (true) := hx1
  subst hx1
  obtain ⟨hP, hD⟩ := hpd [(o, .inr (7, [.ref ia, .ref wa, .ref ha, .ref oa, .ref ga, .ref ca, .ref ma, .ref ba, .ref ka, .int (oI (hnt)), .int (nI gd), .int (nI 0)])), (ia, .inl (gI g, 4, .inl (rM (idn)))), (wa, .inl (gI g, 20, .inl (rM (wd)))), (ha, .inl (gZ g, 400, .inl (rB (hs)))), (oa, .inl (gZ g, 400, .inl (rB (ho)))), (ga, .inl (gI g, 32, .inl (rM (gr)))), (ca, .inl (gI g, 16, .inl (rO (ch)))), (ma, .inl (gI g, 5, .inl (rO (mt)))), (ba, .inl (gI g, 5, .inl (rO (bs)))), (ka, .inl (gI g, 5, .inl (rO (bk))))] [] 10 rfl rfl [] rfl rfl (by decide) (by decide)
  refine bv_if_eq (tgt := 19) hx hb dX7_links_8 (by decide) (fun c_1 => ?_) (fun c_1 => ?_)
  · skip
    exfalso; first | exact c_1 | omega | (simp at c_1; done) | (exact absurd c_1 (by simp))
  · skip
    refine lv_aload_n hx hb dX7_links_11 rfl (lv_at hl 0 rfl) ?_
    refine lv_iload_n hx hb dX7_links_12 rfl (lv_at hl 1 rfl) ?_
    refine im_V (k := 1) hx hb hml hown hts (c_X7_linksOf l g o ia wa ha oa ga ca ma ba ka (idn) (wd) (hs) (ho) (gr) (ch) (mt) (bs) (bk) (hnt) (gd) (0) (m) (by omega)) gX7_links_X7_linksOf rfl (by decide +kernel) ⟨Nat.le_of_ble_eq_true rfl, Nat.le_of_ble_eq_true rfl⟩ ⟨Nat.zero_le _, Nat.zero_le _⟩ hK hP hD hS hA [0, 1, 2, 3, 4, 5, 6, 7, 8, 9] rfl (by decide) 0 7 rfl rfl rfl hl.1 (rest := []) (As := [.int (nI m)]) rfl (Nat.le_of_ble_eq_true rfl) dX7_links_13 (fun x1 w1 H locs hpo hpd hS => ?_)
    obtain ⟨hx1, rfl⟩ := hpo
    have hx1 : x1 = nI (cntB hs (100 * m) 100) := hx1
    subst hx1
    obtain ⟨hP, hD⟩ := hpd [(o, .inr (7, [.ref ia, .ref wa, .ref ha, .ref oa, .ref ga, .ref ca, .ref ma, .ref ba, .ref ka, .int (oI (hnt)), .int (nI gd), .int (nI 0)])), (ia, .inl (gI g, 4, .inl (rM (idn)))), (wa, .inl (gI g, 20, .inl (rM (wd)))), (ha, .inl (gZ g, 400, .inl (rB (hs)))), (oa, .inl (gZ g, 400, .inl (rB (ho)))), (ga, .inl (gI g, 32, .inl (rM (gr)))), (ca, .inl (gI g, 16, .inl (rO (ch)))), (ma, .inl (gI g, 5, .inl (rO (mt)))), (ba, .inl (gI g, 5, .inl (rO (bs)))), (ka, .inl (gI g, 5, .inl (rO (bk))))] [] 10 rfl rfl [] rfl rfl (by decide) (by decide)
    refine lv_goto (tgt := 20) hx hb dX7_links_16 (by decide) ?_
    exact im_ret (w1 := [(o, .inr (7, [.ref ia, .ref wa, .ref ha, .ref oa, .ref ga, .ref ca, .ref ma, .ref ba, .ref ka, .int (oI (hnt)), .int (nI gd), .int (nI 0)])), (ia, .inl (gI g, 4, .inl (rM (idn)))), (wa, .inl (gI g, 20, .inl (rM (wd)))), (ha, .inl (gZ g, 400, .inl (rB (hs)))), (oa, .inl (gZ g, 400, .inl (rB (ho)))), (ga, .inl (gI g, 32, .inl (rM (gr)))), (ca, .inl (gI g, 16, .inl (rO (ch)))), (ma, .inl (gI g, 5, .inl (rO (mt)))), (ba, .inl (gI g, 5, .inl (rO (bs)))), (ka, .inl (gI g, 5, .inl (rO (bk))))]) (v := nI (cntB hs (100 * m) 100)) hx hb hr hlocks hP hS rfl ⟨rfl, rfl⟩ dX7_links_20

set_option maxRecDepth 100000 in
set_option maxHeartbeats 4000000 in
theorem c_X7_links_bad (l : Launch) (g : GG) (o ia wa ha oa ga ca ma ba ka : Nat) (idn wd : Nat → Nat) (hs ho : Nat → Bool) (gr : Nat → Nat) (ch mt bs bk : Nat → Option Nat) (hnt : Option Nat) (gd tn : Nat) (v : Int32) (hbd : inR v 4 = false)  : IM l yX7_links wsX7_links 2 g [.ref o, .int (v)] [(o, .inr (7, [.ref ia, .ref wa, .ref ha, .ref oa, .ref ga, .ref ca, .ref ma, .ref ba, .ref ka, .int (oI (hnt)), .int (nI gd), .int (nI tn)])), (ia, .inl (gI g, 4, .inl (rM (idn)))), (wa, .inl (gI g, 20, .inl (rM (wd)))), (ha, .inl (gZ g, 400, .inl (rB (hs)))), (oa, .inl (gZ g, 400, .inl (rB (ho)))), (ga, .inl (gI g, 32, .inl (rM (gr)))), (ca, .inl (gI g, 16, .inl (rO (ch)))), (ma, .inl (gI g, 5, .inl (rO (mt)))), (ba, .inl (gI g, 5, .inl (rO (bs)))), (ka, .inl (gI g, 5, .inl (rO (bk))))] (fun x1 w1 => x1 = nI 0 ∧ w1 = [(o, .inr (7, [.ref ia, .ref wa, .ref ha, .ref oa, .ref ga, .ref ca, .ref ma, .ref ba, .ref ka, .int (oI (hnt)), .int (nI gd), .int (nI 1)])), (ia, .inl (gI g, 4, .inl (rM (idn)))), (wa, .inl (gI g, 20, .inl (rM (wd)))), (ha, .inl (gZ g, 400, .inl (rB (hs)))), (oa, .inl (gZ g, 400, .inl (rB (ho)))), (ga, .inl (gI g, 32, .inl (rM (gr)))), (ca, .inl (gI g, 16, .inl (rO (ch)))), (ma, .inl (gI g, 5, .inl (rO (mt)))), (ba, .inl (gI g, 5, .inl (rO (bs)))), (ka, .inl (gI g, 5, .inl (rO (bk))))]) := by
  refine fun sz => im_body (Qc := fun A => va_Qi _ (iB g _) A) (cc := cX7_links) (maxL := 2) (ret := (some .int)) (by decide) rfl (Nat.le_of_ble_eq_true rfl) ?_ sz
  intro pg ev s0 mi below meth cd A hx hb hr hml hts hown hlocks hK hA H hP hD hS ls hl
  have hl : lv_has ls 2 [(0, .ref o), (1, .int (v))] := hl
  refine lv_aload_n hx hb dX7_links_0 rfl (lv_at hl 0 rfl) ?_
  refine lv_iload_n hx hb dX7_links_1 rfl (lv_at hl 1 rfl) ?_
  refine im_S (k := 1) hx hb hml hown hts (c_X7_isMap l g (v)) gX7_links_X7_isMap rfl (by decide +kernel) ⟨Nat.le_of_ble_eq_true rfl, Nat.le_of_ble_eq_true rfl⟩ ⟨Nat.zero_le _, Nat.zero_le _⟩ hK hP hD hS hA [] rfl (by decide) rfl hl.1 (rest := [.ref o]) (As := [.int (v)]) rfl (Nat.le_of_ble_eq_true rfl) dX7_links_2 (fun x1 w1 H locs hpo hpd hS => ?_)
  obtain ⟨hx1, rfl⟩ := hpo
  rw [hbd] at hx1
  have hx1 : x1 = b2i (false) := hx1
  subst hx1
  obtain ⟨hP, hD⟩ := hpd [(o, .inr (7, [.ref ia, .ref wa, .ref ha, .ref oa, .ref ga, .ref ca, .ref ma, .ref ba, .ref ka, .int (oI (hnt)), .int (nI gd), .int (nI tn)])), (ia, .inl (gI g, 4, .inl (rM (idn)))), (wa, .inl (gI g, 20, .inl (rM (wd)))), (ha, .inl (gZ g, 400, .inl (rB (hs)))), (oa, .inl (gZ g, 400, .inl (rB (ho)))), (ga, .inl (gI g, 32, .inl (rM (gr)))), (ca, .inl (gI g, 16, .inl (rO (ch)))), (ma, .inl (gI g, 5, .inl (rO (mt)))), (ba, .inl (gI g, 5, .inl (rO (bs)))), (ka, .inl (gI g, 5, .inl (rO (bk))))] [0, 1, 2, 3, 4, 5, 6, 7, 8, 9] 10 rfl rfl [(o, .inr (7, [.ref ia, .ref wa, .ref ha, .ref oa, .ref ga, .ref ca, .ref ma, .ref ba, .ref ka, .int (oI (hnt)), .int (nI gd), .int (nI tn)])), (ia, .inl (gI g, 4, .inl (rM (idn)))), (wa, .inl (gI g, 20, .inl (rM (wd)))), (ha, .inl (gZ g, 400, .inl (rB (hs)))), (oa, .inl (gZ g, 400, .inl (rB (ho)))), (ga, .inl (gI g, 32, .inl (rM (gr)))), (ca, .inl (gI g, 16, .inl (rO (ch)))), (ma, .inl (gI g, 5, .inl (rO (mt)))), (ba, .inl (gI g, 5, .inl (rO (bs)))), (ka, .inl (gI g, 5, .inl (rO (bk))))] rfl rfl (by decide) (by decide)
  refine im_V (k := 1) hx hb hml hown hts (c_X7_asks_f l g o ia wa ha oa ga ca ma ba ka (idn) (wd) (hs) (ho) (gr) (ch) (mt) (bs) (bk) (hnt) (gd) (tn)) gX7_links_X7_asks rfl (by decide +kernel) ⟨Nat.le_of_ble_eq_true rfl, Nat.le_of_ble_eq_true rfl⟩ ⟨Nat.zero_le _, Nat.zero_le _⟩ hK hP hD hS hA [0, 1, 2, 3, 4, 5, 6, 7, 8, 9] rfl (by decide) 0 7 rfl rfl rfl hl.1 (rest := []) (As := [.int (b2i (false))]) rfl (Nat.le_of_ble_eq_true rfl) dX7_links_5 (fun x1 w1 H locs hpo hpd hS => ?_)
  obtain ⟨hx1, rfl⟩ := hpo
  have hx1 : x1 = b2i (false) := hx1
  subst hx1
  obtain ⟨hP, hD⟩ := hpd [(o, .inr (7, [.ref ia, .ref wa, .ref ha, .ref oa, .ref ga, .ref ca, .ref ma, .ref ba, .ref ka, .int (oI (hnt)), .int (nI gd), .int (nI 1)])), (ia, .inl (gI g, 4, .inl (rM (idn)))), (wa, .inl (gI g, 20, .inl (rM (wd)))), (ha, .inl (gZ g, 400, .inl (rB (hs)))), (oa, .inl (gZ g, 400, .inl (rB (ho)))), (ga, .inl (gI g, 32, .inl (rM (gr)))), (ca, .inl (gI g, 16, .inl (rO (ch)))), (ma, .inl (gI g, 5, .inl (rO (mt)))), (ba, .inl (gI g, 5, .inl (rO (bs)))), (ka, .inl (gI g, 5, .inl (rO (bk))))] [] 10 rfl rfl [] rfl rfl (by decide) (by decide)
  refine bv_if_eq (tgt := 19) hx hb dX7_links_8 (by decide) (fun c_1 => ?_) (fun c_1 => ?_)
  · skip
    refine lv_iconst (v := nI (0)) hx hb dX7_links_19 (by decide) ?_
    exact im_ret (w1 := [(o, .inr (7, [.ref ia, .ref wa, .ref ha, .ref oa, .ref ga, .ref ca, .ref ma, .ref ba, .ref ka, .int (oI (hnt)), .int (nI gd), .int (nI 1)])), (ia, .inl (gI g, 4, .inl (rM (idn)))), (wa, .inl (gI g, 20, .inl (rM (wd)))), (ha, .inl (gZ g, 400, .inl (rB (hs)))), (oa, .inl (gZ g, 400, .inl (rB (ho)))), (ga, .inl (gI g, 32, .inl (rM (gr)))), (ca, .inl (gI g, 16, .inl (rO (ch)))), (ma, .inl (gI g, 5, .inl (rO (mt)))), (ba, .inl (gI g, 5, .inl (rO (bs)))), (ka, .inl (gI g, 5, .inl (rO (bk))))]) (v := nI (0)) hx hb hr hlocks hP hS rfl ⟨rfl, rfl⟩ dX7_links_20
  · skip
    exfalso; first | exact c_1 | omega | (simp at c_1; done) | (exact absurd c_1 (by simp))

set_option maxRecDepth 100000 in
set_option maxHeartbeats 4000000 in
theorem c_X7_held (l : Launch) (g : GG) (o ia wa ha oa ga ca ma ba ka : Nat) (idn wd : Nat → Nat) (hs ho : Nat → Bool) (gr : Nat → Nat) (ch mt bs bk : Nat → Option Nat) (hnt : Option Nat) (gd tn : Nat) (m : Nat) (hm : m < 4) (hc : chOk ch) : IM l yX7_held wsX7_held 4 g [.ref o, .int (nI m)] [(o, .inr (7, [.ref ia, .ref wa, .ref ha, .ref oa, .ref ga, .ref ca, .ref ma, .ref ba, .ref ka, .int (oI (hnt)), .int (nI gd), .int (nI tn)])), (ia, .inl (gI g, 4, .inl (rM (idn)))), (wa, .inl (gI g, 20, .inl (rM (wd)))), (ha, .inl (gZ g, 400, .inl (rB (hs)))), (oa, .inl (gZ g, 400, .inl (rB (ho)))), (ga, .inl (gI g, 32, .inl (rM (gr)))), (ca, .inl (gI g, 16, .inl (rO (ch)))), (ma, .inl (gI g, 5, .inl (rO (mt)))), (ba, .inl (gI g, 5, .inl (rO (bs)))), (ka, .inl (gI g, 5, .inl (rO (bk))))] (fun x1 w1 => x1 = nI (cntB (clB ch m ho hs) (100 * m) 100) ∧ w1 = [(o, .inr (7, [.ref ia, .ref wa, .ref ha, .ref oa, .ref ga, .ref ca, .ref ma, .ref ba, .ref ka, .int (oI (hnt)), .int (nI gd), .int (nI 0)])), (ia, .inl (gI g, 4, .inl (rM (idn)))), (wa, .inl (gI g, 20, .inl (rM (wd)))), (ha, .inl (gZ g, 400, .inl (rB (hs)))), (oa, .inl (gZ g, 400, .inl (rB (clB ch m ho hs)))), (ga, .inl (gI g, 32, .inl (rM (gr)))), (ca, .inl (gI g, 16, .inl (rO (ch)))), (ma, .inl (gI g, 5, .inl (rO (mt)))), (ba, .inl (gI g, 5, .inl (rO (bs)))), (ka, .inl (gI g, 5, .inl (rO (bk))))]) := by
  refine fun sz => im_body (Qc := fun A => va_Qi _ (iB g _) A) (cc := cX7_held) (maxL := 4) (ret := (some .int)) (by decide) rfl (Nat.le_of_ble_eq_true rfl) ?_ sz
  intro pg ev s0 mi below meth cd A hx hb hr hml hts hown hlocks hK hA H hP hD hS ls hl
  have hl : lv_has ls 4 [(0, .ref o), (1, .int (nI m))] := hl
  refine lv_aload_n hx hb dX7_held_0 rfl (lv_at hl 0 rfl) ?_
  refine lv_iload_n hx hb dX7_held_1 rfl (lv_at hl 1 rfl) ?_
  refine im_S (k := 1) hx hb hml hown hts (c_X7_isMap l g (nI (m))) gX7_held_X7_isMap rfl (by decide +kernel) ⟨Nat.le_of_ble_eq_true rfl, Nat.le_of_ble_eq_true rfl⟩ ⟨Nat.zero_le _, Nat.zero_le _⟩ hK hP hD hS hA [] rfl (by decide) rfl hl.1 (rest := [.ref o]) (As := [.int (nI m)]) rfl (Nat.le_of_ble_eq_true rfl) dX7_held_2 (fun x1 w1 H locs hpo hpd hS => ?_)
  obtain ⟨hx1, rfl⟩ := hpo
  rw [inR_nI (by omega) (by decide)] at hx1
  have hx1 : x1 = b2i (true) := hx1
  subst hx1
  obtain ⟨hP, hD⟩ := hpd [(o, .inr (7, [.ref ia, .ref wa, .ref ha, .ref oa, .ref ga, .ref ca, .ref ma, .ref ba, .ref ka, .int (oI (hnt)), .int (nI gd), .int (nI tn)])), (ia, .inl (gI g, 4, .inl (rM (idn)))), (wa, .inl (gI g, 20, .inl (rM (wd)))), (ha, .inl (gZ g, 400, .inl (rB (hs)))), (oa, .inl (gZ g, 400, .inl (rB (ho)))), (ga, .inl (gI g, 32, .inl (rM (gr)))), (ca, .inl (gI g, 16, .inl (rO (ch)))), (ma, .inl (gI g, 5, .inl (rO (mt)))), (ba, .inl (gI g, 5, .inl (rO (bs)))), (ka, .inl (gI g, 5, .inl (rO (bk))))] [0, 1, 2, 3, 4, 5, 6, 7, 8, 9] 10 rfl rfl [(o, .inr (7, [.ref ia, .ref wa, .ref ha, .ref oa, .ref ga, .ref ca, .ref ma, .ref ba, .ref ka, .int (oI (hnt)), .int (nI gd), .int (nI tn)])), (ia, .inl (gI g, 4, .inl (rM (idn)))), (wa, .inl (gI g, 20, .inl (rM (wd)))), (ha, .inl (gZ g, 400, .inl (rB (hs)))), (oa, .inl (gZ g, 400, .inl (rB (ho)))), (ga, .inl (gI g, 32, .inl (rM (gr)))), (ca, .inl (gI g, 16, .inl (rO (ch)))), (ma, .inl (gI g, 5, .inl (rO (mt)))), (ba, .inl (gI g, 5, .inl (rO (bs)))), (ka, .inl (gI g, 5, .inl (rO (bk))))] rfl rfl (by decide) (by decide)
  refine im_V (k := 1) hx hb hml hown hts (c_X7_asks_t l g o ia wa ha oa ga ca ma ba ka (idn) (wd) (hs) (ho) (gr) (ch) (mt) (bs) (bk) (hnt) (gd) (tn)) gX7_held_X7_asks rfl (by decide +kernel) ⟨Nat.le_of_ble_eq_true rfl, Nat.le_of_ble_eq_true rfl⟩ ⟨Nat.zero_le _, Nat.zero_le _⟩ hK hP hD hS hA [0, 1, 2, 3, 4, 5, 6, 7, 8, 9] rfl (by decide) 0 7 rfl rfl rfl hl.1 (rest := []) (As := [.int (b2i (true))]) rfl (Nat.le_of_ble_eq_true rfl) dX7_held_5 (fun x1 w1 H locs hpo hpd hS => ?_)
  obtain ⟨hx1, rfl⟩ := hpo
  have hx1 : x1 = b2i (true) := hx1
  subst hx1
  obtain ⟨hP, hD⟩ := hpd [(o, .inr (7, [.ref ia, .ref wa, .ref ha, .ref oa, .ref ga, .ref ca, .ref ma, .ref ba, .ref ka, .int (oI (hnt)), .int (nI gd), .int (nI 0)])), (ia, .inl (gI g, 4, .inl (rM (idn)))), (wa, .inl (gI g, 20, .inl (rM (wd)))), (ha, .inl (gZ g, 400, .inl (rB (hs)))), (oa, .inl (gZ g, 400, .inl (rB (ho)))), (ga, .inl (gI g, 32, .inl (rM (gr)))), (ca, .inl (gI g, 16, .inl (rO (ch)))), (ma, .inl (gI g, 5, .inl (rO (mt)))), (ba, .inl (gI g, 5, .inl (rO (bs)))), (ka, .inl (gI g, 5, .inl (rO (bk))))] [] 10 rfl rfl [] rfl rfl (by decide) (by decide)
  refine bv_if_ne (tgt := 13) hx hb dX7_held_8 (by decide) (fun c_1 => ?_) (fun c_1 => ?_)
  · skip
    refine lv_aload_n hx hb dX7_held_13 rfl (lv_at hl 0 rfl) ?_
    refine lv_iload_n hx hb dX7_held_14 rfl (lv_at hl 1 rfl) ?_
    refine im_Vv (k := 1) hx hb hml hown hts (c_X7_closes l g o ia wa ha oa ga ca ma ba ka (idn) (wd) (hs) (ho) (gr) (ch) (mt) (bs) (bk) (hnt) (gd) (0) (m) hc (by omega)) gX7_held_X7_closes rfl (by decide +kernel) ⟨Nat.le_of_ble_eq_true rfl, Nat.le_of_ble_eq_true rfl⟩ ⟨Nat.zero_le _, Nat.zero_le _⟩ hK hP hD hS hA [0, 1, 2, 3, 4, 5, 6, 7, 8, 9] rfl (by decide) 0 7 rfl rfl rfl hl.1 (rest := []) (As := [.int (nI m)]) rfl (Nat.le_of_ble_eq_true rfl) dX7_held_15 (fun w1 H locs hpo hpd hS => ?_)
    obtain rfl := hpo
    obtain ⟨hP, hD⟩ := hpd [(o, .inr (7, [.ref ia, .ref wa, .ref ha, .ref oa, .ref ga, .ref ca, .ref ma, .ref ba, .ref ka, .int (oI (hnt)), .int (nI gd), .int (nI 0)])), (ia, .inl (gI g, 4, .inl (rM (idn)))), (wa, .inl (gI g, 20, .inl (rM (wd)))), (ha, .inl (gZ g, 400, .inl (rB (hs)))), (oa, .inl (gZ g, 400, .inl (rB (clB ch m ho hs)))), (ga, .inl (gI g, 32, .inl (rM (gr)))), (ca, .inl (gI g, 16, .inl (rO (ch)))), (ma, .inl (gI g, 5, .inl (rO (mt)))), (ba, .inl (gI g, 5, .inl (rO (bs)))), (ka, .inl (gI g, 5, .inl (rO (bk))))] [] 10 rfl rfl [] rfl rfl (by decide) (by decide)
    obtain ⟨hc9, hhc9⟩ : ∃ z, z = clB ch m ho hs := ⟨_, rfl⟩
    have hP : va_P g.1 vwCl [(o, .inr (7, [.ref ia, .ref wa, .ref ha, .ref oa, .ref ga, .ref ca, .ref ma, .ref ba, .ref ka, .int (oI (hnt)), .int (nI gd), .int (nI 0)])), (ia, .inl (gI g, 4, .inl (rM (idn)))), (wa, .inl (gI g, 20, .inl (rM (wd)))), (ha, .inl (gZ g, 400, .inl (rB (hs)))), (oa, .inl (gZ g, 400, .inl (rB (hc9)))), (ga, .inl (gI g, 32, .inl (rM (gr)))), (ca, .inl (gI g, 16, .inl (rO (ch)))), (ma, .inl (gI g, 5, .inl (rO (mt)))), (ba, .inl (gI g, 5, .inl (rO (bs)))), (ka, .inl (gI g, 5, .inl (rO (bk))))] H := by rw [hhc9]; exact hP
    have hD : va_D A [(o, .inr (7, [.ref ia, .ref wa, .ref ha, .ref oa, .ref ga, .ref ca, .ref ma, .ref ba, .ref ka, .int (oI (hnt)), .int (nI gd), .int (nI 0)])), (ia, .inl (gI g, 4, .inl (rM (idn)))), (wa, .inl (gI g, 20, .inl (rM (wd)))), (ha, .inl (gZ g, 400, .inl (rB (hs)))), (oa, .inl (gZ g, 400, .inl (rB (hc9)))), (ga, .inl (gI g, 32, .inl (rM (gr)))), (ca, .inl (gI g, 16, .inl (rO (ch)))), (ma, .inl (gI g, 5, .inl (rO (mt)))), (ba, .inl (gI g, 5, .inl (rO (bs)))), (ka, .inl (gI g, 5, .inl (rO (bk))))] := by rw [hhc9]; exact hD
    refine lv_iconst (v := nI (0)) hx hb dX7_held_18 (by decide) ?_
    refine lv_istore_n (lv' := [(2, .int (nI 0)), (0, .ref o), (1, .int (nI m))]) hx hb dX7_held_19 rfl hl (by decide) rfl (fun ls hl => ?_)
    refine lv_bipush (v := nI (100)) hx hb dX7_held_20 (by decide) ?_
    refine lv_iload_n hx hb dX7_held_22 rfl (lv_at hl 2 rfl) ?_
    refine nv_imul hx hb dX7_held_23 ?_
    refine lv_istore_n (lv' := [(3, .int (nI (100 * m))), (2, .int (nI 0)), (0, .ref o), (1, .int (nI m))]) hx hb dX7_held_24 rfl hl (by decide) rfl (fun ls hl => ?_)
    have lp : ∀ (k9 : Nat) (i : Nat) (hi : i ≤ 100) , 100 - i < k9 → ∀ (H : Heap) (locs : List Loc), va_P g.1 vwCl [(o, .inr (7, [.ref ia, .ref wa, .ref ha, .ref oa, .ref ga, .ref ca, .ref ma, .ref ba, .ref ka, .int (oI (hnt)), .int (nI gd), .int (nI 0)])), (ia, .inl (gI g, 4, .inl (rM (idn)))), (wa, .inl (gI g, 20, .inl (rM (wd)))), (ha, .inl (gZ g, 400, .inl (rB (hs)))), (oa, .inl (gZ g, 400, .inl (rB (hc9)))), (ga, .inl (gI g, 32, .inl (rM (gr)))), (ca, .inl (gI g, 16, .inl (rO (ch)))), (ma, .inl (gI g, 5, .inl (rO (mt)))), (ba, .inl (gI g, 5, .inl (rO (bs)))), (ka, .inl (gI g, 5, .inl (rO (bk))))] H → va_D A [(o, .inr (7, [.ref ia, .ref wa, .ref ha, .ref oa, .ref ga, .ref ca, .ref ma, .ref ba, .ref ka, .int (oI (hnt)), .int (nI gd), .int (nI 0)])), (ia, .inl (gI g, 4, .inl (rM (idn)))), (wa, .inl (gI g, 20, .inl (rM (wd)))), (ha, .inl (gZ g, 400, .inl (rB (hs)))), (oa, .inl (gZ g, 400, .inl (rB (hc9)))), (ga, .inl (gI g, 32, .inl (rM (gr)))), (ca, .inl (gI g, 16, .inl (rO (ch)))), (ma, .inl (gI g, 5, .inl (rO (mt)))), (ba, .inl (gI g, 5, .inl (rO (bs)))), (ka, .inl (gI g, 5, .inl (rO (bk))))] → va_S A s0.heap H locs → ∀ ls : Array Slot, lv_has ls 4 [(3, .int (nI (100 * m + i))), (2, .int (nI (cntB hc9 (100 * m) i))), (0, .ref o), (1, .int (nI m))] → W pg l ev (rmL 4) s0 mi ([.ref o, .int (nI m)] : List Value).toArray below meth cd H locs 0 0 (MQ below (va_Qi (fun x1 w1 => x1 = nI (cntB (clB ch m ho hs) (100 * m) 100) ∧ w1 = [(o, .inr (7, [.ref ia, .ref wa, .ref ha, .ref oa, .ref ga, .ref ca, .ref ma, .ref ba, .ref ka, .int (oI (hnt)), .int (nI gd), .int (nI 0)])), (ia, .inl (gI g, 4, .inl (rM (idn)))), (wa, .inl (gI g, 20, .inl (rM (wd)))), (ha, .inl (gZ g, 400, .inl (rB (hs)))), (oa, .inl (gZ g, 400, .inl (rB (clB ch m ho hs)))), (ga, .inl (gI g, 32, .inl (rM (gr)))), (ca, .inl (gI g, 16, .inl (rO (ch)))), (ma, .inl (gI g, 5, .inl (rO (mt)))), (ba, .inl (gI g, 5, .inl (rO (bs)))), (ka, .inl (gI g, 5, .inl (rO (bk))))]) (iB g [(o, .inr (7, [.ref ia, .ref wa, .ref ha, .ref oa, .ref ga, .ref ca, .ref ma, .ref ba, .ref ka, .int (oI (hnt)), .int (nI gd), .int (nI tn)])), (ia, .inl (gI g, 4, .inl (rM (idn)))), (wa, .inl (gI g, 20, .inl (rM (wd)))), (ha, .inl (gZ g, 400, .inl (rB (hs)))), (oa, .inl (gZ g, 400, .inl (rB (ho)))), (ga, .inl (gI g, 32, .inl (rM (gr)))), (ca, .inl (gI g, 16, .inl (rO (ch)))), (ma, .inl (gI g, 5, .inl (rO (mt)))), (ba, .inl (gI g, 5, .inl (rO (bs)))), (ka, .inl (gI g, 5, .inl (rO (bk))))]) A) ([.ref o, .int (nI m)] : List Value).toArray s0 0 0 A) (F0 mi 25 ls []) := by
      intro k9
      induction k9 with
      | zero => intros; omega
      | succ k9 lp_ih =>
        intro i hi hmz H locs hP hD hS ls hl
        refine lv_iload_n hx hb dX7_held_25 rfl (lv_at hl 0 rfl) ?_
        refine lv_bipush (v := nI (100)) hx hb dX7_held_26 (by decide) ?_
        refine lv_iload_n hx hb dX7_held_28 rfl (lv_at hl 3 rfl) ?_
        refine nv_imul hx hb dX7_held_29 ?_
        refine lv_bipush (v := nI (100)) hx hb dX7_held_30 (by decide) ?_
        refine nv_iadd hx hb dX7_held_32 ?_
        refine nv_icmp_ge (tgt := 59) hx hb (by omega) (by omega) dX7_held_33 (by decide) (fun c_2 => ?_) (fun c_2 => ?_)
        · skip
          have ei : i = 100 := by omega
          subst ei
          refine lv_iload_n hx hb dX7_held_59 rfl (lv_at hl 1 rfl) ?_
          exact im_ret (w1 := [(o, .inr (7, [.ref ia, .ref wa, .ref ha, .ref oa, .ref ga, .ref ca, .ref ma, .ref ba, .ref ka, .int (oI (hnt)), .int (nI gd), .int (nI 0)])), (ia, .inl (gI g, 4, .inl (rM (idn)))), (wa, .inl (gI g, 20, .inl (rM (wd)))), (ha, .inl (gZ g, 400, .inl (rB (hs)))), (oa, .inl (gZ g, 400, .inl (rB (hc9)))), (ga, .inl (gI g, 32, .inl (rM (gr)))), (ca, .inl (gI g, 16, .inl (rO (ch)))), (ma, .inl (gI g, 5, .inl (rO (mt)))), (ba, .inl (gI g, 5, .inl (rO (bs)))), (ka, .inl (gI g, 5, .inl (rO (bk))))]) (v := nI (cntB hc9 (100 * m) 100)) hx hb hr hlocks hP hS rfl ⟨by rw [hhc9], by rw [hhc9]⟩ dX7_held_60
        · skip
          refine lv_iload_n hx hb dX7_held_36 rfl (lv_at hl 1 rfl) ?_
          refine lv_aload_n hx hb dX7_held_37 rfl (lv_at hl 2 rfl) ?_
          refine va_get (D := g.1) (ci := 7) (v := .ref oa) (C := RX7) (T := TX7) (N := 12) hx hb hts (fun _ h => (List.mem_cons_of_mem _ (List.mem_append_right _ h))) hown hK.1 hP 0 rfl rfl 3 (by decide) (hts _ (List.mem_cons_of_mem _ (List.mem_append_left _ (List.mem_of_getElem? (i := 0) rfl)))) (fun _ h9 => h9) rfl dX7_held_38 ?_
          refine lv_iload_n hx hb dX7_held_41 rfl (lv_at hl 0 rfl) ?_
          refine nv_zald (v := b2i (hc9 (100 * m + i))) hx hb hK hP 4 rfl (by omega) (by decide) rfl dX7_held_42 ?_
          refine bv_if_eq (tgt := 50) hx hb dX7_held_43 (by decide) (fun c_3 => ?_) (fun c_3 => ?_)
          · skip
            refine lv_iconst (v := nI (0)) hx hb dX7_held_50 (by decide) ?_
            refine nv_iadd hx hb dX7_held_51 ?_
            refine lv_istore_n (lv' := [(2, .int (nI ((cntB hc9 (100 * m) i) + 0))), (3, .int (nI (100 * m + i))), (0, .ref o), (1, .int (nI m))]) hx hb dX7_held_52 rfl hl (by decide) rfl (fun ls hl => ?_)
            refine lv_iinc (v := nI ((100 * m + i) + 1)) (lv' := [(3, .int (nI ((100 * m + i) + 1))), (2, .int (nI ((cntB hc9 (100 * m) i) + 0))), (0, .ref o), (1, .int (nI m))]) hx hb dX7_held_53 hl (k := 1) rfl (by show nI _ + _ = _; rw [show Int32.ofInt 1 = nI 1 from by decide, nI_add]) (by decide) rfl (fun ls hl => ?_)
            refine lv_goto (tgt := 25) hx hb dX7_held_56 (by decide) ?_
            have eq_1 : ((100 * m + i) + 1) = (100 * m + (i + 1)) := by first | rfl | exact cntB_yes (by assumption) | exact cntB_no (by assumption)
            have eq_2 : ((cntB hc9 (100 * m) i) + 0) = (cntB hc9 (100 * m) (i + 1)) := by first | rfl | exact cntB_yes (by assumption) | exact cntB_no (by assumption)
            have hl : lv_has ls 4 [(3, .int (nI (100 * m + (i + 1)))), (2, .int (nI (cntB hc9 (100 * m) (i + 1)))), (0, .ref o), (1, .int (nI m))] := by ((try rw [← eq_1]); (try rw [← eq_2]); exact hl)
            have hP : va_P g.1 vwCl [(o, .inr (7, [.ref ia, .ref wa, .ref ha, .ref oa, .ref ga, .ref ca, .ref ma, .ref ba, .ref ka, .int (oI (hnt)), .int (nI gd), .int (nI 0)])), (ia, .inl (gI g, 4, .inl (rM (idn)))), (wa, .inl (gI g, 20, .inl (rM (wd)))), (ha, .inl (gZ g, 400, .inl (rB (hs)))), (oa, .inl (gZ g, 400, .inl (rB (hc9)))), (ga, .inl (gI g, 32, .inl (rM (gr)))), (ca, .inl (gI g, 16, .inl (rO (ch)))), (ma, .inl (gI g, 5, .inl (rO (mt)))), (ba, .inl (gI g, 5, .inl (rO (bs)))), (ka, .inl (gI g, 5, .inl (rO (bk))))] H := by ((try rw [← eq_1]); (try rw [← eq_2]); exact hP)
            have hD : va_D A [(o, .inr (7, [.ref ia, .ref wa, .ref ha, .ref oa, .ref ga, .ref ca, .ref ma, .ref ba, .ref ka, .int (oI (hnt)), .int (nI gd), .int (nI 0)])), (ia, .inl (gI g, 4, .inl (rM (idn)))), (wa, .inl (gI g, 20, .inl (rM (wd)))), (ha, .inl (gZ g, 400, .inl (rB (hs)))), (oa, .inl (gZ g, 400, .inl (rB (hc9)))), (ga, .inl (gI g, 32, .inl (rM (gr)))), (ca, .inl (gI g, 16, .inl (rO (ch)))), (ma, .inl (gI g, 5, .inl (rO (mt)))), (ba, .inl (gI g, 5, .inl (rO (bs)))), (ka, .inl (gI g, 5, .inl (rO (bk))))] := by ((try rw [← eq_1]); (try rw [← eq_2]); exact hD)
            exact lp_ih (i + 1) (by omega)  (by omega) _ _ hP hD hS ls (lv_sub hl [0, 1, 2, 3] rfl)
          · skip
            refine lv_iconst (v := nI (1)) hx hb dX7_held_46 (by decide) ?_
            refine lv_goto (tgt := 51) hx hb dX7_held_47 (by decide) ?_
            refine nv_iadd hx hb dX7_held_51 ?_
            refine lv_istore_n (lv' := [(2, .int (nI ((cntB hc9 (100 * m) i) + 1))), (3, .int (nI (100 * m + i))), (0, .ref o), (1, .int (nI m))]) hx hb dX7_held_52 rfl hl (by decide) rfl (fun ls hl => ?_)
            refine lv_iinc (v := nI ((100 * m + i) + 1)) (lv' := [(3, .int (nI ((100 * m + i) + 1))), (2, .int (nI ((cntB hc9 (100 * m) i) + 1))), (0, .ref o), (1, .int (nI m))]) hx hb dX7_held_53 hl (k := 1) rfl (by show nI _ + _ = _; rw [show Int32.ofInt 1 = nI 1 from by decide, nI_add]) (by decide) rfl (fun ls hl => ?_)
            refine lv_goto (tgt := 25) hx hb dX7_held_56 (by decide) ?_
            have eq_3 : ((100 * m + i) + 1) = (100 * m + (i + 1)) := by first | rfl | exact cntB_yes (by assumption) | exact cntB_no (by assumption)
            have eq_4 : ((cntB hc9 (100 * m) i) + 1) = (cntB hc9 (100 * m) (i + 1)) := by first | rfl | exact cntB_yes (by assumption) | exact cntB_no (by assumption)
            have hl : lv_has ls 4 [(3, .int (nI (100 * m + (i + 1)))), (2, .int (nI (cntB hc9 (100 * m) (i + 1)))), (0, .ref o), (1, .int (nI m))] := by ((try rw [← eq_3]); (try rw [← eq_4]); exact hl)
            have hP : va_P g.1 vwCl [(o, .inr (7, [.ref ia, .ref wa, .ref ha, .ref oa, .ref ga, .ref ca, .ref ma, .ref ba, .ref ka, .int (oI (hnt)), .int (nI gd), .int (nI 0)])), (ia, .inl (gI g, 4, .inl (rM (idn)))), (wa, .inl (gI g, 20, .inl (rM (wd)))), (ha, .inl (gZ g, 400, .inl (rB (hs)))), (oa, .inl (gZ g, 400, .inl (rB (hc9)))), (ga, .inl (gI g, 32, .inl (rM (gr)))), (ca, .inl (gI g, 16, .inl (rO (ch)))), (ma, .inl (gI g, 5, .inl (rO (mt)))), (ba, .inl (gI g, 5, .inl (rO (bs)))), (ka, .inl (gI g, 5, .inl (rO (bk))))] H := by ((try rw [← eq_3]); (try rw [← eq_4]); exact hP)
            have hD : va_D A [(o, .inr (7, [.ref ia, .ref wa, .ref ha, .ref oa, .ref ga, .ref ca, .ref ma, .ref ba, .ref ka, .int (oI (hnt)), .int (nI gd), .int (nI 0)])), (ia, .inl (gI g, 4, .inl (rM (idn)))), (wa, .inl (gI g, 20, .inl (rM (wd)))), (ha, .inl (gZ g, 400, .inl (rB (hs)))), (oa, .inl (gZ g, 400, .inl (rB (hc9)))), (ga, .inl (gI g, 32, .inl (rM (gr)))), (ca, .inl (gI g, 16, .inl (rO (ch)))), (ma, .inl (gI g, 5, .inl (rO (mt)))), (ba, .inl (gI g, 5, .inl (rO (bs)))), (ka, .inl (gI g, 5, .inl (rO (bk))))] := by ((try rw [← eq_3]); (try rw [← eq_4]); exact hD)
            exact lp_ih (i + 1) (by omega)  (by omega) _ _ hP hD hS ls (lv_sub hl [0, 1, 2, 3] rfl)
    have eq_5 : (100 * m) = (100 * m + 0) := by rfl
    have eq_6 : (0) = (cntB hc9 (100 * m) 0) := by rfl
    have hl : lv_has ls 4 [(3, .int (nI (100 * m + 0))), (2, .int (nI (cntB hc9 (100 * m) 0))), (0, .ref o), (1, .int (nI m))] := by ((try rw [← eq_5]); (try rw [← eq_6]); exact hl)
    have hP : va_P g.1 vwCl [(o, .inr (7, [.ref ia, .ref wa, .ref ha, .ref oa, .ref ga, .ref ca, .ref ma, .ref ba, .ref ka, .int (oI (hnt)), .int (nI gd), .int (nI 0)])), (ia, .inl (gI g, 4, .inl (rM (idn)))), (wa, .inl (gI g, 20, .inl (rM (wd)))), (ha, .inl (gZ g, 400, .inl (rB (hs)))), (oa, .inl (gZ g, 400, .inl (rB (hc9)))), (ga, .inl (gI g, 32, .inl (rM (gr)))), (ca, .inl (gI g, 16, .inl (rO (ch)))), (ma, .inl (gI g, 5, .inl (rO (mt)))), (ba, .inl (gI g, 5, .inl (rO (bs)))), (ka, .inl (gI g, 5, .inl (rO (bk))))] H := by ((try rw [← eq_5]); (try rw [← eq_6]); exact hP)
    have hD : va_D A [(o, .inr (7, [.ref ia, .ref wa, .ref ha, .ref oa, .ref ga, .ref ca, .ref ma, .ref ba, .ref ka, .int (oI (hnt)), .int (nI gd), .int (nI 0)])), (ia, .inl (gI g, 4, .inl (rM (idn)))), (wa, .inl (gI g, 20, .inl (rM (wd)))), (ha, .inl (gZ g, 400, .inl (rB (hs)))), (oa, .inl (gZ g, 400, .inl (rB (hc9)))), (ga, .inl (gI g, 32, .inl (rM (gr)))), (ca, .inl (gI g, 16, .inl (rO (ch)))), (ma, .inl (gI g, 5, .inl (rO (mt)))), (ba, .inl (gI g, 5, .inl (rO (bs)))), (ka, .inl (gI g, 5, .inl (rO (bk))))] := by ((try rw [← eq_5]); (try rw [← eq_6]); exact hD)
    exact lp (100 + 1) 0 (Nat.zero_le _)  (by omega) _ _ hP hD hS ls (lv_sub hl [0, 1, 2, 3] rfl)
  · skip
    exfalso; first | exact c_1 | omega | (simp at c_1; done) | (exact absurd c_1 (by simp))

set_option maxRecDepth 100000 in
set_option maxHeartbeats 4000000 in
theorem c_X7_held_bad (l : Launch) (g : GG) (o ia wa ha oa ga ca ma ba ka : Nat) (idn wd : Nat → Nat) (hs ho : Nat → Bool) (gr : Nat → Nat) (ch mt bs bk : Nat → Option Nat) (hnt : Option Nat) (gd tn : Nat) (v : Int32) (hbd : inR v 4 = false)  : IM l yX7_held wsX7_held 4 g [.ref o, .int (v)] [(o, .inr (7, [.ref ia, .ref wa, .ref ha, .ref oa, .ref ga, .ref ca, .ref ma, .ref ba, .ref ka, .int (oI (hnt)), .int (nI gd), .int (nI tn)])), (ia, .inl (gI g, 4, .inl (rM (idn)))), (wa, .inl (gI g, 20, .inl (rM (wd)))), (ha, .inl (gZ g, 400, .inl (rB (hs)))), (oa, .inl (gZ g, 400, .inl (rB (ho)))), (ga, .inl (gI g, 32, .inl (rM (gr)))), (ca, .inl (gI g, 16, .inl (rO (ch)))), (ma, .inl (gI g, 5, .inl (rO (mt)))), (ba, .inl (gI g, 5, .inl (rO (bs)))), (ka, .inl (gI g, 5, .inl (rO (bk))))] (fun x1 w1 => x1 = nI 0 ∧ w1 = [(o, .inr (7, [.ref ia, .ref wa, .ref ha, .ref oa, .ref ga, .ref ca, .ref ma, .ref ba, .ref ka, .int (oI (hnt)), .int (nI gd), .int (nI 1)])), (ia, .inl (gI g, 4, .inl (rM (idn)))), (wa, .inl (gI g, 20, .inl (rM (wd)))), (ha, .inl (gZ g, 400, .inl (rB (hs)))), (oa, .inl (gZ g, 400, .inl (rB (ho)))), (ga, .inl (gI g, 32, .inl (rM (gr)))), (ca, .inl (gI g, 16, .inl (rO (ch)))), (ma, .inl (gI g, 5, .inl (rO (mt)))), (ba, .inl (gI g, 5, .inl (rO (bs)))), (ka, .inl (gI g, 5, .inl (rO (bk))))]) := by
  refine fun sz => im_body (Qc := fun A => va_Qi _ (iB g _) A) (cc := cX7_held) (maxL := 4) (ret := (some .int)) (by decide) rfl (Nat.le_of_ble_eq_true rfl) ?_ sz
  intro pg ev s0 mi below meth cd A hx hb hr hml hts hown hlocks hK hA H hP hD hS ls hl
  have hl : lv_has ls 4 [(0, .ref o), (1, .int (v))] := hl
  refine lv_aload_n hx hb dX7_held_0 rfl (lv_at hl 0 rfl) ?_
  refine lv_iload_n hx hb dX7_held_1 rfl (lv_at hl 1 rfl) ?_
  refine im_S (k := 1) hx hb hml hown hts (c_X7_isMap l g (v)) gX7_held_X7_isMap rfl (by decide +kernel) ⟨Nat.le_of_ble_eq_true rfl, Nat.le_of_ble_eq_true rfl⟩ ⟨Nat.zero_le _, Nat.zero_le _⟩ hK hP hD hS hA [] rfl (by decide) rfl hl.1 (rest := [.ref o]) (As := [.int (v)]) rfl (Nat.le_of_ble_eq_true rfl) dX7_held_2 (fun x1 w1 H locs hpo hpd hS => ?_)
  obtain ⟨hx1, rfl⟩ := hpo
  rw [hbd] at hx1
  have hx1 : x1 = b2i (false) := hx1
  subst hx1
  obtain ⟨hP, hD⟩ := hpd [(o, .inr (7, [.ref ia, .ref wa, .ref ha, .ref oa, .ref ga, .ref ca, .ref ma, .ref ba, .ref ka, .int (oI (hnt)), .int (nI gd), .int (nI tn)])), (ia, .inl (gI g, 4, .inl (rM (idn)))), (wa, .inl (gI g, 20, .inl (rM (wd)))), (ha, .inl (gZ g, 400, .inl (rB (hs)))), (oa, .inl (gZ g, 400, .inl (rB (ho)))), (ga, .inl (gI g, 32, .inl (rM (gr)))), (ca, .inl (gI g, 16, .inl (rO (ch)))), (ma, .inl (gI g, 5, .inl (rO (mt)))), (ba, .inl (gI g, 5, .inl (rO (bs)))), (ka, .inl (gI g, 5, .inl (rO (bk))))] [0, 1, 2, 3, 4, 5, 6, 7, 8, 9] 10 rfl rfl [(o, .inr (7, [.ref ia, .ref wa, .ref ha, .ref oa, .ref ga, .ref ca, .ref ma, .ref ba, .ref ka, .int (oI (hnt)), .int (nI gd), .int (nI tn)])), (ia, .inl (gI g, 4, .inl (rM (idn)))), (wa, .inl (gI g, 20, .inl (rM (wd)))), (ha, .inl (gZ g, 400, .inl (rB (hs)))), (oa, .inl (gZ g, 400, .inl (rB (ho)))), (ga, .inl (gI g, 32, .inl (rM (gr)))), (ca, .inl (gI g, 16, .inl (rO (ch)))), (ma, .inl (gI g, 5, .inl (rO (mt)))), (ba, .inl (gI g, 5, .inl (rO (bs)))), (ka, .inl (gI g, 5, .inl (rO (bk))))] rfl rfl (by decide) (by decide)
  refine im_V (k := 1) hx hb hml hown hts (c_X7_asks_f l g o ia wa ha oa ga ca ma ba ka (idn) (wd) (hs) (ho) (gr) (ch) (mt) (bs) (bk) (hnt) (gd) (tn)) gX7_held_X7_asks rfl (by decide +kernel) ⟨Nat.le_of_ble_eq_true rfl, Nat.le_of_ble_eq_true rfl⟩ ⟨Nat.zero_le _, Nat.zero_le _⟩ hK hP hD hS hA [0, 1, 2, 3, 4, 5, 6, 7, 8, 9] rfl (by decide) 0 7 rfl rfl rfl hl.1 (rest := []) (As := [.int (b2i (false))]) rfl (Nat.le_of_ble_eq_true rfl) dX7_held_5 (fun x1 w1 H locs hpo hpd hS => ?_)
  obtain ⟨hx1, rfl⟩ := hpo
  have hx1 : x1 = b2i (false) := hx1
  subst hx1
  obtain ⟨hP, hD⟩ := hpd [(o, .inr (7, [.ref ia, .ref wa, .ref ha, .ref oa, .ref ga, .ref ca, .ref ma, .ref ba, .ref ka, .int (oI (hnt)), .int (nI gd), .int (nI 1)])), (ia, .inl (gI g, 4, .inl (rM (idn)))), (wa, .inl (gI g, 20, .inl (rM (wd)))), (ha, .inl (gZ g, 400, .inl (rB (hs)))), (oa, .inl (gZ g, 400, .inl (rB (ho)))), (ga, .inl (gI g, 32, .inl (rM (gr)))), (ca, .inl (gI g, 16, .inl (rO (ch)))), (ma, .inl (gI g, 5, .inl (rO (mt)))), (ba, .inl (gI g, 5, .inl (rO (bs)))), (ka, .inl (gI g, 5, .inl (rO (bk))))] [] 10 rfl rfl [] rfl rfl (by decide) (by decide)
  refine bv_if_ne (tgt := 13) hx hb dX7_held_8 (by decide) (fun c_1 => ?_) (fun c_1 => ?_)
  · skip
    exfalso; first | exact c_1 | omega | (simp at c_1; done) | (exact absurd c_1 (by simp))
  · skip
    refine lv_iconst (v := nI (0)) hx hb dX7_held_11 (by decide) ?_
    exact im_ret (w1 := [(o, .inr (7, [.ref ia, .ref wa, .ref ha, .ref oa, .ref ga, .ref ca, .ref ma, .ref ba, .ref ka, .int (oI (hnt)), .int (nI gd), .int (nI 1)])), (ia, .inl (gI g, 4, .inl (rM (idn)))), (wa, .inl (gI g, 20, .inl (rM (wd)))), (ha, .inl (gZ g, 400, .inl (rB (hs)))), (oa, .inl (gZ g, 400, .inl (rB (ho)))), (ga, .inl (gI g, 32, .inl (rM (gr)))), (ca, .inl (gI g, 16, .inl (rO (ch)))), (ma, .inl (gI g, 5, .inl (rO (mt)))), (ba, .inl (gI g, 5, .inl (rO (bs)))), (ka, .inl (gI g, 5, .inl (rO (bk))))]) (v := nI (0)) hx hb hr hlocks hP hS rfl ⟨rfl, rfl⟩ dX7_held_12

set_option maxRecDepth 100000 in
set_option maxHeartbeats 4000000 in
theorem c_X7_synonyms (l : Launch) (g : GG) (o ia wa ha oa ga ca ma ba ka : Nat) (idn wd : Nat → Nat) (hs ho : Nat → Bool) (gr : Nat → Nat) (ch mt bs bk : Nat → Option Nat) (hnt : Option Nat) (gd tn : Nat) (a1 b1 : Nat) (hg : grOk gr) (ha1 : a1 < 32) (hb1 : b1 < 32) : IM l yX7_synonyms wsX7_synonyms 2 g [.ref o, .int (nI a1), .int (nI b1)] [(o, .inr (7, [.ref ia, .ref wa, .ref ha, .ref oa, .ref ga, .ref ca, .ref ma, .ref ba, .ref ka, .int (oI (hnt)), .int (nI gd), .int (nI tn)])), (ia, .inl (gI g, 4, .inl (rM (idn)))), (wa, .inl (gI g, 20, .inl (rM (wd)))), (ha, .inl (gZ g, 400, .inl (rB (hs)))), (oa, .inl (gZ g, 400, .inl (rB (ho)))), (ga, .inl (gI g, 32, .inl (rM (gr)))), (ca, .inl (gI g, 16, .inl (rO (ch)))), (ma, .inl (gI g, 5, .inl (rO (mt)))), (ba, .inl (gI g, 5, .inl (rO (bs)))), (ka, .inl (gI g, 5, .inl (rO (bk))))] (fun x1 w1 => x1 = b2i (decide (gr a1 = gr b1)) ∧ w1 = [(o, .inr (7, [.ref ia, .ref wa, .ref ha, .ref oa, .ref ga, .ref ca, .ref ma, .ref ba, .ref ka, .int (oI (hnt)), .int (nI gd), .int (nI 0)])), (ia, .inl (gI g, 4, .inl (rM (idn)))), (wa, .inl (gI g, 20, .inl (rM (wd)))), (ha, .inl (gZ g, 400, .inl (rB (hs)))), (oa, .inl (gZ g, 400, .inl (rB (ho)))), (ga, .inl (gI g, 32, .inl (rM (jn gr (gr a1) (gr b1) 32)))), (ca, .inl (gI g, 16, .inl (rO (ch)))), (ma, .inl (gI g, 5, .inl (rO (mt)))), (ba, .inl (gI g, 5, .inl (rO (bs)))), (ka, .inl (gI g, 5, .inl (rO (bk))))]) := by
  refine fun sz => im_body (Qc := fun A => va_Qi _ (iB g _) A) (cc := cX7_synonyms) (maxL := 6) (ret := (some .boolean)) (by decide) rfl (Nat.le_of_ble_eq_true rfl) ?_ sz
  intro pg ev s0 mi below meth cd A hx hb hr hml hts hown hlocks hK hA H hP hD hS ls hl
  have hl : lv_has ls 6 [(0, .ref o), (1, .int (nI a1)), (2, .int (nI b1))] := hl
  refine lv_aload_n hx hb dX7_synonyms_0 rfl (lv_at hl 0 rfl) ?_
  refine lv_iload_n hx hb dX7_synonyms_1 rfl (lv_at hl 1 rfl) ?_
  refine im_S (k := 1) hx hb hml hown hts (c_X7_isWord l g (nI (a1))) gX7_synonyms_X7_isWord rfl (by decide +kernel) ⟨Nat.le_of_ble_eq_true rfl, Nat.le_of_ble_eq_true rfl⟩ ⟨Nat.zero_le _, Nat.zero_le _⟩ hK hP hD hS hA [] rfl (by decide) rfl hl.1 (rest := [.ref o]) (As := [.int (nI a1)]) rfl (Nat.le_of_ble_eq_true rfl) dX7_synonyms_2 (fun x1 w1 H locs hpo hpd hS => ?_)
  obtain ⟨hx1, rfl⟩ := hpo
  rw [inR_nI (by omega) (by decide)] at hx1
  have hx1 : x1 = b2i (true) := hx1
  subst hx1
  obtain ⟨hP, hD⟩ := hpd [(o, .inr (7, [.ref ia, .ref wa, .ref ha, .ref oa, .ref ga, .ref ca, .ref ma, .ref ba, .ref ka, .int (oI (hnt)), .int (nI gd), .int (nI tn)])), (ia, .inl (gI g, 4, .inl (rM (idn)))), (wa, .inl (gI g, 20, .inl (rM (wd)))), (ha, .inl (gZ g, 400, .inl (rB (hs)))), (oa, .inl (gZ g, 400, .inl (rB (ho)))), (ga, .inl (gI g, 32, .inl (rM (gr)))), (ca, .inl (gI g, 16, .inl (rO (ch)))), (ma, .inl (gI g, 5, .inl (rO (mt)))), (ba, .inl (gI g, 5, .inl (rO (bs)))), (ka, .inl (gI g, 5, .inl (rO (bk))))] [0, 1, 2, 3, 4, 5, 6, 7, 8, 9] 10 rfl rfl [(o, .inr (7, [.ref ia, .ref wa, .ref ha, .ref oa, .ref ga, .ref ca, .ref ma, .ref ba, .ref ka, .int (oI (hnt)), .int (nI gd), .int (nI tn)])), (ia, .inl (gI g, 4, .inl (rM (idn)))), (wa, .inl (gI g, 20, .inl (rM (wd)))), (ha, .inl (gZ g, 400, .inl (rB (hs)))), (oa, .inl (gZ g, 400, .inl (rB (ho)))), (ga, .inl (gI g, 32, .inl (rM (gr)))), (ca, .inl (gI g, 16, .inl (rO (ch)))), (ma, .inl (gI g, 5, .inl (rO (mt)))), (ba, .inl (gI g, 5, .inl (rO (bs)))), (ka, .inl (gI g, 5, .inl (rO (bk))))] rfl rfl (by decide) (by decide)
  refine bv_if_eq (tgt := 19) hx hb dX7_synonyms_5 (by decide) (fun c_1 => ?_) (fun c_1 => ?_)
  · skip
    exfalso; first | exact c_1 | omega | (simp at c_1; done) | (exact absurd c_1 (by simp))
  · skip
    refine lv_iload_n hx hb dX7_synonyms_8 rfl (lv_at hl 2 rfl) ?_
    refine im_S (k := 1) hx hb hml hown hts (c_X7_isWord l g (nI (b1))) gX7_synonyms_X7_isWord rfl (by decide +kernel) ⟨Nat.le_of_ble_eq_true rfl, Nat.le_of_ble_eq_true rfl⟩ ⟨Nat.zero_le _, Nat.zero_le _⟩ hK hP hD hS hA [] rfl (by decide) rfl hl.1 (rest := [.ref o]) (As := [.int (nI b1)]) rfl (Nat.le_of_ble_eq_true rfl) dX7_synonyms_9 (fun x1 w1 H locs hpo hpd hS => ?_)
    obtain ⟨hx1, rfl⟩ := hpo
    rw [inR_nI (by omega) (by decide)] at hx1
    have hx1 : x1 = b2i (true) := hx1
    subst hx1
    obtain ⟨hP, hD⟩ := hpd [(o, .inr (7, [.ref ia, .ref wa, .ref ha, .ref oa, .ref ga, .ref ca, .ref ma, .ref ba, .ref ka, .int (oI (hnt)), .int (nI gd), .int (nI tn)])), (ia, .inl (gI g, 4, .inl (rM (idn)))), (wa, .inl (gI g, 20, .inl (rM (wd)))), (ha, .inl (gZ g, 400, .inl (rB (hs)))), (oa, .inl (gZ g, 400, .inl (rB (ho)))), (ga, .inl (gI g, 32, .inl (rM (gr)))), (ca, .inl (gI g, 16, .inl (rO (ch)))), (ma, .inl (gI g, 5, .inl (rO (mt)))), (ba, .inl (gI g, 5, .inl (rO (bs)))), (ka, .inl (gI g, 5, .inl (rO (bk))))] [0, 1, 2, 3, 4, 5, 6, 7, 8, 9] 10 rfl rfl [(o, .inr (7, [.ref ia, .ref wa, .ref ha, .ref oa, .ref ga, .ref ca, .ref ma, .ref ba, .ref ka, .int (oI (hnt)), .int (nI gd), .int (nI tn)])), (ia, .inl (gI g, 4, .inl (rM (idn)))), (wa, .inl (gI g, 20, .inl (rM (wd)))), (ha, .inl (gZ g, 400, .inl (rB (hs)))), (oa, .inl (gZ g, 400, .inl (rB (ho)))), (ga, .inl (gI g, 32, .inl (rM (gr)))), (ca, .inl (gI g, 16, .inl (rO (ch)))), (ma, .inl (gI g, 5, .inl (rO (mt)))), (ba, .inl (gI g, 5, .inl (rO (bs)))), (ka, .inl (gI g, 5, .inl (rO (bk))))] rfl rfl (by decide) (by decide)
    refine bv_if_eq (tgt := 19) hx hb dX7_synonyms_12 (by decide) (fun c_2 => ?_) (fun c_2 => ?_)
    · skip
      exfalso; first | exact c_2 | omega | (simp at c_2; done) | (exact absurd c_2 (by simp))
    · skip
      refine lv_iconst (v := nI (1)) hx hb dX7_synonyms_15 (by decide) ?_
      refine lv_goto (tgt := 20) hx hb dX7_synonyms_16 (by decide) ?_
      refine im_V (k := 1) hx hb hml hown hts (c_X7_asks_t l g o ia wa ha oa ga ca ma ba ka (idn) (wd) (hs) (ho) (gr) (ch) (mt) (bs) (bk) (hnt) (gd) (tn)) gX7_synonyms_X7_asks rfl (by decide +kernel) ⟨Nat.le_of_ble_eq_true rfl, Nat.le_of_ble_eq_true rfl⟩ ⟨Nat.zero_le _, Nat.zero_le _⟩ hK hP hD hS hA [0, 1, 2, 3, 4, 5, 6, 7, 8, 9] rfl (by decide) 0 7 rfl rfl rfl hl.1 (rest := []) (As := [.int (nI 1)]) rfl (Nat.le_of_ble_eq_true rfl) dX7_synonyms_20 (fun x1 w1 H locs hpo hpd hS => ?_)
      obtain ⟨hx1, rfl⟩ := hpo
      have hx1 : x1 = b2i (true) := hx1
      subst hx1
      obtain ⟨hP, hD⟩ := hpd [(o, .inr (7, [.ref ia, .ref wa, .ref ha, .ref oa, .ref ga, .ref ca, .ref ma, .ref ba, .ref ka, .int (oI (hnt)), .int (nI gd), .int (nI 0)])), (ia, .inl (gI g, 4, .inl (rM (idn)))), (wa, .inl (gI g, 20, .inl (rM (wd)))), (ha, .inl (gZ g, 400, .inl (rB (hs)))), (oa, .inl (gZ g, 400, .inl (rB (ho)))), (ga, .inl (gI g, 32, .inl (rM (gr)))), (ca, .inl (gI g, 16, .inl (rO (ch)))), (ma, .inl (gI g, 5, .inl (rO (mt)))), (ba, .inl (gI g, 5, .inl (rO (bs)))), (ka, .inl (gI g, 5, .inl (rO (bk))))] [] 10 rfl rfl [] rfl rfl (by decide) (by decide)
      refine bv_if_ne (tgt := 28) hx hb dX7_synonyms_23 (by decide) (fun c_3 => ?_) (fun c_3 => ?_)
      · skip
        refine lv_aload_n hx hb dX7_synonyms_28 rfl (lv_at hl 0 rfl) ?_
        refine va_get (D := g.1) (ci := 7) (v := .ref ga) (C := RX7) (T := TX7) (N := 12) hx hb hts (fun _ h => (List.mem_cons_of_mem _ (List.mem_append_right _ h))) hown hK.1 hP 0 rfl rfl 4 (by decide) (hts _ (List.mem_cons_of_mem _ (List.mem_append_left _ (List.mem_of_getElem? (i := 0) rfl)))) (fun _ h9 => h9) rfl dX7_synonyms_29 ?_
        refine lv_iload_n hx hb dX7_synonyms_32 rfl (lv_at hl 1 rfl) ?_
        refine nv_iald (v := nI (gr a1)) hx hb hK hP 5 rfl (by omega) (by decide) rfl dX7_synonyms_33 ?_
        refine lv_istore_n (lv' := [(3, .int (nI (gr a1))), (0, .ref o), (1, .int (nI a1)), (2, .int (nI b1))]) hx hb dX7_synonyms_34 rfl hl (by decide) rfl (fun ls hl => ?_)
        refine lv_aload_n hx hb dX7_synonyms_35 rfl (lv_at hl 1 rfl) ?_
        refine va_get (D := g.1) (ci := 7) (v := .ref ga) (C := RX7) (T := TX7) (N := 12) hx hb hts (fun _ h => (List.mem_cons_of_mem _ (List.mem_append_right _ h))) hown hK.1 hP 0 rfl rfl 4 (by decide) (hts _ (List.mem_cons_of_mem _ (List.mem_append_left _ (List.mem_of_getElem? (i := 0) rfl)))) (fun _ h9 => h9) rfl dX7_synonyms_36 ?_
        refine lv_iload_n hx hb dX7_synonyms_39 rfl (lv_at hl 3 rfl) ?_
        refine nv_iald (v := nI (gr b1)) hx hb hK hP 5 rfl (by omega) (by decide) rfl dX7_synonyms_40 ?_
        refine lv_istore (lv' := [(4, .int (nI (gr b1))), (3, .int (nI (gr a1))), (0, .ref o), (1, .int (nI a1)), (2, .int (nI b1))]) hx hb dX7_synonyms_41 hl (by decide) rfl (fun ls hl => ?_)
        refine lv_iconst (v := nI (0)) hx hb dX7_synonyms_43 (by decide) ?_
        refine lv_istore (lv' := [(5, .int (nI 0)), (4, .int (nI (gr b1))), (3, .int (nI (gr a1))), (0, .ref o), (1, .int (nI a1)), (2, .int (nI b1))]) hx hb dX7_synonyms_44 hl (by decide) rfl (fun ls hl => ?_)
        have lp : ∀ (k9 : Nat) (i : Nat) (hi : i ≤ 32) , 32 - i < k9 → ∀ (H : Heap) (locs : List Loc), va_P g.1 vwCl [(o, .inr (7, [.ref ia, .ref wa, .ref ha, .ref oa, .ref ga, .ref ca, .ref ma, .ref ba, .ref ka, .int (oI (hnt)), .int (nI gd), .int (nI 0)])), (ia, .inl (gI g, 4, .inl (rM (idn)))), (wa, .inl (gI g, 20, .inl (rM (wd)))), (ha, .inl (gZ g, 400, .inl (rB (hs)))), (oa, .inl (gZ g, 400, .inl (rB (ho)))), (ga, .inl (gI g, 32, .inl (rM (jn gr (gr a1) (gr b1) i)))), (ca, .inl (gI g, 16, .inl (rO (ch)))), (ma, .inl (gI g, 5, .inl (rO (mt)))), (ba, .inl (gI g, 5, .inl (rO (bs)))), (ka, .inl (gI g, 5, .inl (rO (bk))))] H → va_D A [(o, .inr (7, [.ref ia, .ref wa, .ref ha, .ref oa, .ref ga, .ref ca, .ref ma, .ref ba, .ref ka, .int (oI (hnt)), .int (nI gd), .int (nI 0)])), (ia, .inl (gI g, 4, .inl (rM (idn)))), (wa, .inl (gI g, 20, .inl (rM (wd)))), (ha, .inl (gZ g, 400, .inl (rB (hs)))), (oa, .inl (gZ g, 400, .inl (rB (ho)))), (ga, .inl (gI g, 32, .inl (rM (jn gr (gr a1) (gr b1) i)))), (ca, .inl (gI g, 16, .inl (rO (ch)))), (ma, .inl (gI g, 5, .inl (rO (mt)))), (ba, .inl (gI g, 5, .inl (rO (bs)))), (ka, .inl (gI g, 5, .inl (rO (bk))))] → va_S A s0.heap H locs → ∀ ls : Array Slot, lv_has ls 6 [(5, .int (nI i)), (3, .int (nI (gr a1))), (4, .int (nI (gr b1))), (0, .ref o), (1, .int (nI a1)), (2, .int (nI b1))] → W pg l ev (rmL 2) s0 mi ([.ref o, .int (nI a1), .int (nI b1)] : List Value).toArray below meth cd H locs 0 0 (MQ below (va_Qi (fun x1 w1 => x1 = b2i (decide (gr a1 = gr b1)) ∧ w1 = [(o, .inr (7, [.ref ia, .ref wa, .ref ha, .ref oa, .ref ga, .ref ca, .ref ma, .ref ba, .ref ka, .int (oI (hnt)), .int (nI gd), .int (nI 0)])), (ia, .inl (gI g, 4, .inl (rM (idn)))), (wa, .inl (gI g, 20, .inl (rM (wd)))), (ha, .inl (gZ g, 400, .inl (rB (hs)))), (oa, .inl (gZ g, 400, .inl (rB (ho)))), (ga, .inl (gI g, 32, .inl (rM (jn gr (gr a1) (gr b1) 32)))), (ca, .inl (gI g, 16, .inl (rO (ch)))), (ma, .inl (gI g, 5, .inl (rO (mt)))), (ba, .inl (gI g, 5, .inl (rO (bs)))), (ka, .inl (gI g, 5, .inl (rO (bk))))]) (iB g [(o, .inr (7, [.ref ia, .ref wa, .ref ha, .ref oa, .ref ga, .ref ca, .ref ma, .ref ba, .ref ka, .int (oI (hnt)), .int (nI gd), .int (nI tn)])), (ia, .inl (gI g, 4, .inl (rM (idn)))), (wa, .inl (gI g, 20, .inl (rM (wd)))), (ha, .inl (gZ g, 400, .inl (rB (hs)))), (oa, .inl (gZ g, 400, .inl (rB (ho)))), (ga, .inl (gI g, 32, .inl (rM (gr)))), (ca, .inl (gI g, 16, .inl (rO (ch)))), (ma, .inl (gI g, 5, .inl (rO (mt)))), (ba, .inl (gI g, 5, .inl (rO (bs)))), (ka, .inl (gI g, 5, .inl (rO (bk))))]) A) ([.ref o, .int (nI a1), .int (nI b1)] : List Value).toArray s0 0 0 A) (F0 mi 46 ls []) := by
          intro k9
          induction k9 with
          | zero => intros; omega
          | succ k9 lp_ih =>
            intro i hi hmz H locs hP hD hS ls hl
            refine lv_iload hx hb dX7_synonyms_46 (lv_at hl 0 rfl) ?_
            refine lv_bipush (v := nI (32)) hx hb dX7_synonyms_48 (by decide) ?_
            refine nv_icmp_ge (tgt := 89) hx hb (by omega) (by omega) dX7_synonyms_50 (by decide) (fun c_4 => ?_) (fun c_4 => ?_)
            · skip
              have ei : i = 32 := by omega
              subst ei
              refine lv_iload_n hx hb dX7_synonyms_89 rfl (lv_at hl 1 rfl) ?_
              refine lv_iload hx hb dX7_synonyms_90 (lv_at hl 2 rfl) ?_
              refine nv_icmp_ne (tgt := 99) hx hb (by have := hg a1; omega) (by have := hg b1; omega) dX7_synonyms_92 (by decide) (fun c_5 => ?_) (fun c_5 => ?_)
              · skip
                refine lv_iconst (v := nI (0)) hx hb dX7_synonyms_99 (by decide) ?_
                exact im_retz (w1 := [(o, .inr (7, [.ref ia, .ref wa, .ref ha, .ref oa, .ref ga, .ref ca, .ref ma, .ref ba, .ref ka, .int (oI (hnt)), .int (nI gd), .int (nI 0)])), (ia, .inl (gI g, 4, .inl (rM (idn)))), (wa, .inl (gI g, 20, .inl (rM (wd)))), (ha, .inl (gZ g, 400, .inl (rB (hs)))), (oa, .inl (gZ g, 400, .inl (rB (ho)))), (ga, .inl (gI g, 32, .inl (rM (jn gr (gr a1) (gr b1) 32)))), (ca, .inl (gI g, 16, .inl (rO (ch)))), (ma, .inl (gI g, 5, .inl (rO (mt)))), (ba, .inl (gI g, 5, .inl (rO (bs)))), (ka, .inl (gI g, 5, .inl (rO (bk))))]) (v := nI (0)) hx hb hr hlocks hP hS rfl ⟨by simp only [*]; rfl, rfl⟩ (by first | exact b2i_nar _ | rfl) dX7_synonyms_100
              · skip
                refine lv_iconst (v := nI (1)) hx hb dX7_synonyms_95 (by decide) ?_
                refine lv_goto (tgt := 100) hx hb dX7_synonyms_96 (by decide) ?_
                exact im_retz (w1 := [(o, .inr (7, [.ref ia, .ref wa, .ref ha, .ref oa, .ref ga, .ref ca, .ref ma, .ref ba, .ref ka, .int (oI (hnt)), .int (nI gd), .int (nI 0)])), (ia, .inl (gI g, 4, .inl (rM (idn)))), (wa, .inl (gI g, 20, .inl (rM (wd)))), (ha, .inl (gZ g, 400, .inl (rB (hs)))), (oa, .inl (gZ g, 400, .inl (rB (ho)))), (ga, .inl (gI g, 32, .inl (rM (jn gr (gr a1) (gr b1) 32)))), (ca, .inl (gI g, 16, .inl (rO (ch)))), (ma, .inl (gI g, 5, .inl (rO (mt)))), (ba, .inl (gI g, 5, .inl (rO (bs)))), (ka, .inl (gI g, 5, .inl (rO (bk))))]) (v := nI (1)) hx hb hr hlocks hP hS rfl ⟨by simp only [*]; rfl, rfl⟩ (by first | exact b2i_nar _ | rfl) dX7_synonyms_100
            · skip
              refine lv_aload_n hx hb dX7_synonyms_53 rfl (lv_at hl 3 rfl) ?_
              refine va_get (D := g.1) (ci := 7) (v := .ref ga) (C := RX7) (T := TX7) (N := 12) hx hb hts (fun _ h => (List.mem_cons_of_mem _ (List.mem_append_right _ h))) hown hK.1 hP 0 rfl rfl 4 (by decide) (hts _ (List.mem_cons_of_mem _ (List.mem_append_left _ (List.mem_of_getElem? (i := 0) rfl)))) (fun _ h9 => h9) rfl dX7_synonyms_54 ?_
              refine lv_iload hx hb dX7_synonyms_57 (lv_at hl 0 rfl) ?_
              refine lv_aload_n hx hb dX7_synonyms_59 rfl (lv_at hl 3 rfl) ?_
              refine va_get (D := g.1) (ci := 7) (v := .ref ga) (C := RX7) (T := TX7) (N := 12) hx hb hts (fun _ h => (List.mem_cons_of_mem _ (List.mem_append_right _ h))) hown hK.1 hP 0 rfl rfl 4 (by decide) (hts _ (List.mem_cons_of_mem _ (List.mem_append_left _ (List.mem_of_getElem? (i := 0) rfl)))) (fun _ h9 => h9) rfl dX7_synonyms_60 ?_
              refine lv_iload hx hb dX7_synonyms_63 (lv_at hl 0 rfl) ?_
              refine nv_iald (v := nI ((jn gr (gr a1) (gr b1) i) i)) hx hb hK hP 5 rfl (by omega) (by decide) rfl dX7_synonyms_65 ?_
              refine lv_iload hx hb dX7_synonyms_66 (lv_at hl 2 rfl) ?_
              refine nv_icmp_ne (tgt := 75) hx hb (by have := jn_ok (gr := gr) (kept := gr a1) (left := gr b1) (i := i) hg (hg _) i; omega) (by have := hg b1; omega) dX7_synonyms_68 (by decide) (fun c_6 => ?_) (fun c_6 => ?_)
              · skip
                refine lv_aload_n hx hb dX7_synonyms_75 rfl (lv_at hl 3 rfl) ?_
                refine va_get (D := g.1) (ci := 7) (v := .ref ga) (C := RX7) (T := TX7) (N := 12) hx hb hts (fun _ h => (List.mem_cons_of_mem _ (List.mem_append_right _ h))) hown hK.1 hP 0 rfl rfl 4 (by decide) (hts _ (List.mem_cons_of_mem _ (List.mem_append_left _ (List.mem_of_getElem? (i := 0) rfl)))) (fun _ h9 => h9) rfl dX7_synonyms_76 ?_
                refine lv_iload hx hb dX7_synonyms_79 (lv_at hl 0 rfl) ?_
                refine nv_iald (v := nI ((jn gr (gr a1) (gr b1) i) i)) hx hb hK hP 5 rfl (by omega) (by decide) rfl dX7_synonyms_81 ?_
                refine nv_iast (f' := rM (va_up (jn gr (gr a1) (gr b1) i) i ((jn gr (gr a1) (gr b1) i) i))) hx hb hK hP hD hS 5 rfl (by omega) (by decide) (upd_rM _ _ _) dX7_synonyms_82 (fun H locs hP hD hS => ?_)
                have hP : va_P g.1 vwCl [(o, .inr (7, [.ref ia, .ref wa, .ref ha, .ref oa, .ref ga, .ref ca, .ref ma, .ref ba, .ref ka, .int (oI (hnt)), .int (nI gd), .int (nI 0)])), (ia, .inl (gI g, 4, .inl (rM (idn)))), (wa, .inl (gI g, 20, .inl (rM (wd)))), (ha, .inl (gZ g, 400, .inl (rB (hs)))), (oa, .inl (gZ g, 400, .inl (rB (ho)))), (ga, .inl (gI g, 32, .inl (rM (va_up (jn gr (gr a1) (gr b1) i) i ((jn gr (gr a1) (gr b1) i) i))))), (ca, .inl (gI g, 16, .inl (rO (ch)))), (ma, .inl (gI g, 5, .inl (rO (mt)))), (ba, .inl (gI g, 5, .inl (rO (bs)))), (ka, .inl (gI g, 5, .inl (rO (bk))))] H := hP
                have hD : va_D A [(o, .inr (7, [.ref ia, .ref wa, .ref ha, .ref oa, .ref ga, .ref ca, .ref ma, .ref ba, .ref ka, .int (oI (hnt)), .int (nI gd), .int (nI 0)])), (ia, .inl (gI g, 4, .inl (rM (idn)))), (wa, .inl (gI g, 20, .inl (rM (wd)))), (ha, .inl (gZ g, 400, .inl (rB (hs)))), (oa, .inl (gZ g, 400, .inl (rB (ho)))), (ga, .inl (gI g, 32, .inl (rM (va_up (jn gr (gr a1) (gr b1) i) i ((jn gr (gr a1) (gr b1) i) i))))), (ca, .inl (gI g, 16, .inl (rO (ch)))), (ma, .inl (gI g, 5, .inl (rO (mt)))), (ba, .inl (gI g, 5, .inl (rO (bs)))), (ka, .inl (gI g, 5, .inl (rO (bk))))] := hD
                refine lv_iinc (v := nI (i + 1)) (lv' := [(5, .int (nI (i + 1))), (3, .int (nI (gr a1))), (4, .int (nI (gr b1))), (0, .ref o), (1, .int (nI a1)), (2, .int (nI b1))]) hx hb dX7_synonyms_83 hl (k := 0) rfl (by show nI _ + _ = _; rw [show Int32.ofInt 1 = nI 1 from by decide, nI_add]) (by decide) rfl (fun ls hl => ?_)
                refine lv_goto (tgt := 46) hx hb dX7_synonyms_86 (by decide) ?_
                have eq_1 : (va_up (jn gr (gr a1) (gr b1) i) i ((jn gr (gr a1) (gr b1) i) i)) = (jn gr (gr a1) (gr b1) (i + 1)) := by first | rfl | exact jn_put (by assumption) | (rw [vu_self]; exact jn_keep (by assumption))
                have hl : lv_has ls 6 [(5, .int (nI (i + 1))), (3, .int (nI (gr a1))), (4, .int (nI (gr b1))), (0, .ref o), (1, .int (nI a1)), (2, .int (nI b1))] := by ((try rw [← eq_1]); exact hl)
                have hP : va_P g.1 vwCl [(o, .inr (7, [.ref ia, .ref wa, .ref ha, .ref oa, .ref ga, .ref ca, .ref ma, .ref ba, .ref ka, .int (oI (hnt)), .int (nI gd), .int (nI 0)])), (ia, .inl (gI g, 4, .inl (rM (idn)))), (wa, .inl (gI g, 20, .inl (rM (wd)))), (ha, .inl (gZ g, 400, .inl (rB (hs)))), (oa, .inl (gZ g, 400, .inl (rB (ho)))), (ga, .inl (gI g, 32, .inl (rM (jn gr (gr a1) (gr b1) (i + 1))))), (ca, .inl (gI g, 16, .inl (rO (ch)))), (ma, .inl (gI g, 5, .inl (rO (mt)))), (ba, .inl (gI g, 5, .inl (rO (bs)))), (ka, .inl (gI g, 5, .inl (rO (bk))))] H := by ((try rw [← eq_1]); exact hP)
                have hD : va_D A [(o, .inr (7, [.ref ia, .ref wa, .ref ha, .ref oa, .ref ga, .ref ca, .ref ma, .ref ba, .ref ka, .int (oI (hnt)), .int (nI gd), .int (nI 0)])), (ia, .inl (gI g, 4, .inl (rM (idn)))), (wa, .inl (gI g, 20, .inl (rM (wd)))), (ha, .inl (gZ g, 400, .inl (rB (hs)))), (oa, .inl (gZ g, 400, .inl (rB (ho)))), (ga, .inl (gI g, 32, .inl (rM (jn gr (gr a1) (gr b1) (i + 1))))), (ca, .inl (gI g, 16, .inl (rO (ch)))), (ma, .inl (gI g, 5, .inl (rO (mt)))), (ba, .inl (gI g, 5, .inl (rO (bs)))), (ka, .inl (gI g, 5, .inl (rO (bk))))] := by ((try rw [← eq_1]); exact hD)
                exact lp_ih (i + 1) (by omega)  (by omega) _ _ hP hD hS ls (lv_sub hl [0, 1, 2, 3, 4, 5] rfl)
              · skip
                refine lv_iload_n hx hb dX7_synonyms_71 rfl (lv_at hl 1 rfl) ?_
                refine lv_goto (tgt := 82) hx hb dX7_synonyms_72 (by decide) ?_
                refine nv_iast (f' := rM (va_up (jn gr (gr a1) (gr b1) i) i (gr a1))) hx hb hK hP hD hS 5 rfl (by omega) (by decide) (upd_rM _ _ _) dX7_synonyms_82 (fun H locs hP hD hS => ?_)
                have hP : va_P g.1 vwCl [(o, .inr (7, [.ref ia, .ref wa, .ref ha, .ref oa, .ref ga, .ref ca, .ref ma, .ref ba, .ref ka, .int (oI (hnt)), .int (nI gd), .int (nI 0)])), (ia, .inl (gI g, 4, .inl (rM (idn)))), (wa, .inl (gI g, 20, .inl (rM (wd)))), (ha, .inl (gZ g, 400, .inl (rB (hs)))), (oa, .inl (gZ g, 400, .inl (rB (ho)))), (ga, .inl (gI g, 32, .inl (rM (va_up (jn gr (gr a1) (gr b1) i) i (gr a1))))), (ca, .inl (gI g, 16, .inl (rO (ch)))), (ma, .inl (gI g, 5, .inl (rO (mt)))), (ba, .inl (gI g, 5, .inl (rO (bs)))), (ka, .inl (gI g, 5, .inl (rO (bk))))] H := hP
                have hD : va_D A [(o, .inr (7, [.ref ia, .ref wa, .ref ha, .ref oa, .ref ga, .ref ca, .ref ma, .ref ba, .ref ka, .int (oI (hnt)), .int (nI gd), .int (nI 0)])), (ia, .inl (gI g, 4, .inl (rM (idn)))), (wa, .inl (gI g, 20, .inl (rM (wd)))), (ha, .inl (gZ g, 400, .inl (rB (hs)))), (oa, .inl (gZ g, 400, .inl (rB (ho)))), (ga, .inl (gI g, 32, .inl (rM (va_up (jn gr (gr a1) (gr b1) i) i (gr a1))))), (ca, .inl (gI g, 16, .inl (rO (ch)))), (ma, .inl (gI g, 5, .inl (rO (mt)))), (ba, .inl (gI g, 5, .inl (rO (bs)))), (ka, .inl (gI g, 5, .inl (rO (bk))))] := hD
                refine lv_iinc (v := nI (i + 1)) (lv' := [(5, .int (nI (i + 1))), (3, .int (nI (gr a1))), (4, .int (nI (gr b1))), (0, .ref o), (1, .int (nI a1)), (2, .int (nI b1))]) hx hb dX7_synonyms_83 hl (k := 0) rfl (by show nI _ + _ = _; rw [show Int32.ofInt 1 = nI 1 from by decide, nI_add]) (by decide) rfl (fun ls hl => ?_)
                refine lv_goto (tgt := 46) hx hb dX7_synonyms_86 (by decide) ?_
                have eq_2 : (va_up (jn gr (gr a1) (gr b1) i) i (gr a1)) = (jn gr (gr a1) (gr b1) (i + 1)) := by first | rfl | exact jn_put (by assumption) | (rw [vu_self]; exact jn_keep (by assumption))
                have hl : lv_has ls 6 [(5, .int (nI (i + 1))), (3, .int (nI (gr a1))), (4, .int (nI (gr b1))), (0, .ref o), (1, .int (nI a1)), (2, .int (nI b1))] := by ((try rw [← eq_2]); exact hl)
                have hP : va_P g.1 vwCl [(o, .inr (7, [.ref ia, .ref wa, .ref ha, .ref oa, .ref ga, .ref ca, .ref ma, .ref ba, .ref ka, .int (oI (hnt)), .int (nI gd), .int (nI 0)])), (ia, .inl (gI g, 4, .inl (rM (idn)))), (wa, .inl (gI g, 20, .inl (rM (wd)))), (ha, .inl (gZ g, 400, .inl (rB (hs)))), (oa, .inl (gZ g, 400, .inl (rB (ho)))), (ga, .inl (gI g, 32, .inl (rM (jn gr (gr a1) (gr b1) (i + 1))))), (ca, .inl (gI g, 16, .inl (rO (ch)))), (ma, .inl (gI g, 5, .inl (rO (mt)))), (ba, .inl (gI g, 5, .inl (rO (bs)))), (ka, .inl (gI g, 5, .inl (rO (bk))))] H := by ((try rw [← eq_2]); exact hP)
                have hD : va_D A [(o, .inr (7, [.ref ia, .ref wa, .ref ha, .ref oa, .ref ga, .ref ca, .ref ma, .ref ba, .ref ka, .int (oI (hnt)), .int (nI gd), .int (nI 0)])), (ia, .inl (gI g, 4, .inl (rM (idn)))), (wa, .inl (gI g, 20, .inl (rM (wd)))), (ha, .inl (gZ g, 400, .inl (rB (hs)))), (oa, .inl (gZ g, 400, .inl (rB (ho)))), (ga, .inl (gI g, 32, .inl (rM (jn gr (gr a1) (gr b1) (i + 1))))), (ca, .inl (gI g, 16, .inl (rO (ch)))), (ma, .inl (gI g, 5, .inl (rO (mt)))), (ba, .inl (gI g, 5, .inl (rO (bs)))), (ka, .inl (gI g, 5, .inl (rO (bk))))] := by ((try rw [← eq_2]); exact hD)
                exact lp_ih (i + 1) (by omega)  (by omega) _ _ hP hD hS ls (lv_sub hl [0, 1, 2, 3, 4, 5] rfl)
        have eq_3 : (gr) = (jn gr (gr a1) (gr b1) 0) := by first | rfl | exact (jn_0 _ _ _).symm
        have hl : lv_has ls 6 [(5, .int (nI 0)), (4, .int (nI (gr b1))), (3, .int (nI (gr a1))), (0, .ref o), (1, .int (nI a1)), (2, .int (nI b1))] := by ((try rw [← eq_3]); exact hl)
        have hP : va_P g.1 vwCl [(o, .inr (7, [.ref ia, .ref wa, .ref ha, .ref oa, .ref ga, .ref ca, .ref ma, .ref ba, .ref ka, .int (oI (hnt)), .int (nI gd), .int (nI 0)])), (ia, .inl (gI g, 4, .inl (rM (idn)))), (wa, .inl (gI g, 20, .inl (rM (wd)))), (ha, .inl (gZ g, 400, .inl (rB (hs)))), (oa, .inl (gZ g, 400, .inl (rB (ho)))), (ga, .inl (gI g, 32, .inl (rM (jn gr (gr a1) (gr b1) 0)))), (ca, .inl (gI g, 16, .inl (rO (ch)))), (ma, .inl (gI g, 5, .inl (rO (mt)))), (ba, .inl (gI g, 5, .inl (rO (bs)))), (ka, .inl (gI g, 5, .inl (rO (bk))))] H := by ((try rw [← eq_3]); exact hP)
        have hD : va_D A [(o, .inr (7, [.ref ia, .ref wa, .ref ha, .ref oa, .ref ga, .ref ca, .ref ma, .ref ba, .ref ka, .int (oI (hnt)), .int (nI gd), .int (nI 0)])), (ia, .inl (gI g, 4, .inl (rM (idn)))), (wa, .inl (gI g, 20, .inl (rM (wd)))), (ha, .inl (gZ g, 400, .inl (rB (hs)))), (oa, .inl (gZ g, 400, .inl (rB (ho)))), (ga, .inl (gI g, 32, .inl (rM (jn gr (gr a1) (gr b1) 0)))), (ca, .inl (gI g, 16, .inl (rO (ch)))), (ma, .inl (gI g, 5, .inl (rO (mt)))), (ba, .inl (gI g, 5, .inl (rO (bs)))), (ka, .inl (gI g, 5, .inl (rO (bk))))] := by ((try rw [← eq_3]); exact hD)
        exact lp (32 + 1) 0 (Nat.zero_le _)  (by omega) _ _ hP hD hS ls (lv_sub hl [0, 2, 1, 3, 4, 5] rfl)
      · skip
        exfalso; first | exact c_3 | omega | (simp at c_3; done) | (exact absurd c_3 (by simp))

set_option maxRecDepth 100000 in
set_option maxHeartbeats 4000000 in
theorem c_X7_synonyms_a (l : Launch) (g : GG) (o ia wa ha oa ga ca ma ba ka : Nat) (idn wd : Nat → Nat) (hs ho : Nat → Bool) (gr : Nat → Nat) (ch mt bs bk : Nat → Option Nat) (hnt : Option Nat) (gd tn : Nat) (v w : Int32) (hbd : inR v 32 = false) : IM l yX7_synonyms wsX7_synonyms 2 g [.ref o, .int (v), .int (w)] [(o, .inr (7, [.ref ia, .ref wa, .ref ha, .ref oa, .ref ga, .ref ca, .ref ma, .ref ba, .ref ka, .int (oI (hnt)), .int (nI gd), .int (nI tn)])), (ia, .inl (gI g, 4, .inl (rM (idn)))), (wa, .inl (gI g, 20, .inl (rM (wd)))), (ha, .inl (gZ g, 400, .inl (rB (hs)))), (oa, .inl (gZ g, 400, .inl (rB (ho)))), (ga, .inl (gI g, 32, .inl (rM (gr)))), (ca, .inl (gI g, 16, .inl (rO (ch)))), (ma, .inl (gI g, 5, .inl (rO (mt)))), (ba, .inl (gI g, 5, .inl (rO (bs)))), (ka, .inl (gI g, 5, .inl (rO (bk))))] (fun x1 w1 => x1 = b2i false ∧ w1 = [(o, .inr (7, [.ref ia, .ref wa, .ref ha, .ref oa, .ref ga, .ref ca, .ref ma, .ref ba, .ref ka, .int (oI (hnt)), .int (nI gd), .int (nI 1)])), (ia, .inl (gI g, 4, .inl (rM (idn)))), (wa, .inl (gI g, 20, .inl (rM (wd)))), (ha, .inl (gZ g, 400, .inl (rB (hs)))), (oa, .inl (gZ g, 400, .inl (rB (ho)))), (ga, .inl (gI g, 32, .inl (rM (gr)))), (ca, .inl (gI g, 16, .inl (rO (ch)))), (ma, .inl (gI g, 5, .inl (rO (mt)))), (ba, .inl (gI g, 5, .inl (rO (bs)))), (ka, .inl (gI g, 5, .inl (rO (bk))))]) := by
  refine fun sz => im_body (Qc := fun A => va_Qi _ (iB g _) A) (cc := cX7_synonyms) (maxL := 6) (ret := (some .boolean)) (by decide) rfl (Nat.le_of_ble_eq_true rfl) ?_ sz
  intro pg ev s0 mi below meth cd A hx hb hr hml hts hown hlocks hK hA H hP hD hS ls hl
  have hl : lv_has ls 6 [(0, .ref o), (1, .int (v)), (2, .int (w))] := hl
  refine lv_aload_n hx hb dX7_synonyms_0 rfl (lv_at hl 0 rfl) ?_
  refine lv_iload_n hx hb dX7_synonyms_1 rfl (lv_at hl 1 rfl) ?_
  refine im_S (k := 1) hx hb hml hown hts (c_X7_isWord l g (v)) gX7_synonyms_X7_isWord rfl (by decide +kernel) ⟨Nat.le_of_ble_eq_true rfl, Nat.le_of_ble_eq_true rfl⟩ ⟨Nat.zero_le _, Nat.zero_le _⟩ hK hP hD hS hA [] rfl (by decide) rfl hl.1 (rest := [.ref o]) (As := [.int (v)]) rfl (Nat.le_of_ble_eq_true rfl) dX7_synonyms_2 (fun x1 w1 H locs hpo hpd hS => ?_)
  obtain ⟨hx1, rfl⟩ := hpo
  rw [hbd] at hx1
  have hx1 : x1 = b2i (false) := hx1
  subst hx1
  obtain ⟨hP, hD⟩ := hpd [(o, .inr (7, [.ref ia, .ref wa, .ref ha, .ref oa, .ref ga, .ref ca, .ref ma, .ref ba, .ref ka, .int (oI (hnt)), .int (nI gd), .int (nI tn)])), (ia, .inl (gI g, 4, .inl (rM (idn)))), (wa, .inl (gI g, 20, .inl (rM (wd)))), (ha, .inl (gZ g, 400, .inl (rB (hs)))), (oa, .inl (gZ g, 400, .inl (rB (ho)))), (ga, .inl (gI g, 32, .inl (rM (gr)))), (ca, .inl (gI g, 16, .inl (rO (ch)))), (ma, .inl (gI g, 5, .inl (rO (mt)))), (ba, .inl (gI g, 5, .inl (rO (bs)))), (ka, .inl (gI g, 5, .inl (rO (bk))))] [0, 1, 2, 3, 4, 5, 6, 7, 8, 9] 10 rfl rfl [(o, .inr (7, [.ref ia, .ref wa, .ref ha, .ref oa, .ref ga, .ref ca, .ref ma, .ref ba, .ref ka, .int (oI (hnt)), .int (nI gd), .int (nI tn)])), (ia, .inl (gI g, 4, .inl (rM (idn)))), (wa, .inl (gI g, 20, .inl (rM (wd)))), (ha, .inl (gZ g, 400, .inl (rB (hs)))), (oa, .inl (gZ g, 400, .inl (rB (ho)))), (ga, .inl (gI g, 32, .inl (rM (gr)))), (ca, .inl (gI g, 16, .inl (rO (ch)))), (ma, .inl (gI g, 5, .inl (rO (mt)))), (ba, .inl (gI g, 5, .inl (rO (bs)))), (ka, .inl (gI g, 5, .inl (rO (bk))))] rfl rfl (by decide) (by decide)
  refine bv_if_eq (tgt := 19) hx hb dX7_synonyms_5 (by decide) (fun c_1 => ?_) (fun c_1 => ?_)
  · skip
    refine lv_iconst (v := nI (0)) hx hb dX7_synonyms_19 (by decide) ?_
    refine im_V (k := 1) hx hb hml hown hts (c_X7_asks_f l g o ia wa ha oa ga ca ma ba ka (idn) (wd) (hs) (ho) (gr) (ch) (mt) (bs) (bk) (hnt) (gd) (tn)) gX7_synonyms_X7_asks rfl (by decide +kernel) ⟨Nat.le_of_ble_eq_true rfl, Nat.le_of_ble_eq_true rfl⟩ ⟨Nat.zero_le _, Nat.zero_le _⟩ hK hP hD hS hA [0, 1, 2, 3, 4, 5, 6, 7, 8, 9] rfl (by decide) 0 7 rfl rfl rfl hl.1 (rest := []) (As := [.int (nI 0)]) rfl (Nat.le_of_ble_eq_true rfl) dX7_synonyms_20 (fun x1 w1 H locs hpo hpd hS => ?_)
    obtain ⟨hx1, rfl⟩ := hpo
    have hx1 : x1 = b2i (false) := hx1
    subst hx1
    obtain ⟨hP, hD⟩ := hpd [(o, .inr (7, [.ref ia, .ref wa, .ref ha, .ref oa, .ref ga, .ref ca, .ref ma, .ref ba, .ref ka, .int (oI (hnt)), .int (nI gd), .int (nI 1)])), (ia, .inl (gI g, 4, .inl (rM (idn)))), (wa, .inl (gI g, 20, .inl (rM (wd)))), (ha, .inl (gZ g, 400, .inl (rB (hs)))), (oa, .inl (gZ g, 400, .inl (rB (ho)))), (ga, .inl (gI g, 32, .inl (rM (gr)))), (ca, .inl (gI g, 16, .inl (rO (ch)))), (ma, .inl (gI g, 5, .inl (rO (mt)))), (ba, .inl (gI g, 5, .inl (rO (bs)))), (ka, .inl (gI g, 5, .inl (rO (bk))))] [] 10 rfl rfl [] rfl rfl (by decide) (by decide)
    refine bv_if_ne (tgt := 28) hx hb dX7_synonyms_23 (by decide) (fun c_2 => ?_) (fun c_2 => ?_)
    · skip
      exfalso; first | exact c_2 | omega | (simp at c_2; done) | (exact absurd c_2 (by simp))
    · skip
      refine lv_iconst (v := nI (0)) hx hb dX7_synonyms_26 (by decide) ?_
      exact im_retz (w1 := [(o, .inr (7, [.ref ia, .ref wa, .ref ha, .ref oa, .ref ga, .ref ca, .ref ma, .ref ba, .ref ka, .int (oI (hnt)), .int (nI gd), .int (nI 1)])), (ia, .inl (gI g, 4, .inl (rM (idn)))), (wa, .inl (gI g, 20, .inl (rM (wd)))), (ha, .inl (gZ g, 400, .inl (rB (hs)))), (oa, .inl (gZ g, 400, .inl (rB (ho)))), (ga, .inl (gI g, 32, .inl (rM (gr)))), (ca, .inl (gI g, 16, .inl (rO (ch)))), (ma, .inl (gI g, 5, .inl (rO (mt)))), (ba, .inl (gI g, 5, .inl (rO (bs)))), (ka, .inl (gI g, 5, .inl (rO (bk))))]) (v := nI (0)) hx hb hr hlocks hP hS rfl ⟨rfl, rfl⟩ (by first | exact b2i_nar _ | rfl) dX7_synonyms_27
  · skip
    exfalso; first | exact c_1 | omega | (simp at c_1; done) | (exact absurd c_1 (by simp))

set_option maxRecDepth 100000 in
set_option maxHeartbeats 4000000 in
theorem c_X7_synonyms_b (l : Launch) (g : GG) (o ia wa ha oa ga ca ma ba ka : Nat) (idn wd : Nat → Nat) (hs ho : Nat → Bool) (gr : Nat → Nat) (ch mt bs bk : Nat → Option Nat) (hnt : Option Nat) (gd tn : Nat) (a1 : Nat) (w : Int32) (ha1 : a1 < 32) (hbd : inR w 32 = false) : IM l yX7_synonyms wsX7_synonyms 2 g [.ref o, .int (nI a1), .int (w)] [(o, .inr (7, [.ref ia, .ref wa, .ref ha, .ref oa, .ref ga, .ref ca, .ref ma, .ref ba, .ref ka, .int (oI (hnt)), .int (nI gd), .int (nI tn)])), (ia, .inl (gI g, 4, .inl (rM (idn)))), (wa, .inl (gI g, 20, .inl (rM (wd)))), (ha, .inl (gZ g, 400, .inl (rB (hs)))), (oa, .inl (gZ g, 400, .inl (rB (ho)))), (ga, .inl (gI g, 32, .inl (rM (gr)))), (ca, .inl (gI g, 16, .inl (rO (ch)))), (ma, .inl (gI g, 5, .inl (rO (mt)))), (ba, .inl (gI g, 5, .inl (rO (bs)))), (ka, .inl (gI g, 5, .inl (rO (bk))))] (fun x1 w1 => x1 = b2i false ∧ w1 = [(o, .inr (7, [.ref ia, .ref wa, .ref ha, .ref oa, .ref ga, .ref ca, .ref ma, .ref ba, .ref ka, .int (oI (hnt)), .int (nI gd), .int (nI 1)])), (ia, .inl (gI g, 4, .inl (rM (idn)))), (wa, .inl (gI g, 20, .inl (rM (wd)))), (ha, .inl (gZ g, 400, .inl (rB (hs)))), (oa, .inl (gZ g, 400, .inl (rB (ho)))), (ga, .inl (gI g, 32, .inl (rM (gr)))), (ca, .inl (gI g, 16, .inl (rO (ch)))), (ma, .inl (gI g, 5, .inl (rO (mt)))), (ba, .inl (gI g, 5, .inl (rO (bs)))), (ka, .inl (gI g, 5, .inl (rO (bk))))]) := by
  refine fun sz => im_body (Qc := fun A => va_Qi _ (iB g _) A) (cc := cX7_synonyms) (maxL := 6) (ret := (some .boolean)) (by decide) rfl (Nat.le_of_ble_eq_true rfl) ?_ sz
  intro pg ev s0 mi below meth cd A hx hb hr hml hts hown hlocks hK hA H hP hD hS ls hl
  have hl : lv_has ls 6 [(0, .ref o), (1, .int (nI a1)), (2, .int (w))] := hl
  refine lv_aload_n hx hb dX7_synonyms_0 rfl (lv_at hl 0 rfl) ?_
  refine lv_iload_n hx hb dX7_synonyms_1 rfl (lv_at hl 1 rfl) ?_
  refine im_S (k := 1) hx hb hml hown hts (c_X7_isWord l g (nI (a1))) gX7_synonyms_X7_isWord rfl (by decide +kernel) ⟨Nat.le_of_ble_eq_true rfl, Nat.le_of_ble_eq_true rfl⟩ ⟨Nat.zero_le _, Nat.zero_le _⟩ hK hP hD hS hA [] rfl (by decide) rfl hl.1 (rest := [.ref o]) (As := [.int (nI a1)]) rfl (Nat.le_of_ble_eq_true rfl) dX7_synonyms_2 (fun x1 w1 H locs hpo hpd hS => ?_)
  obtain ⟨hx1, rfl⟩ := hpo
  rw [inR_nI (by omega) (by decide)] at hx1
  have hx1 : x1 = b2i (true) := hx1
  subst hx1
  obtain ⟨hP, hD⟩ := hpd [(o, .inr (7, [.ref ia, .ref wa, .ref ha, .ref oa, .ref ga, .ref ca, .ref ma, .ref ba, .ref ka, .int (oI (hnt)), .int (nI gd), .int (nI tn)])), (ia, .inl (gI g, 4, .inl (rM (idn)))), (wa, .inl (gI g, 20, .inl (rM (wd)))), (ha, .inl (gZ g, 400, .inl (rB (hs)))), (oa, .inl (gZ g, 400, .inl (rB (ho)))), (ga, .inl (gI g, 32, .inl (rM (gr)))), (ca, .inl (gI g, 16, .inl (rO (ch)))), (ma, .inl (gI g, 5, .inl (rO (mt)))), (ba, .inl (gI g, 5, .inl (rO (bs)))), (ka, .inl (gI g, 5, .inl (rO (bk))))] [0, 1, 2, 3, 4, 5, 6, 7, 8, 9] 10 rfl rfl [(o, .inr (7, [.ref ia, .ref wa, .ref ha, .ref oa, .ref ga, .ref ca, .ref ma, .ref ba, .ref ka, .int (oI (hnt)), .int (nI gd), .int (nI tn)])), (ia, .inl (gI g, 4, .inl (rM (idn)))), (wa, .inl (gI g, 20, .inl (rM (wd)))), (ha, .inl (gZ g, 400, .inl (rB (hs)))), (oa, .inl (gZ g, 400, .inl (rB (ho)))), (ga, .inl (gI g, 32, .inl (rM (gr)))), (ca, .inl (gI g, 16, .inl (rO (ch)))), (ma, .inl (gI g, 5, .inl (rO (mt)))), (ba, .inl (gI g, 5, .inl (rO (bs)))), (ka, .inl (gI g, 5, .inl (rO (bk))))] rfl rfl (by decide) (by decide)
  refine bv_if_eq (tgt := 19) hx hb dX7_synonyms_5 (by decide) (fun c_1 => ?_) (fun c_1 => ?_)
  · skip
    exfalso; first | exact c_1 | omega | (simp at c_1; done) | (exact absurd c_1 (by simp))
  · skip
    refine lv_iload_n hx hb dX7_synonyms_8 rfl (lv_at hl 2 rfl) ?_
    refine im_S (k := 1) hx hb hml hown hts (c_X7_isWord l g (w)) gX7_synonyms_X7_isWord rfl (by decide +kernel) ⟨Nat.le_of_ble_eq_true rfl, Nat.le_of_ble_eq_true rfl⟩ ⟨Nat.zero_le _, Nat.zero_le _⟩ hK hP hD hS hA [] rfl (by decide) rfl hl.1 (rest := [.ref o]) (As := [.int (w)]) rfl (Nat.le_of_ble_eq_true rfl) dX7_synonyms_9 (fun x1 w1 H locs hpo hpd hS => ?_)
    obtain ⟨hx1, rfl⟩ := hpo
    rw [hbd] at hx1
    have hx1 : x1 = b2i (false) := hx1
    subst hx1
    obtain ⟨hP, hD⟩ := hpd [(o, .inr (7, [.ref ia, .ref wa, .ref ha, .ref oa, .ref ga, .ref ca, .ref ma, .ref ba, .ref ka, .int (oI (hnt)), .int (nI gd), .int (nI tn)])), (ia, .inl (gI g, 4, .inl (rM (idn)))), (wa, .inl (gI g, 20, .inl (rM (wd)))), (ha, .inl (gZ g, 400, .inl (rB (hs)))), (oa, .inl (gZ g, 400, .inl (rB (ho)))), (ga, .inl (gI g, 32, .inl (rM (gr)))), (ca, .inl (gI g, 16, .inl (rO (ch)))), (ma, .inl (gI g, 5, .inl (rO (mt)))), (ba, .inl (gI g, 5, .inl (rO (bs)))), (ka, .inl (gI g, 5, .inl (rO (bk))))] [0, 1, 2, 3, 4, 5, 6, 7, 8, 9] 10 rfl rfl [(o, .inr (7, [.ref ia, .ref wa, .ref ha, .ref oa, .ref ga, .ref ca, .ref ma, .ref ba, .ref ka, .int (oI (hnt)), .int (nI gd), .int (nI tn)])), (ia, .inl (gI g, 4, .inl (rM (idn)))), (wa, .inl (gI g, 20, .inl (rM (wd)))), (ha, .inl (gZ g, 400, .inl (rB (hs)))), (oa, .inl (gZ g, 400, .inl (rB (ho)))), (ga, .inl (gI g, 32, .inl (rM (gr)))), (ca, .inl (gI g, 16, .inl (rO (ch)))), (ma, .inl (gI g, 5, .inl (rO (mt)))), (ba, .inl (gI g, 5, .inl (rO (bs)))), (ka, .inl (gI g, 5, .inl (rO (bk))))] rfl rfl (by decide) (by decide)
    refine bv_if_eq (tgt := 19) hx hb dX7_synonyms_12 (by decide) (fun c_2 => ?_) (fun c_2 => ?_)
    · skip
      refine lv_iconst (v := nI (0)) hx hb dX7_synonyms_19 (by decide) ?_
      refine im_V (k := 1) hx hb hml hown hts (c_X7_asks_f l g o ia wa ha oa ga ca ma ba ka (idn) (wd) (hs) (ho) (gr) (ch) (mt) (bs) (bk) (hnt) (gd) (tn)) gX7_synonyms_X7_asks rfl (by decide +kernel) ⟨Nat.le_of_ble_eq_true rfl, Nat.le_of_ble_eq_true rfl⟩ ⟨Nat.zero_le _, Nat.zero_le _⟩ hK hP hD hS hA [0, 1, 2, 3, 4, 5, 6, 7, 8, 9] rfl (by decide) 0 7 rfl rfl rfl hl.1 (rest := []) (As := [.int (nI 0)]) rfl (Nat.le_of_ble_eq_true rfl) dX7_synonyms_20 (fun x1 w1 H locs hpo hpd hS => ?_)
      obtain ⟨hx1, rfl⟩ := hpo
      have hx1 : x1 = b2i (false) := hx1
      subst hx1
      obtain ⟨hP, hD⟩ := hpd [(o, .inr (7, [.ref ia, .ref wa, .ref ha, .ref oa, .ref ga, .ref ca, .ref ma, .ref ba, .ref ka, .int (oI (hnt)), .int (nI gd), .int (nI 1)])), (ia, .inl (gI g, 4, .inl (rM (idn)))), (wa, .inl (gI g, 20, .inl (rM (wd)))), (ha, .inl (gZ g, 400, .inl (rB (hs)))), (oa, .inl (gZ g, 400, .inl (rB (ho)))), (ga, .inl (gI g, 32, .inl (rM (gr)))), (ca, .inl (gI g, 16, .inl (rO (ch)))), (ma, .inl (gI g, 5, .inl (rO (mt)))), (ba, .inl (gI g, 5, .inl (rO (bs)))), (ka, .inl (gI g, 5, .inl (rO (bk))))] [] 10 rfl rfl [] rfl rfl (by decide) (by decide)
      refine bv_if_ne (tgt := 28) hx hb dX7_synonyms_23 (by decide) (fun c_3 => ?_) (fun c_3 => ?_)
      · skip
        exfalso; first | exact c_3 | omega | (simp at c_3; done) | (exact absurd c_3 (by simp))
      · skip
        refine lv_iconst (v := nI (0)) hx hb dX7_synonyms_26 (by decide) ?_
        exact im_retz (w1 := [(o, .inr (7, [.ref ia, .ref wa, .ref ha, .ref oa, .ref ga, .ref ca, .ref ma, .ref ba, .ref ka, .int (oI (hnt)), .int (nI gd), .int (nI 1)])), (ia, .inl (gI g, 4, .inl (rM (idn)))), (wa, .inl (gI g, 20, .inl (rM (wd)))), (ha, .inl (gZ g, 400, .inl (rB (hs)))), (oa, .inl (gZ g, 400, .inl (rB (ho)))), (ga, .inl (gI g, 32, .inl (rM (gr)))), (ca, .inl (gI g, 16, .inl (rO (ch)))), (ma, .inl (gI g, 5, .inl (rO (mt)))), (ba, .inl (gI g, 5, .inl (rO (bs)))), (ka, .inl (gI g, 5, .inl (rO (bk))))]) (v := nI (0)) hx hb hr hlocks hP hS rfl ⟨rfl, rfl⟩ (by first | exact b2i_nar _ | rfl) dX7_synonyms_27
    · skip
      exfalso; first | exact c_2 | omega | (simp at c_2; done) | (exact absurd c_2 (by simp))

set_option maxRecDepth 100000 in
set_option maxHeartbeats 4000000 in
theorem c_X7_chain (l : Launch) (g : GG) (o ia wa ha oa ga ca ma ba ka : Nat) (idn wd : Nat → Nat) (hs ho : Nat → Bool) (gr : Nat → Nat) (ch mt bs bk : Nat → Option Nat) (hnt : Option Nat) (gd tn : Nat) (f t d : Nat) (hf : f < 4) (ht : t < 4) (hd : d < 4) : IM l yX7_chain wsX7_chain 2 g [.ref o, .int (nI f), .int (nI t), .int (nI d)] [(o, .inr (7, [.ref ia, .ref wa, .ref ha, .ref oa, .ref ga, .ref ca, .ref ma, .ref ba, .ref ka, .int (oI (hnt)), .int (nI gd), .int (nI tn)])), (ia, .inl (gI g, 4, .inl (rM (idn)))), (wa, .inl (gI g, 20, .inl (rM (wd)))), (ha, .inl (gZ g, 400, .inl (rB (hs)))), (oa, .inl (gZ g, 400, .inl (rB (ho)))), (ga, .inl (gI g, 32, .inl (rM (gr)))), (ca, .inl (gI g, 16, .inl (rO (ch)))), (ma, .inl (gI g, 5, .inl (rO (mt)))), (ba, .inl (gI g, 5, .inl (rO (bs)))), (ka, .inl (gI g, 5, .inl (rO (bk))))] (fun x1 w1 => x1 = oI (ch (4 * f + t)) ∧ w1 = [(o, .inr (7, [.ref ia, .ref wa, .ref ha, .ref oa, .ref ga, .ref ca, .ref ma, .ref ba, .ref ka, .int (oI (hnt)), .int (nI gd), .int (nI 0)])), (ia, .inl (gI g, 4, .inl (rM (idn)))), (wa, .inl (gI g, 20, .inl (rM (wd)))), (ha, .inl (gZ g, 400, .inl (rB (hs)))), (oa, .inl (gZ g, 400, .inl (rB (ho)))), (ga, .inl (gI g, 32, .inl (rM (gr)))), (ca, .inl (gI g, 16, .inl (rO (va_up ch (4 * f + t) (some d))))), (ma, .inl (gI g, 5, .inl (rO (mt)))), (ba, .inl (gI g, 5, .inl (rO (bs)))), (ka, .inl (gI g, 5, .inl (rO (bk))))]) := by
  refine fun sz => im_body (Qc := fun A => va_Qi _ (iB g _) A) (cc := cX7_chain) (maxL := 5) (ret := (some .int)) (by decide) rfl (Nat.le_of_ble_eq_true rfl) ?_ sz
  intro pg ev s0 mi below meth cd A hx hb hr hml hts hown hlocks hK hA H hP hD hS ls hl
  have hl : lv_has ls 5 [(0, .ref o), (1, .int (nI f)), (2, .int (nI t)), (3, .int (nI d))] := hl
  refine lv_aload_n hx hb dX7_chain_0 rfl (lv_at hl 0 rfl) ?_
  refine lv_iload_n hx hb dX7_chain_1 rfl (lv_at hl 1 rfl) ?_
  refine im_S (k := 1) hx hb hml hown hts (c_X7_isKind l g (nI (f))) gX7_chain_X7_isKind rfl (by decide +kernel) ⟨Nat.le_of_ble_eq_true rfl, Nat.le_of_ble_eq_true rfl⟩ ⟨Nat.zero_le _, Nat.zero_le _⟩ hK hP hD hS hA [] rfl (by decide) rfl hl.1 (rest := [.ref o]) (As := [.int (nI f)]) rfl (Nat.le_of_ble_eq_true rfl) dX7_chain_2 (fun x1 w1 H locs hpo hpd hS => ?_)
  obtain ⟨hx1, rfl⟩ := hpo
  rw [inR_nI (by omega) (by decide)] at hx1
  have hx1 : x1 = b2i (true) := hx1
  subst hx1
  obtain ⟨hP, hD⟩ := hpd [(o, .inr (7, [.ref ia, .ref wa, .ref ha, .ref oa, .ref ga, .ref ca, .ref ma, .ref ba, .ref ka, .int (oI (hnt)), .int (nI gd), .int (nI tn)])), (ia, .inl (gI g, 4, .inl (rM (idn)))), (wa, .inl (gI g, 20, .inl (rM (wd)))), (ha, .inl (gZ g, 400, .inl (rB (hs)))), (oa, .inl (gZ g, 400, .inl (rB (ho)))), (ga, .inl (gI g, 32, .inl (rM (gr)))), (ca, .inl (gI g, 16, .inl (rO (ch)))), (ma, .inl (gI g, 5, .inl (rO (mt)))), (ba, .inl (gI g, 5, .inl (rO (bs)))), (ka, .inl (gI g, 5, .inl (rO (bk))))] [0, 1, 2, 3, 4, 5, 6, 7, 8, 9] 10 rfl rfl [(o, .inr (7, [.ref ia, .ref wa, .ref ha, .ref oa, .ref ga, .ref ca, .ref ma, .ref ba, .ref ka, .int (oI (hnt)), .int (nI gd), .int (nI tn)])), (ia, .inl (gI g, 4, .inl (rM (idn)))), (wa, .inl (gI g, 20, .inl (rM (wd)))), (ha, .inl (gZ g, 400, .inl (rB (hs)))), (oa, .inl (gZ g, 400, .inl (rB (ho)))), (ga, .inl (gI g, 32, .inl (rM (gr)))), (ca, .inl (gI g, 16, .inl (rO (ch)))), (ma, .inl (gI g, 5, .inl (rO (mt)))), (ba, .inl (gI g, 5, .inl (rO (bs)))), (ka, .inl (gI g, 5, .inl (rO (bk))))] rfl rfl (by decide) (by decide)
  refine bv_if_eq (tgt := 31) hx hb dX7_chain_5 (by decide) (fun c_1 => ?_) (fun c_1 => ?_)
  · skip
    exfalso; first | exact c_1 | omega | (simp at c_1; done) | (exact absurd c_1 (by simp))
  · skip
    refine lv_iload_n hx hb dX7_chain_8 rfl (lv_at hl 2 rfl) ?_
    refine im_S (k := 1) hx hb hml hown hts (c_X7_isKind l g (nI (t))) gX7_chain_X7_isKind rfl (by decide +kernel) ⟨Nat.le_of_ble_eq_true rfl, Nat.le_of_ble_eq_true rfl⟩ ⟨Nat.zero_le _, Nat.zero_le _⟩ hK hP hD hS hA [] rfl (by decide) rfl hl.1 (rest := [.ref o]) (As := [.int (nI t)]) rfl (Nat.le_of_ble_eq_true rfl) dX7_chain_9 (fun x1 w1 H locs hpo hpd hS => ?_)
    obtain ⟨hx1, rfl⟩ := hpo
    rw [inR_nI (by omega) (by decide)] at hx1
    have hx1 : x1 = b2i (true) := hx1
    subst hx1
    obtain ⟨hP, hD⟩ := hpd [(o, .inr (7, [.ref ia, .ref wa, .ref ha, .ref oa, .ref ga, .ref ca, .ref ma, .ref ba, .ref ka, .int (oI (hnt)), .int (nI gd), .int (nI tn)])), (ia, .inl (gI g, 4, .inl (rM (idn)))), (wa, .inl (gI g, 20, .inl (rM (wd)))), (ha, .inl (gZ g, 400, .inl (rB (hs)))), (oa, .inl (gZ g, 400, .inl (rB (ho)))), (ga, .inl (gI g, 32, .inl (rM (gr)))), (ca, .inl (gI g, 16, .inl (rO (ch)))), (ma, .inl (gI g, 5, .inl (rO (mt)))), (ba, .inl (gI g, 5, .inl (rO (bs)))), (ka, .inl (gI g, 5, .inl (rO (bk))))] [0, 1, 2, 3, 4, 5, 6, 7, 8, 9] 10 rfl rfl [(o, .inr (7, [.ref ia, .ref wa, .ref ha, .ref oa, .ref ga, .ref ca, .ref ma, .ref ba, .ref ka, .int (oI (hnt)), .int (nI gd), .int (nI tn)])), (ia, .inl (gI g, 4, .inl (rM (idn)))), (wa, .inl (gI g, 20, .inl (rM (wd)))), (ha, .inl (gZ g, 400, .inl (rB (hs)))), (oa, .inl (gZ g, 400, .inl (rB (ho)))), (ga, .inl (gI g, 32, .inl (rM (gr)))), (ca, .inl (gI g, 16, .inl (rO (ch)))), (ma, .inl (gI g, 5, .inl (rO (mt)))), (ba, .inl (gI g, 5, .inl (rO (bs)))), (ka, .inl (gI g, 5, .inl (rO (bk))))] rfl rfl (by decide) (by decide)
    refine bv_if_eq (tgt := 31) hx hb dX7_chain_12 (by decide) (fun c_2 => ?_) (fun c_2 => ?_)
    · skip
      exfalso; first | exact c_2 | omega | (simp at c_2; done) | (exact absurd c_2 (by simp))
    · skip
      refine lv_iload_n hx hb dX7_chain_15 rfl (lv_at hl 3 rfl) ?_
      refine lv_iconst (v := -1) hx hb dX7_chain_16 (by decide) ?_
      refine lv_icmp_eq (tgt := 27) hx hb dX7_chain_17 (by decide) (fun c_3 => ?_) (fun c_3 => ?_)
      · skip
        exfalso; exact nI_nm1 (by omega) c_3
      · skip
        refine lv_iload_n hx hb dX7_chain_20 rfl (lv_at hl 3 rfl) ?_
        refine im_S (k := 1) hx hb hml hown hts (c_X7_isKind l g (nI (d))) gX7_chain_X7_isKind rfl (by decide +kernel) ⟨Nat.le_of_ble_eq_true rfl, Nat.le_of_ble_eq_true rfl⟩ ⟨Nat.zero_le _, Nat.zero_le _⟩ hK hP hD hS hA [] rfl (by decide) rfl hl.1 (rest := [.ref o]) (As := [.int (nI d)]) rfl (Nat.le_of_ble_eq_true rfl) dX7_chain_21 (fun x1 w1 H locs hpo hpd hS => ?_)
        obtain ⟨hx1, rfl⟩ := hpo
        rw [inR_nI (by omega) (by decide)] at hx1
        have hx1 : x1 = b2i (true) := hx1
        subst hx1
        obtain ⟨hP, hD⟩ := hpd [(o, .inr (7, [.ref ia, .ref wa, .ref ha, .ref oa, .ref ga, .ref ca, .ref ma, .ref ba, .ref ka, .int (oI (hnt)), .int (nI gd), .int (nI tn)])), (ia, .inl (gI g, 4, .inl (rM (idn)))), (wa, .inl (gI g, 20, .inl (rM (wd)))), (ha, .inl (gZ g, 400, .inl (rB (hs)))), (oa, .inl (gZ g, 400, .inl (rB (ho)))), (ga, .inl (gI g, 32, .inl (rM (gr)))), (ca, .inl (gI g, 16, .inl (rO (ch)))), (ma, .inl (gI g, 5, .inl (rO (mt)))), (ba, .inl (gI g, 5, .inl (rO (bs)))), (ka, .inl (gI g, 5, .inl (rO (bk))))] [0, 1, 2, 3, 4, 5, 6, 7, 8, 9] 10 rfl rfl [(o, .inr (7, [.ref ia, .ref wa, .ref ha, .ref oa, .ref ga, .ref ca, .ref ma, .ref ba, .ref ka, .int (oI (hnt)), .int (nI gd), .int (nI tn)])), (ia, .inl (gI g, 4, .inl (rM (idn)))), (wa, .inl (gI g, 20, .inl (rM (wd)))), (ha, .inl (gZ g, 400, .inl (rB (hs)))), (oa, .inl (gZ g, 400, .inl (rB (ho)))), (ga, .inl (gI g, 32, .inl (rM (gr)))), (ca, .inl (gI g, 16, .inl (rO (ch)))), (ma, .inl (gI g, 5, .inl (rO (mt)))), (ba, .inl (gI g, 5, .inl (rO (bs)))), (ka, .inl (gI g, 5, .inl (rO (bk))))] rfl rfl (by decide) (by decide)
        refine bv_if_eq (tgt := 31) hx hb dX7_chain_24 (by decide) (fun c_4 => ?_) (fun c_4 => ?_)
        · skip
          exfalso; first | exact c_4 | omega | (simp at c_4; done) | (exact absurd c_4 (by simp))
        · skip
          refine lv_iconst (v := nI (1)) hx hb dX7_chain_27 (by decide) ?_
          refine lv_goto (tgt := 32) hx hb dX7_chain_28 (by decide) ?_
          refine im_V (k := 1) hx hb hml hown hts (c_X7_asks_t l g o ia wa ha oa ga ca ma ba ka (idn) (wd) (hs) (ho) (gr) (ch) (mt) (bs) (bk) (hnt) (gd) (tn)) gX7_chain_X7_asks rfl (by decide +kernel) ⟨Nat.le_of_ble_eq_true rfl, Nat.le_of_ble_eq_true rfl⟩ ⟨Nat.zero_le _, Nat.zero_le _⟩ hK hP hD hS hA [0, 1, 2, 3, 4, 5, 6, 7, 8, 9] rfl (by decide) 0 7 rfl rfl rfl hl.1 (rest := []) (As := [.int (nI 1)]) rfl (Nat.le_of_ble_eq_true rfl) dX7_chain_32 (fun x1 w1 H locs hpo hpd hS => ?_)
          obtain ⟨hx1, rfl⟩ := hpo
          have hx1 : x1 = b2i (true) := hx1
          subst hx1
          obtain ⟨hP, hD⟩ := hpd [(o, .inr (7, [.ref ia, .ref wa, .ref ha, .ref oa, .ref ga, .ref ca, .ref ma, .ref ba, .ref ka, .int (oI (hnt)), .int (nI gd), .int (nI 0)])), (ia, .inl (gI g, 4, .inl (rM (idn)))), (wa, .inl (gI g, 20, .inl (rM (wd)))), (ha, .inl (gZ g, 400, .inl (rB (hs)))), (oa, .inl (gZ g, 400, .inl (rB (ho)))), (ga, .inl (gI g, 32, .inl (rM (gr)))), (ca, .inl (gI g, 16, .inl (rO (ch)))), (ma, .inl (gI g, 5, .inl (rO (mt)))), (ba, .inl (gI g, 5, .inl (rO (bs)))), (ka, .inl (gI g, 5, .inl (rO (bk))))] [] 10 rfl rfl [] rfl rfl (by decide) (by decide)
          refine bv_if_ne (tgt := 40) hx hb dX7_chain_35 (by decide) (fun c_5 => ?_) (fun c_5 => ?_)
          · skip
            refine lv_aload_n hx hb dX7_chain_40 rfl (lv_at hl 0 rfl) ?_
            refine va_get (D := g.1) (ci := 7) (v := .ref ca) (C := RX7) (T := TX7) (N := 12) hx hb hts (fun _ h => (List.mem_cons_of_mem _ (List.mem_append_right _ h))) hown hK.1 hP 0 rfl rfl 5 (by decide) (hts _ (List.mem_cons_of_mem _ (List.mem_append_left _ (List.mem_of_getElem? (i := 0) rfl)))) (fun _ h9 => h9) rfl dX7_chain_41 ?_
            refine lv_iconst (v := nI (4)) hx hb dX7_chain_44 (by decide) ?_
            refine lv_iload_n hx hb dX7_chain_45 rfl (lv_at hl 1 rfl) ?_
            refine nv_imul hx hb dX7_chain_46 ?_
            refine lv_iload_n hx hb dX7_chain_47 rfl (lv_at hl 2 rfl) ?_
            refine nv_iadd hx hb dX7_chain_48 ?_
            refine nv_iald (v := oI (ch ((4 * f) + t))) hx hb hK hP 6 rfl (by omega) (by decide) rfl dX7_chain_49 ?_
            refine lv_istore (lv' := [(4, .int (oI (ch ((4 * f) + t)))), (0, .ref o), (1, .int (nI f)), (2, .int (nI t)), (3, .int (nI d))]) hx hb dX7_chain_50 hl (by decide) rfl (fun ls hl => ?_)
            refine lv_aload_n hx hb dX7_chain_52 rfl (lv_at hl 1 rfl) ?_
            refine va_get (D := g.1) (ci := 7) (v := .ref ca) (C := RX7) (T := TX7) (N := 12) hx hb hts (fun _ h => (List.mem_cons_of_mem _ (List.mem_append_right _ h))) hown hK.1 hP 0 rfl rfl 5 (by decide) (hts _ (List.mem_cons_of_mem _ (List.mem_append_left _ (List.mem_of_getElem? (i := 0) rfl)))) (fun _ h9 => h9) rfl dX7_chain_53 ?_
            refine lv_iconst (v := nI (4)) hx hb dX7_chain_56 (by decide) ?_
            refine lv_iload_n hx hb dX7_chain_57 rfl (lv_at hl 2 rfl) ?_
            refine nv_imul hx hb dX7_chain_58 ?_
            refine lv_iload_n hx hb dX7_chain_59 rfl (lv_at hl 3 rfl) ?_
            refine nv_iadd hx hb dX7_chain_60 ?_
            refine lv_iload_n hx hb dX7_chain_61 rfl (lv_at hl 4 rfl) ?_
            refine nv_iast (f' := rO (va_up ch ((4 * f) + t) (some d))) hx hb hK hP hD hS 6 rfl (by omega) (by decide) (upd_rO _ _ (some d)) dX7_chain_62 (fun H locs hP hD hS => ?_)
            have hP : va_P g.1 vwCl [(o, .inr (7, [.ref ia, .ref wa, .ref ha, .ref oa, .ref ga, .ref ca, .ref ma, .ref ba, .ref ka, .int (oI (hnt)), .int (nI gd), .int (nI 0)])), (ia, .inl (gI g, 4, .inl (rM (idn)))), (wa, .inl (gI g, 20, .inl (rM (wd)))), (ha, .inl (gZ g, 400, .inl (rB (hs)))), (oa, .inl (gZ g, 400, .inl (rB (ho)))), (ga, .inl (gI g, 32, .inl (rM (gr)))), (ca, .inl (gI g, 16, .inl (rO (va_up ch ((4 * f) + t) (some d))))), (ma, .inl (gI g, 5, .inl (rO (mt)))), (ba, .inl (gI g, 5, .inl (rO (bs)))), (ka, .inl (gI g, 5, .inl (rO (bk))))] H := hP
            have hD : va_D A [(o, .inr (7, [.ref ia, .ref wa, .ref ha, .ref oa, .ref ga, .ref ca, .ref ma, .ref ba, .ref ka, .int (oI (hnt)), .int (nI gd), .int (nI 0)])), (ia, .inl (gI g, 4, .inl (rM (idn)))), (wa, .inl (gI g, 20, .inl (rM (wd)))), (ha, .inl (gZ g, 400, .inl (rB (hs)))), (oa, .inl (gZ g, 400, .inl (rB (ho)))), (ga, .inl (gI g, 32, .inl (rM (gr)))), (ca, .inl (gI g, 16, .inl (rO (va_up ch ((4 * f) + t) (some d))))), (ma, .inl (gI g, 5, .inl (rO (mt)))), (ba, .inl (gI g, 5, .inl (rO (bs)))), (ka, .inl (gI g, 5, .inl (rO (bk))))] := hD
            refine lv_iload hx hb dX7_chain_63 (lv_at hl 0 rfl) ?_
            exact im_ret (w1 := [(o, .inr (7, [.ref ia, .ref wa, .ref ha, .ref oa, .ref ga, .ref ca, .ref ma, .ref ba, .ref ka, .int (oI (hnt)), .int (nI gd), .int (nI 0)])), (ia, .inl (gI g, 4, .inl (rM (idn)))), (wa, .inl (gI g, 20, .inl (rM (wd)))), (ha, .inl (gZ g, 400, .inl (rB (hs)))), (oa, .inl (gZ g, 400, .inl (rB (ho)))), (ga, .inl (gI g, 32, .inl (rM (gr)))), (ca, .inl (gI g, 16, .inl (rO (va_up ch ((4 * f) + t) (some d))))), (ma, .inl (gI g, 5, .inl (rO (mt)))), (ba, .inl (gI g, 5, .inl (rO (bs)))), (ka, .inl (gI g, 5, .inl (rO (bk))))]) (v := oI (ch ((4 * f) + t))) hx hb hr hlocks hP hS rfl ⟨rfl, rfl⟩ dX7_chain_65
          · skip
            exfalso; first | exact c_5 | omega | (simp at c_5; done) | (exact absurd c_5 (by simp))

set_option maxRecDepth 100000 in
set_option maxHeartbeats 4000000 in
theorem c_X7_chain_none (l : Launch) (g : GG) (o ia wa ha oa ga ca ma ba ka : Nat) (idn wd : Nat → Nat) (hs ho : Nat → Bool) (gr : Nat → Nat) (ch mt bs bk : Nat → Option Nat) (hnt : Option Nat) (gd tn : Nat) (f t : Nat) (hf : f < 4) (ht : t < 4) : IM l yX7_chain wsX7_chain 2 g [.ref o, .int (nI f), .int (nI t), .int (oI (none))] [(o, .inr (7, [.ref ia, .ref wa, .ref ha, .ref oa, .ref ga, .ref ca, .ref ma, .ref ba, .ref ka, .int (oI (hnt)), .int (nI gd), .int (nI tn)])), (ia, .inl (gI g, 4, .inl (rM (idn)))), (wa, .inl (gI g, 20, .inl (rM (wd)))), (ha, .inl (gZ g, 400, .inl (rB (hs)))), (oa, .inl (gZ g, 400, .inl (rB (ho)))), (ga, .inl (gI g, 32, .inl (rM (gr)))), (ca, .inl (gI g, 16, .inl (rO (ch)))), (ma, .inl (gI g, 5, .inl (rO (mt)))), (ba, .inl (gI g, 5, .inl (rO (bs)))), (ka, .inl (gI g, 5, .inl (rO (bk))))] (fun x1 w1 => x1 = oI (ch (4 * f + t)) ∧ w1 = [(o, .inr (7, [.ref ia, .ref wa, .ref ha, .ref oa, .ref ga, .ref ca, .ref ma, .ref ba, .ref ka, .int (oI (hnt)), .int (nI gd), .int (nI 0)])), (ia, .inl (gI g, 4, .inl (rM (idn)))), (wa, .inl (gI g, 20, .inl (rM (wd)))), (ha, .inl (gZ g, 400, .inl (rB (hs)))), (oa, .inl (gZ g, 400, .inl (rB (ho)))), (ga, .inl (gI g, 32, .inl (rM (gr)))), (ca, .inl (gI g, 16, .inl (rO (va_up ch (4 * f + t) none)))), (ma, .inl (gI g, 5, .inl (rO (mt)))), (ba, .inl (gI g, 5, .inl (rO (bs)))), (ka, .inl (gI g, 5, .inl (rO (bk))))]) := by
  refine fun sz => im_body (Qc := fun A => va_Qi _ (iB g _) A) (cc := cX7_chain) (maxL := 5) (ret := (some .int)) (by decide) rfl (Nat.le_of_ble_eq_true rfl) ?_ sz
  intro pg ev s0 mi below meth cd A hx hb hr hml hts hown hlocks hK hA H hP hD hS ls hl
  have hl : lv_has ls 5 [(0, .ref o), (1, .int (nI f)), (2, .int (nI t)), (3, .int (oI (none)))] := hl
  refine lv_aload_n hx hb dX7_chain_0 rfl (lv_at hl 0 rfl) ?_
  refine lv_iload_n hx hb dX7_chain_1 rfl (lv_at hl 1 rfl) ?_
  refine im_S (k := 1) hx hb hml hown hts (c_X7_isKind l g (nI (f))) gX7_chain_X7_isKind rfl (by decide +kernel) ⟨Nat.le_of_ble_eq_true rfl, Nat.le_of_ble_eq_true rfl⟩ ⟨Nat.zero_le _, Nat.zero_le _⟩ hK hP hD hS hA [] rfl (by decide) rfl hl.1 (rest := [.ref o]) (As := [.int (nI f)]) rfl (Nat.le_of_ble_eq_true rfl) dX7_chain_2 (fun x1 w1 H locs hpo hpd hS => ?_)
  obtain ⟨hx1, rfl⟩ := hpo
  rw [inR_nI (by omega) (by decide)] at hx1
  have hx1 : x1 = b2i (true) := hx1
  subst hx1
  obtain ⟨hP, hD⟩ := hpd [(o, .inr (7, [.ref ia, .ref wa, .ref ha, .ref oa, .ref ga, .ref ca, .ref ma, .ref ba, .ref ka, .int (oI (hnt)), .int (nI gd), .int (nI tn)])), (ia, .inl (gI g, 4, .inl (rM (idn)))), (wa, .inl (gI g, 20, .inl (rM (wd)))), (ha, .inl (gZ g, 400, .inl (rB (hs)))), (oa, .inl (gZ g, 400, .inl (rB (ho)))), (ga, .inl (gI g, 32, .inl (rM (gr)))), (ca, .inl (gI g, 16, .inl (rO (ch)))), (ma, .inl (gI g, 5, .inl (rO (mt)))), (ba, .inl (gI g, 5, .inl (rO (bs)))), (ka, .inl (gI g, 5, .inl (rO (bk))))] [0, 1, 2, 3, 4, 5, 6, 7, 8, 9] 10 rfl rfl [(o, .inr (7, [.ref ia, .ref wa, .ref ha, .ref oa, .ref ga, .ref ca, .ref ma, .ref ba, .ref ka, .int (oI (hnt)), .int (nI gd), .int (nI tn)])), (ia, .inl (gI g, 4, .inl (rM (idn)))), (wa, .inl (gI g, 20, .inl (rM (wd)))), (ha, .inl (gZ g, 400, .inl (rB (hs)))), (oa, .inl (gZ g, 400, .inl (rB (ho)))), (ga, .inl (gI g, 32, .inl (rM (gr)))), (ca, .inl (gI g, 16, .inl (rO (ch)))), (ma, .inl (gI g, 5, .inl (rO (mt)))), (ba, .inl (gI g, 5, .inl (rO (bs)))), (ka, .inl (gI g, 5, .inl (rO (bk))))] rfl rfl (by decide) (by decide)
  refine bv_if_eq (tgt := 31) hx hb dX7_chain_5 (by decide) (fun c_1 => ?_) (fun c_1 => ?_)
  · skip
    exfalso; first | exact c_1 | omega | (simp at c_1; done) | (exact absurd c_1 (by simp))
  · skip
    refine lv_iload_n hx hb dX7_chain_8 rfl (lv_at hl 2 rfl) ?_
    refine im_S (k := 1) hx hb hml hown hts (c_X7_isKind l g (nI (t))) gX7_chain_X7_isKind rfl (by decide +kernel) ⟨Nat.le_of_ble_eq_true rfl, Nat.le_of_ble_eq_true rfl⟩ ⟨Nat.zero_le _, Nat.zero_le _⟩ hK hP hD hS hA [] rfl (by decide) rfl hl.1 (rest := [.ref o]) (As := [.int (nI t)]) rfl (Nat.le_of_ble_eq_true rfl) dX7_chain_9 (fun x1 w1 H locs hpo hpd hS => ?_)
    obtain ⟨hx1, rfl⟩ := hpo
    rw [inR_nI (by omega) (by decide)] at hx1
    have hx1 : x1 = b2i (true) := hx1
    subst hx1
    obtain ⟨hP, hD⟩ := hpd [(o, .inr (7, [.ref ia, .ref wa, .ref ha, .ref oa, .ref ga, .ref ca, .ref ma, .ref ba, .ref ka, .int (oI (hnt)), .int (nI gd), .int (nI tn)])), (ia, .inl (gI g, 4, .inl (rM (idn)))), (wa, .inl (gI g, 20, .inl (rM (wd)))), (ha, .inl (gZ g, 400, .inl (rB (hs)))), (oa, .inl (gZ g, 400, .inl (rB (ho)))), (ga, .inl (gI g, 32, .inl (rM (gr)))), (ca, .inl (gI g, 16, .inl (rO (ch)))), (ma, .inl (gI g, 5, .inl (rO (mt)))), (ba, .inl (gI g, 5, .inl (rO (bs)))), (ka, .inl (gI g, 5, .inl (rO (bk))))] [0, 1, 2, 3, 4, 5, 6, 7, 8, 9] 10 rfl rfl [(o, .inr (7, [.ref ia, .ref wa, .ref ha, .ref oa, .ref ga, .ref ca, .ref ma, .ref ba, .ref ka, .int (oI (hnt)), .int (nI gd), .int (nI tn)])), (ia, .inl (gI g, 4, .inl (rM (idn)))), (wa, .inl (gI g, 20, .inl (rM (wd)))), (ha, .inl (gZ g, 400, .inl (rB (hs)))), (oa, .inl (gZ g, 400, .inl (rB (ho)))), (ga, .inl (gI g, 32, .inl (rM (gr)))), (ca, .inl (gI g, 16, .inl (rO (ch)))), (ma, .inl (gI g, 5, .inl (rO (mt)))), (ba, .inl (gI g, 5, .inl (rO (bs)))), (ka, .inl (gI g, 5, .inl (rO (bk))))] rfl rfl (by decide) (by decide)
    refine bv_if_eq (tgt := 31) hx hb dX7_chain_12 (by decide) (fun c_2 => ?_) (fun c_2 => ?_)
    · skip
      exfalso; first | exact c_2 | omega | (simp at c_2; done) | (exact absurd c_2 (by simp))
    · skip
      refine lv_iload_n hx hb dX7_chain_15 rfl (lv_at hl 3 rfl) ?_
      refine lv_iconst (v := -1) hx hb dX7_chain_16 (by decide) ?_
      refine lv_icmp_eq (tgt := 27) hx hb dX7_chain_17 (by decide) (fun c_3 => ?_) (fun c_3 => ?_)
      · skip
        refine lv_iconst (v := nI (1)) hx hb dX7_chain_27 (by decide) ?_
        refine lv_goto (tgt := 32) hx hb dX7_chain_28 (by decide) ?_
        refine im_V (k := 1) hx hb hml hown hts (c_X7_asks_t l g o ia wa ha oa ga ca ma ba ka (idn) (wd) (hs) (ho) (gr) (ch) (mt) (bs) (bk) (hnt) (gd) (tn)) gX7_chain_X7_asks rfl (by decide +kernel) ⟨Nat.le_of_ble_eq_true rfl, Nat.le_of_ble_eq_true rfl⟩ ⟨Nat.zero_le _, Nat.zero_le _⟩ hK hP hD hS hA [0, 1, 2, 3, 4, 5, 6, 7, 8, 9] rfl (by decide) 0 7 rfl rfl rfl hl.1 (rest := []) (As := [.int (nI 1)]) rfl (Nat.le_of_ble_eq_true rfl) dX7_chain_32 (fun x1 w1 H locs hpo hpd hS => ?_)
        obtain ⟨hx1, rfl⟩ := hpo
        have hx1 : x1 = b2i (true) := hx1
        subst hx1
        obtain ⟨hP, hD⟩ := hpd [(o, .inr (7, [.ref ia, .ref wa, .ref ha, .ref oa, .ref ga, .ref ca, .ref ma, .ref ba, .ref ka, .int (oI (hnt)), .int (nI gd), .int (nI 0)])), (ia, .inl (gI g, 4, .inl (rM (idn)))), (wa, .inl (gI g, 20, .inl (rM (wd)))), (ha, .inl (gZ g, 400, .inl (rB (hs)))), (oa, .inl (gZ g, 400, .inl (rB (ho)))), (ga, .inl (gI g, 32, .inl (rM (gr)))), (ca, .inl (gI g, 16, .inl (rO (ch)))), (ma, .inl (gI g, 5, .inl (rO (mt)))), (ba, .inl (gI g, 5, .inl (rO (bs)))), (ka, .inl (gI g, 5, .inl (rO (bk))))] [] 10 rfl rfl [] rfl rfl (by decide) (by decide)
        refine bv_if_ne (tgt := 40) hx hb dX7_chain_35 (by decide) (fun c_4 => ?_) (fun c_4 => ?_)
        · skip
          refine lv_aload_n hx hb dX7_chain_40 rfl (lv_at hl 0 rfl) ?_
          refine va_get (D := g.1) (ci := 7) (v := .ref ca) (C := RX7) (T := TX7) (N := 12) hx hb hts (fun _ h => (List.mem_cons_of_mem _ (List.mem_append_right _ h))) hown hK.1 hP 0 rfl rfl 5 (by decide) (hts _ (List.mem_cons_of_mem _ (List.mem_append_left _ (List.mem_of_getElem? (i := 0) rfl)))) (fun _ h9 => h9) rfl dX7_chain_41 ?_
          refine lv_iconst (v := nI (4)) hx hb dX7_chain_44 (by decide) ?_
          refine lv_iload_n hx hb dX7_chain_45 rfl (lv_at hl 1 rfl) ?_
          refine nv_imul hx hb dX7_chain_46 ?_
          refine lv_iload_n hx hb dX7_chain_47 rfl (lv_at hl 2 rfl) ?_
          refine nv_iadd hx hb dX7_chain_48 ?_
          refine nv_iald (v := oI (ch ((4 * f) + t))) hx hb hK hP 6 rfl (by omega) (by decide) rfl dX7_chain_49 ?_
          refine lv_istore (lv' := [(4, .int (oI (ch ((4 * f) + t)))), (0, .ref o), (1, .int (nI f)), (2, .int (nI t)), (3, .int (oI (none)))]) hx hb dX7_chain_50 hl (by decide) rfl (fun ls hl => ?_)
          refine lv_aload_n hx hb dX7_chain_52 rfl (lv_at hl 1 rfl) ?_
          refine va_get (D := g.1) (ci := 7) (v := .ref ca) (C := RX7) (T := TX7) (N := 12) hx hb hts (fun _ h => (List.mem_cons_of_mem _ (List.mem_append_right _ h))) hown hK.1 hP 0 rfl rfl 5 (by decide) (hts _ (List.mem_cons_of_mem _ (List.mem_append_left _ (List.mem_of_getElem? (i := 0) rfl)))) (fun _ h9 => h9) rfl dX7_chain_53 ?_
          refine lv_iconst (v := nI (4)) hx hb dX7_chain_56 (by decide) ?_
          refine lv_iload_n hx hb dX7_chain_57 rfl (lv_at hl 2 rfl) ?_
          refine nv_imul hx hb dX7_chain_58 ?_
          refine lv_iload_n hx hb dX7_chain_59 rfl (lv_at hl 3 rfl) ?_
          refine nv_iadd hx hb dX7_chain_60 ?_
          refine lv_iload_n hx hb dX7_chain_61 rfl (lv_at hl 4 rfl) ?_
          refine nv_iast (f' := rO (va_up ch ((4 * f) + t) (none))) hx hb hK hP hD hS 6 rfl (by omega) (by decide) (upd_rO _ _ (none)) dX7_chain_62 (fun H locs hP hD hS => ?_)
          have hP : va_P g.1 vwCl [(o, .inr (7, [.ref ia, .ref wa, .ref ha, .ref oa, .ref ga, .ref ca, .ref ma, .ref ba, .ref ka, .int (oI (hnt)), .int (nI gd), .int (nI 0)])), (ia, .inl (gI g, 4, .inl (rM (idn)))), (wa, .inl (gI g, 20, .inl (rM (wd)))), (ha, .inl (gZ g, 400, .inl (rB (hs)))), (oa, .inl (gZ g, 400, .inl (rB (ho)))), (ga, .inl (gI g, 32, .inl (rM (gr)))), (ca, .inl (gI g, 16, .inl (rO (va_up ch ((4 * f) + t) (none))))), (ma, .inl (gI g, 5, .inl (rO (mt)))), (ba, .inl (gI g, 5, .inl (rO (bs)))), (ka, .inl (gI g, 5, .inl (rO (bk))))] H := hP
          have hD : va_D A [(o, .inr (7, [.ref ia, .ref wa, .ref ha, .ref oa, .ref ga, .ref ca, .ref ma, .ref ba, .ref ka, .int (oI (hnt)), .int (nI gd), .int (nI 0)])), (ia, .inl (gI g, 4, .inl (rM (idn)))), (wa, .inl (gI g, 20, .inl (rM (wd)))), (ha, .inl (gZ g, 400, .inl (rB (hs)))), (oa, .inl (gZ g, 400, .inl (rB (ho)))), (ga, .inl (gI g, 32, .inl (rM (gr)))), (ca, .inl (gI g, 16, .inl (rO (va_up ch ((4 * f) + t) (none))))), (ma, .inl (gI g, 5, .inl (rO (mt)))), (ba, .inl (gI g, 5, .inl (rO (bs)))), (ka, .inl (gI g, 5, .inl (rO (bk))))] := hD
          refine lv_iload hx hb dX7_chain_63 (lv_at hl 0 rfl) ?_
          exact im_ret (w1 := [(o, .inr (7, [.ref ia, .ref wa, .ref ha, .ref oa, .ref ga, .ref ca, .ref ma, .ref ba, .ref ka, .int (oI (hnt)), .int (nI gd), .int (nI 0)])), (ia, .inl (gI g, 4, .inl (rM (idn)))), (wa, .inl (gI g, 20, .inl (rM (wd)))), (ha, .inl (gZ g, 400, .inl (rB (hs)))), (oa, .inl (gZ g, 400, .inl (rB (ho)))), (ga, .inl (gI g, 32, .inl (rM (gr)))), (ca, .inl (gI g, 16, .inl (rO (va_up ch ((4 * f) + t) (none))))), (ma, .inl (gI g, 5, .inl (rO (mt)))), (ba, .inl (gI g, 5, .inl (rO (bs)))), (ka, .inl (gI g, 5, .inl (rO (bk))))]) (v := oI (ch ((4 * f) + t))) hx hb hr hlocks hP hS rfl ⟨rfl, rfl⟩ dX7_chain_65
        · skip
          exfalso; first | exact c_4 | omega | (simp at c_4; done) | (exact absurd c_4 (by simp))
      · skip
        exfalso; exact c_3 rfl

set_option maxRecDepth 100000 in
set_option maxHeartbeats 4000000 in
theorem c_X7_chain_a (l : Launch) (g : GG) (o ia wa ha oa ga ca ma ba ka : Nat) (idn wd : Nat → Nat) (hs ho : Nat → Bool) (gr : Nat → Nat) (ch mt bs bk : Nat → Option Nat) (hnt : Option Nat) (gd tn : Nat) (v w z : Int32) (hbd : inR v 4 = false) : IM l yX7_chain wsX7_chain 2 g [.ref o, .int (v), .int (w), .int (z)] [(o, .inr (7, [.ref ia, .ref wa, .ref ha, .ref oa, .ref ga, .ref ca, .ref ma, .ref ba, .ref ka, .int (oI (hnt)), .int (nI gd), .int (nI tn)])), (ia, .inl (gI g, 4, .inl (rM (idn)))), (wa, .inl (gI g, 20, .inl (rM (wd)))), (ha, .inl (gZ g, 400, .inl (rB (hs)))), (oa, .inl (gZ g, 400, .inl (rB (ho)))), (ga, .inl (gI g, 32, .inl (rM (gr)))), (ca, .inl (gI g, 16, .inl (rO (ch)))), (ma, .inl (gI g, 5, .inl (rO (mt)))), (ba, .inl (gI g, 5, .inl (rO (bs)))), (ka, .inl (gI g, 5, .inl (rO (bk))))] (fun x1 w1 => x1 = nI 0 ∧ w1 = [(o, .inr (7, [.ref ia, .ref wa, .ref ha, .ref oa, .ref ga, .ref ca, .ref ma, .ref ba, .ref ka, .int (oI (hnt)), .int (nI gd), .int (nI 1)])), (ia, .inl (gI g, 4, .inl (rM (idn)))), (wa, .inl (gI g, 20, .inl (rM (wd)))), (ha, .inl (gZ g, 400, .inl (rB (hs)))), (oa, .inl (gZ g, 400, .inl (rB (ho)))), (ga, .inl (gI g, 32, .inl (rM (gr)))), (ca, .inl (gI g, 16, .inl (rO (ch)))), (ma, .inl (gI g, 5, .inl (rO (mt)))), (ba, .inl (gI g, 5, .inl (rO (bs)))), (ka, .inl (gI g, 5, .inl (rO (bk))))]) := by
  refine fun sz => im_body (Qc := fun A => va_Qi _ (iB g _) A) (cc := cX7_chain) (maxL := 5) (ret := (some .int)) (by decide) rfl (Nat.le_of_ble_eq_true rfl) ?_ sz
  intro pg ev s0 mi below meth cd A hx hb hr hml hts hown hlocks hK hA H hP hD hS ls hl
  have hl : lv_has ls 5 [(0, .ref o), (1, .int (v)), (2, .int (w)), (3, .int (z))] := hl
  refine lv_aload_n hx hb dX7_chain_0 rfl (lv_at hl 0 rfl) ?_
  refine lv_iload_n hx hb dX7_chain_1 rfl (lv_at hl 1 rfl) ?_
  refine im_S (k := 1) hx hb hml hown hts (c_X7_isKind l g (v)) gX7_chain_X7_isKind rfl (by decide +kernel) ⟨Nat.le_of_ble_eq_true rfl, Nat.le_of_ble_eq_true rfl⟩ ⟨Nat.zero_le _, Nat.zero_le _⟩ hK hP hD hS hA [] rfl (by decide) rfl hl.1 (rest := [.ref o]) (As := [.int (v)]) rfl (Nat.le_of_ble_eq_true rfl) dX7_chain_2 (fun x1 w1 H locs hpo hpd hS => ?_)
  obtain ⟨hx1, rfl⟩ := hpo
  rw [hbd] at hx1
  have hx1 : x1 = b2i (false) := hx1
  subst hx1
  obtain ⟨hP, hD⟩ := hpd [(o, .inr (7, [.ref ia, .ref wa, .ref ha, .ref oa, .ref ga, .ref ca, .ref ma, .ref ba, .ref ka, .int (oI (hnt)), .int (nI gd), .int (nI tn)])), (ia, .inl (gI g, 4, .inl (rM (idn)))), (wa, .inl (gI g, 20, .inl (rM (wd)))), (ha, .inl (gZ g, 400, .inl (rB (hs)))), (oa, .inl (gZ g, 400, .inl (rB (ho)))), (ga, .inl (gI g, 32, .inl (rM (gr)))), (ca, .inl (gI g, 16, .inl (rO (ch)))), (ma, .inl (gI g, 5, .inl (rO (mt)))), (ba, .inl (gI g, 5, .inl (rO (bs)))), (ka, .inl (gI g, 5, .inl (rO (bk))))] [0, 1, 2, 3, 4, 5, 6, 7, 8, 9] 10 rfl rfl [(o, .inr (7, [.ref ia, .ref wa, .ref ha, .ref oa, .ref ga, .ref ca, .ref ma, .ref ba, .ref ka, .int (oI (hnt)), .int (nI gd), .int (nI tn)])), (ia, .inl (gI g, 4, .inl (rM (idn)))), (wa, .inl (gI g, 20, .inl (rM (wd)))), (ha, .inl (gZ g, 400, .inl (rB (hs)))), (oa, .inl (gZ g, 400, .inl (rB (ho)))), (ga, .inl (gI g, 32, .inl (rM (gr)))), (ca, .inl (gI g, 16, .inl (rO (ch)))), (ma, .inl (gI g, 5, .inl (rO (mt)))), (ba, .inl (gI g, 5, .inl (rO (bs)))), (ka, .inl (gI g, 5, .inl (rO (bk))))] rfl rfl (by decide) (by decide)
  refine bv_if_eq (tgt := 31) hx hb dX7_chain_5 (by decide) (fun c_1 => ?_) (fun c_1 => ?_)
  · skip
    refine lv_iconst (v := nI (0)) hx hb dX7_chain_31 (by decide) ?_
    refine im_V (k := 1) hx hb hml hown hts (c_X7_asks_f l g o ia wa ha oa ga ca ma ba ka (idn) (wd) (hs) (ho) (gr) (ch) (mt) (bs) (bk) (hnt) (gd) (tn)) gX7_chain_X7_asks rfl (by decide +kernel) ⟨Nat.le_of_ble_eq_true rfl, Nat.le_of_ble_eq_true rfl⟩ ⟨Nat.zero_le _, Nat.zero_le _⟩ hK hP hD hS hA [0, 1, 2, 3, 4, 5, 6, 7, 8, 9] rfl (by decide) 0 7 rfl rfl rfl hl.1 (rest := []) (As := [.int (nI 0)]) rfl (Nat.le_of_ble_eq_true rfl) dX7_chain_32 (fun x1 w1 H locs hpo hpd hS => ?_)
    obtain ⟨hx1, rfl⟩ := hpo
    have hx1 : x1 = b2i (false) := hx1
    subst hx1
    obtain ⟨hP, hD⟩ := hpd [(o, .inr (7, [.ref ia, .ref wa, .ref ha, .ref oa, .ref ga, .ref ca, .ref ma, .ref ba, .ref ka, .int (oI (hnt)), .int (nI gd), .int (nI 1)])), (ia, .inl (gI g, 4, .inl (rM (idn)))), (wa, .inl (gI g, 20, .inl (rM (wd)))), (ha, .inl (gZ g, 400, .inl (rB (hs)))), (oa, .inl (gZ g, 400, .inl (rB (ho)))), (ga, .inl (gI g, 32, .inl (rM (gr)))), (ca, .inl (gI g, 16, .inl (rO (ch)))), (ma, .inl (gI g, 5, .inl (rO (mt)))), (ba, .inl (gI g, 5, .inl (rO (bs)))), (ka, .inl (gI g, 5, .inl (rO (bk))))] [] 10 rfl rfl [] rfl rfl (by decide) (by decide)
    refine bv_if_ne (tgt := 40) hx hb dX7_chain_35 (by decide) (fun c_2 => ?_) (fun c_2 => ?_)
    · skip
      exfalso; first | exact c_2 | omega | (simp at c_2; done) | (exact absurd c_2 (by simp))
    · skip
      refine lv_iconst (v := nI (0)) hx hb dX7_chain_38 (by decide) ?_
      exact im_ret (w1 := [(o, .inr (7, [.ref ia, .ref wa, .ref ha, .ref oa, .ref ga, .ref ca, .ref ma, .ref ba, .ref ka, .int (oI (hnt)), .int (nI gd), .int (nI 1)])), (ia, .inl (gI g, 4, .inl (rM (idn)))), (wa, .inl (gI g, 20, .inl (rM (wd)))), (ha, .inl (gZ g, 400, .inl (rB (hs)))), (oa, .inl (gZ g, 400, .inl (rB (ho)))), (ga, .inl (gI g, 32, .inl (rM (gr)))), (ca, .inl (gI g, 16, .inl (rO (ch)))), (ma, .inl (gI g, 5, .inl (rO (mt)))), (ba, .inl (gI g, 5, .inl (rO (bs)))), (ka, .inl (gI g, 5, .inl (rO (bk))))]) (v := nI (0)) hx hb hr hlocks hP hS rfl ⟨rfl, rfl⟩ dX7_chain_39
  · skip
    exfalso; first | exact c_1 | omega | (simp at c_1; done) | (exact absurd c_1 (by simp))

set_option maxRecDepth 100000 in
set_option maxHeartbeats 4000000 in
theorem c_X7_chain_b (l : Launch) (g : GG) (o ia wa ha oa ga ca ma ba ka : Nat) (idn wd : Nat → Nat) (hs ho : Nat → Bool) (gr : Nat → Nat) (ch mt bs bk : Nat → Option Nat) (hnt : Option Nat) (gd tn : Nat) (f : Nat) (w z : Int32) (hf : f < 4) (hbd : inR w 4 = false) : IM l yX7_chain wsX7_chain 2 g [.ref o, .int (nI f), .int (w), .int (z)] [(o, .inr (7, [.ref ia, .ref wa, .ref ha, .ref oa, .ref ga, .ref ca, .ref ma, .ref ba, .ref ka, .int (oI (hnt)), .int (nI gd), .int (nI tn)])), (ia, .inl (gI g, 4, .inl (rM (idn)))), (wa, .inl (gI g, 20, .inl (rM (wd)))), (ha, .inl (gZ g, 400, .inl (rB (hs)))), (oa, .inl (gZ g, 400, .inl (rB (ho)))), (ga, .inl (gI g, 32, .inl (rM (gr)))), (ca, .inl (gI g, 16, .inl (rO (ch)))), (ma, .inl (gI g, 5, .inl (rO (mt)))), (ba, .inl (gI g, 5, .inl (rO (bs)))), (ka, .inl (gI g, 5, .inl (rO (bk))))] (fun x1 w1 => x1 = nI 0 ∧ w1 = [(o, .inr (7, [.ref ia, .ref wa, .ref ha, .ref oa, .ref ga, .ref ca, .ref ma, .ref ba, .ref ka, .int (oI (hnt)), .int (nI gd), .int (nI 1)])), (ia, .inl (gI g, 4, .inl (rM (idn)))), (wa, .inl (gI g, 20, .inl (rM (wd)))), (ha, .inl (gZ g, 400, .inl (rB (hs)))), (oa, .inl (gZ g, 400, .inl (rB (ho)))), (ga, .inl (gI g, 32, .inl (rM (gr)))), (ca, .inl (gI g, 16, .inl (rO (ch)))), (ma, .inl (gI g, 5, .inl (rO (mt)))), (ba, .inl (gI g, 5, .inl (rO (bs)))), (ka, .inl (gI g, 5, .inl (rO (bk))))]) := by
  refine fun sz => im_body (Qc := fun A => va_Qi _ (iB g _) A) (cc := cX7_chain) (maxL := 5) (ret := (some .int)) (by decide) rfl (Nat.le_of_ble_eq_true rfl) ?_ sz
  intro pg ev s0 mi below meth cd A hx hb hr hml hts hown hlocks hK hA H hP hD hS ls hl
  have hl : lv_has ls 5 [(0, .ref o), (1, .int (nI f)), (2, .int (w)), (3, .int (z))] := hl
  refine lv_aload_n hx hb dX7_chain_0 rfl (lv_at hl 0 rfl) ?_
  refine lv_iload_n hx hb dX7_chain_1 rfl (lv_at hl 1 rfl) ?_
  refine im_S (k := 1) hx hb hml hown hts (c_X7_isKind l g (nI (f))) gX7_chain_X7_isKind rfl (by decide +kernel) ⟨Nat.le_of_ble_eq_true rfl, Nat.le_of_ble_eq_true rfl⟩ ⟨Nat.zero_le _, Nat.zero_le _⟩ hK hP hD hS hA [] rfl (by decide) rfl hl.1 (rest := [.ref o]) (As := [.int (nI f)]) rfl (Nat.le_of_ble_eq_true rfl) dX7_chain_2 (fun x1 w1 H locs hpo hpd hS => ?_)
  obtain ⟨hx1, rfl⟩ := hpo
  rw [inR_nI (by omega) (by decide)] at hx1
  have hx1 : x1 = b2i (true) := hx1
  subst hx1
  obtain ⟨hP, hD⟩ := hpd [(o, .inr (7, [.ref ia, .ref wa, .ref ha, .ref oa, .ref ga, .ref ca, .ref ma, .ref ba, .ref ka, .int (oI (hnt)), .int (nI gd), .int (nI tn)])), (ia, .inl (gI g, 4, .inl (rM (idn)))), (wa, .inl (gI g, 20, .inl (rM (wd)))), (ha, .inl (gZ g, 400, .inl (rB (hs)))), (oa, .inl (gZ g, 400, .inl (rB (ho)))), (ga, .inl (gI g, 32, .inl (rM (gr)))), (ca, .inl (gI g, 16, .inl (rO (ch)))), (ma, .inl (gI g, 5, .inl (rO (mt)))), (ba, .inl (gI g, 5, .inl (rO (bs)))), (ka, .inl (gI g, 5, .inl (rO (bk))))] [0, 1, 2, 3, 4, 5, 6, 7, 8, 9] 10 rfl rfl [(o, .inr (7, [.ref ia, .ref wa, .ref ha, .ref oa, .ref ga, .ref ca, .ref ma, .ref ba, .ref ka, .int (oI (hnt)), .int (nI gd), .int (nI tn)])), (ia, .inl (gI g, 4, .inl (rM (idn)))), (wa, .inl (gI g, 20, .inl (rM (wd)))), (ha, .inl (gZ g, 400, .inl (rB (hs)))), (oa, .inl (gZ g, 400, .inl (rB (ho)))), (ga, .inl (gI g, 32, .inl (rM (gr)))), (ca, .inl (gI g, 16, .inl (rO (ch)))), (ma, .inl (gI g, 5, .inl (rO (mt)))), (ba, .inl (gI g, 5, .inl (rO (bs)))), (ka, .inl (gI g, 5, .inl (rO (bk))))] rfl rfl (by decide) (by decide)
  refine bv_if_eq (tgt := 31) hx hb dX7_chain_5 (by decide) (fun c_1 => ?_) (fun c_1 => ?_)
  · skip
    exfalso; first | exact c_1 | omega | (simp at c_1; done) | (exact absurd c_1 (by simp))
  · skip
    refine lv_iload_n hx hb dX7_chain_8 rfl (lv_at hl 2 rfl) ?_
    refine im_S (k := 1) hx hb hml hown hts (c_X7_isKind l g (w)) gX7_chain_X7_isKind rfl (by decide +kernel) ⟨Nat.le_of_ble_eq_true rfl, Nat.le_of_ble_eq_true rfl⟩ ⟨Nat.zero_le _, Nat.zero_le _⟩ hK hP hD hS hA [] rfl (by decide) rfl hl.1 (rest := [.ref o]) (As := [.int (w)]) rfl (Nat.le_of_ble_eq_true rfl) dX7_chain_9 (fun x1 w1 H locs hpo hpd hS => ?_)
    obtain ⟨hx1, rfl⟩ := hpo
    rw [hbd] at hx1
    have hx1 : x1 = b2i (false) := hx1
    subst hx1
    obtain ⟨hP, hD⟩ := hpd [(o, .inr (7, [.ref ia, .ref wa, .ref ha, .ref oa, .ref ga, .ref ca, .ref ma, .ref ba, .ref ka, .int (oI (hnt)), .int (nI gd), .int (nI tn)])), (ia, .inl (gI g, 4, .inl (rM (idn)))), (wa, .inl (gI g, 20, .inl (rM (wd)))), (ha, .inl (gZ g, 400, .inl (rB (hs)))), (oa, .inl (gZ g, 400, .inl (rB (ho)))), (ga, .inl (gI g, 32, .inl (rM (gr)))), (ca, .inl (gI g, 16, .inl (rO (ch)))), (ma, .inl (gI g, 5, .inl (rO (mt)))), (ba, .inl (gI g, 5, .inl (rO (bs)))), (ka, .inl (gI g, 5, .inl (rO (bk))))] [0, 1, 2, 3, 4, 5, 6, 7, 8, 9] 10 rfl rfl [(o, .inr (7, [.ref ia, .ref wa, .ref ha, .ref oa, .ref ga, .ref ca, .ref ma, .ref ba, .ref ka, .int (oI (hnt)), .int (nI gd), .int (nI tn)])), (ia, .inl (gI g, 4, .inl (rM (idn)))), (wa, .inl (gI g, 20, .inl (rM (wd)))), (ha, .inl (gZ g, 400, .inl (rB (hs)))), (oa, .inl (gZ g, 400, .inl (rB (ho)))), (ga, .inl (gI g, 32, .inl (rM (gr)))), (ca, .inl (gI g, 16, .inl (rO (ch)))), (ma, .inl (gI g, 5, .inl (rO (mt)))), (ba, .inl (gI g, 5, .inl (rO (bs)))), (ka, .inl (gI g, 5, .inl (rO (bk))))] rfl rfl (by decide) (by decide)
    refine bv_if_eq (tgt := 31) hx hb dX7_chain_12 (by decide) (fun c_2 => ?_) (fun c_2 => ?_)
    · skip
      refine lv_iconst (v := nI (0)) hx hb dX7_chain_31 (by decide) ?_
      refine im_V (k := 1) hx hb hml hown hts (c_X7_asks_f l g o ia wa ha oa ga ca ma ba ka (idn) (wd) (hs) (ho) (gr) (ch) (mt) (bs) (bk) (hnt) (gd) (tn)) gX7_chain_X7_asks rfl (by decide +kernel) ⟨Nat.le_of_ble_eq_true rfl, Nat.le_of_ble_eq_true rfl⟩ ⟨Nat.zero_le _, Nat.zero_le _⟩ hK hP hD hS hA [0, 1, 2, 3, 4, 5, 6, 7, 8, 9] rfl (by decide) 0 7 rfl rfl rfl hl.1 (rest := []) (As := [.int (nI 0)]) rfl (Nat.le_of_ble_eq_true rfl) dX7_chain_32 (fun x1 w1 H locs hpo hpd hS => ?_)
      obtain ⟨hx1, rfl⟩ := hpo
      have hx1 : x1 = b2i (false) := hx1
      subst hx1
      obtain ⟨hP, hD⟩ := hpd [(o, .inr (7, [.ref ia, .ref wa, .ref ha, .ref oa, .ref ga, .ref ca, .ref ma, .ref ba, .ref ka, .int (oI (hnt)), .int (nI gd), .int (nI 1)])), (ia, .inl (gI g, 4, .inl (rM (idn)))), (wa, .inl (gI g, 20, .inl (rM (wd)))), (ha, .inl (gZ g, 400, .inl (rB (hs)))), (oa, .inl (gZ g, 400, .inl (rB (ho)))), (ga, .inl (gI g, 32, .inl (rM (gr)))), (ca, .inl (gI g, 16, .inl (rO (ch)))), (ma, .inl (gI g, 5, .inl (rO (mt)))), (ba, .inl (gI g, 5, .inl (rO (bs)))), (ka, .inl (gI g, 5, .inl (rO (bk))))] [] 10 rfl rfl [] rfl rfl (by decide) (by decide)
      refine bv_if_ne (tgt := 40) hx hb dX7_chain_35 (by decide) (fun c_3 => ?_) (fun c_3 => ?_)
      · skip
        exfalso; first | exact c_3 | omega | (simp at c_3; done) | (exact absurd c_3 (by simp))
      · skip
        refine lv_iconst (v := nI (0)) hx hb dX7_chain_38 (by decide) ?_
        exact im_ret (w1 := [(o, .inr (7, [.ref ia, .ref wa, .ref ha, .ref oa, .ref ga, .ref ca, .ref ma, .ref ba, .ref ka, .int (oI (hnt)), .int (nI gd), .int (nI 1)])), (ia, .inl (gI g, 4, .inl (rM (idn)))), (wa, .inl (gI g, 20, .inl (rM (wd)))), (ha, .inl (gZ g, 400, .inl (rB (hs)))), (oa, .inl (gZ g, 400, .inl (rB (ho)))), (ga, .inl (gI g, 32, .inl (rM (gr)))), (ca, .inl (gI g, 16, .inl (rO (ch)))), (ma, .inl (gI g, 5, .inl (rO (mt)))), (ba, .inl (gI g, 5, .inl (rO (bs)))), (ka, .inl (gI g, 5, .inl (rO (bk))))]) (v := nI (0)) hx hb hr hlocks hP hS rfl ⟨rfl, rfl⟩ dX7_chain_39
    · skip
      exfalso; first | exact c_2 | omega | (simp at c_2; done) | (exact absurd c_2 (by simp))

set_option maxRecDepth 100000 in
set_option maxHeartbeats 4000000 in
theorem c_X7_chain_c (l : Launch) (g : GG) (o ia wa ha oa ga ca ma ba ka : Nat) (idn wd : Nat → Nat) (hs ho : Nat → Bool) (gr : Nat → Nat) (ch mt bs bk : Nat → Option Nat) (hnt : Option Nat) (gd tn : Nat) (f t : Nat) (z : Int32) (hf : f < 4) (ht : t < 4) (hz : z ≠ -1) (hbd : inR z 4 = false) : IM l yX7_chain wsX7_chain 2 g [.ref o, .int (nI f), .int (nI t), .int (z)] [(o, .inr (7, [.ref ia, .ref wa, .ref ha, .ref oa, .ref ga, .ref ca, .ref ma, .ref ba, .ref ka, .int (oI (hnt)), .int (nI gd), .int (nI tn)])), (ia, .inl (gI g, 4, .inl (rM (idn)))), (wa, .inl (gI g, 20, .inl (rM (wd)))), (ha, .inl (gZ g, 400, .inl (rB (hs)))), (oa, .inl (gZ g, 400, .inl (rB (ho)))), (ga, .inl (gI g, 32, .inl (rM (gr)))), (ca, .inl (gI g, 16, .inl (rO (ch)))), (ma, .inl (gI g, 5, .inl (rO (mt)))), (ba, .inl (gI g, 5, .inl (rO (bs)))), (ka, .inl (gI g, 5, .inl (rO (bk))))] (fun x1 w1 => x1 = nI 0 ∧ w1 = [(o, .inr (7, [.ref ia, .ref wa, .ref ha, .ref oa, .ref ga, .ref ca, .ref ma, .ref ba, .ref ka, .int (oI (hnt)), .int (nI gd), .int (nI 1)])), (ia, .inl (gI g, 4, .inl (rM (idn)))), (wa, .inl (gI g, 20, .inl (rM (wd)))), (ha, .inl (gZ g, 400, .inl (rB (hs)))), (oa, .inl (gZ g, 400, .inl (rB (ho)))), (ga, .inl (gI g, 32, .inl (rM (gr)))), (ca, .inl (gI g, 16, .inl (rO (ch)))), (ma, .inl (gI g, 5, .inl (rO (mt)))), (ba, .inl (gI g, 5, .inl (rO (bs)))), (ka, .inl (gI g, 5, .inl (rO (bk))))]) := by
  refine fun sz => im_body (Qc := fun A => va_Qi _ (iB g _) A) (cc := cX7_chain) (maxL := 5) (ret := (some .int)) (by decide) rfl (Nat.le_of_ble_eq_true rfl) ?_ sz
  intro pg ev s0 mi below meth cd A hx hb hr hml hts hown hlocks hK hA H hP hD hS ls hl
  have hl : lv_has ls 5 [(0, .ref o), (1, .int (nI f)), (2, .int (nI t)), (3, .int (z))] := hl
  refine lv_aload_n hx hb dX7_chain_0 rfl (lv_at hl 0 rfl) ?_
  refine lv_iload_n hx hb dX7_chain_1 rfl (lv_at hl 1 rfl) ?_
  refine im_S (k := 1) hx hb hml hown hts (c_X7_isKind l g (nI (f))) gX7_chain_X7_isKind rfl (by decide +kernel) ⟨Nat.le_of_ble_eq_true rfl, Nat.le_of_ble_eq_true rfl⟩ ⟨Nat.zero_le _, Nat.zero_le _⟩ hK hP hD hS hA [] rfl (by decide) rfl hl.1 (rest := [.ref o]) (As := [.int (nI f)]) rfl (Nat.le_of_ble_eq_true rfl) dX7_chain_2 (fun x1 w1 H locs hpo hpd hS => ?_)
  obtain ⟨hx1, rfl⟩ := hpo
  rw [inR_nI (by omega) (by decide)] at hx1
  have hx1 : x1 = b2i (true) := hx1
  subst hx1
  obtain ⟨hP, hD⟩ := hpd [(o, .inr (7, [.ref ia, .ref wa, .ref ha, .ref oa, .ref ga, .ref ca, .ref ma, .ref ba, .ref ka, .int (oI (hnt)), .int (nI gd), .int (nI tn)])), (ia, .inl (gI g, 4, .inl (rM (idn)))), (wa, .inl (gI g, 20, .inl (rM (wd)))), (ha, .inl (gZ g, 400, .inl (rB (hs)))), (oa, .inl (gZ g, 400, .inl (rB (ho)))), (ga, .inl (gI g, 32, .inl (rM (gr)))), (ca, .inl (gI g, 16, .inl (rO (ch)))), (ma, .inl (gI g, 5, .inl (rO (mt)))), (ba, .inl (gI g, 5, .inl (rO (bs)))), (ka, .inl (gI g, 5, .inl (rO (bk))))] [0, 1, 2, 3, 4, 5, 6, 7, 8, 9] 10 rfl rfl [(o, .inr (7, [.ref ia, .ref wa, .ref ha, .ref oa, .ref ga, .ref ca, .ref ma, .ref ba, .ref ka, .int (oI (hnt)), .int (nI gd), .int (nI tn)])), (ia, .inl (gI g, 4, .inl (rM (idn)))), (wa, .inl (gI g, 20, .inl (rM (wd)))), (ha, .inl (gZ g, 400, .inl (rB (hs)))), (oa, .inl (gZ g, 400, .inl (rB (ho)))), (ga, .inl (gI g, 32, .inl (rM (gr)))), (ca, .inl (gI g, 16, .inl (rO (ch)))), (ma, .inl (gI g, 5, .inl (rO (mt)))), (ba, .inl (gI g, 5, .inl (rO (bs)))), (ka, .inl (gI g, 5, .inl (rO (bk))))] rfl rfl (by decide) (by decide)
  refine bv_if_eq (tgt := 31) hx hb dX7_chain_5 (by decide) (fun c_1 => ?_) (fun c_1 => ?_)
  · skip
    exfalso; first | exact c_1 | omega | (simp at c_1; done) | (exact absurd c_1 (by simp))
  · skip
    refine lv_iload_n hx hb dX7_chain_8 rfl (lv_at hl 2 rfl) ?_
    refine im_S (k := 1) hx hb hml hown hts (c_X7_isKind l g (nI (t))) gX7_chain_X7_isKind rfl (by decide +kernel) ⟨Nat.le_of_ble_eq_true rfl, Nat.le_of_ble_eq_true rfl⟩ ⟨Nat.zero_le _, Nat.zero_le _⟩ hK hP hD hS hA [] rfl (by decide) rfl hl.1 (rest := [.ref o]) (As := [.int (nI t)]) rfl (Nat.le_of_ble_eq_true rfl) dX7_chain_9 (fun x1 w1 H locs hpo hpd hS => ?_)
    obtain ⟨hx1, rfl⟩ := hpo
    rw [inR_nI (by omega) (by decide)] at hx1
    have hx1 : x1 = b2i (true) := hx1
    subst hx1
    obtain ⟨hP, hD⟩ := hpd [(o, .inr (7, [.ref ia, .ref wa, .ref ha, .ref oa, .ref ga, .ref ca, .ref ma, .ref ba, .ref ka, .int (oI (hnt)), .int (nI gd), .int (nI tn)])), (ia, .inl (gI g, 4, .inl (rM (idn)))), (wa, .inl (gI g, 20, .inl (rM (wd)))), (ha, .inl (gZ g, 400, .inl (rB (hs)))), (oa, .inl (gZ g, 400, .inl (rB (ho)))), (ga, .inl (gI g, 32, .inl (rM (gr)))), (ca, .inl (gI g, 16, .inl (rO (ch)))), (ma, .inl (gI g, 5, .inl (rO (mt)))), (ba, .inl (gI g, 5, .inl (rO (bs)))), (ka, .inl (gI g, 5, .inl (rO (bk))))] [0, 1, 2, 3, 4, 5, 6, 7, 8, 9] 10 rfl rfl [(o, .inr (7, [.ref ia, .ref wa, .ref ha, .ref oa, .ref ga, .ref ca, .ref ma, .ref ba, .ref ka, .int (oI (hnt)), .int (nI gd), .int (nI tn)])), (ia, .inl (gI g, 4, .inl (rM (idn)))), (wa, .inl (gI g, 20, .inl (rM (wd)))), (ha, .inl (gZ g, 400, .inl (rB (hs)))), (oa, .inl (gZ g, 400, .inl (rB (ho)))), (ga, .inl (gI g, 32, .inl (rM (gr)))), (ca, .inl (gI g, 16, .inl (rO (ch)))), (ma, .inl (gI g, 5, .inl (rO (mt)))), (ba, .inl (gI g, 5, .inl (rO (bs)))), (ka, .inl (gI g, 5, .inl (rO (bk))))] rfl rfl (by decide) (by decide)
    refine bv_if_eq (tgt := 31) hx hb dX7_chain_12 (by decide) (fun c_2 => ?_) (fun c_2 => ?_)
    · skip
      exfalso; first | exact c_2 | omega | (simp at c_2; done) | (exact absurd c_2 (by simp))
    · skip
      refine lv_iload_n hx hb dX7_chain_15 rfl (lv_at hl 3 rfl) ?_
      refine lv_iconst (v := -1) hx hb dX7_chain_16 (by decide) ?_
      refine lv_icmp_eq (tgt := 27) hx hb dX7_chain_17 (by decide) (fun c_3 => ?_) (fun c_3 => ?_)
      · skip
        exfalso; exact hz c_3
      · skip
        refine lv_iload_n hx hb dX7_chain_20 rfl (lv_at hl 3 rfl) ?_
        refine im_S (k := 1) hx hb hml hown hts (c_X7_isKind l g (z)) gX7_chain_X7_isKind rfl (by decide +kernel) ⟨Nat.le_of_ble_eq_true rfl, Nat.le_of_ble_eq_true rfl⟩ ⟨Nat.zero_le _, Nat.zero_le _⟩ hK hP hD hS hA [] rfl (by decide) rfl hl.1 (rest := [.ref o]) (As := [.int (z)]) rfl (Nat.le_of_ble_eq_true rfl) dX7_chain_21 (fun x1 w1 H locs hpo hpd hS => ?_)
        obtain ⟨hx1, rfl⟩ := hpo
        rw [hbd] at hx1
        have hx1 : x1 = b2i (false) := hx1
        subst hx1
        obtain ⟨hP, hD⟩ := hpd [(o, .inr (7, [.ref ia, .ref wa, .ref ha, .ref oa, .ref ga, .ref ca, .ref ma, .ref ba, .ref ka, .int (oI (hnt)), .int (nI gd), .int (nI tn)])), (ia, .inl (gI g, 4, .inl (rM (idn)))), (wa, .inl (gI g, 20, .inl (rM (wd)))), (ha, .inl (gZ g, 400, .inl (rB (hs)))), (oa, .inl (gZ g, 400, .inl (rB (ho)))), (ga, .inl (gI g, 32, .inl (rM (gr)))), (ca, .inl (gI g, 16, .inl (rO (ch)))), (ma, .inl (gI g, 5, .inl (rO (mt)))), (ba, .inl (gI g, 5, .inl (rO (bs)))), (ka, .inl (gI g, 5, .inl (rO (bk))))] [0, 1, 2, 3, 4, 5, 6, 7, 8, 9] 10 rfl rfl [(o, .inr (7, [.ref ia, .ref wa, .ref ha, .ref oa, .ref ga, .ref ca, .ref ma, .ref ba, .ref ka, .int (oI (hnt)), .int (nI gd), .int (nI tn)])), (ia, .inl (gI g, 4, .inl (rM (idn)))), (wa, .inl (gI g, 20, .inl (rM (wd)))), (ha, .inl (gZ g, 400, .inl (rB (hs)))), (oa, .inl (gZ g, 400, .inl (rB (ho)))), (ga, .inl (gI g, 32, .inl (rM (gr)))), (ca, .inl (gI g, 16, .inl (rO (ch)))), (ma, .inl (gI g, 5, .inl (rO (mt)))), (ba, .inl (gI g, 5, .inl (rO (bs)))), (ka, .inl (gI g, 5, .inl (rO (bk))))] rfl rfl (by decide) (by decide)
        refine bv_if_eq (tgt := 31) hx hb dX7_chain_24 (by decide) (fun c_4 => ?_) (fun c_4 => ?_)
        · skip
          refine lv_iconst (v := nI (0)) hx hb dX7_chain_31 (by decide) ?_
          refine im_V (k := 1) hx hb hml hown hts (c_X7_asks_f l g o ia wa ha oa ga ca ma ba ka (idn) (wd) (hs) (ho) (gr) (ch) (mt) (bs) (bk) (hnt) (gd) (tn)) gX7_chain_X7_asks rfl (by decide +kernel) ⟨Nat.le_of_ble_eq_true rfl, Nat.le_of_ble_eq_true rfl⟩ ⟨Nat.zero_le _, Nat.zero_le _⟩ hK hP hD hS hA [0, 1, 2, 3, 4, 5, 6, 7, 8, 9] rfl (by decide) 0 7 rfl rfl rfl hl.1 (rest := []) (As := [.int (nI 0)]) rfl (Nat.le_of_ble_eq_true rfl) dX7_chain_32 (fun x1 w1 H locs hpo hpd hS => ?_)
          obtain ⟨hx1, rfl⟩ := hpo
          have hx1 : x1 = b2i (false) := hx1
          subst hx1
          obtain ⟨hP, hD⟩ := hpd [(o, .inr (7, [.ref ia, .ref wa, .ref ha, .ref oa, .ref ga, .ref ca, .ref ma, .ref ba, .ref ka, .int (oI (hnt)), .int (nI gd), .int (nI 1)])), (ia, .inl (gI g, 4, .inl (rM (idn)))), (wa, .inl (gI g, 20, .inl (rM (wd)))), (ha, .inl (gZ g, 400, .inl (rB (hs)))), (oa, .inl (gZ g, 400, .inl (rB (ho)))), (ga, .inl (gI g, 32, .inl (rM (gr)))), (ca, .inl (gI g, 16, .inl (rO (ch)))), (ma, .inl (gI g, 5, .inl (rO (mt)))), (ba, .inl (gI g, 5, .inl (rO (bs)))), (ka, .inl (gI g, 5, .inl (rO (bk))))] [] 10 rfl rfl [] rfl rfl (by decide) (by decide)
          refine bv_if_ne (tgt := 40) hx hb dX7_chain_35 (by decide) (fun c_5 => ?_) (fun c_5 => ?_)
          · skip
            exfalso; first | exact c_5 | omega | (simp at c_5; done) | (exact absurd c_5 (by simp))
          · skip
            refine lv_iconst (v := nI (0)) hx hb dX7_chain_38 (by decide) ?_
            exact im_ret (w1 := [(o, .inr (7, [.ref ia, .ref wa, .ref ha, .ref oa, .ref ga, .ref ca, .ref ma, .ref ba, .ref ka, .int (oI (hnt)), .int (nI gd), .int (nI 1)])), (ia, .inl (gI g, 4, .inl (rM (idn)))), (wa, .inl (gI g, 20, .inl (rM (wd)))), (ha, .inl (gZ g, 400, .inl (rB (hs)))), (oa, .inl (gZ g, 400, .inl (rB (ho)))), (ga, .inl (gI g, 32, .inl (rM (gr)))), (ca, .inl (gI g, 16, .inl (rO (ch)))), (ma, .inl (gI g, 5, .inl (rO (mt)))), (ba, .inl (gI g, 5, .inl (rO (bs)))), (ka, .inl (gI g, 5, .inl (rO (bk))))]) (v := nI (0)) hx hb hr hlocks hP hS rfl ⟨rfl, rfl⟩ dX7_chain_39
        · skip
          exfalso; first | exact c_4 | omega | (simp at c_4; done) | (exact absurd c_4 (by simp))
