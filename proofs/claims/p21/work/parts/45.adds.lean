theorem inR_self {n : Nat} (h : n < 2 ^ 31) : inR (nI n) n = false := inX_b h (Int32.le_refl _)
theorem lkB2_self {n : Nat} (h : n ≤ 5) {d : Int32} : lkB2 n (nI 0) (nI n) d = 1 := by
  unfold lkB2
  rw [inR_self (show n < 2 ^ 31 by omega)]
  split
  · rfl
  · rfl
set_option maxRecDepth 100000 in
set_option maxHeartbeats 8000000 in
theorem c_adds (l : Launch) (hst : l.stackTraces = false) (g : GG) (ad : Nat → Nat) (gm : Nat → Option Nat) (hG : GM ad gm) (σ : Stt) (hσ : SOk σ) (m : Nat) (hm0 : m ≠ 0) (hm4 : m < 4) : MY l yL_adds wsL_adds 14 102 612 g ad gm [.ref (ad 0), .int (nI m)] σ (fun x σ' => x = 1 ∧ σ' = σ) := by
  intro z0 hz0 sz
  refine iy_body (Qc := fun A => va_Qi (fun (x : Int32) (w : va_W) => ∃ σ' z', (fun x σ' => x = 1 ∧ σ' = σ) x σ' ∧ ZOk z' ∧ w = MW g ad gm σ' z') (iB g (MW g ad gm σ z0)) A) (cc := cL_adds) (maxL := 11) (ret := (some .boolean)) (by decide) rfl (Nat.le_of_ble_eq_true rfl) ?_ sz
  intro pg ev s0 mi below meth cd A hx hb hr hml hts hown hlocks hK hA hNX hZ H0 hP0 hD0 hS0 ls0 hl0
  have hn5 : s_n σ m ≤ 5 := hσ.1 m
  have hp5 : s_n σ 0 ≤ 5 := hσ.1 0
  have hcl := a_ct_le σ m
  have hhl := a_hl_le σ m
  have hpl := a_pts_le hσ m
  have hkl := a_mk_le hσ m
  have hge := a_hl_ge hσ m
  have hlk := a_lk_gv hσ m
  have hN : s_n σ m * s_n σ m * 4 ≤ 100 := by have := Nat.mul_le_mul hn5 hn5; omega
  have hl0 : lv_has ls0 11 [(0, .ref (ad 0)), (1, .int (nI m))] := hl0
  have j247 : ∀ (z : Scr) (hz : ZOk z) (H : Heap) (locs : List Loc) (hP : va_P g.1 vwCl (MW g ad gm σ z) H) (hD : va_D A (MW g ad gm σ z)) (hS : va_S A s0.heap H locs) (ls : Array Slot) (hl : lv_has ls 11 [(0, .ref (ad 0)), (1, .int (nI m)), (2, .int (nI (s_n σ m))), (5, .int (nI 1))]), W pg l ev (rmY 14 102 612) s0 mi ([.ref (ad 0), .int (nI m)] : List Value).toArray below meth cd H locs (100) (600) (MQ below (va_Qi (fun (x : Int32) (w : va_W) => ∃ σ' z', (fun x σ' => x = 1 ∧ σ' = σ) x σ' ∧ ZOk z' ∧ w = MW g ad gm σ' z') (iB g (MW g ad gm σ z0)) A) ([.ref (ad 0), .int (nI m)] : List Value).toArray s0 102 612 A) (F0 mi 247 ls []) := by
    intro  z hz H locs hP hD hS ls hl
    refine lv_iconst (v := nI (0)) hx hb dL_adds_247 (by decide) ?_
    refine lv_istore (lv' := [(7, .int (nI 0)), (0, .ref (ad 0)), (1, .int (nI m)), (2, .int (nI (s_n σ m))), (5, .int (nI 1))]) hx hb dL_adds_248 hl (by decide) rfl (fun ls hl => ?_)
    refine lv_iconst (v := nI (0)) hx hb dL_adds_250 (by decide) ?_
    refine lv_istore (lv' := [(8, .int (nI 0)), (7, .int (nI 0)), (0, .ref (ad 0)), (1, .int (nI m)), (2, .int (nI (s_n σ m))), (5, .int (nI 1))]) hx hb dL_adds_251 hl (by decide) rfl (fun ls hl => ?_)
    refine lv_iconst (v := nI (0)) hx hb dL_adds_253 (by decide) ?_
    refine lv_istore (lv' := [(9, .int (nI 0)), (8, .int (nI 0)), (7, .int (nI 0)), (0, .ref (ad 0)), (1, .int (nI m)), (2, .int (nI (s_n σ m))), (5, .int (nI 1))]) hx hb dL_adds_254 hl (by decide) rfl (fun ls hl => ?_)
    have lb : ∀ (k9 : Nat) (k : Nat) (hk : k ≤ s_n σ 0), s_n σ 0 - k < k9 → ∀ (z : Scr) (hz : ZOk z) (H : Heap) (locs : List Loc) (hP : va_P g.1 vwCl (MW g ad gm σ z) H) (hD : va_D A (MW g ad gm σ z)) (hS : va_S A s0.heap H locs) (ls : Array Slot) (hl : lv_has ls 11 [(0, .ref (ad 0)), (1, .int (nI m)), (2, .int (nI (s_n σ m))), (5, .int (nI 1)), (7, .int (nI (gvF (a_re σ m) k))), (8, .int (nI (stF (a_re σ m) k))), (9, .int (nI k))]), W pg l ev (rmY 14 102 612) s0 mi ([.ref (ad 0), .int (nI m)] : List Value).toArray below meth cd H locs (100) (600) (MQ below (va_Qi (fun (x : Int32) (w : va_W) => ∃ σ' z', (fun x σ' => x = 1 ∧ σ' = σ) x σ' ∧ ZOk z' ∧ w = MW g ad gm σ' z') (iB g (MW g ad gm σ z0)) A) ([.ref (ad 0), .int (nI m)] : List Value).toArray s0 102 612 A) (F0 mi 256 ls []) := by
      intro k9
      induction k9 with
      | zero => intros; omega
      | succ k9 lb_ih =>
        intro k hk hmz z hz H locs hP hD hS ls hl
        have hst9 : stF (a_re σ m) k < 32 := stF_lt (fun e a h => by have := a_re_lt h; omega) k
        have hgv9 := gvF_le (f := a_re σ m) k
        refine lv_iload hx hb dL_adds_256 (lv_at hl 6 rfl) ?_
        refine lv_aload_n hx hb dL_adds_258 rfl (lv_at hl 0 rfl) ?_
        refine lv_iconst (v := nI (0)) hx hb dL_adds_259 (by decide) ?_
        refine mc_V (k := 1) hx hb hml hown hts (mc_ideas l g ad gm hG σ hσ 0 (by omega)) gL_adds_X6_ideas rfl (by decide +kernel) ⟨Nat.le_of_ble_eq_true rfl, Nat.le_of_ble_eq_true rfl⟩ ⟨by show _ ≤ 102; omega, by show _ ≤ 612; omega⟩ hK hz hP hD hS hA rfl hl.1 (rest := [.int (nI k)]) (As := [.int (nI 0)]) rfl (Nat.le_of_ble_eq_true rfl) dL_adds_260 (fun z H locs hz hP hD hS => ?_)
        refine nv_icmp_ge (tgt := 353) hx hb (by omega) (by omega) dL_adds_263 (by decide) (fun c_1 => ?_) (fun c_1 => ?_)
        · skip
          have ek : k = (s_n σ 0) := by omega
          subst ek
          refine lv_iload hx hb dL_adds_353 (lv_at hl 3 rfl) ?_
          refine lv_if_eq (tgt := 408) hx hb dL_adds_355 (by decide) (fun c_2 => absurd c_2 (by decide)) (fun c_2 => ?_)
          refine lv_aload_n hx hb dL_adds_358 rfl (lv_at hl 0 rfl) ?_
          refine lv_iload_n hx hb dL_adds_359 rfl (lv_at hl 1 rfl) ?_
          refine mc_V (k := 1) hx hb hml hown hts (mc_lacking l g ad gm hG σ hσ m (by omega) (by omega)) gL_adds_X6_lacking rfl (by decide +kernel) ⟨Nat.le_of_ble_eq_true rfl, Nat.le_of_ble_eq_true rfl⟩ ⟨by show _ ≤ 102; omega, by show _ ≤ 612; omega⟩ hK hz hP hD hS hA rfl hl.1 (rest := []) (As := [.int (nI m)]) rfl (Nat.le_of_ble_eq_true rfl) dL_adds_360 (fun z H locs hz hP hD hS => ?_)
          refine lv_iload_n hx hb dL_adds_363 rfl (lv_at hl 2 rfl) ?_
          refine lv_iload hx hb dL_adds_364 (lv_at hl 4 rfl) ?_
          refine nv_isub hx hb (by omega) dL_adds_366 ?_
          refine nv_icmp_ne (tgt := 408) hx hb (by omega) (by omega) dL_adds_367 (by decide) (fun c_3 => by exfalso; omega) (fun c_3 => ?_)
          refine lv_aload_n hx hb dL_adds_370 rfl (lv_at hl 0 rfl) ?_
          refine lv_bipush (v := nI (12)) hx hb dL_adds_371 (by decide) ?_
          refine lv_iload_n hx hb dL_adds_373 rfl (lv_at hl 1 rfl) ?_
          refine lv_aload_n hx hb dL_adds_374 rfl (lv_at hl 0 rfl) ?_
          refine lv_iconst (v := nI (0)) hx hb dL_adds_375 (by decide) ?_
          refine mc_V (k := 1) hx hb hml hown hts (mc_ideas l g ad gm hG σ hσ 0 (by omega)) gL_adds_X6_ideas rfl (by decide +kernel) ⟨Nat.le_of_ble_eq_true rfl, Nat.le_of_ble_eq_true rfl⟩ ⟨by show _ ≤ 102; omega, by show _ ≤ 612; omega⟩ hK hz hP hD hS hA rfl hl.1 (rest := [.int (nI m), .int (nI 12), .ref (ad 0)]) (As := [.int (nI 0)]) rfl (Nat.le_of_ble_eq_true rfl) dL_adds_376 (fun z H locs hz hP hD hS => ?_)
          refine lv_iconst (v := nI (0)) hx hb dL_adds_379 (by decide) ?_
          refine lv_iconst (v := nI (0)) hx hb dL_adds_380 (by decide) ?_
          refine mx_S (k := 6) hx hb hml hown hts (k_matchOf_i l hst g ad gm hG σ hσ m hm0 hm4 (nI (s_n σ 0)) (inR_self (by omega)) (nI 0) (nI 0)) gL_adds_L_call rfl (by decide +kernel) ⟨Nat.le_of_ble_eq_true rfl, Nat.le_of_ble_eq_true rfl⟩ ⟨by show _ ≤ 102; omega, by show _ ≤ 612; omega⟩ hK hNX hZ hz hP hD hS hA rfl hl.1 (rest := []) (As := [.ref (ad 0), .int (nI 12), .int (nI m), .int (nI (s_n σ 0)), .int (nI 0), .int (nI 0)]) rfl (Nat.le_of_ble_eq_true rfl) dL_adds_381 (fun z H locs hz hP hD hS => ?_)
          refine lv_bipush (v := -111) hx hb dL_adds_384 (by decide) ?_
          refine lv_icmp_ne (tgt := 408) hx hb dL_adds_386 (by decide) (fun c_4 => absurd c_4 (by decide)) (fun c_4 => ?_)
          refine lv_aload_n hx hb dL_adds_389 rfl (lv_at hl 0 rfl) ?_
          refine lv_bipush (v := nI (13)) hx hb dL_adds_390 (by decide) ?_
          refine lv_iload_n hx hb dL_adds_392 rfl (lv_at hl 1 rfl) ?_
          refine lv_iconst (v := nI (0)) hx hb dL_adds_393 (by decide) ?_
          refine lv_iload_n hx hb dL_adds_394 rfl (lv_at hl 2 rfl) ?_
          refine lv_iconst (v := nI (0)) hx hb dL_adds_395 (by decide) ?_
          refine mx_S (k := 6) hx hb hml hown hts (k_verdict_1 l hst g ad gm hG σ hσ m hm0 hm4 (nI 0) (nI (s_n σ m)) (nI 0) (lkB2_self hn5)) gL_adds_L_call rfl (by decide +kernel) ⟨Nat.le_of_ble_eq_true rfl, Nat.le_of_ble_eq_true rfl⟩ ⟨by show _ ≤ 102; omega, by show _ ≤ 612; omega⟩ hK hNX hZ hz hP hD hS hA rfl hl.1 (rest := []) (As := [.ref (ad 0), .int (nI 13), .int (nI m), .int (nI 0), .int (nI (s_n σ m)), .int (nI 0)]) rfl (Nat.le_of_ble_eq_true rfl) dL_adds_396 (fun z H locs hz hP hD hS => ?_)
          refine lv_bipush (v := -111) hx hb dL_adds_399 (by decide) ?_
          refine lv_icmp_ne (tgt := 408) hx hb dL_adds_401 (by decide) (fun c_5 => absurd c_5 (by decide)) (fun c_5 => ?_)
          refine lv_iconst (v := nI (1)) hx hb dL_adds_404 (by decide) ?_
          refine lv_goto (tgt := 409) hx hb dL_adds_405 (by decide) ?_
          exact my_retz (v := nI (1)) hx hb hr hlocks hz hP hS (by omega) (by omega) (mc := 102) (ms := 612) ⟨rfl, rfl⟩ (by first | exact b2i_nar _ | rfl) dL_adds_409
        · skip
          refine lv_iload hx hb dL_adds_266 (lv_at hl 3 rfl) ?_
          refine lv_if_eq (tgt := 353) hx hb dL_adds_268 (by decide) (fun c_6 => absurd c_6 (by decide)) (fun c_6 => ?_)
          refine lv_aload_n hx hb dL_adds_271 rfl (lv_at hl 0 rfl) ?_
          refine lv_iload_n hx hb dL_adds_272 rfl (lv_at hl 1 rfl) ?_
          refine lv_iload hx hb dL_adds_273 (lv_at hl 6 rfl) ?_
          refine mc_V (k := 2) hx hb hml hown hts (mc_matchOf l g ad gm hG σ hσ m hm0 hm4 k (by omega)) gL_adds_X6_matchOf rfl (by decide +kernel) ⟨Nat.le_of_ble_eq_true rfl, Nat.le_of_ble_eq_true rfl⟩ ⟨by show _ ≤ 102; omega, by show _ ≤ 612; omega⟩ hK hz hP hD hS hA rfl hl.1 (rest := []) (As := [.int (nI m), .int (nI k)]) rfl (Nat.le_of_ble_eq_true rfl) dL_adds_275 (fun z H locs hz hP hD hS => ?_)
          cases hz1 : a_re σ m k with
          | none =>
            refine lv_istore (lv' := [(10, .int (oI (none))), (0, .ref (ad 0)), (1, .int (nI m)), (2, .int (nI (s_n σ m))), (5, .int (nI 1)), (7, .int (nI (gvF (a_re σ m) k))), (8, .int (nI (stF (a_re σ m) k))), (9, .int (nI k))]) hx hb dL_adds_278 hl (by decide) rfl (fun ls hl => ?_)
            refine lv_iload hx hb dL_adds_280 (lv_at hl 0 rfl) ?_
            refine lv_iconst (v := -1) hx hb dL_adds_282 (by decide) ?_
            refine lv_icmp_eq (tgt := 307) hx hb dL_adds_283 (by decide) (fun c_7 => ?_) (fun c_7 => absurd c_7 (by decide))
            refine lv_iconst (v := nI (1)) hx hb dL_adds_307 (by decide) ?_
            refine lv_goto (tgt := 312) hx hb dL_adds_308 (by decide) ?_
            refine lv_istore (lv' := [(5, .int (nI 1)), (10, .int (oI (none))), (0, .ref (ad 0)), (1, .int (nI m)), (2, .int (nI (s_n σ m))), (7, .int (nI (gvF (a_re σ m) k))), (8, .int (nI (stF (a_re σ m) k))), (9, .int (nI k))]) hx hb dL_adds_312 hl (by decide) rfl (fun ls hl => ?_)
            refine lv_iload hx hb dL_adds_314 (lv_at hl 6 rfl) ?_
            refine lv_iload hx hb dL_adds_316 (lv_at hl 1 rfl) ?_
            refine lv_if_ge (tgt := 325) hx hb dL_adds_318 (by decide) (fun c_8 => absurd c_8 (by decide)) (fun c_8 => ?_)
            refine lv_iconst (v := nI (0)) hx hb dL_adds_321 (by decide) ?_
            refine lv_goto (tgt := 329) hx hb dL_adds_322 (by decide) ?_
            refine nv_ior hx hb dL_adds_329 ?_
            refine lv_istore (lv' := [(8, .int (nI ((stF (a_re σ m) k) ||| 0))), (5, .int (nI 1)), (10, .int (oI (none))), (0, .ref (ad 0)), (1, .int (nI m)), (2, .int (nI (s_n σ m))), (7, .int (nI (gvF (a_re σ m) k))), (9, .int (nI k))]) hx hb dL_adds_330 hl (by decide) rfl (fun ls hl => ?_)
            refine lv_iload hx hb dL_adds_332 (lv_at hl 6 rfl) ?_
            refine lv_iload hx hb dL_adds_334 (lv_at hl 2 rfl) ?_
            refine lv_if_ge (tgt := 343) hx hb dL_adds_336 (by decide) (fun c_9 => absurd c_9 (by decide)) (fun c_9 => ?_)
            refine lv_iconst (v := nI (0)) hx hb dL_adds_339 (by decide) ?_
            refine lv_goto (tgt := 344) hx hb dL_adds_340 (by decide) ?_
            refine nv_iadd hx hb dL_adds_344 ?_
            refine lv_istore (lv' := [(7, .int (nI ((gvF (a_re σ m) k) + 0))), (8, .int (nI ((stF (a_re σ m) k) ||| 0))), (5, .int (nI 1)), (10, .int (oI (none))), (0, .ref (ad 0)), (1, .int (nI m)), (2, .int (nI (s_n σ m))), (9, .int (nI k))]) hx hb dL_adds_345 hl (by decide) rfl (fun ls hl => ?_)
            refine lv_iinc (v := nI (k + 1)) (lv' := [(9, .int (nI (k + 1))), (7, .int (nI ((gvF (a_re σ m) k) + 0))), (8, .int (nI ((stF (a_re σ m) k) ||| 0))), (5, .int (nI 1)), (10, .int (oI (none))), (0, .ref (ad 0)), (1, .int (nI m)), (2, .int (nI (s_n σ m)))]) hx hb dL_adds_347 hl (k := 7) rfl (by show nI _ + _ = _; rw [show Int32.ofInt 1 = nI 1 from by decide, nI_add]) (by decide) rfl (fun ls hl => ?_)
            refine lv_goto (tgt := 256) hx hb dL_adds_350 (by decide) ?_
            have e1 : stF (a_re σ m) k ||| 0 = stF (a_re σ m) (k + 1) := by rw [stF_n hz1]; exact Nat.or_zero _
            have e2 : gvF (a_re σ m) k + 0 = gvF (a_re σ m) (k + 1) := (gvF_n hz1).symm
            rw [e1, e2] at hl
            exact lb_ih (k + 1) (by omega) (by omega) z hz H locs hP hD hS ls (lv_sub hl [5, 6, 7, 3, 1, 2, 0] rfl)
          | some o =>
            have ho5 : o < s_n σ m := a_re_lt hz1
            refine lv_istore (lv' := [(10, .int (nI o)), (0, .ref (ad 0)), (1, .int (nI m)), (2, .int (nI (s_n σ m))), (5, .int (nI 1)), (7, .int (nI (gvF (a_re σ m) k))), (8, .int (nI (stF (a_re σ m) k))), (9, .int (nI k))]) hx hb dL_adds_278 hl (by decide) rfl (fun ls hl => ?_)
            refine lv_iload hx hb dL_adds_280 (lv_at hl 0 rfl) ?_
            refine lv_iconst (v := -1) hx hb dL_adds_282 (by decide) ?_
            refine lv_icmp_eq (tgt := 307) hx hb dL_adds_283 (by decide) (fun c_10 => by exfalso; exact nI_nneg (by omega) (by decide) c_10) (fun c_10 => ?_)
            refine lv_iload hx hb dL_adds_286 (lv_at hl 0 rfl) ?_
            refine nv_if_lt (tgt := 311) hx hb (by omega) dL_adds_288 (by decide) (fun c_11 => by exfalso; exact c_11) (fun c_11 => ?_)
            refine lv_iload hx hb dL_adds_291 (lv_at hl 0 rfl) ?_
            refine lv_iload_n hx hb dL_adds_293 rfl (lv_at hl 3 rfl) ?_
            refine nv_icmp_ge (tgt := 311) hx hb (by omega) (by omega) dL_adds_294 (by decide) (fun c_12 => by exfalso; omega) (fun c_12 => ?_)
            refine lv_iload hx hb dL_adds_297 (lv_at hl 6 rfl) ?_
            refine lv_iload hx hb dL_adds_299 (lv_at hl 0 rfl) ?_
            refine nv_ishr hx hb (by omega) (by omega) dL_adds_301 ?_
            refine lv_iconst (v := nI (1)) hx hb dL_adds_302 (by decide) ?_
            refine nv_iand hx hb dL_adds_303 ?_
            refine nv_if_ne (tgt := 311) hx hb and1_lt dL_adds_304 (by decide) (fun c_13 => by exfalso; exact absurd (tb_ne c_13) (by rw [st_free (a_re_v σ m) hz1]; decide)) (fun c_13 => ?_)
            refine lv_iconst (v := nI (1)) hx hb dL_adds_307 (by decide) ?_
            refine lv_goto (tgt := 312) hx hb dL_adds_308 (by decide) ?_
            refine lv_istore (lv' := [(5, .int (nI 1)), (10, .int (nI o)), (0, .ref (ad 0)), (1, .int (nI m)), (2, .int (nI (s_n σ m))), (7, .int (nI (gvF (a_re σ m) k))), (8, .int (nI (stF (a_re σ m) k))), (9, .int (nI k))]) hx hb dL_adds_312 hl (by decide) rfl (fun ls hl => ?_)
            refine lv_iload hx hb dL_adds_314 (lv_at hl 6 rfl) ?_
            refine lv_iload hx hb dL_adds_316 (lv_at hl 1 rfl) ?_
            refine nv_if_ge (tgt := 325) hx hb (by omega) dL_adds_318 (by decide) (fun c_14 => ?_) (fun c_14 => by exfalso; exact c_14)
            refine lv_iconst (v := nI (1)) hx hb dL_adds_325 (by decide) ?_
            refine lv_iload hx hb dL_adds_326 (lv_at hl 1 rfl) ?_
            refine nv_ishl hx hb (by omega) (shl_b5 (by omega)) dL_adds_328 ?_
            refine nv_ior hx hb dL_adds_329 ?_
            refine lv_istore (lv' := [(8, .int (nI ((stF (a_re σ m) k) ||| (1 <<< o)))), (5, .int (nI 1)), (10, .int (nI o)), (0, .ref (ad 0)), (1, .int (nI m)), (2, .int (nI (s_n σ m))), (7, .int (nI (gvF (a_re σ m) k))), (9, .int (nI k))]) hx hb dL_adds_330 hl (by decide) rfl (fun ls hl => ?_)
            refine lv_iload hx hb dL_adds_332 (lv_at hl 6 rfl) ?_
            refine lv_iload hx hb dL_adds_334 (lv_at hl 2 rfl) ?_
            refine nv_if_ge (tgt := 343) hx hb (by omega) dL_adds_336 (by decide) (fun c_15 => ?_) (fun c_15 => by exfalso; exact c_15)
            refine lv_iconst (v := nI (1)) hx hb dL_adds_343 (by decide) ?_
            refine nv_iadd hx hb dL_adds_344 ?_
            refine lv_istore (lv' := [(7, .int (nI ((gvF (a_re σ m) k) + 1))), (8, .int (nI ((stF (a_re σ m) k) ||| (1 <<< o)))), (5, .int (nI 1)), (10, .int (nI o)), (0, .ref (ad 0)), (1, .int (nI m)), (2, .int (nI (s_n σ m))), (9, .int (nI k))]) hx hb dL_adds_345 hl (by decide) rfl (fun ls hl => ?_)
            refine lv_iinc (v := nI (k + 1)) (lv' := [(9, .int (nI (k + 1))), (7, .int (nI ((gvF (a_re σ m) k) + 1))), (8, .int (nI ((stF (a_re σ m) k) ||| (1 <<< o)))), (5, .int (nI 1)), (10, .int (nI o)), (0, .ref (ad 0)), (1, .int (nI m)), (2, .int (nI (s_n σ m)))]) hx hb dL_adds_347 hl (k := 7) rfl (by show nI _ + _ = _; rw [show Int32.ofInt 1 = nI 1 from by decide, nI_add]) (by decide) rfl (fun ls hl => ?_)
            refine lv_goto (tgt := 256) hx hb dL_adds_350 (by decide) ?_
            have e1 : stF (a_re σ m) k ||| (1 <<< o) = stF (a_re σ m) (k + 1) := (stF_s hz1).symm
            have e2 : gvF (a_re σ m) k + 1 = gvF (a_re σ m) (k + 1) := (gvF_s hz1).symm
            rw [e1, e2] at hl
            exact lb_ih (k + 1) (by omega) (by omega) z hz H locs hP hD hS ls (lv_sub hl [5, 6, 7, 3, 1, 2, 0] rfl)
    exact lb (s_n σ 0 + 1) 0 (Nat.zero_le _) (by omega) z hz H locs hP hD hS ls (lv_sub hl [3, 4, 5, 6, 2, 1, 0] rfl)
  have hP := hP0; have hD := hD0; have hS := hS0; have hl := hl0; have hz := hz0
  refine lv_aload_n hx hb dL_adds_0 rfl (lv_at hl 0 rfl) ?_
  refine lv_iload_n hx hb dL_adds_1 rfl (lv_at hl 1 rfl) ?_
  refine mc_V (k := 1) hx hb hml hown hts (mc_ideas l g ad gm hG σ hσ m (by omega)) gL_adds_X6_ideas rfl (by decide +kernel) ⟨Nat.le_of_ble_eq_true rfl, Nat.le_of_ble_eq_true rfl⟩ ⟨by show _ ≤ 102; omega, by show _ ≤ 612; omega⟩ hK hz hP hD hS hA rfl hl.1 (rest := []) (As := [.int (nI m)]) rfl (Nat.le_of_ble_eq_true rfl) dL_adds_2 (fun z H locs hz hP hD hS => ?_)
  refine lv_istore_n (lv' := [(2, .int (nI (s_n σ m))), (0, .ref (ad 0)), (1, .int (nI m))]) hx hb dL_adds_5 rfl hl (by decide) rfl (fun ls hl => ?_)
  refine lv_iconst (v := nI (0)) hx hb dL_adds_6 (by decide) ?_
  refine lv_istore_n (lv' := [(3, .int (nI 0)), (2, .int (nI (s_n σ m))), (0, .ref (ad 0)), (1, .int (nI m))]) hx hb dL_adds_7 rfl hl (by decide) rfl (fun ls hl => ?_)
  refine lv_iconst (v := nI (0)) hx hb dL_adds_8 (by decide) ?_
  refine lv_istore (lv' := [(4, .int (nI 0)), (3, .int (nI 0)), (2, .int (nI (s_n σ m))), (0, .ref (ad 0)), (1, .int (nI m))]) hx hb dL_adds_9 hl (by decide) rfl (fun ls hl => ?_)
  refine lv_iconst (v := nI (1)) hx hb dL_adds_11 (by decide) ?_
  refine lv_istore (lv' := [(5, .int (nI 1)), (4, .int (nI 0)), (3, .int (nI 0)), (2, .int (nI (s_n σ m))), (0, .ref (ad 0)), (1, .int (nI m))]) hx hb dL_adds_12 hl (by decide) rfl (fun ls hl => ?_)
  refine lv_iconst (v := nI (0)) hx hb dL_adds_14 (by decide) ?_
  refine lv_istore (lv' := [(6, .int (nI 0)), (5, .int (nI 1)), (4, .int (nI 0)), (3, .int (nI 0)), (2, .int (nI (s_n σ m))), (0, .ref (ad 0)), (1, .int (nI m))]) hx hb dL_adds_15 hl (by decide) rfl (fun ls hl => ?_)
  have la : ∀ (k9 : Nat) (k : Nat) (hk : k ≤ s_n σ m * s_n σ m * 4), s_n σ m * s_n σ m * 4 - k < k9 → ∀ (z : Scr) (hz : ZOk z) (H : Heap) (locs : List Loc) (hP : va_P g.1 vwCl (MW g ad gm σ z) H) (hD : va_D A (MW g ad gm σ z)) (hS : va_S A s0.heap H locs) (ls : Array Slot) (hl : lv_has ls 11 [(0, .ref (ad 0)), (1, .int (nI m)), (2, .int (nI (s_n σ m))), (3, .int (nI (sumN (a_lp σ m) k))), (4, .int (nI (sumN (a_l1 σ m) k))), (5, .int (nI 1)), (6, .int (nI k))]), W pg l ev (rmY 14 102 612) s0 mi ([.ref (ad 0), .int (nI m)] : List Value).toArray below meth cd H locs (k) (6 * k) (MQ below (va_Qi (fun (x : Int32) (w : va_W) => ∃ σ' z', (fun x σ' => x = 1 ∧ σ' = σ) x σ' ∧ ZOk z' ∧ w = MW g ad gm σ' z') (iB g (MW g ad gm σ z0)) A) ([.ref (ad 0), .int (nI m)] : List Value).toArray s0 102 612 A) (F0 mi 17 ls []) := by
    intro k9
    induction k9 with
    | zero => intros; omega
    | succ k9 la_ih =>
      intro k hk hmz z hz H locs hP hD hS ls hl
      have hl1 := a_l1_le σ m k
      have hl2 := a_lp_le σ m k
      refine lv_iload hx hb dL_adds_17 (lv_at hl 6 rfl) ?_
      refine lv_iload_n hx hb dL_adds_19 rfl (lv_at hl 2 rfl) ?_
      refine lv_iload_n hx hb dL_adds_20 rfl (lv_at hl 2 rfl) ?_
      refine nv_imul hx hb dL_adds_21 ?_
      refine lv_iconst (v := nI (4)) hx hb dL_adds_22 (by decide) ?_
      refine nv_imul hx hb dL_adds_23 ?_
      refine nv_icmp_ge (tgt := 165) hx hb (by omega) (by omega) dL_adds_24 (by decide) (fun c_16 => ?_) (fun c_16 => ?_)
      · skip
        have ek : k = (s_n σ m * s_n σ m * 4) := by omega
        subst ek
        rw [a_l1_sum hσ m, a_lp_sum hσ m] at hl
        refine W.widen (k := 100) (n := 600) (by omega) (by omega) ?_
        refine lv_aload_n hx hb dL_adds_165 rfl (lv_at hl 0 rfl) ?_
        refine lv_iload_n hx hb dL_adds_166 rfl (lv_at hl 1 rfl) ?_
        refine mc_V (k := 1) hx hb hml hown hts (mc_points l g ad gm hG σ hσ m (by omega) (by omega)) gL_adds_X6_points rfl (by decide +kernel) ⟨Nat.le_of_ble_eq_true rfl, Nat.le_of_ble_eq_true rfl⟩ ⟨by show _ ≤ 102; omega, by show _ ≤ 612; omega⟩ hK hz hP hD hS hA rfl hl.1 (rest := []) (As := [.int (nI m)]) rfl (Nat.le_of_ble_eq_true rfl) dL_adds_167 (fun z H locs hz hP hD hS => ?_)
        refine lv_istore (lv' := [(6, .int (nI (a_pts σ m))), (0, .ref (ad 0)), (1, .int (nI m)), (2, .int (nI (s_n σ m))), (3, .int (nI (a_pts σ m))), (4, .int (nI (a_ct σ m))), (5, .int (nI 1))]) hx hb dL_adds_170 hl (by decide) rfl (fun ls hl => ?_)
        refine lv_iload hx hb dL_adds_172 (lv_at hl 6 rfl) ?_
        refine lv_if_eq (tgt := 244) hx hb dL_adds_174 (by decide) (fun c_17 => absurd c_17 (by decide)) (fun c_17 => ?_)
        refine lv_iload hx hb dL_adds_177 (lv_at hl 5 rfl) ?_
        refine lv_aload_n hx hb dL_adds_179 rfl (lv_at hl 1 rfl) ?_
        refine lv_iload_n hx hb dL_adds_180 rfl (lv_at hl 2 rfl) ?_
        refine mc_V (k := 1) hx hb hml hown hts (mc_links l g ad gm hG σ hσ m (by omega)) gL_adds_X6_links rfl (by decide +kernel) ⟨Nat.le_of_ble_eq_true rfl, Nat.le_of_ble_eq_true rfl⟩ ⟨by show _ ≤ 102; omega, by show _ ≤ 612; omega⟩ hK hz hP hD hS hA rfl hl.1 (rest := [.int (nI (a_ct σ m))]) (As := [.int (nI m)]) rfl (Nat.le_of_ble_eq_true rfl) dL_adds_181 (fun z H locs hz hP hD hS => ?_)
        refine nv_icmp_ne (tgt := 244) hx hb (by omega) (by omega) dL_adds_184 (by decide) (fun c_18 => by exfalso; exact c_18 rfl) (fun c_18 => ?_)
        refine lv_iload_n hx hb dL_adds_187 rfl (lv_at hl 4 rfl) ?_
        refine lv_iload hx hb dL_adds_188 (lv_at hl 0 rfl) ?_
        refine nv_icmp_ne (tgt := 244) hx hb (by omega) (by omega) dL_adds_190 (by decide) (fun c_19 => by exfalso; exact c_19 rfl) (fun c_19 => ?_)
        refine lv_aload_n hx hb dL_adds_193 rfl (lv_at hl 1 rfl) ?_
        refine lv_iload_n hx hb dL_adds_194 rfl (lv_at hl 2 rfl) ?_
        refine mc_V (k := 1) hx hb hml hown hts (mc_pointsByTrying l g ad gm hG σ hσ m (by omega) (by omega)) gL_adds_X6_pointsByTrying rfl (by decide +kernel) ⟨Nat.le_of_ble_eq_true rfl, Nat.le_of_ble_eq_true rfl⟩ ⟨by show _ ≤ 102; omega, by show _ ≤ 612; omega⟩ hK hz hP hD hS hA rfl hl.1 (rest := []) (As := [.int (nI m)]) rfl (Nat.le_of_ble_eq_true rfl) dL_adds_195 (fun z H locs hz hP hD hS => ?_)
        refine lv_iload hx hb dL_adds_198 (lv_at hl 0 rfl) ?_
        refine nv_icmp_ne (tgt := 244) hx hb (by omega) (by omega) dL_adds_200 (by decide) (fun c_20 => by exfalso; exact c_20 rfl) (fun c_20 => ?_)
        refine lv_aload_n hx hb dL_adds_203 rfl (lv_at hl 1 rfl) ?_
        refine lv_iload_n hx hb dL_adds_204 rfl (lv_at hl 2 rfl) ?_
        refine mc_V (k := 1) hx hb hml hown hts (mc_mark l g ad gm hG σ hσ m (by omega) (by omega)) gL_adds_X6_mark rfl (by decide +kernel) ⟨Nat.le_of_ble_eq_true rfl, Nat.le_of_ble_eq_true rfl⟩ ⟨by show _ ≤ 102; omega, by show _ ≤ 612; omega⟩ hK hz hP hD hS hA rfl hl.1 (rest := []) (As := [.int (nI m)]) rfl (Nat.le_of_ble_eq_true rfl) dL_adds_205 (fun z H locs hz hP hD hS => ?_)
        refine lv_iload hx hb dL_adds_208 (lv_at hl 5 rfl) ?_
        refine nv_if_ne (tgt := 217) hx hb (by omega) dL_adds_210 (by decide) (fun c_21 => ?_) (fun c_21 => ?_)
        · skip
          refine lv_bipush (v := nI (100)) hx hb dL_adds_217 (by decide) ?_
          refine lv_iload hx hb dL_adds_219 (lv_at hl 0 rfl) ?_
          refine nv_imul hx hb dL_adds_221 ?_
          refine lv_iconst (v := nI (4)) hx hb dL_adds_222 (by decide) ?_
          refine lv_iload hx hb dL_adds_223 (lv_at hl 5 rfl) ?_
          refine nv_imul hx hb dL_adds_225 ?_
          refine nv_idiv hx hb (by omega) (by omega) (by omega) dL_adds_226 ?_
          refine nv_icmp_ne (tgt := 244) hx hb (by omega) (by first | omega | exact Nat.lt_of_le_of_lt (Nat.div_le_self _ _) (by omega)) dL_adds_227 (by decide) (fun c_22 => by exfalso; exact c_22 (by rw [a_mk_eq, if_neg c_21])) (fun c_22 => ?_)
          refine lv_aload_n hx hb dL_adds_230 rfl (lv_at hl 1 rfl) ?_
          refine lv_iload_n hx hb dL_adds_231 rfl (lv_at hl 2 rfl) ?_
          refine mc_V (k := 1) hx hb hml hown hts (mc_held l g ad gm hG σ hσ m (by omega)) gL_adds_X6_held rfl (by decide +kernel) ⟨Nat.le_of_ble_eq_true rfl, Nat.le_of_ble_eq_true rfl⟩ ⟨by show _ ≤ 102; omega, by show _ ≤ 612; omega⟩ hK hz hP hD hS hA rfl hl.1 (rest := []) (As := [.int (nI m)]) rfl (Nat.le_of_ble_eq_true rfl) dL_adds_232 (fun z H locs hz hP hD hS => ?_)
          refine lv_iload hx hb dL_adds_235 (lv_at hl 5 rfl) ?_
          refine nv_icmp_lt (tgt := 244) hx hb (by omega) (by omega) dL_adds_237 (by decide) (fun c_23 => by exfalso; omega) (fun c_23 => ?_)
          refine lv_iconst (v := nI (1)) hx hb dL_adds_240 (by decide) ?_
          refine lv_goto (tgt := 245) hx hb dL_adds_241 (by decide) ?_
          refine lv_istore (lv' := [(5, .int (nI 1)), (6, .int (nI (a_pts σ m))), (0, .ref (ad 0)), (1, .int (nI m)), (2, .int (nI (s_n σ m))), (3, .int (nI (a_pts σ m))), (4, .int (nI (a_ct σ m)))]) hx hb dL_adds_245 hl (by decide) rfl (fun ls hl => ?_)
          exact j247  z hz H locs hP hD hS ls (lv_sub hl [2, 3, 4, 0] rfl)
        · skip
          refine lv_iconst (v := nI (0)) hx hb dL_adds_213 (by decide) ?_
          refine lv_goto (tgt := 227) hx hb dL_adds_214 (by decide) ?_
          refine nv_icmp_ne (tgt := 244) hx hb (by omega) (by first | omega | exact Nat.lt_of_le_of_lt (Nat.div_le_self _ _) (by omega)) dL_adds_227 (by decide) (fun c_24 => by exfalso; exact c_24 (by rw [a_mk_eq, if_pos c_21])) (fun c_24 => ?_)
          refine lv_aload_n hx hb dL_adds_230 rfl (lv_at hl 1 rfl) ?_
          refine lv_iload_n hx hb dL_adds_231 rfl (lv_at hl 2 rfl) ?_
          refine mc_V (k := 1) hx hb hml hown hts (mc_held l g ad gm hG σ hσ m (by omega)) gL_adds_X6_held rfl (by decide +kernel) ⟨Nat.le_of_ble_eq_true rfl, Nat.le_of_ble_eq_true rfl⟩ ⟨by show _ ≤ 102; omega, by show _ ≤ 612; omega⟩ hK hz hP hD hS hA rfl hl.1 (rest := []) (As := [.int (nI m)]) rfl (Nat.le_of_ble_eq_true rfl) dL_adds_232 (fun z H locs hz hP hD hS => ?_)
          refine lv_iload hx hb dL_adds_235 (lv_at hl 5 rfl) ?_
          refine nv_icmp_lt (tgt := 244) hx hb (by omega) (by omega) dL_adds_237 (by decide) (fun c_25 => by exfalso; omega) (fun c_25 => ?_)
          refine lv_iconst (v := nI (1)) hx hb dL_adds_240 (by decide) ?_
          refine lv_goto (tgt := 245) hx hb dL_adds_241 (by decide) ?_
          refine lv_istore (lv' := [(5, .int (nI 1)), (6, .int (nI (a_pts σ m))), (0, .ref (ad 0)), (1, .int (nI m)), (2, .int (nI (s_n σ m))), (3, .int (nI (a_pts σ m))), (4, .int (nI (a_ct σ m)))]) hx hb dL_adds_245 hl (by decide) rfl (fun ls hl => ?_)
          exact j247  z hz H locs hP hD hS ls (lv_sub hl [2, 3, 4, 0] rfl)
      · skip
        refine lv_iload hx hb dL_adds_27 (lv_at hl 5 rfl) ?_
        refine lv_if_eq (tgt := 165) hx hb dL_adds_29 (by decide) (fun c_26 => absurd c_26 (by decide)) (fun c_26 => ?_)
        have hn0 : s_n σ m ≠ 0 := fun z9 => by have h9 := c_16; rw [z9] at h9; exact absurd h9 (Nat.not_lt_zero _)
        refine lv_iload hx hb dL_adds_32 (lv_at hl 6 rfl) ?_
        refine lv_iconst (v := nI (4)) hx hb dL_adds_34 (by decide) ?_
        refine nv_idiv hx hb (by omega) (by omega) (by omega) dL_adds_35 ?_
        refine lv_iload_n hx hb dL_adds_36 rfl (lv_at hl 2 rfl) ?_
        refine nv_idiv hx hb (by omega) (by omega) (by omega) dL_adds_37 ?_
        refine lv_istore (lv' := [(7, .int (nI ((k / 4) / (s_n σ m)))), (0, .ref (ad 0)), (1, .int (nI m)), (2, .int (nI (s_n σ m))), (3, .int (nI (sumN (a_lp σ m) k))), (4, .int (nI (sumN (a_l1 σ m) k))), (5, .int (nI 1)), (6, .int (nI k))]) hx hb dL_adds_38 hl (by decide) rfl (fun ls hl => ?_)
        refine lv_iload hx hb dL_adds_40 (lv_at hl 7 rfl) ?_
        refine lv_iconst (v := nI (4)) hx hb dL_adds_42 (by decide) ?_
        refine nv_idiv hx hb (by omega) (by omega) (by omega) dL_adds_43 ?_
        refine lv_iload_n hx hb dL_adds_44 rfl (lv_at hl 3 rfl) ?_
        refine nv_irem hx hb (by omega) (by omega) (by omega) dL_adds_45 ?_
        refine lv_istore (lv' := [(8, .int (nI ((k / 4) % (s_n σ m)))), (7, .int (nI ((k / 4) / (s_n σ m)))), (0, .ref (ad 0)), (1, .int (nI m)), (2, .int (nI (s_n σ m))), (3, .int (nI (sumN (a_lp σ m) k))), (4, .int (nI (sumN (a_l1 σ m) k))), (5, .int (nI 1)), (6, .int (nI k))]) hx hb dL_adds_46 hl (by decide) rfl (fun ls hl => ?_)
        have ha9 : (k / 4) / (s_n σ m) < s_n σ m := Nat.div_lt_of_lt_mul (by omega)
        have hb9 : (k / 4) % (s_n σ m) < s_n σ m := Nat.mod_lt _ (by omega)
        refine lv_iload hx hb dL_adds_48 (lv_at hl 1 rfl) ?_
        refine lv_iload hx hb dL_adds_50 (lv_at hl 0 rfl) ?_
        refine nv_icmp_ne (tgt := 60) hx hb (by omega) (by omega) dL_adds_52 (by decide) (fun c_27 => ?_) (fun c_27 => ?_)
        · skip
          cases hb1 : (s_m σ m ((k / 4) / (s_n σ m) * 5 + (k / 4) % (s_n σ m))).testBit (k % 4) with
          | false =>
            refine lv_aload_n hx hb dL_adds_60 rfl (lv_at hl 2 rfl) ?_
            refine lv_bipush (v := nI (13)) hx hb dL_adds_61 (by decide) ?_
            refine lv_iload_n hx hb dL_adds_63 rfl (lv_at hl 3 rfl) ?_
            refine lv_iload hx hb dL_adds_64 (lv_at hl 1 rfl) ?_
            refine lv_iload hx hb dL_adds_66 (lv_at hl 0 rfl) ?_
            refine lv_iload hx hb dL_adds_68 (lv_at hl 8 rfl) ?_
            refine lv_iconst (v := nI (4)) hx hb dL_adds_70 (by decide) ?_
            refine nv_irem hx hb (by omega) (by omega) (by omega) dL_adds_71 ?_
            refine mx_S (k := 6) hx hb hml hown hts (k_verdict_no l hst g ad gm hG σ hσ m hm0 hm4 ((k / 4) / (s_n σ m)) ((k / 4) % (s_n σ m)) (k % 4) ha9 hb9 c_27 (by omega) hb1) gL_adds_L_call rfl (by decide +kernel) ⟨Nat.le_of_ble_eq_true rfl, Nat.le_of_ble_eq_true rfl⟩ ⟨by show _ ≤ 102; omega, by show _ ≤ 612; omega⟩ hK hNX hZ hz hP hD hS hA rfl hl.1 (rest := []) (As := [.ref (ad 0), .int (nI 13), .int (nI m), .int (nI ((k / 4) / (s_n σ m))), .int (nI ((k / 4) % (s_n σ m))), .int (nI (k % 4))]) rfl (Nat.le_of_ble_eq_true rfl) dL_adds_72 (fun z H locs hz hP hD hS => ?_)
            refine lv_istore (lv' := [(9, .int (-113)), (8, .int (nI ((k / 4) % (s_n σ m)))), (7, .int (nI ((k / 4) / (s_n σ m)))), (0, .ref (ad 0)), (1, .int (nI m)), (2, .int (nI (s_n σ m))), (3, .int (nI (sumN (a_lp σ m) k))), (4, .int (nI (sumN (a_l1 σ m) k))), (5, .int (nI 1)), (6, .int (nI k))]) hx hb dL_adds_75 hl (by decide) rfl (fun ls hl => ?_)
            refine lv_iload hx hb dL_adds_77 (lv_at hl 0 rfl) ?_
            refine lv_bipush (v := -113) hx hb dL_adds_79 (by decide) ?_
            refine lv_icmp_eq (tgt := 111) hx hb dL_adds_81 (by decide) (fun c_28 => ?_) (fun c_28 => absurd c_28 (by decide))
            refine lv_iconst (v := nI (1)) hx hb dL_adds_111 (by decide) ?_
            refine lv_goto (tgt := 116) hx hb dL_adds_112 (by decide) ?_
            refine lv_istore (lv' := [(5, .int (nI 1)), (9, .int (-113)), (8, .int (nI ((k / 4) % (s_n σ m)))), (7, .int (nI ((k / 4) / (s_n σ m)))), (0, .ref (ad 0)), (1, .int (nI m)), (2, .int (nI (s_n σ m))), (3, .int (nI (sumN (a_lp σ m) k))), (4, .int (nI (sumN (a_l1 σ m) k))), (6, .int (nI k))]) hx hb dL_adds_116 hl (by decide) rfl (fun ls hl => ?_)
            refine lv_iload hx hb dL_adds_118 (lv_at hl 8 rfl) ?_
            refine lv_iload hx hb dL_adds_120 (lv_at hl 1 rfl) ?_
            refine lv_bipush (v := -113) hx hb dL_adds_122 (by decide) ?_
            refine lv_icmp_ne (tgt := 131) hx hb dL_adds_124 (by decide) (fun c_29 => absurd c_29 (by decide)) (fun c_29 => ?_)
            refine lv_iconst (v := nI (0)) hx hb dL_adds_127 (by decide) ?_
            refine lv_goto (tgt := 132) hx hb dL_adds_128 (by decide) ?_
            refine nv_iadd hx hb dL_adds_132 ?_
            refine lv_istore (lv' := [(4, .int (nI ((sumN (a_l1 σ m) k) + 0))), (5, .int (nI 1)), (9, .int (-113)), (8, .int (nI ((k / 4) % (s_n σ m)))), (7, .int (nI ((k / 4) / (s_n σ m)))), (0, .ref (ad 0)), (1, .int (nI m)), (2, .int (nI (s_n σ m))), (3, .int (nI (sumN (a_lp σ m) k))), (6, .int (nI k))]) hx hb dL_adds_133 hl (by decide) rfl (fun ls hl => ?_)
            refine lv_iload_n hx hb dL_adds_135 rfl (lv_at hl 8 rfl) ?_
            refine lv_iload hx hb dL_adds_136 (lv_at hl 2 rfl) ?_
            refine lv_if_ge (tgt := 145) hx hb dL_adds_138 (by decide) (fun c_30 => absurd c_30 (by decide)) (fun c_30 => ?_)
            refine lv_iconst (v := nI (0)) hx hb dL_adds_141 (by decide) ?_
            refine lv_goto (tgt := 157) hx hb dL_adds_142 (by decide) ?_
            refine nv_iadd hx hb dL_adds_157 ?_
            refine lv_istore_n (lv' := [(3, .int (nI ((sumN (a_lp σ m) k) + 0))), (4, .int (nI ((sumN (a_l1 σ m) k) + 0))), (5, .int (nI 1)), (9, .int (-113)), (8, .int (nI ((k / 4) % (s_n σ m)))), (7, .int (nI ((k / 4) / (s_n σ m)))), (0, .ref (ad 0)), (1, .int (nI m)), (2, .int (nI (s_n σ m))), (6, .int (nI k))]) hx hb dL_adds_158 rfl hl (by decide) rfl (fun ls hl => ?_)
            refine lv_iinc (v := nI (k + 1)) (lv' := [(6, .int (nI (k + 1))), (3, .int (nI ((sumN (a_lp σ m) k) + 0))), (4, .int (nI ((sumN (a_l1 σ m) k) + 0))), (5, .int (nI 1)), (9, .int (-113)), (8, .int (nI ((k / 4) % (s_n σ m)))), (7, .int (nI ((k / 4) / (s_n σ m)))), (0, .ref (ad 0)), (1, .int (nI m)), (2, .int (nI (s_n σ m)))]) hx hb dL_adds_159 hl (k := 9) rfl (by show nI _ + _ = _; rw [show Int32.ofInt 1 = nI 1 from by decide, nI_add]) (by decide) rfl (fun ls hl => ?_)
            refine lv_goto (tgt := 17) hx hb dL_adds_162 (by decide) ?_
            obtain ⟨e1, e2⟩ := a_l1_no (σ := σ) (k := m) (j := k) (hb1)
            have e1 : sumN (a_l1 σ m) k + 0 = sumN (a_l1 σ m) (k + 1) := e1
            have e2 : sumN (a_lp σ m) k + 0 = sumN (a_lp σ m) (k + 1) := e2
            rw [e1, e2] at hl
            refine W.widen (k := k + 1) (n := 6 * (k + 1)) (by omega) (by omega) ?_
            exact la_ih (k + 1) (by omega) (by omega) z hz H locs hP hD hS ls (lv_sub hl [7, 8, 9, 1, 2, 3, 0] rfl)
          | true =>
            have hv9 : a_vd σ m ((k / 4) / (s_n σ m)) ((k / 4) % (s_n σ m)) (k % 4) ≤ 3 := a_vd_le
            refine lv_aload_n hx hb dL_adds_60 rfl (lv_at hl 2 rfl) ?_
            refine lv_bipush (v := nI (13)) hx hb dL_adds_61 (by decide) ?_
            refine lv_iload_n hx hb dL_adds_63 rfl (lv_at hl 3 rfl) ?_
            refine lv_iload hx hb dL_adds_64 (lv_at hl 1 rfl) ?_
            refine lv_iload hx hb dL_adds_66 (lv_at hl 0 rfl) ?_
            refine lv_iload hx hb dL_adds_68 (lv_at hl 8 rfl) ?_
            refine lv_iconst (v := nI (4)) hx hb dL_adds_70 (by decide) ?_
            refine nv_irem hx hb (by omega) (by omega) (by omega) dL_adds_71 ?_
            refine mx_S (k := 6) hx hb hml hown hts (k_verdict l g ad gm hG σ hσ m hm0 hm4 ((k / 4) / (s_n σ m)) ((k / 4) % (s_n σ m)) (k % 4) ha9 hb9 c_27 (by omega) hb1) gL_adds_L_call rfl (by decide +kernel) ⟨Nat.le_of_ble_eq_true rfl, Nat.le_of_ble_eq_true rfl⟩ ⟨by show _ ≤ 102; omega, by show _ ≤ 612; omega⟩ hK hNX hZ hz hP hD hS hA rfl hl.1 (rest := []) (As := [.ref (ad 0), .int (nI 13), .int (nI m), .int (nI ((k / 4) / (s_n σ m))), .int (nI ((k / 4) % (s_n σ m))), .int (nI (k % 4))]) rfl (Nat.le_of_ble_eq_true rfl) dL_adds_72 (fun z H locs hz hP hD hS => ?_)
            refine lv_istore (lv' := [(9, .int (nI (a_vd σ m ((k / 4) / (s_n σ m)) ((k / 4) % (s_n σ m)) (k % 4)))), (8, .int (nI ((k / 4) % (s_n σ m)))), (7, .int (nI ((k / 4) / (s_n σ m)))), (0, .ref (ad 0)), (1, .int (nI m)), (2, .int (nI (s_n σ m))), (3, .int (nI (sumN (a_lp σ m) k))), (4, .int (nI (sumN (a_l1 σ m) k))), (5, .int (nI 1)), (6, .int (nI k))]) hx hb dL_adds_75 hl (by decide) rfl (fun ls hl => ?_)
            refine lv_iload hx hb dL_adds_77 (lv_at hl 0 rfl) ?_
            refine lv_bipush (v := -113) hx hb dL_adds_79 (by decide) ?_
            refine lv_icmp_eq (tgt := 111) hx hb dL_adds_81 (by decide) (fun c_31 => by exfalso; exact nI_nneg (by omega) (by decide) c_31) (fun c_31 => ?_)
            refine lv_iload hx hb dL_adds_84 (lv_at hl 0 rfl) ?_
            refine nv_if_lt (tgt := 115) hx hb (by omega) dL_adds_86 (by decide) (fun c_32 => by exfalso; exact c_32) (fun c_32 => ?_)
            refine lv_iload hx hb dL_adds_89 (lv_at hl 0 rfl) ?_
            refine lv_iconst (v := nI (4)) hx hb dL_adds_91 (by decide) ?_
            refine nv_icmp_ge (tgt := 115) hx hb (by omega) (by omega) dL_adds_92 (by decide) (fun c_33 => by exfalso; omega) (fun c_33 => ?_)
            refine lv_aload_n hx hb dL_adds_95 rfl (lv_at hl 3 rfl) ?_
            refine lv_iload_n hx hb dL_adds_96 rfl (lv_at hl 4 rfl) ?_
            refine lv_iload hx hb dL_adds_97 (lv_at hl 2 rfl) ?_
            refine lv_iload hx hb dL_adds_99 (lv_at hl 1 rfl) ?_
            refine lv_iload hx hb dL_adds_101 (lv_at hl 9 rfl) ?_
            refine lv_iconst (v := nI (4)) hx hb dL_adds_103 (by decide) ?_
            refine nv_irem hx hb (by omega) (by omega) (by omega) dL_adds_104 ?_
            refine mc_V (k := 4) hx hb hml hown hts (mc_holds l g ad gm hG σ hσ m hm4 ((k / 4) / (s_n σ m)) ((k / 4) % (s_n σ m)) (k % 4) ha9 hb9 c_27 (by omega)) gL_adds_X6_holds rfl (by decide +kernel) ⟨Nat.le_of_ble_eq_true rfl, Nat.le_of_ble_eq_true rfl⟩ ⟨by show _ ≤ 102; omega, by show _ ≤ 612; omega⟩ hK hz hP hD hS hA rfl hl.1 (rest := []) (As := [.int (nI m), .int (nI ((k / 4) / (s_n σ m))), .int (nI ((k / 4) % (s_n σ m))), .int (nI (k % 4))]) rfl (Nat.le_of_ble_eq_true rfl) dL_adds_105 (fun z H locs hz hP hD hS => ?_)
            rw [show ((clo (s_c σ) (s_m σ m) (((k / 4) / (s_n σ m)) * 5 + ((k / 4) % (s_n σ m)))).testBit (k % 4)) = true from holds_own (by omega) (by omega) (by omega) hb1]
            refine bv_if_eq (tgt := 115) hx hb dL_adds_108 (by decide) (fun c_34 => by exfalso; cases c_34) (fun c_34 => ?_)
            refine lv_iconst (v := nI (1)) hx hb dL_adds_111 (by decide) ?_
            refine lv_goto (tgt := 116) hx hb dL_adds_112 (by decide) ?_
            refine lv_istore (lv' := [(5, .int (nI 1)), (9, .int (nI (a_vd σ m ((k / 4) / (s_n σ m)) ((k / 4) % (s_n σ m)) (k % 4)))), (8, .int (nI ((k / 4) % (s_n σ m)))), (7, .int (nI ((k / 4) / (s_n σ m)))), (0, .ref (ad 0)), (1, .int (nI m)), (2, .int (nI (s_n σ m))), (3, .int (nI (sumN (a_lp σ m) k))), (4, .int (nI (sumN (a_l1 σ m) k))), (6, .int (nI k))]) hx hb dL_adds_116 hl (by decide) rfl (fun ls hl => ?_)
            refine lv_iload hx hb dL_adds_118 (lv_at hl 8 rfl) ?_
            refine lv_iload hx hb dL_adds_120 (lv_at hl 1 rfl) ?_
            refine lv_bipush (v := -113) hx hb dL_adds_122 (by decide) ?_
            refine lv_icmp_ne (tgt := 131) hx hb dL_adds_124 (by decide) (fun c_35 => ?_) (fun c_35 => by exfalso; exact nI_nneg (by omega) (by decide) c_35)
            refine lv_iconst (v := nI (1)) hx hb dL_adds_131 (by decide) ?_
            refine nv_iadd hx hb dL_adds_132 ?_
            refine lv_istore (lv' := [(4, .int (nI ((sumN (a_l1 σ m) k) + 1))), (5, .int (nI 1)), (9, .int (nI (a_vd σ m ((k / 4) / (s_n σ m)) ((k / 4) % (s_n σ m)) (k % 4)))), (8, .int (nI ((k / 4) % (s_n σ m)))), (7, .int (nI ((k / 4) / (s_n σ m)))), (0, .ref (ad 0)), (1, .int (nI m)), (2, .int (nI (s_n σ m))), (3, .int (nI (sumN (a_lp σ m) k))), (6, .int (nI k))]) hx hb dL_adds_133 hl (by decide) rfl (fun ls hl => ?_)
            refine lv_iload_n hx hb dL_adds_135 rfl (lv_at hl 8 rfl) ?_
            refine lv_iload hx hb dL_adds_136 (lv_at hl 2 rfl) ?_
            refine nv_if_ge (tgt := 145) hx hb (by omega) dL_adds_138 (by decide) (fun c_36 => ?_) (fun c_36 => by exfalso; exact c_36)
            refine lv_iload hx hb dL_adds_145 (lv_at hl 2 rfl) ?_
            refine lv_iconst (v := nI (3)) hx hb dL_adds_147 (by decide) ?_
            refine nv_icmp_ne (tgt := 155) hx hb (by omega) (by omega) dL_adds_148 (by decide) (fun c_37 => ?_) (fun c_37 => ?_)
            · skip
              refine lv_iload hx hb dL_adds_155 (lv_at hl 2 rfl) ?_
              refine nv_iadd hx hb dL_adds_157 ?_
              refine lv_istore_n (lv' := [(3, .int (nI ((sumN (a_lp σ m) k) + (a_vd σ m ((k / 4) / (s_n σ m)) ((k / 4) % (s_n σ m)) (k % 4))))), (4, .int (nI ((sumN (a_l1 σ m) k) + 1))), (5, .int (nI 1)), (9, .int (nI (a_vd σ m ((k / 4) / (s_n σ m)) ((k / 4) % (s_n σ m)) (k % 4)))), (8, .int (nI ((k / 4) % (s_n σ m)))), (7, .int (nI ((k / 4) / (s_n σ m)))), (0, .ref (ad 0)), (1, .int (nI m)), (2, .int (nI (s_n σ m))), (6, .int (nI k))]) hx hb dL_adds_158 rfl hl (by decide) rfl (fun ls hl => ?_)
              refine lv_iinc (v := nI (k + 1)) (lv' := [(6, .int (nI (k + 1))), (3, .int (nI ((sumN (a_lp σ m) k) + (a_vd σ m ((k / 4) / (s_n σ m)) ((k / 4) % (s_n σ m)) (k % 4))))), (4, .int (nI ((sumN (a_l1 σ m) k) + 1))), (5, .int (nI 1)), (9, .int (nI (a_vd σ m ((k / 4) / (s_n σ m)) ((k / 4) % (s_n σ m)) (k % 4)))), (8, .int (nI ((k / 4) % (s_n σ m)))), (7, .int (nI ((k / 4) / (s_n σ m)))), (0, .ref (ad 0)), (1, .int (nI m)), (2, .int (nI (s_n σ m)))]) hx hb dL_adds_159 hl (k := 9) rfl (by show nI _ + _ = _; rw [show Int32.ofInt 1 = nI 1 from by decide, nI_add]) (by decide) rfl (fun ls hl => ?_)
              refine lv_goto (tgt := 17) hx hb dL_adds_162 (by decide) ?_
              obtain ⟨e1, e2⟩ := a_l1_yes (σ := σ) (k := m) (j := k) hb1
              rw [show ptW (a_vd σ m ((k / 4) / (s_n σ m)) ((k / 4) % (s_n σ m)) (k % 4)) = a_vd σ m ((k / 4) / (s_n σ m)) ((k / 4) % (s_n σ m)) (k % 4) from by unfold ptW; rw [if_neg c_37]] at e2
              rw [e1, e2] at hl
              refine W.widen (k := k + 1) (n := 6 * (k + 1)) (by omega) (by omega) ?_
              exact la_ih (k + 1) (by omega) (by omega) z hz H locs hP hD hS ls (lv_sub hl [7, 8, 9, 1, 2, 3, 0] rfl)
            · skip
              refine lv_iconst (v := nI (4)) hx hb dL_adds_151 (by decide) ?_
              refine lv_goto (tgt := 157) hx hb dL_adds_152 (by decide) ?_
              refine nv_iadd hx hb dL_adds_157 ?_
              refine lv_istore_n (lv' := [(3, .int (nI ((sumN (a_lp σ m) k) + 4))), (4, .int (nI ((sumN (a_l1 σ m) k) + 1))), (5, .int (nI 1)), (9, .int (nI (a_vd σ m ((k / 4) / (s_n σ m)) ((k / 4) % (s_n σ m)) (k % 4)))), (8, .int (nI ((k / 4) % (s_n σ m)))), (7, .int (nI ((k / 4) / (s_n σ m)))), (0, .ref (ad 0)), (1, .int (nI m)), (2, .int (nI (s_n σ m))), (6, .int (nI k))]) hx hb dL_adds_158 rfl hl (by decide) rfl (fun ls hl => ?_)
              refine lv_iinc (v := nI (k + 1)) (lv' := [(6, .int (nI (k + 1))), (3, .int (nI ((sumN (a_lp σ m) k) + 4))), (4, .int (nI ((sumN (a_l1 σ m) k) + 1))), (5, .int (nI 1)), (9, .int (nI (a_vd σ m ((k / 4) / (s_n σ m)) ((k / 4) % (s_n σ m)) (k % 4)))), (8, .int (nI ((k / 4) % (s_n σ m)))), (7, .int (nI ((k / 4) / (s_n σ m)))), (0, .ref (ad 0)), (1, .int (nI m)), (2, .int (nI (s_n σ m)))]) hx hb dL_adds_159 hl (k := 9) rfl (by show nI _ + _ = _; rw [show Int32.ofInt 1 = nI 1 from by decide, nI_add]) (by decide) rfl (fun ls hl => ?_)
              refine lv_goto (tgt := 17) hx hb dL_adds_162 (by decide) ?_
              obtain ⟨e1, e2⟩ := a_l1_yes (σ := σ) (k := m) (j := k) hb1
              rw [show ptW (a_vd σ m ((k / 4) / (s_n σ m)) ((k / 4) % (s_n σ m)) (k % 4)) = 4 from by unfold ptW; rw [if_pos c_37]] at e2
              rw [e1, e2] at hl
              refine W.widen (k := k + 1) (n := 6 * (k + 1)) (by omega) (by omega) ?_
              exact la_ih (k + 1) (by omega) (by omega) z hz H locs hP hD hS ls (lv_sub hl [7, 8, 9, 1, 2, 3, 0] rfl)
        · skip
          refine lv_bipush (v := -113) hx hb dL_adds_55 (by decide) ?_
          refine lv_goto (tgt := 75) hx hb dL_adds_57 (by decide) ?_
          refine lv_istore (lv' := [(9, .int (-113)), (8, .int (nI ((k / 4) % (s_n σ m)))), (7, .int (nI ((k / 4) / (s_n σ m)))), (0, .ref (ad 0)), (1, .int (nI m)), (2, .int (nI (s_n σ m))), (3, .int (nI (sumN (a_lp σ m) k))), (4, .int (nI (sumN (a_l1 σ m) k))), (5, .int (nI 1)), (6, .int (nI k))]) hx hb dL_adds_75 hl (by decide) rfl (fun ls hl => ?_)
          refine lv_iload hx hb dL_adds_77 (lv_at hl 0 rfl) ?_
          refine lv_bipush (v := -113) hx hb dL_adds_79 (by decide) ?_
          refine lv_icmp_eq (tgt := 111) hx hb dL_adds_81 (by decide) (fun c_38 => ?_) (fun c_38 => absurd c_38 (by decide))
          refine lv_iconst (v := nI (1)) hx hb dL_adds_111 (by decide) ?_
          refine lv_goto (tgt := 116) hx hb dL_adds_112 (by decide) ?_
          refine lv_istore (lv' := [(5, .int (nI 1)), (9, .int (-113)), (8, .int (nI ((k / 4) % (s_n σ m)))), (7, .int (nI ((k / 4) / (s_n σ m)))), (0, .ref (ad 0)), (1, .int (nI m)), (2, .int (nI (s_n σ m))), (3, .int (nI (sumN (a_lp σ m) k))), (4, .int (nI (sumN (a_l1 σ m) k))), (6, .int (nI k))]) hx hb dL_adds_116 hl (by decide) rfl (fun ls hl => ?_)
          refine lv_iload hx hb dL_adds_118 (lv_at hl 8 rfl) ?_
          refine lv_iload hx hb dL_adds_120 (lv_at hl 1 rfl) ?_
          refine lv_bipush (v := -113) hx hb dL_adds_122 (by decide) ?_
          refine lv_icmp_ne (tgt := 131) hx hb dL_adds_124 (by decide) (fun c_39 => absurd c_39 (by decide)) (fun c_39 => ?_)
          refine lv_iconst (v := nI (0)) hx hb dL_adds_127 (by decide) ?_
          refine lv_goto (tgt := 132) hx hb dL_adds_128 (by decide) ?_
          refine nv_iadd hx hb dL_adds_132 ?_
          refine lv_istore (lv' := [(4, .int (nI ((sumN (a_l1 σ m) k) + 0))), (5, .int (nI 1)), (9, .int (-113)), (8, .int (nI ((k / 4) % (s_n σ m)))), (7, .int (nI ((k / 4) / (s_n σ m)))), (0, .ref (ad 0)), (1, .int (nI m)), (2, .int (nI (s_n σ m))), (3, .int (nI (sumN (a_lp σ m) k))), (6, .int (nI k))]) hx hb dL_adds_133 hl (by decide) rfl (fun ls hl => ?_)
          refine lv_iload_n hx hb dL_adds_135 rfl (lv_at hl 8 rfl) ?_
          refine lv_iload hx hb dL_adds_136 (lv_at hl 2 rfl) ?_
          refine lv_if_ge (tgt := 145) hx hb dL_adds_138 (by decide) (fun c_40 => absurd c_40 (by decide)) (fun c_40 => ?_)
          refine lv_iconst (v := nI (0)) hx hb dL_adds_141 (by decide) ?_
          refine lv_goto (tgt := 157) hx hb dL_adds_142 (by decide) ?_
          refine nv_iadd hx hb dL_adds_157 ?_
          refine lv_istore_n (lv' := [(3, .int (nI ((sumN (a_lp σ m) k) + 0))), (4, .int (nI ((sumN (a_l1 σ m) k) + 0))), (5, .int (nI 1)), (9, .int (-113)), (8, .int (nI ((k / 4) % (s_n σ m)))), (7, .int (nI ((k / 4) / (s_n σ m)))), (0, .ref (ad 0)), (1, .int (nI m)), (2, .int (nI (s_n σ m))), (6, .int (nI k))]) hx hb dL_adds_158 rfl hl (by decide) rfl (fun ls hl => ?_)
          refine lv_iinc (v := nI (k + 1)) (lv' := [(6, .int (nI (k + 1))), (3, .int (nI ((sumN (a_lp σ m) k) + 0))), (4, .int (nI ((sumN (a_l1 σ m) k) + 0))), (5, .int (nI 1)), (9, .int (-113)), (8, .int (nI ((k / 4) % (s_n σ m)))), (7, .int (nI ((k / 4) / (s_n σ m)))), (0, .ref (ad 0)), (1, .int (nI m)), (2, .int (nI (s_n σ m)))]) hx hb dL_adds_159 hl (k := 9) rfl (by show nI _ + _ = _; rw [show Int32.ofInt 1 = nI 1 from by decide, nI_add]) (by decide) rfl (fun ls hl => ?_)
          refine lv_goto (tgt := 17) hx hb dL_adds_162 (by decide) ?_
          obtain ⟨e1, e2⟩ := a_l1_no (σ := σ) (k := m) (j := k) (by rw [← c_27]; exact a_l1_dg hσ (by omega))
          have e1 : sumN (a_l1 σ m) k + 0 = sumN (a_l1 σ m) (k + 1) := e1
          have e2 : sumN (a_lp σ m) k + 0 = sumN (a_lp σ m) (k + 1) := e2
          rw [e1, e2] at hl
          refine W.widen (k := k + 1) (n := 6 * (k + 1)) (by omega) (by omega) ?_
          exact la_ih (k + 1) (by omega) (by omega) z hz H locs hP hD hS ls (lv_sub hl [7, 8, 9, 1, 2, 3, 0] rfl)
  exact la (s_n σ m * s_n σ m * 4 + 1) 0 (Nat.zero_le _) (by omega) z hz H locs hP hD hS ls (lv_sub hl [5, 6, 4, 3, 2, 1, 0] rfl)
