set_option maxRecDepth 100000 in
set_option maxHeartbeats 4000000 in
theorem c_X6_mapAt (l : Launch) (g : GG) (X ma f0 f2 f3 f4 f5 f6 f7 : Nat) (bl : Option Nat) (bg : Nat) (gm : Nat → Option Nat) (k mk : Nat) (hk4 : k < 4) (hgk : gm k = some mk) : IMr l yX6_mapAt wsX6_mapAt 1 g [.ref X, .int (nI k)] [(X, .inr (6, [.ref f0, .ref ma, .ref f2, .ref f3, .ref f4, .ref f5, .ref f6, .ref f7, .int (oI (bl)), .int (nI bg)])), (ma, .inl (gO g, 4, .inr (.inr (.inr (.inr (gm))))))] (fun x1 w1 => x1 = mk ∧ w1 = [(X, .inr (6, [.ref f0, .ref ma, .ref f2, .ref f3, .ref f4, .ref f5, .ref f6, .ref f7, .int (oI (bl)), .int (nI bg)])), (ma, .inl (gO g, 4, .inr (.inr (.inr (.inr (gm))))))]) := by
  refine fun sz => im_body (Qc := fun A => va_Qr _ (iBr g _ _) A) (cc := cX6_mapAt) (maxL := 3) (ret := (some (.object "ConceptMarker$ConceptMap"))) (by decide) rfl (Nat.le_of_ble_eq_true rfl) ?_ sz
  intro pg ev s0 mi below meth cd A hx hb hr hml hts hown hlocks hK hA H hP hD hS ls hl
  have hl : lv_has ls 3 [(0, .ref X), (1, .int (nI k))] := hl
  refine lv_iload_n hx hb dX6_mapAt_0 rfl (lv_at hl 1 rfl) ?_
  refine nv_if_lt (tgt := 22) hx hb (by omega) dX6_mapAt_1 (by decide) (fun c_1 => ?_) (fun c_1 => ?_)
  · skip
    exfalso; first | exact c_1 | omega | (simp at c_1; done) | (exact absurd c_1 (by simp))
  · skip
    refine lv_iload_n hx hb dX6_mapAt_4 rfl (lv_at hl 1 rfl) ?_
    refine lv_aload_n hx hb dX6_mapAt_5 rfl (lv_at hl 0 rfl) ?_
    refine va_get (D := g.1) (ci := 6) (v := .ref ma) (C := RX6) (T := TX6) (N := 10) hx hb hts (fun _ h => (List.mem_cons_of_mem _ (List.mem_append_left _ (List.mem_append_right _ h)))) hown hK.1 hP 0 rfl rfl 1 (by decide) (hts _ (List.mem_cons_of_mem _ (List.mem_append_left _ (List.mem_append_left _ (List.mem_of_getElem? (i := 2) rfl))))) (fun _ h9 => h9) rfl dX6_mapAt_6 ?_
    refine va_alen (v := nI (4)) hx hb hK.1 hP 1 2 rfl rfl rfl dX6_mapAt_9 ?_
    refine nv_icmp_ge (tgt := 22) hx hb (by omega) (by omega) dX6_mapAt_10 (by decide) (fun c_2 => ?_) (fun c_2 => ?_)
    · skip
      exfalso; first | exact c_2 | omega | (simp at c_2; done) | (exact absurd c_2 (by simp))
    · skip
      refine lv_aload_n hx hb dX6_mapAt_13 rfl (lv_at hl 0 rfl) ?_
      refine va_get (D := g.1) (ci := 6) (v := .ref ma) (C := RX6) (T := TX6) (N := 10) hx hb hts (fun _ h => (List.mem_cons_of_mem _ (List.mem_append_left _ (List.mem_append_right _ h)))) hown hK.1 hP 0 rfl rfl 1 (by decide) (hts _ (List.mem_cons_of_mem _ (List.mem_append_left _ (List.mem_append_left _ (List.mem_of_getElem? (i := 2) rfl))))) (fun _ h9 => h9) rfl dX6_mapAt_14 ?_
      refine lv_iload_n hx hb dX6_mapAt_17 rfl (lv_at hl 1 rfl) ?_
      refine va_aldq hx hb hK.1 hP 1 2 rfl rfl (vp_in_nI (by omega) (by decide)) dX6_mapAt_18 ?_
      rw [nI_clamp (by omega), show va_rf (gm k) = .ref mk from by rw [hgk]; rfl]
      refine lv_goto (tgt := 23) hx hb dX6_mapAt_19 (by decide) ?_
      refine lv_astore_n (lv' := [(2, .ref mk), (0, .ref X), (1, .int (nI k))]) hx hb dX6_mapAt_23 rfl hl (by decide) rfl (fun ls hl => ?_)
      refine lv_aload_n hx hb dX6_mapAt_24 rfl (lv_at hl 0 rfl) ?_
      refine lv_ifnonnull (tgt := 38) hx hb dX6_mapAt_25 (by decide) ?_
      refine lv_aload_n hx hb dX6_mapAt_38 rfl (lv_at hl 0 rfl) ?_
      exact im_retr (w1 := [(X, .inr (6, [.ref f0, .ref ma, .ref f2, .ref f3, .ref f4, .ref f5, .ref f6, .ref f7, .int (oI (bl)), .int (nI bg)])), (ma, .inl (gO g, 4, .inr (.inr (.inr (.inr (gm))))))]) hx hb hr hlocks hP hS rfl ⟨rfl, rfl⟩ dX6_mapAt_39

set_option maxRecDepth 100000 in
set_option maxHeartbeats 4000000 in
theorem c_X6_modelAt (l : Launch) (g : GG) (X ma f0 f2 f3 f4 f5 f6 f7 : Nat) (bl : Option Nat) (bg : Nat) (gm : Nat → Option Nat) (k mk : Nat) (hk4 : k < 4) (hgk : gm k = some mk) (hk0 : k ≠ 0) : IMr l yX6_modelAt wsX6_modelAt 2 g [.ref X, .int (nI k)] [(X, .inr (6, [.ref f0, .ref ma, .ref f2, .ref f3, .ref f4, .ref f5, .ref f6, .ref f7, .int (oI (bl)), .int (nI bg)])), (ma, .inl (gO g, 4, .inr (.inr (.inr (.inr (gm))))))] (fun x1 w1 => x1 = mk ∧ w1 = [(X, .inr (6, [.ref f0, .ref ma, .ref f2, .ref f3, .ref f4, .ref f5, .ref f6, .ref f7, .int (oI (bl)), .int (nI bg)])), (ma, .inl (gO g, 4, .inr (.inr (.inr (.inr (gm))))))]) := by
  refine fun sz => im_body (Qc := fun A => va_Qr _ (iBr g _ _) A) (cc := cX6_modelAt) (maxL := 2) (ret := (some (.object "ConceptMarker$ConceptMap"))) (by decide) rfl (Nat.le_of_ble_eq_true rfl) ?_ sz
  intro pg ev s0 mi below meth cd A hx hb hr hml hts hown hlocks hK hA H hP hD hS ls hl
  have hl : lv_has ls 2 [(0, .ref X), (1, .int (nI k))] := hl
  refine lv_iload_n hx hb dX6_modelAt_0 rfl (lv_at hl 1 rfl) ?_
  refine nv_if_ne (tgt := 14) hx hb (by omega) dX6_modelAt_1 (by decide) (fun c_1 => ?_) (fun c_1 => ?_)
  · skip
    refine lv_aload_n hx hb dX6_modelAt_14 rfl (lv_at hl 0 rfl) ?_
    refine lv_iload_n hx hb dX6_modelAt_15 rfl (lv_at hl 1 rfl) ?_
    refine im_Vr (k := 1) hx hb hml hown hts (c_X6_mapAt l g X ma f0 f2 f3 f4 f5 f6 f7 (bl) (bg) (gm) k mk hk4 hgk) gX6_modelAt_X6_mapAt rfl (by decide +kernel) ⟨Nat.le_of_ble_eq_true rfl, Nat.le_of_ble_eq_true rfl⟩ ⟨Nat.zero_le _, Nat.zero_le _⟩ hK hP hD hS hA [0, 1] rfl (by decide) 0 6 rfl rfl rfl hl.1 (rest := []) (As := [.int (nI k)]) rfl (Nat.le_of_ble_eq_true rfl) dX6_modelAt_16 (fun x1 w1 H locs hpo hpd hS => ?_)
    obtain ⟨hx1, rfl⟩ := hpo
    have hx1 : mk = x1 := hx1.symm
    subst hx1
    obtain ⟨hP, hD⟩ := hpd [(X, .inr (6, [.ref f0, .ref ma, .ref f2, .ref f3, .ref f4, .ref f5, .ref f6, .ref f7, .int (oI (bl)), .int (nI bg)])), (ma, .inl (gO g, 4, .inr (.inr (.inr (.inr (gm))))))] [] 2 rfl rfl [] rfl rfl (by decide) (by decide)
    exact im_retr (w1 := [(X, .inr (6, [.ref f0, .ref ma, .ref f2, .ref f3, .ref f4, .ref f5, .ref f6, .ref f7, .int (oI (bl)), .int (nI bg)])), (ma, .inl (gO g, 4, .inr (.inr (.inr (.inr (gm))))))]) hx hb hr hlocks hP hS rfl ⟨rfl, rfl⟩ dX6_modelAt_19
  · skip
    exfalso; first | exact c_1 | omega | (simp at c_1; done) | (exact absurd c_1 (by simp))

set_option maxRecDepth 100000 in
set_option maxHeartbeats 4000000 in
theorem c_X6_requireIdea (l : Launch) (g : GG) (mk f0 f1 n i : Nat) (hi : i < n) (hn : n ≤ 5) : IMv l yX6_requireIdea wsX6_requireIdea 1 g [.ref mk, .int (nI i)] [(mk, .inr (1, [.ref f0, .ref f1, .int (nI n)]))] (fun w1 => w1 = [(mk, .inr (1, [.ref f0, .ref f1, .int (nI n)]))]) := by
  refine fun sz => im_body (Qc := fun A => va_Qv _ (iB g _) A) (cc := cX6_requireIdea) (maxL := 2) (ret := none) (by decide) rfl (Nat.le_of_ble_eq_true rfl) ?_ sz
  intro pg ev s0 mi below meth cd A hx hb hr hml hts hown hlocks hK hA H hP hD hS ls hl
  have hl : lv_has ls 2 [(0, .ref mk), (1, .int (nI i))] := hl
  refine lv_iload_n hx hb dX6_requireIdea_0 rfl (lv_at hl 1 rfl) ?_
  refine nv_if_lt (tgt := 12) hx hb (by omega) dX6_requireIdea_1 (by decide) (fun c_1 => ?_) (fun c_1 => ?_)
  · skip
    exfalso; first | exact c_1 | omega | (simp at c_1; done) | (exact absurd c_1 (by simp))
  · skip
    refine lv_iload_n hx hb dX6_requireIdea_4 rfl (lv_at hl 1 rfl) ?_
    refine lv_aload_n hx hb dX6_requireIdea_5 rfl (lv_at hl 0 rfl) ?_
    refine va_getN (D := g.1) (ci := 1) (v := .int (nI n)) (C := RX1) (T := TX1) (N := 3) hx hb hts (fun _ h => (List.mem_cons_of_mem _ (List.mem_append_left _ (List.mem_append_right _ h)))) hown hK.1 hP 0 rfl rfl 2 (by decide) (va_Nw.use rfl hK.2.1.2.1) (fun _ h9 => h9) rfl dX6_requireIdea_6 ?_
    refine nv_icmp_lt (tgt := 22) hx hb (by omega) (by omega) dX6_requireIdea_9 (by decide) (fun c_2 => ?_) (fun c_2 => ?_)
    · skip
      exact im_retv (w1 := [(mk, .inr (1, [.ref f0, .ref f1, .int (nI n)]))]) hx hb hr hlocks hP hS rfl rfl dX6_requireIdea_22
    · skip
      exfalso; first | exact c_2 | omega | (simp at c_2; done) | (exact absurd c_2 (by simp))

set_option maxRecDepth 100000 in
set_option maxHeartbeats 4000000 in
theorem c_X6_requireWord (l : Launch) (g : GG) (i : Nat) (hi : i < 32) : IMv l yX6_requireWord wsX6_requireWord 1 g [.int (nI i)] [] (fun w1 => w1 = []) := by
  refine fun sz => im_body (Qc := fun A => va_Qv _ (iB g _) A) (cc := cX6_requireWord) (maxL := 1) (ret := none) (by decide) rfl (Nat.le_of_ble_eq_true rfl) ?_ sz
  intro pg ev s0 mi below meth cd A hx hb hr hml hts hown hlocks hK hA H hP hD hS ls hl
  have hl : lv_has ls 1 [(0, .int (nI i))] := hl
  refine lv_iload_n hx hb dX6_requireWord_0 rfl (lv_at hl 0 rfl) ?_
  refine nv_if_lt (tgt := 10) hx hb (by omega) dX6_requireWord_1 (by decide) (fun c_1 => ?_) (fun c_1 => ?_)
  · skip
    exfalso; first | exact c_1 | omega | (simp at c_1; done) | (exact absurd c_1 (by simp))
  · skip
    refine lv_iload_n hx hb dX6_requireWord_4 rfl (lv_at hl 0 rfl) ?_
    refine lv_bipush (v := nI (32)) hx hb dX6_requireWord_5 (by decide) ?_
    refine nv_icmp_lt (tgt := 20) hx hb (by omega) (by omega) dX6_requireWord_7 (by decide) (fun c_2 => ?_) (fun c_2 => ?_)
    · skip
      exact im_retv (w1 := []) hx hb hr hlocks hP hS rfl rfl dX6_requireWord_20
    · skip
      exfalso; first | exact c_2 | omega | (simp at c_2; done) | (exact absurd c_2 (by simp))

set_option maxRecDepth 100000 in
set_option maxHeartbeats 4000000 in
theorem c_X6_requireKind (l : Launch) (g : GG) (i : Nat) (hi : i < 4) : IMv l yX6_requireKind wsX6_requireKind 1 g [.int (nI i)] [] (fun w1 => w1 = []) := by
  refine fun sz => im_body (Qc := fun A => va_Qv _ (iB g _) A) (cc := cX6_requireKind) (maxL := 1) (ret := none) (by decide) rfl (Nat.le_of_ble_eq_true rfl) ?_ sz
  intro pg ev s0 mi below meth cd A hx hb hr hml hts hown hlocks hK hA H hP hD hS ls hl
  have hl : lv_has ls 1 [(0, .int (nI i))] := hl
  refine lv_iload_n hx hb dX6_requireKind_0 rfl (lv_at hl 0 rfl) ?_
  refine nv_if_lt (tgt := 9) hx hb (by omega) dX6_requireKind_1 (by decide) (fun c_1 => ?_) (fun c_1 => ?_)
  · skip
    exfalso; first | exact c_1 | omega | (simp at c_1; done) | (exact absurd c_1 (by simp))
  · skip
    refine lv_iload_n hx hb dX6_requireKind_4 rfl (lv_at hl 0 rfl) ?_
    refine lv_iconst (v := nI (4)) hx hb dX6_requireKind_5 (by decide) ?_
    refine nv_icmp_lt (tgt := 19) hx hb (by omega) (by omega) dX6_requireKind_6 (by decide) (fun c_2 => ?_) (fun c_2 => ?_)
    · skip
      exact im_retv (w1 := []) hx hb hr hlocks hP hS rfl rfl dX6_requireKind_19
    · skip
      exfalso; first | exact c_2 | omega | (simp at c_2; done) | (exact absurd c_2 (by simp))

set_option maxRecDepth 100000 in
set_option maxHeartbeats 4000000 in
theorem c_X6_requireLink (l : Launch) (g : GG) (mk f0 f1 n i j k : Nat) (hi : i < n) (hj : j < n) (hn : n ≤ 5) (hij : i ≠ j) (hk : k < 4) : IMv l yX6_requireLink wsX6_requireLink 2 g [.ref mk, .int (nI i), .int (nI j), .int (nI k)] [(mk, .inr (1, [.ref f0, .ref f1, .int (nI n)]))] (fun w1 => w1 = [(mk, .inr (1, [.ref f0, .ref f1, .int (nI n)]))]) := by
  refine fun sz => im_body (Qc := fun A => va_Qv _ (iB g _) A) (cc := cX6_requireLink) (maxL := 4) (ret := none) (by decide) rfl (Nat.le_of_ble_eq_true rfl) ?_ sz
  intro pg ev s0 mi below meth cd A hx hb hr hml hts hown hlocks hK hA H hP hD hS ls hl
  have hl : lv_has ls 4 [(0, .ref mk), (1, .int (nI i)), (2, .int (nI j)), (3, .int (nI k))] := hl
  refine lv_aload_n hx hb dX6_requireLink_0 rfl (lv_at hl 0 rfl) ?_
  refine lv_iload_n hx hb dX6_requireLink_1 rfl (lv_at hl 1 rfl) ?_
  refine im_Sv (k := 2) hx hb hml hown hts (c_X6_requireIdea l g mk f0 f1 (n) (i) (by omega) (by omega)) gX6_requireLink_X6_requireIdea rfl (by decide +kernel) ⟨Nat.le_of_ble_eq_true rfl, Nat.le_of_ble_eq_true rfl⟩ ⟨Nat.zero_le _, Nat.zero_le _⟩ hK hP hD hS hA [0] rfl (by decide) rfl hl.1 (rest := []) (As := [.ref mk, .int (nI i)]) rfl (Nat.le_of_ble_eq_true rfl) dX6_requireLink_2 (fun w1 H locs hpo hpd hS => ?_)
  obtain rfl := hpo
  obtain ⟨hP, hD⟩ := hpd [(mk, .inr (1, [.ref f0, .ref f1, .int (nI n)]))] [] 1 rfl rfl [] rfl rfl (by decide) (by decide)
  refine lv_aload_n hx hb dX6_requireLink_5 rfl (lv_at hl 0 rfl) ?_
  refine lv_iload_n hx hb dX6_requireLink_6 rfl (lv_at hl 2 rfl) ?_
  refine im_Sv (k := 2) hx hb hml hown hts (c_X6_requireIdea l g mk f0 f1 (n) (j) (by omega) (by omega)) gX6_requireLink_X6_requireIdea rfl (by decide +kernel) ⟨Nat.le_of_ble_eq_true rfl, Nat.le_of_ble_eq_true rfl⟩ ⟨Nat.zero_le _, Nat.zero_le _⟩ hK hP hD hS hA [0] rfl (by decide) rfl hl.1 (rest := []) (As := [.ref mk, .int (nI j)]) rfl (Nat.le_of_ble_eq_true rfl) dX6_requireLink_7 (fun w1 H locs hpo hpd hS => ?_)
  obtain rfl := hpo
  obtain ⟨hP, hD⟩ := hpd [(mk, .inr (1, [.ref f0, .ref f1, .int (nI n)]))] [] 1 rfl rfl [] rfl rfl (by decide) (by decide)
  refine lv_iload_n hx hb dX6_requireLink_10 rfl (lv_at hl 1 rfl) ?_
  refine lv_iload_n hx hb dX6_requireLink_11 rfl (lv_at hl 2 rfl) ?_
  refine nv_icmp_ne (tgt := 25) hx hb (by omega) (by omega) dX6_requireLink_12 (by decide) (fun c_1 => ?_) (fun c_1 => ?_)
  · skip
    refine lv_iload_n hx hb dX6_requireLink_25 rfl (lv_at hl 3 rfl) ?_
    refine im_Sv (k := 1) hx hb hml hown hts (c_X6_requireKind l g (k) (by omega)) gX6_requireLink_X6_requireKind rfl (by decide +kernel) ⟨Nat.le_of_ble_eq_true rfl, Nat.le_of_ble_eq_true rfl⟩ ⟨Nat.zero_le _, Nat.zero_le _⟩ hK hP hD hS hA [] rfl (by decide) rfl hl.1 (rest := []) (As := [.int (nI k)]) rfl (Nat.le_of_ble_eq_true rfl) dX6_requireLink_26 (fun w1 H locs hpo hpd hS => ?_)
    obtain rfl := hpo
    obtain ⟨hP, hD⟩ := hpd [(mk, .inr (1, [.ref f0, .ref f1, .int (nI n)]))] [0] 1 rfl rfl [(mk, .inr (1, [.ref f0, .ref f1, .int (nI n)]))] rfl rfl (by decide) (by decide)
    exact im_retv (w1 := [(mk, .inr (1, [.ref f0, .ref f1, .int (nI n)]))]) hx hb hr hlocks hP hS rfl rfl dX6_requireLink_29
  · skip
    exfalso; first | exact c_1 | omega | (simp at c_1; done) | (exact absurd c_1 (by simp))

set_option maxRecDepth 100000 in
set_option maxHeartbeats 4000000 in
theorem c_X6_addIdea (l : Launch) (g : GG) (X ma f0 f2 f3 f4 f5 f6 f7 : Nat) (bl : Option Nat) (bg : Nat) (gm : Nat → Option Nat) (mk w wa ow rw oa : Nat) (wt mt : Nat → Nat) (n k : Nat) (hk4 : k < 4) (hgk : gm k = some mk) (wd : Nat) (hn : n < 5) (hwd : wd < 32) : IM l yX6_addIdea wsX6_addIdea 3 g [.ref X, .int (nI k), .int (nI wd)] [(X, .inr (6, [.ref f0, .ref ma, .ref f2, .ref f3, .ref f4, .ref f5, .ref f6, .ref f7, .int (oI (bl)), .int (nI bg)])), (ma, .inl (gO g, 4, .inr (.inr (.inr (.inr (gm)))))), (mk, .inr (1, [.ref w, .ref ow, .int (nI n)])), (w, .inr (4, [.ref wa])), (wa, .inl (gI g, 5, .inl (rM (wt)))), (ow, .inr (2, [.ref rw])), (rw, .inr (4, [.ref oa])), (oa, .inl (gI g, 25, .inl (rM (mt))))] (fun x1 w1 => x1 = nI n ∧ w1 = [(X, .inr (6, [.ref f0, .ref ma, .ref f2, .ref f3, .ref f4, .ref f5, .ref f6, .ref f7, .int (oI (bl)), .int (nI bg)])), (ma, .inl (gO g, 4, .inr (.inr (.inr (.inr (gm)))))), (mk, .inr (1, [.ref w, .ref ow, .int (nI (n + 1))])), (w, .inr (4, [.ref wa])), (wa, .inl (gI g, 5, .inl (rM (va_up wt n wd)))), (ow, .inr (2, [.ref rw])), (rw, .inr (4, [.ref oa])), (oa, .inl (gI g, 25, .inl (rM (mt))))]) := by
  refine fun sz => im_body (Qc := fun A => va_Qi _ (iB g _) A) (cc := cX6_addIdea) (maxL := 4) (ret := (some .int)) (by decide) rfl (Nat.le_of_ble_eq_true rfl) ?_ sz
  intro pg ev s0 mi below meth cd A hx hb hr hml hts hown hlocks hK hA H hP hD hS ls hl
  have hl : lv_has ls 4 [(0, .ref X), (1, .int (nI k)), (2, .int (nI wd))] := hl
  refine lv_aload_n hx hb dX6_addIdea_0 rfl (lv_at hl 0 rfl) ?_
  refine lv_iload_n hx hb dX6_addIdea_1 rfl (lv_at hl 1 rfl) ?_
  refine im_Vr (k := 1) hx hb hml hown hts (c_X6_mapAt l g X ma f0 f2 f3 f4 f5 f6 f7 (bl) (bg) (gm) k mk hk4 hgk) gX6_addIdea_X6_mapAt rfl (by decide +kernel) ⟨Nat.le_of_ble_eq_true rfl, Nat.le_of_ble_eq_true rfl⟩ ⟨Nat.zero_le _, Nat.zero_le _⟩ hK hP hD hS hA [0, 1] rfl (by decide) 0 6 rfl rfl rfl hl.1 (rest := []) (As := [.int (nI k)]) rfl (Nat.le_of_ble_eq_true rfl) dX6_addIdea_2 (fun x1 w1 H locs hpo hpd hS => ?_)
  obtain ⟨hx1, rfl⟩ := hpo
  have hx1 : mk = x1 := hx1.symm
  subst hx1
  obtain ⟨hP, hD⟩ := hpd [(X, .inr (6, [.ref f0, .ref ma, .ref f2, .ref f3, .ref f4, .ref f5, .ref f6, .ref f7, .int (oI (bl)), .int (nI bg)])), (ma, .inl (gO g, 4, .inr (.inr (.inr (.inr (gm)))))), (mk, .inr (1, [.ref w, .ref ow, .int (nI n)])), (w, .inr (4, [.ref wa])), (wa, .inl (gI g, 5, .inl (rM (wt)))), (ow, .inr (2, [.ref rw])), (rw, .inr (4, [.ref oa])), (oa, .inl (gI g, 25, .inl (rM (mt))))] [2, 3, 4, 5, 6, 7] 8 rfl rfl [(mk, .inr (1, [.ref w, .ref ow, .int (nI n)])), (w, .inr (4, [.ref wa])), (wa, .inl (gI g, 5, .inl (rM (wt)))), (ow, .inr (2, [.ref rw])), (rw, .inr (4, [.ref oa])), (oa, .inl (gI g, 25, .inl (rM (mt))))] rfl rfl (by decide) (by decide)
  refine lv_astore_n (lv' := [(3, .ref mk), (0, .ref X), (1, .int (nI k)), (2, .int (nI wd))]) hx hb dX6_addIdea_5 rfl hl (by decide) rfl (fun ls hl => ?_)
  refine lv_iload_n hx hb dX6_addIdea_6 rfl (lv_at hl 3 rfl) ?_
  refine im_Sv (k := 1) hx hb hml hown hts (c_X6_requireWord l g (wd) (by omega)) gX6_addIdea_X6_requireWord rfl (by decide +kernel) ⟨Nat.le_of_ble_eq_true rfl, Nat.le_of_ble_eq_true rfl⟩ ⟨Nat.zero_le _, Nat.zero_le _⟩ hK hP hD hS hA [] rfl (by decide) rfl hl.1 (rest := []) (As := [.int (nI wd)]) rfl (Nat.le_of_ble_eq_true rfl) dX6_addIdea_7 (fun w1 H locs hpo hpd hS => ?_)
  obtain rfl := hpo
  obtain ⟨hP, hD⟩ := hpd [(X, .inr (6, [.ref f0, .ref ma, .ref f2, .ref f3, .ref f4, .ref f5, .ref f6, .ref f7, .int (oI (bl)), .int (nI bg)])), (ma, .inl (gO g, 4, .inr (.inr (.inr (.inr (gm)))))), (mk, .inr (1, [.ref w, .ref ow, .int (nI n)])), (w, .inr (4, [.ref wa])), (wa, .inl (gI g, 5, .inl (rM (wt)))), (ow, .inr (2, [.ref rw])), (rw, .inr (4, [.ref oa])), (oa, .inl (gI g, 25, .inl (rM (mt))))] [0, 1, 2, 3, 4, 5, 6, 7] 8 rfl rfl [(X, .inr (6, [.ref f0, .ref ma, .ref f2, .ref f3, .ref f4, .ref f5, .ref f6, .ref f7, .int (oI (bl)), .int (nI bg)])), (ma, .inl (gO g, 4, .inr (.inr (.inr (.inr (gm)))))), (mk, .inr (1, [.ref w, .ref ow, .int (nI n)])), (w, .inr (4, [.ref wa])), (wa, .inl (gI g, 5, .inl (rM (wt)))), (ow, .inr (2, [.ref rw])), (rw, .inr (4, [.ref oa])), (oa, .inl (gI g, 25, .inl (rM (mt))))] rfl rfl (by decide) (by decide)
  refine lv_aload_n hx hb dX6_addIdea_10 rfl (lv_at hl 0 rfl) ?_
  refine va_getN (D := g.1) (ci := 1) (v := .int (nI n)) (C := RX1) (T := TX1) (N := 3) hx hb hts (fun _ h => (List.mem_cons_of_mem _ (List.mem_append_left _ (List.mem_append_left _ (List.mem_append_left _ (List.mem_append_left _ (List.mem_append_right _ h))))))) hown hK.1 hP 2 rfl rfl 2 (by decide) (va_Nw.use rfl hK.2.1.2.1) (fun _ h9 => h9) rfl dX6_addIdea_11 ?_
  refine lv_iconst (v := nI (5)) hx hb dX6_addIdea_14 (by decide) ?_
  refine nv_icmp_lt (tgt := 28) hx hb (by omega) (by omega) dX6_addIdea_15 (by decide) (fun c_1 => ?_) (fun c_1 => ?_)
  · skip
    refine lv_aload_n hx hb dX6_addIdea_28 rfl (lv_at hl 0 rfl) ?_
    refine lv_iload_n hx hb dX6_addIdea_29 rfl (lv_at hl 3 rfl) ?_
    refine im_V (k := 1) hx hb hml hown hts (c_X1_add l g mk w wa ow rw oa (wt) (mt) (n) (wd) (by omega)) gX6_addIdea_X1_add rfl (by decide +kernel) ⟨Nat.le_of_ble_eq_true rfl, Nat.le_of_ble_eq_true rfl⟩ ⟨Nat.zero_le _, Nat.zero_le _⟩ hK hP hD hS hA [2, 3, 4, 5, 6, 7] rfl (by decide) 2 1 rfl rfl rfl hl.1 (rest := []) (As := [.int (nI wd)]) rfl (Nat.le_of_ble_eq_true rfl) dX6_addIdea_30 (fun x1 w1 H locs hpo hpd hS => ?_)
    obtain ⟨hx1, rfl⟩ := hpo
    have hx1 : x1 = nI (n) := hx1
    subst hx1
    obtain ⟨hP, hD⟩ := hpd [(X, .inr (6, [.ref f0, .ref ma, .ref f2, .ref f3, .ref f4, .ref f5, .ref f6, .ref f7, .int (oI (bl)), .int (nI bg)])), (ma, .inl (gO g, 4, .inr (.inr (.inr (.inr (gm)))))), (mk, .inr (1, [.ref w, .ref ow, .int (nI (n + 1))])), (w, .inr (4, [.ref wa])), (wa, .inl (gI g, 5, .inl (rM (va_up wt n wd)))), (ow, .inr (2, [.ref rw])), (rw, .inr (4, [.ref oa])), (oa, .inl (gI g, 25, .inl (rM (mt))))] [0, 1] 8 rfl rfl [(X, .inr (6, [.ref f0, .ref ma, .ref f2, .ref f3, .ref f4, .ref f5, .ref f6, .ref f7, .int (oI (bl)), .int (nI bg)])), (ma, .inl (gO g, 4, .inr (.inr (.inr (.inr (gm))))))] rfl rfl (by decide) (by decide)
    exact im_ret (w1 := [(X, .inr (6, [.ref f0, .ref ma, .ref f2, .ref f3, .ref f4, .ref f5, .ref f6, .ref f7, .int (oI (bl)), .int (nI bg)])), (ma, .inl (gO g, 4, .inr (.inr (.inr (.inr (gm)))))), (mk, .inr (1, [.ref w, .ref ow, .int (nI (n + 1))])), (w, .inr (4, [.ref wa])), (wa, .inl (gI g, 5, .inl (rM (va_up wt n wd)))), (ow, .inr (2, [.ref rw])), (rw, .inr (4, [.ref oa])), (oa, .inl (gI g, 25, .inl (rM (mt))))]) (v := nI (n)) hx hb hr hlocks hP hS rfl ⟨rfl, rfl⟩ dX6_addIdea_33
  · skip
    exfalso; first | exact c_1 | omega | (simp at c_1; done) | (exact absurd c_1 (by simp))

set_option maxRecDepth 100000 in
set_option maxHeartbeats 4000000 in
theorem c_X6_link (l : Launch) (g : GG) (X ma f0 f2 f3 f4 f5 f6 f7 : Nat) (bl : Option Nat) (bg : Nat) (gm : Nat → Option Nat) (mk w wa ow rw oa : Nat) (wt mt : Nat → Nat) (n k : Nat) (hk4 : k < 4) (hgk : gm k = some mk) (f t d : Nat) (hn : n ≤ 5) (hf : f < n) (ht : t < n) (hft : f ≠ t) (hd : d < 4) (hm : mOk mt) : IM l yX6_link wsX6_link 5 g [.ref X, .int (nI k), .int (nI f), .int (nI t), .int (nI d)] [(X, .inr (6, [.ref f0, .ref ma, .ref f2, .ref f3, .ref f4, .ref f5, .ref f6, .ref f7, .int (oI (bl)), .int (nI bg)])), (ma, .inl (gO g, 4, .inr (.inr (.inr (.inr (gm)))))), (mk, .inr (1, [.ref w, .ref ow, .int (nI n)])), (w, .inr (4, [.ref wa])), (wa, .inl (gI g, 5, .inl (rM (wt)))), (ow, .inr (2, [.ref rw])), (rw, .inr (4, [.ref oa])), (oa, .inl (gI g, 25, .inl (rM (mt))))] (fun x1 w1 => x1 = b2i ((mt (f * 5 + t) ^^^ (1 <<< d)).testBit d) ∧ w1 = [(X, .inr (6, [.ref f0, .ref ma, .ref f2, .ref f3, .ref f4, .ref f5, .ref f6, .ref f7, .int (oI (bl)), .int (nI bg)])), (ma, .inl (gO g, 4, .inr (.inr (.inr (.inr (gm)))))), (mk, .inr (1, [.ref w, .ref ow, .int (nI n)])), (w, .inr (4, [.ref wa])), (wa, .inl (gI g, 5, .inl (rM (wt)))), (ow, .inr (2, [.ref rw])), (rw, .inr (4, [.ref oa])), (oa, .inl (gI g, 25, .inl (rM (va_up mt (f * 5 + t) (mt (f * 5 + t) ^^^ (1 <<< d))))))]) := by
  refine fun sz => im_body (Qc := fun A => va_Qi _ (iB g _) A) (cc := cX6_link) (maxL := 6) (ret := (some .boolean)) (by decide) rfl (Nat.le_of_ble_eq_true rfl) ?_ sz
  intro pg ev s0 mi below meth cd A hx hb hr hml hts hown hlocks hK hA H hP hD hS ls hl
  have hl : lv_has ls 6 [(0, .ref X), (1, .int (nI k)), (2, .int (nI f)), (3, .int (nI t)), (4, .int (nI d))] := hl
  refine lv_aload_n hx hb dX6_link_0 rfl (lv_at hl 0 rfl) ?_
  refine lv_iload_n hx hb dX6_link_1 rfl (lv_at hl 1 rfl) ?_
  refine im_Vr (k := 1) hx hb hml hown hts (c_X6_mapAt l g X ma f0 f2 f3 f4 f5 f6 f7 (bl) (bg) (gm) k mk hk4 hgk) gX6_link_X6_mapAt rfl (by decide +kernel) ⟨Nat.le_of_ble_eq_true rfl, Nat.le_of_ble_eq_true rfl⟩ ⟨Nat.zero_le _, Nat.zero_le _⟩ hK hP hD hS hA [0, 1] rfl (by decide) 0 6 rfl rfl rfl hl.1 (rest := []) (As := [.int (nI k)]) rfl (Nat.le_of_ble_eq_true rfl) dX6_link_2 (fun x1 w1 H locs hpo hpd hS => ?_)
  obtain ⟨hx1, rfl⟩ := hpo
  have hx1 : mk = x1 := hx1.symm
  subst hx1
  obtain ⟨hP, hD⟩ := hpd [(X, .inr (6, [.ref f0, .ref ma, .ref f2, .ref f3, .ref f4, .ref f5, .ref f6, .ref f7, .int (oI (bl)), .int (nI bg)])), (ma, .inl (gO g, 4, .inr (.inr (.inr (.inr (gm)))))), (mk, .inr (1, [.ref w, .ref ow, .int (nI n)])), (w, .inr (4, [.ref wa])), (wa, .inl (gI g, 5, .inl (rM (wt)))), (ow, .inr (2, [.ref rw])), (rw, .inr (4, [.ref oa])), (oa, .inl (gI g, 25, .inl (rM (mt))))] [2, 3, 4, 5, 6, 7] 8 rfl rfl [(mk, .inr (1, [.ref w, .ref ow, .int (nI n)])), (w, .inr (4, [.ref wa])), (wa, .inl (gI g, 5, .inl (rM (wt)))), (ow, .inr (2, [.ref rw])), (rw, .inr (4, [.ref oa])), (oa, .inl (gI g, 25, .inl (rM (mt))))] rfl rfl (by decide) (by decide)
  refine lv_astore (lv' := [(5, .ref mk), (0, .ref X), (1, .int (nI k)), (2, .int (nI f)), (3, .int (nI t)), (4, .int (nI d))]) hx hb dX6_link_5 hl (by decide) rfl (fun ls hl => ?_)
  refine lv_aload hx hb dX6_link_7 (lv_at hl 0 rfl) ?_
  refine lv_iload_n hx hb dX6_link_9 rfl (lv_at hl 3 rfl) ?_
  refine lv_iload_n hx hb dX6_link_10 rfl (lv_at hl 4 rfl) ?_
  refine lv_iload hx hb dX6_link_11 (lv_at hl 5 rfl) ?_
  refine im_Sv (k := 4) hx hb hml hown hts (c_X6_requireLink l g mk w ow (n) (f) (t) (d) (by omega) (by omega) (by omega) (by omega) (by omega)) gX6_link_X6_requireLink rfl (by decide +kernel) ⟨Nat.le_of_ble_eq_true rfl, Nat.le_of_ble_eq_true rfl⟩ ⟨Nat.zero_le _, Nat.zero_le _⟩ hK hP hD hS hA [2] rfl (by decide) rfl hl.1 (rest := []) (As := [.ref mk, .int (nI f), .int (nI t), .int (nI d)]) rfl (Nat.le_of_ble_eq_true rfl) dX6_link_13 (fun w1 H locs hpo hpd hS => ?_)
  obtain rfl := hpo
  obtain ⟨hP, hD⟩ := hpd [(X, .inr (6, [.ref f0, .ref ma, .ref f2, .ref f3, .ref f4, .ref f5, .ref f6, .ref f7, .int (oI (bl)), .int (nI bg)])), (ma, .inl (gO g, 4, .inr (.inr (.inr (.inr (gm)))))), (mk, .inr (1, [.ref w, .ref ow, .int (nI n)])), (w, .inr (4, [.ref wa])), (wa, .inl (gI g, 5, .inl (rM (wt)))), (ow, .inr (2, [.ref rw])), (rw, .inr (4, [.ref oa])), (oa, .inl (gI g, 25, .inl (rM (mt))))] [0, 1, 3, 4, 5, 6, 7] 8 rfl rfl [(X, .inr (6, [.ref f0, .ref ma, .ref f2, .ref f3, .ref f4, .ref f5, .ref f6, .ref f7, .int (oI (bl)), .int (nI bg)])), (ma, .inl (gO g, 4, .inr (.inr (.inr (.inr (gm)))))), (w, .inr (4, [.ref wa])), (wa, .inl (gI g, 5, .inl (rM (wt)))), (ow, .inr (2, [.ref rw])), (rw, .inr (4, [.ref oa])), (oa, .inl (gI g, 25, .inl (rM (mt))))] rfl rfl (by decide) (by decide)
  refine lv_aload hx hb dX6_link_16 (lv_at hl 0 rfl) ?_
  refine va_getN (D := g.1) (ci := 1) (v := .ref ow) (C := RX1) (T := TX1) (N := 3) hx hb hts (fun _ h => (List.mem_cons_of_mem _ (List.mem_append_left _ (List.mem_append_left _ (List.mem_append_left _ (List.mem_append_left _ (List.mem_append_left _ (List.mem_append_right _ h)))))))) hown hK.1 hP 2 rfl rfl 1 (by decide) (va_Nw.use rfl hK.2.1.2.2.1) (fun _ h9 => h9) rfl dX6_link_18 ?_
  refine lv_iload_n hx hb dX6_link_21 rfl (lv_at hl 3 rfl) ?_
  refine lv_iload_n hx hb dX6_link_22 rfl (lv_at hl 4 rfl) ?_
  refine lv_iload hx hb dX6_link_23 (lv_at hl 5 rfl) ?_
  refine im_V (k := 3) hx hb hml hown hts (c_X2_toggle l g ow rw oa (mt) (f) (t) (d) hm (by omega) (by omega) (by omega)) gX6_link_X2_toggle rfl (by decide +kernel) ⟨Nat.le_of_ble_eq_true rfl, Nat.le_of_ble_eq_true rfl⟩ ⟨Nat.zero_le _, Nat.zero_le _⟩ hK hP hD hS hA [5, 6, 7] rfl (by decide) 5 2 rfl rfl rfl hl.1 (rest := []) (As := [.int (nI f), .int (nI t), .int (nI d)]) rfl (Nat.le_of_ble_eq_true rfl) dX6_link_25 (fun x1 w1 H locs hpo hpd hS => ?_)
  obtain ⟨hx1, rfl⟩ := hpo
  have hx1 : x1 = b2i ((mt (f * 5 + t) ^^^ (1 <<< d)).testBit d) := hx1
  subst hx1
  obtain ⟨hP, hD⟩ := hpd [(X, .inr (6, [.ref f0, .ref ma, .ref f2, .ref f3, .ref f4, .ref f5, .ref f6, .ref f7, .int (oI (bl)), .int (nI bg)])), (ma, .inl (gO g, 4, .inr (.inr (.inr (.inr (gm)))))), (mk, .inr (1, [.ref w, .ref ow, .int (nI n)])), (w, .inr (4, [.ref wa])), (wa, .inl (gI g, 5, .inl (rM (wt)))), (ow, .inr (2, [.ref rw])), (rw, .inr (4, [.ref oa])), (oa, .inl (gI g, 25, .inl (rM (va_up mt (f * 5 + t) (mt (f * 5 + t) ^^^ (1 <<< d))))))] [0, 1, 2, 3, 4] 8 rfl rfl [(X, .inr (6, [.ref f0, .ref ma, .ref f2, .ref f3, .ref f4, .ref f5, .ref f6, .ref f7, .int (oI (bl)), .int (nI bg)])), (ma, .inl (gO g, 4, .inr (.inr (.inr (.inr (gm)))))), (mk, .inr (1, [.ref w, .ref ow, .int (nI n)])), (w, .inr (4, [.ref wa])), (wa, .inl (gI g, 5, .inl (rM (wt))))] rfl rfl (by decide) (by decide)
  exact im_retz (w1 := [(X, .inr (6, [.ref f0, .ref ma, .ref f2, .ref f3, .ref f4, .ref f5, .ref f6, .ref f7, .int (oI (bl)), .int (nI bg)])), (ma, .inl (gO g, 4, .inr (.inr (.inr (.inr (gm)))))), (mk, .inr (1, [.ref w, .ref ow, .int (nI n)])), (w, .inr (4, [.ref wa])), (wa, .inl (gI g, 5, .inl (rM (wt)))), (ow, .inr (2, [.ref rw])), (rw, .inr (4, [.ref oa])), (oa, .inl (gI g, 25, .inl (rM (va_up mt (f * 5 + t) (mt (f * 5 + t) ^^^ (1 <<< d))))))]) (v := b2i ((mt (f * 5 + t) ^^^ (1 <<< d)).testBit d)) hx hb hr hlocks hP hS rfl ⟨rfl, rfl⟩ (by first | exact b2i_nar _ | rfl) dX6_link_28

set_option maxRecDepth 100000 in
set_option maxHeartbeats 4000000 in
theorem c_X6_clear (l : Launch) (g : GG) (X ma f0 f2 f3 f4 f5 f6 f7 : Nat) (bl : Option Nat) (bg : Nat) (gm : Nat → Option Nat) (mk w wa ow rw oa : Nat) (wt mt : Nat → Nat) (n k : Nat) (hk4 : k < 4) (hgk : gm k = some mk) (hm : mOk mt) : IM l yX6_clear wsX6_clear 4 g [.ref X, .int (nI k)] [(X, .inr (6, [.ref f0, .ref ma, .ref f2, .ref f3, .ref f4, .ref f5, .ref f6, .ref f7, .int (oI (bl)), .int (nI bg)])), (ma, .inl (gO g, 4, .inr (.inr (.inr (.inr (gm)))))), (mk, .inr (1, [.ref w, .ref ow, .int (nI n)])), (w, .inr (4, [.ref wa])), (wa, .inl (gI g, 5, .inl (rM (wt)))), (ow, .inr (2, [.ref rw])), (rw, .inr (4, [.ref oa])), (oa, .inl (gI g, 25, .inl (rM (mt))))] (fun x1 w1 => x1 = nI (n + cntN mt 25) ∧ w1 = [(X, .inr (6, [.ref f0, .ref ma, .ref f2, .ref f3, .ref f4, .ref f5, .ref f6, .ref f7, .int (oI (bl)), .int (nI bg)])), (ma, .inl (gO g, 4, .inr (.inr (.inr (.inr (gm)))))), (mk, .inr (1, [.ref w, .ref ow, .int (nI 0)])), (w, .inr (4, [.ref wa])), (wa, .inl (gI g, 5, .inl (rM (wt)))), (ow, .inr (2, [.ref rw])), (rw, .inr (4, [.ref oa])), (oa, .inl (gI g, 25, .inl (rM (fun _ => 0))))]) := by
  refine fun sz => im_body (Qc := fun A => va_Qi _ (iB g _) A) (cc := cX6_clear) (maxL := 2) (ret := (some .int)) (by decide) rfl (Nat.le_of_ble_eq_true rfl) ?_ sz
  intro pg ev s0 mi below meth cd A hx hb hr hml hts hown hlocks hK hA H hP hD hS ls hl
  have hl : lv_has ls 2 [(0, .ref X), (1, .int (nI k))] := hl
  refine lv_aload_n hx hb dX6_clear_0 rfl (lv_at hl 0 rfl) ?_
  refine lv_iload_n hx hb dX6_clear_1 rfl (lv_at hl 1 rfl) ?_
  refine im_Vr (k := 1) hx hb hml hown hts (c_X6_mapAt l g X ma f0 f2 f3 f4 f5 f6 f7 (bl) (bg) (gm) k mk hk4 hgk) gX6_clear_X6_mapAt rfl (by decide +kernel) ⟨Nat.le_of_ble_eq_true rfl, Nat.le_of_ble_eq_true rfl⟩ ⟨Nat.zero_le _, Nat.zero_le _⟩ hK hP hD hS hA [0, 1] rfl (by decide) 0 6 rfl rfl rfl hl.1 (rest := []) (As := [.int (nI k)]) rfl (Nat.le_of_ble_eq_true rfl) dX6_clear_2 (fun x1 w1 H locs hpo hpd hS => ?_)
  obtain ⟨hx1, rfl⟩ := hpo
  have hx1 : mk = x1 := hx1.symm
  subst hx1
  obtain ⟨hP, hD⟩ := hpd [(X, .inr (6, [.ref f0, .ref ma, .ref f2, .ref f3, .ref f4, .ref f5, .ref f6, .ref f7, .int (oI (bl)), .int (nI bg)])), (ma, .inl (gO g, 4, .inr (.inr (.inr (.inr (gm)))))), (mk, .inr (1, [.ref w, .ref ow, .int (nI n)])), (w, .inr (4, [.ref wa])), (wa, .inl (gI g, 5, .inl (rM (wt)))), (ow, .inr (2, [.ref rw])), (rw, .inr (4, [.ref oa])), (oa, .inl (gI g, 25, .inl (rM (mt))))] [2, 3, 4, 5, 6, 7] 8 rfl rfl [(mk, .inr (1, [.ref w, .ref ow, .int (nI n)])), (w, .inr (4, [.ref wa])), (wa, .inl (gI g, 5, .inl (rM (wt)))), (ow, .inr (2, [.ref rw])), (rw, .inr (4, [.ref oa])), (oa, .inl (gI g, 25, .inl (rM (mt))))] rfl rfl (by decide) (by decide)
  refine im_V (k := 0) hx hb hml hown hts (c_X1_removeAll l g mk w wa ow rw oa (wt) (mt) (n) hm) gX6_clear_X1_removeAll rfl (by decide +kernel) ⟨Nat.le_of_ble_eq_true rfl, Nat.le_of_ble_eq_true rfl⟩ ⟨Nat.zero_le _, Nat.zero_le _⟩ hK hP hD hS hA [2, 3, 4, 5, 6, 7] rfl (by decide) 2 1 rfl rfl rfl hl.1 (rest := []) (As := []) rfl (Nat.le_of_ble_eq_true rfl) dX6_clear_5 (fun x1 w1 H locs hpo hpd hS => ?_)
  obtain ⟨hx1, rfl⟩ := hpo
  have hx1 : x1 = nI (n + cntN mt 25) := hx1
  subst hx1
  obtain ⟨hP, hD⟩ := hpd [(X, .inr (6, [.ref f0, .ref ma, .ref f2, .ref f3, .ref f4, .ref f5, .ref f6, .ref f7, .int (oI (bl)), .int (nI bg)])), (ma, .inl (gO g, 4, .inr (.inr (.inr (.inr (gm)))))), (mk, .inr (1, [.ref w, .ref ow, .int (nI 0)])), (w, .inr (4, [.ref wa])), (wa, .inl (gI g, 5, .inl (rM (wt)))), (ow, .inr (2, [.ref rw])), (rw, .inr (4, [.ref oa])), (oa, .inl (gI g, 25, .inl (rM (fun _ => 0))))] [0, 1] 8 rfl rfl [(X, .inr (6, [.ref f0, .ref ma, .ref f2, .ref f3, .ref f4, .ref f5, .ref f6, .ref f7, .int (oI (bl)), .int (nI bg)])), (ma, .inl (gO g, 4, .inr (.inr (.inr (.inr (gm))))))] rfl rfl (by decide) (by decide)
  exact im_ret (w1 := [(X, .inr (6, [.ref f0, .ref ma, .ref f2, .ref f3, .ref f4, .ref f5, .ref f6, .ref f7, .int (oI (bl)), .int (nI bg)])), (ma, .inl (gO g, 4, .inr (.inr (.inr (.inr (gm)))))), (mk, .inr (1, [.ref w, .ref ow, .int (nI 0)])), (w, .inr (4, [.ref wa])), (wa, .inl (gI g, 5, .inl (rM (wt)))), (ow, .inr (2, [.ref rw])), (rw, .inr (4, [.ref oa])), (oa, .inl (gI g, 25, .inl (rM (fun _ => 0))))]) (v := nI (n + cntN mt 25)) hx hb hr hlocks hP hS rfl ⟨rfl, rfl⟩ dX6_clear_8

set_option maxRecDepth 100000 in
set_option maxHeartbeats 4000000 in
theorem c_X6_ideas (l : Launch) (g : GG) (X ma f0 f2 f3 f4 f5 f6 f7 : Nat) (bl : Option Nat) (bg : Nat) (gm : Nat → Option Nat) (mk w wa ow rw oa : Nat) (wt mt : Nat → Nat) (n k : Nat) (hk4 : k < 4) (hgk : gm k = some mk)  : IM l yX6_ideas wsX6_ideas 2 g [.ref X, .int (nI k)] [(X, .inr (6, [.ref f0, .ref ma, .ref f2, .ref f3, .ref f4, .ref f5, .ref f6, .ref f7, .int (oI (bl)), .int (nI bg)])), (ma, .inl (gO g, 4, .inr (.inr (.inr (.inr (gm)))))), (mk, .inr (1, [.ref w, .ref ow, .int (nI n)])), (w, .inr (4, [.ref wa])), (wa, .inl (gI g, 5, .inl (rM (wt)))), (ow, .inr (2, [.ref rw])), (rw, .inr (4, [.ref oa])), (oa, .inl (gI g, 25, .inl (rM (mt))))] (fun x1 w1 => x1 = nI n ∧ w1 = [(X, .inr (6, [.ref f0, .ref ma, .ref f2, .ref f3, .ref f4, .ref f5, .ref f6, .ref f7, .int (oI (bl)), .int (nI bg)])), (ma, .inl (gO g, 4, .inr (.inr (.inr (.inr (gm)))))), (mk, .inr (1, [.ref w, .ref ow, .int (nI n)])), (w, .inr (4, [.ref wa])), (wa, .inl (gI g, 5, .inl (rM (wt)))), (ow, .inr (2, [.ref rw])), (rw, .inr (4, [.ref oa])), (oa, .inl (gI g, 25, .inl (rM (mt))))]) := by
  refine fun sz => im_body (Qc := fun A => va_Qi _ (iB g _) A) (cc := cX6_ideas) (maxL := 2) (ret := (some .int)) (by decide) rfl (Nat.le_of_ble_eq_true rfl) ?_ sz
  intro pg ev s0 mi below meth cd A hx hb hr hml hts hown hlocks hK hA H hP hD hS ls hl
  have hl : lv_has ls 2 [(0, .ref X), (1, .int (nI k))] := hl
  refine lv_aload_n hx hb dX6_ideas_0 rfl (lv_at hl 0 rfl) ?_
  refine lv_iload_n hx hb dX6_ideas_1 rfl (lv_at hl 1 rfl) ?_
  refine im_Vr (k := 1) hx hb hml hown hts (c_X6_mapAt l g X ma f0 f2 f3 f4 f5 f6 f7 (bl) (bg) (gm) k mk hk4 hgk) gX6_ideas_X6_mapAt rfl (by decide +kernel) ⟨Nat.le_of_ble_eq_true rfl, Nat.le_of_ble_eq_true rfl⟩ ⟨Nat.zero_le _, Nat.zero_le _⟩ hK hP hD hS hA [0, 1] rfl (by decide) 0 6 rfl rfl rfl hl.1 (rest := []) (As := [.int (nI k)]) rfl (Nat.le_of_ble_eq_true rfl) dX6_ideas_2 (fun x1 w1 H locs hpo hpd hS => ?_)
  obtain ⟨hx1, rfl⟩ := hpo
  have hx1 : mk = x1 := hx1.symm
  subst hx1
  obtain ⟨hP, hD⟩ := hpd [(X, .inr (6, [.ref f0, .ref ma, .ref f2, .ref f3, .ref f4, .ref f5, .ref f6, .ref f7, .int (oI (bl)), .int (nI bg)])), (ma, .inl (gO g, 4, .inr (.inr (.inr (.inr (gm)))))), (mk, .inr (1, [.ref w, .ref ow, .int (nI n)])), (w, .inr (4, [.ref wa])), (wa, .inl (gI g, 5, .inl (rM (wt)))), (ow, .inr (2, [.ref rw])), (rw, .inr (4, [.ref oa])), (oa, .inl (gI g, 25, .inl (rM (mt))))] [2, 3, 4, 5, 6, 7] 8 rfl rfl [(mk, .inr (1, [.ref w, .ref ow, .int (nI n)])), (w, .inr (4, [.ref wa])), (wa, .inl (gI g, 5, .inl (rM (wt)))), (ow, .inr (2, [.ref rw])), (rw, .inr (4, [.ref oa])), (oa, .inl (gI g, 25, .inl (rM (mt))))] rfl rfl (by decide) (by decide)
  refine va_getN (D := g.1) (ci := 1) (v := .int (nI n)) (C := RX1) (T := TX1) (N := 3) hx hb hts (fun _ h => (List.mem_cons_of_mem _ (List.mem_append_left _ (List.mem_append_left _ (List.mem_append_right _ h))))) hown hK.1 hP 2 rfl rfl 2 (by decide) (va_Nw.use rfl hK.2.1.2.1) (fun _ h9 => h9) rfl dX6_ideas_5 ?_
  exact im_ret (w1 := [(X, .inr (6, [.ref f0, .ref ma, .ref f2, .ref f3, .ref f4, .ref f5, .ref f6, .ref f7, .int (oI (bl)), .int (nI bg)])), (ma, .inl (gO g, 4, .inr (.inr (.inr (.inr (gm)))))), (mk, .inr (1, [.ref w, .ref ow, .int (nI n)])), (w, .inr (4, [.ref wa])), (wa, .inl (gI g, 5, .inl (rM (wt)))), (ow, .inr (2, [.ref rw])), (rw, .inr (4, [.ref oa])), (oa, .inl (gI g, 25, .inl (rM (mt))))]) (v := nI (n)) hx hb hr hlocks hP hS rfl ⟨rfl, rfl⟩ dX6_ideas_8

set_option maxRecDepth 100000 in
set_option maxHeartbeats 4000000 in
theorem c_X6_links (l : Launch) (g : GG) (X ma f0 f2 f3 f4 f5 f6 f7 : Nat) (bl : Option Nat) (bg : Nat) (gm : Nat → Option Nat) (mk w wa ow rw oa : Nat) (wt mt : Nat → Nat) (n k : Nat) (hk4 : k < 4) (hgk : gm k = some mk) (hm : mOk mt) : IM l yX6_links wsX6_links 3 g [.ref X, .int (nI k)] [(X, .inr (6, [.ref f0, .ref ma, .ref f2, .ref f3, .ref f4, .ref f5, .ref f6, .ref f7, .int (oI (bl)), .int (nI bg)])), (ma, .inl (gO g, 4, .inr (.inr (.inr (.inr (gm)))))), (mk, .inr (1, [.ref w, .ref ow, .int (nI n)])), (w, .inr (4, [.ref wa])), (wa, .inl (gI g, 5, .inl (rM (wt)))), (ow, .inr (2, [.ref rw])), (rw, .inr (4, [.ref oa])), (oa, .inl (gI g, 25, .inl (rM (mt))))] (fun x1 w1 => x1 = nI (cntN mt 25) ∧ w1 = [(X, .inr (6, [.ref f0, .ref ma, .ref f2, .ref f3, .ref f4, .ref f5, .ref f6, .ref f7, .int (oI (bl)), .int (nI bg)])), (ma, .inl (gO g, 4, .inr (.inr (.inr (.inr (gm)))))), (mk, .inr (1, [.ref w, .ref ow, .int (nI n)])), (w, .inr (4, [.ref wa])), (wa, .inl (gI g, 5, .inl (rM (wt)))), (ow, .inr (2, [.ref rw])), (rw, .inr (4, [.ref oa])), (oa, .inl (gI g, 25, .inl (rM (mt))))]) := by
  refine fun sz => im_body (Qc := fun A => va_Qi _ (iB g _) A) (cc := cX6_links) (maxL := 2) (ret := (some .int)) (by decide) rfl (Nat.le_of_ble_eq_true rfl) ?_ sz
  intro pg ev s0 mi below meth cd A hx hb hr hml hts hown hlocks hK hA H hP hD hS ls hl
  have hl : lv_has ls 2 [(0, .ref X), (1, .int (nI k))] := hl
  refine lv_aload_n hx hb dX6_links_0 rfl (lv_at hl 0 rfl) ?_
  refine lv_iload_n hx hb dX6_links_1 rfl (lv_at hl 1 rfl) ?_
  refine im_Vr (k := 1) hx hb hml hown hts (c_X6_mapAt l g X ma f0 f2 f3 f4 f5 f6 f7 (bl) (bg) (gm) k mk hk4 hgk) gX6_links_X6_mapAt rfl (by decide +kernel) ⟨Nat.le_of_ble_eq_true rfl, Nat.le_of_ble_eq_true rfl⟩ ⟨Nat.zero_le _, Nat.zero_le _⟩ hK hP hD hS hA [0, 1] rfl (by decide) 0 6 rfl rfl rfl hl.1 (rest := []) (As := [.int (nI k)]) rfl (Nat.le_of_ble_eq_true rfl) dX6_links_2 (fun x1 w1 H locs hpo hpd hS => ?_)
  obtain ⟨hx1, rfl⟩ := hpo
  have hx1 : mk = x1 := hx1.symm
  subst hx1
  obtain ⟨hP, hD⟩ := hpd [(X, .inr (6, [.ref f0, .ref ma, .ref f2, .ref f3, .ref f4, .ref f5, .ref f6, .ref f7, .int (oI (bl)), .int (nI bg)])), (ma, .inl (gO g, 4, .inr (.inr (.inr (.inr (gm)))))), (mk, .inr (1, [.ref w, .ref ow, .int (nI n)])), (w, .inr (4, [.ref wa])), (wa, .inl (gI g, 5, .inl (rM (wt)))), (ow, .inr (2, [.ref rw])), (rw, .inr (4, [.ref oa])), (oa, .inl (gI g, 25, .inl (rM (mt))))] [2, 3, 4, 5, 6, 7] 8 rfl rfl [(mk, .inr (1, [.ref w, .ref ow, .int (nI n)])), (w, .inr (4, [.ref wa])), (wa, .inl (gI g, 5, .inl (rM (wt)))), (ow, .inr (2, [.ref rw])), (rw, .inr (4, [.ref oa])), (oa, .inl (gI g, 25, .inl (rM (mt))))] rfl rfl (by decide) (by decide)
  refine va_getN (D := g.1) (ci := 1) (v := .ref ow) (C := RX1) (T := TX1) (N := 3) hx hb hts (fun _ h => (List.mem_cons_of_mem _ (List.mem_append_left _ (List.mem_append_left _ (List.mem_append_left _ (List.mem_append_left _ (List.mem_append_right _ h))))))) hown hK.1 hP 2 rfl rfl 1 (by decide) (va_Nw.use rfl hK.2.1.2.2.1) (fun _ h9 => h9) rfl dX6_links_5 ?_
  refine im_V (k := 0) hx hb hml hown hts (c_X2_count l g ow rw oa (mt) hm) gX6_links_X2_count rfl (by decide +kernel) ⟨Nat.le_of_ble_eq_true rfl, Nat.le_of_ble_eq_true rfl⟩ ⟨Nat.zero_le _, Nat.zero_le _⟩ hK hP hD hS hA [5, 6, 7] rfl (by decide) 5 2 rfl rfl rfl hl.1 (rest := []) (As := []) rfl (Nat.le_of_ble_eq_true rfl) dX6_links_8 (fun x1 w1 H locs hpo hpd hS => ?_)
  obtain ⟨hx1, rfl⟩ := hpo
  have hx1 : x1 = nI (cntN mt 25) := hx1
  subst hx1
  obtain ⟨hP, hD⟩ := hpd [(X, .inr (6, [.ref f0, .ref ma, .ref f2, .ref f3, .ref f4, .ref f5, .ref f6, .ref f7, .int (oI (bl)), .int (nI bg)])), (ma, .inl (gO g, 4, .inr (.inr (.inr (.inr (gm)))))), (mk, .inr (1, [.ref w, .ref ow, .int (nI n)])), (w, .inr (4, [.ref wa])), (wa, .inl (gI g, 5, .inl (rM (wt)))), (ow, .inr (2, [.ref rw])), (rw, .inr (4, [.ref oa])), (oa, .inl (gI g, 25, .inl (rM (mt))))] [0, 1, 2, 3, 4] 8 rfl rfl [(X, .inr (6, [.ref f0, .ref ma, .ref f2, .ref f3, .ref f4, .ref f5, .ref f6, .ref f7, .int (oI (bl)), .int (nI bg)])), (ma, .inl (gO g, 4, .inr (.inr (.inr (.inr (gm)))))), (mk, .inr (1, [.ref w, .ref ow, .int (nI n)])), (w, .inr (4, [.ref wa])), (wa, .inl (gI g, 5, .inl (rM (wt))))] rfl rfl (by decide) (by decide)
  exact im_ret (w1 := [(X, .inr (6, [.ref f0, .ref ma, .ref f2, .ref f3, .ref f4, .ref f5, .ref f6, .ref f7, .int (oI (bl)), .int (nI bg)])), (ma, .inl (gO g, 4, .inr (.inr (.inr (.inr (gm)))))), (mk, .inr (1, [.ref w, .ref ow, .int (nI n)])), (w, .inr (4, [.ref wa])), (wa, .inl (gI g, 5, .inl (rM (wt)))), (ow, .inr (2, [.ref rw])), (rw, .inr (4, [.ref oa])), (oa, .inl (gI g, 25, .inl (rM (mt))))]) (v := nI (cntN mt 25)) hx hb hr hlocks hP hS rfl ⟨rfl, rfl⟩ dX6_links_11

set_option maxRecDepth 100000 in
set_option maxHeartbeats 4000000 in
theorem c_X6_held (l : Launch) (g : GG) (X ma f0 f2 f5 f6 f7 : Nat) (bl : Option Nat) (bg : Nat) (gm : Nat → Option Nat) (mk w wa ow rw oa : Nat) (wt mt : Nat → Nat) (n k : Nat) (hk4 : k < 4) (hgk : gm k = some mk) (cx cr ca hl0 hl1 hl2 : Nat) (ch : Nat → Option Nat) (hd9 : Nat → Nat) (hc : chOk ch) (hm : mOk mt)  : IM l yX6_held wsX6_held 6 g [.ref X, .int (nI k)] [(X, .inr (6, [.ref f0, .ref ma, .ref f2, .ref cx, .ref hl0, .ref f5, .ref f6, .ref f7, .int (oI (bl)), .int (nI bg)])), (ma, .inl (gO g, 4, .inr (.inr (.inr (.inr (gm)))))), (mk, .inr (1, [.ref w, .ref ow, .int (nI n)])), (w, .inr (4, [.ref wa])), (wa, .inl (gI g, 5, .inl (rM (wt)))), (ow, .inr (2, [.ref rw])), (rw, .inr (4, [.ref oa])), (oa, .inl (gI g, 25, .inl (rM (mt)))), (cx, .inr (0, [.ref cr])), (cr, .inr (4, [.ref ca])), (ca, .inl (gI g, 16, .inl (rO (ch)))), (hl0, .inr (2, [.ref hl1])), (hl1, .inr (4, [.ref hl2])), (hl2, .inl (gI g, 25, .inl (rM (hd9))))] (fun x1 w1 => x1 = nI (cntN (clo ch mt) 25) ∧ w1 = [(X, .inr (6, [.ref f0, .ref ma, .ref f2, .ref cx, .ref hl0, .ref f5, .ref f6, .ref f7, .int (oI (bl)), .int (nI bg)])), (ma, .inl (gO g, 4, .inr (.inr (.inr (.inr (gm)))))), (mk, .inr (1, [.ref w, .ref ow, .int (nI n)])), (w, .inr (4, [.ref wa])), (wa, .inl (gI g, 5, .inl (rM (wt)))), (ow, .inr (2, [.ref rw])), (rw, .inr (4, [.ref oa])), (oa, .inl (gI g, 25, .inl (rM (mt)))), (cx, .inr (0, [.ref cr])), (cr, .inr (4, [.ref ca])), (ca, .inl (gI g, 16, .inl (rO (ch)))), (hl0, .inr (2, [.ref hl1])), (hl1, .inr (4, [.ref hl2])), (hl2, .inl (gI g, 25, .inl (rM (clo ch mt))))]) := by
  refine fun sz => im_body (Qc := fun A => va_Qi _ (iB g _) A) (cc := cX6_held) (maxL := 2) (ret := (some .int)) (by decide) rfl (Nat.le_of_ble_eq_true rfl) ?_ sz
  intro pg ev s0 mi below meth cd A hx hb hr hml hts hown hlocks hK hA H hP hD hS ls hl
  have hl : lv_has ls 2 [(0, .ref X), (1, .int (nI k))] := hl
  refine lv_aload_n hx hb dX6_held_0 rfl (lv_at hl 0 rfl) ?_
  refine va_get (D := g.1) (ci := 6) (v := .ref hl0) (C := RX6) (T := TX6) (N := 10) hx hb hts (fun _ h => (List.mem_cons_of_mem _ (List.mem_append_left _ (List.mem_append_left _ (List.mem_append_left _ (List.mem_append_left _ (List.mem_append_left _ (List.mem_append_right _ h)))))))) hown hK.1 hP 0 rfl rfl 4 (by decide) (hts _ (List.mem_cons_of_mem _ (List.mem_append_left _ (List.mem_append_left _ (List.mem_append_left _ (List.mem_append_left _ (List.mem_append_left _ (List.mem_append_left _ (List.mem_append_left _ (List.mem_of_getElem? (i := 0) rfl)))))))))) (fun _ h9 => h9) rfl dX6_held_1 ?_
  refine lv_aload_n hx hb dX6_held_4 rfl (lv_at hl 0 rfl) ?_
  refine lv_iload_n hx hb dX6_held_5 rfl (lv_at hl 1 rfl) ?_
  refine im_Vr (k := 1) hx hb hml hown hts (c_X6_mapAt l g X ma f0 f2 cx hl0 f5 f6 f7 (bl) (bg) (gm) k mk hk4 hgk) gX6_held_X6_mapAt rfl (by decide +kernel) ⟨Nat.le_of_ble_eq_true rfl, Nat.le_of_ble_eq_true rfl⟩ ⟨Nat.zero_le _, Nat.zero_le _⟩ hK hP hD hS hA [0, 1] rfl (by decide) 0 6 rfl rfl rfl hl.1 (rest := [.ref hl0]) (As := [.int (nI k)]) rfl (Nat.le_of_ble_eq_true rfl) dX6_held_6 (fun x1 w1 H locs hpo hpd hS => ?_)
  obtain ⟨hx1, rfl⟩ := hpo
  have hx1 : mk = x1 := hx1.symm
  subst hx1
  obtain ⟨hP, hD⟩ := hpd [(X, .inr (6, [.ref f0, .ref ma, .ref f2, .ref cx, .ref hl0, .ref f5, .ref f6, .ref f7, .int (oI (bl)), .int (nI bg)])), (ma, .inl (gO g, 4, .inr (.inr (.inr (.inr (gm)))))), (mk, .inr (1, [.ref w, .ref ow, .int (nI n)])), (w, .inr (4, [.ref wa])), (wa, .inl (gI g, 5, .inl (rM (wt)))), (ow, .inr (2, [.ref rw])), (rw, .inr (4, [.ref oa])), (oa, .inl (gI g, 25, .inl (rM (mt)))), (cx, .inr (0, [.ref cr])), (cr, .inr (4, [.ref ca])), (ca, .inl (gI g, 16, .inl (rO (ch)))), (hl0, .inr (2, [.ref hl1])), (hl1, .inr (4, [.ref hl2])), (hl2, .inl (gI g, 25, .inl (rM (hd9))))] [2, 3, 4, 5, 6, 7, 8, 9, 10, 11, 12, 13] 14 rfl rfl [(mk, .inr (1, [.ref w, .ref ow, .int (nI n)])), (w, .inr (4, [.ref wa])), (wa, .inl (gI g, 5, .inl (rM (wt)))), (ow, .inr (2, [.ref rw])), (rw, .inr (4, [.ref oa])), (oa, .inl (gI g, 25, .inl (rM (mt)))), (cx, .inr (0, [.ref cr])), (cr, .inr (4, [.ref ca])), (ca, .inl (gI g, 16, .inl (rO (ch)))), (hl0, .inr (2, [.ref hl1])), (hl1, .inr (4, [.ref hl2])), (hl2, .inl (gI g, 25, .inl (rM (hd9))))] rfl rfl (by decide) (by decide)
  refine va_getN (D := g.1) (ci := 1) (v := .ref ow) (C := RX1) (T := TX1) (N := 3) hx hb hts (fun _ h => (List.mem_cons_of_mem _ (List.mem_append_left _ (List.mem_append_left _ (List.mem_append_left _ (List.mem_append_left _ (List.mem_append_right _ h))))))) hown hK.1 hP 2 rfl rfl 1 (by decide) (va_Nw.use rfl hK.2.1.2.2.1) (fun _ h9 => h9) rfl dX6_held_9 ?_
  refine im_Vv (k := 1) hx hb hml hown hts (c_X2_become l g hl0 hl1 hl2 ow rw oa (hd9) (mt)) gX6_held_X2_become rfl (by decide +kernel) ⟨Nat.le_of_ble_eq_true rfl, Nat.le_of_ble_eq_true rfl⟩ ⟨Nat.zero_le _, Nat.zero_le _⟩ hK hP hD hS hA [11, 12, 13, 5, 6, 7] rfl (by decide) 11 2 rfl rfl rfl hl.1 (rest := []) (As := [.ref ow]) rfl (Nat.le_of_ble_eq_true rfl) dX6_held_12 (fun w1 H locs hpo hpd hS => ?_)
  obtain rfl := hpo
  obtain ⟨hP, hD⟩ := hpd [(X, .inr (6, [.ref f0, .ref ma, .ref f2, .ref cx, .ref hl0, .ref f5, .ref f6, .ref f7, .int (oI (bl)), .int (nI bg)])), (ma, .inl (gO g, 4, .inr (.inr (.inr (.inr (gm)))))), (mk, .inr (1, [.ref w, .ref ow, .int (nI n)])), (w, .inr (4, [.ref wa])), (wa, .inl (gI g, 5, .inl (rM (wt)))), (ow, .inr (2, [.ref rw])), (rw, .inr (4, [.ref oa])), (oa, .inl (gI g, 25, .inl (rM (mt)))), (cx, .inr (0, [.ref cr])), (cr, .inr (4, [.ref ca])), (ca, .inl (gI g, 16, .inl (rO (ch)))), (hl0, .inr (2, [.ref hl1])), (hl1, .inr (4, [.ref hl2])), (hl2, .inl (gI g, 25, .inl (rM (mt))))] [0, 1, 2, 3, 4, 8, 9, 10] 14 rfl rfl [(X, .inr (6, [.ref f0, .ref ma, .ref f2, .ref cx, .ref hl0, .ref f5, .ref f6, .ref f7, .int (oI (bl)), .int (nI bg)])), (ma, .inl (gO g, 4, .inr (.inr (.inr (.inr (gm)))))), (mk, .inr (1, [.ref w, .ref ow, .int (nI n)])), (w, .inr (4, [.ref wa])), (wa, .inl (gI g, 5, .inl (rM (wt)))), (cx, .inr (0, [.ref cr])), (cr, .inr (4, [.ref ca])), (ca, .inl (gI g, 16, .inl (rO (ch))))] rfl rfl (by decide) (by decide)
  refine lv_aload_n hx hb dX6_held_15 rfl (lv_at hl 0 rfl) ?_
  refine va_get (D := g.1) (ci := 6) (v := .ref hl0) (C := RX6) (T := TX6) (N := 10) hx hb hts (fun _ h => (List.mem_cons_of_mem _ (List.mem_append_left _ (List.mem_append_left _ (List.mem_append_left _ (List.mem_append_left _ (List.mem_append_left _ (List.mem_append_right _ h)))))))) hown hK.1 hP 0 rfl rfl 4 (by decide) (hts _ (List.mem_cons_of_mem _ (List.mem_append_left _ (List.mem_append_left _ (List.mem_append_left _ (List.mem_append_left _ (List.mem_append_left _ (List.mem_append_left _ (List.mem_append_left _ (List.mem_of_getElem? (i := 0) rfl)))))))))) (fun _ h9 => h9) rfl dX6_held_16 ?_
  refine lv_aload_n hx hb dX6_held_19 rfl (lv_at hl 0 rfl) ?_
  refine va_get (D := g.1) (ci := 6) (v := .ref cx) (C := RX6) (T := TX6) (N := 10) hx hb hts (fun _ h => (List.mem_cons_of_mem _ (List.mem_append_left _ (List.mem_append_left _ (List.mem_append_left _ (List.mem_append_left _ (List.mem_append_left _ (List.mem_append_right _ h)))))))) hown hK.1 hP 0 rfl rfl 3 (by decide) (hts _ (List.mem_cons_of_mem _ (List.mem_append_left _ (List.mem_append_left _ (List.mem_append_left _ (List.mem_append_left _ (List.mem_append_left _ (List.mem_append_left _ (List.mem_append_left _ (List.mem_of_getElem? (i := 1) rfl)))))))))) (fun _ h9 => h9) rfl dX6_held_20 ?_
  refine im_Vv (k := 1) hx hb hml hown hts (c_X2_addAllImplied l g hl0 hl1 hl2 cx cr ca (mt) (ch) hc hm) gX6_held_X2_addAllImplied rfl (by decide +kernel) ⟨Nat.le_of_ble_eq_true rfl, Nat.le_of_ble_eq_true rfl⟩ ⟨Nat.zero_le _, Nat.zero_le _⟩ hK hP hD hS hA [11, 12, 13, 8, 9, 10] rfl (by decide) 11 2 rfl rfl rfl hl.1 (rest := []) (As := [.ref cx]) rfl (Nat.le_of_ble_eq_true rfl) dX6_held_23 (fun w1 H locs hpo hpd hS => ?_)
  obtain rfl := hpo
  obtain ⟨hP, hD⟩ := hpd [(X, .inr (6, [.ref f0, .ref ma, .ref f2, .ref cx, .ref hl0, .ref f5, .ref f6, .ref f7, .int (oI (bl)), .int (nI bg)])), (ma, .inl (gO g, 4, .inr (.inr (.inr (.inr (gm)))))), (mk, .inr (1, [.ref w, .ref ow, .int (nI n)])), (w, .inr (4, [.ref wa])), (wa, .inl (gI g, 5, .inl (rM (wt)))), (ow, .inr (2, [.ref rw])), (rw, .inr (4, [.ref oa])), (oa, .inl (gI g, 25, .inl (rM (mt)))), (cx, .inr (0, [.ref cr])), (cr, .inr (4, [.ref ca])), (ca, .inl (gI g, 16, .inl (rO (ch)))), (hl0, .inr (2, [.ref hl1])), (hl1, .inr (4, [.ref hl2])), (hl2, .inl (gI g, 25, .inl (rM (clo ch mt))))] [0, 1, 2, 3, 4, 5, 6, 7] 14 rfl rfl [(X, .inr (6, [.ref f0, .ref ma, .ref f2, .ref cx, .ref hl0, .ref f5, .ref f6, .ref f7, .int (oI (bl)), .int (nI bg)])), (ma, .inl (gO g, 4, .inr (.inr (.inr (.inr (gm)))))), (mk, .inr (1, [.ref w, .ref ow, .int (nI n)])), (w, .inr (4, [.ref wa])), (wa, .inl (gI g, 5, .inl (rM (wt)))), (ow, .inr (2, [.ref rw])), (rw, .inr (4, [.ref oa])), (oa, .inl (gI g, 25, .inl (rM (mt))))] rfl rfl (by decide) (by decide)
  refine lv_aload_n hx hb dX6_held_26 rfl (lv_at hl 0 rfl) ?_
  refine va_get (D := g.1) (ci := 6) (v := .ref hl0) (C := RX6) (T := TX6) (N := 10) hx hb hts (fun _ h => (List.mem_cons_of_mem _ (List.mem_append_left _ (List.mem_append_left _ (List.mem_append_left _ (List.mem_append_left _ (List.mem_append_left _ (List.mem_append_right _ h)))))))) hown hK.1 hP 0 rfl rfl 4 (by decide) (hts _ (List.mem_cons_of_mem _ (List.mem_append_left _ (List.mem_append_left _ (List.mem_append_left _ (List.mem_append_left _ (List.mem_append_left _ (List.mem_append_left _ (List.mem_append_left _ (List.mem_of_getElem? (i := 0) rfl)))))))))) (fun _ h9 => h9) rfl dX6_held_27 ?_
  refine im_V (k := 0) hx hb hml hown hts (c_X2_count l g hl0 hl1 hl2 (clo ch mt) (clo_ok hc hm)) gX6_held_X2_count rfl (by decide +kernel) ⟨Nat.le_of_ble_eq_true rfl, Nat.le_of_ble_eq_true rfl⟩ ⟨Nat.zero_le _, Nat.zero_le _⟩ hK hP hD hS hA [11, 12, 13] rfl (by decide) 11 2 rfl rfl rfl hl.1 (rest := []) (As := []) rfl (Nat.le_of_ble_eq_true rfl) dX6_held_30 (fun x1 w1 H locs hpo hpd hS => ?_)
  obtain ⟨hx1, rfl⟩ := hpo
  have hx1 : x1 = nI (cntN (clo ch mt) 25) := hx1
  subst hx1
  obtain ⟨hP, hD⟩ := hpd [(X, .inr (6, [.ref f0, .ref ma, .ref f2, .ref cx, .ref hl0, .ref f5, .ref f6, .ref f7, .int (oI (bl)), .int (nI bg)])), (ma, .inl (gO g, 4, .inr (.inr (.inr (.inr (gm)))))), (mk, .inr (1, [.ref w, .ref ow, .int (nI n)])), (w, .inr (4, [.ref wa])), (wa, .inl (gI g, 5, .inl (rM (wt)))), (ow, .inr (2, [.ref rw])), (rw, .inr (4, [.ref oa])), (oa, .inl (gI g, 25, .inl (rM (mt)))), (cx, .inr (0, [.ref cr])), (cr, .inr (4, [.ref ca])), (ca, .inl (gI g, 16, .inl (rO (ch)))), (hl0, .inr (2, [.ref hl1])), (hl1, .inr (4, [.ref hl2])), (hl2, .inl (gI g, 25, .inl (rM (clo ch mt))))] [0, 1, 2, 3, 4, 5, 6, 7, 8, 9, 10] 14 rfl rfl [(X, .inr (6, [.ref f0, .ref ma, .ref f2, .ref cx, .ref hl0, .ref f5, .ref f6, .ref f7, .int (oI (bl)), .int (nI bg)])), (ma, .inl (gO g, 4, .inr (.inr (.inr (.inr (gm)))))), (mk, .inr (1, [.ref w, .ref ow, .int (nI n)])), (w, .inr (4, [.ref wa])), (wa, .inl (gI g, 5, .inl (rM (wt)))), (ow, .inr (2, [.ref rw])), (rw, .inr (4, [.ref oa])), (oa, .inl (gI g, 25, .inl (rM (mt)))), (cx, .inr (0, [.ref cr])), (cr, .inr (4, [.ref ca])), (ca, .inl (gI g, 16, .inl (rO (ch))))] rfl rfl (by decide) (by decide)
  exact im_ret (w1 := [(X, .inr (6, [.ref f0, .ref ma, .ref f2, .ref cx, .ref hl0, .ref f5, .ref f6, .ref f7, .int (oI (bl)), .int (nI bg)])), (ma, .inl (gO g, 4, .inr (.inr (.inr (.inr (gm)))))), (mk, .inr (1, [.ref w, .ref ow, .int (nI n)])), (w, .inr (4, [.ref wa])), (wa, .inl (gI g, 5, .inl (rM (wt)))), (ow, .inr (2, [.ref rw])), (rw, .inr (4, [.ref oa])), (oa, .inl (gI g, 25, .inl (rM (mt)))), (cx, .inr (0, [.ref cr])), (cr, .inr (4, [.ref ca])), (ca, .inl (gI g, 16, .inl (rO (ch)))), (hl0, .inr (2, [.ref hl1])), (hl1, .inr (4, [.ref hl2])), (hl2, .inl (gI g, 25, .inl (rM (clo ch mt))))]) (v := nI (cntN (clo ch mt) 25)) hx hb hr hlocks hP hS rfl ⟨rfl, rfl⟩ dX6_held_33

set_option maxRecDepth 100000 in
set_option maxHeartbeats 4000000 in
theorem c_X6_holds (l : Launch) (g : GG) (X ma f0 f2 f5 f6 f7 : Nat) (bl : Option Nat) (bg : Nat) (gm : Nat → Option Nat) (mk w wa ow rw oa : Nat) (wt mt : Nat → Nat) (n k : Nat) (hk4 : k < 4) (hgk : gm k = some mk) (cx cr ca hl0 hl1 hl2 : Nat) (ch : Nat → Option Nat) (hd9 : Nat → Nat) (hc : chOk ch) (hm : mOk mt) (f t d : Nat) (hn : n ≤ 5) (hf : f < n) (ht : t < n) (hft : f ≠ t) (hd : d < 4) : IM l yX6_holds wsX6_holds 6 g [.ref X, .int (nI k), .int (nI f), .int (nI t), .int (nI d)] [(X, .inr (6, [.ref f0, .ref ma, .ref f2, .ref cx, .ref hl0, .ref f5, .ref f6, .ref f7, .int (oI (bl)), .int (nI bg)])), (ma, .inl (gO g, 4, .inr (.inr (.inr (.inr (gm)))))), (mk, .inr (1, [.ref w, .ref ow, .int (nI n)])), (w, .inr (4, [.ref wa])), (wa, .inl (gI g, 5, .inl (rM (wt)))), (ow, .inr (2, [.ref rw])), (rw, .inr (4, [.ref oa])), (oa, .inl (gI g, 25, .inl (rM (mt)))), (cx, .inr (0, [.ref cr])), (cr, .inr (4, [.ref ca])), (ca, .inl (gI g, 16, .inl (rO (ch)))), (hl0, .inr (2, [.ref hl1])), (hl1, .inr (4, [.ref hl2])), (hl2, .inl (gI g, 25, .inl (rM (hd9))))] (fun x1 w1 => x1 = b2i ((clo ch mt (f * 5 + t)).testBit d) ∧ w1 = [(X, .inr (6, [.ref f0, .ref ma, .ref f2, .ref cx, .ref hl0, .ref f5, .ref f6, .ref f7, .int (oI (bl)), .int (nI bg)])), (ma, .inl (gO g, 4, .inr (.inr (.inr (.inr (gm)))))), (mk, .inr (1, [.ref w, .ref ow, .int (nI n)])), (w, .inr (4, [.ref wa])), (wa, .inl (gI g, 5, .inl (rM (wt)))), (ow, .inr (2, [.ref rw])), (rw, .inr (4, [.ref oa])), (oa, .inl (gI g, 25, .inl (rM (mt)))), (cx, .inr (0, [.ref cr])), (cr, .inr (4, [.ref ca])), (ca, .inl (gI g, 16, .inl (rO (ch)))), (hl0, .inr (2, [.ref hl1])), (hl1, .inr (4, [.ref hl2])), (hl2, .inl (gI g, 25, .inl (rM (clo ch mt))))]) := by
  refine fun sz => im_body (Qc := fun A => va_Qi _ (iB g _) A) (cc := cX6_holds) (maxL := 6) (ret := (some .boolean)) (by decide) rfl (Nat.le_of_ble_eq_true rfl) ?_ sz
  intro pg ev s0 mi below meth cd A hx hb hr hml hts hown hlocks hK hA H hP hD hS ls hl
  have hl : lv_has ls 6 [(0, .ref X), (1, .int (nI k)), (2, .int (nI f)), (3, .int (nI t)), (4, .int (nI d))] := hl
  refine lv_aload_n hx hb dX6_holds_0 rfl (lv_at hl 0 rfl) ?_
  refine lv_iload_n hx hb dX6_holds_1 rfl (lv_at hl 1 rfl) ?_
  refine im_Vr (k := 1) hx hb hml hown hts (c_X6_mapAt l g X ma f0 f2 cx hl0 f5 f6 f7 (bl) (bg) (gm) k mk hk4 hgk) gX6_holds_X6_mapAt rfl (by decide +kernel) ⟨Nat.le_of_ble_eq_true rfl, Nat.le_of_ble_eq_true rfl⟩ ⟨Nat.zero_le _, Nat.zero_le _⟩ hK hP hD hS hA [0, 1] rfl (by decide) 0 6 rfl rfl rfl hl.1 (rest := []) (As := [.int (nI k)]) rfl (Nat.le_of_ble_eq_true rfl) dX6_holds_2 (fun x1 w1 H locs hpo hpd hS => ?_)
  obtain ⟨hx1, rfl⟩ := hpo
  have hx1 : mk = x1 := hx1.symm
  subst hx1
  obtain ⟨hP, hD⟩ := hpd [(X, .inr (6, [.ref f0, .ref ma, .ref f2, .ref cx, .ref hl0, .ref f5, .ref f6, .ref f7, .int (oI (bl)), .int (nI bg)])), (ma, .inl (gO g, 4, .inr (.inr (.inr (.inr (gm)))))), (mk, .inr (1, [.ref w, .ref ow, .int (nI n)])), (w, .inr (4, [.ref wa])), (wa, .inl (gI g, 5, .inl (rM (wt)))), (ow, .inr (2, [.ref rw])), (rw, .inr (4, [.ref oa])), (oa, .inl (gI g, 25, .inl (rM (mt)))), (cx, .inr (0, [.ref cr])), (cr, .inr (4, [.ref ca])), (ca, .inl (gI g, 16, .inl (rO (ch)))), (hl0, .inr (2, [.ref hl1])), (hl1, .inr (4, [.ref hl2])), (hl2, .inl (gI g, 25, .inl (rM (hd9))))] [2, 3, 4, 5, 6, 7, 8, 9, 10, 11, 12, 13] 14 rfl rfl [(mk, .inr (1, [.ref w, .ref ow, .int (nI n)])), (w, .inr (4, [.ref wa])), (wa, .inl (gI g, 5, .inl (rM (wt)))), (ow, .inr (2, [.ref rw])), (rw, .inr (4, [.ref oa])), (oa, .inl (gI g, 25, .inl (rM (mt)))), (cx, .inr (0, [.ref cr])), (cr, .inr (4, [.ref ca])), (ca, .inl (gI g, 16, .inl (rO (ch)))), (hl0, .inr (2, [.ref hl1])), (hl1, .inr (4, [.ref hl2])), (hl2, .inl (gI g, 25, .inl (rM (hd9))))] rfl rfl (by decide) (by decide)
  refine lv_astore (lv' := [(5, .ref mk), (0, .ref X), (1, .int (nI k)), (2, .int (nI f)), (3, .int (nI t)), (4, .int (nI d))]) hx hb dX6_holds_5 hl (by decide) rfl (fun ls hl => ?_)
  refine lv_aload hx hb dX6_holds_7 (lv_at hl 0 rfl) ?_
  refine lv_iload_n hx hb dX6_holds_9 rfl (lv_at hl 3 rfl) ?_
  refine lv_iload_n hx hb dX6_holds_10 rfl (lv_at hl 4 rfl) ?_
  refine lv_iload hx hb dX6_holds_11 (lv_at hl 5 rfl) ?_
  refine im_Sv (k := 4) hx hb hml hown hts (c_X6_requireLink l g mk w ow (n) (f) (t) (d) (by omega) (by omega) (by omega) (by omega) (by omega)) gX6_holds_X6_requireLink rfl (by decide +kernel) ⟨Nat.le_of_ble_eq_true rfl, Nat.le_of_ble_eq_true rfl⟩ ⟨Nat.zero_le _, Nat.zero_le _⟩ hK hP hD hS hA [2] rfl (by decide) rfl hl.1 (rest := []) (As := [.ref mk, .int (nI f), .int (nI t), .int (nI d)]) rfl (Nat.le_of_ble_eq_true rfl) dX6_holds_13 (fun w1 H locs hpo hpd hS => ?_)
  obtain rfl := hpo
  obtain ⟨hP, hD⟩ := hpd [(X, .inr (6, [.ref f0, .ref ma, .ref f2, .ref cx, .ref hl0, .ref f5, .ref f6, .ref f7, .int (oI (bl)), .int (nI bg)])), (ma, .inl (gO g, 4, .inr (.inr (.inr (.inr (gm)))))), (mk, .inr (1, [.ref w, .ref ow, .int (nI n)])), (w, .inr (4, [.ref wa])), (wa, .inl (gI g, 5, .inl (rM (wt)))), (ow, .inr (2, [.ref rw])), (rw, .inr (4, [.ref oa])), (oa, .inl (gI g, 25, .inl (rM (mt)))), (cx, .inr (0, [.ref cr])), (cr, .inr (4, [.ref ca])), (ca, .inl (gI g, 16, .inl (rO (ch)))), (hl0, .inr (2, [.ref hl1])), (hl1, .inr (4, [.ref hl2])), (hl2, .inl (gI g, 25, .inl (rM (hd9))))] [0, 1, 3, 4, 5, 6, 7, 8, 9, 10, 11, 12, 13] 14 rfl rfl [(X, .inr (6, [.ref f0, .ref ma, .ref f2, .ref cx, .ref hl0, .ref f5, .ref f6, .ref f7, .int (oI (bl)), .int (nI bg)])), (ma, .inl (gO g, 4, .inr (.inr (.inr (.inr (gm)))))), (w, .inr (4, [.ref wa])), (wa, .inl (gI g, 5, .inl (rM (wt)))), (ow, .inr (2, [.ref rw])), (rw, .inr (4, [.ref oa])), (oa, .inl (gI g, 25, .inl (rM (mt)))), (cx, .inr (0, [.ref cr])), (cr, .inr (4, [.ref ca])), (ca, .inl (gI g, 16, .inl (rO (ch)))), (hl0, .inr (2, [.ref hl1])), (hl1, .inr (4, [.ref hl2])), (hl2, .inl (gI g, 25, .inl (rM (hd9))))] rfl rfl (by decide) (by decide)
  refine lv_aload_n hx hb dX6_holds_16 rfl (lv_at hl 1 rfl) ?_
  refine va_get (D := g.1) (ci := 6) (v := .ref hl0) (C := RX6) (T := TX6) (N := 10) hx hb hts (fun _ h => (List.mem_cons_of_mem _ (List.mem_append_left _ (List.mem_append_left _ (List.mem_append_left _ (List.mem_append_left _ (List.mem_append_left _ (List.mem_append_left _ (List.mem_append_right _ h))))))))) hown hK.1 hP 0 rfl rfl 4 (by decide) (hts _ (List.mem_cons_of_mem _ (List.mem_append_left _ (List.mem_append_left _ (List.mem_append_left _ (List.mem_append_left _ (List.mem_append_left _ (List.mem_append_left _ (List.mem_append_left _ (List.mem_append_left _ (List.mem_of_getElem? (i := 0) rfl))))))))))) (fun _ h9 => h9) rfl dX6_holds_17 ?_
  refine lv_aload hx hb dX6_holds_20 (lv_at hl 0 rfl) ?_
  refine va_getN (D := g.1) (ci := 1) (v := .ref ow) (C := RX1) (T := TX1) (N := 3) hx hb hts (fun _ h => (List.mem_cons_of_mem _ (List.mem_append_left _ (List.mem_append_left _ (List.mem_append_left _ (List.mem_append_left _ (List.mem_append_left _ (List.mem_append_right _ h)))))))) hown hK.1 hP 2 rfl rfl 1 (by decide) (va_Nw.use rfl hK.2.1.2.2.1) (fun _ h9 => h9) rfl dX6_holds_22 ?_
  refine im_Vv (k := 1) hx hb hml hown hts (c_X2_become l g hl0 hl1 hl2 ow rw oa (hd9) (mt)) gX6_holds_X2_become rfl (by decide +kernel) ⟨Nat.le_of_ble_eq_true rfl, Nat.le_of_ble_eq_true rfl⟩ ⟨Nat.zero_le _, Nat.zero_le _⟩ hK hP hD hS hA [11, 12, 13, 5, 6, 7] rfl (by decide) 11 2 rfl rfl rfl hl.1 (rest := []) (As := [.ref ow]) rfl (Nat.le_of_ble_eq_true rfl) dX6_holds_25 (fun w1 H locs hpo hpd hS => ?_)
  obtain rfl := hpo
  obtain ⟨hP, hD⟩ := hpd [(X, .inr (6, [.ref f0, .ref ma, .ref f2, .ref cx, .ref hl0, .ref f5, .ref f6, .ref f7, .int (oI (bl)), .int (nI bg)])), (ma, .inl (gO g, 4, .inr (.inr (.inr (.inr (gm)))))), (mk, .inr (1, [.ref w, .ref ow, .int (nI n)])), (w, .inr (4, [.ref wa])), (wa, .inl (gI g, 5, .inl (rM (wt)))), (ow, .inr (2, [.ref rw])), (rw, .inr (4, [.ref oa])), (oa, .inl (gI g, 25, .inl (rM (mt)))), (cx, .inr (0, [.ref cr])), (cr, .inr (4, [.ref ca])), (ca, .inl (gI g, 16, .inl (rO (ch)))), (hl0, .inr (2, [.ref hl1])), (hl1, .inr (4, [.ref hl2])), (hl2, .inl (gI g, 25, .inl (rM (mt))))] [0, 1, 2, 3, 4, 8, 9, 10] 14 rfl rfl [(X, .inr (6, [.ref f0, .ref ma, .ref f2, .ref cx, .ref hl0, .ref f5, .ref f6, .ref f7, .int (oI (bl)), .int (nI bg)])), (ma, .inl (gO g, 4, .inr (.inr (.inr (.inr (gm)))))), (mk, .inr (1, [.ref w, .ref ow, .int (nI n)])), (w, .inr (4, [.ref wa])), (wa, .inl (gI g, 5, .inl (rM (wt)))), (cx, .inr (0, [.ref cr])), (cr, .inr (4, [.ref ca])), (ca, .inl (gI g, 16, .inl (rO (ch))))] rfl rfl (by decide) (by decide)
  refine lv_aload_n hx hb dX6_holds_28 rfl (lv_at hl 1 rfl) ?_
  refine va_get (D := g.1) (ci := 6) (v := .ref hl0) (C := RX6) (T := TX6) (N := 10) hx hb hts (fun _ h => (List.mem_cons_of_mem _ (List.mem_append_left _ (List.mem_append_left _ (List.mem_append_left _ (List.mem_append_left _ (List.mem_append_left _ (List.mem_append_left _ (List.mem_append_right _ h))))))))) hown hK.1 hP 0 rfl rfl 4 (by decide) (hts _ (List.mem_cons_of_mem _ (List.mem_append_left _ (List.mem_append_left _ (List.mem_append_left _ (List.mem_append_left _ (List.mem_append_left _ (List.mem_append_left _ (List.mem_append_left _ (List.mem_append_left _ (List.mem_of_getElem? (i := 0) rfl))))))))))) (fun _ h9 => h9) rfl dX6_holds_29 ?_
  refine lv_aload_n hx hb dX6_holds_32 rfl (lv_at hl 1 rfl) ?_
  refine va_get (D := g.1) (ci := 6) (v := .ref cx) (C := RX6) (T := TX6) (N := 10) hx hb hts (fun _ h => (List.mem_cons_of_mem _ (List.mem_append_left _ (List.mem_append_left _ (List.mem_append_left _ (List.mem_append_left _ (List.mem_append_left _ (List.mem_append_left _ (List.mem_append_right _ h))))))))) hown hK.1 hP 0 rfl rfl 3 (by decide) (hts _ (List.mem_cons_of_mem _ (List.mem_append_left _ (List.mem_append_left _ (List.mem_append_left _ (List.mem_append_left _ (List.mem_append_left _ (List.mem_append_left _ (List.mem_append_left _ (List.mem_append_left _ (List.mem_of_getElem? (i := 1) rfl))))))))))) (fun _ h9 => h9) rfl dX6_holds_33 ?_
  refine im_Vv (k := 1) hx hb hml hown hts (c_X2_addAllImplied l g hl0 hl1 hl2 cx cr ca (mt) (ch) hc hm) gX6_holds_X2_addAllImplied rfl (by decide +kernel) ⟨Nat.le_of_ble_eq_true rfl, Nat.le_of_ble_eq_true rfl⟩ ⟨Nat.zero_le _, Nat.zero_le _⟩ hK hP hD hS hA [11, 12, 13, 8, 9, 10] rfl (by decide) 11 2 rfl rfl rfl hl.1 (rest := []) (As := [.ref cx]) rfl (Nat.le_of_ble_eq_true rfl) dX6_holds_36 (fun w1 H locs hpo hpd hS => ?_)
  obtain rfl := hpo
  obtain ⟨hP, hD⟩ := hpd [(X, .inr (6, [.ref f0, .ref ma, .ref f2, .ref cx, .ref hl0, .ref f5, .ref f6, .ref f7, .int (oI (bl)), .int (nI bg)])), (ma, .inl (gO g, 4, .inr (.inr (.inr (.inr (gm)))))), (mk, .inr (1, [.ref w, .ref ow, .int (nI n)])), (w, .inr (4, [.ref wa])), (wa, .inl (gI g, 5, .inl (rM (wt)))), (ow, .inr (2, [.ref rw])), (rw, .inr (4, [.ref oa])), (oa, .inl (gI g, 25, .inl (rM (mt)))), (cx, .inr (0, [.ref cr])), (cr, .inr (4, [.ref ca])), (ca, .inl (gI g, 16, .inl (rO (ch)))), (hl0, .inr (2, [.ref hl1])), (hl1, .inr (4, [.ref hl2])), (hl2, .inl (gI g, 25, .inl (rM (clo ch mt))))] [0, 1, 2, 3, 4, 5, 6, 7] 14 rfl rfl [(X, .inr (6, [.ref f0, .ref ma, .ref f2, .ref cx, .ref hl0, .ref f5, .ref f6, .ref f7, .int (oI (bl)), .int (nI bg)])), (ma, .inl (gO g, 4, .inr (.inr (.inr (.inr (gm)))))), (mk, .inr (1, [.ref w, .ref ow, .int (nI n)])), (w, .inr (4, [.ref wa])), (wa, .inl (gI g, 5, .inl (rM (wt)))), (ow, .inr (2, [.ref rw])), (rw, .inr (4, [.ref oa])), (oa, .inl (gI g, 25, .inl (rM (mt))))] rfl rfl (by decide) (by decide)
  refine lv_aload_n hx hb dX6_holds_39 rfl (lv_at hl 1 rfl) ?_
  refine va_get (D := g.1) (ci := 6) (v := .ref hl0) (C := RX6) (T := TX6) (N := 10) hx hb hts (fun _ h => (List.mem_cons_of_mem _ (List.mem_append_left _ (List.mem_append_left _ (List.mem_append_left _ (List.mem_append_left _ (List.mem_append_left _ (List.mem_append_left _ (List.mem_append_right _ h))))))))) hown hK.1 hP 0 rfl rfl 4 (by decide) (hts _ (List.mem_cons_of_mem _ (List.mem_append_left _ (List.mem_append_left _ (List.mem_append_left _ (List.mem_append_left _ (List.mem_append_left _ (List.mem_append_left _ (List.mem_append_left _ (List.mem_append_left _ (List.mem_of_getElem? (i := 0) rfl))))))))))) (fun _ h9 => h9) rfl dX6_holds_40 ?_
  refine lv_iload_n hx hb dX6_holds_43 rfl (lv_at hl 3 rfl) ?_
  refine lv_iload_n hx hb dX6_holds_44 rfl (lv_at hl 4 rfl) ?_
  refine lv_iload hx hb dX6_holds_45 (lv_at hl 5 rfl) ?_
  refine im_V (k := 3) hx hb hml hown hts (c_X2_contains l g hl0 hl1 hl2 (clo ch mt) (f) (t) (d) (clo_ok hc hm) (by omega) (by omega) (by omega)) gX6_holds_X2_contains rfl (by decide +kernel) ⟨Nat.le_of_ble_eq_true rfl, Nat.le_of_ble_eq_true rfl⟩ ⟨Nat.zero_le _, Nat.zero_le _⟩ hK hP hD hS hA [11, 12, 13] rfl (by decide) 11 2 rfl rfl rfl hl.1 (rest := []) (As := [.int (nI f), .int (nI t), .int (nI d)]) rfl (Nat.le_of_ble_eq_true rfl) dX6_holds_47 (fun x1 w1 H locs hpo hpd hS => ?_)
  obtain ⟨hx1, rfl⟩ := hpo
  have hx1 : x1 = b2i (((clo ch mt) (f * 5 + t)).testBit d) := hx1
  subst hx1
  obtain ⟨hP, hD⟩ := hpd [(X, .inr (6, [.ref f0, .ref ma, .ref f2, .ref cx, .ref hl0, .ref f5, .ref f6, .ref f7, .int (oI (bl)), .int (nI bg)])), (ma, .inl (gO g, 4, .inr (.inr (.inr (.inr (gm)))))), (mk, .inr (1, [.ref w, .ref ow, .int (nI n)])), (w, .inr (4, [.ref wa])), (wa, .inl (gI g, 5, .inl (rM (wt)))), (ow, .inr (2, [.ref rw])), (rw, .inr (4, [.ref oa])), (oa, .inl (gI g, 25, .inl (rM (mt)))), (cx, .inr (0, [.ref cr])), (cr, .inr (4, [.ref ca])), (ca, .inl (gI g, 16, .inl (rO (ch)))), (hl0, .inr (2, [.ref hl1])), (hl1, .inr (4, [.ref hl2])), (hl2, .inl (gI g, 25, .inl (rM (clo ch mt))))] [0, 1, 2, 3, 4, 5, 6, 7, 8, 9, 10] 14 rfl rfl [(X, .inr (6, [.ref f0, .ref ma, .ref f2, .ref cx, .ref hl0, .ref f5, .ref f6, .ref f7, .int (oI (bl)), .int (nI bg)])), (ma, .inl (gO g, 4, .inr (.inr (.inr (.inr (gm)))))), (mk, .inr (1, [.ref w, .ref ow, .int (nI n)])), (w, .inr (4, [.ref wa])), (wa, .inl (gI g, 5, .inl (rM (wt)))), (ow, .inr (2, [.ref rw])), (rw, .inr (4, [.ref oa])), (oa, .inl (gI g, 25, .inl (rM (mt)))), (cx, .inr (0, [.ref cr])), (cr, .inr (4, [.ref ca])), (ca, .inl (gI g, 16, .inl (rO (ch))))] rfl rfl (by decide) (by decide)
  exact im_retz (w1 := [(X, .inr (6, [.ref f0, .ref ma, .ref f2, .ref cx, .ref hl0, .ref f5, .ref f6, .ref f7, .int (oI (bl)), .int (nI bg)])), (ma, .inl (gO g, 4, .inr (.inr (.inr (.inr (gm)))))), (mk, .inr (1, [.ref w, .ref ow, .int (nI n)])), (w, .inr (4, [.ref wa])), (wa, .inl (gI g, 5, .inl (rM (wt)))), (ow, .inr (2, [.ref rw])), (rw, .inr (4, [.ref oa])), (oa, .inl (gI g, 25, .inl (rM (mt)))), (cx, .inr (0, [.ref cr])), (cr, .inr (4, [.ref ca])), (ca, .inl (gI g, 16, .inl (rO (ch)))), (hl0, .inr (2, [.ref hl1])), (hl1, .inr (4, [.ref hl2])), (hl2, .inl (gI g, 25, .inl (rM (clo ch mt))))]) (v := b2i (((clo ch mt) (f * 5 + t)).testBit d)) hx hb hr hlocks hP hS rfl ⟨rfl, rfl⟩ (by first | exact b2i_nar _ | rfl) dX6_holds_50

set_option maxRecDepth 100000 in
set_option maxHeartbeats 4000000 in
theorem c_X6_synonyms (l : Launch) (g : GG) (X ma f0 f3 f4 f5 f6 f7 : Nat) (bl : Option Nat) (bg : Nat) (tx tr0 ta0 : Nat) (gr : Nat → Nat) (o1 o2 : Nat) (hg : grOk gr) (h1 : o1 < 32) (h2 : o2 < 32) : IM l yX6_synonyms wsX6_synonyms 3 g [.ref X, .int (nI o1), .int (nI o2)] [(X, .inr (6, [.ref f0, .ref ma, .ref tx, .ref f3, .ref f4, .ref f5, .ref f6, .ref f7, .int (oI (bl)), .int (nI bg)])), (tx, .inr (5, [.ref tr0])), (tr0, .inr (4, [.ref ta0])), (ta0, .inl (gI g, 32, .inl (rM (gr))))] (fun x1 w1 => x1 = b2i (decide (gr o1 = gr o2)) ∧ w1 = [(X, .inr (6, [.ref f0, .ref ma, .ref tx, .ref f3, .ref f4, .ref f5, .ref f6, .ref f7, .int (oI (bl)), .int (nI bg)])), (tx, .inr (5, [.ref tr0])), (tr0, .inr (4, [.ref ta0])), (ta0, .inl (gI g, 32, .inl (rM (jn gr (gr o1) (gr o2) 32))))]) := by
  refine fun sz => im_body (Qc := fun A => va_Qi _ (iB g _) A) (cc := cX6_synonyms) (maxL := 4) (ret := (some .boolean)) (by decide) rfl (Nat.le_of_ble_eq_true rfl) ?_ sz
  intro pg ev s0 mi below meth cd A hx hb hr hml hts hown hlocks hK hA H hP hD hS ls hl
  have hl : lv_has ls 4 [(0, .ref X), (1, .int (nI o1)), (2, .int (nI o2))] := hl
  refine lv_iload_n hx hb dX6_synonyms_0 rfl (lv_at hl 1 rfl) ?_
  refine im_Sv (k := 1) hx hb hml hown hts (c_X6_requireWord l g (o1) (by omega)) gX6_synonyms_X6_requireWord rfl (by decide +kernel) ⟨Nat.le_of_ble_eq_true rfl, Nat.le_of_ble_eq_true rfl⟩ ⟨Nat.zero_le _, Nat.zero_le _⟩ hK hP hD hS hA [] rfl (by decide) rfl hl.1 (rest := []) (As := [.int (nI o1)]) rfl (Nat.le_of_ble_eq_true rfl) dX6_synonyms_1 (fun w1 H locs hpo hpd hS => ?_)
  obtain rfl := hpo
  obtain ⟨hP, hD⟩ := hpd [(X, .inr (6, [.ref f0, .ref ma, .ref tx, .ref f3, .ref f4, .ref f5, .ref f6, .ref f7, .int (oI (bl)), .int (nI bg)])), (tx, .inr (5, [.ref tr0])), (tr0, .inr (4, [.ref ta0])), (ta0, .inl (gI g, 32, .inl (rM (gr))))] [0, 1, 2, 3] 4 rfl rfl [(X, .inr (6, [.ref f0, .ref ma, .ref tx, .ref f3, .ref f4, .ref f5, .ref f6, .ref f7, .int (oI (bl)), .int (nI bg)])), (tx, .inr (5, [.ref tr0])), (tr0, .inr (4, [.ref ta0])), (ta0, .inl (gI g, 32, .inl (rM (gr))))] rfl rfl (by decide) (by decide)
  refine lv_iload_n hx hb dX6_synonyms_4 rfl (lv_at hl 2 rfl) ?_
  refine im_Sv (k := 1) hx hb hml hown hts (c_X6_requireWord l g (o2) (by omega)) gX6_synonyms_X6_requireWord rfl (by decide +kernel) ⟨Nat.le_of_ble_eq_true rfl, Nat.le_of_ble_eq_true rfl⟩ ⟨Nat.zero_le _, Nat.zero_le _⟩ hK hP hD hS hA [] rfl (by decide) rfl hl.1 (rest := []) (As := [.int (nI o2)]) rfl (Nat.le_of_ble_eq_true rfl) dX6_synonyms_5 (fun w1 H locs hpo hpd hS => ?_)
  obtain rfl := hpo
  obtain ⟨hP, hD⟩ := hpd [(X, .inr (6, [.ref f0, .ref ma, .ref tx, .ref f3, .ref f4, .ref f5, .ref f6, .ref f7, .int (oI (bl)), .int (nI bg)])), (tx, .inr (5, [.ref tr0])), (tr0, .inr (4, [.ref ta0])), (ta0, .inl (gI g, 32, .inl (rM (gr))))] [0, 1, 2, 3] 4 rfl rfl [(X, .inr (6, [.ref f0, .ref ma, .ref tx, .ref f3, .ref f4, .ref f5, .ref f6, .ref f7, .int (oI (bl)), .int (nI bg)])), (tx, .inr (5, [.ref tr0])), (tr0, .inr (4, [.ref ta0])), (ta0, .inl (gI g, 32, .inl (rM (gr))))] rfl rfl (by decide) (by decide)
  refine lv_aload_n hx hb dX6_synonyms_8 rfl (lv_at hl 0 rfl) ?_
  refine va_get (D := g.1) (ci := 6) (v := .ref tx) (C := RX6) (T := TX6) (N := 10) hx hb hts (fun _ h => (List.mem_cons_of_mem _ (List.mem_append_left _ (List.mem_append_left _ (List.mem_append_left _ (List.mem_append_right _ h)))))) hown hK.1 hP 0 rfl rfl 2 (by decide) (hts _ (List.mem_cons_of_mem _ (List.mem_append_left _ (List.mem_append_left _ (List.mem_append_left _ (List.mem_append_left _ (List.mem_append_left _ (List.mem_of_getElem? (i := 0) rfl)))))))) (fun _ h9 => h9) rfl dX6_synonyms_9 ?_
  refine lv_iload_n hx hb dX6_synonyms_12 rfl (lv_at hl 1 rfl) ?_
  refine lv_iload_n hx hb dX6_synonyms_13 rfl (lv_at hl 2 rfl) ?_
  refine im_V (k := 2) hx hb hml hown hts (c_X5_alike l g tx tr0 ta0 (gr) (o1) (o2) hg (by omega) (by omega)) gX6_synonyms_X5_alike rfl (by decide +kernel) ⟨Nat.le_of_ble_eq_true rfl, Nat.le_of_ble_eq_true rfl⟩ ⟨Nat.zero_le _, Nat.zero_le _⟩ hK hP hD hS hA [1, 2, 3] rfl (by decide) 1 5 rfl rfl rfl hl.1 (rest := []) (As := [.int (nI o1), .int (nI o2)]) rfl (Nat.le_of_ble_eq_true rfl) dX6_synonyms_14 (fun x1 w1 H locs hpo hpd hS => ?_)
  obtain ⟨hx1, rfl⟩ := hpo
  have hx1 : x1 = b2i (decide (gr o1 = gr o2)) := hx1
  subst hx1
  obtain ⟨hP, hD⟩ := hpd [(X, .inr (6, [.ref f0, .ref ma, .ref tx, .ref f3, .ref f4, .ref f5, .ref f6, .ref f7, .int (oI (bl)), .int (nI bg)])), (tx, .inr (5, [.ref tr0])), (tr0, .inr (4, [.ref ta0])), (ta0, .inl (gI g, 32, .inl (rM (gr))))] [0] 4 rfl rfl [(X, .inr (6, [.ref f0, .ref ma, .ref tx, .ref f3, .ref f4, .ref f5, .ref f6, .ref f7, .int (oI (bl)), .int (nI bg)]))] rfl rfl (by decide) (by decide)
  refine lv_istore_n (lv' := [(3, .int (b2i (decide (gr o1 = gr o2)))), (0, .ref X), (1, .int (nI o1)), (2, .int (nI o2))]) hx hb dX6_synonyms_17 rfl hl (by decide) rfl (fun ls hl => ?_)
  refine lv_aload_n hx hb dX6_synonyms_18 rfl (lv_at hl 1 rfl) ?_
  refine va_get (D := g.1) (ci := 6) (v := .ref tx) (C := RX6) (T := TX6) (N := 10) hx hb hts (fun _ h => (List.mem_cons_of_mem _ (List.mem_append_left _ (List.mem_append_left _ (List.mem_append_left _ (List.mem_append_right _ h)))))) hown hK.1 hP 0 rfl rfl 2 (by decide) (hts _ (List.mem_cons_of_mem _ (List.mem_append_left _ (List.mem_append_left _ (List.mem_append_left _ (List.mem_append_left _ (List.mem_append_left _ (List.mem_of_getElem? (i := 0) rfl)))))))) (fun _ h9 => h9) rfl dX6_synonyms_19 ?_
  refine lv_iload_n hx hb dX6_synonyms_22 rfl (lv_at hl 2 rfl) ?_
  refine lv_iload_n hx hb dX6_synonyms_23 rfl (lv_at hl 3 rfl) ?_
  refine im_Vv (k := 2) hx hb hml hown hts (c_X5_join l g tx tr0 ta0 (gr) (o1) (o2) hg (by omega) (by omega)) gX6_synonyms_X5_join rfl (by decide +kernel) ⟨Nat.le_of_ble_eq_true rfl, Nat.le_of_ble_eq_true rfl⟩ ⟨Nat.zero_le _, Nat.zero_le _⟩ hK hP hD hS hA [1, 2, 3] rfl (by decide) 1 5 rfl rfl rfl hl.1 (rest := []) (As := [.int (nI o1), .int (nI o2)]) rfl (Nat.le_of_ble_eq_true rfl) dX6_synonyms_24 (fun w1 H locs hpo hpd hS => ?_)
  obtain rfl := hpo
  obtain ⟨hP, hD⟩ := hpd [(X, .inr (6, [.ref f0, .ref ma, .ref tx, .ref f3, .ref f4, .ref f5, .ref f6, .ref f7, .int (oI (bl)), .int (nI bg)])), (tx, .inr (5, [.ref tr0])), (tr0, .inr (4, [.ref ta0])), (ta0, .inl (gI g, 32, .inl (rM (jn gr (gr o1) (gr o2) 32))))] [0] 4 rfl rfl [(X, .inr (6, [.ref f0, .ref ma, .ref tx, .ref f3, .ref f4, .ref f5, .ref f6, .ref f7, .int (oI (bl)), .int (nI bg)]))] rfl rfl (by decide) (by decide)
  refine lv_iload_n hx hb dX6_synonyms_27 rfl (lv_at hl 0 rfl) ?_
  exact im_retz (w1 := [(X, .inr (6, [.ref f0, .ref ma, .ref tx, .ref f3, .ref f4, .ref f5, .ref f6, .ref f7, .int (oI (bl)), .int (nI bg)])), (tx, .inr (5, [.ref tr0])), (tr0, .inr (4, [.ref ta0])), (ta0, .inl (gI g, 32, .inl (rM (jn gr (gr o1) (gr o2) 32))))]) (v := b2i (decide (gr o1 = gr o2))) hx hb hr hlocks hP hS rfl ⟨rfl, rfl⟩ (by first | exact b2i_nar _ | rfl) dX6_synonyms_28

set_option maxRecDepth 100000 in
set_option maxHeartbeats 4000000 in
theorem c_X6_chain (l : Launch) (g : GG) (X ma f0 f2 f4 f5 f6 f7 : Nat) (bl : Option Nat) (bg : Nat) (cx cr ca : Nat) (ch : Nat → Option Nat) (f t : Nat) (hf : f < 4) (ht : t < 4) (d : Nat) (hd : d < 4) : IM l yX6_chain wsX6_chain 3 g [.ref X, .int (nI f), .int (nI t), .int (nI d)] [(X, .inr (6, [.ref f0, .ref ma, .ref f2, .ref cx, .ref f4, .ref f5, .ref f6, .ref f7, .int (oI (bl)), .int (nI bg)])), (cx, .inr (0, [.ref cr])), (cr, .inr (4, [.ref ca])), (ca, .inl (gI g, 16, .inl (rO (ch))))] (fun x1 w1 => x1 = oI (ch (f * 4 + t)) ∧ w1 = [(X, .inr (6, [.ref f0, .ref ma, .ref f2, .ref cx, .ref f4, .ref f5, .ref f6, .ref f7, .int (oI (bl)), .int (nI bg)])), (cx, .inr (0, [.ref cr])), (cr, .inr (4, [.ref ca])), (ca, .inl (gI g, 16, .inl (rO (va_up ch (f * 4 + t) (some d)))))]) := by
  refine fun sz => im_body (Qc := fun A => va_Qi _ (iB g _) A) (cc := cX6_chain) (maxL := 4) (ret := (some .int)) (by decide) rfl (Nat.le_of_ble_eq_true rfl) ?_ sz
  intro pg ev s0 mi below meth cd A hx hb hr hml hts hown hlocks hK hA H hP hD hS ls hl
  have hl : lv_has ls 4 [(0, .ref X), (1, .int (nI f)), (2, .int (nI t)), (3, .int (nI d))] := hl
  refine lv_iload_n hx hb dX6_chain_0 rfl (lv_at hl 1 rfl) ?_
  refine im_Sv (k := 1) hx hb hml hown hts (c_X6_requireKind l g (f) (by omega)) gX6_chain_X6_requireKind rfl (by decide +kernel) ⟨Nat.le_of_ble_eq_true rfl, Nat.le_of_ble_eq_true rfl⟩ ⟨Nat.zero_le _, Nat.zero_le _⟩ hK hP hD hS hA [] rfl (by decide) rfl hl.1 (rest := []) (As := [.int (nI f)]) rfl (Nat.le_of_ble_eq_true rfl) dX6_chain_1 (fun w1 H locs hpo hpd hS => ?_)
  obtain rfl := hpo
  obtain ⟨hP, hD⟩ := hpd [(X, .inr (6, [.ref f0, .ref ma, .ref f2, .ref cx, .ref f4, .ref f5, .ref f6, .ref f7, .int (oI (bl)), .int (nI bg)])), (cx, .inr (0, [.ref cr])), (cr, .inr (4, [.ref ca])), (ca, .inl (gI g, 16, .inl (rO (ch))))] [0, 1, 2, 3] 4 rfl rfl [(X, .inr (6, [.ref f0, .ref ma, .ref f2, .ref cx, .ref f4, .ref f5, .ref f6, .ref f7, .int (oI (bl)), .int (nI bg)])), (cx, .inr (0, [.ref cr])), (cr, .inr (4, [.ref ca])), (ca, .inl (gI g, 16, .inl (rO (ch))))] rfl rfl (by decide) (by decide)
  refine lv_iload_n hx hb dX6_chain_4 rfl (lv_at hl 2 rfl) ?_
  refine im_Sv (k := 1) hx hb hml hown hts (c_X6_requireKind l g (t) (by omega)) gX6_chain_X6_requireKind rfl (by decide +kernel) ⟨Nat.le_of_ble_eq_true rfl, Nat.le_of_ble_eq_true rfl⟩ ⟨Nat.zero_le _, Nat.zero_le _⟩ hK hP hD hS hA [] rfl (by decide) rfl hl.1 (rest := []) (As := [.int (nI t)]) rfl (Nat.le_of_ble_eq_true rfl) dX6_chain_5 (fun w1 H locs hpo hpd hS => ?_)
  obtain rfl := hpo
  obtain ⟨hP, hD⟩ := hpd [(X, .inr (6, [.ref f0, .ref ma, .ref f2, .ref cx, .ref f4, .ref f5, .ref f6, .ref f7, .int (oI (bl)), .int (nI bg)])), (cx, .inr (0, [.ref cr])), (cr, .inr (4, [.ref ca])), (ca, .inl (gI g, 16, .inl (rO (ch))))] [0, 1, 2, 3] 4 rfl rfl [(X, .inr (6, [.ref f0, .ref ma, .ref f2, .ref cx, .ref f4, .ref f5, .ref f6, .ref f7, .int (oI (bl)), .int (nI bg)])), (cx, .inr (0, [.ref cr])), (cr, .inr (4, [.ref ca])), (ca, .inl (gI g, 16, .inl (rO (ch))))] rfl rfl (by decide) (by decide)
  refine lv_iload_n hx hb dX6_chain_8 rfl (lv_at hl 3 rfl) ?_
  refine lv_iconst (v := -1) hx hb dX6_chain_9 (by decide) ?_
  refine lv_icmp_eq (tgt := 17) hx hb dX6_chain_10 (by decide) (fun c_1 => ?_) (fun c_1 => ?_)
  · skip
    exfalso; have h9 := congrArg Int32.toInt c_1; rw [nI_toInt (by omega), show ((-1 : Int32).toInt) = -1 by decide] at h9; omega
  · skip
    refine lv_iload_n hx hb dX6_chain_13 rfl (lv_at hl 3 rfl) ?_
    refine im_Sv (k := 1) hx hb hml hown hts (c_X6_requireKind l g (d) (by omega)) gX6_chain_X6_requireKind rfl (by decide +kernel) ⟨Nat.le_of_ble_eq_true rfl, Nat.le_of_ble_eq_true rfl⟩ ⟨Nat.zero_le _, Nat.zero_le _⟩ hK hP hD hS hA [] rfl (by decide) rfl hl.1 (rest := []) (As := [.int (nI d)]) rfl (Nat.le_of_ble_eq_true rfl) dX6_chain_14 (fun w1 H locs hpo hpd hS => ?_)
    obtain rfl := hpo
    obtain ⟨hP, hD⟩ := hpd [(X, .inr (6, [.ref f0, .ref ma, .ref f2, .ref cx, .ref f4, .ref f5, .ref f6, .ref f7, .int (oI (bl)), .int (nI bg)])), (cx, .inr (0, [.ref cr])), (cr, .inr (4, [.ref ca])), (ca, .inl (gI g, 16, .inl (rO (ch))))] [0, 1, 2, 3] 4 rfl rfl [(X, .inr (6, [.ref f0, .ref ma, .ref f2, .ref cx, .ref f4, .ref f5, .ref f6, .ref f7, .int (oI (bl)), .int (nI bg)])), (cx, .inr (0, [.ref cr])), (cr, .inr (4, [.ref ca])), (ca, .inl (gI g, 16, .inl (rO (ch))))] rfl rfl (by decide) (by decide)
    refine lv_aload_n hx hb dX6_chain_17 rfl (lv_at hl 0 rfl) ?_
    refine va_get (D := g.1) (ci := 6) (v := .ref cx) (C := RX6) (T := TX6) (N := 10) hx hb hts (fun _ h => (List.mem_cons_of_mem _ (List.mem_append_left _ (List.mem_append_left _ (List.mem_append_left _ (List.mem_append_right _ h)))))) hown hK.1 hP 0 rfl rfl 3 (by decide) (hts _ (List.mem_cons_of_mem _ (List.mem_append_left _ (List.mem_append_left _ (List.mem_append_left _ (List.mem_append_left _ (List.mem_of_getElem? (i := 0) rfl))))))) (fun _ h9 => h9) rfl dX6_chain_18 ?_
    refine lv_iload_n hx hb dX6_chain_21 rfl (lv_at hl 1 rfl) ?_
    refine lv_iload_n hx hb dX6_chain_22 rfl (lv_at hl 2 rfl) ?_
    refine lv_iload_n hx hb dX6_chain_23 rfl (lv_at hl 3 rfl) ?_
    refine im_V (k := 3) hx hb hml hown hts (c_X0_replace l g cx cr ca (ch) (f) (t) (some d) (by omega) (by omega)) gX6_chain_X0_replace rfl (by decide +kernel) ⟨Nat.le_of_ble_eq_true rfl, Nat.le_of_ble_eq_true rfl⟩ ⟨Nat.zero_le _, Nat.zero_le _⟩ hK hP hD hS hA [1, 2, 3] rfl (by decide) 1 0 rfl rfl rfl hl.1 (rest := []) (As := [.int (nI f), .int (nI t), .int (nI d)]) rfl (Nat.le_of_ble_eq_true rfl) dX6_chain_24 (fun x1 w1 H locs hpo hpd hS => ?_)
    obtain ⟨hx1, rfl⟩ := hpo
    have hx1 : x1 = oI (ch (f * 4 + t)) := hx1
    subst hx1
    obtain ⟨hP, hD⟩ := hpd [(X, .inr (6, [.ref f0, .ref ma, .ref f2, .ref cx, .ref f4, .ref f5, .ref f6, .ref f7, .int (oI (bl)), .int (nI bg)])), (cx, .inr (0, [.ref cr])), (cr, .inr (4, [.ref ca])), (ca, .inl (gI g, 16, .inl (rO (va_up ch (f * 4 + t) (some d)))))] [0] 4 rfl rfl [(X, .inr (6, [.ref f0, .ref ma, .ref f2, .ref cx, .ref f4, .ref f5, .ref f6, .ref f7, .int (oI (bl)), .int (nI bg)]))] rfl rfl (by decide) (by decide)
    exact im_ret (w1 := [(X, .inr (6, [.ref f0, .ref ma, .ref f2, .ref cx, .ref f4, .ref f5, .ref f6, .ref f7, .int (oI (bl)), .int (nI bg)])), (cx, .inr (0, [.ref cr])), (cr, .inr (4, [.ref ca])), (ca, .inl (gI g, 16, .inl (rO (va_up ch (f * 4 + t) (some d)))))]) (v := oI (ch (f * 4 + t))) hx hb hr hlocks hP hS rfl ⟨rfl, rfl⟩ dX6_chain_27

set_option maxRecDepth 100000 in
set_option maxHeartbeats 4000000 in
theorem c_X6_chain_none (l : Launch) (g : GG) (X ma f0 f2 f4 f5 f6 f7 : Nat) (bl : Option Nat) (bg : Nat) (cx cr ca : Nat) (ch : Nat → Option Nat) (f t : Nat) (hf : f < 4) (ht : t < 4)  : IM l yX6_chain wsX6_chain 3 g [.ref X, .int (nI f), .int (nI t), .int (oI (none))] [(X, .inr (6, [.ref f0, .ref ma, .ref f2, .ref cx, .ref f4, .ref f5, .ref f6, .ref f7, .int (oI (bl)), .int (nI bg)])), (cx, .inr (0, [.ref cr])), (cr, .inr (4, [.ref ca])), (ca, .inl (gI g, 16, .inl (rO (ch))))] (fun x1 w1 => x1 = oI (ch (f * 4 + t)) ∧ w1 = [(X, .inr (6, [.ref f0, .ref ma, .ref f2, .ref cx, .ref f4, .ref f5, .ref f6, .ref f7, .int (oI (bl)), .int (nI bg)])), (cx, .inr (0, [.ref cr])), (cr, .inr (4, [.ref ca])), (ca, .inl (gI g, 16, .inl (rO (va_up ch (f * 4 + t) (none)))))]) := by
  refine fun sz => im_body (Qc := fun A => va_Qi _ (iB g _) A) (cc := cX6_chain) (maxL := 4) (ret := (some .int)) (by decide) rfl (Nat.le_of_ble_eq_true rfl) ?_ sz
  intro pg ev s0 mi below meth cd A hx hb hr hml hts hown hlocks hK hA H hP hD hS ls hl
  have hl : lv_has ls 4 [(0, .ref X), (1, .int (nI f)), (2, .int (nI t)), (3, .int (oI (none)))] := hl
  refine lv_iload_n hx hb dX6_chain_0 rfl (lv_at hl 1 rfl) ?_
  refine im_Sv (k := 1) hx hb hml hown hts (c_X6_requireKind l g (f) (by omega)) gX6_chain_X6_requireKind rfl (by decide +kernel) ⟨Nat.le_of_ble_eq_true rfl, Nat.le_of_ble_eq_true rfl⟩ ⟨Nat.zero_le _, Nat.zero_le _⟩ hK hP hD hS hA [] rfl (by decide) rfl hl.1 (rest := []) (As := [.int (nI f)]) rfl (Nat.le_of_ble_eq_true rfl) dX6_chain_1 (fun w1 H locs hpo hpd hS => ?_)
  obtain rfl := hpo
  obtain ⟨hP, hD⟩ := hpd [(X, .inr (6, [.ref f0, .ref ma, .ref f2, .ref cx, .ref f4, .ref f5, .ref f6, .ref f7, .int (oI (bl)), .int (nI bg)])), (cx, .inr (0, [.ref cr])), (cr, .inr (4, [.ref ca])), (ca, .inl (gI g, 16, .inl (rO (ch))))] [0, 1, 2, 3] 4 rfl rfl [(X, .inr (6, [.ref f0, .ref ma, .ref f2, .ref cx, .ref f4, .ref f5, .ref f6, .ref f7, .int (oI (bl)), .int (nI bg)])), (cx, .inr (0, [.ref cr])), (cr, .inr (4, [.ref ca])), (ca, .inl (gI g, 16, .inl (rO (ch))))] rfl rfl (by decide) (by decide)
  refine lv_iload_n hx hb dX6_chain_4 rfl (lv_at hl 2 rfl) ?_
  refine im_Sv (k := 1) hx hb hml hown hts (c_X6_requireKind l g (t) (by omega)) gX6_chain_X6_requireKind rfl (by decide +kernel) ⟨Nat.le_of_ble_eq_true rfl, Nat.le_of_ble_eq_true rfl⟩ ⟨Nat.zero_le _, Nat.zero_le _⟩ hK hP hD hS hA [] rfl (by decide) rfl hl.1 (rest := []) (As := [.int (nI t)]) rfl (Nat.le_of_ble_eq_true rfl) dX6_chain_5 (fun w1 H locs hpo hpd hS => ?_)
  obtain rfl := hpo
  obtain ⟨hP, hD⟩ := hpd [(X, .inr (6, [.ref f0, .ref ma, .ref f2, .ref cx, .ref f4, .ref f5, .ref f6, .ref f7, .int (oI (bl)), .int (nI bg)])), (cx, .inr (0, [.ref cr])), (cr, .inr (4, [.ref ca])), (ca, .inl (gI g, 16, .inl (rO (ch))))] [0, 1, 2, 3] 4 rfl rfl [(X, .inr (6, [.ref f0, .ref ma, .ref f2, .ref cx, .ref f4, .ref f5, .ref f6, .ref f7, .int (oI (bl)), .int (nI bg)])), (cx, .inr (0, [.ref cr])), (cr, .inr (4, [.ref ca])), (ca, .inl (gI g, 16, .inl (rO (ch))))] rfl rfl (by decide) (by decide)
  refine lv_iload_n hx hb dX6_chain_8 rfl (lv_at hl 3 rfl) ?_
  refine lv_iconst (v := -1) hx hb dX6_chain_9 (by decide) ?_
  refine lv_icmp_eq (tgt := 17) hx hb dX6_chain_10 (by decide) (fun c_1 => ?_) (fun c_1 => ?_)
  · skip
    refine lv_aload_n hx hb dX6_chain_17 rfl (lv_at hl 0 rfl) ?_
    refine va_get (D := g.1) (ci := 6) (v := .ref cx) (C := RX6) (T := TX6) (N := 10) hx hb hts (fun _ h => (List.mem_cons_of_mem _ (List.mem_append_left _ (List.mem_append_left _ (List.mem_append_left _ (List.mem_append_right _ h)))))) hown hK.1 hP 0 rfl rfl 3 (by decide) (hts _ (List.mem_cons_of_mem _ (List.mem_append_left _ (List.mem_append_left _ (List.mem_append_left _ (List.mem_append_left _ (List.mem_of_getElem? (i := 0) rfl))))))) (fun _ h9 => h9) rfl dX6_chain_18 ?_
    refine lv_iload_n hx hb dX6_chain_21 rfl (lv_at hl 1 rfl) ?_
    refine lv_iload_n hx hb dX6_chain_22 rfl (lv_at hl 2 rfl) ?_
    refine lv_iload_n hx hb dX6_chain_23 rfl (lv_at hl 3 rfl) ?_
    refine im_V (k := 3) hx hb hml hown hts (c_X0_replace l g cx cr ca (ch) (f) (t) (none) (by omega) (by omega)) gX6_chain_X0_replace rfl (by decide +kernel) ⟨Nat.le_of_ble_eq_true rfl, Nat.le_of_ble_eq_true rfl⟩ ⟨Nat.zero_le _, Nat.zero_le _⟩ hK hP hD hS hA [1, 2, 3] rfl (by decide) 1 0 rfl rfl rfl hl.1 (rest := []) (As := [.int (nI f), .int (nI t), .int (oI (none))]) rfl (Nat.le_of_ble_eq_true rfl) dX6_chain_24 (fun x1 w1 H locs hpo hpd hS => ?_)
    obtain ⟨hx1, rfl⟩ := hpo
    have hx1 : x1 = oI (ch (f * 4 + t)) := hx1
    subst hx1
    obtain ⟨hP, hD⟩ := hpd [(X, .inr (6, [.ref f0, .ref ma, .ref f2, .ref cx, .ref f4, .ref f5, .ref f6, .ref f7, .int (oI (bl)), .int (nI bg)])), (cx, .inr (0, [.ref cr])), (cr, .inr (4, [.ref ca])), (ca, .inl (gI g, 16, .inl (rO (va_up ch (f * 4 + t) (none)))))] [0] 4 rfl rfl [(X, .inr (6, [.ref f0, .ref ma, .ref f2, .ref cx, .ref f4, .ref f5, .ref f6, .ref f7, .int (oI (bl)), .int (nI bg)]))] rfl rfl (by decide) (by decide)
    exact im_ret (w1 := [(X, .inr (6, [.ref f0, .ref ma, .ref f2, .ref cx, .ref f4, .ref f5, .ref f6, .ref f7, .int (oI (bl)), .int (nI bg)])), (cx, .inr (0, [.ref cr])), (cr, .inr (4, [.ref ca])), (ca, .inl (gI g, 16, .inl (rO (va_up ch (f * 4 + t) (none)))))]) (v := oI (ch (f * 4 + t))) hx hb hr hlocks hP hS rfl ⟨rfl, rfl⟩ dX6_chain_27
  · skip
    exfalso; exact c_1 rfl
