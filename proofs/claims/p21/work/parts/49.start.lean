theorem z_0_ok : ZOk (fun _ => 0, fun _ => 0, fun _ => 0, fun _ => 0, fun _ => 0, fun _ => 0, fun _ => some 0, fun _ => some 0, 0, 0, 0, none, some 0) :=
  ⟨fun _ => (by decide : 0 < 16), fun _ => (by decide : 0 < 16), fun _ => (by decide : 0 < 32), fun _ => Nat.zero_le _, fun _ => Nat.zero_le _, fun _ v h => (by cases h; decide), fun _ v h => (by cases h; decide)⟩
set_option maxRecDepth 100000 in
set_option maxHeartbeats 4000000 in
theorem lw_KK {s : State} {b : Nat} (hts : ∀ w ∈ lw_tbl, w.before #[Value.ref b] s = true) : ∃ g : GG, KK g s := by
  have hts9 : ∀ w ∈ wsL_law, w.before #[Value.ref b] s = true := fun w h => hts w (wsL_law_in w h)
  obtain ⟨c0, i0, K0⟩ := u_known (C := RX0) (T := TX0) (N := 1) (n := 1) hts9 inlX0 (hts (.instantiable RX0 1) (by decide +kernel))
  obtain ⟨c1, i1, K1⟩ := u_known (C := RX1) (T := TX1) (N := 3) (n := 3) hts9 inlX1 (hts (.instantiable RX1 3) (by decide +kernel))
  obtain ⟨c2, i2, K2⟩ := u_known (C := RX2) (T := TX2) (N := 1) (n := 1) hts9 inlX2 (hts (.instantiable RX2 1) (by decide +kernel))
  obtain ⟨c3, i3, K3⟩ := u_known (C := RX3) (T := TX3) (N := 8) (n := 8) hts9 inlX3 (hts (.instantiable RX3 8) (by decide +kernel))
  obtain ⟨c4, i4, K4⟩ := u_known (C := RX4) (T := TX4) (N := 1) (n := 1) hts9 inlX4 (hts (.instantiable RX4 1) (by decide +kernel))
  obtain ⟨c5, i5, K5⟩ := u_known (C := RX5) (T := TX5) (N := 1) (n := 1) hts9 inlX5 (hts (.instantiable RX5 1) (by decide +kernel))
  obtain ⟨c6, i6, K6⟩ := u_known (C := RX6) (T := TX6) (N := 10) (n := 10) hts9 inlX6 (hts (.instantiable RX6 10) (by decide +kernel))
  obtain ⟨cI, kI, pI, aI1, aI2, aI3⟩ := Cond.arrayClass_spec (hts (.arrayClass .int) (by decide +kernel))
  obtain ⟨pO, cO, kO, o1, _, o3, o4, o5⟩ := Cond.arrayOver_spec (hts (.arrayOver (.object cMap)) (by decide +kernel))
  refine ⟨((fun k => if k = 0 then c0 else if k = 1 then c1 else if k = 2 then c2 else if k = 3 then c3 else if k = 4 then c4 else if k = 5 then c5 else c6, fun k => if k = 0 then i0 else if k = 1 then i1 else if k = 2 then i2 else if k = 3 then i3 else if k = 4 then i4 else if k = 5 then i5 else i6), cI, cI, cO, cI), ⟨fun k q hq => ?_, fun k q hq => ?_⟩, ?_⟩
  · match k, hq with
    | 0, hq => cases hq; exact K0
    | 1, hq => cases hq; exact K1
    | 2, hq => cases hq; exact K2
    | 3, hq => cases hq; exact K3
    | 4, hq => cases hq; exact K4
    | 5, hq => cases hq; exact K5
    | 6, hq => cases hq; exact K6
    | k + 7, hq => simp at hq
  · match k, hq with
    | 0, hq => cases hq; exact ⟨fun n z => ⟨fun k h => (by cases h), kI, aI2, pI, aI3⟩, aI1⟩
    | 1, hq => cases hq; exact ⟨fun n z => ⟨fun k h => (by cases h), kI, aI2, pI, aI3⟩, aI1⟩
    | 2, hq => cases hq; exact ⟨fun n z => ⟨fun k h => (by cases h), kO, o3, pO, o4⟩, ⟨kO, pO, o3, o4, o1, o5⟩⟩
    | k + 3, hq => simp [gT] at hq
  · exact ⟨⟨va_Nw.of rfl (hts nw0 (by decide +kernel)), va_Nw.of rfl (hts nw1 (by decide +kernel)), va_Nw.of rfl (hts nw2 (by decide +kernel)), va_Nw.of rfl (hts nw3 (by decide +kernel)), va_Nw.of rfl (hts nw4 (by decide +kernel))⟩, va_Nw.of rfl (hts nw5 (by decide +kernel)), va_Nw.of rfl (hts nw6 (by decide +kernel)), va_Nw.of rfl (hts nw7 (by decide +kernel)), va_Nw.of rfl (hts nw8 (by decide +kernel)), va_Nw.of rfl (hts nw9 (by decide +kernel))⟩
set_option maxRecDepth 100000 in
set_option maxHeartbeats 4000000 in
theorem lw_XS {s : State} {b : Nat} (hts : ∀ w ∈ lw_tbl, w.before #[Value.ref b] s = true) (hgv : (Jvm.Cond.and given_1 narrow_1).before #[Value.ref b] s = true) : XS s := by
  have fl := flat_of_before _ hgv
  intro q hq
  rcases (show q = (178, "no such map") ∨ q = (181, "no such model") ∨ q = (183, "no such idea") ∨ q = (185, "no such word") ∨ q = (189, "no such kind") ∨ q = (192, "a link is between different ideas") ∨ q = (74, "the map has all the ideas that it can have") ∨ q = (157, "the model does not have the link") by simpa [xtx] using hq) with rfl | rfl | rfl | rfl | rfl | rfl | rfl | rfl
  · obtain ⟨a, _, _, _, h, _⟩ := Cond.exactly_spec (fl (.exactly (.string RX6 178) "java/lang/String") (by decide +kernel))
    exact ⟨a, vk_R.of (A := #[Value.ref b]) (hts (.stringRef RX6 178 "no such map") (by decide +kernel)) h⟩
  · obtain ⟨a, _, _, _, h, _⟩ := Cond.exactly_spec (fl (.exactly (.string RX6 181) "java/lang/String") (by decide +kernel))
    exact ⟨a, vk_R.of (A := #[Value.ref b]) (hts (.stringRef RX6 181 "no such model") (by decide +kernel)) h⟩
  · obtain ⟨a, _, _, _, h, _⟩ := Cond.exactly_spec (fl (.exactly (.string RX6 183) "java/lang/String") (by decide +kernel))
    exact ⟨a, vk_R.of (A := #[Value.ref b]) (hts (.stringRef RX6 183 "no such idea") (by decide +kernel)) h⟩
  · obtain ⟨a, _, _, _, h, _⟩ := Cond.exactly_spec (fl (.exactly (.string RX6 185) "java/lang/String") (by decide +kernel))
    exact ⟨a, vk_R.of (A := #[Value.ref b]) (hts (.stringRef RX6 185 "no such word") (by decide +kernel)) h⟩
  · obtain ⟨a, _, _, _, h, _⟩ := Cond.exactly_spec (fl (.exactly (.string RX6 189) "java/lang/String") (by decide +kernel))
    exact ⟨a, vk_R.of (A := #[Value.ref b]) (hts (.stringRef RX6 189 "no such kind") (by decide +kernel)) h⟩
  · obtain ⟨a, _, _, _, h, _⟩ := Cond.exactly_spec (fl (.exactly (.string RX6 192) "java/lang/String") (by decide +kernel))
    exact ⟨a, vk_R.of (A := #[Value.ref b]) (hts (.stringRef RX6 192 "a link is between different ideas") (by decide +kernel)) h⟩
  · obtain ⟨a, _, _, _, h, _⟩ := Cond.exactly_spec (fl (.exactly (.string RX6 74) "java/lang/String") (by decide +kernel))
    exact ⟨a, vk_R.of (A := #[Value.ref b]) (hts (.stringRef RX6 74 "the map has all the ideas that it can have") (by decide +kernel)) h⟩
  · obtain ⟨a, _, _, _, h, _⟩ := Cond.exactly_spec (fl (.exactly (.string RX6 157) "java/lang/String") (by decide +kernel))
    exact ⟨a, vk_R.of (A := #[Value.ref b]) (hts (.stringRef RX6 157 "the model does not have the link") (by decide +kernel)) h⟩
set_option maxRecDepth 100000 in
set_option maxHeartbeats 4000000 in
theorem lw_XN {s : State} {b : Nat} (hts : ∀ w ∈ lw_tbl, w.before #[Value.ref b] s = true) (hgv : (Jvm.Cond.and given_1 narrow_1).before #[Value.ref b] s = true) : XN s ∧ XZ (fun q : Nat => s.heap.size ≤ q) s s.heap := by
  have fl := flat_of_before _ hgv
  refine ⟨⟨⟨va_Nw.of rfl (hts (.declares (Bundle.initS "java/lang/RuntimeException")) (by decide +kernel)), va_Nw.of rfl (hts (.declares (Bundle.initS "java/lang/Exception")) (by decide +kernel)), va_Nw.of rfl (hts (.declares (Bundle.initS Bundle.tN)) (by decide +kernel))⟩, ⟨va_Nw.of rfl (hts (.castable eI eI) (by decide +kernel)), va_Nw.of rfl (hts (.castable eA eA) (by decide +kernel)), va_Nw.of rfl (hts (.castable eS eS) (by decide +kernel))⟩, ⟨va_Nc.of (fl (.not (.castable eA eI)) (by decide +kernel)), va_Nc.of (fl (.not (.castable eS eI)) (by decide +kernel)), va_Nc.of (fl (.not (.castable eS eA)) (by decide +kernel))⟩, lw_XS hts hgv⟩, ?_, ?_⟩
  · exact vx_Zqof (hts (.laysStatic Bundle.tN "UNASSIGNED_STACK" Bundle.steD) (by decide +kernel)) (hts (.initialized Bundle.tN) (by decide +kernel)) (fl (.isRef (.static Bundle.tN "UNASSIGNED_STACK" Bundle.steD)) (by decide +kernel)) (fun _ h => Nat.not_le.mpr h)
  · exact vx_Zqof (hts (.laysStatic Bundle.tN "SUPPRESSED_SENTINEL" Bundle.listD) (by decide +kernel)) (hts (.initialized Bundle.tN) (by decide +kernel)) (fl (.isRef (.static Bundle.tN "SUPPRESSED_SENTINEL" Bundle.listD)) (by decide +kernel)) (fun _ h => Nat.not_le.mpr h)
set_option maxRecDepth 100000 in
set_option maxHeartbeats 4000000 in
theorem whole_start {p : Program} {e : Env} {s : State} {m : MethodId} {below : List Frame} {meth : Method} {c : Code} (l : Launch) (hflags : l.flags = flags0) {b L : Nat} {xs : Nat → Int32} (hL : L ≤ 260) (C0 : lw_At p s m meth c b L xs) : W p l e room_1 s m #[Value.ref b] below meth c s.heap [] 0 0 (lw_Z below #[Value.ref b] s) (entryFrame m ([Value.ref b] : List Value).toArray 9) := by
  obtain ⟨hx, hb, hr, hml, hown, hts, hX, hbl, hlocks, hgv⟩ := id C0
  have hst : l.stackTraces = false := by unfold Launch.stackTraces; rw [hflags]; decide +kernel
  have hts9 : ∀ w ∈ wsL_law, w.before #[Value.ref b] s = true := fun w h => hts w (wsL_law_in w h)
  obtain ⟨g, hK⟩ := lw_KK hts
  obtain ⟨hNX, hZ⟩ := lw_XN hts hgv
  have hAO : va_AO cMap s := va_AO.of (hts (.arrayOver (.object cMap)) (by decide +kernel))
  have hA : ∀ q : Nat, s.heap.size ≤ q → (fun q : Nat => s.heap.size ≤ q) q := fun _ h => h
  have hown : s.vm.findClass RL = some m.cls := hown
  have hS : va_S (fun q : Nat => s.heap.size ≤ q) s.heap s.heap [] := va_S.rf
  have hP : va_P g.1 vwCl [] s.heap := fun k q h => by simp at h
  have hD : va_D (fun q : Nat => s.heap.size ≤ q) [] := ⟨fun i j p q h => by simp at h, fun k q h => by simp at h⟩
  have hl := lv_entry ([.ref b]) (n := 9) (Nat.le_of_ble_eq_true rfl)
  rw [lg_entry_eq]
  generalize (lg_sl ([.ref b]) ++ List.replicate (9 - (lg_sl ([.ref b])).length) Slot.unset).toArray = ls at hl ⊢
  have hl : lv_has ls 9 [(0, .ref b)] := hl
  refine va_new (ci := 6) (fs := [.null, .null, .null, .null, .null, .null, .null, .null, .int 0, .int 0]) (C := RX6) (T := TX6) (N := 10) hx hb hts9 inlX6 tyX6 tyX6_ok hown (hts (.classLink RL 21 RX6) (by decide +kernel)) (hts (.instantiable RX6 10) (by decide +kernel)) (hts (.initialized RX6) (by decide +kernel)) hK.1 hP hD hS hA rfl (fun j hj => by rcases (show j = 0 ∨ j = 1 ∨ j = 2 ∨ j = 3 ∨ j = 4 ∨ j = 5 ∨ j = 6 ∨ j = 7 ∨ j = 8 ∨ j = 9 by omega) with rfl | rfl | rfl | rfl | rfl | rfl | rfl | rfl | rfl | rfl <;> rfl) (Nat.le_of_ble_eq_true rfl) (Nat.le_of_ble_eq_true rfl) dL_law_0 (fun X H hP hD hS => ?_)
  have hP : va_P g.1 vwCl [(X, .inr (6, [.null, .null, .null, .null, .null, .null, .null, .null, .int (nI 0), .int (nI 0)]))] H := hP
  have hD : va_D (fun q : Nat => s.heap.size ≤ q) [(X, .inr (6, [.null, .null, .null, .null, .null, .null, .null, .null, .int (nI 0), .int (nI 0)]))] := hD
  refine lv_dup hx hb dL_law_3 rfl ?_
  refine ic_I (k := 0) hx hb hml hown hts9 (c_X6_init l g X) gL_law_X6_init rfl (hts (.initialized RX6) (by decide +kernel)) (hts (.methodLink RL 95 yX6_init) (by decide +kernel)) (hts (.instanceMethod yX6_init) (by decide +kernel)) rfl (by decide +kernel) ⟨(Nat.le_of_ble_eq_true rfl), (Nat.le_of_ble_eq_true rfl)⟩ ⟨(Nat.le_of_ble_eq_true rfl), (Nat.le_of_ble_eq_true rfl)⟩ hK hAO hP hD hS hA [0] rfl (by decide) rfl hl.1 (rest := [.ref X]) (As := []) rfl (Nat.le_of_ble_eq_true rfl) dL_law_4 (fun w1 H locs hpo hjn hS => ?_)
  obtain ⟨q1, q2, q3, q4, q5, q6, q7, q8, q9, q10, q11, q12, q13, q14, q15, q16, q17, q18, q19, q20, q21, q22, q23, q24, q25, q26, q27, q28, q29, q30, q31, q32, q33, q34, q35, q36, q37, q38, q39, q40, q41, q42, q43, q44, q45, q46, q47, q48, q49, q50, q51, rfl⟩ := hpo
  obtain ⟨hP, hD⟩ := hjn [] [] rfl (by decide) (by decide)
  have hP : va_P g.1 vwCl [(X, .inr (6, [.ref q1, .ref q7, .ref q8, .ref q11, .ref q14, .ref q17, .ref q20, .ref q23, .int (-1), .int (nI 0)])), (q1, .inr (1, [.ref q2, .ref q4, .int (nI 0)])), (q2, .inr (4, [.ref q3])), (q3, .inl (gI g, 5, .inl (rM (fun _ => 0)))), (q4, .inr (2, [.ref q5])), (q5, .inr (4, [.ref q6])), (q6, .inl (gI g, 25, .inl (rM (fun _ => 0)))), (q7, .inl (gO g, 4, .inr (.inr (.inr (.inr (va_up (va_up (va_up (va_up (fun _ => none) 0 (some q1)) 1 (some q34)) 2 (some q40)) 3 (some q46))))))), (q8, .inr (5, [.ref q9])), (q9, .inr (4, [.ref q10])), (q10, .inl (gI g, 32, .inl (rM (cpA (fun _ => 0) (fun j => j) 32)))), (q11, .inr (0, [.ref q12])), (q12, .inr (4, [.ref q13])), (q13, .inl (gI g, 16, .inl (rO (fun _ => none)))), (q14, .inr (2, [.ref q15])), (q15, .inr (4, [.ref q16])), (q16, .inl (gI g, 25, .inl (rM (fun _ => 0)))), (q17, .inr (2, [.ref q18])), (q18, .inr (4, [.ref q19])), (q19, .inl (gI g, 25, .inl (rM (fun _ => 0)))), (q20, .inr (2, [.ref q21])), (q21, .inr (4, [.ref q22])), (q22, .inl (gI g, 25, .inl (rM (fun _ => 0)))), (q23, .inr (3, [.ref q24, .ref q26, .ref q28, .ref q30, .ref q32, .int (nI 0), .int (nI 0), .int (nI 0)])), (q24, .inr (4, [.ref q25])), (q25, .inl (gI g, 5, .inl (rM (fun _ => 0)))), (q26, .inr (4, [.ref q27])), (q27, .inl (gI g, 625, .inl (rM (fun _ => 0)))), (q28, .inr (4, [.ref q29])), (q29, .inl (gI g, 6, .inl (rM (fun _ => 0)))), (q30, .inr (4, [.ref q31])), (q31, .inl (gI g, 5, .inl (rO (fun _ => some 0)))), (q32, .inr (4, [.ref q33])), (q33, .inl (gI g, 5, .inl (rO (fun _ => some 0)))), (q34, .inr (1, [.ref q35, .ref q37, .int (nI 0)])), (q35, .inr (4, [.ref q36])), (q36, .inl (gI g, 5, .inl (rM (fun _ => 0)))), (q37, .inr (2, [.ref q38])), (q38, .inr (4, [.ref q39])), (q39, .inl (gI g, 25, .inl (rM (fun _ => 0)))), (q40, .inr (1, [.ref q41, .ref q43, .int (nI 0)])), (q41, .inr (4, [.ref q42])), (q42, .inl (gI g, 5, .inl (rM (fun _ => 0)))), (q43, .inr (2, [.ref q44])), (q44, .inr (4, [.ref q45])), (q45, .inl (gI g, 25, .inl (rM (fun _ => 0)))), (q46, .inr (1, [.ref q47, .ref q49, .int (nI 0)])), (q47, .inr (4, [.ref q48])), (q48, .inl (gI g, 5, .inl (rM (fun _ => 0)))), (q49, .inr (2, [.ref q50])), (q50, .inr (4, [.ref q51])), (q51, .inl (gI g, 25, .inl (rM (fun _ => 0))))] H := hP
  have hD : va_D (fun q : Nat => s.heap.size ≤ q) [(X, .inr (6, [.ref q1, .ref q7, .ref q8, .ref q11, .ref q14, .ref q17, .ref q20, .ref q23, .int (-1), .int (nI 0)])), (q1, .inr (1, [.ref q2, .ref q4, .int (nI 0)])), (q2, .inr (4, [.ref q3])), (q3, .inl (gI g, 5, .inl (rM (fun _ => 0)))), (q4, .inr (2, [.ref q5])), (q5, .inr (4, [.ref q6])), (q6, .inl (gI g, 25, .inl (rM (fun _ => 0)))), (q7, .inl (gO g, 4, .inr (.inr (.inr (.inr (va_up (va_up (va_up (va_up (fun _ => none) 0 (some q1)) 1 (some q34)) 2 (some q40)) 3 (some q46))))))), (q8, .inr (5, [.ref q9])), (q9, .inr (4, [.ref q10])), (q10, .inl (gI g, 32, .inl (rM (cpA (fun _ => 0) (fun j => j) 32)))), (q11, .inr (0, [.ref q12])), (q12, .inr (4, [.ref q13])), (q13, .inl (gI g, 16, .inl (rO (fun _ => none)))), (q14, .inr (2, [.ref q15])), (q15, .inr (4, [.ref q16])), (q16, .inl (gI g, 25, .inl (rM (fun _ => 0)))), (q17, .inr (2, [.ref q18])), (q18, .inr (4, [.ref q19])), (q19, .inl (gI g, 25, .inl (rM (fun _ => 0)))), (q20, .inr (2, [.ref q21])), (q21, .inr (4, [.ref q22])), (q22, .inl (gI g, 25, .inl (rM (fun _ => 0)))), (q23, .inr (3, [.ref q24, .ref q26, .ref q28, .ref q30, .ref q32, .int (nI 0), .int (nI 0), .int (nI 0)])), (q24, .inr (4, [.ref q25])), (q25, .inl (gI g, 5, .inl (rM (fun _ => 0)))), (q26, .inr (4, [.ref q27])), (q27, .inl (gI g, 625, .inl (rM (fun _ => 0)))), (q28, .inr (4, [.ref q29])), (q29, .inl (gI g, 6, .inl (rM (fun _ => 0)))), (q30, .inr (4, [.ref q31])), (q31, .inl (gI g, 5, .inl (rO (fun _ => some 0)))), (q32, .inr (4, [.ref q33])), (q33, .inl (gI g, 5, .inl (rO (fun _ => some 0)))), (q34, .inr (1, [.ref q35, .ref q37, .int (nI 0)])), (q35, .inr (4, [.ref q36])), (q36, .inl (gI g, 5, .inl (rM (fun _ => 0)))), (q37, .inr (2, [.ref q38])), (q38, .inr (4, [.ref q39])), (q39, .inl (gI g, 25, .inl (rM (fun _ => 0)))), (q40, .inr (1, [.ref q41, .ref q43, .int (nI 0)])), (q41, .inr (4, [.ref q42])), (q42, .inl (gI g, 5, .inl (rM (fun _ => 0)))), (q43, .inr (2, [.ref q44])), (q44, .inr (4, [.ref q45])), (q45, .inl (gI g, 25, .inl (rM (fun _ => 0)))), (q46, .inr (1, [.ref q47, .ref q49, .int (nI 0)])), (q47, .inr (4, [.ref q48])), (q48, .inl (gI g, 5, .inl (rM (fun _ => 0)))), (q49, .inr (2, [.ref q50])), (q50, .inr (4, [.ref q51])), (q51, .inl (gI g, 25, .inl (rM (fun _ => 0))))] := hD
  refine lv_astore_n (lv' := [(1, .ref X), (0, .ref b)]) hx hb dL_law_7 rfl hl (by decide) rfl (fun ls hl => ?_)
  have hP := hP.sub (ws' := MW g (fun i : Nat => ([X, q7, q1, q2, q3, q4, q5, q6, q34, q35, q36, q37, q38, q39, q40, q41, q42, q43, q44, q45, q46, q47, q48, q49, q50, q51, q8, q9, q10, q11, q12, q13, q14, q15, q16, q17, q18, q19, q20, q21, q22, q23, q24, q25, q26, q27, q28, q29, q30, q31, q32, q33] : List Nat).getD i 0) (va_up (va_up (va_up (va_up (fun _ => none) 0 (some q1)) 1 (some q34)) 2 (some q40)) 3 (some q46)) s_0 (fun _ => 0, fun _ => 0, fun _ => 0, fun _ => 0, fun _ => 0, fun _ => 0, fun _ => some 0, fun _ => some 0, 0, 0, 0, none, some 0)) [0, 7, 1, 2, 3, 4, 5, 6, 34, 35, 36, 37, 38, 39, 40, 41, 42, 43, 44, 45, 46, 47, 48, 49, 50, 51, 8, 9, 10, 11, 12, 13, 14, 15, 16, 17, 18, 19, 20, 21, 22, 23, 24, 25, 26, 27, 28, 29, 30, 31, 32, 33] rfl
  have hD := hD.sub (ws' := MW g (fun i : Nat => ([X, q7, q1, q2, q3, q4, q5, q6, q34, q35, q36, q37, q38, q39, q40, q41, q42, q43, q44, q45, q46, q47, q48, q49, q50, q51, q8, q9, q10, q11, q12, q13, q14, q15, q16, q17, q18, q19, q20, q21, q22, q23, q24, q25, q26, q27, q28, q29, q30, q31, q32, q33] : List Nat).getD i 0) (va_up (va_up (va_up (va_up (fun _ => none) 0 (some q1)) 1 (some q34)) 2 (some q40)) 3 (some q46)) s_0 (fun _ => 0, fun _ => 0, fun _ => 0, fun _ => 0, fun _ => 0, fun _ => 0, fun _ => some 0, fun _ => some 0, 0, 0, 0, none, some 0)) [0, 7, 1, 2, 3, 4, 5, 6, 34, 35, 36, 37, 38, 39, 40, 41, 42, 43, 44, 45, 46, 47, 48, 49, 50, 51, 8, 9, 10, 11, 12, 13, 14, 15, 16, 17, 18, 19, 20, 21, 22, 23, 24, 25, 26, 27, 28, 29, 30, 31, 32, 33] (by decide) rfl
  refine W.widen (k := 60) (n := 1000) (by decide) (by decide) ?_
  exact law_pre (ad := (fun i : Nat => ([X, q7, q1, q2, q3, q4, q5, q6, q34, q35, q36, q37, q38, q39, q40, q41, q42, q43, q44, q45, q46, q47, q48, q49, q50, q51, q8, q9, q10, q11, q12, q13, q14, q15, q16, q17, q18, q19, q20, q21, q22, q23, q24, q25, q26, q27, q28, q29, q30, q31, q32, q33] : List Nat).getD i 0)) (gm := va_up (va_up (va_up (va_up (fun _ => none) 0 (some q1)) 1 (some q34)) 2 (some q40)) 3 (some q46)) hst hL hx hb hr hml hown hts9 hlocks hK hNX hZ hX hbl ⟨rfl, rfl, rfl, rfl⟩ _ z_0_ok H _ hP hD hS ls hl
