/-! methods that throw: what their start must know, their contract, their throw, and what goes on to the caller -/
abbrev eI : String := "java/lang/IndexOutOfBoundsException"
abbrev eA : String := "java/lang/IllegalArgumentException"
abbrev eS : String := "java/lang/IllegalStateException"
abbrev xNM : List String := ["java/lang/RuntimeException", "java/lang/Exception"]
def xtx : List (Nat × String) := [(178, "no such map"), (181, "no such model"), (183, "no such idea"), (185, "no such word"), (189, "no such kind"), (192, "a link is between different ideas"), (74, "the map has all the ideas that it can have"), (157, "the model does not have the link")]
def XS (U : State) : Prop := ∀ q ∈ xtx, ∃ a : Nat, vk_R RX6 q.1 q.2 a U
def XN (U : State) : Prop := (va_Nw (.declares (Bundle.initS "java/lang/RuntimeException")) U ∧ va_Nw (.declares (Bundle.initS "java/lang/Exception")) U ∧ va_Nw (.declares (Bundle.initS Bundle.tN)) U) ∧ (va_Nw (.castable eI eI) U ∧ va_Nw (.castable eA eA) U ∧ va_Nw (.castable eS eS) U) ∧ (va_Nc eA eI U ∧ va_Nc eS eI U ∧ va_Nc eS eA U) ∧ XS U
theorem XN.warm {s U : State} (hW : s.WarmedH U.vm) (h : XN s) : XN U := by
  obtain ⟨⟨h1, h2, h3⟩, ⟨h4, h5, h6⟩, ⟨h7, h8, h9⟩, h10⟩ := h
  exact ⟨⟨va_Nw.warmD hW h1, va_Nw.warmD hW h2, va_Nw.warmD hW h3⟩, ⟨va_Nw.warmC hW h4, va_Nw.warmC hW h5, va_Nw.warmC hW h6⟩, ⟨va_Nc.moved hW.alike h7, va_Nc.moved hW.alike h8, va_Nc.moved hW.alike h9⟩, fun q hq => by obtain ⟨a, ha⟩ := h10 q hq; exact ⟨a, vk_R.warm hW ha⟩⟩
def XZ (A : Nat → Prop) (U : State) (H : Heap) : Prop := vx_Zq Bundle.tN "UNASSIGNED_STACK" Bundle.steD A U H ∧ vx_Zq Bundle.tN "SUPPRESSED_SENTINEL" Bundle.listD A U H
theorem XZ.moved {A : Nat → Prop} {u U : State} {H : Heap} (hvm : u.vm.Alike U.vm) (h : XZ A u H) : XZ A U H := ⟨vx_Zq.moved hvm h.1, vx_Zq.moved hvm h.2⟩
theorem XZ.kept {A : Nat → Prop} {U : State} {H H1 : Heap} (h : XZ A U H) (hq : ∀ a : Nat, a < H.size → ¬ A a → H1[a]? = H[a]?) : XZ A U H1 := ⟨vx_Zq.kept h.1 hq, vx_Zq.kept h.2 hq⟩
theorem XZ.narrow {A B : Nat → Prop} {U : State} {H : Heap} (h : XZ A U H) (hAB : ∀ q, B q → A q) : XZ B U H := ⟨vx_Zq.narrow h.1 hAB, vx_Zq.narrow h.2 hAB⟩
abbrev rmX (n : Nat) : Room := { frames := n + 5, cells := 1, slots := 6, locals := 40 * n + 60 }
def iPx (g : GG) (av : List Value) (w : va_W) (sz : Nat) : Array Value → State → Prop := va_Pc av (fun U => U.heap.size = sz ∧ KK g U ∧ va_P g.1 vwCl w U.heap ∧ va_D (fun _ => True) w ∧ XN U ∧ XZ (va_A w sz) U U.heap)
theorem iPx_blind (g : GG) (av : List Value) (w : va_W) (sz : Nat) : FrameBlind (iPx g av w sz) := fun a U f mk h => by
  obtain ⟨h1, h2, h3, h4, h5, h6, h7⟩ := h
  exact ⟨h1, h2, h3.call f mk a, h4, h5, XN.warm (s := U) (U := U.calling f mk a) (State.WarmedH.refl U) h6, XZ.moved (u := U) (U := U.calling f mk a) (Vm.Alike.refl U.vm) h7⟩
/-- what has been thrown, the world as it was -/
def xC (g : GG) (w : va_W) (E : String) (A : Nat → Prop) : String → State → State → Prop := vx_X (fun u : va_W => u = w) (fun E' u t => E' = E ∧ va_P g.1 vwCl u t.heap) A
abbrev xF : Array Value → State → Outcome → State → Prop := fun _ _ _ _ => False
def XM (l : Launch) (y : MethodName) (ws : List Cond) (n : Nat) (g : GG) (av : List Value) (w : va_W) (E : String) : Prop :=
  ∀ sz : Nat, vx_Met l y ws (rmX n) (iPx g av w sz) xF (xC g w E (va_A w sz)) 1 6 (va_A w sz)
section XM1
variable {l : Launch} {y : MethodName} {ws ws' : List Cond} {n maxL : Nat} {g : GG} {av : List Value} {w : va_W} {cc : ByteArray} {ret : Option FieldType} {E : String}
theorem xm_body (hy : plainName y.cls = true) (hw : ws = Cond.code y cc maxL ret :: ws') (hav : (lg_sl av).length ≤ maxL)
    (body : ∀ (p : Program) (e : Env) (s : State) (m : MethodId) (below : List Frame) (meth : Method) (c : Code) (A : Nat → Prop), p.tables.exec = Jvm.exec → c.code = cc → meth.sig.returnType = ret → c.maxLocals = maxL → (∀ x ∈ ws, x.before av.toArray s = true) → s.vm.findClass y.cls = some m.cls → meth.locks = false →
      KK g s → (∀ q : Nat, s.heap.size ≤ q → A q) → XN s → XZ A s s.heap → (∀ x ∈ c.exceptionTable.toList, False) → ∀ H : Heap, va_P g.1 vwCl w H → va_D A w → va_S A s.heap H [] → ∀ ls, lv_has ls maxL (lv_args 0 av) → W p l e (rmX n) s m av.toArray below meth c H [] 0 0 (vx_MQ below xF (xC g w E A) av.toArray s 1 6 A) (F0 m 0 ls [])) (sz : Nat) : vx_Met l y ws (rmX n) (iPx g av w sz) xF (xC g w E (va_A w sz)) 1 6 (va_A w sz) := by
  refine vx_ofW (cc := cc) (maxL := maxL) (ret := ret) hy hw ?_
  intro p e s m args below meth c s₁ B hml ht hv
  obtain ⟨rfl, hsz, hK, hP, hD, hN, hZ⟩ := hv
  subst hsz
  have hb := body p e s m below meth c (va_A w s.heap.size) B.exec B.bytes B.returns hml (atoms_spec (ws := ws) B.pre) (findClass_of_methodNamed B.named) B.notSynchronized hK (fun q h => Or.inr h) hN hZ ht s.heap hP (hD.self) va_S.rf _ (lv_entry av hav)
  rw [lg_entry_eq]
  exact hb
end XM1
section XMC
variable {p : Program} {l : Launch} {e : Env} {R : Room} {s : State} {m : MethodId} {args : Array Value} {below : List Frame} {meth : Method} {c : Code} {H : Heap} {locs : List Loc} {cells slots : Nat} {Q : State → Prop}
variable {pc : Nat} {ls : Array Slot} {rest st0 As : List Value} {A : Nat → Prop} {g : GG} {wsx w : va_W} {Ts ws ws' : List Cond} {cc bytes : ByteArray} {nL maxL index n k b : Nat} {own C host : String} {y : MethodName} {ret : Option FieldType} {E : String}
theorem xP_kept {D : va_G} {cl : List vw_C} {H1 : Heap} (hP : va_P D cl wsx H) (h : ∀ q : Nat, q < H.size → H1[q]? = H[q]?) : va_P D cl wsx H1 := fun k q hq => (hP k q hq).kept (h q.1 (hP k q hq).lt)
/-- a throw of its own -/
theorem xm_throw (hx : p.tables.exec = Jvm.exec) (hb : c.code = cc) (hst : l.stackTraces = false) {text : String} {ik is ic : Nat} {rest : List Value} (hown : s.vm.findClass RX6 = some m.cls) (hcls : Bundle.fit E = true)
    (hk : (Cond.classLink RX6 ik E).before args s = true) (hini : (Cond.initialized E).before args s = true) (htx : (is, text) ∈ xtx) (hgw : ∀ w ∈ (vx_atS RX6 ic E xNM).filter goodWord, w.before args s = true)
    (hng : ∀ w ∈ (vx_atS RX6 ic E xNM).filter (fun w => !goodWord w), w ∈ [Cond.declares (Bundle.initS "java/lang/RuntimeException"), .declares (Bundle.initS "java/lang/Exception"), .declares (Bundle.initS Bundle.tN), .castable E E])
    (hot : ∀ w ∈ Cond.classLink RX6 ik E :: Cond.initialized E :: vx_atS RX6 ic E xNM, vx_ot w = true) (hcast : va_Nw (.castable E E) s)
    (hN : XN s) (hZ : XZ A s s.heap) (hS : va_S A s.heap H locs) (hP : va_P g.1 vwCl w H) (hsz : ls.size = c.maxLocals) (ht : ∀ x ∈ c.exceptionTable.toList, False)
    (d0 : decode cc pc = .ok (.new ik, 3)) (d3 : decode cc (pc + 3) = .ok (.dup, 1)) (d4 : decode cc (pc + 4) = .ok (.ldc is, 2)) (d6 : decode cc (pc + 6) = .ok (.invokespecial ic, 3)) (d9 : decode cc (pc + 9) = .ok (.athrow, 1))
    (hn : 1 ≤ n) (hcat : (rest.map fun v => v.category).sum ≤ 8) (hlocks : meth.locks = false) :
    W p l e (rmX n) s m args below meth c H locs 0 0 (vx_MQ below xF (xC g w E A) args s 1 6 A) (F0 m pc ls rest) := by
  obtain ⟨sa, hsa⟩ := hN.2.2.2 _ htx
  have hat : ∀ w ∈ vx_atS RX6 ic E xNM, w.before args s = true := vx_hat hgw hng (vx_c (va_Nw.use rfl hN.1.1) (vx_c (va_Nw.use rfl hN.1.2.1) (vx_c (va_Nw.use rfl hN.1.2.2) (vx_c (va_Nw.use rfl hcast) vx_n))))
  refine vx_throwS hx hb hst hown hcls (by decide +kernel) hk hini hsa hat hot hZ.1 hZ.2 hS hsz d0 d3 d4 d6 d9 (fun x hx9 => (ht x hx9).elim) (by show 2 + 3 < n + 5; omega) (by show _ ≤ 40 * n + 60; have : xNM.length = 2 := rfl; omega) (Nat.le_refl _) (Nat.le_refl _) hlocks ?_ (fun z hz => hS.2.2 z hz) (Nat.le_refl _) (Nat.le_refl _)
  intro t ha hsz2 hq
  refine ⟨w, rfl, ⟨rfl, xP_kept hP hq⟩, ⟨Nat.le_trans hS.1 hsz2, fun q h1 h2 => ?_⟩⟩
  rw [hq q (Nat.lt_of_lt_of_le h1 hS.1)]
  exact hS.2.1 q h1 h2
/-- a callee has thrown: out to the caller -/
theorem xm_on {Qa : State → Outcome → State → Prop} (hr : vx_Run p l e R s m args below meth c H locs cells slots 1 6 (F0 m pc ls st0) rest Qa (xC g w E (va_A w H.size)) (va_A w H.size)) (hQa : ∀ st o t, Qa st o t → False) (hS : va_S A s.heap H locs) (hFc : ∀ q : Nat, va_A w H.size q → A q)
    (kx : ∀ (ce : Cell) (q9 : Addr) (H1 : Heap) (locs1 : List Loc), va_P g.1 vwCl w H1 → (∀ q : Nat, q < H.size → ¬ va_A w H.size q → H1[q]? = H[q]?) → va_S A s.heap H1 locs1 → H1[q9]? = some ce → ce.vm = .none → s.vm.findClass E = some ce.cls → vx_W p l e R s m args below meth c H1 locs1 (cells + 1) (slots + 6) Q (F0 m pc ls rest) q9) : W p l e R s m args below meth c H locs cells slots Q (F0 m pc ls st0) := by
  intro T hT X
  rcases hr T hT X with ⟨v, st₀, t, T', L, h0, X', hL, e1, e2, hqa, st⟩ | ⟨q, st₀, t, T', L, E', ce, h0, X', hL, e1, e2, ⟨u, hu, ⟨hE, hPt⟩, hF⟩, hce, hcv, hcl, st⟩
  · exact (hQa _ _ _ hqa).elim
  · subst hu
    subst hE
    obtain ⟨k1, k2, k3⟩ := vx_keep h0 e1 hS (fun q _ h => hFc q h) hFc hL hF
    obtain ⟨t2, a1, b1⟩ := kx ce q T'.heap (locs ++ L) (by rw [e1]; exact hPt) k2 k3 (by rw [e1]; exact hce) hcv hcl T' rfl X'
    exact ⟨t2, st.trans a1, b1⟩
theorem xm_end {wc : va_W} {rest : List Value} (hlocks : meth.locks = false) (ht : ∀ x ∈ c.exceptionTable.toList, False) {ce : Cell} {q9 : Addr} {H1 : Heap} {locs1 : List Loc} (hP1 : va_P g.1 vwCl wc H1) (hS1 : va_S A s.heap H1 locs1) (hce : H1[q9]? = some ce) (hcv : ce.vm = .none) (hcl : s.vm.findClass E = some ce.cls) :
    vx_W p l e R s m args below meth c H1 locs1 (0 + 1) (0 + 6) (vx_MQ below xF (xC g wc E A) args s 1 6 A) (F0 m pc ls rest) q9 := by
  refine vx_out (fun x hx9 => (ht x hx9).elim) hlocks hce hcv hcl (fun t hth ha => ?_) (fun z hz => hS1.2.2 z hz) (Nat.le_refl _) (Nat.le_refl _)
  exact ⟨wc, rfl, ⟨rfl, by rw [hth]; exact hP1⟩, ⟨by rw [hth]; exact hS1.1, fun q h1 h2 => by rw [hth]; exact hS1.2.1 q h1 h2⟩⟩
/-- the world with the callee's part in its place again -/
theorem xP_back {D : va_G} {cl : List vw_C} {H1 : Heap} (hP : va_P D cl wsx H) (hD : va_D A wsx) {isC : List Nat} (hC : isC.map (fun i => wsx[i]?) = w.map some) (hk : ∀ q : Nat, q < H.size → ¬ va_A w H.size q → H1[q]? = H[q]?) (hP1 : va_P D cl w H1) : va_P D cl wsx H1 := by
  intro k q hq
  by_cases hkC : k ∈ isC
  · obtain ⟨j, hj⟩ := List.getElem?_of_mem hkC
    have h3 : (isC.map (fun i => wsx[i]?))[j]? = some (wsx[k]?) := by rw [List.getElem?_map, hj]; rfl
    rw [hC, List.getElem?_map] at h3
    cases hz : w[j]? with
    | none => rw [hz] at h3; cases h3
    | some q1 =>
      rw [hz] at h3
      have h4 : some q1 = some q := by rw [← hq]; exact Option.some.inj h3
      cases h4
      exact hP1 j q hz
  · refine (hP k q hq).kept (hk q.1 (hP k q hq).lt (fun hA => ?_))
    rcases hA with ⟨j, e, hw⟩ | hs
    · have hlC : isC.length = w.length := by have := congrArg List.length hC; simpa using this
      have hj : j < isC.length := by rw [hlC]; exact (List.getElem?_eq_some_iff.mp hw).1
      have h3 : (isC.map (fun i => wsx[i]?))[j]? = some (wsx[isC[j]]?) := by rw [List.getElem?_map, List.getElem?_eq_getElem hj]; rfl
      rw [hC, List.getElem?_map, hw] at h3
      have h4 : wsx[isC[j]]? = some (q.1, e) := (Option.some.inj h3).symm
      exact hkC (by rw [hD.1 k isC[j] q (q.1, e) hq h4 rfl]; exact List.getElem_mem hj)
    · exact absurd (hP k q hq).lt (Nat.not_lt.mpr hs)
theorem xm_V (hx : p.tables.exec = Jvm.exec) (hb : c.code = cc) (hml : c.maxLocals = nL) (hown : s.vm.findClass own = some m.cls) (hts : ∀ x ∈ Ts, x.before args s = true) (hM : XM l y ws n g (.ref b :: As) w E) (hT : GoodIn Ts (wsV own index C y ws)) (hw : ws = Cond.code y bytes maxL ret :: ws')
    (hd : y.cls = C ∧ y.cls ≠ "java/lang/invoke/MethodHandle" ∧ y.cls ≠ "java/lang/invoke/VarHandle" ∧ (parseMethodDescriptor y.desc).map (fun d => d.parameters.length) = some k) {n0 : Nat} (hR : n + 5 + 1 ≤ n0 + 5 ∧ 8 + (maxL + 11) + (40 * n + 60) ≤ 40 * n0 + 60)
    (hK : KK g s) (hNX : XN s) (hZ : XZ A s s.heap) (hP : va_P g.1 vwCl wsx H) (hD : va_D A wsx) (hS : va_S A s.heap H locs) (hA : ∀ q : Nat, s.heap.size ≤ q → A q) (isC : List Nat) (hC : isC.map (fun i => wsx[i]?) = w.map some) (hn : va_nd isC = true) (q0 ci : Nat) {T : u_T} {N : Nat} {fs : List Value} (hcl : vwCl[ci]? = some (C, T, N)) (hrec : wsx[q0]? = some (b, .inr (ci, fs)))
    (hk : As.length = k) (hsz : ls.size = nL) (hst : st0 = As.reverse ++ .ref b :: rest) (hcat : (rest.map fun v => v.category).sum ≤ 8) (hdg : decode cc pc = .ok (.invokevirtual index, 3)) (hlocks : meth.locks = false) (ht : ∀ x ∈ c.exceptionTable.toList, False) :
    W p l e (rmX n0) s m args below meth c H locs 0 0 (vx_MQ below xF (xC g wsx E A) args s 1 6 A) (F0 m pc ls st0) := by
  subst hst
  have hPc : va_P g.1 vwCl w H := fr_sub hP hC
  have hDc : va_D A w := hD.sub isC hn hC
  have hFc := va_free (wc := w) hD hS hA isC hC
  refine xm_on (vx_runV (As := As) (rest := rest) ⟨hx, hb, hml, hown, hts⟩ (hM H.size) (cwV k hts hT hw rfl rfl hd hR) ⟨iPx_blind g _ w _, va_recv hK.1 hP hcl hrec, fun U hU hW => ⟨rfl, by rw [hU], hK.warm hW, by rw [hU]; exact hPc, hDc.weaken (fun _ _ _ _ => trivial), hNX.warm hW, by rw [hU]; exact ((hZ.kept hS.2.1).narrow hFc).moved hW.alike⟩⟩ rfl hk hsz rfl (lv_room hcat) hdg ⟨Nat.le_refl _, Nat.le_refl _⟩) (fun _ _ _ h => h) hS hFc (fun ce q9 H1 locs1 hP1 hk1 hS1 hce hcv hcl1 => ?_)
  exact xm_end hlocks ht (xP_back hP hD hC hk1 hP1) hS1 hce hcv hcl1
theorem xm_S (hx : p.tables.exec = Jvm.exec) (hb : c.code = cc) (hml : c.maxLocals = nL) (hown : s.vm.findClass own = some m.cls) (hts : ∀ x ∈ Ts, x.before args s = true) (hM : XM l y ws n g As w E) (hT : GoodIn Ts (va_wsS own index y ws)) (hw : ws = Cond.code y bytes maxL ret :: ws')
    (hd : y.cls ≠ "java/lang/invoke/MethodHandle" ∧ y.cls ≠ "java/lang/invoke/VarHandle" ∧ (parseMethodDescriptor y.desc).map (fun d => d.parameters.length) = some k) {n0 : Nat} (hR : n + 5 + 1 ≤ n0 + 5 ∧ 8 + (maxL + 11) + (40 * n + 60) ≤ 40 * n0 + 60)
    (hK : KK g s) (hNX : XN s) (hZ : XZ A s s.heap) (hP : va_P g.1 vwCl wsx H) (hD : va_D A wsx) (hS : va_S A s.heap H locs) (hA : ∀ q : Nat, s.heap.size ≤ q → A q) (isC : List Nat) (hC : isC.map (fun i => wsx[i]?) = w.map some) (hn : va_nd isC = true)
    (hk : As.length = k) (hsz : ls.size = nL) (hst : st0 = As.reverse ++ rest) (hcat : (rest.map fun v => v.category).sum ≤ 8) (hdg : decode cc pc = .ok (.invokestatic index, 3)) (hlocks : meth.locks = false) (ht : ∀ x ∈ c.exceptionTable.toList, False) :
    W p l e (rmX n0) s m args below meth c H locs 0 0 (vx_MQ below xF (xC g wsx E A) args s 1 6 A) (F0 m pc ls st0) := by
  subst hst
  have hPc : va_P g.1 vwCl w H := fr_sub hP hC
  have hDc : va_D A w := hD.sub isC hn hC
  have hFc := va_free (wc := w) hD hS hA isC hC
  refine xm_on (vx_runS (As := As) (rest := rest) ⟨hx, hb, hml, hown, hts⟩ (hM H.size) (va_cwS k hts hT hw rfl rfl hd hR) ⟨iPx_blind g _ w _, fun U hU hW => ⟨rfl, by rw [hU], hK.warm hW, by rw [hU]; exact hPc, hDc.weaken (fun _ _ _ _ => trivial), hNX.warm hW, by rw [hU]; exact ((hZ.kept hS.2.1).narrow hFc).moved hW.alike⟩⟩ rfl hk hsz rfl (lv_room hcat) hdg ⟨Nat.le_refl _, Nat.le_refl _⟩) (fun _ _ _ h => h) hS hFc (fun ce q9 H1 locs1 hP1 hk1 hS1 hce hcv hcl1 => ?_)
  exact xm_end hlocks ht (xP_back hP hD hC hk1 hP1) hS1 hce hcv hcl1
end XMC
