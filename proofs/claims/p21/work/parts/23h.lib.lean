/-! the law's helpers: methods with a table of their own, that return whatever the class does -/
section HB
variable {l : Launch} {y : MethodName} {ws ws' : List Cond} {n maxL : Nat} {g : GG} {av : List Value} {w : va_W} {cc : ByteArray} {ret : Option FieldType} {hh : List (Nat × Nat × Nat × Nat)}
theorem im_ofWH {rm : Room} {Pc : Array Value → State → Prop} {Qc : Array Value → State → Outcome → State → Prop} {mc ms : Nat} {free : Addr → Prop}
    (hy : plainName y.cls = true) (hw : ws = Cond.codeWith y cc maxL ret hh :: ws')
    (body : ∀ p e s m args below meth c s₁, BodyLoose p l y (headSpec ws rm) cc maxL ret e s m args below meth c s₁ → c.maxLocals = maxL → Pc args s →
      W p l e (headSpec ws rm).room s m args below meth c s.heap [] 0 0 (MQ below Qc args s mc ms free) (entryFrame m args maxL)) : Met l y ws rm Pc Qc mc ms free := by
  refine MetFree.of_bodyS (code := cc) (maxLocals := maxL) (ret := ret) hy ?_ ?_
  · intro args s m h hn
    obtain ⟨m9, meth, c, hn9, h1, h2, h3, h4, -, h5, h6, -⟩ := Cond.codeWith_spec (atoms_spec (ws := ws) h _ (by rw [hw]; exact List.mem_cons_self))
    cases hn.symm.trans hn9
    exact ⟨meth, c, h1, h2, h3, h4, h5, h6⟩
  · intro p e s m args below meth c s₁ B hml hP _
    have hh0 : s₁.heap = s.heap := by rw [B.state]; rfl
    obtain ⟨t, a1, o, b1, b2, b3⟩ := body p e s m args below meth c s₁ B hml hP s₁ hh0 (Stand.of_body B)
    exact ⟨t, o, a1, b1, b2, b3⟩
theorem im_bodyH {Qc : (Nat → Prop) → Array Value → State → Outcome → State → Prop} (hy : plainName y.cls = true) (hw : ws = Cond.codeWith y cc maxL ret hh :: ws') (hav : (lg_sl av).length ≤ maxL)
    (body : ∀ (p : Program) (e : Env) (s : State) (m : MethodId) (below : List Frame) (meth : Method) (c : Code) (A : Nat → Prop), p.tables.exec = Jvm.exec → c.code = cc → meth.sig.returnType = ret → c.maxLocals = maxL → (∀ x ∈ ws, x.before av.toArray s = true) → s.vm.findClass y.cls = some m.cls → meth.locks = false →
      KK g s → (∀ q : Nat, s.heap.size ≤ q → A q) → ∀ H : Heap, va_P g.1 vwCl w H → va_D A w → va_S A s.heap H [] → ∀ ls : Array Slot, lv_has ls maxL (lv_args 0 av) → W p l e (rmL n) s m av.toArray below meth c H [] 0 0 (MQ below (Qc A) av.toArray s 0 0 A) (F0 m 0 ls [])) (sz : Nat) : Met l y ws (rmL n) (iPc g av w sz) (Qc (va_A w sz)) 0 0 (va_A w sz) := by
  refine im_ofWH (cc := cc) (maxL := maxL) (ret := ret) (hh := hh) hy hw ?_
  intro p e s m args below meth c s₁ B hml hv
  obtain ⟨rfl, hsz, hK, hP, hD⟩ := hv
  subst hsz
  have hb := body p e s m below meth c (va_A w s.heap.size) B.exec B.bytes B.returns hml (atoms_spec (ws := ws) B.pre) (findClass_of_methodNamed B.named) B.notSynchronized hK (fun q h => Or.inr h) s.heap hP (hD.self) va_S.rf _ (lv_entry av hav)
  rw [lg_entry_eq]
  exact hb
/-- the class throws, the helper returns: one object more -/
def IX (l : Launch) (y : MethodName) (ws : List Cond) (n : Nat) (g : GG) (av : List Value) (w : va_W) (post : Int32 → va_W → Prop) : Prop :=
  ∀ sz : Nat, Met l y ws (rmX n) (iPx g av w sz) (va_Qi post (iB g w) (va_A w sz)) 1 6 (va_A w sz)
theorem ix_bodyH {Qc : (Nat → Prop) → Array Value → State → Outcome → State → Prop} (hy : plainName y.cls = true) (hw : ws = Cond.codeWith y cc maxL ret hh :: ws') (hav : (lg_sl av).length ≤ maxL)
    (body : ∀ (p : Program) (e : Env) (s : State) (m : MethodId) (below : List Frame) (meth : Method) (c : Code) (A : Nat → Prop), p.tables.exec = Jvm.exec → c.code = cc → meth.sig.returnType = ret → c.maxLocals = maxL → (∀ x ∈ ws, x.before av.toArray s = true) → s.vm.findClass y.cls = some m.cls → meth.locks = false →
      KK g s → (∀ q : Nat, s.heap.size ≤ q → A q) → XN s → XZ A s s.heap → c.exceptionTable.toList = tableOf hh → ∀ H : Heap, va_P g.1 vwCl w H → va_D A w → va_S A s.heap H [] → ∀ ls : Array Slot, lv_has ls maxL (lv_args 0 av) → W p l e (rmX n) s m av.toArray below meth c H [] 0 0 (MQ below (Qc A) av.toArray s 1 6 A) (F0 m 0 ls [])) (sz : Nat) : Met l y ws (rmX n) (iPx g av w sz) (Qc (va_A w sz)) 1 6 (va_A w sz) := by
  refine im_ofWH (cc := cc) (maxL := maxL) (ret := ret) (hh := hh) hy hw ?_
  intro p e s m args below meth c s₁ B hml hv
  obtain ⟨rfl, hsz, hK, hP, hD, hN, hZ⟩ := hv
  subst hsz
  have htab := vx_table (x := y) B (atoms_spec (ws := ws) B.pre _ (by rw [hw]; exact List.mem_cons_self))
  have hb := body p e s m below meth c (va_A w s.heap.size) B.exec B.bytes B.returns hml (atoms_spec (ws := ws) B.pre) (findClass_of_methodNamed B.named) B.notSynchronized hK (fun q h => Or.inr h) hN hZ htab s.heap hP (hD.self) va_S.rf _ (lv_entry av hav)
  rw [lg_entry_eq]
  exact hb
end HB
section HC
variable {p : Program} {l : Launch} {e : Env} {s : State} {m : MethodId} {args : Array Value} {below : List Frame} {meth : Method} {c : Code} {H : Heap} {locs : List Loc} {Q : State → Prop}
variable {pc : Nat} {ls : Array Slot} {rest st0 As : List Value} {A : Nat → Prop} {g : GG} {wsx w : va_W} {Ts ws ws' : List Cond} {cc bytes : ByteArray} {nL maxL index n k b : Nat} {own C host : String} {y : MethodName} {ret : Option FieldType} {E : String}
/-- a call that throws, in a method that catches -/
theorem ix_V (hx : p.tables.exec = Jvm.exec) (hb : c.code = cc) (hml : c.maxLocals = nL) (hown : s.vm.findClass own = some m.cls) (hts : ∀ x ∈ Ts, x.before args s = true) (hM : XM l y ws n g (.ref b :: As) w E) (hT : GoodIn Ts (wsV own index C y ws)) (hw : ws = Cond.code y bytes maxL ret :: ws')
    (hd : y.cls = C ∧ y.cls ≠ "java/lang/invoke/MethodHandle" ∧ y.cls ≠ "java/lang/invoke/VarHandle" ∧ (parseMethodDescriptor y.desc).map (fun d => d.parameters.length) = some k) {n0 : Nat} (hR : n + 5 + 1 ≤ n0 + 5 ∧ 8 + (maxL + 11) + (40 * n + 60) ≤ 40 * n0 + 60)
    (hK : KK g s) (hNX : XN s) (hZ : XZ A s s.heap) (hP : va_P g.1 vwCl wsx H) (hD : va_D A wsx) (hS : va_S A s.heap H locs) (hA : ∀ q : Nat, s.heap.size ≤ q → A q) (isC : List Nat) (hC : isC.map (fun i => wsx[i]?) = w.map some) (hn : va_nd isC = true) (q0 ci : Nat) {T : u_T} {N : Nat} {fs : List Value} (hcl : vwCl[ci]? = some (C, T, N)) (hrec : wsx[q0]? = some (b, .inr (ci, fs)))
    (hk : As.length = k) (hsz : ls.size = nL) (hst : st0 = As.reverse ++ .ref b :: rest) (hcat : (rest.map fun v => v.category).sum ≤ 8) (hdg : decode cc pc = .ok (.invokevirtual index, 3))
    (kx : ∀ (ce : Cell) (q9 : Nat) (H1 : Heap) (locs1 : List Loc), va_P g.1 vwCl wsx H1 → va_S A s.heap H1 locs1 → H1[q9]? = some ce → ce.vm = .none → s.vm.findClass E = some ce.cls → vx_W p l e (rmX n0) s m args below meth c H1 locs1 (0 + 1) (0 + 6) Q (F0 m pc ls rest) q9) :
    W p l e (rmX n0) s m args below meth c H locs 0 0 Q (F0 m pc ls st0) := by
  subst hst
  have hPc : va_P g.1 vwCl w H := fr_sub hP hC
  have hDc : va_D A w := hD.sub isC hn hC
  have hFc := va_free (wc := w) hD hS hA isC hC
  refine xm_on (vx_runV (As := As) (rest := rest) ⟨hx, hb, hml, hown, hts⟩ (hM H.size) (cwV k hts hT hw rfl rfl hd hR) ⟨iPx_blind g _ w _, va_recv hK.1 hP hcl hrec, fun U hU hW => ⟨rfl, by rw [hU], hK.warm hW, by rw [hU]; exact hPc, hDc.weaken (fun _ _ _ _ => trivial), hNX.warm hW, by rw [hU]; exact ((hZ.kept hS.2.1).narrow hFc).moved hW.alike⟩⟩ rfl hk hsz rfl (lv_room hcat) hdg ⟨Nat.le_refl _, Nat.le_refl _⟩) (fun _ _ _ h => h) hS hFc (fun ce q9 H1 locs1 hP1 hk1 hS1 hce hcv hcl1 => ?_)
  exact kx ce q9 H1 locs1 (xP_back hP hD hC hk1 hP1) hS1 hce hcv hcl1
end HC
