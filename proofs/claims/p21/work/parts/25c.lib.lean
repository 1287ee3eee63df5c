/-! constructors: what they make stands behind the world that they were given -/
abbrev rmC (n mc ms : Nat) : Room := { frames := n, cells := mc, slots := ms, locals := 40 * n }
abbrev cMap : String := "ConceptMarker$ConceptMap"
def iPk (g : GG) (av : List Value) (w : va_W) (sz : Nat) : Array Value → State → Prop := va_Pc av (fun U => U.heap.size = sz ∧ KK g U ∧ va_P g.1 vwCl w U.heap ∧ va_D (fun _ => True) w ∧ va_AO cMap U)
theorem iPk_blind (g : GG) (av : List Value) (w : va_W) (sz : Nat) : FrameBlind (iPk g av w sz) := fun a U f mk h => by
  obtain ⟨h1, h2, h3, h4, h5, h6⟩ := h
  exact ⟨h1, h2, h3.call f mk a, h4, h5, va_AO.moved (u := U) (U := U.calling f mk a) (Vm.Alike.refl U.vm) h6⟩
def iK (g : GG) (A : Nat → Prop) : va_W → State → Prop := fun w1 t => va_P g.1 vwCl w1 t.heap ∧ va_D A w1
def IC (l : Launch) (y : MethodName) (ws : List Cond) (n mc ms : Nat) (g : GG) (av : List Value) (w : va_W) (post : va_W → Prop) : Prop :=
  ∀ sz : Nat, Met l y ws (rmC n mc ms) (iPk g av w sz) (va_Qv post (iK g (va_A w sz)) (va_A w sz)) mc ms (va_A w sz)
section IC1
variable {l : Launch} {y : MethodName} {ws ws' : List Cond} {n mc ms maxL : Nat} {g : GG} {av : List Value} {w : va_W} {cc : ByteArray} {ret : Option FieldType}
theorem ic_body {Qc : (Nat → Prop) → Array Value → State → Outcome → State → Prop} (hy : plainName y.cls = true) (hyn : y.name = "<init>") (hw : ws = Cond.code y cc maxL ret :: ws') (hav : (lg_sl av).length ≤ maxL)
    (body : ∀ (p : Program) (e : Env) (s : State) (m : MethodId) (below : List Frame) (meth : Method) (c : Code) (A : Nat → Prop), p.tables.exec = Jvm.exec → c.code = cc → meth.sig.returnType = ret → c.maxLocals = maxL → (∀ x ∈ ws, x.before av.toArray s = true) → s.vm.findClass y.cls = some m.cls → meth.locks = false →
      KK g s → (∀ q : Nat, s.heap.size ≤ q → A q) → va_AO cMap s → meth.name = "<init>" → ∀ H : Heap, va_P g.1 vwCl w H → va_D A w → va_S A s.heap H [] → ∀ ls : Array Slot, lv_has ls maxL (lv_args 0 av) → W p l e (rmC n mc ms) s m av.toArray below meth c H [] 0 0 (MQ below (Qc A) av.toArray s mc ms A) (F0 m 0 ls [])) (sz : Nat) : Met l y ws (rmC n mc ms) (iPk g av w sz) (Qc (va_A w sz)) mc ms (va_A w sz) := by
  refine Met.ofW (cc := cc) (maxL := maxL) (ret := ret) hy hw ?_
  intro p e s m args below meth c s₁ B hml hv
  obtain ⟨rfl, hsz, hK, hP, hD, hO⟩ := hv
  subst hsz
  have hb := body p e s m below meth c (va_A w s.heap.size) B.exec B.bytes B.returns hml (atoms_spec (ws := ws) B.pre) (findClass_of_methodNamed B.named) B.notSynchronized hK (fun q h => Or.inr h) hO ((name_of_methodNamed B.named B.method).1.trans hyn) s.heap hP (hD.self) va_S.rf _ (lv_entry av hav)
  rw [lg_entry_eq]
  exact hb
end IC1
section ICC
variable {p : Program} {l : Launch} {e : Env} {R : Room} {s : State} {m : MethodId} {args : Array Value} {below : List Frame} {meth : Method} {c : Code} {H : Heap} {locs : List Loc} {cells slots : Nat} {Q : State → Prop}
variable {pc : Nat} {ls : Array Slot} {rest st0 As : List Value} {A : Nat → Prop} {g : GG} {wsx w : va_W} {Ts ws ws' : List Cond} {cc bytes : ByteArray} {nL maxL index n mc ms k b : Nat} {own C host : String} {y : MethodName}
/-- what the callee gives back, beside the rest -/
def fr_J (D : va_G) (cl : List vw_C) (A0 : Nat → Prop) (ws : va_W) (isC : List Nat) (w1 : va_W) (H1 : Heap) : Prop :=
  ∀ (wr : va_W) (isR : List Nat), isR.map (fun i => ws[i]?) = wr.map some → va_nd isR = true → isR.all (fun i => !isC.contains i) = true → va_P D cl (wr ++ w1) H1 ∧ va_D A0 (wr ++ w1)
theorem ic_I {post : va_W → Prop} (hx : p.tables.exec = Jvm.exec) (hb : c.code = cc) (hml : c.maxLocals = nL) (hown : s.vm.findClass own = some m.cls) (hts : ∀ x ∈ Ts, x.before args s = true) (hM : IC l y ws n mc ms g (.ref b :: As) w post) (hT : GoodIn Ts ws) (hw : ws = Cond.code y bytes maxL none :: ws') (hini : (Cond.initialized y.cls).before args s = true) (hln : (Cond.methodLink own index y).before args s = true) (him : (Cond.instanceMethod y).before args s = true) (hyn : y.name = "<init>")
    (hd : y.cls ≠ "java/lang/invoke/MethodHandle" ∧ y.cls ≠ "java/lang/invoke/VarHandle" ∧ (parseMethodDescriptor y.desc).map (fun d => d.parameters.length) = some k) (hR : n + 1 ≤ R.frames ∧ 8 + (maxL + 11) + 40 * n ≤ R.locals) (hf : cells + mc ≤ R.cells ∧ slots + ms ≤ R.slots)
    (hK : KK g s) (hO : va_AO cMap s) (hP : va_P g.1 vwCl wsx H) (hD : va_D A wsx) (hS : va_S A s.heap H locs) (hA : ∀ q : Nat, s.heap.size ≤ q → A q) (isC : List Nat) (hC : isC.map (fun i => wsx[i]?) = w.map some) (hn : va_nd isC = true)
    (hk : As.length = k) (hsz : ls.size = nL) (hst : st0 = As.reverse ++ .ref b :: rest) (hcat : (rest.map fun v => v.category).sum ≤ 8) (hdg : decode cc pc = .ok (.invokespecial index, 3))
    (kk : ∀ (w1 : va_W) (H1 : Heap) (locs1 : List Loc), post w1 → fr_J g.1 vwCl A wsx isC w1 H1 → va_S A s.heap H1 locs1 → W p l e R s m args below meth c H1 locs1 (cells + mc) (slots + ms) Q (F0 m (pc + 3) ls rest)) : W p l e R s m args below meth c H locs cells slots Q (F0 m pc ls st0) := by
  subst hst
  have hPc : va_P g.1 vwCl w H := fr_sub hP hC
  have hDc : va_D A w := hD.sub isC hn hC
  have hFc := va_free (wc := w) hD hS hA isC hC
  refine va_callv (va_runI (As := As) (rest := rest) ⟨hx, hb, hml, hown, hts⟩ (hM H.size) (cwI k hts hT hw rfl rfl hini hln him hyn hd hR) ⟨iPk_blind g _ w _, fun U hU hW => ⟨rfl, by rw [hU], hK.warm hW, by rw [hU]; exact hPc, hDc.weaken (fun _ _ _ _ => trivial), va_AO.moved hW.alike hO⟩⟩ rfl hk hsz rfl (lv_room hcat) hdg hf) hS (fun q _ h => hFc q h) hFc (fun u t H1 locs1 ht hvm hw hB hz1 hk1 hS1 => ?_)
  obtain ⟨hP1, hD1⟩ := hB
  rw [ht] at hP1
  exact kk u H1 locs1 hw (fun wr isR hR hn2 hdis => va_join hP hD isC isR hC hR hn2 (fun i hi => by have := List.all_eq_true.mp hdis i hi; simpa using this) hk1 hFc hP1 hD1) hS1
theorem ic_IN {post : va_W → Prop} (hx : p.tables.exec = Jvm.exec) (hb : c.code = cc) (hml : c.maxLocals = nL) (hown : s.vm.findClass own = some m.cls) (hts : ∀ x ∈ Ts, x.before args s = true) (hM : IC l y ws n mc ms g (.ref b :: As) w post) (hT : GoodIn Ts ws) (hw : ws = Cond.code y bytes maxL none :: ws') (hini : (Cond.initialized y.cls).before args s = true) (hln : va_Nw (.methodLinkNest own index y host) s) (him : (Cond.instanceMethod y).before args s = true) (hyn : y.name = "<init>")
    (hd : y.cls ≠ "java/lang/invoke/MethodHandle" ∧ y.cls ≠ "java/lang/invoke/VarHandle" ∧ (parseMethodDescriptor y.desc).map (fun d => d.parameters.length) = some k) (hR : n + 1 ≤ R.frames ∧ 8 + (maxL + 11) + 40 * n ≤ R.locals) (hf : cells + mc ≤ R.cells ∧ slots + ms ≤ R.slots)
    (hK : KK g s) (hO : va_AO cMap s) (hP : va_P g.1 vwCl wsx H) (hD : va_D A wsx) (hS : va_S A s.heap H locs) (hA : ∀ q : Nat, s.heap.size ≤ q → A q) (isC : List Nat) (hC : isC.map (fun i => wsx[i]?) = w.map some) (hn : va_nd isC = true)
    (hk : As.length = k) (hsz : ls.size = nL) (hst : st0 = As.reverse ++ .ref b :: rest) (hcat : (rest.map fun v => v.category).sum ≤ 8) (hdg : decode cc pc = .ok (.invokespecial index, 3))
    (kk : ∀ (w1 : va_W) (H1 : Heap) (locs1 : List Loc), post w1 → fr_J g.1 vwCl A wsx isC w1 H1 → va_S A s.heap H1 locs1 → W p l e R s m args below meth c H1 locs1 (cells + mc) (slots + ms) Q (F0 m (pc + 3) ls rest)) : W p l e R s m args below meth c H locs cells slots Q (F0 m pc ls st0) := by
  subst hst
  have hPc : va_P g.1 vwCl w H := fr_sub hP hC
  have hDc : va_D A w := hD.sub isC hn hC
  have hFc := va_free (wc := w) hD hS hA isC hC
  refine va_callv (va_runIN (As := As) (rest := rest) ⟨hx, hb, hml, hown, hts⟩ (hM H.size) ⟨va_cnB k hts hT hw rfl rfl hln hini hd hR, hyn, him⟩ ⟨iPk_blind g _ w _, fun U hU hW => ⟨rfl, by rw [hU], hK.warm hW, by rw [hU]; exact hPc, hDc.weaken (fun _ _ _ _ => trivial), va_AO.moved hW.alike hO⟩⟩ rfl hk hsz rfl (lv_room hcat) hdg hf) hS (fun q _ h => hFc q h) hFc (fun u t H1 locs1 ht hvm hw hB hz1 hk1 hS1 => ?_)
  obtain ⟨hP1, hD1⟩ := hB
  rw [ht] at hP1
  exact kk u H1 locs1 hw (fun wr isR hR hn2 hdis => va_join hP hD isC isR hC hR hn2 (fun i hi => by have := List.all_eq_true.mp hdis i hi; simpa using this) hk1 hFc hP1 hD1) hS1
/-- a new row of numbers, of yes and no; a new row of references -/
theorem ic_newa (hx : p.tables.exec = Jvm.exec) (hb : c.code = cc) {atype : ArrayType} (harr : (Cond.arrayClass (newarray.typeOf atype)).before args s = true) {ty : FieldType} (hty : newarray.typeOf atype = ty) (hK : KK g s) {nm : String} (hra : ∀ c : ClassId, va_RA s c ty → s.vm.findClass nm = some c) (t0 : Nat) {cA0 : ClassId} (ht0 : (gT g)[t0]? = some (cA0, ty)) (hP : va_P g.1 vwCl wsx H) (hD : va_D A wsx) (hS : va_S A s.heap H locs) (hA : ∀ q : Nat, s.heap.size ≤ q → A q)
    {N' : Nat} {a0 : vp_A} (ha : ∀ cA : ClassId, vp_cell cA a0 = arrV cA N' (fun _ => defaultValue ty)) (hN : N' < 2 ^ 31) (hbytes : N' * componentBytes ty ≤ 536870912) (hcells : cells + 1 ≤ R.cells) (hslots : slots + N' ≤ R.slots) (hdg : decode cc pc = .ok (.newarray atype, 2))
    (kk : ∀ (q : Nat) (H1 : Heap), va_P g.1 vwCl (wsx ++ [(q, .inl (cA0, a0))]) H1 → va_D A (wsx ++ [(q, .inl (cA0, a0))]) → va_S A s.heap H1 locs → W p l e R s m args below meth c H1 locs (cells + 1) (slots + N') Q (F0 m (pc + 2) ls (.ref q :: rest))) : W p l e R s m args below meth c H locs cells slots Q (F0 m pc ls (.int (nI N') :: rest)) := by
  refine va_newa hx hb harr hty hK.1 hP hD hS hA ha (fun z => nI_pos hN z) (nI_clamp hN) hbytes hcells hslots hdg (fun q cA H1 hK2 hP2 hD2 hS2 => ?_)
  have e1 := hra _ (hK2.2 3 (cA, ty) rfl).2
  have e2 := hra _ (hK.1.2 t0 (cA0, ty) ht0).2
  have e : cA = cA0 := Option.some.inj (e1.symm.trans e2)
  subst e
  exact kk q H1 hP2 hD2 hS2
theorem ic_newq (hx : p.tables.exec = Jvm.exec) (hb : c.code = cc) (hown : s.vm.findClass own = some m.cls) (hclink : (Cond.classLink own index cMap).before args s = true) (hO : va_AO cMap s) (hK : KK g s) (hP : va_P g.1 vwCl wsx H) (hD : va_D A wsx) (hS : va_S A s.heap H locs) (hA : ∀ q : Nat, s.heap.size ≤ q → A q)
    {N' : Nat} (hN : N' < 2 ^ 31) (hbytes : N' * 4 ≤ 536870912) (hcells : cells + 1 ≤ R.cells) (hslots : slots + N' ≤ R.slots) (hdg : decode cc pc = .ok (.anewarray index, 3))
    (kk : ∀ (q : Nat) (H1 : Heap), va_P g.1 vwCl (wsx ++ [(q, .inl (gO g, N', .inr (.inr (.inr (.inr (fun _ => none))))))]) H1 → va_D A (wsx ++ [(q, .inl (gO g, N', .inr (.inr (.inr (.inr (fun _ => none))))))]) → va_S A s.heap H1 locs → W p l e R s m args below meth c H1 locs (cells + 1) (slots + N') Q (F0 m (pc + 3) ls (.ref q :: rest))) : W p l e R s m args below meth c H locs cells slots Q (F0 m pc ls (.int (nI N') :: rest)) := by
  refine va_newq hx hb hown hclink hO hK.1 hP hD hS hA (fun z => nI_pos hN z) (nI_clamp hN) hbytes hcells hslots hdg (fun q cA H1 hK2 hP2 hD2 hS2 => ?_)
  obtain ⟨_, _, _, _, _, e1⟩ := (hK2.2 3 (cA, .object cMap) rfl).2
  obtain ⟨_, _, _, _, _, e2⟩ := (hK.1.2 2 (gO g, .object cMap) rfl).2
  have e : cA = gO g := Option.some.inj (e1.symm.trans e2)
  subst e
  exact kk q H1 hP2 hD2 hS2
/-- the end of a constructor -/
theorem ic_ret {post : va_W → Prop} {w1 : va_W} {k n : Nat} (hx : p.tables.exec = Jvm.exec) (hb : c.code = cc) (hr : meth.sig.returnType = none) (hlocks : meth.locks = false) (hP : va_P g.1 vwCl w1 H) (hD : va_D A w1) (hS : va_S A s.heap H locs) (hpost : post w1) (hc : cells ≤ k) (hs : slots ≤ n) (hdg : decode cc pc = .ok (.return_, 1)) :
    W p l e R s m args below meth c H locs cells slots (MQ below (va_Qv post (iK g A) A) args s k n A) (F0 m pc ls []) := by
  refine W.widen (k := k) (n := n) hc hs ?_
  exact W.vret hx hb hr (fun t ht _ => ⟨⟨w1, rfl, hpost, by rw [ht]; exact hP, hD⟩, hS.F ht⟩) hS.2.2 hdg hlocks
theorem rM0 : rM (fun _ => 0) = fun _ => (0 : Int32) := by funext j; show nI 0 = 0; exact nI_0
end ICC
