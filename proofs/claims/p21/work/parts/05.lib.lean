/-! my rows: the world's kinds, a part of a world put back in its place, a contract in place and its calls -/
abbrev GG : Type := va_G × ClassId × ClassId × ClassId × ClassId
def gI (g : GG) : ClassId := g.2.1
def gZ (g : GG) : ClassId := g.2.2.1
def gO (g : GG) : ClassId := g.2.2.2.1
def gJ (g : GG) : ClassId := g.2.2.2.2
abbrev gT (g : GG) : List (ClassId × FieldType) := [(gI g, .int), (gI g, .int), (gO g, .object "ConceptMarker$ConceptMap")]
abbrev nw0 : Cond := .fieldLinkNest "ConceptMarker" 148 "ConceptMarker$Matching" "best" "LConceptMarker$Row;" "ConceptMarker"
abbrev nw1 : Cond := .fieldLinkNest "ConceptMarker" 69 "ConceptMarker$ConceptMap" "size" "I" "ConceptMarker"
abbrev nw2 : Cond := .fieldLinkNest "ConceptMarker" 87 "ConceptMarker$ConceptMap" "own" "LConceptMarker$LinkSet;" "ConceptMarker"
abbrev nw3 : Cond := .fieldLinkNest "ConceptMarker$Matching" 32 "ConceptMarker$ConceptMap" "size" "I" "ConceptMarker"
abbrev nw4 : Cond := .fieldLinkNest "ConceptMarker$Matching" 44 "ConceptMarker$ConceptMap" "words" "LConceptMarker$Row;" "ConceptMarker"
abbrev nw5 : Cond := .methodLinkNest "ConceptMarker" 11 yX1_init "ConceptMarker"
abbrev nw6 : Cond := .methodLinkNest "ConceptMarker" 36 yX2_init "ConceptMarker"
abbrev nw7 : Cond := .methodLinkNest "ConceptMarker" 49 yX3_init "ConceptMarker"
abbrev nw8 : Cond := .methodLinkNest "ConceptMarker$ConceptMap" 22 yX2_init "ConceptMarker"
abbrev nw9 : Cond := .methodLinkNest "ConceptMarker$Matching" 73 yX6_pointsFor "ConceptMarker"
def KN (U : State) : Prop := (va_Nw nw0 U ∧ va_Nw nw1 U ∧ va_Nw nw2 U ∧ va_Nw nw3 U ∧ va_Nw nw4 U) ∧ (va_Nw nw5 U ∧ va_Nw nw6 U ∧ va_Nw nw7 U ∧ va_Nw nw8 U ∧ va_Nw nw9 U)
theorem KN.warm {s U : State} (hW : s.WarmedH U.vm) (h : KN s) : KN U := by
  obtain ⟨⟨h0, h1, h2, h3, h4⟩, h5, h6, h7, h8, h9⟩ := h
  exact ⟨⟨va_Nw.warmF hW h0, va_Nw.warmF hW h1, va_Nw.warmF hW h2, va_Nw.warmF hW h3, va_Nw.warmF hW h4⟩, va_Nw.warmM hW h5, va_Nw.warmM hW h6, va_Nw.warmM hW h7, va_Nw.warmM hW h8, va_Nw.warmM hW h9⟩
theorem KN.same {u U : State} (hv : u.vm = U.vm) (h : KN u) : KN U := by
  obtain ⟨⟨h0, h1, h2, h3, h4⟩, h5, h6, h7, h8, h9⟩ := h
  exact ⟨⟨va_Nw.same rfl hv h0, va_Nw.same rfl hv h1, va_Nw.same rfl hv h2, va_Nw.same rfl hv h3, va_Nw.same rfl hv h4⟩, va_Nw.same rfl hv h5, va_Nw.same rfl hv h6, va_Nw.same rfl hv h7, va_Nw.same rfl hv h8, va_Nw.same rfl hv h9⟩
def KK (g : GG) (U : State) : Prop := va_K g.1 vwCl (gT g) U ∧ KN U
theorem KK.warm {g : GG} {s U : State} (hW : s.WarmedH U.vm) (h : KK g s) : KK g U := ⟨h.1.moved hW.alike, h.2.warm hW⟩
theorem KK.call {g : GG} {U : State} (f : JFrame) (mk : MethodId) (a : Array Value) (h : KK g U) : KK g (U.calling f mk a) := ⟨va_K.moved (u := U) (U := U.calling f mk a) (Vm.Alike.refl U.vm) h.1, h.2.same rfl⟩
/-- a part of a world is another one now: the whole world, told anew -/
theorem fr_new {A0 : Nat → Prop} {D : va_G} {cl : List vw_C} {ws wc w1 : va_W} {H H1 : Heap} (hP : va_P D cl ws H) (hD : va_D A0 ws) (isC : List Nat) (hC : isC.map (fun i => ws[i]?) = wc.map some)
    (hadr : w1.map Prod.fst = wc.map Prod.fst) (hk : ∀ q : Nat, q < H.size → ¬ va_A wc H.size q → H1[q]? = H[q]?) (hP1 : va_P D cl w1 H1) (ws' : va_W) (isR : List Nat) (n : Nat) (hlen : ws'.length = n)
    (h1 : isC.map (fun i => ws'[i]?) = w1.map some) (wr : va_W) (h2' : isR.map (fun i => ws'[i]?) = wr.map some) (h2'' : isR.map (fun i => ws[i]?) = wr.map some) (hcov : (List.range n).all (fun k => isC.contains k || isR.contains k) = true) (hdis : isR.all (fun i => !isC.contains i) = true) : va_P D cl ws' H1 ∧ va_D A0 ws' := by
  have h2 : isR.map (fun i => ws'[i]?) = isR.map (fun i => ws[i]?) := h2'.trans h2''.symm
  have atL : ∀ {is : List Nat} {w ws : va_W}, is.map (fun i => ws[i]?) = w.map some → ∀ (j i : Nat), is[j]? = some i → ∃ q : Nat × va_E, w[j]? = some q ∧ ws[i]? = some q := by
    intro is w ws hs j i hj
    have h3 : (is.map (fun i => ws[i]?))[j]? = some (ws[i]?) := by rw [List.getElem?_map, hj]; rfl
    rw [hs, List.getElem?_map] at h3
    cases hq : w[j]? with
    | none => rw [hq] at h3; cases h3
    | some q => rw [hq] at h3; exact ⟨q, rfl, (Option.some.inj h3).symm⟩
  have key : ∀ (k : Nat) (q : Nat × va_E), ws'[k]? = some q → (k ∉ isC ∧ ws[k]? = some q) ∨ (∃ (j : Nat) (q0 : Nat × va_E), w1[j]? = some q ∧ ws[k]? = some q0 ∧ q0.1 = q.1) := by
    intro k q hq
    have hkl : k < n := by rw [← hlen]; exact (List.getElem?_eq_some_iff.mp hq).1
    have hc := List.all_eq_true.mp hcov k (List.mem_range.mpr hkl)
    simp only [Bool.or_eq_true, List.contains_iff_mem] at hc
    by_cases hkC : k ∈ isC
    · obtain ⟨j, hj⟩ := List.getElem?_of_mem hkC
      obtain ⟨q1, a1, a2⟩ := atL h1 j k hj
      obtain ⟨q0, b1, b2⟩ := atL hC j k hj
      rw [hq] at a2
      cases a2
      refine Or.inr ⟨j, q0, a1, b2, ?_⟩
      have h3 : (w1.map Prod.fst)[j]? = some q.1 := by rw [List.getElem?_map, a1]; rfl
      rw [hadr, List.getElem?_map, b1] at h3
      exact Option.some.inj h3
    · have hkR : k ∈ isR := hc.resolve_left hkC
      obtain ⟨j, hj⟩ := List.getElem?_of_mem hkR
      have h3 : (isR.map (fun i => ws'[i]?))[j]? = some (ws'[k]?) := by rw [List.getElem?_map, hj]; rfl
      have h4 : (isR.map (fun i => ws[i]?))[j]? = some (ws[k]?) := by rw [List.getElem?_map, hj]; rfl
      rw [h2, h4] at h3
      exact Or.inl ⟨hkC, (Option.some.inj h3).trans hq⟩
  have adr : ∀ (k : Nat) (q : Nat × va_E), ws'[k]? = some q → ∃ q0 : Nat × va_E, ws[k]? = some q0 ∧ q0.1 = q.1 := by
    intro k q hq
    rcases key k q hq with ⟨-, h⟩ | ⟨j, q0, -, h, e⟩
    · exact ⟨q, h, rfl⟩
    · exact ⟨q0, h, e⟩
  refine ⟨fun k q hq => ?_, fun i j x y hi hj hxy => ?_, fun k q hq => ?_⟩
  · rcases key k q hq with ⟨hk0, h⟩ | ⟨j, q0, h1, -, -⟩
    · refine (hP k q h).kept (hk q.1 (hP k q h).lt (fun hA => ?_))
      rcases hA with ⟨j, e, hw⟩ | hs
      · have hlC : isC.length = wc.length := by have := congrArg List.length hC; simpa using this
        have hj : j < isC.length := by rw [hlC]; exact (List.getElem?_eq_some_iff.mp hw).1
        obtain ⟨q0, g1, g2⟩ := atL hC j isC[j] (List.getElem?_eq_getElem hj)
        rw [hw] at g1
        cases g1
        exact hk0 (by rw [hD.1 k isC[j] q (q.1, e) h g2 rfl]; exact List.getElem_mem hj)
      · exact absurd (hP k q h).lt (Nat.not_lt.mpr hs)
    · exact hP1 j q h1
  · obtain ⟨x0, a1, a2⟩ := adr i x hi
    obtain ⟨y0, b1, b2⟩ := adr j y hj
    exact hD.1 i j x0 y0 a1 b1 (a2.trans (hxy.trans b2.symm))
  · obtain ⟨q0, a1, a2⟩ := adr k q hq
    rw [← a2]
    exact hD.2 k q0 a1
/-- what a call gives back of the world -/
def fr_B (D : va_G) (cl : List vw_C) (A0 : Nat → Prop) (ws : va_W) (isC : List Nat) (w1 : va_W) (H1 : Heap) : Prop :=
  ∀ (ws' : va_W) (isR : List Nat) (n : Nat), ws'.length = n → isC.map (fun i => ws'[i]?) = w1.map some → ∀ wr : va_W, isR.map (fun i => ws'[i]?) = wr.map some → isR.map (fun i => ws[i]?) = wr.map some → (List.range n).all (fun k => isC.contains k || isR.contains k) = true → isR.all (fun i => !isC.contains i) = true → va_P D cl ws' H1 ∧ va_D A0 ws'
/-- room by levels -/
abbrev rmL (n : Nat) : Room := { frames := n, cells := 0, slots := 0, locals := 40 * n }
/-- a contract in place: the cells w stay where they are, what they hold then is told by post -/
def iPc (g : GG) (av : List Value) (w : va_W) (sz : Nat) : Array Value → State → Prop := va_Pc av (fun U => U.heap.size = sz ∧ KK g U ∧ va_P g.1 vwCl w U.heap ∧ va_D (fun _ => True) w)
def iB (g : GG) (w : va_W) : va_W → State → Prop := fun w1 t => va_P g.1 vwCl w1 t.heap ∧ w1.map Prod.fst = w.map Prod.fst
def IM (l : Launch) (y : MethodName) (ws : List Cond) (n : Nat) (g : GG) (av : List Value) (w : va_W) (post : Int32 → va_W → Prop) : Prop :=
  ∀ sz : Nat, Met l y ws (rmL n) (iPc g av w sz) (va_Qi post (iB g w) (va_A w sz)) 0 0 (va_A w sz)
def IMv (l : Launch) (y : MethodName) (ws : List Cond) (n : Nat) (g : GG) (av : List Value) (w : va_W) (post : va_W → Prop) : Prop :=
  ∀ sz : Nat, Met l y ws (rmL n) (iPc g av w sz) (va_Qv post (iB g w) (va_A w sz)) 0 0 (va_A w sz)
def iBr (g : GG) (w : va_W) (post : Nat → va_W → Prop) : va_W → Nat → State → Prop := fun u a t => post a u ∧ iB g w u t
def IMr (l : Launch) (y : MethodName) (ws : List Cond) (n : Nat) (g : GG) (av : List Value) (w : va_W) (post : Nat → va_W → Prop) : Prop :=
  ∀ sz : Nat, Met l y ws (rmL n) (iPc g av w sz) (va_Qr (fun _ : va_W => True) (iBr g w post) (va_A w sz)) 0 0 (va_A w sz)
theorem iPc_blind (g : GG) (av : List Value) (w : va_W) (sz : Nat) : FrameBlind (iPc g av w sz) := fun a U f mk h => by
  obtain ⟨h1, h2, h3, h4, h5⟩ := h
  exact ⟨h1, h2, h3.call f mk a, h4, h5⟩
section IM1
variable {l : Launch} {y : MethodName} {ws ws' : List Cond} {n maxL : Nat} {g : GG} {av : List Value} {w : va_W} {cc : ByteArray} {ret : Option FieldType}
/-- the start of a walk: all that each row asks for -/
theorem im_body {Qc : (Nat → Prop) → Array Value → State → Outcome → State → Prop} (hy : plainName y.cls = true) (hw : ws = Cond.code y cc maxL ret :: ws') (hav : (lg_sl av).length ≤ maxL)
    (body : ∀ (p : Program) (e : Env) (s : State) (m : MethodId) (below : List Frame) (meth : Method) (c : Code) (A : Nat → Prop), p.tables.exec = Jvm.exec → c.code = cc → meth.sig.returnType = ret → c.maxLocals = maxL → (∀ x ∈ ws, x.before av.toArray s = true) → s.vm.findClass y.cls = some m.cls → meth.locks = false →
      KK g s → (∀ q : Nat, s.heap.size ≤ q → A q) → ∀ H : Heap, va_P g.1 vwCl w H → va_D A w → va_S A s.heap H [] → ∀ ls : Array Slot, lv_has ls maxL (lv_args 0 av) → W p l e (rmL n) s m av.toArray below meth c H [] 0 0 (MQ below (Qc A) av.toArray s 0 0 A) (F0 m 0 ls [])) (sz : Nat) : Met l y ws (rmL n) (iPc g av w sz) (Qc (va_A w sz)) 0 0 (va_A w sz) := by
  refine Met.ofW (cc := cc) (maxL := maxL) (ret := ret) hy hw ?_
  intro p e s m args below meth c s₁ B hml hv
  obtain ⟨rfl, hsz, hK, hP, hD⟩ := hv
  subst hsz
  have hb := body p e s m below meth c (va_A w s.heap.size) B.exec B.bytes B.returns hml (atoms_spec (ws := ws) B.pre) (findClass_of_methodNamed B.named) B.notSynchronized hK (fun q h => Or.inr h) s.heap hP (hD.self) va_S.rf _ (lv_entry av hav)
  rw [lg_entry_eq]
  exact hb
end IM1
theorem fr_sub {D : va_G} {cl : List vw_C} {ws wc : va_W} {H : Heap} (hP : va_P D cl ws H) {isC : List Nat} (hC : isC.map (fun i => ws[i]?) = wc.map some) : va_P D cl wc H := by
  intro k q hq
  have h1 : (isC.map (fun i => ws[i]?))[k]? = some (some q) := by rw [hC, List.getElem?_map, hq]; rfl
  rw [List.getElem?_map] at h1
  cases hi : isC[k]? with
  | none => rw [hi] at h1; cases h1
  | some i => rw [hi] at h1; exact hP i q (Option.some.inj h1)
section IMC
variable {p : Program} {l : Launch} {e : Env} {R : Room} {s : State} {m : MethodId} {args : Array Value} {below : List Frame} {meth : Method} {c : Code} {H : Heap} {locs : List Loc} {cells slots : Nat} {Q : State → Prop}
variable {pc : Nat} {ls : Array Slot} {rest st0 As : List Value} {A : Nat → Prop} {g : GG} {wsx w : va_W} {Ts ws ws' : List Cond} {cc bytes : ByteArray} {nL maxL index n k b : Nat} {own C host : String} {y : MethodName} {ret : Option FieldType}
theorem im_V {post : Int32 → va_W → Prop} (hx : p.tables.exec = Jvm.exec) (hb : c.code = cc) (hml : c.maxLocals = nL) (hown : s.vm.findClass own = some m.cls) (hts : ∀ x ∈ Ts, x.before args s = true) (hM : IM l y ws n g (.ref b :: As) w post) (hT : GoodIn Ts (wsV own index C y ws)) (hw : ws = Cond.code y bytes maxL ret :: ws')
    (hd : y.cls = C ∧ y.cls ≠ "java/lang/invoke/MethodHandle" ∧ y.cls ≠ "java/lang/invoke/VarHandle" ∧ (parseMethodDescriptor y.desc).map (fun d => d.parameters.length) = some k) (hR : n + 1 ≤ R.frames ∧ 8 + (maxL + 11) + 40 * n ≤ R.locals) (hf : cells ≤ R.cells ∧ slots ≤ R.slots)
    (hK : KK g s) (hP : va_P g.1 vwCl wsx H) (hD : va_D A wsx) (hS : va_S A s.heap H locs) (hA : ∀ q : Nat, s.heap.size ≤ q → A q) (isC : List Nat) (hC : isC.map (fun i => wsx[i]?) = w.map some) (hn : va_nd isC = true) (q0 ci : Nat) {T : u_T} {N : Nat} {fs : List Value} (hcl : vwCl[ci]? = some (C, T, N)) (hrec : wsx[q0]? = some (b, .inr (ci, fs)))
    (hk : As.length = k) (hsz : ls.size = nL) (hst : st0 = As.reverse ++ .ref b :: rest) (hcat : (rest.map fun v => v.category).sum ≤ 8) (hdg : decode cc pc = .ok (.invokevirtual index, 3))
    (kk : ∀ (x : Int32) (w1 : va_W) (H1 : Heap) (locs1 : List Loc), post x w1 → fr_B g.1 vwCl A wsx isC w1 H1 → va_S A s.heap H1 locs1 → W p l e R s m args below meth c H1 locs1 cells slots Q (F0 m (pc + 3) ls (.int x :: rest))) : W p l e R s m args below meth c H locs cells slots Q (F0 m pc ls st0) := by
  subst hst
  have hPc : va_P g.1 vwCl w H := fr_sub hP hC
  have hDc : va_D A w := hD.sub isC hn hC
  have hFc := va_free (wc := w) hD hS hA isC hC
  refine va_calli (va_runV (As := As) (rest := rest) ⟨hx, hb, hml, hown, hts⟩ (hM H.size) (cwV k hts hT hw rfl rfl hd hR) ⟨iPc_blind g _ w _, va_recv hK.1 hP hcl hrec, fun U hU hW => ⟨rfl, by rw [hU], hK.warm hW, by rw [hU]; exact hPc, hDc.weaken (fun _ _ _ _ => trivial)⟩⟩ rfl hk hsz rfl (lv_room hcat) hdg hf) hS (fun q _ h => hFc q h) hFc (fun r u t H1 locs1 ht hvm hw hB hz1 hk1 hS1 => ?_)
  obtain ⟨hP1, hadr⟩ := hB
  rw [ht] at hP1
  exact kk r u H1 locs1 hw (fun ws' isR n a1 a2 wr a3 b3 a4 a5 => fr_new hP hD isC hC hadr hk1 hP1 ws' isR n a1 a2 wr a3 b3 a4 a5) hS1
theorem im_Vv {post : va_W → Prop} (hx : p.tables.exec = Jvm.exec) (hb : c.code = cc) (hml : c.maxLocals = nL) (hown : s.vm.findClass own = some m.cls) (hts : ∀ x ∈ Ts, x.before args s = true) (hM : IMv l y ws n g (.ref b :: As) w post) (hT : GoodIn Ts (wsV own index C y ws)) (hw : ws = Cond.code y bytes maxL ret :: ws')
    (hd : y.cls = C ∧ y.cls ≠ "java/lang/invoke/MethodHandle" ∧ y.cls ≠ "java/lang/invoke/VarHandle" ∧ (parseMethodDescriptor y.desc).map (fun d => d.parameters.length) = some k) (hR : n + 1 ≤ R.frames ∧ 8 + (maxL + 11) + 40 * n ≤ R.locals) (hf : cells ≤ R.cells ∧ slots ≤ R.slots)
    (hK : KK g s) (hP : va_P g.1 vwCl wsx H) (hD : va_D A wsx) (hS : va_S A s.heap H locs) (hA : ∀ q : Nat, s.heap.size ≤ q → A q) (isC : List Nat) (hC : isC.map (fun i => wsx[i]?) = w.map some) (hn : va_nd isC = true) (q0 ci : Nat) {T : u_T} {N : Nat} {fs : List Value} (hcl : vwCl[ci]? = some (C, T, N)) (hrec : wsx[q0]? = some (b, .inr (ci, fs)))
    (hk : As.length = k) (hsz : ls.size = nL) (hst : st0 = As.reverse ++ .ref b :: rest) (hcat : (rest.map fun v => v.category).sum ≤ 8) (hdg : decode cc pc = .ok (.invokevirtual index, 3))
    (kk : ∀ (w1 : va_W) (H1 : Heap) (locs1 : List Loc), post w1 → fr_B g.1 vwCl A wsx isC w1 H1 → va_S A s.heap H1 locs1 → W p l e R s m args below meth c H1 locs1 cells slots Q (F0 m (pc + 3) ls rest)) : W p l e R s m args below meth c H locs cells slots Q (F0 m pc ls st0) := by
  subst hst
  have hPc : va_P g.1 vwCl w H := fr_sub hP hC
  have hDc : va_D A w := hD.sub isC hn hC
  have hFc := va_free (wc := w) hD hS hA isC hC
  refine va_callv (va_runV (As := As) (rest := rest) ⟨hx, hb, hml, hown, hts⟩ (hM H.size) (cwV k hts hT hw rfl rfl hd hR) ⟨iPc_blind g _ w _, va_recv hK.1 hP hcl hrec, fun U hU hW => ⟨rfl, by rw [hU], hK.warm hW, by rw [hU]; exact hPc, hDc.weaken (fun _ _ _ _ => trivial)⟩⟩ rfl hk hsz rfl (lv_room hcat) hdg hf) hS (fun q _ h => hFc q h) hFc (fun u t H1 locs1 ht hvm hw hB hz1 hk1 hS1 => ?_)
  obtain ⟨hP1, hadr⟩ := hB
  rw [ht] at hP1
  exact kk u H1 locs1 hw (fun ws' isR n a1 a2 wr a3 b3 a4 a5 => fr_new hP hD isC hC hadr hk1 hP1 ws' isR n a1 a2 wr a3 b3 a4 a5) hS1
theorem im_Vr {post : Nat → va_W → Prop} (hx : p.tables.exec = Jvm.exec) (hb : c.code = cc) (hml : c.maxLocals = nL) (hown : s.vm.findClass own = some m.cls) (hts : ∀ x ∈ Ts, x.before args s = true) (hM : IMr l y ws n g (.ref b :: As) w post) (hT : GoodIn Ts (wsV own index C y ws)) (hw : ws = Cond.code y bytes maxL ret :: ws')
    (hd : y.cls = C ∧ y.cls ≠ "java/lang/invoke/MethodHandle" ∧ y.cls ≠ "java/lang/invoke/VarHandle" ∧ (parseMethodDescriptor y.desc).map (fun d => d.parameters.length) = some k) (hR : n + 1 ≤ R.frames ∧ 8 + (maxL + 11) + 40 * n ≤ R.locals) (hf : cells ≤ R.cells ∧ slots ≤ R.slots)
    (hK : KK g s) (hP : va_P g.1 vwCl wsx H) (hD : va_D A wsx) (hS : va_S A s.heap H locs) (hA : ∀ q : Nat, s.heap.size ≤ q → A q) (isC : List Nat) (hC : isC.map (fun i => wsx[i]?) = w.map some) (hn : va_nd isC = true) (q0 ci : Nat) {T : u_T} {N : Nat} {fs : List Value} (hcl : vwCl[ci]? = some (C, T, N)) (hrec : wsx[q0]? = some (b, .inr (ci, fs)))
    (hk : As.length = k) (hsz : ls.size = nL) (hst : st0 = As.reverse ++ .ref b :: rest) (hcat : (rest.map fun v => v.category).sum ≤ 8) (hdg : decode cc pc = .ok (.invokevirtual index, 3))
    (kk : ∀ (x1 : Nat) (w1 : va_W) (H1 : Heap) (locs1 : List Loc), post x1 w1 → fr_B g.1 vwCl A wsx isC w1 H1 → va_S A s.heap H1 locs1 → W p l e R s m args below meth c H1 locs1 cells slots Q (F0 m (pc + 3) ls (.ref x1 :: rest))) : W p l e R s m args below meth c H locs cells slots Q (F0 m pc ls st0) := by
  subst hst
  have hPc : va_P g.1 vwCl w H := fr_sub hP hC
  have hDc : va_D A w := hD.sub isC hn hC
  have hFc := va_free (wc := w) hD hS hA isC hC
  refine va_callr (va_runV (As := As) (rest := rest) ⟨hx, hb, hml, hown, hts⟩ (hM H.size) (cwV k hts hT hw rfl rfl hd hR) ⟨iPc_blind g _ w _, va_recv hK.1 hP hcl hrec, fun U hU hW => ⟨rfl, by rw [hU], hK.warm hW, by rw [hU]; exact hPc, hDc.weaken (fun _ _ _ _ => trivial)⟩⟩ rfl hk hsz rfl (lv_room hcat) hdg hf) hS (fun q _ h => hFc q h) hFc (fun u ra t H1 locs1 ht hvm hw hB hz1 hk1 hS1 => ?_)
  obtain ⟨hpo, hP1, hadr⟩ := hB
  rw [ht] at hP1
  exact kk ra u H1 locs1 hpo (fun ws' isR n a1 a2 wr a3 b3 a4 a5 => fr_new hP hD isC hC hadr hk1 hP1 ws' isR n a1 a2 wr a3 b3 a4 a5) hS1
theorem im_S {post : Int32 → va_W → Prop} (hx : p.tables.exec = Jvm.exec) (hb : c.code = cc) (hml : c.maxLocals = nL) (hown : s.vm.findClass own = some m.cls) (hts : ∀ x ∈ Ts, x.before args s = true) (hM : IM l y ws n g As w post) (hT : GoodIn Ts (va_wsS own index y ws)) (hw : ws = Cond.code y bytes maxL ret :: ws')
    (hd : y.cls ≠ "java/lang/invoke/MethodHandle" ∧ y.cls ≠ "java/lang/invoke/VarHandle" ∧ (parseMethodDescriptor y.desc).map (fun d => d.parameters.length) = some k) (hR : n + 1 ≤ R.frames ∧ 8 + (maxL + 11) + 40 * n ≤ R.locals) (hf : cells ≤ R.cells ∧ slots ≤ R.slots)
    (hK : KK g s) (hP : va_P g.1 vwCl wsx H) (hD : va_D A wsx) (hS : va_S A s.heap H locs) (hA : ∀ q : Nat, s.heap.size ≤ q → A q) (isC : List Nat) (hC : isC.map (fun i => wsx[i]?) = w.map some) (hn : va_nd isC = true)
    (hk : As.length = k) (hsz : ls.size = nL) (hst : st0 = As.reverse ++ rest) (hcat : (rest.map fun v => v.category).sum ≤ 8) (hdg : decode cc pc = .ok (.invokestatic index, 3))
    (kk : ∀ (x : Int32) (w1 : va_W) (H1 : Heap) (locs1 : List Loc), post x w1 → fr_B g.1 vwCl A wsx isC w1 H1 → va_S A s.heap H1 locs1 → W p l e R s m args below meth c H1 locs1 cells slots Q (F0 m (pc + 3) ls (.int x :: rest))) : W p l e R s m args below meth c H locs cells slots Q (F0 m pc ls st0) := by
  subst hst
  have hPc : va_P g.1 vwCl w H := fr_sub hP hC
  have hDc : va_D A w := hD.sub isC hn hC
  have hFc := va_free (wc := w) hD hS hA isC hC
  refine va_calli (va_runS (As := As) (rest := rest) ⟨hx, hb, hml, hown, hts⟩ (hM H.size) (va_cwS k hts hT hw rfl rfl hd hR) ⟨iPc_blind g _ w _, fun U hU hW => ⟨rfl, by rw [hU], hK.warm hW, by rw [hU]; exact hPc, hDc.weaken (fun _ _ _ _ => trivial)⟩⟩ rfl hk hsz rfl (lv_room hcat) hdg hf) hS (fun q _ h => hFc q h) hFc (fun r u t H1 locs1 ht hvm hw hB hz1 hk1 hS1 => ?_)
  obtain ⟨hP1, hadr⟩ := hB
  rw [ht] at hP1
  exact kk r u H1 locs1 hw (fun ws' isR n a1 a2 wr a3 b3 a4 a5 => fr_new hP hD isC hC hadr hk1 hP1 ws' isR n a1 a2 wr a3 b3 a4 a5) hS1
theorem im_Sv {post : va_W → Prop} (hx : p.tables.exec = Jvm.exec) (hb : c.code = cc) (hml : c.maxLocals = nL) (hown : s.vm.findClass own = some m.cls) (hts : ∀ x ∈ Ts, x.before args s = true) (hM : IMv l y ws n g As w post) (hT : GoodIn Ts (va_wsS own index y ws)) (hw : ws = Cond.code y bytes maxL ret :: ws')
    (hd : y.cls ≠ "java/lang/invoke/MethodHandle" ∧ y.cls ≠ "java/lang/invoke/VarHandle" ∧ (parseMethodDescriptor y.desc).map (fun d => d.parameters.length) = some k) (hR : n + 1 ≤ R.frames ∧ 8 + (maxL + 11) + 40 * n ≤ R.locals) (hf : cells ≤ R.cells ∧ slots ≤ R.slots)
    (hK : KK g s) (hP : va_P g.1 vwCl wsx H) (hD : va_D A wsx) (hS : va_S A s.heap H locs) (hA : ∀ q : Nat, s.heap.size ≤ q → A q) (isC : List Nat) (hC : isC.map (fun i => wsx[i]?) = w.map some) (hn : va_nd isC = true)
    (hk : As.length = k) (hsz : ls.size = nL) (hst : st0 = As.reverse ++ rest) (hcat : (rest.map fun v => v.category).sum ≤ 8) (hdg : decode cc pc = .ok (.invokestatic index, 3))
    (kk : ∀ (w1 : va_W) (H1 : Heap) (locs1 : List Loc), post w1 → fr_B g.1 vwCl A wsx isC w1 H1 → va_S A s.heap H1 locs1 → W p l e R s m args below meth c H1 locs1 cells slots Q (F0 m (pc + 3) ls rest)) : W p l e R s m args below meth c H locs cells slots Q (F0 m pc ls st0) := by
  subst hst
  have hPc : va_P g.1 vwCl w H := fr_sub hP hC
  have hDc : va_D A w := hD.sub isC hn hC
  have hFc := va_free (wc := w) hD hS hA isC hC
  refine va_callv (va_runS (As := As) (rest := rest) ⟨hx, hb, hml, hown, hts⟩ (hM H.size) (va_cwS k hts hT hw rfl rfl hd hR) ⟨iPc_blind g _ w _, fun U hU hW => ⟨rfl, by rw [hU], hK.warm hW, by rw [hU]; exact hPc, hDc.weaken (fun _ _ _ _ => trivial)⟩⟩ rfl hk hsz rfl (lv_room hcat) hdg hf) hS (fun q _ h => hFc q h) hFc (fun u t H1 locs1 ht hvm hw hB hz1 hk1 hS1 => ?_)
  obtain ⟨hP1, hadr⟩ := hB
  rw [ht] at hP1
  exact kk u H1 locs1 hw (fun ws' isR n a1 a2 wr a3 b3 a4 a5 => fr_new hP hD isC hC hadr hk1 hP1 ws' isR n a1 a2 wr a3 b3 a4 a5) hS1
theorem im_SN {post : Int32 → va_W → Prop} (hx : p.tables.exec = Jvm.exec) (hb : c.code = cc) (hml : c.maxLocals = nL) (hown : s.vm.findClass own = some m.cls) (hts : ∀ x ∈ Ts, x.before args s = true) (hM : IM l y ws n g As w post) (hT : GoodIn Ts ws) (hw : ws = Cond.code y bytes maxL ret :: ws') (hln : va_Nw (.methodLinkNest own index y host) s) (hini : (Cond.initialized y.cls).before args s = true) (hstt : (Cond.static y).before args s = true)
    (hd : y.cls ≠ "java/lang/invoke/MethodHandle" ∧ y.cls ≠ "java/lang/invoke/VarHandle" ∧ (parseMethodDescriptor y.desc).map (fun d => d.parameters.length) = some k) (hR : n + 1 ≤ R.frames ∧ 8 + (maxL + 11) + 40 * n ≤ R.locals) (hf : cells ≤ R.cells ∧ slots ≤ R.slots)
    (hK : KK g s) (hP : va_P g.1 vwCl wsx H) (hD : va_D A wsx) (hS : va_S A s.heap H locs) (hA : ∀ q : Nat, s.heap.size ≤ q → A q) (isC : List Nat) (hC : isC.map (fun i => wsx[i]?) = w.map some) (hn : va_nd isC = true)
    (hk : As.length = k) (hsz : ls.size = nL) (hst : st0 = As.reverse ++ rest) (hcat : (rest.map fun v => v.category).sum ≤ 8) (hdg : decode cc pc = .ok (.invokestatic index, 3))
    (kk : ∀ (x : Int32) (w1 : va_W) (H1 : Heap) (locs1 : List Loc), post x w1 → fr_B g.1 vwCl A wsx isC w1 H1 → va_S A s.heap H1 locs1 → W p l e R s m args below meth c H1 locs1 cells slots Q (F0 m (pc + 3) ls (.int x :: rest))) : W p l e R s m args below meth c H locs cells slots Q (F0 m pc ls st0) := by
  subst hst
  have hPc : va_P g.1 vwCl w H := fr_sub hP hC
  have hDc : va_D A w := hD.sub isC hn hC
  have hFc := va_free (wc := w) hD hS hA isC hC
  refine va_calli (va_runSN (As := As) (rest := rest) ⟨hx, hb, hml, hown, hts⟩ (hM H.size) ⟨va_cnB k hts hT hw rfl rfl hln hini hd hR, hstt, trivial⟩ ⟨iPc_blind g _ w _, fun U hU hW => ⟨rfl, by rw [hU], hK.warm hW, by rw [hU]; exact hPc, hDc.weaken (fun _ _ _ _ => trivial)⟩⟩ rfl hk hsz rfl (lv_room hcat) hdg hf) hS (fun q _ h => hFc q h) hFc (fun r u t H1 locs1 ht hvm hw hB hz1 hk1 hS1 => ?_)
  obtain ⟨hP1, hadr⟩ := hB
  rw [ht] at hP1
  exact kk r u H1 locs1 hw (fun ws' isR n a1 a2 wr a3 b3 a4 a5 => fr_new hP hD isC hC hadr hk1 hP1 ws' isR n a1 a2 wr a3 b3 a4 a5) hS1
/-- the ends -/
theorem im_ret {post : Int32 → va_W → Prop} {w1 : va_W} {v : Int32} (hx : p.tables.exec = Jvm.exec) (hb : c.code = cc) (hr : meth.sig.returnType = some .int) (hlocks : meth.locks = false) (hP : va_P g.1 vwCl w1 H) (hS : va_S A s.heap H locs) (hadr : w1.map Prod.fst = w.map Prod.fst) (hpost : post v w1) (hdg : decode cc pc = .ok (.ireturn, 1)) :
    W p l e R s m args below meth c H locs cells slots (MQ below (va_Qi post (iB g w) A) args s cells slots A) (F0 m pc ls [.int v]) :=
  W.iret (v := v) hx hb hr (fun t ht _ => ⟨⟨v, w1, rfl, hpost, by rw [ht]; exact hP, hadr⟩, hS.F ht⟩) hS.2.2 hdg hlocks
theorem im_retz {post : Int32 → va_W → Prop} {w1 : va_W} {v : Int32} (hx : p.tables.exec = Jvm.exec) (hb : c.code = cc) (hr : meth.sig.returnType = some .boolean) (hlocks : meth.locks = false) (hP : va_P g.1 vwCl w1 H) (hS : va_S A s.heap H locs) (hadr : w1.map Prod.fst = w.map Prod.fst) (hpost : post v w1) (hnar : narrow .boolean (.int v) = .int v) (hdg : decode cc pc = .ok (.ireturn, 1)) :
    W p l e R s m args below meth c H locs cells slots (MQ below (va_Qi post (iB g w) A) args s cells slots A) (F0 m pc ls [.int v]) :=
  W.zret (v := v) hx hb hr hnar (fun t ht _ => ⟨⟨v, w1, rfl, hpost, by rw [ht]; exact hP, hadr⟩, hS.F ht⟩) hS.2.2 hdg hlocks
theorem im_retr {post : Nat → va_W → Prop} {w1 : va_W} {a : Nat} {rc : String} (hx : p.tables.exec = Jvm.exec) (hb : c.code = cc) (hr : meth.sig.returnType = some (.object rc)) (hlocks : meth.locks = false) (hP : va_P g.1 vwCl w1 H) (hS : va_S A s.heap H locs) (hadr : w1.map Prod.fst = w.map Prod.fst) (hpost : post a w1) (hdg : decode cc pc = .ok (.areturn, 1)) :
    W p l e R s m args below meth c H locs cells slots (MQ below (va_Qr (fun _ : va_W => True) (iBr g w post) A) args s cells slots A) (F0 m pc ls [.ref a]) :=
  W.aret hx hb hr (Or.inl ⟨rc, rfl⟩) (Or.inr ⟨a, rfl⟩) (fun t ht _ => ⟨⟨w1, a, rfl, trivial, hpost, by rw [ht]; exact hP, hadr⟩, hS.F ht⟩) hS.2.2 hdg hlocks
theorem im_retv {post : va_W → Prop} {w1 : va_W} (hx : p.tables.exec = Jvm.exec) (hb : c.code = cc) (hr : meth.sig.returnType = none) (hlocks : meth.locks = false) (hP : va_P g.1 vwCl w1 H) (hS : va_S A s.heap H locs) (hadr : w1.map Prod.fst = w.map Prod.fst) (hpost : post w1) (hdg : decode cc pc = .ok (.return_, 1)) :
    W p l e R s m args below meth c H locs cells slots (MQ below (va_Qv post (iB g w) A) args s cells slots A) (F0 m pc ls []) :=
  W.vret hx hb hr (fun t ht _ => ⟨⟨w1, rfl, hpost, by rw [ht]; exact hP, hadr⟩, hS.F ht⟩) hS.2.2 hdg hlocks
end IMC
/-! rows on small naturals: the numbers on the stack are nI n -/
def b2i (b : Bool) : Int32 := if b then 1 else 0
theorem b2i_nar (b : Bool) : narrow .boolean (.int (b2i b)) = .int (b2i b) := by cases b <;> rfl
theorem b2i_0 (b : Bool) : b2i b = 0 ↔ b = false := by cases b <;> decide
def oI (o : Option Nat) : Int32 := match o with
  | none => -1
  | some k => nI k
theorem nI_bound {a : Nat} (h : a < 2 ^ 31) : (nI a).toInt = (a : Int) := nI_toInt h
theorem vp_in_lt {j n : Nat} (h : j < n) (hn : n < 2 ^ 31 := by omega) : vp_in (nI j) n := vp_in_nI h hn
theorem nI_fit (a : Nat) : narrow .int (.int (nI a)) = .int (nI a) := rfl
section NV
variable {p : Program} {l : Launch} {e : Env} {R : Room} {s : State} {m : MethodId} {args : Array Value} {below : List Frame} {meth : Method} {c : Code} {H : Heap} {locs : List Loc} {cells slots : Nat} {Q : State → Prop}
variable {pc : Nat} {ls : Array Slot} {rest : List Value} {cc : ByteArray}
theorem nv_iadd (hx : p.tables.exec = Jvm.exec) (hb : c.code = cc) {a b : Nat} (hdg : decode cc pc = .ok (.iadd, 1)) (k : W p l e R s m args below meth c H locs cells slots Q (F0 m (pc + 1) ls (.int (nI (a + b)) :: rest))) : W p l e R s m args below meth c H locs cells slots Q (F0 m pc ls (.int (nI b) :: .int (nI a) :: rest)) :=
  lv_iadd hx hb hdg (by rw [nI_add]; exact k)
theorem nv_imul (hx : p.tables.exec = Jvm.exec) (hb : c.code = cc) {a b : Nat} (hdg : decode cc pc = .ok (.imul, 1)) (k : W p l e R s m args below meth c H locs cells slots Q (F0 m (pc + 1) ls (.int (nI (a * b)) :: rest))) : W p l e R s m args below meth c H locs cells slots Q (F0 m pc ls (.int (nI b) :: .int (nI a) :: rest)) :=
  lv_imul hx hb hdg (by rw [pk_mul]; exact k)
theorem nv_isub (hx : p.tables.exec = Jvm.exec) (hb : c.code = cc) {a b : Nat} (h : b ≤ a) (hdg : decode cc pc = .ok (.isub, 1)) (k : W p l e R s m args below meth c H locs cells slots Q (F0 m (pc + 1) ls (.int (nI (a - b)) :: rest))) : W p l e R s m args below meth c H locs cells slots Q (F0 m pc ls (.int (nI b) :: .int (nI a) :: rest)) :=
  lv_isub hx hb hdg (by rw [pk_sub h]; exact k)
theorem nv_idiv (hx : p.tables.exec = Jvm.exec) (hb : c.code = cc) {a b : Nat} (ha : a < 2 ^ 31) (h0 : 0 < b) (hb2 : b < 2 ^ 31) (hdg : decode cc pc = .ok (.idiv, 1)) (k : W p l e R s m args below meth c H locs cells slots Q (F0 m (pc + 1) ls (.int (nI (a / b)) :: rest))) : W p l e R s m args below meth c H locs cells slots Q (F0 m pc ls (.int (nI b) :: .int (nI a) :: rest)) :=
  lv_idiv hx hb hdg (nI_ne0 h0 hb2) (by rw [pk_div ha h0 hb2]; exact k)
theorem nv_irem (hx : p.tables.exec = Jvm.exec) (hb : c.code = cc) {a b : Nat} (ha : a < 2 ^ 31) (h0 : 0 < b) (hb2 : b < 2 ^ 31) (hdg : decode cc pc = .ok (.irem, 1)) (k : W p l e R s m args below meth c H locs cells slots Q (F0 m (pc + 1) ls (.int (nI (a % b)) :: rest))) : W p l e R s m args below meth c H locs cells slots Q (F0 m pc ls (.int (nI b) :: .int (nI a) :: rest)) :=
  lv_irem hx hb hdg (nI_ne0 h0 hb2) (by rw [pk_rem ha h0 hb2]; exact k)
theorem nI_and (a b : Nat) : nI a &&& nI b = nI (a &&& b) := by
  apply Int32.toBitVec_inj.mp
  show BitVec.ofNat 32 a &&& BitVec.ofNat 32 b = BitVec.ofNat 32 (a &&& b)
  simp [BitVec.ofNat_and]
theorem nI_or (a b : Nat) : nI a ||| nI b = nI (a ||| b) := by
  apply Int32.toBitVec_inj.mp
  show BitVec.ofNat 32 a ||| BitVec.ofNat 32 b = BitVec.ofNat 32 (a ||| b)
  simp [BitVec.ofNat_or]
theorem nI_xor (a b : Nat) : nI a ^^^ nI b = nI (a ^^^ b) := by
  apply Int32.toBitVec_inj.mp
  show BitVec.ofNat 32 a ^^^ BitVec.ofNat 32 b = BitVec.ofNat 32 (a ^^^ b)
  simp [BitVec.ofNat_xor]
theorem nI_sl : ∀ n, n < 32 → ((nI n &&& 31).toBitVec.smod 32).toNat = n := by decide +kernel
theorem nI_shl {a k : Nat} (hk : k < 32) (h : a * 2 ^ k < 2 ^ 32) : nI a <<< (nI k &&& 31) = nI (a <<< k) := by
  rw [pk_shlN (nI k &&& 31) k (nI_sl k hk) h, Nat.shiftLeft_eq]
theorem nI_shr {a k : Nat} (hk : k < 32) (h : a < 2 ^ 31) : nI a >>> (nI k &&& 31) = nI (a >>> k) := by
  rw [pk_shrN h (nI k &&& 31) k (nI_sl k hk), Nat.shiftRight_eq_div_pow]
theorem nv_iand (hx : p.tables.exec = Jvm.exec) (hb : c.code = cc) {a b : Nat} (hdg : decode cc pc = .ok (.iand, 1)) (k : W p l e R s m args below meth c H locs cells slots Q (F0 m (pc + 1) ls (.int (nI (a &&& b)) :: rest))) : W p l e R s m args below meth c H locs cells slots Q (F0 m pc ls (.int (nI b) :: .int (nI a) :: rest)) :=
  lv_iand hx hb hdg (by rw [nI_and]; exact k)
theorem nv_ior (hx : p.tables.exec = Jvm.exec) (hb : c.code = cc) {a b : Nat} (hdg : decode cc pc = .ok (.ior, 1)) (k : W p l e R s m args below meth c H locs cells slots Q (F0 m (pc + 1) ls (.int (nI (a ||| b)) :: rest))) : W p l e R s m args below meth c H locs cells slots Q (F0 m pc ls (.int (nI b) :: .int (nI a) :: rest)) :=
  lv_ior hx hb hdg (by rw [nI_or]; exact k)
theorem nv_ixor (hx : p.tables.exec = Jvm.exec) (hb : c.code = cc) {a b : Nat} (hdg : decode cc pc = .ok (.ixor, 1)) (k : W p l e R s m args below meth c H locs cells slots Q (F0 m (pc + 1) ls (.int (nI (a ^^^ b)) :: rest))) : W p l e R s m args below meth c H locs cells slots Q (F0 m pc ls (.int (nI b) :: .int (nI a) :: rest)) :=
  lv_ixor hx hb hdg (by rw [nI_xor]; exact k)
theorem nv_ishl (hx : p.tables.exec = Jvm.exec) (hb : c.code = cc) {a b : Nat} (hk : b < 32) (h : a * 2 ^ b < 2 ^ 32) (hdg : decode cc pc = .ok (.ishl, 1)) (k : W p l e R s m args below meth c H locs cells slots Q (F0 m (pc + 1) ls (.int (nI (a <<< b)) :: rest))) : W p l e R s m args below meth c H locs cells slots Q (F0 m pc ls (.int (nI b) :: .int (nI a) :: rest)) :=
  lv_ishl hx hb hdg (by rw [nI_shl hk h]; exact k)
theorem nv_ishr (hx : p.tables.exec = Jvm.exec) (hb : c.code = cc) {a b : Nat} (hk : b < 32) (h : a < 2 ^ 31) (hdg : decode cc pc = .ok (.ishr, 1)) (k : W p l e R s m args below meth c H locs cells slots Q (F0 m (pc + 1) ls (.int (nI (a >>> b)) :: rest))) : W p l e R s m args below meth c H locs cells slots Q (F0 m pc ls (.int (nI b) :: .int (nI a) :: rest)) :=
  lv_ishr hx hb hdg (by rw [nI_shr hk h]; exact k)
theorem nv_icmp_eq (hx : p.tables.exec = Jvm.exec) (hb : c.code = cc) {a b : Nat} (ha : a < 2 ^ 31) (hb2 : b < 2 ^ 31) {off : Int} {tgt : Nat} (hdg : decode cc pc = .ok (.if_icmp .eq off, 3)) (ht : (pc : Int) + off = (tgt : Int)) (kt : a = b → W p l e R s m args below meth c H locs cells slots Q (F0 m tgt ls rest)) (kf : a ≠ b → W p l e R s m args below meth c H locs cells slots Q (F0 m (pc + 3) ls rest)) : W p l e R s m args below meth c H locs cells slots Q (F0 m pc ls (.int (nI b) :: .int (nI a) :: rest)) :=
  lv_icmp_eq hx hb hdg ht (fun h => kt ((nI_eq ha hb2).mp h)) (fun h => kf (fun z => h ((nI_eq ha hb2).mpr z)))
theorem nv_icmp_ne (hx : p.tables.exec = Jvm.exec) (hb : c.code = cc) {a b : Nat} (ha : a < 2 ^ 31) (hb2 : b < 2 ^ 31) {off : Int} {tgt : Nat} (hdg : decode cc pc = .ok (.if_icmp .ne off, 3)) (ht : (pc : Int) + off = (tgt : Int)) (kt : a ≠ b → W p l e R s m args below meth c H locs cells slots Q (F0 m tgt ls rest)) (kf : a = b → W p l e R s m args below meth c H locs cells slots Q (F0 m (pc + 3) ls rest)) : W p l e R s m args below meth c H locs cells slots Q (F0 m pc ls (.int (nI b) :: .int (nI a) :: rest)) :=
  lv_icmp_ne hx hb hdg ht (fun h => kt (fun z => h ((nI_eq ha hb2).mpr z))) (fun h => kf ((nI_eq ha hb2).mp h))
theorem nv_icmp_lt (hx : p.tables.exec = Jvm.exec) (hb : c.code = cc) {a b : Nat} (ha : a < 2 ^ 31) (hb2 : b < 2 ^ 31) {off : Int} {tgt : Nat} (hdg : decode cc pc = .ok (.if_icmp .lt off, 3)) (ht : (pc : Int) + off = (tgt : Int)) (kt : a < b → W p l e R s m args below meth c H locs cells slots Q (F0 m tgt ls rest)) (kf : b ≤ a → W p l e R s m args below meth c H locs cells slots Q (F0 m (pc + 3) ls rest)) : W p l e R s m args below meth c H locs cells slots Q (F0 m pc ls (.int (nI b) :: .int (nI a) :: rest)) :=
  lv_icmp_lt hx hb hdg ht (fun h => kt ((nI_ltI ha hb2).mp h)) (fun h => kf (Nat.not_lt.mp (fun z => h ((nI_ltI ha hb2).mpr z))))
theorem nv_icmp_ge (hx : p.tables.exec = Jvm.exec) (hb : c.code = cc) {a b : Nat} (ha : a < 2 ^ 31) (hb2 : b < 2 ^ 31) {off : Int} {tgt : Nat} (hdg : decode cc pc = .ok (.if_icmp .ge off, 3)) (ht : (pc : Int) + off = (tgt : Int)) (kt : b ≤ a → W p l e R s m args below meth c H locs cells slots Q (F0 m tgt ls rest)) (kf : a < b → W p l e R s m args below meth c H locs cells slots Q (F0 m (pc + 3) ls rest)) : W p l e R s m args below meth c H locs cells slots Q (F0 m pc ls (.int (nI b) :: .int (nI a) :: rest)) :=
  lv_icmp_ge hx hb hdg ht (fun h => kt ((nI_leI hb2 ha).mp h)) (fun h => kf (Nat.not_le.mp (fun z => h ((nI_leI hb2 ha).mpr z))))
theorem nv_icmp_gt (hx : p.tables.exec = Jvm.exec) (hb : c.code = cc) {a b : Nat} (ha : a < 2 ^ 31) (hb2 : b < 2 ^ 31) {off : Int} {tgt : Nat} (hdg : decode cc pc = .ok (.if_icmp .gt off, 3)) (ht : (pc : Int) + off = (tgt : Int)) (kt : b < a → W p l e R s m args below meth c H locs cells slots Q (F0 m tgt ls rest)) (kf : a ≤ b → W p l e R s m args below meth c H locs cells slots Q (F0 m (pc + 3) ls rest)) : W p l e R s m args below meth c H locs cells slots Q (F0 m pc ls (.int (nI b) :: .int (nI a) :: rest)) :=
  lv_icmp_gt hx hb hdg ht (fun h => kt ((nI_ltI hb2 ha).mp h)) (fun h => kf (Nat.not_lt.mp (fun z => h ((nI_ltI hb2 ha).mpr z))))
theorem nv_icmp_le (hx : p.tables.exec = Jvm.exec) (hb : c.code = cc) {a b : Nat} (ha : a < 2 ^ 31) (hb2 : b < 2 ^ 31) {off : Int} {tgt : Nat} (hdg : decode cc pc = .ok (.if_icmp .le off, 3)) (ht : (pc : Int) + off = (tgt : Int)) (kt : a ≤ b → W p l e R s m args below meth c H locs cells slots Q (F0 m tgt ls rest)) (kf : b < a → W p l e R s m args below meth c H locs cells slots Q (F0 m (pc + 3) ls rest)) : W p l e R s m args below meth c H locs cells slots Q (F0 m pc ls (.int (nI b) :: .int (nI a) :: rest)) :=
  lv_icmp_le hx hb hdg ht (fun h => kt ((nI_leI ha hb2).mp h)) (fun h => kf (Nat.not_le.mp (fun z => h ((nI_leI ha hb2).mpr z))))
theorem nv_if_eq (hx : p.tables.exec = Jvm.exec) (hb : c.code = cc) {a : Nat} (ha : a < 2 ^ 31) {off : Int} {tgt : Nat} (hdg : decode cc pc = .ok (.ifCond .eq off, 3)) (ht : (pc : Int) + off = (tgt : Int)) (kt : a = 0 → W p l e R s m args below meth c H locs cells slots Q (F0 m tgt ls rest)) (kf : a ≠ 0 → W p l e R s m args below meth c H locs cells slots Q (F0 m (pc + 3) ls rest)) : W p l e R s m args below meth c H locs cells slots Q (F0 m pc ls (.int (nI a) :: rest)) :=
  lv_if_eq hx hb hdg ht (fun h => kt ((nI_eq ha (by decide)).mp (h.trans nI_0.symm))) (fun h => kf (fun z => h (by rw [z]; exact nI_0)))
theorem nv_if_ne (hx : p.tables.exec = Jvm.exec) (hb : c.code = cc) {a : Nat} (ha : a < 2 ^ 31) {off : Int} {tgt : Nat} (hdg : decode cc pc = .ok (.ifCond .ne off, 3)) (ht : (pc : Int) + off = (tgt : Int)) (kt : a ≠ 0 → W p l e R s m args below meth c H locs cells slots Q (F0 m tgt ls rest)) (kf : a = 0 → W p l e R s m args below meth c H locs cells slots Q (F0 m (pc + 3) ls rest)) : W p l e R s m args below meth c H locs cells slots Q (F0 m pc ls (.int (nI a) :: rest)) :=
  lv_if_ne hx hb hdg ht (fun h => kt (fun z => h (by rw [z]; exact nI_0))) (fun h => kf ((nI_eq ha (by decide)).mp (h.trans nI_0.symm)))
theorem nv_if_lt (hx : p.tables.exec = Jvm.exec) (hb : c.code = cc) {a : Nat} (ha : a < 2 ^ 31) {off : Int} {tgt : Nat} (hdg : decode cc pc = .ok (.ifCond .lt off, 3)) (ht : (pc : Int) + off = (tgt : Int)) (kt : False → W p l e R s m args below meth c H locs cells slots Q (F0 m tgt ls rest)) (kf : True → W p l e R s m args below meth c H locs cells slots Q (F0 m (pc + 3) ls rest)) : W p l e R s m args below meth c H locs cells slots Q (F0 m pc ls (.int (nI a) :: rest)) :=
  lv_if_lt hx hb hdg ht (fun h => kt (nI_pos ha h)) (fun _ => kf trivial)
theorem nv_if_ge (hx : p.tables.exec = Jvm.exec) (hb : c.code = cc) {a : Nat} (ha : a < 2 ^ 31) {off : Int} {tgt : Nat} (hdg : decode cc pc = .ok (.ifCond .ge off, 3)) (ht : (pc : Int) + off = (tgt : Int)) (kt : True → W p l e R s m args below meth c H locs cells slots Q (F0 m tgt ls rest)) (kf : False → W p l e R s m args below meth c H locs cells slots Q (F0 m (pc + 3) ls rest)) : W p l e R s m args below meth c H locs cells slots Q (F0 m pc ls (.int (nI a) :: rest)) :=
  lv_if_ge hx hb hdg ht (fun _ => kt trivial) (fun h => kf (h (nI_pos' ha)))
theorem nv_if_gt (hx : p.tables.exec = Jvm.exec) (hb : c.code = cc) {a : Nat} (ha : a < 2 ^ 31) {off : Int} {tgt : Nat} (hdg : decode cc pc = .ok (.ifCond .gt off, 3)) (ht : (pc : Int) + off = (tgt : Int)) (kt : 0 < a → W p l e R s m args below meth c H locs cells slots Q (F0 m tgt ls rest)) (kf : a = 0 → W p l e R s m args below meth c H locs cells slots Q (F0 m (pc + 3) ls rest)) : W p l e R s m args below meth c H locs cells slots Q (F0 m pc ls (.int (nI a) :: rest)) :=
  lv_if_gt hx hb hdg ht (fun h => kt (Nat.pos_of_ne_zero (fun z => by rw [z] at h; exact absurd h (by decide)))) (fun h => kf (Decidable.byContradiction (fun z => h (by rw [← nI_0]; exact nI_lt (Nat.pos_of_ne_zero z) ha))))
theorem nv_if_le (hx : p.tables.exec = Jvm.exec) (hb : c.code = cc) {a : Nat} (ha : a < 2 ^ 31) {off : Int} {tgt : Nat} (hdg : decode cc pc = .ok (.ifCond .le off, 3)) (ht : (pc : Int) + off = (tgt : Int)) (kt : a = 0 → W p l e R s m args below meth c H locs cells slots Q (F0 m tgt ls rest)) (kf : 0 < a → W p l e R s m args below meth c H locs cells slots Q (F0 m (pc + 3) ls rest)) : W p l e R s m args below meth c H locs cells slots Q (F0 m pc ls (.int (nI a) :: rest)) :=
  lv_if_le hx hb hdg ht (fun h => kt (Decidable.byContradiction (fun z => nI_nle (Nat.pos_of_ne_zero z) ha h))) (fun h => kf (Nat.pos_of_ne_zero (fun z => h (by rw [z]; decide))))
theorem bv_if_eq (hx : p.tables.exec = Jvm.exec) (hb : c.code = cc) {a : Bool} {off : Int} {tgt : Nat} (hdg : decode cc pc = .ok (.ifCond .eq off, 3)) (ht : (pc : Int) + off = (tgt : Int)) (kt : a = false → W p l e R s m args below meth c H locs cells slots Q (F0 m tgt ls rest)) (kf : a = true → W p l e R s m args below meth c H locs cells slots Q (F0 m (pc + 3) ls rest)) : W p l e R s m args below meth c H locs cells slots Q (F0 m pc ls (.int (b2i a) :: rest)) :=
  lv_if_eq hx hb hdg ht (fun h => kt ((b2i_0 a).mp h)) (fun h => kf (by cases a with | true => rfl | false => exact absurd rfl h))
theorem bv_if_ne (hx : p.tables.exec = Jvm.exec) (hb : c.code = cc) {a : Bool} {off : Int} {tgt : Nat} (hdg : decode cc pc = .ok (.ifCond .ne off, 3)) (ht : (pc : Int) + off = (tgt : Int)) (kt : a = true → W p l e R s m args below meth c H locs cells slots Q (F0 m tgt ls rest)) (kf : a = false → W p l e R s m args below meth c H locs cells slots Q (F0 m (pc + 3) ls rest)) : W p l e R s m args below meth c H locs cells slots Q (F0 m pc ls (.int (b2i a) :: rest)) :=
  lv_if_ne hx hb hdg ht (fun h => kt (by cases a with | true => rfl | false => exact absurd rfl h)) (fun h => kf ((b2i_0 a).mp h))
theorem b2i_or (a b : Bool) : b2i a ||| b2i b = b2i (a || b) := by cases a <;> cases b <;> decide
theorem b2i_and (a b : Bool) : b2i a &&& b2i b = b2i (a && b) := by cases a <;> cases b <;> decide
theorem bv_ior (hx : p.tables.exec = Jvm.exec) (hb : c.code = cc) {a b : Bool} (hdg : decode cc pc = .ok (.ior, 1)) (k : W p l e R s m args below meth c H locs cells slots Q (F0 m (pc + 1) ls (.int (b2i (a || b)) :: rest))) : W p l e R s m args below meth c H locs cells slots Q (F0 m pc ls (.int (b2i b) :: .int (b2i a) :: rest)) :=
  lv_ior hx hb hdg (by rw [b2i_or]; exact k)
theorem bv_iand (hx : p.tables.exec = Jvm.exec) (hb : c.code = cc) {a b : Bool} (hdg : decode cc pc = .ok (.iand, 1)) (k : W p l e R s m args below meth c H locs cells slots Q (F0 m (pc + 1) ls (.int (b2i (a && b)) :: rest))) : W p l e R s m args below meth c H locs cells slots Q (F0 m pc ls (.int (b2i b) :: .int (b2i a) :: rest)) :=
  lv_iand hx hb hdg (by rw [b2i_and]; exact k)
theorem nI_andn : ∀ a, a < 16 → ∀ b, b < 16 → nI a &&& (nI b ^^^ (-1)) = nI (a &&& (15 ^^^ b)) := by decide +kernel
theorem nv_andn (hx : p.tables.exec = Jvm.exec) (hb : c.code = cc) {a b : Nat} (ha : a < 16) (hb2 : b < 16) (hdg : decode cc pc = .ok (.iand, 1)) (k : W p l e R s m args below meth c H locs cells slots Q (F0 m (pc + 1) ls (.int (nI (a &&& (15 ^^^ b))) :: rest))) : W p l e R s m args below meth c H locs cells slots Q (F0 m pc ls (.int (nI b ^^^ (-1)) :: .int (nI a) :: rest)) :=
  lv_iand hx hb hdg (by rw [nI_andn a ha b hb2]; exact k)
def leO (a : Nat) (o : Option Nat) : Bool := match o with
  | none => false
  | some b => decide (a ≤ b)
theorem leO_iff {a : Nat} {o : Option Nat} (ha : a < 2 ^ 31) (ho : ∀ b, o = some b → b < 2 ^ 31) : nI a ≤ oI o ↔ leO a o = true := by
  cases o with
  | none =>
    simp only [leO, oI]
    constructor
    · intro h
      have h1 := Int32.le_iff_toInt_le.mp h
      rw [nI_toInt ha, show ((-1 : Int32).toInt) = -1 by decide] at h1
      omega
    · intro h; cases h
  | some b =>
    simp only [leO, oI, decide_eq_true_eq]
    exact nI_leI ha (ho b rfl)
theorem nov_icmp_gt (hx : p.tables.exec = Jvm.exec) (hb : c.code = cc) {a : Nat} {o : Option Nat} (ha : a < 2 ^ 31) (ho : ∀ b, o = some b → b < 2 ^ 31) {off : Int} {tgt : Nat} (hdg : decode cc pc = .ok (.if_icmp .gt off, 3)) (ht : (pc : Int) + off = (tgt : Int)) (kt : leO a o = false → W p l e R s m args below meth c H locs cells slots Q (F0 m tgt ls rest)) (kf : leO a o = true → W p l e R s m args below meth c H locs cells slots Q (F0 m (pc + 3) ls rest)) : W p l e R s m args below meth c H locs cells slots Q (F0 m pc ls (.int (oI o) :: .int (nI a) :: rest)) :=
  lv_icmp_gt hx hb hdg ht (fun h => kt (by
    cases hz : leO a o with
    | false => rfl
    | true => exact absurd ((leO_iff ha ho).mpr hz) (Int32.not_le.mpr h))) (fun h => kf ((leO_iff ha ho).mp (Int32.not_lt.mp h)))
/-- the number before: none before 0 -/
def pO (k : Nat) : Option Nat := match k with
  | 0 => none
  | k + 1 => some k
theorem pO_sub (a : Nat) : nI a - nI 1 = oI (pO a) := by
  cases a with
  | zero => decide
  | succ k => show nI (k + 1) - nI 1 = nI k; rw [pk_sub (by omega)]; rfl
theorem pO_dec (a : Nat) : nI a + Int32.ofInt (-1) = oI (pO a) := by
  rw [← pO_sub, show Int32.ofInt (-1) = -nI 1 from by decide]
  exact (Int32.sub_eq_add_neg _ _).symm
theorem pO_neg {k : Nat} (hk : k < 2 ^ 31) (h : oI (pO k) < 0) : k = 0 := by
  cases k with
  | zero => rfl
  | succ k => exact absurd h (nI_pos (by omega))
theorem pO_pos {k : Nat} (h : ¬ oI (pO k) < 0) : ∃ j, k = j + 1 := by
  cases k with
  | zero => exact absurd (show oI (pO 0) < 0 by decide) h
  | succ k => exact ⟨k, rfl⟩
theorem pO_at {p i : Nat} (h : ¬ oI (pO (p - i)) < 0) : oI (pO (p - i)) = nI (p - 1 - i) ∧ i < p := by
  obtain ⟨j, hj⟩ := pO_pos h
  refine ⟨?_, by omega⟩
  rw [hj, show p - 1 - i = j by omega]
  rfl
theorem oI_some {o : Option Nat} {k : Nat} (ho : ∀ j, o = some j → j < 2 ^ 31) (hk : k < 2 ^ 31) : oI o = nI k ↔ o = some k := by
  cases o with
  | none =>
    constructor
    · intro h
      have h1 := congrArg Int32.toInt (show (-1 : Int32) = nI k from h)
      rw [nI_toInt hk, show ((-1 : Int32).toInt) = -1 by decide] at h1
      omega
    · intro h; cases h
  | some j =>
    constructor
    · intro h; rw [(nI_eq (ho j rfl) hk).mp h]
    · intro h; cases h; rfl
theorem oI_ne {o : Option Nat} (h : ¬ oI o = -1) : ∃ k, o = some k := by
  cases o with
  | none => exact absurd rfl h
  | some k => exact ⟨k, rfl⟩
theorem oI_eq {o : Option Nat} (hk : ∀ k, o = some k → k < 2 ^ 31) (h : oI o = -1) : o = none := by
  cases o with
  | none => rfl
  | some k =>
    have h1 : (nI k).toInt = (-1 : Int32).toInt := congrArg Int32.toInt h
    rw [nI_toInt (hk k rfl)] at h1
    exact absurd h1 (by intro z; have : ((-1 : Int32).toInt) = -1 := by decide
                        omega)
end NV
/-! contents of arrays -/
abbrev rM (m : Nat → Nat) : Nat → Int32 := fun j => nI (m j)
abbrev rO (m : Nat → Option Nat) : Nat → Int32 := fun j => oI (m j)
abbrev rB (m : Nat → Bool) : Nat → Int32 := fun j => b2i (m j)
theorem upd_rM (m : Nat → Nat) (j v : Nat) : upd (rM m) j (nI v) = rM (va_up m j v) := by
  funext k; simp only [upd, rM, va_up]; split <;> rfl
theorem upd_rO (m : Nat → Option Nat) (j : Nat) (v : Option Nat) : upd (rO m) j (oI v) = rO (va_up m j v) := by
  funext k; simp only [upd, rO, va_up]; split <;> rfl
theorem upd_rB (m : Nat → Bool) (j : Nat) (v : Bool) : upd (rB m) j (b2i v) = rB (va_up m j v) := by
  funext k; simp only [upd, rB, va_up]; split <;> rfl
theorem arrV_congr {cA : ClassId} {n : Nat} {f f' : Nat → Value} (h : ∀ j, j < n → f j = f' j) : arrV cA n f = arrV cA n f' := by
  have e : (fun j : Fin n => f j.val) = (fun j : Fin n => f' j.val) := funext fun j => h j.val j.isLt
  unfold arrV
  rw [e]
theorem cellI_congr {D : va_G} {cl : List vw_C} {ws : va_W} {H : Heap} {c : ClassId} {a n : Nat} {f f' : Nat → Int32} (k : Nat) (hP : va_P D cl ws H) (hk : ws[k]? = some (a, .inl (c, n, .inl f))) (h : ∀ j, j < n → f j = f' j) : va_P D cl (ws.set k (a, .inl (c, n, .inl f'))) H := by
  have hl := (List.getElem?_eq_some_iff.mp hk).1
  intro i q hq
  by_cases hi : i = k
  · subst hi
    rw [List.getElem?_set_self hl] at hq
    cases hq
    have h1 := hP i _ hk
    show H[a]? = some (vp_cell c (n, .inl f'))
    rw [vp_cell_i, ← arrV_congr (f := fun j => Value.int (f j)) (f' := fun j => Value.int (f' j)) (fun j hj => by rw [h j hj])]
    exact h1
  · rw [List.getElem?_set_ne (Ne.symm hi)] at hq
    exact hP i q hq
section AV
variable {p : Program} {l : Launch} {e : Env} {R : Room} {s : State} {m : MethodId} {args : Array Value} {below : List Frame} {meth : Method} {c : Code} {H H0 : Heap} {locs : List Loc} {cells slots : Nat} {Q : State → Prop}
variable {pc : Nat} {ls : Array Slot} {rest : List Value} {cc : ByteArray} {g : GG} {ws : va_W} {A : Nat → Prop} {a n j : Nat} {f : Nat → Int32}
theorem nv_iald (hx : p.tables.exec = Jvm.exec) (hb : c.code = cc) (hK : KK g s) (hP : va_P g.1 vwCl ws H) (q0 : Nat) (ha : ws[q0]? = some (a, .inl (gI g, n, .inl f))) (hj : j < n) (hn : n < 2 ^ 31) {v : Int32} (hv : f j = v) (hdg : decode cc pc = .ok (.iaload, 1))
    (kk : W p l e R s m args below meth c H locs cells slots Q (F0 m (pc + 1) ls (.int v :: rest))) : W p l e R s m args below meth c H locs cells slots Q (F0 m pc ls (.int (nI j) :: .ref a :: rest)) :=
  va_iald hx hb hK.1 hP q0 0 ha rfl (vp_in_nI hj hn) hdg (by rw [nI_clamp (Nat.lt_trans hj hn), hv]; exact kk)
theorem nv_iast (hx : p.tables.exec = Jvm.exec) (hb : c.code = cc) (hK : KK g s) (hP : va_P g.1 vwCl ws H) (hD : va_D A ws) (hS : va_S A H0 H locs) (q0 : Nat) (ha : ws[q0]? = some (a, .inl (gI g, n, .inl f))) (hj : j < n) (hn : n < 2 ^ 31) {v : Int32} {f' : Nat → Int32} (hf : upd f j v = f') (hdg : decode cc pc = .ok (.iastore, 1))
    (kk : ∀ (H1 : Heap) (locs1 : List Loc), va_P g.1 vwCl (ws.set q0 (a, .inl (gI g, n, .inl f'))) H1 → va_D A (ws.set q0 (a, .inl (gI g, n, .inl f'))) → va_S A H0 H1 locs1 → W p l e R s m args below meth c H1 locs1 cells slots Q (F0 m (pc + 1) ls rest)) : W p l e R s m args below meth c H locs cells slots Q (F0 m pc ls (.int v :: .int (nI j) :: .ref a :: rest)) := by
  subst hf
  refine va_iast hx hb hK.1 hP hD hS q0 0 ha rfl (vp_in_nI hj hn) hdg (fun H1 locs1 h1 h2 h3 => ?_)
  rw [nI_clamp (Nat.lt_trans hj hn)] at h1 h2
  exact kk H1 locs1 h1 h2 h3
end AV
theorem nI_max {a b : Nat} (ha : a < 2 ^ 31) (hb : b < 2 ^ 31) : (if nI a < nI b then nI b else nI a) = nI (max a b) := by
  by_cases h : a < b
  · rw [if_pos ((nI_ltI ha hb).mpr h), Nat.max_eq_right (Nat.le_of_lt h)]
  · rw [if_neg (fun z => h ((nI_ltI ha hb).mp z)), Nat.max_eq_left (Nat.not_lt.mp h)]
theorem nI_dec {a b : Nat} (h : b ≤ a) : nI a + -nI b = nI (a - b) := by
  rw [← pk_sub h]
  exact (Int32.sub_eq_add_neg _ _).symm
def fillF (f : Nat → Int32) (x : Int32) (i : Nat) : Nat → Int32 := fun j => if j < i then x else f j
theorem fillF_0 (f : Nat → Int32) (x : Int32) : fillF f x 0 = f := by funext j; simp [fillF]
theorem fillF_succ (f : Nat → Int32) (x : Int32) (i : Nat) : upd (fillF f x i) i x = fillF f x (i + 1) := by
  funext j; simp only [upd, fillF]; by_cases h1 : j = i
  · simp [h1]
  · by_cases h2 : j < i
    · simp [h1, h2, show j < i + 1 by omega]
    · simp [h1, h2, show ¬ j < i + 1 by omega]
theorem fillF_in {f : Nat → Int32} {x : Int32} {i j : Nat} (h : j < i) : fillF f x i j = x := by simp [fillF, h]
def cpF (f f2 : Nat → Int32) (i : Nat) : Nat → Int32 := fun j => if j < i then f2 j else f j
theorem cpF_0 (f f2 : Nat → Int32) : cpF f f2 0 = f := by funext j; simp [cpF]
theorem cpF_succ (f f2 : Nat → Int32) (i : Nat) : upd (cpF f f2 i) i (f2 i) = cpF f f2 (i + 1) := by
  funext j; simp only [upd, cpF]; by_cases h1 : j = i
  · simp [h1]
  · by_cases h2 : j < i
    · simp [h1, h2, show j < i + 1 by omega]
    · simp [h1, h2, show ¬ j < i + 1 by omega]
theorem cpF_in {f f2 : Nat → Int32} {i j : Nat} (h : j < i) : cpF f f2 i j = f2 j := by simp [cpF, h]
theorem IMv_lev {l : Launch} {y : MethodName} {ws : List Cond} {n n' : Nat} {g : GG} {av : List Value} {w : va_W} {post : va_W → Prop} (h : IMv l y ws n g av w post) (hn : n = n') : IMv l y ws n' g av w post := hn ▸ h
theorem IM_lev {l : Launch} {y : MethodName} {ws : List Cond} {n n' : Nat} {g : GG} {av : List Value} {w : va_W} {post : Int32 → va_W → Prop} (h : IM l y ws n g av w post) (hn : n = n') : IM l y ws n' g av w post := hn ▸ h
