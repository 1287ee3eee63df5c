/-! the marker with its four maps as one world; contracts over it; calls of such contracts -/
/-- a contract with less asked, more promised -/
theorem met_cq {l : Launch} {y : MethodName} {ws : List Cond} {rm : Room} {Pc Pc' : Array Value → State → Prop} {Qc Qc' : Array Value → State → Outcome → State → Prop} {mc ms : Nat} {free free' : Addr → Prop} (h : Met l y ws rm Pc Qc mc ms free) (hp : ∀ a s, Pc' a s → Pc a s) (hq : ∀ a s o t, Pc' a s → Qc a s o t → Qc' a s o t) (hf : ∀ q, free q → free' q) : Met l y ws rm Pc' Qc' mc ms free' := by
  intro p e ha hc hk s m args below hf' happ hP hK
  obtain ⟨n, o, h1, h2, h3, h4, L, hL, hL2⟩ := h p e ha hc hk s m args below hf' happ (hp _ _ hP) hK
  exact ⟨n, o, h1, h2, h3, hq _ _ _ _ hP h4, L, hL, fun q hq => hf _ (hL2 q hq)⟩
theorem fr_nw {A0 : Nat → Prop} {D : va_G} {cl : List vw_C} {ws wc w1 : va_W} {H H1 : Heap} (hP : va_P D cl ws H) (hD : va_D A0 ws) (isC : List Nat) (hC : isC.map (fun i => ws[i]?) = wc.map some)
    (hadr : w1.map Prod.fst = wc.map Prod.fst) (hk : ∀ q : Nat, q < H.size → ¬ va_A wc H.size q → H1[q]? = H[q]?) (hP1 : va_P D cl w1 H1) (ws' : va_W) (isR : List Nat) (n : Nat) (hlen : ws'.length = n)
    (h1 : isC.map (fun i => ws'[i]?) = w1.map some) (h2 : isR.map (fun i => ws'[i]?) = isR.map (fun i => ws[i]?)) (hcov : (List.range n).all (fun k => isC.contains k || isR.contains k) = true) (hdis : isR.all (fun i => !isC.contains i) = true) : va_P D cl ws' H1 := by
  have atL : ∀ {is : List Nat} {w ws : va_W}, is.map (fun i => ws[i]?) = w.map some → ∀ (j i : Nat), is[j]? = some i → ∃ q : Nat × va_E, w[j]? = some q ∧ ws[i]? = some q := by
    intro is w ws hs j i hj
    have h3 : (is.map (fun i => ws[i]?))[j]? = some (ws[i]?) := by rw [List.getElem?_map, hj]; rfl
    rw [hs, List.getElem?_map] at h3
    cases hq : w[j]? with
    | none => rw [hq] at h3; cases h3
    | some q => rw [hq] at h3; exact ⟨q, rfl, (Option.some.inj h3).symm⟩
  intro k q hq
  have hkl : k < n := by rw [← hlen]; exact (List.getElem?_eq_some_iff.mp hq).1
  have hc := List.all_eq_true.mp hcov k (List.mem_range.mpr hkl)
  simp only [Bool.or_eq_true, List.contains_iff_mem] at hc
  by_cases hkC : k ∈ isC
  · obtain ⟨j, hj⟩ := List.getElem?_of_mem hkC
    obtain ⟨q1, a1, a2⟩ := atL h1 j k hj
    rw [hq] at a2
    cases a2
    exact hP1 j q a1
  · have hkR : k ∈ isR := hc.resolve_left hkC
    obtain ⟨j, hj⟩ := List.getElem?_of_mem hkR
    have h3 : (isR.map (fun i => ws'[i]?))[j]? = some (ws'[k]?) := by rw [List.getElem?_map, hj]; rfl
    have h4 : (isR.map (fun i => ws[i]?))[j]? = some (ws[k]?) := by rw [List.getElem?_map, hj]; rfl
    rw [h2, h4] at h3
    have h := (Option.some.inj h3).trans hq
    refine (hP k q h).kept (hk q.1 (hP k q h).lt (fun hA => ?_))
    rcases hA with ⟨j, e, hw⟩ | hs
    · have hlC : isC.length = wc.length := by have := congrArg List.length hC; simpa using this
      have hj : j < isC.length := by rw [hlC]; exact (List.getElem?_eq_some_iff.mp hw).1
      obtain ⟨q0, g1, g2⟩ := atL hC j isC[j] (List.getElem?_eq_getElem hj)
      rw [hw] at g1
      cases g1
      exact hkC (by rw [hD.1 k isC[j] q (q.1, e) h g2 rfl]; exact List.getElem_mem hj)
    · exact absurd (hP k q h).lt (Nat.not_lt.mpr hs)
theorem va_A_sub {wx w : va_W} {sz : Nat} {isC : List Nat} (hC : isC.map (fun i => wx[i]?) = w.map some) : ∀ q, va_A w sz q → va_A wx sz q := by
  rintro q (⟨k, e, hk⟩ | h)
  · have h1 : (isC.map (fun i => wx[i]?))[k]? = some (some (q, e)) := by rw [hC, List.getElem?_map, hk]; rfl
    rw [List.getElem?_map] at h1
    cases hi : isC[k]? with
    | none => rw [hi] at h1; cases h1
    | some i => rw [hi] at h1; exact Or.inl ⟨i, e, Option.some.inj h1⟩
  · exact Or.inr h
/-- a contract over a part of a world is one over the world -/
theorem im_frame {l : Launch} {y : MethodName} {ws : List Cond} {n : Nat} {g : GG} {av : List Value} {w wx : va_W} {post post' : Int32 → va_W → Prop} (hM : IM l y ws n g av w post) (isC : List Nat) (hC : isC.map (fun i => wx[i]?) = w.map some) (hn : va_nd isC = true)
    (hp : ∀ x w1, post x w1 → ∃ (wx' : va_W) (isR : List Nat) (N : Nat) (wr : va_W), wx'.length = N ∧ isC.map (fun i => wx'[i]?) = w1.map some ∧ isR.map (fun i => wx'[i]?) = wr.map some ∧ isR.map (fun i => wx[i]?) = wr.map some ∧ (List.range N).all (fun k => isC.contains k || isR.contains k) = true ∧ isR.all (fun i => !isC.contains i) = true ∧ wx'.map Prod.fst = wx.map Prod.fst ∧ post' x wx') : IM l y ws n g av wx post' := by
  intro sz
  refine met_cq (hM sz) ?_ ?_ (va_A_sub hC)
  · intro a U h
    obtain ⟨h1, h2, h3, h4, h5⟩ := h
    exact ⟨h1, h2, h3, fr_sub h4 hC, h5.sub isC hn hC⟩
  · intro a s o t hPre hQ
    obtain ⟨e1, hsz, hK, hP, hD⟩ := hPre
    obtain ⟨⟨r, u, ho, hpo, hP1, hadr⟩, hF1, hF2⟩ := hQ
    obtain ⟨wx', isR, N, wr, a1, a2, a3, b3, a4, a5, a6, a7⟩ := hp r u hpo
    refine ⟨⟨r, wx', ho, a7, ?_, a6⟩, hF1, fun q h1 h2 => hF2 q h1 (fun z => h2 (va_A_sub hC q z))⟩
    exact fr_nw hP hD isC hC hadr (fun q h1 h2 => hF2 q h1 (by rw [← hsz]; exact h2)) hP1 wx' isR N a1 a2 (a3.trans b3.symm) a4 a5
/-- the state: sizes, words, links (masks), groups, chains -/
abbrev Stt : Type := (Nat → Nat) × (Nat → Nat → Nat) × (Nat → Nat → Nat) × (Nat → Nat) × (Nat → Option Nat)
abbrev s_n (σ : Stt) : Nat → Nat := σ.1
abbrev s_w (σ : Stt) : Nat → Nat → Nat := σ.2.1
abbrev s_m (σ : Stt) : Nat → Nat → Nat := σ.2.2.1
abbrev s_g (σ : Stt) : Nat → Nat := σ.2.2.2.1
abbrev s_c (σ : Stt) : Nat → Option Nat := σ.2.2.2.2
/-- the rows of work: hd tlm thm al pp hp tr bs p q bg bl bp -/
abbrev Scr : Type := (Nat → Nat) × (Nat → Nat) × (Nat → Nat) × (Nat → Nat) × (Nat → Nat) × (Nat → Nat) × (Nat → Option Nat) × (Nat → Option Nat) × Nat × Nat × Nat × Option Nat × Option Nat
def SOk (σ : Stt) : Prop := (∀ i, s_n σ i ≤ 5) ∧ (∀ i, grOk (s_w σ i)) ∧ grOk (s_g σ) ∧ chOk (s_c σ) ∧ (∀ i, mOk (s_m σ i)) ∧ (∀ i a b, a < 5 → b < 5 → s_m σ i (a * 5 + b) ≠ 0 → a ≠ b ∧ a < s_n σ i ∧ b < s_n σ i)
def LSc (tlm thm al pp hp : Nat → Nat) (ctr cbs : Nat → Option Nat) : Prop := mOk tlm ∧ mOk thm ∧ alOk al ∧ ppOk pp ∧ hpOk hp ∧ trOk ctr ∧ trOk cbs
def ZOk (z : Scr) : Prop := LSc z.2.1 z.2.2.1 z.2.2.2.1 z.2.2.2.2.1 z.2.2.2.2.2.1 z.2.2.2.2.2.2.1 z.2.2.2.2.2.2.2.1
/-- the marker's cells, each content of its own -/
def M4 (g : GG) (ad : Nat → Nat) (gm : Nat → Option Nat) (n0 n1 n2 n3 : Nat) (w0 w1 w2 w3 m0 m1 m2 m3 gr : Nat → Nat) (ch : Nat → Option Nat) (z : Scr) : va_W :=
  [(ad 0, .inr (6, [.ref (ad 2), .ref (ad 1), .ref (ad 26), .ref (ad 29), .ref (ad 32), .ref (ad 35), .ref (ad 38), .ref (ad 41), .int (oI z.2.2.2.2.2.2.2.2.2.2.2.1), .int (nI z.2.2.2.2.2.2.2.2.2.2.1)])), (ad 1, .inl (gO g, 4, .inr (.inr (.inr (.inr gm))))),
   (ad 2, .inr (1, [.ref (ad 3), .ref (ad 5), .int (nI n0)])), (ad 3, .inr (4, [.ref (ad 4)])), (ad 4, .inl (gI g, 5, .inl (rM w0))), (ad 5, .inr (2, [.ref (ad 6)])), (ad 6, .inr (4, [.ref (ad 7)])), (ad 7, .inl (gI g, 25, .inl (rM m0))),
   (ad 8, .inr (1, [.ref (ad 9), .ref (ad 11), .int (nI n1)])), (ad 9, .inr (4, [.ref (ad 10)])), (ad 10, .inl (gI g, 5, .inl (rM w1))), (ad 11, .inr (2, [.ref (ad 12)])), (ad 12, .inr (4, [.ref (ad 13)])), (ad 13, .inl (gI g, 25, .inl (rM m1))),
   (ad 14, .inr (1, [.ref (ad 15), .ref (ad 17), .int (nI n2)])), (ad 15, .inr (4, [.ref (ad 16)])), (ad 16, .inl (gI g, 5, .inl (rM w2))), (ad 17, .inr (2, [.ref (ad 18)])), (ad 18, .inr (4, [.ref (ad 19)])), (ad 19, .inl (gI g, 25, .inl (rM m2))),
   (ad 20, .inr (1, [.ref (ad 21), .ref (ad 23), .int (nI n3)])), (ad 21, .inr (4, [.ref (ad 22)])), (ad 22, .inl (gI g, 5, .inl (rM w3))), (ad 23, .inr (2, [.ref (ad 24)])), (ad 24, .inr (4, [.ref (ad 25)])), (ad 25, .inl (gI g, 25, .inl (rM m3))),
   (ad 26, .inr (5, [.ref (ad 27)])), (ad 27, .inr (4, [.ref (ad 28)])), (ad 28, .inl (gI g, 32, .inl (rM gr))),
   (ad 29, .inr (0, [.ref (ad 30)])), (ad 30, .inr (4, [.ref (ad 31)])), (ad 31, .inl (gI g, 16, .inl (rO ch))),
   (ad 32, .inr (2, [.ref (ad 33)])), (ad 33, .inr (4, [.ref (ad 34)])), (ad 34, .inl (gI g, 25, .inl (rM z.1))),
   (ad 35, .inr (2, [.ref (ad 36)])), (ad 36, .inr (4, [.ref (ad 37)])), (ad 37, .inl (gI g, 25, .inl (rM z.2.1))),
   (ad 38, .inr (2, [.ref (ad 39)])), (ad 39, .inr (4, [.ref (ad 40)])), (ad 40, .inl (gI g, 25, .inl (rM z.2.2.1))),
   (ad 41, .inr (3, [.ref (ad 42), .ref (ad 44), .ref (ad 46), .ref (ad 48), .ref (ad 50), .int (nI z.2.2.2.2.2.2.2.2.1), .int (nI z.2.2.2.2.2.2.2.2.2.1), .int (oI z.2.2.2.2.2.2.2.2.2.2.2.2)])),
   (ad 42, .inr (4, [.ref (ad 43)])), (ad 43, .inl (gI g, 5, .inl (rM z.2.2.2.1))), (ad 44, .inr (4, [.ref (ad 45)])), (ad 45, .inl (gI g, 625, .inl (rM z.2.2.2.2.1))), (ad 46, .inr (4, [.ref (ad 47)])), (ad 47, .inl (gI g, 6, .inl (rM z.2.2.2.2.2.1))), (ad 48, .inr (4, [.ref (ad 49)])), (ad 49, .inl (gI g, 5, .inl (rO z.2.2.2.2.2.2.1))), (ad 50, .inr (4, [.ref (ad 51)])), (ad 51, .inl (gI g, 5, .inl (rO z.2.2.2.2.2.2.2.1)))]
def MW (g : GG) (ad : Nat → Nat) (gm : Nat → Option Nat) (σ : Stt) (z : Scr) : va_W := M4 g ad gm (s_n σ 0) (s_n σ 1) (s_n σ 2) (s_n σ 3) (s_w σ 0) (s_w σ 1) (s_w σ 2) (s_w σ 3) (s_m σ 0) (s_m σ 1) (s_m σ 2) (s_m σ 3) (s_g σ) (s_c σ) z
theorem M4_cg {g : GG} {ad : Nat → Nat} {gm : Nat → Option Nat} {n0 n1 n2 n3 n0' n1' n2' n3' : Nat} {w0 w1 w2 w3 w0' w1' w2' w3' m0 m1 m2 m3 m0' m1' m2' m3' gr gr' : Nat → Nat} {ch ch' : Nat → Option Nat} {z : Scr} (hn0 : n0 = n0') (hn1 : n1 = n1') (hn2 : n2 = n2') (hn3 : n3 = n3') (hw0 : w0 = w0') (hw1 : w1 = w1') (hw2 : w2 = w2') (hw3 : w3 = w3') (hm0 : m0 = m0') (hm1 : m1 = m1') (hm2 : m2 = m2') (hm3 : m3 = m3') (hg : gr = gr') (hc : ch = ch') : M4 g ad gm n0 n1 n2 n3 w0 w1 w2 w3 m0 m1 m2 m3 gr ch z = M4 g ad gm n0' n1' n2' n3' w0' w1' w2' w3' m0' m1' m2' m3' gr' ch' z := by
  subst hn0 hn1 hn2 hn3 hw0 hw1 hw2 hw3 hm0 hm1 hm2 hm3 hg hc; rfl
def GM (ad : Nat → Nat) (gm : Nat → Option Nat) : Prop := gm 0 = some (ad 2) ∧ gm 1 = some (ad 8) ∧ gm 2 = some (ad 14) ∧ gm 3 = some (ad 20)
set_option maxRecDepth 20000 in
theorem MW_all {g : GG} {ad : Nat → Nat} {gm : Nat → Option Nat} {σ : Stt} {z : Scr} : (List.range 52).map (fun i => (MW g ad gm σ z)[i]?) = (MW g ad gm σ z).map some := rfl
theorem MW_adr {g : GG} {ad : Nat → Nat} {gm : Nat → Option Nat} {σ σ' : Stt} {z z' : Scr} : (MW g ad gm σ z).map Prod.fst = (MW g ad gm σ' z').map Prod.fst := rfl
/-- a contract of the class over the whole marker: what it answers, the state behind it -/
def MC (l : Launch) (y : MethodName) (ws : List Cond) (n : Nat) (g : GG) (ad : Nat → Nat) (gm : Nat → Option Nat) (av : List Value) (σ σ' : Stt) (r : Int32) : Prop :=
  ∀ z, ZOk z → IM l y ws n g av (MW g ad gm σ z) (fun x w => x = r ∧ ∃ z', ZOk z' ∧ w = MW g ad gm σ' z')
/-- the same of a method that may have caught a throw: one object more -/
def MX (l : Launch) (y : MethodName) (ws : List Cond) (n : Nat) (g : GG) (ad : Nat → Nat) (gm : Nat → Option Nat) (av : List Value) (σ σ' : Stt) (r : Int32) : Prop :=
  ∀ z, ZOk z → IX l y ws n g av (MW g ad gm σ z) (fun x w => x = r ∧ ∃ z', ZOk z' ∧ w = MW g ad gm σ' z')
/-- a long -/
def ML (l : Launch) (y : MethodName) (ws : List Cond) (n : Nat) (g : GG) (ad : Nat → Nat) (gm : Nat → Option Nat) (av : List Value) (σ : Stt) (r : Int64) : Prop :=
  ∀ z, ZOk z → ∀ sz : Nat, Met l y ws (rmL n) (iPc g av (MW g ad gm σ z) sz) (va_Ql (fun (x : Int64) (w : va_W) => x = r ∧ ∃ z', ZOk z' ∧ w = MW g ad gm σ z') (iB g (MW g ad gm σ z)) (va_A (MW g ad gm σ z) sz)) 0 0 (va_A (MW g ad gm σ z) sz)
/-- the law's own methods: with room for what is thrown and caught on the way -/
abbrev rmY (n mc ms : Nat) : Room := { frames := n + 5, cells := mc, slots := ms, locals := 40 * n + 60 }
def MY (l : Launch) (y : MethodName) (ws : List Cond) (n mc ms : Nat) (g : GG) (ad : Nat → Nat) (gm : Nat → Option Nat) (av : List Value) (σ : Stt) (post : Int32 → Stt → Prop) : Prop :=
  ∀ z, ZOk z → ∀ sz : Nat, Met l y ws (rmY n mc ms) (iPx g av (MW g ad gm σ z) sz) (va_Qi (fun (x : Int32) (w : va_W) => ∃ σ' z', post x σ' ∧ ZOk z' ∧ w = MW g ad gm σ' z') (iB g (MW g ad gm σ z)) (va_A (MW g ad gm σ z) sz)) mc ms (va_A (MW g ad gm σ z) sz)
section MCC
variable {p : Program} {l : Launch} {e : Env} {R : Room} {s : State} {m : MethodId} {args : Array Value} {below : List Frame} {meth : Method} {c : Code} {H : Heap} {locs : List Loc} {cells slots : Nat} {Q : State → Prop}
variable {pc : Nat} {ls : Array Slot} {rest st0 As : List Value} {A : Nat → Prop} {g : GG} {Ts ws ws' : List Cond} {cc bytes : ByteArray} {nL maxL index n k mc ms : Nat} {own : String} {y : MethodName} {ret : Option FieldType} {ad : Nat → Nat} {gm : Nat → Option Nat} {σ σ' : Stt} {z : Scr} {r : Int32} {hh : List (Nat × Nat × Nat × Nat)}
theorem mc_V (hx : p.tables.exec = Jvm.exec) (hb : c.code = cc) (hml : c.maxLocals = nL) (hown : s.vm.findClass own = some m.cls) (hts : ∀ x ∈ Ts, x.before args s = true) (hM : MC l y ws n g ad gm (.ref (ad 0) :: As) σ σ' r) (hT : GoodIn Ts (wsV own index "ConceptMarker" y ws)) (hw : ws = Cond.code y bytes maxL ret :: ws')
    (hd : y.cls = "ConceptMarker" ∧ y.cls ≠ "java/lang/invoke/MethodHandle" ∧ y.cls ≠ "java/lang/invoke/VarHandle" ∧ (parseMethodDescriptor y.desc).map (fun d => d.parameters.length) = some k) (hR : n + 1 ≤ R.frames ∧ 8 + (maxL + 11) + 40 * n ≤ R.locals) (hf : cells ≤ R.cells ∧ slots ≤ R.slots)
    (hK : KK g s) (hz : ZOk z) (hP : va_P g.1 vwCl (MW g ad gm σ z) H) (hD : va_D A (MW g ad gm σ z)) (hS : va_S A s.heap H locs) (hA : ∀ q : Nat, s.heap.size ≤ q → A q)
    (hk : As.length = k) (hsz : ls.size = nL) (hst : st0 = As.reverse ++ .ref (ad 0) :: rest) (hcat : (rest.map fun v => v.category).sum ≤ 8) (hdg : decode cc pc = .ok (.invokevirtual index, 3))
    (kk : ∀ (z' : Scr) (H1 : Heap) (locs1 : List Loc), ZOk z' → va_P g.1 vwCl (MW g ad gm σ' z') H1 → va_D A (MW g ad gm σ' z') → va_S A s.heap H1 locs1 → W p l e R s m args below meth c H1 locs1 cells slots Q (F0 m (pc + 3) ls (.int r :: rest))) : W p l e R s m args below meth c H locs cells slots Q (F0 m pc ls st0) := by
  refine im_V hx hb hml hown hts (hM z hz) hT hw hd hR hf hK hP hD hS hA (List.range 52) MW_all (by decide) 0 6 rfl rfl hk hsz hst hcat hdg (fun x w1 H1 locs1 hpo hpd hS1 => ?_)
  obtain ⟨rfl, z', hz', rfl⟩ := hpo
  obtain ⟨h1, h2⟩ := hpd (MW g ad gm σ' z') [] 52 rfl MW_all [] rfl rfl (by decide) (by decide)
  exact kk z' H1 locs1 hz' h1 h2 hS1
theorem mc_S (hx : p.tables.exec = Jvm.exec) (hb : c.code = cc) (hml : c.maxLocals = nL) (hown : s.vm.findClass own = some m.cls) (hts : ∀ x ∈ Ts, x.before args s = true) (hM : MC l y ws n g ad gm As σ σ' r) (hT : GoodIn Ts (va_wsS own index y ws)) (hw : ws = Cond.code y bytes maxL ret :: ws')
    (hd : y.cls ≠ "java/lang/invoke/MethodHandle" ∧ y.cls ≠ "java/lang/invoke/VarHandle" ∧ (parseMethodDescriptor y.desc).map (fun d => d.parameters.length) = some k) (hR : n + 1 ≤ R.frames ∧ 8 + (maxL + 11) + 40 * n ≤ R.locals) (hf : cells ≤ R.cells ∧ slots ≤ R.slots)
    (hK : KK g s) (hz : ZOk z) (hP : va_P g.1 vwCl (MW g ad gm σ z) H) (hD : va_D A (MW g ad gm σ z)) (hS : va_S A s.heap H locs) (hA : ∀ q : Nat, s.heap.size ≤ q → A q)
    (hk : As.length = k) (hsz : ls.size = nL) (hst : st0 = As.reverse ++ rest) (hcat : (rest.map fun v => v.category).sum ≤ 8) (hdg : decode cc pc = .ok (.invokestatic index, 3))
    (kk : ∀ (z' : Scr) (H1 : Heap) (locs1 : List Loc), ZOk z' → va_P g.1 vwCl (MW g ad gm σ' z') H1 → va_D A (MW g ad gm σ' z') → va_S A s.heap H1 locs1 → W p l e R s m args below meth c H1 locs1 cells slots Q (F0 m (pc + 3) ls (.int r :: rest))) : W p l e R s m args below meth c H locs cells slots Q (F0 m pc ls st0) := by
  refine im_S hx hb hml hown hts (hM z hz) hT hw hd hR hf hK hP hD hS hA (List.range 52) MW_all (by decide) hk hsz hst hcat hdg (fun x w1 H1 locs1 hpo hpd hS1 => ?_)
  obtain ⟨rfl, z', hz', rfl⟩ := hpo
  obtain ⟨h1, h2⟩ := hpd (MW g ad gm σ' z') [] 52 rfl MW_all [] rfl rfl (by decide) (by decide)
  exact kk z' H1 locs1 hz' h1 h2 hS1
/-- what is behind a call that had the whole marker -/
theorem mw_back {σ' : Stt} {z' : Scr} {H1 : Heap} (hD : va_D A (MW g ad gm σ z)) (hP1 : va_P g.1 vwCl (MW g ad gm σ' z') H1) : va_P g.1 vwCl (MW g ad gm σ' z') H1 ∧ va_D A (MW g ad gm σ' z') := by
  have adr : ∀ (k : Nat) (q : Nat × va_E), (MW g ad gm σ' z')[k]? = some q → ∃ q0 : Nat × va_E, (MW g ad gm σ z)[k]? = some q0 ∧ q0.1 = q.1 := by
    intro k q hq
    have h3 : ((MW g ad gm σ' z').map Prod.fst)[k]? = some q.1 := by rw [List.getElem?_map, hq]; rfl
    rw [MW_adr (σ' := σ) (z' := z), List.getElem?_map] at h3
    cases h4 : (MW g ad gm σ z)[k]? with
    | none => rw [h4] at h3; cases h3
    | some q0 => rw [h4] at h3; exact ⟨q0, rfl, Option.some.inj h3⟩
  refine ⟨hP1, fun i j x y hi hj hxy => ?_, fun k q hq => ?_⟩
  · obtain ⟨x0, a1, a2⟩ := adr i x hi
    obtain ⟨y0, b1, b2⟩ := adr j y hj
    exact hD.1 i j x0 y0 a1 b1 (a2.trans (hxy.trans b2.symm))
  · obtain ⟨q0, a1, a2⟩ := adr k q hq
    rw [← a2]
    exact hD.2 k q0 a1
/-- 'call', a method with a table: one object more -/
theorem mx_S (hx : p.tables.exec = Jvm.exec) (hb : c.code = cc) (hml : c.maxLocals = nL) (hown : s.vm.findClass own = some m.cls) (hts : ∀ x ∈ Ts, x.before args s = true) (hM : MX l y ws n g ad gm As σ σ' r) (hT : GoodIn Ts (va_wsS own index y ws)) (hw : ws = Cond.codeWith y bytes maxL ret hh :: ws')
    (hd : y.cls ≠ "java/lang/invoke/MethodHandle" ∧ y.cls ≠ "java/lang/invoke/VarHandle" ∧ (parseMethodDescriptor y.desc).map (fun d => d.parameters.length) = some k) (hR : n + 5 + 1 ≤ R.frames ∧ 8 + (maxL + 11) + (40 * n + 60) ≤ R.locals) (hf : cells + 1 ≤ R.cells ∧ slots + 6 ≤ R.slots)
    (hK : KK g s) (hNX : XN s) (hZ : XZ A s s.heap) (hz : ZOk z) (hP : va_P g.1 vwCl (MW g ad gm σ z) H) (hD : va_D A (MW g ad gm σ z)) (hS : va_S A s.heap H locs) (hA : ∀ q : Nat, s.heap.size ≤ q → A q)
    (hk : As.length = k) (hsz : ls.size = nL) (hst : st0 = As.reverse ++ rest) (hcat : (rest.map fun v => v.category).sum ≤ 8) (hdg : decode cc pc = .ok (.invokestatic index, 3))
    (kk : ∀ (z' : Scr) (H1 : Heap) (locs1 : List Loc), ZOk z' → va_P g.1 vwCl (MW g ad gm σ' z') H1 → va_D A (MW g ad gm σ' z') → va_S A s.heap H1 locs1 → W p l e R s m args below meth c H1 locs1 (cells + 1) (slots + 6) Q (F0 m (pc + 3) ls (.int r :: rest))) : W p l e R s m args below meth c H locs cells slots Q (F0 m pc ls st0) := by
  subst hst
  have hFc := va_free (wc := MW g ad gm σ z) hD hS hA (List.range 52) MW_all
  refine va_calli (vx_runSW (As := As) (rest := rest) ⟨hx, hb, hml, hown, hts⟩ (hM z hz H.size) (vx_cwSW k hts hT hw rfl rfl hd hR) ⟨iPx_blind g _ _ _, fun U hU hW => ⟨rfl, by rw [hU], hK.warm hW, by rw [hU]; exact hP, hD.weaken (fun _ _ _ _ => trivial), hNX.warm hW, by rw [hU]; exact ((hZ.kept hS.2.1).narrow hFc).moved hW.alike⟩⟩ rfl hk hsz rfl (lv_room hcat) hdg hf) hS (fun q _ h => hFc q h) hFc (fun r9 u t H1 locs1 ht hvm hw hB hz1 hk1 hS1 => ?_)
  obtain ⟨hP1, hadr⟩ := hB
  obtain ⟨rfl, z', hz', rfl⟩ := hw
  rw [ht] at hP1
  obtain ⟨h1, h2⟩ := mw_back hD hP1
  exact kk z' H1 locs1 hz' h1 h2 hS1
/-- 'all': a long -/
theorem ml_S {r : Int64} (hx : p.tables.exec = Jvm.exec) (hb : c.code = cc) (hml : c.maxLocals = nL) (hown : s.vm.findClass own = some m.cls) (hts : ∀ x ∈ Ts, x.before args s = true) (hM : ML l y ws n g ad gm As σ r) (hT : GoodIn Ts (va_wsS own index y ws)) (hw : ws = Cond.code y bytes maxL ret :: ws')
    (hd : y.cls ≠ "java/lang/invoke/MethodHandle" ∧ y.cls ≠ "java/lang/invoke/VarHandle" ∧ (parseMethodDescriptor y.desc).map (fun d => d.parameters.length) = some k) (hR : n + 1 ≤ R.frames ∧ 8 + (maxL + 11) + 40 * n ≤ R.locals) (hf : cells ≤ R.cells ∧ slots ≤ R.slots)
    (hK : KK g s) (hz : ZOk z) (hP : va_P g.1 vwCl (MW g ad gm σ z) H) (hD : va_D A (MW g ad gm σ z)) (hS : va_S A s.heap H locs) (hA : ∀ q : Nat, s.heap.size ≤ q → A q)
    (hk : As.length = k) (hsz : ls.size = nL) (hst : st0 = As.reverse ++ rest) (hcat : (rest.map fun v => v.category).sum ≤ 8) (hdg : decode cc pc = .ok (.invokestatic index, 3))
    (kk : ∀ (z' : Scr) (H1 : Heap) (locs1 : List Loc), ZOk z' → va_P g.1 vwCl (MW g ad gm σ z') H1 → va_D A (MW g ad gm σ z') → va_S A s.heap H1 locs1 → W p l e R s m args below meth c H1 locs1 cells slots Q (F0 m (pc + 3) ls (.long r :: rest))) : W p l e R s m args below meth c H locs cells slots Q (F0 m pc ls st0) := by
  subst hst
  have hFc := va_free (wc := MW g ad gm σ z) hD hS hA (List.range 52) MW_all
  refine va_calll (va_runS (As := As) (rest := rest) ⟨hx, hb, hml, hown, hts⟩ (hM z hz H.size) (va_cwS k hts hT hw rfl rfl hd hR) ⟨iPc_blind g _ _ _, fun U hU hW => ⟨rfl, by rw [hU], hK.warm hW, by rw [hU]; exact hP, hD.weaken (fun _ _ _ _ => trivial)⟩⟩ rfl hk hsz rfl (lv_room hcat) hdg hf) hS (fun q _ h => hFc q h) hFc (fun r9 u t H1 locs1 ht hvm hw hB hz1 hk1 hS1 => ?_)
  obtain ⟨hP1, hadr⟩ := hB
  obtain ⟨rfl, z', hz', rfl⟩ := hw
  rw [ht] at hP1
  obtain ⟨h1, h2⟩ := mw_back hD hP1
  exact kk z' H1 locs1 hz' h1 h2 hS1
/-- the law's own methods -/
theorem my_S {post : Int32 → Stt → Prop} (hx : p.tables.exec = Jvm.exec) (hb : c.code = cc) (hml : c.maxLocals = nL) (hown : s.vm.findClass own = some m.cls) (hts : ∀ x ∈ Ts, x.before args s = true) (hM : MY l y ws n mc ms g ad gm As σ post) (hT : GoodIn Ts (va_wsS own index y ws)) (hw : ws = Cond.code y bytes maxL ret :: ws')
    (hd : y.cls ≠ "java/lang/invoke/MethodHandle" ∧ y.cls ≠ "java/lang/invoke/VarHandle" ∧ (parseMethodDescriptor y.desc).map (fun d => d.parameters.length) = some k) (hR : n + 5 + 1 ≤ R.frames ∧ 8 + (maxL + 11) + (40 * n + 60) ≤ R.locals) (hf : cells + mc ≤ R.cells ∧ slots + ms ≤ R.slots)
    (hK : KK g s) (hNX : XN s) (hZ : XZ A s s.heap) (hz : ZOk z) (hP : va_P g.1 vwCl (MW g ad gm σ z) H) (hD : va_D A (MW g ad gm σ z)) (hS : va_S A s.heap H locs) (hA : ∀ q : Nat, s.heap.size ≤ q → A q)
    (hk : As.length = k) (hsz : ls.size = nL) (hst : st0 = As.reverse ++ rest) (hcat : (rest.map fun v => v.category).sum ≤ 8) (hdg : decode cc pc = .ok (.invokestatic index, 3))
    (kk : ∀ (x : Int32) (σ' : Stt) (z' : Scr) (H1 : Heap) (locs1 : List Loc), post x σ' → ZOk z' → va_P g.1 vwCl (MW g ad gm σ' z') H1 → va_D A (MW g ad gm σ' z') → va_S A s.heap H1 locs1 → W p l e R s m args below meth c H1 locs1 (cells + mc) (slots + ms) Q (F0 m (pc + 3) ls (.int x :: rest))) : W p l e R s m args below meth c H locs cells slots Q (F0 m pc ls st0) := by
  subst hst
  have hFc := va_free (wc := MW g ad gm σ z) hD hS hA (List.range 52) MW_all
  refine va_calli (va_runS (As := As) (rest := rest) ⟨hx, hb, hml, hown, hts⟩ (hM z hz H.size) (va_cwS k hts hT hw rfl rfl hd hR) ⟨iPx_blind g _ _ _, fun U hU hW => ⟨rfl, by rw [hU], hK.warm hW, by rw [hU]; exact hP, hD.weaken (fun _ _ _ _ => trivial), hNX.warm hW, by rw [hU]; exact ((hZ.kept hS.2.1).narrow hFc).moved hW.alike⟩⟩ rfl hk hsz rfl (lv_room hcat) hdg hf) hS (fun q _ h => hFc q h) hFc (fun r9 u t H1 locs1 ht hvm hw hB hz1 hk1 hS1 => ?_)
  obtain ⟨hP1, hadr⟩ := hB
  obtain ⟨σ', z', hpo, hz', rfl⟩ := hw
  rw [ht] at hP1
  obtain ⟨h1, h2⟩ := mw_back hD hP1
  exact kk r9 σ' z' H1 locs1 hpo hz' h1 h2 hS1
/-- the ends -/
theorem my_retz {post : Int32 → Stt → Prop} {σ0 : Stt} {z0 : Scr} {v : Int32} (hx : p.tables.exec = Jvm.exec) (hb : c.code = cc) (hr : meth.sig.returnType = some .boolean) (hlocks : meth.locks = false) (hz : ZOk z) (hP : va_P g.1 vwCl (MW g ad gm σ z) H) (hS : va_S A s.heap H locs) (hc : cells ≤ mc) (hs : slots ≤ ms) (hpost : post v σ) (hnar : narrow .boolean (.int v) = .int v) (hdg : decode cc pc = .ok (.ireturn, 1)) :
    W p l e R s m args below meth c H locs cells slots (MQ below (va_Qi (fun (x : Int32) (w : va_W) => ∃ σ' z', post x σ' ∧ ZOk z' ∧ w = MW g ad gm σ' z') (iB g (MW g ad gm σ0 z0)) A) args s mc ms A) (F0 m pc ls [.int v]) :=
  W.widen hc hs (W.zret (v := v) hx hb hr hnar (fun t ht _ => ⟨⟨v, MW g ad gm σ z, rfl, ⟨σ, z, hpost, hz, rfl⟩, by rw [ht]; exact hP, MW_adr⟩, hS.F ht⟩) hS.2.2 hdg hlocks)
theorem ml_ret {post : Int64 → va_W → Prop} {w w1 : va_W} {v : Int64} (hx : p.tables.exec = Jvm.exec) (hb : c.code = cc) (hr : meth.sig.returnType = some .long) (hlocks : meth.locks = false) (hP : va_P g.1 vwCl w1 H) (hS : va_S A s.heap H locs) (hadr : w1.map Prod.fst = w.map Prod.fst) (hpost : post v w1) (hdg : decode cc pc = .ok (.lreturn, 1)) :
    W p l e R s m args below meth c H locs cells slots (MQ below (va_Ql post (iB g w) A) args s cells slots A) (F0 m pc ls [.long v]) :=
  W.lret (v := v) hx hb hr (fun t ht _ => ⟨⟨v, w1, rfl, hpost, by rw [ht]; exact hP, hadr⟩, hS.F ht⟩) hS.2.2 hdg hlocks
end MCC
section MYB
variable {l : Launch} {y : MethodName} {ws ws' : List Cond} {n maxL mc ms : Nat} {g : GG} {av : List Value} {w : va_W} {cc : ByteArray} {ret : Option FieldType}
/-- the start of a walk of the law's own methods -/
theorem iy_body {Qc : (Nat → Prop) → Array Value → State → Outcome → State → Prop} (hy : plainName y.cls = true) (hw : ws = Cond.code y cc maxL ret :: ws') (hav : (lg_sl av).length ≤ maxL)
    (body : ∀ (p : Program) (e : Env) (s : State) (m : MethodId) (below : List Frame) (meth : Method) (c : Code) (A : Nat → Prop), p.tables.exec = Jvm.exec → c.code = cc → meth.sig.returnType = ret → c.maxLocals = maxL → (∀ x ∈ ws, x.before av.toArray s = true) → s.vm.findClass y.cls = some m.cls → meth.locks = false →
      KK g s → (∀ q : Nat, s.heap.size ≤ q → A q) → XN s → XZ A s s.heap → ∀ H : Heap, va_P g.1 vwCl w H → va_D A w → va_S A s.heap H [] → ∀ ls : Array Slot, lv_has ls maxL (lv_args 0 av) → W p l e (rmY n mc ms) s m av.toArray below meth c H [] 0 0 (MQ below (Qc A) av.toArray s mc ms A) (F0 m 0 ls [])) (sz : Nat) : Met l y ws (rmY n mc ms) (iPx g av w sz) (Qc (va_A w sz)) mc ms (va_A w sz) := by
  refine Met.ofW (cc := cc) (maxL := maxL) (ret := ret) hy hw ?_
  intro p e s m args below meth c s₁ B hml hv
  obtain ⟨rfl, hsz, hK, hP, hD, hN, hZ⟩ := hv
  subst hsz
  have hb := body p e s m below meth c (va_A w s.heap.size) B.exec B.bytes B.returns hml (atoms_spec (ws := ws) B.pre) (findClass_of_methodNamed B.named) B.notSynchronized hK (fun q h => Or.inr h) hN hZ s.heap hP (hD.self) va_S.rf _ (lv_entry av hav)
  rw [lg_entry_eq]
  exact hb
end MYB
