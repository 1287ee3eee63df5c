/-! throws over the whole marker; calls of what throws from a method with a table; 'some' -/
theorem xm_frame {l : Launch} {y : MethodName} {ws : List Cond} {n : Nat} {g : GG} {av : List Value} {w wx : va_W} {E : String} (hM : XM l y ws n g av w E) (isC : List Nat) (hC : isC.map (fun i => wx[i]?) = w.map some) (hn : va_nd isC = true) : XM l y ws n g av wx E := by
  intro sz p e ha hc hk s m args below hf happ hP hK
  obtain ⟨e1, hsz, hKK, hPw, hD, hN, hZ⟩ := hP
  obtain ⟨nn, o, h1, h2, h3, h4⟩ := hM sz p e ha hc hk s m args below hf happ ⟨e1, hsz, hKK, fr_sub hPw hC, hD.sub isC hn hC, hN, hZ.narrow (va_A_sub hC)⟩ trivial
  refine ⟨nn, o, h1, h2, h3, ?_⟩
  rcases h4 with ⟨hq, _⟩ | ⟨q, hq, E', ce, L, ⟨u, hu, ⟨hE, hPt⟩, hF1, hF2⟩, a1, a2, a3, a4, a5, a6⟩
  · exact hq.elim
  · subst hu
    refine Or.inr ⟨q, hq, E', ce, L, ⟨wx, rfl, ⟨hE, ?_⟩, hF1, fun a b c => hF2 a b (fun z => c (va_A_sub hC a z))⟩, a1, a2, a3, a4, a5, fun z hz => va_A_sub hC _ (a6 z hz)⟩
    exact xP_back (A := fun _ => True) hPw hD hC (fun q h1 h2 => hF2 q h1 (by rw [← hsz]; exact h2)) hPt
/-- a throw, over the whole marker -/
def XW (l : Launch) (y : MethodName) (ws : List Cond) (n : Nat) (g : GG) (ad : Nat → Nat) (gm : Nat → Option Nat) (av : List Value) (σ : Stt) (E : String) : Prop := ∀ z, XM l y ws n g av (MW g ad gm σ z) E
section HX
variable {p : Program} {l : Launch} {e : Env} {s : State} {m : MethodId} {args : Array Value} {below : List Frame} {meth : Method} {c : Code} {H : Heap} {locs : List Loc} {Q : State → Prop}
variable {pc : Nat} {ls : Array Slot} {rest st0 As : List Value} {A : Nat → Prop} {g : GG} {wsx w : va_W} {Ts ws ws' : List Cond} {cc bytes : ByteArray} {nL maxL index n k : Nat} {own : String} {y : MethodName} {ret : Option FieldType} {E : String}
/-- a static call that throws, in a method that catches -/
theorem ix_S0 (hx : p.tables.exec = Jvm.exec) (hb : c.code = cc) (hml : c.maxLocals = nL) (hown : s.vm.findClass own = some m.cls) (hts : ∀ x ∈ Ts, x.before args s = true) (hM : XM l y ws n g As w E) (hT : GoodIn Ts (va_wsS own index y ws)) (hw : ws = Cond.code y bytes maxL ret :: ws')
    (hd : y.cls ≠ "java/lang/invoke/MethodHandle" ∧ y.cls ≠ "java/lang/invoke/VarHandle" ∧ (parseMethodDescriptor y.desc).map (fun d => d.parameters.length) = some k) {n0 : Nat} (hR : n + 5 + 1 ≤ n0 + 5 ∧ 8 + (maxL + 11) + (40 * n + 60) ≤ 40 * n0 + 60)
    (hK : KK g s) (hNX : XN s) (hZ : XZ A s s.heap) (hP : va_P g.1 vwCl wsx H) (hD : va_D A wsx) (hS : va_S A s.heap H locs) (hA : ∀ q : Nat, s.heap.size ≤ q → A q) (isC : List Nat) (hC : isC.map (fun i => wsx[i]?) = w.map some) (hn : va_nd isC = true)
    (hk : As.length = k) (hsz : ls.size = nL) (hst : st0 = As.reverse ++ rest) (hcat : (rest.map fun v => v.category).sum ≤ 8) (hdg : decode cc pc = .ok (.invokestatic index, 3))
    (kx : ∀ (ce : Cell) (q9 : Nat) (H1 : Heap) (locs1 : List Loc), va_P g.1 vwCl wsx H1 → va_S A s.heap H1 locs1 → H1[q9]? = some ce → ce.vm = .none → s.vm.findClass E = some ce.cls → vx_W p l e (rmX n0) s m args below meth c H1 locs1 (0 + 1) (0 + 6) Q (F0 m pc ls rest) q9) :
    W p l e (rmX n0) s m args below meth c H locs 0 0 Q (F0 m pc ls st0) := by
  subst hst
  have hPc : va_P g.1 vwCl w H := fr_sub hP hC
  have hDc : va_D A w := hD.sub isC hn hC
  have hFc := va_free (wc := w) hD hS hA isC hC
  refine xm_on (vx_runS (As := As) (rest := rest) ⟨hx, hb, hml, hown, hts⟩ (hM H.size) (va_cwS k hts hT hw rfl rfl hd hR) ⟨iPx_blind g _ w _, fun U hU hW => ⟨rfl, by rw [hU], hK.warm hW, by rw [hU]; exact hPc, hDc.weaken (fun _ _ _ _ => trivial), hNX.warm hW, by rw [hU]; exact ((hZ.kept hS.2.1).narrow hFc).moved hW.alike⟩⟩ rfl hk hsz rfl (lv_room hcat) hdg ⟨Nat.le_refl _, Nat.le_refl _⟩) (fun _ _ _ h => h) hS hFc (fun ce q9 H1 locs1 hP1 hk1 hS1 hce hcv hcl1 => ?_)
  exact kx ce q9 H1 locs1 (xP_back hP hD hC hk1 hP1) hS1 hce hcv hcl1
end HX
/-- 'some': a number below n, whichever it is -/
def MSm (l : Launch) (y : MethodName) (ws : List Cond) (n : Nat) (g : GG) (av : List Value) (N : Nat) : Prop := IM l y ws n g av [] (fun x w => w = [] ∧ ∃ r, r < N ∧ x = nI r)
theorem ush1 (x : Int32) : ∃ v, v < 2 ^ 31 ∧ (x.toUInt32 >>> ((nI 1).toUInt32 &&& Int32.toUInt32 31)).toInt32 = nI v := by
  have h2 := x.toUInt32.toNat_lt
  refine ⟨x.toUInt32.toNat / 2, by omega, ?_⟩
  rw [show ((nI 1).toUInt32 &&& Int32.toUInt32 31) = 1 from by decide]
  apply Int32.toBitVec_inj.mp
  show (x.toUInt32 >>> 1).toBitVec = BitVec.ofNat 32 (x.toUInt32.toNat / 2)
  apply BitVec.eq_of_toNat_eq
  rw [BitVec.toNat_ofNat]
  have h : (x.toUInt32 >>> 1).toNat = x.toUInt32.toNat / 2 := by
    rw [UInt32.toNat_shiftRight]; exact Nat.shiftRight_eq_div_pow _ 1
  show (x.toUInt32 >>> 1).toNat = _
  rw [h, Nat.mod_eq_of_lt (by omega)]
section MSC
variable {p : Program} {l : Launch} {e : Env} {R : Room} {s : State} {m : MethodId} {args : Array Value} {below : List Frame} {meth : Method} {c : Code} {H : Heap} {locs : List Loc} {cells slots : Nat} {Q : State → Prop}
variable {pc : Nat} {ls : Array Slot} {rest : List Value} {A : Nat → Prop} {g : GG} {Ts ws ws' : List Cond} {cc bytes : ByteArray} {nL maxL index n : Nat} {own : String} {y : MethodName} {ret : Option FieldType} {ad : Nat → Nat} {gm : Nat → Option Nat} {σ : Stt} {z : Scr} {v w : Int32} {N : Nat}
theorem ms_S (hx : p.tables.exec = Jvm.exec) (hb : c.code = cc) (hml : c.maxLocals = nL) (hown : s.vm.findClass own = some m.cls) (hts : ∀ x ∈ Ts, x.before args s = true) (hM : MSm l y ws n g [.int v, .int w] N) (hT : GoodIn Ts (va_wsS own index y ws)) (hw : ws = Cond.code y bytes maxL ret :: ws')
    (hd : y.cls ≠ "java/lang/invoke/MethodHandle" ∧ y.cls ≠ "java/lang/invoke/VarHandle" ∧ (parseMethodDescriptor y.desc).map (fun d => d.parameters.length) = some 2) (hR : n + 1 ≤ R.frames ∧ 8 + (maxL + 11) + 40 * n ≤ R.locals) (hf : cells ≤ R.cells ∧ slots ≤ R.slots)
    (hK : KK g s) (hz : ZOk z) (hP : va_P g.1 vwCl (MW g ad gm σ z) H) (hD : va_D A (MW g ad gm σ z)) (hS : va_S A s.heap H locs) (hA : ∀ q : Nat, s.heap.size ≤ q → A q)
    (hsz : ls.size = nL) (hcat : (rest.map fun v => v.category).sum ≤ 8) (hdg : decode cc pc = .ok (.invokestatic index, 3))
    (kk : ∀ (x : Int32), (∃ r, r < N ∧ x = nI r) → ∀ (z' : Scr) (H1 : Heap) (locs1 : List Loc), ZOk z' → va_P g.1 vwCl (MW g ad gm σ z') H1 → va_D A (MW g ad gm σ z') → va_S A s.heap H1 locs1 → W p l e R s m args below meth c H1 locs1 cells slots Q (F0 m (pc + 3) ls (.int x :: rest))) : W p l e R s m args below meth c H locs cells slots Q (F0 m pc ls (.int w :: .int v :: rest)) := by
  refine im_S (k := 2) (As := [.int v, .int w]) (rest := rest) (w := []) hx hb hml hown hts hM hT hw hd hR hf hK hP hD hS hA [] rfl (by decide) rfl hsz rfl hcat hdg (fun x w1 H1 locs1 hpo hpd hS1 => ?_)
  obtain ⟨rfl, hr⟩ := hpo
  have hpd := hpd (MW g ad gm σ z) (List.range 52) 52 rfl rfl _ MW_all MW_all (by decide) (by decide)
  exact kk x hr z H1 locs1 hz hpd.1 hpd.2 hS1
end MSC
