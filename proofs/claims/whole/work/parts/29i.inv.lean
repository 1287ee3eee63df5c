/-! what holds between two calls of the law: of class and reference alike -/
def LInv (idn : Nat → Nat) (wF mF : Nat → Nat → Nat) (gr : Nat → Nat) (ch : Nat → Option Nat) (wd : Nat → Nat) (hs : Nat → Bool) : Prop :=
  (∀ i, idn i ≤ 5) ∧ (∀ i, grOk (wF i)) ∧ grOk wd ∧ grOk gr ∧ chOk ch ∧ (∀ i, mOk (mF i)) ∧ (∀ i, dgOk (mF i)) ∧ (∀ i, i < 4 → mskR i hs (mF i)) ∧ (∀ i c, c < idn i → wd (5 * i + c) = wF i c)
def LSc (tlm thm al pp hp : Nat → Nat) (ctr cbs : Nat → Option Nat) : Prop := mOk tlm ∧ mOk thm ∧ alOk al ∧ ppOk pp ∧ hpOk hp ∧ trOk ctr ∧ trOk cbs
theorem grOk_up {m : Nat → Nat} (h : grOk m) {k v : Nat} (hv : v < 32) : grOk (va_up m k v) := by
  intro j; simp only [va_up]; split
  · exact hv
  · exact h j
theorem inv_add {idn : Nat → Nat} {wF mF : Nat → Nat → Nat} {gr : Nat → Nat} {ch : Nat → Option Nat} {wd : Nat → Nat} {hs : Nat → Bool} (h : LInv idn wF mF gr ch wd hs) {k w : Nat} (hn : idn k < 5) (hw : w < 32) : LInv (va_up idn k (idn k + 1)) (va_up wF k (va_up (wF k) (idn k) w)) mF gr ch (va_up wd (5 * k + idn k) w) hs := by
  obtain ⟨h1, h2, h3, h4, h5, h6, h7, h8, h9⟩ := h
  refine ⟨fun i => ?_, fun i => ?_, grOk_up h3 hw, h4, h5, h6, h7, h8, fun i c hc => ?_⟩
  · by_cases e : i = k
    · subst e; rw [vu_eq]; omega
    · rw [vu_ne e]; exact h1 i
  · by_cases e : i = k
    · subst e; rw [vu_eq]; exact grOk_up (h2 i) hw
    · rw [vu_ne e]; exact h2 i
  · by_cases e : i = k
    · subst e
      rw [vu_eq] at hc ⊢
      by_cases e2 : c = idn i
      · subst e2; rw [vu_eq, vu_eq]
      · rw [vu_ne e2, vu_ne (by omega)]; exact h9 i c (by omega)
    · rw [vu_ne e] at hc ⊢
      have := h1 i
      rw [vu_ne (by omega)]; exact h9 i c hc
theorem tb_xor {x k d : Nat} : (x ^^^ (1 <<< d)).testBit k = (x.testBit k ^^ decide (k = d)) := by
  rw [Nat.testBit_xor, Nat.one_shiftLeft, Nat.testBit_two_pow]
  by_cases h : k = d
  · simp [h]
  · simp [h, Ne.symm h]
theorem link_eq {hs : Nat → Bool} {mm : Nat → Nat} {k f t d : Nat} (hR : mskR k hs mm) (hf : f < 5) (ht : t < 5) (hd : d < 4) : (mm (f * 5 + t) ^^^ (1 <<< d)).testBit d = !hs (atF k f t d) := by
  rw [tb_xor, hR f t d hf ht hd]; simp
theorem inv_link {idn : Nat → Nat} {wF mF : Nat → Nat → Nat} {gr : Nat → Nat} {ch : Nat → Option Nat} {wd : Nat → Nat} {hs : Nat → Bool} (h : LInv idn wF mF gr ch wd hs) {k f t d : Nat} (hk : k < 4) (hf : f < 5) (ht : t < 5) (hft : f ≠ t) (hd : d < 4) : LInv idn wF (va_up mF k (va_up (mF k) (f * 5 + t) (mF k (f * 5 + t) ^^^ (1 <<< d)))) gr ch wd (va_up hs (atF k f t d) (!hs (atF k f t d))) := by
  obtain ⟨h1, h2, h3, h4, h5, h6, h7, h8, h9⟩ := h
  refine ⟨h1, h2, h3, h4, h5, fun i => ?_, fun i => ?_, fun i hi => ?_, h9⟩
  · by_cases e : i = k
    · subst e; rw [vu_eq]; exact mOk_up (h6 i) (xor16 (h6 i _) (shl1_lt hd))
    · rw [vu_ne e]; exact h6 i
  · by_cases e : i = k
    · subst e; rw [vu_eq]; intro a ha; rw [vu_ne (by omega)]; exact h7 i a ha
    · rw [vu_ne e]; exact h7 i
  · by_cases e : i = k
    · subst e; rw [vu_eq]
      intro a b c ha hb hc
      by_cases e2 : a = f ∧ b = t
      · obtain ⟨rfl, rfl⟩ := e2
        rw [vu_eq, tb_xor]
        by_cases e3 : c = d
        · subst e3; rw [vu_eq, h8 i hi a b c ha hb hc]; simp
        · rw [vu_ne (by unfold atF; omega), h8 i hi a b c ha hb hc]; simp [e3]
      · rw [vu_ne (f := mF i) (show a * 5 + b ≠ f * 5 + t from fun z => e2 ⟨by omega, by omega⟩), vu_ne (show atF i a b c ≠ atF i f t d from fun z => e2 (by unfold atF at z; exact ⟨by omega, by omega⟩))]
        exact h8 i hi a b c ha hb hc
    · rw [vu_ne e]
      intro a b c ha hb hc
      rw [vu_ne (show atF i a b c ≠ atF k f t d from fun z => e (by unfold atF at z; omega))]
      exact h8 i hi a b c ha hb hc
theorem inv_clear {idn : Nat → Nat} {wF mF : Nat → Nat → Nat} {gr : Nat → Nat} {ch : Nat → Option Nat} {wd : Nat → Nat} {hs : Nat → Bool} (h : LInv idn wF mF gr ch wd hs) {k : Nat} : LInv (va_up idn k 0) wF (va_up mF k (fun _ => 0)) gr ch wd (cpB hs (fun _ => false) (100 * k) 100) := by
  obtain ⟨h1, h2, h3, h4, h5, h6, h7, h8, h9⟩ := h
  refine ⟨fun i => ?_, h2, h3, h4, h5, fun i => ?_, fun i => ?_, fun i hi => ?_, fun i c hc => ?_⟩
  · by_cases e : i = k
    · subst e; rw [vu_eq]; omega
    · rw [vu_ne e]; exact h1 i
  · by_cases e : i = k
    · subst e; rw [vu_eq]; intro j; exact (by decide : 0 < 16)
    · rw [vu_ne e]; exact h6 i
  · by_cases e : i = k
    · subst e; rw [vu_eq]; intro a _; rfl
    · rw [vu_ne e]; exact h7 i
  · by_cases e : i = k
    · subst e; rw [vu_eq]
      intro a b c ha hb hc
      rw [cpB_in ha hb hc]; exact (Nat.zero_testBit c).symm
    · rw [vu_ne e]
      intro a b c ha hb hc
      unfold cpB; rw [if_neg (by unfold atF; omega)]
      exact h8 i hi a b c ha hb hc
  · by_cases e : i = k
    · subst e; rw [vu_eq] at hc; omega
    · rw [vu_ne e] at hc; exact h9 i c hc
theorem inv_syn {idn : Nat → Nat} {wF mF : Nat → Nat → Nat} {gr : Nat → Nat} {ch : Nat → Option Nat} {wd : Nat → Nat} {hs : Nat → Bool} (h : LInv idn wF mF gr ch wd hs) {a b : Nat} : LInv idn wF mF (jn gr (gr a) (gr b) 32) ch wd hs := by
  obtain ⟨h1, h2, h3, h4, h5, h6, h7, h8, h9⟩ := h
  exact ⟨h1, h2, h3, jn_ok h4 (h4 a), h5, h6, h7, h8, h9⟩
theorem inv_chain {idn : Nat → Nat} {wF mF : Nat → Nat → Nat} {gr : Nat → Nat} {ch : Nat → Option Nat} {wd : Nat → Nat} {hs : Nat → Bool} (h : LInv idn wF mF gr ch wd hs) {p : Nat} {o : Option Nat} (ho : ∀ d, o = some d → d < 4) : LInv idn wF mF gr (va_up ch p o) wd hs := by
  obtain ⟨h1, h2, h3, h4, h5, h6, h7, h8, h9⟩ := h
  refine ⟨h1, h2, h3, h4, fun q k hq => ?_, h6, h7, h8, h9⟩
  by_cases e : q = p
  · subst e; rw [vu_eq] at hq; exact ho k hq
  · rw [vu_ne e] at hq; exact h5 q k hq
/-- the rows of work after a search -/
theorem sc_fb {ch : Nat → Option Nat} {gr wp wm pm mm tlm thm al pp hp : Nat → Nat} {tr bs : Nat → Option Nat} {pn qn : Nat} (h : LSc tlm thm al pp hp tr bs) (hp5 : pn ≤ 5) (hq : qn ≤ 5) : LSc tlm thm (alN gr wp wm qn pn al) (pp1 ch gr wp wm pm mm al pp hp pn qn) (hp1 ch gr wp wm pm mm al pp hp pn qn) (fb1 ch gr wp wm pm mm al pp hp tr bs pn qn).1 (fb1 ch gr wp wm pm mm al pp hp tr bs pn qn).2.2 := by
  obtain ⟨h1, h2, h3, h4, h5, h6, h7⟩ := h
  exact ⟨h1, h2, alN_ok hq h3, pp1_ok hp5 h4 h5, hp1_ok hp5 h4 h5, (fbE_ok hp5 hq (pp1_ok hp5 h4 h5) h6 (fun _ z => by cases z)).1, fbE_bs hq h6 h7⟩
theorem sc_mb {ch : Nat → Option Nat} {gr wp wm pm mm tlm thm al pp hp : Nat → Nat} {tr bs : Nat → Option Nat} {pn qn : Nat} (h : LSc tlm thm al pp hp tr bs) (hp5 : pn ≤ 5) (hq : qn ≤ 5) : LSc tlm thm (alN gr wp wm qn pn al) (pp1 ch gr wp wm pm mm al pp hp pn qn) (hp1 ch gr wp wm pm mm al pp hp pn qn) (mbF qn (alN gr wp wm qn pn al) (pp1 ch gr wp wm pm mm al pp hp pn qn) pn tr).2 bs := by
  obtain ⟨h1, h2, h3, h4, h5, h6, h7⟩ := h
  exact ⟨h1, h2, alN_ok hq h3, pp1_ok hp5 h4 h5, hp1_ok hp5 h4 h5, (moa_ok hq (pp1_ok hp5 h4 h5) pn 0 0 0 tr (by omega) (Nat.zero_le _) h6).2, h7⟩
theorem sc_hn {ch : Nat → Option Nat} {gr wp wm pm mm tlm thm al pp hp : Nat → Nat} {tr bs : Nat → Option Nat} {pn qn : Nat} {S : HS} (hS : S = fblR ch gr wp wm pm mm al pp hp tr bs pn qn tlm thm) (h : LSc tlm thm al pp hp tr bs) (hc : chOk ch) (hpm : mOk pm) (hp5 : pn ≤ 5) (hq : qn ≤ 5) : LSc S.2.2.1 S.2.2.2.1 (alN gr wp wm qn pn al) S.2.2.2.2.1 S.2.2.2.2.2.1 S.2.2.2.2.2.2.1 S.2.2.2.2.2.2.2.1 := by
  obtain ⟨h1, h2, h3, h4, h5, h6, h7⟩ := h
  have k := hlF_ok (al := alN gr wp wm qn pn al) (wn := mm) hc hpm (clo_ok hc hpm) hp5 hq (hs1_ok (ch := ch) (gr := gr) (wp := wp) (wm := wm) (pm := pm) (mm := mm) (al := al) hp5 hq h4 h5 h6 h7 h1 h2) pn
  rw [hS]
  exact ⟨k.2.1.1, k.2.1.2, alN_ok hq h3, k.2.2.1, k.2.2.2.1, k.2.2.2.2.1, k.2.2.2.2.2⟩
theorem sc_bm {ch : Nat → Option Nat} {gr wp pm tlm thm hd al pp hp : Nat → Nat} {tr bs : Nat → Option Nat} {pn p q : Nat} {bp : Option Nat} {wF mF : Nat → Nat → Nat} {qF : Nat → Nat} {S : BM} (hS : S = bmB ch gr wp pm pn wF mF qF (none, none, hd, al, pp, hp, tr, bs, p, q, bp) 4) (h : LSc tlm thm al pp hp tr bs) (hp5 : pn ≤ 5) (hq : ∀ i, qF i ≤ 5) : LSc tlm thm S.2.2.2.1 S.2.2.2.2.1 S.2.2.2.2.2.1 S.2.2.2.2.2.2.1 S.2.2.2.2.2.2.2.1 := by
  obtain ⟨h1, h2, h3, h4, h5, h6, h7⟩ := h
  have k := bmB_ok (ch := ch) (gr := gr) (wp := wp) (pm := pm) (wF := wF) (mF := mF) hp5 hq (show bmOk (none, none, hd, al, pp, hp, tr, bs, p, q, bp) from ⟨fun _ z => (by cases z), h3, h4, h5, h6, h7⟩) 4
  rw [hS]
  exact ⟨h1, h2, k.2.1, k.2.2.1, k.2.2.2.1, k.2.2.2.2.1, k.2.2.2.2.2⟩
/-- equal answers -/
theorem eq_held {ch : Nat → Option Nat} {hs ro : Nat → Bool} {mm : Nat → Nat} {k : Nat} (hc : chOk ch) (hk : k < 4) (hm : mOk mm) (hR : mskR k hs mm) : cntN (clo ch mm) 25 = cntB (clB ch k ro hs) (100 * k) 100 := (cntB_m (clo_clB hc hk hm hR) (clo_ok hc hm)).symm
theorem eq_holds {ch : Nat → Option Nat} {hs ro : Nat → Bool} {mm : Nat → Nat} {k f t d : Nat} (hc : chOk ch) (hk : k < 4) (hm : mOk mm) (hR : mskR k hs mm) (hf : f < 5) (ht : t < 5) (hd : d < 4) : (clo ch mm (f * 5 + t)).testBit d = clB ch k ro hs (atF k f t d) := (clo_clB hc hk hm hR f t d hf ht hd).symm
theorem eq_best {ch : Nat → Option Nat} {gr wp pm hd al pp hp : Nat → Nat} {tr bs : Nat → Option Nat} {pn p q : Nat} {bp : Option Nat} {wF mF : Nat → Nat → Nat} {qF : Nat → Nat} (hp5 : pn ≤ 5) (hq : ∀ i, qF i ≤ 5) : (bmB ch gr wp pm pn wF mF qF (none, none, hd, al, pp, hp, tr, bs, p, q, bp) 4).1 = (bmA ch gr wp pm pn wF mF qF).1 := congrArg Prod.fst (bmB_T hp5 hq 4)
theorem lg_self (v : Int64) : lg_cmp v v = 0 := by
  unfold lg_cmp
  rw [if_neg (by rw [gt_iff_lt, Int64.lt_iff_toInt_lt]; omega), if_pos rfl]
theorem lg_eq {v w : Int64} (h : v = w) : lg_cmp v w = 0 := by rw [h]; exact lg_self w
theorem out_0 {fo : Nat → Int64} {v : Int64} : vp_updL fo 0 v (nI 0).toNatClampNeg = v := by
  rw [nI_clamp (by decide)]; simp [vp_updL]
/-! calls of the law: static methods with a table of their own -/
section LC
variable {p : Program} {l : Launch} {e : Env} {R : Room} {s : State} {m : MethodId} {args : Array Value} {below : List Frame} {meth : Method} {c : Code} {H : Heap} {locs : List Loc} {cells slots : Nat} {Q : State → Prop}
variable {pc : Nat} {ls : Array Slot} {rest st0 As : List Value} {A : Nat → Prop} {g : GG} {wsx w : va_W} {Ts ws ws' : List Cond} {cc bytes : ByteArray} {nL maxL index n k : Nat} {own : String} {y : MethodName} {ret : Option FieldType} {hh : List (Nat × Nat × Nat × Nat)}
theorem im_SW {post : Int32 → va_W → Prop} (hx : p.tables.exec = Jvm.exec) (hb : c.code = cc) (hml : c.maxLocals = nL) (hown : s.vm.findClass own = some m.cls) (hts : ∀ x ∈ Ts, x.before args s = true) (hM : IM l y ws n g As w post) (hT : GoodIn Ts (va_wsS own index y ws)) (hw : ws = Cond.codeWith y bytes maxL ret hh :: ws')
    (hd : y.cls ≠ "java/lang/invoke/MethodHandle" ∧ y.cls ≠ "java/lang/invoke/VarHandle" ∧ (parseMethodDescriptor y.desc).map (fun d => d.parameters.length) = some k) (hR : n + 1 ≤ R.frames ∧ 8 + (maxL + 11) + 40 * n ≤ R.locals) (hf : cells ≤ R.cells ∧ slots ≤ R.slots)
    (hK : KK g s) (hP : va_P g.1 vwCl wsx H) (hD : va_D A wsx) (hS : va_S A s.heap H locs) (hA : ∀ q : Nat, s.heap.size ≤ q → A q) (isC : List Nat) (hC : isC.map (fun i => wsx[i]?) = w.map some) (hn : va_nd isC = true)
    (hk : As.length = k) (hsz : ls.size = nL) (hst : st0 = As.reverse ++ rest) (hcat : (rest.map fun v => v.category).sum ≤ 8) (hdg : decode cc pc = .ok (.invokestatic index, 3))
    (kk : ∀ (x : Int32) (w1 : va_W) (H1 : Heap) (locs1 : List Loc), post x w1 → fr_B g.1 vwCl A wsx isC w1 H1 → va_S A s.heap H1 locs1 → W p l e R s m args below meth c H1 locs1 cells slots Q (F0 m (pc + 3) ls (.int x :: rest))) : W p l e R s m args below meth c H locs cells slots Q (F0 m pc ls st0) := by
  subst hst
  have hPc : va_P g.1 vwCl w H := fr_sub hP hC
  have hDc : va_D A w := hD.sub isC hn hC
  have hFc := va_free (wc := w) hD hS hA isC hC
  refine va_calli (vx_runSW (As := As) (rest := rest) ⟨hx, hb, hml, hown, hts⟩ (hM H.size) (vx_cwSW k hts hT hw rfl rfl hd hR) ⟨iPc_blind g _ w _, fun U hU hW => ⟨rfl, by rw [hU], hK.warm hW, by rw [hU]; exact hPc, hDc.weaken (fun _ _ _ _ => trivial)⟩⟩ rfl hk hsz rfl (lv_room hcat) hdg hf) hS (fun q _ h => hFc q h) hFc (fun r u t H1 locs1 ht hvm hw hB hz1 hk1 hS1 => ?_)
  obtain ⟨hP1, hadr⟩ := hB
  rw [ht] at hP1
  exact kk r u H1 locs1 hw (fun ws' isR n a1 a2 wr a3 b3 a4 a5 => fr_new hP hD isC hC hadr hk1 hP1 ws' isR n a1 a2 wr a3 b3 a4 a5) hS1
theorem ix_SW {post : Int32 → va_W → Prop} (hx : p.tables.exec = Jvm.exec) (hb : c.code = cc) (hml : c.maxLocals = nL) (hown : s.vm.findClass own = some m.cls) (hts : ∀ x ∈ Ts, x.before args s = true) (hM : IX l y ws n g As w post) (hT : GoodIn Ts (va_wsS own index y ws)) (hw : ws = Cond.codeWith y bytes maxL ret hh :: ws')
    (hd : y.cls ≠ "java/lang/invoke/MethodHandle" ∧ y.cls ≠ "java/lang/invoke/VarHandle" ∧ (parseMethodDescriptor y.desc).map (fun d => d.parameters.length) = some k) (hR : n + 5 + 1 ≤ R.frames ∧ 8 + (maxL + 11) + (40 * n + 60) ≤ R.locals) (hf : cells + 1 ≤ R.cells ∧ slots + 6 ≤ R.slots)
    (hK : KK g s) (hNX : XN s) (hZ : XZ A s s.heap) (hP : va_P g.1 vwCl wsx H) (hD : va_D A wsx) (hS : va_S A s.heap H locs) (hA : ∀ q : Nat, s.heap.size ≤ q → A q) (isC : List Nat) (hC : isC.map (fun i => wsx[i]?) = w.map some) (hn : va_nd isC = true)
    (hk : As.length = k) (hsz : ls.size = nL) (hst : st0 = As.reverse ++ rest) (hcat : (rest.map fun v => v.category).sum ≤ 8) (hdg : decode cc pc = .ok (.invokestatic index, 3))
    (kk : ∀ (x : Int32) (w1 : va_W) (H1 : Heap) (locs1 : List Loc), post x w1 → fr_B g.1 vwCl A wsx isC w1 H1 → va_S A s.heap H1 locs1 → W p l e R s m args below meth c H1 locs1 (cells + 1) (slots + 6) Q (F0 m (pc + 3) ls (.int x :: rest))) : W p l e R s m args below meth c H locs cells slots Q (F0 m pc ls st0) := by
  subst hst
  have hPc : va_P g.1 vwCl w H := fr_sub hP hC
  have hDc : va_D A w := hD.sub isC hn hC
  have hFc := va_free (wc := w) hD hS hA isC hC
  refine va_calli (vx_runSW (As := As) (rest := rest) ⟨hx, hb, hml, hown, hts⟩ (hM H.size) (vx_cwSW k hts hT hw rfl rfl hd hR) ⟨iPx_blind g _ w _, fun U hU hW => ⟨rfl, by rw [hU], hK.warm hW, by rw [hU]; exact hPc, hDc.weaken (fun _ _ _ _ => trivial), hNX.warm hW, by rw [hU]; exact ((hZ.kept hS.2.1).narrow hFc).moved hW.alike⟩⟩ rfl hk hsz rfl (lv_room hcat) hdg hf) hS (fun q _ h => hFc q h) hFc (fun r u t H1 locs1 ht hvm hw hB hz1 hk1 hS1 => ?_)
  obtain ⟨hP1, hadr⟩ := hB
  rw [ht] at hP1
  exact kk r u H1 locs1 hw (fun ws' isR n a1 a2 wr a3 b3 a4 a5 => fr_new hP hD isC hC hadr hk1 hP1 ws' isR n a1 a2 wr a3 b3 a4 a5) hS1
end LC
