/-! what a call of the marker leaves in its working rows -/
def alN (gr wp wm : Nat → Nat) (qn pn : Nat) (al : Nat → Nat) : Nat → Nat := alF al (fun j => bN (fun o => decide (gr (wp j) = gr (wm o))) qn) pn
def ppN (al own hld wn : Nat → Nat) (p q : Nat) (pp hp : Nat → Nat) : Nat → Nat := (tlL al own hld wn p q pp hp p).1.1
def hpN (al own hld wn : Nat → Nat) (p q : Nat) (pp hp : Nat → Nat) : Nat → Nat := (tlL al own hld wn p q pp hp p).2
theorem hpN_p {al own hld wn : Nat → Nat} {p q : Nat} {pp hp : Nat → Nat} : hpN al own hld wn p q pp hp p = 0 := tlL_p p (Nat.le_refl _)
def fbE (q : Nat) (al pp hp : Nat → Nat) (p : Nat) (tr : Nat → Option Nat) (fl : Option Nat) (bs : Nat → Option Nat) : ES := ext q al pp hp p 0 0 0 (tr, fl, bs)
theorem alN_ok {gr wp wm : Nat → Nat} {qn pn : Nat} {al : Nat → Nat} (hq : qn ≤ 5) (h : alOk al) : alOk (alN gr wp wm qn pn al) := by
  intro j; simp only [alN, alF]; split
  · exact bN_lt _ qn hq
  · exact h j
theorem ppN_ok {al own hld wn : Nat → Nat} {p q : Nat} {pp hp : Nat → Nat} (hp5 : p ≤ 5) (h : ppOk pp) (hh : hpOk hp) : ppOk (ppN al own hld wn p q pp hp) := (tlL_ok hp5 h hh p).1
theorem hpN_ok {al own hld wn : Nat → Nat} {p q : Nat} {pp hp : Nat → Nat} (hp5 : p ≤ 5) (h : ppOk pp) (hh : hpOk hp) : hpOk (hpN al own hld wn p q pp hp) := (tlL_ok hp5 h hh p).2.2 hp5
theorem fbE_ok {q : Nat} {al pp hp : Nat → Nat} {p : Nat} {tr : Nat → Option Nat} {fl : Option Nat} {bs : Nat → Option Nat} (hp5 : p ≤ 5) (hq : q ≤ 5) (hpp : ppOk pp) (ht : trOk tr) (hf : bpOk fl) : trOk (fbE q al pp hp p tr fl bs).1 ∧ bpOk (fbE q al pp hp p tr fl bs).2.1 :=
  ext_ok hq hpp p 0 0 0 _ (by omega) (by omega) ⟨ht, hf⟩
/-- the best so far is a row of what is tried, too -/
def bsOk (s : ES) : Prop := trOk s.1 ∧ trOk s.2.2
theorem ext_bs {q : Nat} {al pp hp : Nat → Nat} (hq : q ≤ 5) : ∀ (d idea used pts : Nat) (s : ES), bsOk s → bsOk (ext q al pp hp d idea used pts s)
  | 0, idea, used, pts, s, h => by
    unfold ext; split
    · exact h
    · exact ⟨h.1, h.1⟩
  | d + 1, idea, used, pts, s, h => by
    have hf : ∀ o, o ≤ q → bsOk (foldO (exStep (ext q al pp hp d (idea + 1)) al pp idea used pts) s o) := by
      intro o
      induction o with
      | zero => intro _; exact h
      | succ o ih =>
        intro ho
        show bsOk (exStep _ _ _ _ _ _ o _)
        unfold exStep; split
        · exact ext_bs hq d (idea + 1) _ _ _ ⟨trOk_up (ih (by omega)).1 (by omega), (ih (by omega)).2⟩
        · exact ih (by omega)
    unfold ext; split
    · exact h
    · exact ext_bs hq d (idea + 1) used pts _ ⟨trOk_none (hf q (Nat.le_refl _)).1, (hf q (Nat.le_refl _)).2⟩
theorem fbE_bs {q : Nat} {al pp hp : Nat → Nat} {p : Nat} {tr : Nat → Option Nat} {fl : Option Nat} {bs : Nat → Option Nat} (hq : q ≤ 5) (ht : trOk tr) (hb : trOk bs) : trOk (fbE q al pp hp p tr fl bs).2.2 := (ext_bs hq p 0 0 0 _ ⟨ht, hb⟩).2
theorem fbE_le {q : Nat} {al pp hp : Nat → Nat} {p : Nat} {tr : Nat → Option Nat} {fl : Option Nat} {bs : Nat → Option Nat} (hp5 : p ≤ 5) (hq : q ≤ 5) (hpp : ppOk pp) (ht : trOk tr) (hf : bpOk fl) : (fbE q al pp hp p tr fl bs).2.1.getD 0 ≤ 2000 := by
  obtain ⟨b, hb⟩ := ext_some (q := q) (al := al) (pp := pp) (hp := hp) p 0 0 0 (tr, fl, bs)
  have h1 := (fbE_ok (al := al) (hp := hp) (bs := bs) hp5 hq hpp ht hf).2 b hb
  show (ext q al pp hp p 0 0 0 (tr, fl, bs)).2.1.getD 0 ≤ 2000
  rw [hb]; exact h1
theorem fbE_ge {q : Nat} {al pp hp : Nat → Nat} {p : Nat} {tr : Nat → Option Nat} {f : Nat} {bs : Nat → Option Nat} (h0 : hp p = 0) : f ≤ (fbE q al pp hp p tr (some f) bs).2.1.getD 0 := by
  obtain ⟨b, hb, h⟩ := ext_ge (q := q) (al := al) (pp := pp) (hp := hp) (a := f) p 0 0 0 (tr, some f, bs) (by rw [Nat.zero_add]; exact h0) ⟨f, rfl, Nat.le_refl _⟩
  show f ≤ (ext q al pp hp p 0 0 0 (tr, some f, bs)).2.1.getD 0
  rw [hb]; exact h
/-- the state of the search for the link that adds most: bestLink, bestGain, both trial sets, the matching's rows -/
abbrev HS : Type := Option Nat × Nat × (Nat → Nat) × (Nat → Nat) × (Nat → Nat) × (Nat → Nat) × (Nat → Option Nat) × (Nat → Option Nat) × Option Nat
def hAdd (m : Nat → Nat) (f t k : Nat) : Nat → Nat := va_up m (f * 5 + t) (m (f * 5 + t) ||| (1 <<< k))
def hStep (ch : Nat → Option Nat) (own hld wn al : Nat → Nat) (p q before f t k : Nat) (s : HS) : HS :=
  if f ≠ t ∧ (own (f * 5 + t)).testBit k = false then
    let tl := hAdd own f t k
    let th := clo ch (hAdd hld f t k)
    let pp := ppN al tl th wn p q s.2.2.2.2.1 s.2.2.2.2.2.1
    let hp := hpN al tl th wn p q s.2.2.2.2.1 s.2.2.2.2.2.1
    let E := fbE q al pp hp p s.2.2.2.2.2.2.1 (some (before + s.2.1)) s.2.2.2.2.2.2.2.1
    let gain := E.2.1.getD 0 - before
    (if s.2.1 < gain then some (100 * f + 10 * t + k) else s.1, if s.2.1 < gain then gain else s.2.1, tl, th, pp, hp, E.1, E.2.2, E.2.1)
  else s
def hlK (ch : Nat → Option Nat) (own hld wn al : Nat → Nat) (p q before f t : Nat) (s : HS) : Nat → HS
  | 0 => s
  | k + 1 => hStep ch own hld wn al p q before f t k (hlK ch own hld wn al p q before f t s k)
def hlT (ch : Nat → Option Nat) (own hld wn al : Nat → Nat) (p q before f : Nat) (s : HS) : Nat → HS
  | 0 => s
  | t + 1 => hlK ch own hld wn al p q before f t (hlT ch own hld wn al p q before f s t) 4
def hlF (ch : Nat → Option Nat) (own hld wn al : Nat → Nat) (p q before : Nat) (s : HS) : Nat → HS
  | 0 => s
  | f + 1 => hlT ch own hld wn al p q before f (hlF ch own hld wn al p q before s f) p
def hsOk (before : Nat) (s : HS) : Prop := before + s.2.1 ≤ 2000 ∧ (mOk s.2.2.1 ∧ mOk s.2.2.2.1) ∧ ppOk s.2.2.2.2.1 ∧ hpOk s.2.2.2.2.2.1 ∧ trOk s.2.2.2.2.2.2.1 ∧ trOk s.2.2.2.2.2.2.2.1
theorem hAdd_ok {m : Nat → Nat} (h : mOk m) {f t k : Nat} (hk : k < 4) : mOk (hAdd m f t k) := mOk_up h (or16 (h _) (shl1_lt hk))
set_option maxRecDepth 100000 in
theorem hStep_ok {ch : Nat → Option Nat} {own hld wn al : Nat → Nat} {p q before f t k : Nat} {s : HS} (hc : chOk ch) (ho : mOk own) (hh : mOk hld) (hp5 : p ≤ 5) (hq5 : q ≤ 5) (hk : k < 4) (h : hsOk before s) : hsOk before (hStep ch own hld wn al p q before f t k s) := by
  unfold hStep; split
  · obtain ⟨h1, ⟨h2, h3⟩, h4, h5, h6, h7⟩ := h
    have hpp := ppN_ok (al := al) (own := hAdd own f t k) (hld := clo ch (hAdd hld f t k)) (wn := wn) (q := q) hp5 h4 h5
    have hhp := hpN_ok (al := al) (own := hAdd own f t k) (hld := clo ch (hAdd hld f t k)) (wn := wn) (q := q) hp5 h4 h5
    have hb : bpOk (some (before + s.2.1)) := fun b hb => by cases hb; exact h1
    have hE := fbE_ok (al := al) (hp := hpN al (hAdd own f t k) (clo ch (hAdd hld f t k)) wn p q s.2.2.2.2.1 s.2.2.2.2.2.1) (bs := s.2.2.2.2.2.2.2.1) hp5 hq5 hpp h6 hb
    have hl := fbE_le (al := al) (hp := hpN al (hAdd own f t k) (clo ch (hAdd hld f t k)) wn p q s.2.2.2.2.1 s.2.2.2.2.2.1) (bs := s.2.2.2.2.2.2.2.1) hp5 hq5 hpp h6 hb
    have hg := fbE_ge (q := q) (al := al) (pp := ppN al (hAdd own f t k) (clo ch (hAdd hld f t k)) wn p q s.2.2.2.2.1 s.2.2.2.2.2.1) (hp := hpN al (hAdd own f t k) (clo ch (hAdd hld f t k)) wn p q s.2.2.2.2.1 s.2.2.2.2.2.1) (p := p) (tr := s.2.2.2.2.2.2.1) (f := before + s.2.1) (bs := s.2.2.2.2.2.2.2.1) hpN_p
    refine ⟨?_, ⟨hAdd_ok ho hk, clo_ok hc (hAdd_ok hh hk)⟩, hpp, hhp, hE.1, fbE_bs hq5 h6 h7⟩
    show before + (if _ then _ else _) ≤ 2000
    split
    · omega
    · exact h1
  · exact h
theorem hlK_ok {ch : Nat → Option Nat} {own hld wn al : Nat → Nat} {p q before f t : Nat} {s : HS} (hc : chOk ch) (ho : mOk own) (hh : mOk hld) (hp5 : p ≤ 5) (hq5 : q ≤ 5) (h : hsOk before s) : ∀ k, k ≤ 4 → hsOk before (hlK ch own hld wn al p q before f t s k)
  | 0, _ => h
  | k + 1, hk => hStep_ok hc ho hh hp5 hq5 (by omega) (hlK_ok hc ho hh hp5 hq5 h k (by omega))
theorem hlT_ok {ch : Nat → Option Nat} {own hld wn al : Nat → Nat} {p q before f : Nat} {s : HS} (hc : chOk ch) (ho : mOk own) (hh : mOk hld) (hp5 : p ≤ 5) (hq5 : q ≤ 5) (h : hsOk before s) : ∀ t, hsOk before (hlT ch own hld wn al p q before f s t)
  | 0 => h
  | t + 1 => hlK_ok hc ho hh hp5 hq5 (hlT_ok hc ho hh hp5 hq5 h t) 4 (Nat.le_refl _)
theorem hlF_ok {ch : Nat → Option Nat} {own hld wn al : Nat → Nat} {p q before : Nat} {s : HS} (hc : chOk ch) (ho : mOk own) (hh : mOk hld) (hp5 : p ≤ 5) (hq5 : q ≤ 5) (h : hsOk before s) : ∀ f, hsOk before (hlF ch own hld wn al p q before s f)
  | 0 => h
  | f + 1 => hlT_ok hc ho hh hp5 hq5 (hlF_ok hc ho hh hp5 hq5 h f) p
theorem hlK_no1 {ch : Nat → Option Nat} {own hld wn al : Nat → Nat} {p q before f t k : Nat} {s : HS} (h : f = t) : hlK ch own hld wn al p q before f t s (k + 1) = hlK ch own hld wn al p q before f t s k := by
  show hStep ch own hld wn al p q before f t k _ = _
  unfold hStep; rw [if_neg (fun z => z.1 h)]
theorem hlK_no2 {ch : Nat → Option Nat} {own hld wn al : Nat → Nat} {p q before f t k : Nat} {s : HS} (h : (own (f * 5 + t)).testBit k = true) : hlK ch own hld wn al p q before f t s (k + 1) = hlK ch own hld wn al p q before f t s k := by
  show hStep ch own hld wn al p q before f t k _ = _
  unfold hStep; rw [if_neg (fun z => by rw [h] at z; exact absurd z.2 (by decide))]
theorem hlK_yes {ch : Nat → Option Nat} {own hld wn al : Nat → Nat} {p q before f t k : Nat} {s : HS} (h1 : f ≠ t) (h2 : (own (f * 5 + t)).testBit k = false) : hlK ch own hld wn al p q before f t s (k + 1) =
    (let S := hlK ch own hld wn al p q before f t s k
     let tl := hAdd own f t k
     let th := clo ch (hAdd hld f t k)
     let pp := ppN al tl th wn p q S.2.2.2.2.1 S.2.2.2.2.2.1
     let hp := hpN al tl th wn p q S.2.2.2.2.1 S.2.2.2.2.2.1
     let E := fbE q al pp hp p S.2.2.2.2.2.2.1 (some (before + S.2.1)) S.2.2.2.2.2.2.2.1
     let gain := E.2.1.getD 0 - before
     (if S.2.1 < gain then some (100 * f + 10 * t + k) else S.1, if S.2.1 < gain then gain else S.2.1, tl, th, pp, hp, E.1, E.2.2, E.2.1)) := by
  show hStep ch own hld wn al p q before f t k _ = _
  unfold hStep; rw [if_pos ⟨h1, h2⟩]
/-- the rows of the matching once it is prepared; the first search -/
def pp1 (ch : Nat → Option Nat) (gr wp wm pm mm al pp hp : Nat → Nat) (pn qn : Nat) : Nat → Nat := ppN (alN gr wp wm qn pn al) pm (clo ch pm) mm pn qn pp hp
def hp1 (ch : Nat → Option Nat) (gr wp wm pm mm al pp hp : Nat → Nat) (pn qn : Nat) : Nat → Nat := hpN (alN gr wp wm qn pn al) pm (clo ch pm) mm pn qn pp hp
def fb1 (ch : Nat → Option Nat) (gr wp wm pm mm al pp hp : Nat → Nat) (tr bs : Nat → Option Nat) (pn qn : Nat) : ES := fbE qn (alN gr wp wm qn pn al) (pp1 ch gr wp wm pm mm al pp hp pn qn) (hp1 ch gr wp wm pm mm al pp hp pn qn) pn tr none bs
def hs1 (ch : Nat → Option Nat) (gr wp wm pm mm al pp hp : Nat → Nat) (tr bs : Nat → Option Nat) (pn qn : Nat) (tlm thm : Nat → Nat) : HS := (none, 0, tlm, thm, pp1 ch gr wp wm pm mm al pp hp pn qn, hp1 ch gr wp wm pm mm al pp hp pn qn, (fb1 ch gr wp wm pm mm al pp hp tr bs pn qn).1, (fb1 ch gr wp wm pm mm al pp hp tr bs pn qn).2.2, (fb1 ch gr wp wm pm mm al pp hp tr bs pn qn).2.1)
def fblR (ch : Nat → Option Nat) (gr wp wm pm mm al pp hp : Nat → Nat) (tr bs : Nat → Option Nat) (pn qn : Nat) (tlm thm : Nat → Nat) : HS :=
  hlF ch pm (clo ch pm) mm (alN gr wp wm qn pn al) pn qn ((fb1 ch gr wp wm pm mm al pp hp tr bs pn qn).2.1.getD 0) (hs1 ch gr wp wm pm mm al pp hp tr bs pn qn tlm thm) pn
theorem pp1_ok {ch : Nat → Option Nat} {gr wp wm pm mm al pp hp : Nat → Nat} {pn qn : Nat} (hp5 : pn ≤ 5) (h : ppOk pp) (hh : hpOk hp) : ppOk (pp1 ch gr wp wm pm mm al pp hp pn qn) := ppN_ok hp5 h hh
theorem hp1_ok {ch : Nat → Option Nat} {gr wp wm pm mm al pp hp : Nat → Nat} {pn qn : Nat} (hp5 : pn ≤ 5) (h : ppOk pp) (hh : hpOk hp) : hpOk (hp1 ch gr wp wm pm mm al pp hp pn qn) := hpN_ok hp5 h hh
theorem fb1_le {ch : Nat → Option Nat} {gr wp wm pm mm al pp hp : Nat → Nat} {tr bs : Nat → Option Nat} {pn qn : Nat} (hp5 : pn ≤ 5) (hq : qn ≤ 5) (h : ppOk pp) (hh : hpOk hp) (ht : trOk tr) : (fb1 ch gr wp wm pm mm al pp hp tr bs pn qn).2.1.getD 0 ≤ 2000 := fbE_le hp5 hq (pp1_ok hp5 h hh) ht (fun _ h => by cases h)
theorem hs1_ok {ch : Nat → Option Nat} {gr wp wm pm mm al pp hp : Nat → Nat} {tr bs : Nat → Option Nat} {pn qn : Nat} {tlm thm : Nat → Nat} (hp5 : pn ≤ 5) (hq : qn ≤ 5) (h : ppOk pp) (hh : hpOk hp) (ht : trOk tr) (hbs : trOk bs) (htl : mOk tlm) (htt : mOk thm) : hsOk ((fb1 ch gr wp wm pm mm al pp hp tr bs pn qn).2.1.getD 0) (hs1 ch gr wp wm pm mm al pp hp tr bs pn qn tlm thm) :=
  ⟨fb1_le hp5 hq h hh ht, ⟨htl, htt⟩, pp1_ok hp5 h hh, hp1_ok hp5 h hh, (fbE_ok hp5 hq (pp1_ok hp5 h hh) ht (fun _ h => by cases h)).1, fbE_bs hq ht hbs⟩
