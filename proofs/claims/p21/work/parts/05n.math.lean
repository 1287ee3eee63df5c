/-! the search for the best matching, as the class goes about it -/
abbrev ES : Type := (Nat → Option Nat) × Option Nat × (Nat → Option Nat)
def foldO (step : Nat → ES → ES) (s : ES) : Nat → ES
  | 0 => s
  | o + 1 => step o (foldO step s o)
def pweN (pp : Nat → Nat) (tr : Nat → Option Nat) (idea other : Nat) : Nat → Nat
  | 0 => 0
  | e + 1 => match tr e with
    | none => pweN pp tr idea other e
    | some gv => pweN pp tr idea other e + pp ((e * 5 + idea) * 25 + gv * 5 + other)
def exStep (rc : Nat → Nat → ES → ES) (al pp : Nat → Nat) (idea used pts o : Nat) (s : ES) : ES :=
  if (al idea).testBit o = true ∧ used.testBit o = false then
    rc (used ||| (1 <<< o)) (pts + pweN pp (va_up s.1 idea (some o)) idea o idea) (va_up s.1 idea (some o), s.2)
  else s
theorem exF_yes {rc : Nat → Nat → ES → ES} {al pp : Nat → Nat} {i used pts o : Nat} {s : ES} (h1 : (al i).testBit o = true) (h2 : (used >>> o) &&& 1 = 0) : foldO (exStep rc al pp i used pts) s (o + 1) = rc (used ||| (1 <<< o)) (pts + pweN pp (va_up (foldO (exStep rc al pp i used pts) s o).1 i (some o)) i o i) (va_up (foldO (exStep rc al pp i used pts) s o).1 i (some o), (foldO (exStep rc al pp i used pts) s o).2) := by
  show exStep rc al pp i used pts o _ = _
  unfold exStep; rw [if_pos ⟨h1, tb_eq h2⟩]
theorem exF_no1 {rc : Nat → Nat → ES → ES} {al pp : Nat → Nat} {i used pts o : Nat} {s : ES} (h1 : (al i).testBit o = false) : foldO (exStep rc al pp i used pts) s (o + 1) = foldO (exStep rc al pp i used pts) s o := by
  show exStep rc al pp i used pts o _ = _
  unfold exStep; rw [if_neg (fun z => by rw [h1] at z; exact absurd z.1 (by decide))]
theorem exF_no2 {rc : Nat → Nat → ES → ES} {al pp : Nat → Nat} {i used pts o : Nat} {s : ES} (h1 : (used >>> o) &&& 1 ≠ 0) : foldO (exStep rc al pp i used pts) s (o + 1) = foldO (exStep rc al pp i used pts) s o := by
  show exStep rc al pp i used pts o _ = _
  unfold exStep; rw [if_neg (fun z => by rw [tb_ne h1] at z; exact absurd z.2 (by decide))]
def ext (q : Nat) (al pp hp : Nat → Nat) : Nat → Nat → Nat → Nat → ES → ES
  | 0, idea, _, pts, s => if leO (pts + hp idea) s.2.1 = true then s else (s.1, some pts, s.1)
  | d + 1, idea, used, pts, s => if leO (pts + hp idea) s.2.1 = true then s else
    ext q al pp hp d (idea + 1) used pts (va_up (foldO (exStep (ext q al pp hp d (idea + 1)) al pp idea used pts) s q).1 idea none, (foldO (exStep (ext q al pp hp d (idea + 1)) al pp idea used pts) s q).2)
def trOk (t : Nat → Option Nat) : Prop := ∀ j v, t j = some v → v < 5
def bpOk (o : Option Nat) : Prop := ∀ b, o = some b → b ≤ 2000
def esOk (s : ES) : Prop := trOk s.1 ∧ bpOk s.2.1
def alOk (al : Nat → Nat) : Prop := ∀ j, al j < 32
def ppOk (pp : Nat → Nat) : Prop := ∀ j, pp j ≤ 100
def hpOk (hp : Nat → Nat) : Prop := ∀ j, hp j ≤ 1000000
theorem trOk_up {t : Nat → Option Nat} (h : trOk t) {k v : Nat} (hv : v < 5) : trOk (va_up t k (some v)) := by
  intro j w hj; simp only [va_up] at hj; split at hj
  · cases hj; exact hv
  · exact h j w hj
theorem trOk_none {t : Nat → Option Nat} (h : trOk t) {k : Nat} : trOk (va_up t k none) := by
  intro j w hj; simp only [va_up] at hj; split at hj
  · cases hj
  · exact h j w hj
theorem pweN_le {pp : Nat → Nat} (h : ppOk pp) (tr : Nat → Option Nat) (idea other : Nat) : ∀ e, pweN pp tr idea other e ≤ 100 * e
  | 0 => Nat.le_refl _
  | e + 1 => by
    have ih := pweN_le h tr idea other e
    unfold pweN; split
    · omega
    · have := h ((e * 5 + idea) * 25 + ‹Nat› * 5 + other); omega
theorem or32 {a b : Nat} (ha : a < 32) (hb : b < 32) : a ||| b < 32 := Nat.or_lt_two_pow (n := 5) ha hb
theorem shl1_lt5 {k : Nat} (h : k < 5) : 1 <<< k < 32 := by
  match k, h with
  | 0, _ => decide
  | 1, _ => decide
  | 2, _ => decide
  | 3, _ => decide
  | 4, _ => decide
theorem foldO_ok {step : Nat → ES → ES} {s : ES} {q : Nat} (h : ∀ o, o < q → ∀ s, esOk s → esOk (step o s)) (hs : esOk s) : ∀ o, o ≤ q → esOk (foldO step s o)
  | 0, _ => hs
  | o + 1, ho => h o (by omega) _ (foldO_ok h hs o (by omega))
theorem exStep_ok {rc : Nat → Nat → ES → ES} {al pp : Nat → Nat} {idea used pts o : Nat} (ho : o < 5) (hpp : ppOk pp) (hi : idea ≤ 4) (hp : pts ≤ 400 * idea) (hrc : ∀ u p s, p ≤ 400 * (idea + 1) → esOk s → esOk (rc u p s)) {s : ES} (hs : esOk s) : esOk (exStep rc al pp idea used pts o s) := by
  unfold exStep; split
  · refine hrc _ _ _ ?_ ⟨trOk_up hs.1 ho, hs.2⟩
    have := pweN_le hpp (va_up s.1 idea (some o)) idea o idea; omega
  · exact hs
theorem ext_ok {q : Nat} {al pp hp : Nat → Nat} (hq : q ≤ 5) (hpp : ppOk pp) : ∀ (d idea used pts : Nat) (s : ES), idea + d ≤ 5 → pts ≤ 400 * idea → esOk s → esOk (ext q al pp hp d idea used pts s)
  | 0, idea, used, pts, s, hi, hp1, hs => by
    unfold ext; split
    · exact hs
    · exact ⟨hs.1, fun b hb => by cases hb; omega⟩
  | d + 1, idea, used, pts, s, hi, hp1, hs => by
    have hf : esOk (foldO (exStep (ext q al pp hp d (idea + 1)) al pp idea used pts) s q) := foldO_ok (fun o ho s hs => exStep_ok (by omega) hpp (by omega) hp1 (fun u p s hp2 hs => ext_ok hq hpp d (idea + 1) u p s (by omega) hp2 hs) hs) hs q (Nat.le_refl _)
    unfold ext; split
    · exact hs
    · exact ext_ok hq hpp d (idea + 1) used pts _ (by omega) (by omega) ⟨trOk_none hf.1, hf.2⟩
theorem exFold_ok {q : Nat} {al pp hp : Nat → Nat} (hq : q ≤ 5) (hpp : ppOk pp) {d idea used pts : Nat} {s : ES} (hi : idea + (d + 1) ≤ 5) (hp1 : pts ≤ 400 * idea) (hs : esOk s) {o : Nat} (ho : o ≤ q) : esOk (foldO (exStep (ext q al pp hp d (idea + 1)) al pp idea used pts) s o) :=
  foldO_ok (q := q) (fun o ho s hs => exStep_ok (by omega) hpp (by omega) hp1 (fun u p s hp2 hs => ext_ok hq hpp d (idea + 1) u p s (by omega) hp2 hs) hs) hs o ho
/-- all matchings, none left out: the most points, and what is tried last -/
def moStep (rc : Nat → Nat → (Nat → Option Nat) → Nat × (Nat → Option Nat)) (al pp : Nat → Nat) (idea used pts o : Nat) (s : Nat × (Nat → Option Nat)) : Nat × (Nat → Option Nat) :=
  if (al idea).testBit o = true ∧ used.testBit o = false then
    (max s.1 (rc (used ||| (1 <<< o)) (pts + pweN pp (va_up s.2 idea (some o)) idea o idea) (va_up s.2 idea (some o))).1, (rc (used ||| (1 <<< o)) (pts + pweN pp (va_up s.2 idea (some o)) idea o idea) (va_up s.2 idea (some o))).2)
  else s
def foldM (step : Nat → Nat × (Nat → Option Nat) → Nat × (Nat → Option Nat)) (s : Nat × (Nat → Option Nat)) : Nat → Nat × (Nat → Option Nat)
  | 0 => s
  | o + 1 => step o (foldM step s o)
def moa (q : Nat) (al pp : Nat → Nat) : Nat → Nat → Nat → Nat → (Nat → Option Nat) → Nat × (Nat → Option Nat)
  | 0, _, _, pts, t => (pts, t)
  | d + 1, idea, used, pts, t => foldM (moStep (moa q al pp d (idea + 1)) al pp idea used pts) (moa q al pp d (idea + 1) used pts (va_up t idea none)) q
theorem moF_yes {rc : Nat → Nat → (Nat → Option Nat) → Nat × (Nat → Option Nat)} {al pp : Nat → Nat} {i used pts o : Nat} {s : Nat × (Nat → Option Nat)} (h1 : (al i).testBit o = true) (h2 : (used >>> o) &&& 1 = 0) : foldM (moStep rc al pp i used pts) s (o + 1) = (max (foldM (moStep rc al pp i used pts) s o).1 (rc (used ||| (1 <<< o)) (pts + pweN pp (va_up (foldM (moStep rc al pp i used pts) s o).2 i (some o)) i o i) (va_up (foldM (moStep rc al pp i used pts) s o).2 i (some o))).1, (rc (used ||| (1 <<< o)) (pts + pweN pp (va_up (foldM (moStep rc al pp i used pts) s o).2 i (some o)) i o i) (va_up (foldM (moStep rc al pp i used pts) s o).2 i (some o))).2) := by
  show moStep rc al pp i used pts o _ = _
  unfold moStep; rw [if_pos ⟨h1, tb_eq h2⟩]
theorem moF_no1 {rc : Nat → Nat → (Nat → Option Nat) → Nat × (Nat → Option Nat)} {al pp : Nat → Nat} {i used pts o : Nat} {s : Nat × (Nat → Option Nat)} (h1 : (al i).testBit o = false) : foldM (moStep rc al pp i used pts) s (o + 1) = foldM (moStep rc al pp i used pts) s o := by
  show moStep rc al pp i used pts o _ = _
  unfold moStep; rw [if_neg (fun z => by rw [h1] at z; exact absurd z.1 (by decide))]
theorem moF_no2 {rc : Nat → Nat → (Nat → Option Nat) → Nat × (Nat → Option Nat)} {al pp : Nat → Nat} {i used pts o : Nat} {s : Nat × (Nat → Option Nat)} (h1 : (used >>> o) &&& 1 ≠ 0) : foldM (moStep rc al pp i used pts) s (o + 1) = foldM (moStep rc al pp i used pts) s o := by
  show moStep rc al pp i used pts o _ = _
  unfold moStep; rw [if_neg (fun z => by rw [tb_ne h1] at z; exact absurd z.2 (by decide))]
def msOk (s : Nat × (Nat → Option Nat)) : Prop := s.1 ≤ 2000 ∧ trOk s.2
theorem foldM_ok {step : Nat → Nat × (Nat → Option Nat) → Nat × (Nat → Option Nat)} {s : Nat × (Nat → Option Nat)} {q : Nat} (h : ∀ o, o < q → ∀ s, msOk s → msOk (step o s)) (hs : msOk s) : ∀ o, o ≤ q → msOk (foldM step s o)
  | 0, _ => hs
  | o + 1, ho => h o (by omega) _ (foldM_ok h hs o (by omega))
theorem moStep_ok {rc : Nat → Nat → (Nat → Option Nat) → Nat × (Nat → Option Nat)} {al pp : Nat → Nat} {idea used pts o : Nat} (ho : o < 5) (hpp : ppOk pp) (hi : idea ≤ 4) (hp : pts ≤ 400 * idea) (hrc : ∀ u p t, p ≤ 400 * (idea + 1) → trOk t → msOk (rc u p t)) {s : Nat × (Nat → Option Nat)} (hs : msOk s) : msOk (moStep rc al pp idea used pts o s) := by
  unfold moStep; split
  · have h1 := hrc (used ||| (1 <<< o)) (pts + pweN pp (va_up s.2 idea (some o)) idea o idea) (va_up s.2 idea (some o)) (by have := pweN_le hpp (va_up s.2 idea (some o)) idea o idea; omega) (trOk_up hs.2 ho)
    exact ⟨by have := hs.1; have := h1.1; show max _ _ ≤ 2000; omega, h1.2⟩
  · exact hs
theorem moa_ok {q : Nat} {al pp : Nat → Nat} (hq : q ≤ 5) (hpp : ppOk pp) : ∀ (d idea used pts : Nat) (t : Nat → Option Nat), idea + d ≤ 5 → pts ≤ 400 * idea → trOk t → msOk (moa q al pp d idea used pts t)
  | 0, idea, used, pts, t, hi, hp1, ht => by
    unfold moa; exact ⟨by show pts ≤ 2000; omega, ht⟩
  | d + 1, idea, used, pts, t, hi, hp1, ht => by
    unfold moa
    exact foldM_ok (fun o ho s hs => moStep_ok (by omega) hpp (by omega) hp1 (fun u p t hp2 ht => moa_ok hq hpp d (idea + 1) u p t (by omega) hp2 ht) hs) (moa_ok hq hpp d (idea + 1) used pts _ (by omega) (by omega) (trOk_none ht)) q (Nat.le_refl _)
theorem moFold_ok {q : Nat} {al pp : Nat → Nat} (hq : q ≤ 5) (hpp : ppOk pp) {d idea used pts : Nat} {t : Nat → Option Nat} (hi : idea + (d + 1) ≤ 5) (hp1 : pts ≤ 400 * idea) (ht : trOk t) {o : Nat} (ho : o ≤ q) : msOk (foldM (moStep (moa q al pp d (idea + 1)) al pp idea used pts) (moa q al pp d (idea + 1) used pts (va_up t idea none)) o) :=
  foldM_ok (q := q) (fun o ho s hs => moStep_ok (by omega) hpp (by omega) hp1 (fun u p t hp2 ht => moa_ok hq hpp d (idea + 1) u p t (by omega) hp2 ht) hs) (moa_ok hq hpp d (idea + 1) used pts _ (by omega) (by omega) (trOk_none ht)) o ho
/-- the bits of the places of which something holds -/
def bN (P : Nat → Bool) : Nat → Nat
  | 0 => 0
  | o + 1 => if P o = true then bN P o ||| (1 <<< o) else bN P o
theorem bN_lt (P : Nat → Bool) : ∀ q, q ≤ 5 → bN P q < 32
  | 0, _ => show 0 < 32 by decide
  | q + 1, h => by
    have ih := bN_lt P q (by omega)
    unfold bN; split
    · exact or32 ih (shl1_lt5 (by omega))
    · exact ih
/-- the row 'alike' once its first i places are filled in -/
def alF (al : Nat → Nat) (V : Nat → Nat) (i : Nat) : Nat → Nat := fun j => if j < i then V j else al j
theorem alF_0 (al V : Nat → Nat) : alF al V 0 = al := by funext j; simp [alF]
theorem alF_put (al V : Nat → Nat) (i : Nat) : va_up (alF al V i) i (V i) = alF al V (i + 1) := by
  funext j
  by_cases h1 : j = i
  · subst h1; simp [va_up, alF]
  · by_cases h2 : j < i
    · simp [va_up, alF, h1, h2, show j < i + 1 by omega]
    · simp [va_up, alF, h1, h2, show ¬ j < i + 1 by omega]
/-- what two ideas of the pupil can get, put into the table -/
def fpP (wn : Nat → Nat) (h1 h2 d1 d2 : Nat) (a b : Nat) : Nat := pf (wn (a * 5 + b)) h1 d1 d2 + pf (wn (b * 5 + a)) h2 d2 d1
def fpS (al : Nat → Nat) (P : Nat → Nat → Nat) (e l a b : Nat) (s : (Nat → Nat) × Nat) : (Nat → Nat) × Nat :=
  if a ≠ b ∧ (al e).testBit a = true ∧ (al l).testBit b = true then (va_up s.1 ((e * 5 + l) * 25 + a * 5 + b) (P a b), max s.2 (P a b)) else s
def fpB (al : Nat → Nat) (P : Nat → Nat → Nat) (e l a : Nat) (s : (Nat → Nat) × Nat) : Nat → (Nat → Nat) × Nat
  | 0 => s
  | b + 1 => fpS al P e l a b (fpB al P e l a s b)
def fpA (al : Nat → Nat) (P : Nat → Nat → Nat) (q e l : Nat) (s : (Nat → Nat) × Nat) : Nat → (Nat → Nat) × Nat
  | 0 => s
  | a + 1 => fpB al P e l a (fpA al P q e l s a) q
theorem pf_le (w h d b : Nat) : pf w h d b ≤ 24 := by
  unfold pf; have h1 := pc4_le (w &&& h); have h2 := pc4_le (w &&& (15 ^^^ h)); have h3 := pc4_le ((w &&& (15 ^^^ h)) &&& b)
  split <;> omega
theorem fpP_le (wn : Nat → Nat) (h1 h2 d1 d2 a b : Nat) : fpP wn h1 h2 d1 d2 a b ≤ 48 := by
  unfold fpP; have := pf_le (wn (a * 5 + b)) h1 d1 d2; have := pf_le (wn (b * 5 + a)) h2 d2 d1; omega
theorem ppOk_up {pp : Nat → Nat} (h : ppOk pp) {k v : Nat} (hv : v ≤ 100) : ppOk (va_up pp k v) := by
  intro j; simp only [va_up]; split
  · exact hv
  · exact h j
def fsOk (s : (Nat → Nat) × Nat) : Prop := ppOk s.1 ∧ s.2 ≤ 100
theorem fpS_ok {al : Nat → Nat} {P : Nat → Nat → Nat} (hP : ∀ a b, P a b ≤ 48) {e l a b : Nat} {s : (Nat → Nat) × Nat} (h : fsOk s) : fsOk (fpS al P e l a b s) := by
  unfold fpS; split
  · have := hP a b; exact ⟨ppOk_up h.1 (by omega), by have := h.2; show max _ _ ≤ 100; omega⟩
  · exact h
theorem fpB_ok {al : Nat → Nat} {P : Nat → Nat → Nat} (hP : ∀ a b, P a b ≤ 48) {e l a : Nat} {s : (Nat → Nat) × Nat} (h : fsOk s) : ∀ b, fsOk (fpB al P e l a s b)
  | 0 => h
  | b + 1 => fpS_ok hP (fpB_ok hP h b)
theorem fpA_ok {al : Nat → Nat} {P : Nat → Nat → Nat} (hP : ∀ a b, P a b ≤ 48) {q e l : Nat} {s : (Nat → Nat) × Nat} (h : fsOk s) : ∀ a, fsOk (fpA al P q e l s a)
  | 0 => h
  | a + 1 => fpB_ok hP (fpA_ok hP h a) q
/-- one pair of ideas of the pupil, earlier and later; own, held and wanted links -/
def fpR (al own hld wn : Nat → Nat) (q e l : Nat) (pp : Nat → Nat) : (Nat → Nat) × Nat :=
  fpA al (fpP wn (hld (e * 5 + l)) (hld (l * 5 + e)) (own (e * 5 + l)) (own (l * 5 + e))) q e l (pp, 0) q
theorem fpR_ok {al own hld wn : Nat → Nat} {q e l : Nat} {pp : Nat → Nat} (h : ppOk pp) : fsOk (fpR al own hld wn q e l pp) := fpA_ok (fun a b => fpP_le _ _ _ _ _ a b) ⟨h, Nat.zero_le _⟩ q
/-- the pairs with one later idea: the table, the hope so far -/
def tlE (al own hld wn : Nat → Nat) (q l : Nat) (s : (Nat → Nat) × Nat) : Nat → (Nat → Nat) × Nat
  | 0 => s
  | e + 1 => ((fpR al own hld wn q e l (tlE al own hld wn q l s e).1).1, (tlE al own hld wn q l s e).2 + (fpR al own hld wn q e l (tlE al own hld wn q l s e).1).2)
/-- the later ideas from k - 1 down: the table, the hope, the row of hopes; k ideas are still to come -/
def tlL (al own hld wn : Nat → Nat) (p q : Nat) (pp hp : Nat → Nat) : Nat → ((Nat → Nat) × Nat) × (Nat → Nat)
  | 0 => ((pp, 0), va_up hp p 0)
  | i + 1 => (tlE al own hld wn q (p - 1 - i) (tlL al own hld wn p q pp hp i).1 (p - 1 - i), va_up (tlL al own hld wn p q pp hp i).2 (p - 1 - i) (tlE al own hld wn q (p - 1 - i) (tlL al own hld wn p q pp hp i).1 (p - 1 - i)).2)
theorem tlE_ok {al own hld wn : Nat → Nat} {q l : Nat} {s : (Nat → Nat) × Nat} (h : ppOk s.1) : ∀ e, ppOk (tlE al own hld wn q l s e).1 ∧ (tlE al own hld wn q l s e).2 ≤ s.2 + 100 * e
  | 0 => ⟨h, Nat.le_refl _⟩
  | e + 1 => by
    have ih := tlE_ok (al := al) (own := own) (hld := hld) (wn := wn) (q := q) (l := l) h e
    have h1 := fpR_ok (al := al) (own := own) (hld := hld) (wn := wn) (q := q) (e := e) (l := l) ih.1
    exact ⟨h1.1, by have := ih.2; have := h1.2; show _ + _ ≤ _; omega⟩
theorem tlL_ok {al own hld wn : Nat → Nat} {p q : Nat} {pp hp : Nat → Nat} (hp5 : p ≤ 5) (h : ppOk pp) (hh : hpOk hp) : ∀ i, ppOk (tlL al own hld wn p q pp hp i).1.1 ∧ (tlL al own hld wn p q pp hp i).1.2 ≤ 500 * i ∧ ((i ≤ 5) → hpOk (tlL al own hld wn p q pp hp i).2)
  | 0 => ⟨h, Nat.le_refl _, fun _ j => by simp only [tlL, va_up]; split
                                          · omega
                                          · exact hh j⟩
  | i + 1 => by
    have ih := tlL_ok (al := al) (own := own) (hld := hld) (wn := wn) (q := q) hp5 h hh i
    have h1 := tlE_ok (al := al) (own := own) (hld := hld) (wn := wn) (q := q) (l := p - 1 - i) ih.1 (p - 1 - i)
    refine ⟨h1.1, ?_, fun hi j => ?_⟩
    · have := h1.2; have := ih.2.1; show (tlE al own hld wn q (p - 1 - i) (tlL al own hld wn p q pp hp i).1 (p - 1 - i)).2 ≤ _; omega
    · show va_up _ _ _ j ≤ _
      simp only [va_up]; split
      · have := h1.2; have := ih.2.1; omega
      · exact ih.2.2 (by omega) j
/-- the idea of the pupil that is given an idea of the model -/
def pidF (bs : Nat → Option Nat) (o : Nat) (p : Nat) : Nat → Option Nat
  | 0 => none
  | k + 1 => if bs (p - (k + 1)) = some o then some (p - (k + 1)) else pidF bs o p k
theorem pidF_hit {bs : Nat → Option Nat} {o p i : Nat} (hi : i < p) (h : bs i = some o) : pidF bs o p (p - i) = some i := by
  obtain ⟨k, hk⟩ : ∃ k, p - i = k + 1 := ⟨p - i - 1, by omega⟩
  rw [hk]
  show (if bs (p - (k + 1)) = some o then some (p - (k + 1)) else _) = _
  rw [show p - (k + 1) = i by omega, if_pos h]
theorem pidF_miss {bs : Nat → Option Nat} {o p i : Nat} (hi : i < p) (h : ¬ bs i = some o) : pidF bs o p (p - i) = pidF bs o p (p - (i + 1)) := by
  obtain ⟨k, hk⟩ : ∃ k, p - i = k + 1 := ⟨p - i - 1, by omega⟩
  rw [hk, show p - (i + 1) = k by omega]
  show (if bs (p - (k + 1)) = some o then some (p - (k + 1)) else _) = _
  rw [show p - (k + 1) = i by omega, if_neg h]
theorem fpS_no1 {al : Nat → Nat} {P : Nat → Nat → Nat} {e l a b : Nat} {s : (Nat → Nat) × Nat} (h : a = b) : fpB al P e l a s (b + 1) = fpB al P e l a s b := by
  show fpS al P e l a b _ = _
  unfold fpS; rw [if_neg (fun z => z.1 h)]
theorem fpS_no2 {al : Nat → Nat} {P : Nat → Nat → Nat} {e l a b : Nat} {s : (Nat → Nat) × Nat} (h : (al e).testBit a = false) : fpB al P e l a s (b + 1) = fpB al P e l a s b := by
  show fpS al P e l a b _ = _
  unfold fpS; rw [if_neg (fun z => by rw [h] at z; exact absurd z.2.1 (by decide))]
theorem fpS_no3 {al : Nat → Nat} {P : Nat → Nat → Nat} {e l a b : Nat} {s : (Nat → Nat) × Nat} (h : (al l).testBit b = false) : fpB al P e l a s (b + 1) = fpB al P e l a s b := by
  show fpS al P e l a b _ = _
  unfold fpS; rw [if_neg (fun z => by rw [h] at z; exact absurd z.2.2 (by decide))]
theorem fpS_yes {al : Nat → Nat} {P : Nat → Nat → Nat} {e l a b : Nat} {s : (Nat → Nat) × Nat} (h1 : a ≠ b) (h2 : (al e).testBit a = true) (h3 : (al l).testBit b = true) : fpB al P e l a s (b + 1) = (va_up (fpB al P e l a s b).1 ((e * 5 + l) * 25 + a * 5 + b) (P a b), max (fpB al P e l a s b).2 (P a b)) := by
  show fpS al P e l a b _ = _
  unfold fpS; rw [if_pos ⟨h1, h2, h3⟩]
theorem ext_some {q : Nat} {al pp hp : Nat → Nat} : ∀ (d idea used pts : Nat) (s : ES), ∃ b, (ext q al pp hp d idea used pts s).2.1 = some b
  | 0, idea, used, pts, s => by
    unfold ext; split
    · next h => cases hz : s.2.1 with
                | none => rw [hz] at h; exact absurd h (by simp [leO])
                | some b => exact ⟨b, rfl⟩
    · exact ⟨pts, rfl⟩
  | d + 1, idea, used, pts, s => by
    unfold ext; split
    · next h => cases hz : s.2.1 with
                | none => rw [hz] at h; exact absurd h (by simp [leO])
                | some b => exact ⟨b, rfl⟩
    · exact ext_some d (idea + 1) used pts _
theorem oI_getD {o : Option Nat} (h : ∃ b, o = some b) : oI o = nI (o.getD 0) := by
  obtain ⟨b, rfl⟩ := h; rfl
/-- the bound never falls -/
def geO (a : Nat) (o : Option Nat) : Prop := ∃ b, o = some b ∧ a ≤ b
theorem foldO_ge {step : Nat → ES → ES} {a : Nat} (h : ∀ o s, geO a s.2.1 → geO a (step o s).2.1) {s : ES} (hs : geO a s.2.1) : ∀ o, geO a (foldO step s o).2.1
  | 0 => hs
  | o + 1 => h o _ (foldO_ge h hs o)
theorem ext_ge {q : Nat} {al pp hp : Nat → Nat} {a : Nat} : ∀ (d idea used pts : Nat) (s : ES), hp (idea + d) = 0 → geO a s.2.1 → geO a (ext q al pp hp d idea used pts s).2.1
  | 0, idea, used, pts, s, h0, h => by
    unfold ext; split
    · exact h
    · next hn => obtain ⟨b, hb, hab⟩ := h
                 refine ⟨pts, rfl, ?_⟩
                 rw [hb] at hn
                 have h1 : hp idea = 0 := h0
                 simp only [leO, decide_eq_true_eq] at hn
                 omega
  | d + 1, idea, used, pts, s, h0, h => by
    have h1 : hp (idea + 1 + d) = 0 := by rw [show idea + 1 + d = idea + (d + 1) by omega]; exact h0
    unfold ext; split
    · exact h
    · refine ext_ge d (idea + 1) used pts _ h1 ?_
      refine foldO_ge (fun o s hs => ?_) h q
      unfold exStep; split
      · exact ext_ge d (idea + 1) _ _ _ h1 hs
      · exact hs
theorem tlL_p {al own hld wn : Nat → Nat} {p q : Nat} {pp hp : Nat → Nat} : ∀ i, i ≤ p → (tlL al own hld wn p q pp hp i).2 p = 0
  | 0, _ => by simp [tlL, va_up]
  | i + 1, h => by
    show va_up _ _ _ p = 0
    simp only [va_up]; rw [if_neg (by omega)]
    exact tlL_p i (by omega)
