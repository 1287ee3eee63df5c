/-! the class's tables: what they say, and that nothing beats the hopes -/
theorem bN_tb (P : Nat → Bool) (o : Nat) : ∀ q, (bN P q).testBit o = (decide (o < q) && P o)
  | 0 => by rw [show bN P 0 = 0 from rfl, Nat.zero_testBit]; rfl
  | q + 1 => by
    have ih := bN_tb P o q
    unfold bN; split
    · next h =>
      rw [or_tb, ih]
      by_cases e : o = q
      · subst e; rw [h]; simp
      · simp only [e, decide_false, Bool.or_false]; rw [show decide (o < q + 1) = decide (o < q) from by rw [decide_eq_decide]; omega]
    · next h =>
      rw [ih]
      by_cases e : o = q
      · subst e; simp [Bool.eq_false_iff.mpr h]
      · rw [show decide (o < q + 1) = decide (o < q) from by rw [decide_eq_decide]; omega]
def aBm (gr wp wm : Nat → Nat) (i o : Nat) : Bool := decide (gr (wp i) = gr (wm o))
theorem alN_tb {gr wp wm al : Nat → Nat} {qn pn : Nat} : ∀ i o, i < pn → o < qn → aBm gr wp wm i o = (alN gr wp wm qn pn al i).testBit o := by
  intro i o hi ho
  unfold alN alF; rw [if_pos hi, bN_tb]
  simp [ho, aBm]
theorem fpB_keep {al : Nat → Nat} {P : Nat → Nat → Nat} {e l a : Nat} {s : (Nat → Nat) × Nat} {j : Nat} : ∀ n, (∀ b, b < n → j ≠ (e * 5 + l) * 25 + a * 5 + b) → (fpB al P e l a s n).1 j = s.1 j
  | 0, _ => rfl
  | n + 1, h => by
    have ih := fpB_keep (al := al) (P := P) (s := s) n (fun b hb => h b (by omega))
    show (fpS al P e l a n (fpB al P e l a s n)).1 j = _
    unfold fpS; split
    · show va_up _ _ _ j = _; rw [vu_ne (h n (by omega)), ih]
    · exact ih
theorem fpB_ge {al : Nat → Nat} {P : Nat → Nat → Nat} {e l a : Nat} {s : (Nat → Nat) × Nat} : ∀ n, s.2 ≤ (fpB al P e l a s n).2
  | 0 => Nat.le_refl _
  | n + 1 => by
    have ih := fpB_ge (al := al) (P := P) (e := e) (l := l) (a := a) (s := s) n
    show _ ≤ (fpS al P e l a n (fpB al P e l a s n)).2
    unfold fpS; split
    · exact Nat.le_trans ih (Nat.le_max_left _ _)
    · exact ih
theorem fpB_get {al : Nat → Nat} {P : Nat → Nat → Nat} {e l a b : Nat} {s : (Nat → Nat) × Nat} (h1 : a ≠ b) (h2 : (al e).testBit a = true) (h3 : (al l).testBit b = true) : ∀ n, b < n → (fpB al P e l a s n).1 ((e * 5 + l) * 25 + a * 5 + b) = P a b ∧ P a b ≤ (fpB al P e l a s n).2
  | 0, h => absurd h (Nat.not_lt_zero b)
  | n + 1, h => by
    by_cases e1 : b = n
    · subst e1
      rw [fpS_yes h1 h2 h3]
      exact ⟨vu_eq, Nat.le_max_right _ _⟩
    · have ih := fpB_get (P := P) (e := e) (l := l) (s := s) h1 h2 h3 n (by omega)
      show (fpS al P e l a n (fpB al P e l a s n)).1 _ = _ ∧ _ ≤ (fpS al P e l a n (fpB al P e l a s n)).2
      unfold fpS; split
      · exact ⟨by show va_up _ _ _ _ = _; rw [vu_ne (by omega), ih.1], Nat.le_trans ih.2 (Nat.le_max_left _ _)⟩
      · exact ih
theorem fpA_keep {al : Nat → Nat} {P : Nat → Nat → Nat} {q e l : Nat} {s : (Nat → Nat) × Nat} {j : Nat} : ∀ n, (∀ a b, a < n → b < q → j ≠ (e * 5 + l) * 25 + a * 5 + b) → (fpA al P q e l s n).1 j = s.1 j
  | 0, _ => rfl
  | n + 1, h => by
    show (fpB al P e l n (fpA al P q e l s n) q).1 j = _
    rw [fpB_keep q (fun b hb => h n b (by omega) hb), fpA_keep n (fun a b ha hb => h a b (by omega) hb)]
theorem fpA_ge {al : Nat → Nat} {P : Nat → Nat → Nat} {q e l : Nat} {s : (Nat → Nat) × Nat} : ∀ n, s.2 ≤ (fpA al P q e l s n).2
  | 0 => Nat.le_refl _
  | n + 1 => Nat.le_trans (fpA_ge (al := al) (P := P) (q := q) (e := e) (l := l) (s := s) n) (fpB_ge q)
theorem fpA_get {al : Nat → Nat} {P : Nat → Nat → Nat} {q e l a b : Nat} {s : (Nat → Nat) × Nat} (hq : q ≤ 5) (h1 : a ≠ b) (hb : b < q) (h2 : (al e).testBit a = true) (h3 : (al l).testBit b = true) : ∀ n, a < n → n ≤ 5 → (fpA al P q e l s n).1 ((e * 5 + l) * 25 + a * 5 + b) = P a b ∧ P a b ≤ (fpA al P q e l s n).2
  | 0, h, _ => absurd h (Nat.not_lt_zero a)
  | n + 1, h, hn => by
    by_cases e1 : a = n
    · subst e1; exact fpB_get (s := fpA al P q e l s a) h1 h2 h3 q hb
    · have ih := fpA_get (P := P) (s := s) hq h1 hb h2 h3 n (by omega) (by omega)
      refine ⟨?_, Nat.le_trans ih.2 (fpB_ge q)⟩
      show (fpB al P e l n (fpA al P q e l s n) q).1 _ = _
      rw [fpB_keep q (fun b2 hb2 => by omega), ih.1]
theorem tlE_keep {al own hld wn : Nat → Nat} {q l : Nat} {s : (Nat → Nat) × Nat} {j : Nat} : ∀ n, (∀ e a b, e < n → a < q → b < q → j ≠ (e * 5 + l) * 25 + a * 5 + b) → (tlE al own hld wn q l s n).1 j = s.1 j
  | 0, _ => rfl
  | n + 1, h => by
    show (fpR al own hld wn q n l (tlE al own hld wn q l s n).1).1 j = _
    unfold fpR
    rw [fpA_keep q (fun a b ha hb => h n a b (by omega) ha hb)]
    exact tlE_keep n (fun e a b he ha hb => h e a b (by omega) ha hb)
theorem tlE_get {al own hld wn : Nat → Nat} {q l e a b : Nat} {s : (Nat → Nat) × Nat} (hq : q ≤ 5) (hl : l < 5) (h1 : a ≠ b) (ha : a < q) (hb : b < q) (h2 : (al e).testBit a = true) (h3 : (al l).testBit b = true) : ∀ n, e < n → n ≤ 5 → (tlE al own hld wn q l s n).1 ((e * 5 + l) * 25 + a * 5 + b) = PRm wn hld own e l a b
  | 0, h, _ => absurd h (Nat.not_lt_zero e)
  | n + 1, h, hn => by
    show (fpR al own hld wn q n l (tlE al own hld wn q l s n).1).1 _ = _
    unfold fpR
    by_cases e1 : e = n
    · subst e1; exact (fpA_get hq h1 hb h2 h3 q ha hq).1
    · rw [fpA_keep q (fun a2 b2 ha2 hb2 => by omega)]
      exact tlE_get hq hl h1 ha hb h2 h3 n (by omega) (by omega)
theorem tlE_ge {al own hld wn : Nat → Nat} {aB : Nat → Nat → Bool} {q p l o : Nat} {s : (Nat → Nat) × Nat} {f : Nat → Option Nat} (hq : q ≤ 5) (hlp : l < p) (hal : ∀ i o, i < p → o < q → aB i o = (al i).testBit o) (hv : vld aB q f l) (ho : o < q) (ha : aB l o = true) (hu : usd f o l = false) : ∀ n, n ≤ l → s.2 + pwS (PRm wn hld own) f l o n ≤ (tlE al own hld wn q l s n).2
  | 0, _ => Nat.le_refl _
  | n + 1, hn => by
    have ih := tlE_ge (own := own) (hld := hld) (wn := wn) (s := s) hq hlp hal hv ho ha hu n (by omega)
    show s.2 + (match f n with | none => _ | some a => _) ≤ (tlE al own hld wn q l s n).2 + (fpR al own hld wn q n l (tlE al own hld wn q l s n).1).2
    cases hz : f n with
    | none => show s.2 + pwS _ f l o n ≤ _; omega
    | some a =>
      show s.2 + (pwS _ f l o n + PRm wn hld own n l a o) ≤ _
      have hva := hv.1 n a hz
      have h9 := (fpA_get (al := al) (P := fpP wn (hld (n * 5 + l)) (hld (l * 5 + n)) (own (n * 5 + l)) (own (l * 5 + n))) (q := q) (e := n) (l := l) (a := a) (b := o) (s := ((tlE al own hld wn q l s n).1, 0)) hq (fun z => by subst z; exact usd_no hu (by omega) hz) ho (by rw [← hal n a (by omega) hva.2.1]; exact hva.2.2) (by rw [← hal l o hlp ho]; exact ha) q hva.2.1 hq).2
      have h9 : PRm wn hld own n l a o ≤ (fpR al own hld wn q n l (tlE al own hld wn q l s n).1).2 := h9
      omega
theorem tlE_ge0 {al own hld wn : Nat → Nat} {q l : Nat} {s : (Nat → Nat) × Nat} : ∀ n, s.2 ≤ (tlE al own hld wn q l s n).2
  | 0 => Nat.le_refl _
  | n + 1 => Nat.le_trans (tlE_ge0 n) (Nat.le_add_right _ _)
theorem tlL_get {al own hld wn : Nat → Nat} {p q l e a b : Nat} {pp hp : Nat → Nat} (hp5 : p ≤ 5) (hq : q ≤ 5) (hel : e < l) (hl : l < p) (h1 : a ≠ b) (ha : a < q) (hb : b < q) (h2 : (al e).testBit a = true) (h3 : (al l).testBit b = true) : ∀ n, n ≤ p → p ≤ l + n → (tlL al own hld wn p q pp hp n).1.1 ((e * 5 + l) * 25 + a * 5 + b) = PRm wn hld own e l a b
  | 0, _, h => by omega
  | n + 1, hn, h => by
    show (tlE al own hld wn q (p - 1 - n) (tlL al own hld wn p q pp hp n).1 (p - 1 - n)).1 _ = _
    by_cases e1 : l = p - 1 - n
    · rw [← e1]; exact tlE_get hq (by omega) h1 ha hb h2 h3 l hel (by omega)
    · rw [tlE_keep (p - 1 - n) (fun e2 a2 b2 _ ha2 hb2 => by omega)]
      exact tlL_get hp5 hq hel hl h1 ha hb h2 h3 n (by omega) (by omega)
theorem tlL_hp {al own hld wn : Nat → Nat} {p q : Nat} {pp hp : Nat → Nat} : ∀ n, n ≤ p → (tlL al own hld wn p q pp hp n).2 (p - n) = (tlL al own hld wn p q pp hp n).1.2
  | 0, _ => vu_eq
  | n + 1, h => by
    show va_up _ (p - 1 - n) _ (p - (n + 1)) = _
    rw [show p - (n + 1) = p - 1 - n by omega]; exact vu_eq
theorem tlL_kp {al own hld wn : Nat → Nat} {p q i j : Nat} {pp hp : Nat → Nat} (hj : p ≤ j + i) : ∀ n, i + n ≤ p → (tlL al own hld wn p q pp hp (i + n)).2 j = (tlL al own hld wn p q pp hp i).2 j
  | 0, _ => rfl
  | n + 1, h => by
    show va_up _ (p - 1 - (i + n)) _ j = _
    rw [vu_ne (by omega)]; exact tlL_kp hj n (by omega)
theorem ppN_B {al own hld wn : Nat → Nat} {aB : Nat → Nat → Bool} {p q : Nat} {pp hp : Nat → Nat} (hp5 : p ≤ 5) (hq : q ≤ 5) (hal : ∀ i o, i < p → o < q → aB i o = (al i).testBit o) : ppB aB (PRm wn hld own) q p (ppN al own hld wn p q pp hp) := by
  intro e l a b hel hl h1 ha hb h2 h3
  exact tlL_get hp5 hq hel hl h1 ha hb (by rw [← hal e a (by omega) ha]; exact h2) (by rw [← hal l b hl hb]; exact h3) p (Nat.le_refl _) (by omega)
theorem hpN_B {al own hld wn : Nat → Nat} {aB : Nat → Nat → Bool} {p q : Nat} {pp hp : Nat → Nat} (hq : q ≤ 5) (hal : ∀ i o, i < p → o < q → aB i o = (al i).testBit o) : hpB aB (PRm wn hld own) q p (hpN al own hld wn p q pp hp) := by
  refine ⟨hpN_p, fun i hi => ?_⟩
  have e1 : hpN al own hld wn p q pp hp (i + 1) = (tlL al own hld wn p q pp hp (p - 1 - i)).1.2 := by
    rw [← tlL_hp (p - 1 - i) (by omega), show p - (p - 1 - i) = i + 1 by omega]
    have h := tlL_kp (al := al) (own := own) (hld := hld) (wn := wn) (p := p) (q := q) (pp := pp) (hp := hp) (i := p - 1 - i) (j := i + 1) (by omega) (i + 1) (by omega)
    rw [show p - 1 - i + (i + 1) = p by omega] at h; exact h
  have e2 : hpN al own hld wn p q pp hp i = (tlE al own hld wn q i (tlL al own hld wn p q pp hp (p - 1 - i)).1 i).2 := by
    have h := tlL_kp (al := al) (own := own) (hld := hld) (wn := wn) (p := p) (q := q) (pp := pp) (hp := hp) (i := p - 1 - i + 1) (j := i) (by omega) i (by omega)
    rw [show p - 1 - i + 1 + i = p by omega] at h
    show (tlL al own hld wn p q pp hp p).2 i = _
    rw [h]
    show va_up _ (p - 1 - (p - 1 - i)) _ i = _
    rw [show p - 1 - (p - 1 - i) = i by omega]; exact vu_eq
  rw [e1, e2]
  exact ⟨tlE_ge0 i, fun f o hv ho ha hu => tlE_ge hq hi hal hv ho ha hu i (Nat.le_refl _)⟩
/-- what a call of the search gives, whatever was in its rows before -/
theorem RES_1 {aB : Nat → Nat → Bool} {PR : Nat → Nat → Nat → Nat → Nat} {q p : Nat} : (RES aB PR q p).1 = some ((RES aB PR q p).1.getD 0) := by
  have h := (RES_ok (aB := aB) (PR := PR) (q := q) (p := p)).1
  cases hz : (RES aB PR q p).1 with
  | none => exact absurd hz h
  | some b => rfl
theorem fbE_res {al own hld wn : Nat → Nat} {aB : Nat → Nat → Bool} {p q : Nat} {pp hp : Nat → Nat} {tr bs : Nat → Option Nat} (hp5 : p ≤ 5) (hq : q ≤ 5) (hal : ∀ i o, i < p → o < q → aB i o = (al i).testBit o) : (fbE q al (ppN al own hld wn p q pp hp) (hpN al own hld wn p q pp hp) p tr none bs).2.1 = (RES aB (PRm wn hld own) q p).1 ∧ ∀ j, j < p → (fbE q al (ppN al own hld wn p q pp hp) (hpN al own hld wn p q pp hp) p tr none bs).2.2 j = (RES aB (PRm wn hld own) q p).2 j := by
  have h := (ext_dfs hal (ppN_B (own := own) (hld := hld) (wn := wn) (pp := pp) (hp := hp) hp5 hq hal) (hpN_B (pp := pp) (hp := hp) hq hal) p 0 0 0 (tr, none, bs) (fun _ => none) (none, fun _ => none) (by omega) vld_0 (fun o => Nat.zero_testBit o) rfl (fun j hj => absurd hj (Nat.not_lt_zero j)) ⟨rfl, fun z => absurd rfl z⟩).1
  exact ⟨h.1, fun j hj => h.2 RES_ok.1 j hj⟩
theorem mbF_res {al own hld wn : Nat → Nat} {aB : Nat → Nat → Bool} {p q : Nat} {pp hp : Nat → Nat} {tr : Nat → Option Nat} (hp5 : p ≤ 5) (hq : q ≤ 5) (hal : ∀ i o, i < p → o < q → aB i o = (al i).testBit o) : (RES aB (PRm wn hld own) q p).1 = some (mbF q al (ppN al own hld wn p q pp hp) p tr).1 :=
  (moa_dfs hal (ppN_B (own := own) (hld := hld) (wn := wn) (pp := pp) (hp := hp) hp5 hq hal) p 0 0 0 tr (fun _ => none) (none, fun _ => none) (by omega) vld_0 (fun o => Nat.zero_testBit o) rfl (fun j hj => absurd hj (Nat.not_lt_zero j))).1
theorem fbE_fl {al own hld wn : Nat → Nat} {aB : Nat → Nat → Bool} {p q fl : Nat} {pp hp : Nat → Nat} {tr bs : Nat → Option Nat} (hp5 : p ≤ 5) (hq : q ≤ 5) (hal : ∀ i o, i < p → o < q → aB i o = (al i).testBit o) : (fbE q al (ppN al own hld wn p q pp hp) (hpN al own hld wn p q pp hp) p tr (some fl) bs).2.1.getD 0 = max fl ((RES aB (PRm wn hld own) q p).1.getD 0) := by
  have h := (ext_dfs hal (ppN_B (own := own) (hld := hld) (wn := wn) (pp := pp) (hp := hp) hp5 hq hal) (hpN_B (pp := pp) (hp := hp) hq hal) p 0 0 0 (tr, some fl, bs) (fun _ => none) (some fl, bs) (by omega) vld_0 (fun o => Nat.zero_testBit o) rfl (fun j hj => absurd hj (Nat.not_lt_zero j)) ⟨rfl, fun _ _ _ => rfl⟩).1.1
  have h2 := (moa_dfs hal (ppN_B (own := own) (hld := hld) (wn := wn) (pp := pp) (hp := hp) hp5 hq hal) p 0 0 0 tr (fun _ => none) (some fl, bs) (by omega) vld_0 (fun o => Nat.zero_testBit o) rfl (fun j hj => absurd hj (Nat.not_lt_zero j))).1
  have h3 := mbF_res (own := own) (hld := hld) (wn := wn) (pp := pp) (hp := hp) (tr := tr) hp5 hq hal
  show (ext q al _ _ p 0 0 0 (tr, some fl, bs)).2.1.getD 0 = _
  rw [h, h2, h3]; rfl
/-- the most points, the best matching: a pupil's map pn, wp, pm; a model's qn, wm, mm -/
def REm (ch : Nat → Option Nat) (gr wp wm pm mm : Nat → Nat) (pn qn : Nat) : SG := RES (aBm gr wp wm) (PRm mm (clo ch pm) pm) qn pn
def MXm (ch : Nat → Option Nat) (gr wp wm pm mm : Nat → Nat) (pn qn : Nat) : Nat := (REm ch gr wp wm pm mm pn qn).1.getD 0
theorem fb1_res {ch : Nat → Option Nat} {gr wp wm pm mm al pp hp : Nat → Nat} {tr bs : Nat → Option Nat} {pn qn : Nat} (hp5 : pn ≤ 5) (hq : qn ≤ 5) : (fb1 ch gr wp wm pm mm al pp hp tr bs pn qn).2.1.getD 0 = MXm ch gr wp wm pm mm pn qn ∧ ∀ j, j < pn → (fb1 ch gr wp wm pm mm al pp hp tr bs pn qn).2.2 j = (REm ch gr wp wm pm mm pn qn).2 j := by
  have h := fbE_res (al := alN gr wp wm qn pn al) (own := pm) (hld := clo ch pm) (wn := mm) (pp := pp) (hp := hp) (tr := tr) (bs := bs) hp5 hq (alN_tb (gr := gr) (wp := wp) (wm := wm) (al := al))
  exact ⟨congrArg (fun o => Option.getD o 0) h.1, h.2⟩
theorem mb1_res {ch : Nat → Option Nat} {gr wp wm pm mm al pp hp : Nat → Nat} {tr : Nat → Option Nat} {pn qn : Nat} (hp5 : pn ≤ 5) (hq : qn ≤ 5) : (mbF qn (alN gr wp wm qn pn al) (pp1 ch gr wp wm pm mm al pp hp pn qn) pn tr).1 = MXm ch gr wp wm pm mm pn qn := by
  have h := mbF_res (al := alN gr wp wm qn pn al) (own := pm) (hld := clo ch pm) (wn := mm) (pp := pp) (hp := hp) (tr := tr) hp5 hq (alN_tb (gr := gr) (wp := wp) (wm := wm) (al := al))
  show _ = (RES _ _ qn pn).1.getD 0
  rw [h]; rfl
