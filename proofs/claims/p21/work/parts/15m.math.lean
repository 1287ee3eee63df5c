/-! the model with the greatest mark: best, greatest, then the rows of work -/
abbrev BM : Type := Option Nat × Option Nat × (Nat → Nat) × (Nat → Nat) × (Nat → Nat) × (Nat → Nat) × (Nat → Option Nat) × (Nat → Option Nat) × Nat × Nat × Option Nat
def bmS (ch : Nat → Option Nat) (gr wp pm : Nat → Nat) (pn : Nat) (wm mm : Nat → Nat) (qn k : Nat) (s : BM) : BM :=
  if cntN mm 25 = 0 then s else
  (if leO (100 * (fb1 ch gr wp wm pm mm s.2.2.2.1 s.2.2.2.2.1 s.2.2.2.2.2.1 s.2.2.2.2.2.2.1 s.2.2.2.2.2.2.2.1 pn qn).2.1.getD 0 / (4 * cntN mm 25)) s.2.1 = true then s.1 else some k,
   if leO (100 * (fb1 ch gr wp wm pm mm s.2.2.2.1 s.2.2.2.2.1 s.2.2.2.2.2.1 s.2.2.2.2.2.2.1 s.2.2.2.2.2.2.2.1 pn qn).2.1.getD 0 / (4 * cntN mm 25)) s.2.1 = true then s.2.1 else some (100 * (fb1 ch gr wp wm pm mm s.2.2.2.1 s.2.2.2.2.1 s.2.2.2.2.2.1 s.2.2.2.2.2.2.1 s.2.2.2.2.2.2.2.1 pn qn).2.1.getD 0 / (4 * cntN mm 25)),
   clo ch pm, alN gr wp wm qn pn s.2.2.2.1, pp1 ch gr wp wm pm mm s.2.2.2.1 s.2.2.2.2.1 s.2.2.2.2.2.1 pn qn, hp1 ch gr wp wm pm mm s.2.2.2.1 s.2.2.2.2.1 s.2.2.2.2.2.1 pn qn,
   (fb1 ch gr wp wm pm mm s.2.2.2.1 s.2.2.2.2.1 s.2.2.2.2.2.1 s.2.2.2.2.2.2.1 s.2.2.2.2.2.2.2.1 pn qn).1, (fb1 ch gr wp wm pm mm s.2.2.2.1 s.2.2.2.2.1 s.2.2.2.2.2.1 s.2.2.2.2.2.2.1 s.2.2.2.2.2.2.2.1 pn qn).2.2, pn, qn,
   (fb1 ch gr wp wm pm mm s.2.2.2.1 s.2.2.2.2.1 s.2.2.2.2.2.1 s.2.2.2.2.2.2.1 s.2.2.2.2.2.2.2.1 pn qn).2.1)
def bmB (ch : Nat → Option Nat) (gr wp pm : Nat → Nat) (pn : Nat) (wF mF : Nat → Nat → Nat) (qF : Nat → Nat) (s : BM) : Nat → BM
  | 0 => s
  | i + 1 => if i = 0 then s else bmS ch gr wp pm pn (wF i) (mF i) (qF i) i (bmB ch gr wp pm pn wF mF qF s i)
theorem bmB_no {ch : Nat → Option Nat} {gr wp pm : Nat → Nat} {pn : Nat} {wF mF : Nat → Nat → Nat} {qF : Nat → Nat} {s : BM} {i : Nat} (hi : i ≠ 0) (h : cntN (mF i) 25 = 0) : bmB ch gr wp pm pn wF mF qF s (i + 1) = bmB ch gr wp pm pn wF mF qF s i := by
  show (if i = 0 then s else bmS ch gr wp pm pn (wF i) (mF i) (qF i) i _) = _
  rw [if_neg hi, bmS, if_pos h]
theorem bmB_yes {ch : Nat → Option Nat} {gr wp pm : Nat → Nat} {pn : Nat} {wF mF : Nat → Nat → Nat} {qF : Nat → Nat} {s s4 : BM} {i : Nat} (hi : i ≠ 0) (he : s4 = bmB ch gr wp pm pn wF mF qF s i) (h : cntN (mF i) 25 ≠ 0) : bmB ch gr wp pm pn wF mF qF s (i + 1) =
  (if leO (100 * (fb1 ch gr wp (wF i) pm (mF i) s4.2.2.2.1 s4.2.2.2.2.1 s4.2.2.2.2.2.1 s4.2.2.2.2.2.2.1 s4.2.2.2.2.2.2.2.1 pn (qF i)).2.1.getD 0 / (4 * cntN (mF i) 25)) s4.2.1 = true then s4.1 else some i,
   if leO (100 * (fb1 ch gr wp (wF i) pm (mF i) s4.2.2.2.1 s4.2.2.2.2.1 s4.2.2.2.2.2.1 s4.2.2.2.2.2.2.1 s4.2.2.2.2.2.2.2.1 pn (qF i)).2.1.getD 0 / (4 * cntN (mF i) 25)) s4.2.1 = true then s4.2.1 else some (100 * (fb1 ch gr wp (wF i) pm (mF i) s4.2.2.2.1 s4.2.2.2.2.1 s4.2.2.2.2.2.1 s4.2.2.2.2.2.2.1 s4.2.2.2.2.2.2.2.1 pn (qF i)).2.1.getD 0 / (4 * cntN (mF i) 25)),
   clo ch pm, alN gr wp (wF i) (qF i) pn s4.2.2.2.1, pp1 ch gr wp (wF i) pm (mF i) s4.2.2.2.1 s4.2.2.2.2.1 s4.2.2.2.2.2.1 pn (qF i), hp1 ch gr wp (wF i) pm (mF i) s4.2.2.2.1 s4.2.2.2.2.1 s4.2.2.2.2.2.1 pn (qF i),
   (fb1 ch gr wp (wF i) pm (mF i) s4.2.2.2.1 s4.2.2.2.2.1 s4.2.2.2.2.2.1 s4.2.2.2.2.2.2.1 s4.2.2.2.2.2.2.2.1 pn (qF i)).1, (fb1 ch gr wp (wF i) pm (mF i) s4.2.2.2.1 s4.2.2.2.2.1 s4.2.2.2.2.2.1 s4.2.2.2.2.2.2.1 s4.2.2.2.2.2.2.2.1 pn (qF i)).2.2, pn, (qF i),
   (fb1 ch gr wp (wF i) pm (mF i) s4.2.2.2.1 s4.2.2.2.2.1 s4.2.2.2.2.2.1 s4.2.2.2.2.2.2.1 s4.2.2.2.2.2.2.2.1 pn (qF i)).2.1) := by
  show (if i = 0 then s else bmS ch gr wp pm pn (wF i) (mF i) (qF i) i _) = _
  rw [if_neg hi, ← he, bmS, if_neg h]
def bmOk (s : BM) : Prop := (∀ b, s.2.1 = some b → b ≤ 200000) ∧ alOk s.2.2.2.1 ∧ ppOk s.2.2.2.2.1 ∧ hpOk s.2.2.2.2.2.1 ∧ trOk s.2.2.2.2.2.2.1 ∧ trOk s.2.2.2.2.2.2.2.1
theorem bmv_le {x c : Nat} (h : x ≤ 2000) : 100 * x / (4 * c) ≤ 200000 := Nat.le_trans (Nat.div_le_self _ _) (by omega)
theorem bmB_ok {ch : Nat → Option Nat} {gr wp pm : Nat → Nat} {pn : Nat} {wF mF : Nat → Nat → Nat} {qF : Nat → Nat} {s : BM} (hpn : pn ≤ 5) (hq : ∀ i, qF i ≤ 5) (h : bmOk s) : ∀ i, bmOk (bmB ch gr wp pm pn wF mF qF s i)
  | 0 => h
  | i + 1 => by
    have ih := bmB_ok (ch := ch) (gr := gr) (wp := wp) (pm := pm) (wF := wF) (mF := mF) hpn hq h i
    show bmOk (if i = 0 then s else bmS ch gr wp pm pn (wF i) (mF i) (qF i) i _)
    split
    · exact h
    · unfold bmS; split
      · exact ih
      · obtain ⟨h1, h2, h3, h4, h5, h6⟩ := ih
        refine ⟨?_, alN_ok (hq i) h2, pp1_ok hpn h3 h4, hp1_ok hpn h3 h4, (fbE_ok hpn (hq i) (pp1_ok hpn h3 h4) h5 (fun _ h => by cases h)).1, fbE_bs (hq i) h5 h6⟩
        intro b hb
        have hb : (if leO _ _ = true then _ else some _) = some b := hb
        split at hb
        · exact h1 b hb
        · cases hb; exact bmv_le (fb1_le hpn (hq i) h3 h4 h5)
theorem m1_le {o : Option Nat} (ho : ∀ b, o = some b → b < 2 ^ 31) : (-1 : Int32) ≤ oI o := by
  cases o with
  | none => decide
  | some b => rw [Int32.le_iff_toInt_le]; show (-1 : Int32).toInt ≤ (nI b).toInt; rw [nI_toInt (ho b rfl), show ((-1 : Int32).toInt) = -1 by decide]; omega
