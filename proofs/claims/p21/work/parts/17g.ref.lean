/-! the reference's calls: how its search ends, told by the class's words -/
theorem most_end {ch : Nat → Option Nat} {gr wd wp wm pm mm hd : Nat → Nat} {hs ho : Nat → Bool} {p q m : Nat} (hp5 : p ≤ 5) (hq5 : q ≤ 5) (h1 : mskR 0 hs pm) (h2 : mskR 0 ho hd) (h3 : mskR m hs mm) (hpm : mOk pm) (hhd : mOk hd) (hmm : mOk mm) (hdg : dgOk mm) (hwp : ∀ i, i < p → wd i = wp i) (hwm : ∀ c, c < q → wd (5 * m + c) = wm c) (mt bs bk : Nat → Option Nat) : ∃ (n : Nat) (FIN : MS), msR gr wd hs ho p q m n (va_up mt 0 none, bs, bk, none, 1) = FIN ∧ FIN.2.2.2.2 = 0 ∧ FIN.2.2.2.1 = some ((RES (aBm gr wp wm) (PRm mm hd pm) q p).1.getD 0) ∧ encR q p FIN.2.1 (RES (aBm gr wp wm) (PRm mm hd pm) q p).2 ∧ mtOk FIN.2.1 q p := by
  rw [← RES_1]
  exact ms_end hp5 (fun i c hi hc => by unfold aBm; rw [hwp i hi, hwm c hc]) (fun mt f hv he => ptF_scS hp5 hq5 h1 h2 h3 hpm hhd hmm hdg mt f hv he) mt bs bk
theorem pc4_sum : ∀ x, x < 16 → pc4 x = sumN (fun k => if x.testBit k = true then 1 else 0) 4 := by decide +kernel
theorem cntN_sum (m : Nat → Nat) : ∀ n, cntN m n = sumN (fun j => pc4 (m j)) n
  | 0 => rfl
  | n + 1 => by show cntN m n + _ = sumN _ n + _; rw [cntN_sum m n]
theorem cntB_sum (h : Nat → Bool) (b : Nat) : ∀ n, cntB h b n = sumN (fun i => if h (b + i) = true then 1 else 0) n
  | 0 => rfl
  | n + 1 => by show cntB h b n + _ = sumN _ n + _; rw [cntB_sum h b n]
theorem cntB_m {hs : Nat → Bool} {mm : Nat → Nat} {m : Nat} (hR : mskR m hs mm) (hmm : mOk mm) : cntB hs (100 * m) 100 = cntN mm 25 := by
  rw [cntB_sum, cntN_sum, show (100 : Nat) = 25 * 4 from rfl, sumN_mul]
  refine sumN_cg (fun j hj => ?_)
  rw [pc4_sum _ (hmm j)]
  refine sumN_cg (fun k hk => ?_)
  have e : 25 * 4 * m + (j * 4 + k) = atF m (j / 5) (j % 5) k := by unfold atF; omega
  rw [e, hR (j / 5) (j % 5) k (by omega) (by omega) hk, show j / 5 * 5 + j % 5 = j by omega]
theorem enc_none {q : Nat} {r : Option Nat} (h : ∀ c, r = some c → c < q) (e : enc q r = q) : r = none := by
  cases r with
  | none => rfl
  | some c => have := h c rfl; exact absurd e (by show c ≠ q; omega)
theorem enc_some {q : Nat} {r : Option Nat} (e : enc q r ≠ q) : nI (enc q r) = oI r := by
  cases r with
  | none => exact absurd rfl e
  | some c => rfl
theorem enc_le {q : Nat} {r : Option Nat} (h : ∀ c, r = some c → c < q) : enc q r ≤ q := by
  cases r with
  | none => exact Nat.le_refl _
  | some c => exact Nat.le_of_lt (h c rfl)
/-- one link put in, and taken away again -/
theorem mskR_up {m : Nat} {hs : Nat → Bool} {mm : Nat → Nat} (hR : mskR m hs mm) {f t d : Nat} (hf : f < 5) (ht : t < 5) (hd : d < 4) : mskR m (va_up hs (atF m f t d) true) (hAdd mm f t d) := by
  intro a b k ha hb hk
  cases e : va_up hs (atF m f t d) true (atF m a b k) with
  | true =>
    have h9 := (sB_up (h := hs) hd ht hb hk).mp e
    refine ((sM_add (m := mm) (f := f) (d := d) ht hb).mpr ?_).symm
    rcases h9 with h9 | h9
    · exact Or.inl h9
    · exact Or.inr (by show _ = true; rw [← hR a b k ha hb hk]; exact h9)
  | false =>
    symm
    rw [Bool.eq_false_iff]; intro h9
    have h8 := (sM_add (m := mm) (f := f) (d := d) ht hb).mp h9
    have h7 : sB m (va_up hs (atF m f t d) true) a b k := (sB_up hd ht hb hk).mpr (by
      rcases h8 with h8 | h8
      · exact Or.inl h8
      · exact Or.inr (by show _ = true; rw [hR a b k ha hb hk]; exact h8))
    have h7 : va_up hs (atF m f t d) true (atF m a b k) = true := h7
    rw [e] at h7; cases h7
theorem mskR_off {m i : Nat} {hs : Nat → Bool} {mm : Nat → Nat} {v : Bool} (hR : mskR m hs mm) (hi : i < 100 * m ∨ 100 * m + 100 ≤ i) : mskR m (va_up hs i v) mm := by
  intro a b k ha hb hk
  rw [vu_ne (by unfold atF; omega)]; exact hR a b k ha hb hk
theorem up_up {α : Type} {f : Nat → α} {k : Nat} {v w : α} (h : f k = w) : va_up (va_up f k v) k w = f := by
  funext j
  by_cases e : j = k
  · subst e; rw [vu_eq, h]
  · rw [vu_ne e, vu_ne e]
theorem mskR_cg {m : Nat} {hs : Nat → Bool} {mm m2 : Nat → Nat} (hR : mskR m hs mm) (h : ∀ a b, a < 5 → b < 5 → mm (a * 5 + b) = m2 (a * 5 + b)) : mskR m hs m2 := fun a b k ha hb hk => by rw [← h a b ha hb]; exact hR a b k ha hb hk
/-- where a hint's link goes -/
theorem hn_no {ch : Nat → Option Nat} {gr wp wm pm mm : Nat → Nat} {pn qn k : Nat} (h : ¬ (k / 20 ≠ k / 4 % 5 ∧ k / 20 < pn ∧ k / 4 % 5 < pn ∧ (pm (k / 20 * 5 + k / 4 % 5)).testBit (k % 4) = false)) : hnA ch gr wp wm pm mm pn qn (k + 1) = hnA ch gr wp wm pm mm pn qn k := by
  show hnT _ _ _ _ _ _ _ _ _ _ _ (hnA ch gr wp wm pm mm pn qn k) = _
  unfold hnT; rw [if_neg (fun w => h ⟨w.1, w.2.1, w.2.2.1, w.2.2.2.1⟩)]
theorem hn_lo {ch : Nat → Option Nat} {gr wp wm pm mm : Nat → Nat} {pn qn k : Nat} (h : ¬ MXm ch gr wp wm pm mm pn qn + (hnA ch gr wp wm pm mm pn qn k).2 < MXh ch gr wp wm pm mm pn qn (k / 20) (k / 4 % 5) (k % 4)) : hnA ch gr wp wm pm mm pn qn (k + 1) = hnA ch gr wp wm pm mm pn qn k := by
  show hnT _ _ _ _ _ _ _ _ _ _ _ (hnA ch gr wp wm pm mm pn qn k) = _
  unfold hnT; rw [if_neg (fun w => h w.2.2.2.2)]
theorem hn_yes {ch : Nat → Option Nat} {gr wp wm pm mm : Nat → Nat} {pn qn k : Nat} (h0 : k / 20 ≠ k / 4 % 5 ∧ k / 20 < pn ∧ k / 4 % 5 < pn ∧ (pm (k / 20 * 5 + k / 4 % 5)).testBit (k % 4) = false) (h : MXm ch gr wp wm pm mm pn qn + (hnA ch gr wp wm pm mm pn qn k).2 < MXh ch gr wp wm pm mm pn qn (k / 20) (k / 4 % 5) (k % 4)) : hnA ch gr wp wm pm mm pn qn (k + 1) = (some (100 * (k / 20) + 10 * (k / 4 % 5) + k % 4), MXh ch gr wp wm pm mm pn qn (k / 20) (k / 4 % 5) (k % 4) - MXm ch gr wp wm pm mm pn qn) := by
  show hnT _ _ _ _ _ _ _ _ _ _ _ (hnA ch gr wp wm pm mm pn qn k) = _
  unfold hnT; rw [if_pos ⟨h0.1, h0.2.1, h0.2.2.1, h0.2.2.2, h⟩]
/-- the search's most points are few -/
theorem RES_le {aB : Nat → Nat → Bool} {mm hd pm : Nat → Nat} {q p : Nat} (hp5 : p ≤ 5) : (RES aB (PRm mm hd pm) q p).1.getD 0 ≤ 1200 := by
  have key : ∀ (d i : Nat) (f : Nat → Option Nat) (s : SG), i + d = p → s.1.getD 0 ≤ 1200 → (dfs aB (PRm mm hd pm) q d i f s).1.getD 0 ≤ 1200 := by
    have hpw : ∀ f i o e, pwS (PRm mm hd pm) f i o e ≤ 48 * e := by
      intro f i o e
      induction e with
      | zero => exact Nat.le_refl _
      | succ e ih =>
        show (match f e with | none => _ | some a => _) ≤ _
        cases f e with
        | none => show pwS _ f i o e ≤ _; omega
        | some a =>
          have := fpP_le mm (hd (e * 5 + i)) (hd (i * 5 + e)) (pm (e * 5 + i)) (pm (i * 5 + e)) a o
          show pwS _ f i o e + fpP _ _ _ _ _ _ _ ≤ _; omega
    have hsc : ∀ f l, l ≤ 5 → scS (PRm mm hd pm) f l ≤ 240 * l := by
      intro f l
      induction l with
      | zero => intro _; exact Nat.le_refl _
      | succ l ih =>
        intro hl
        have := ih (by omega)
        show (match f l with | none => _ | some a => _) ≤ _
        cases f l with
        | none => show scS _ f l ≤ _; omega
        | some o => have := hpw f l o l; show scS _ f l + pwS _ f l o l ≤ _; omega
    intro d
    induction d with
    | zero =>
      intro i f s hi hs
      unfold dfs; split
      · exact hs
      · have := hsc f i (by omega); show scS _ f i ≤ 1200; omega
    | succ d ih =>
      intro i f s hi hs
      unfold dfs
      refine ih (i + 1) f _ (by omega) ?_
      refine foldS_inv (I := fun s => s.1.getD 0 ≤ 1200) (fun o s _ hs => ?_) hs q (Nat.le_refl _)
      unfold dfStep; split
      · exact ih (i + 1) _ s (by omega) hs
      · exact hs
  exact key p 0 _ _ (by omega) (Nat.zero_le _)
theorem hn_le {ch : Nat → Option Nat} {gr wp wm pm mm : Nat → Nat} {pn qn : Nat} (hp5 : pn ≤ 5) : ∀ n, (hnA ch gr wp wm pm mm pn qn n).2 ≤ 1200
  | 0 => Nat.zero_le _
  | n + 1 => by
    show (hnT _ _ _ _ _ _ _ _ _ _ _ (hnA ch gr wp wm pm mm pn qn n)).2 ≤ 1200
    unfold hnT; split
    · have := RES_le (aB := aBm gr wp wm) (mm := mm) (hd := clo ch (hAdd (clo ch pm) (n / 20) (n / 4 % 5) (n % 4))) (pm := hAdd pm (n / 20) (n / 4 % 5) (n % 4)) (q := qn) (p := pn) hp5
      show MXh _ _ _ _ _ _ _ _ _ _ _ - _ ≤ 1200
      unfold MXh; omega
    · exact hn_le hp5 n
/-- numbers and their ranges -/
def inR (v : Int32) (n : Nat) : Bool := decide ((0 : Int32) ≤ v) && decide (v < nI n)
theorem inR_nI {k n : Nat} (h : k < n) (hn : n < 2 ^ 31) : inR (nI k) n = true := by
  unfold inR; rw [Bool.and_eq_true, decide_eq_true_iff, decide_eq_true_iff, Int32.le_iff_toInt_le, Int32.lt_iff_toInt_lt, nI_toInt (by omega), nI_toInt hn, show ((0 : Int32).toInt) = 0 by decide]
  omega
theorem inR_ex {v : Int32} {n : Nat} (hn : n < 2 ^ 31) (h : inR v n = true) : ∃ k, k < n ∧ v = nI k := by
  unfold inR at h; rw [Bool.and_eq_true, decide_eq_true_iff, decide_eq_true_iff, Int32.le_iff_toInt_le, Int32.lt_iff_toInt_lt, nI_toInt hn, show ((0 : Int32).toInt) = 0 by decide] at h
  refine ⟨v.toInt.toNat, by omega, ?_⟩
  rw [← Int32.toInt_inj, nI_toInt (by omega)]; omega
