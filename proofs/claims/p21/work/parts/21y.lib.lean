theorem inM_cases {v : Int32} (h : inM v = false) : v = nI 0 ∨ (v ≠ 0 ∧ inR v 4 = false) := by
  by_cases h0 : v = 0
  · exact Or.inl h0
  · refine Or.inr ⟨h0, ?_⟩
    cases h1 : inR v 4 with
    | false => rfl
    | true =>
      obtain ⟨k, hk, rfl⟩ := inR_ex (by decide) h1
      rw [inM_nI (fun z => h0 (by rw [z]; rfl)) hk] at h; cases h
/-- what may not be asked of a link in a map with n ideas: 1, 2, or nothing -/
def lkB2 (n : Nat) (a b d : Int32) : Nat :=
  if inR a n = false then 1 else if inR b n = false then 1 else if a = b then 2 else if inR d 4 = false then 2 else 0
def xE (r : Nat) : String := if r = 1 then eI else eA
theorem lkB2_cases {n : Nat} (hq : n ≤ 5) {a b d : Int32} {r : Nat} (h : lkB2 n a b d = r) (h0 : r ≠ 0) :
    (inR a n = false ∧ r = 1) ∨ (∃ f, f < n ∧ a = nI f ∧ inR b n = false ∧ r = 1) ∨ (∃ f, f < n ∧ a = nI f ∧ b = nI f ∧ r = 2) ∨ (∃ f t, f < n ∧ a = nI f ∧ t < n ∧ b = nI t ∧ f ≠ t ∧ inR d 4 = false ∧ r = 2) := by
  unfold lkB2 at h
  cases h2 : inR a n with
  | false => rw [if_pos h2] at h; exact Or.inl ⟨rfl, h.symm⟩
  | true =>
    rw [h2, if_neg (by decide)] at h
    obtain ⟨f, hf, rfl⟩ := inR_ex (by omega) h2
    cases h3 : inR b n with
    | false => rw [if_pos h3] at h; exact Or.inr (Or.inl ⟨f, hf, rfl, rfl, h.symm⟩)
    | true =>
      rw [h3, if_neg (by decide)] at h
      obtain ⟨t, ht, rfl⟩ := inR_ex (by omega) h3
      by_cases h4 : f = t
      · subst h4; rw [if_pos rfl] at h; exact Or.inr (Or.inr (Or.inl ⟨f, hf, rfl, rfl, h.symm⟩))
      · rw [if_neg (fun z => h4 ((nI_eq (by omega) (by omega)).mp z))] at h
        cases h5 : inR d 4 with
        | false => rw [if_pos h5] at h; exact Or.inr (Or.inr (Or.inr ⟨f, t, hf, rfl, ht, rfl, h4, rfl, h.symm⟩))
        | true => rw [h5, if_neg (by decide)] at h; exact absurd h.symm h0
theorem lkBad_2 {idn : Nat → Nat} {m : Nat} (hm : m < 4) {a b d : Int32} : lkBad idn (nI m) a b d = lkB2 (idn m) a b d := by
  unfold lkBad lkB2
  rw [inR_nI hm (by decide), if_neg (by decide), nI_nat (by omega)]
