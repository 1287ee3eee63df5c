/-! numbers that are asked for: any int -/
theorem inX_1 {v : Int32} {n : Nat} (hn : n < 2 ^ 31) (h1 : ¬ v < 0) (h2 : ¬ nI n ≤ v) : inR v n = true := by
  unfold inR; rw [Bool.and_eq_true, decide_eq_true_iff, decide_eq_true_iff]
  exact ⟨Int32.not_lt.mp h1, Int32.not_le.mp h2⟩
theorem inX_a {v : Int32} {n : Nat} (h1 : v < 0) : inR v n = false := by
  cases h : inR v n with
  | false => rfl
  | true => unfold inR at h; rw [Bool.and_eq_true, decide_eq_true_iff, decide_eq_true_iff] at h; exact absurd h1 (Int32.not_lt.mpr h.1)
theorem inX_b {v : Int32} {n : Nat} (hn : n < 2 ^ 31) (h2 : nI n ≤ v) : inR v n = false := by
  cases h : inR v n with
  | false => rfl
  | true => unfold inR at h; rw [Bool.and_eq_true, decide_eq_true_iff, decide_eq_true_iff] at h; exact absurd h2 (Int32.not_le.mpr h.2)
def inM (v : Int32) : Bool := decide ((0 : Int32) < v) && decide (v < nI 4)
theorem inM_1 {v : Int32} (h1 : ¬ v ≤ 0) (h2 : ¬ nI 4 ≤ v) : inM v = true := by
  unfold inM; rw [Bool.and_eq_true, decide_eq_true_iff, decide_eq_true_iff]
  exact ⟨Int32.not_le.mp h1, Int32.not_le.mp h2⟩
theorem inM_a {v : Int32} (h1 : v ≤ 0) : inM v = false := by
  cases h : inM v with
  | false => rfl
  | true => unfold inM at h; rw [Bool.and_eq_true, decide_eq_true_iff, decide_eq_true_iff] at h; exact absurd h1 (Int32.not_le.mpr h.1)
theorem inM_b {v : Int32} (h2 : nI 4 ≤ v) : inM v = false := by
  cases h : inM v with
  | false => rfl
  | true => unfold inM at h; rw [Bool.and_eq_true, decide_eq_true_iff, decide_eq_true_iff] at h; exact absurd h2 (Int32.not_le.mpr h.2)
theorem inM_nI {k : Nat} (h0 : k ≠ 0) (h : k < 4) : inM (nI k) = true := by
  match k, h0, h with
  | 1, _, _ => decide
  | 2, _, _ => decide
  | 3, _, _ => decide
theorem inM_ex {v : Int32} (h : inM v = true) : ∃ k, k ≠ 0 ∧ k < 4 ∧ v = nI k := by
  unfold inM at h; rw [Bool.and_eq_true, decide_eq_true_iff, decide_eq_true_iff, Int32.lt_iff_toInt_lt, Int32.lt_iff_toInt_lt, nI_toInt (by decide), show ((0 : Int32).toInt) = 0 by decide] at h
  refine ⟨v.toInt.toNat, by omega, by omega, ?_⟩
  rw [← Int32.toInt_inj, nI_toInt (by omega)]; omega
theorem nI_nm1 {d : Nat} (h : d < 2 ^ 31) (e : nI d = -1) : False := by
  have h9 := congrArg Int32.toInt e
  rw [nI_toInt h, show ((-1 : Int32).toInt) = -1 by decide] at h9; omega
theorem vu_self {α : Type} {f : Nat → α} {k : Nat} : va_up f k (f k) = f := by
  funext j
  by_cases e : j = k
  · subst e; exact vu_eq
  · exact vu_ne e
/-- what may not be asked of a link: 1, 2, or nothing -/
def lkBad (idn : Nat → Nat) (v a b d : Int32) : Nat :=
  if inR v 4 = false then 1 else
  if inR a (idn v.toInt.toNat) = false then 1 else
  if inR b (idn v.toInt.toNat) = false then 1 else
  if a = b then 2 else if inR d 4 = false then 2 else 0
theorem nI_nat {k : Nat} (h : k < 2 ^ 31) : (nI k).toInt.toNat = k := by rw [nI_toInt h]; omega
theorem lkBad_cases {idn : Nat → Nat} (hq5 : ∀ m, idn m ≤ 5) {v a b d : Int32} {r : Nat} (h : lkBad idn v a b d = r) (h0 : r ≠ 0) :
    (inR v 4 = false ∧ r = 1) ∨ (∃ m, m < 4 ∧ v = nI m ∧ inR a (idn m) = false ∧ r = 1) ∨ (∃ m f, m < 4 ∧ v = nI m ∧ f < idn m ∧ a = nI f ∧ inR b (idn m) = false ∧ r = 1) ∨ (∃ m f, m < 4 ∧ v = nI m ∧ f < idn m ∧ a = nI f ∧ b = nI f ∧ r = 2) ∨ (∃ m f t, m < 4 ∧ v = nI m ∧ f < idn m ∧ a = nI f ∧ t < idn m ∧ b = nI t ∧ f ≠ t ∧ inR d 4 = false ∧ r = 2) := by
  unfold lkBad at h
  cases h1 : inR v 4 with
  | false => rw [if_pos h1] at h; exact Or.inl ⟨rfl, h.symm⟩
  | true =>
    rw [h1, if_neg (by decide)] at h
    obtain ⟨m, hm, rfl⟩ := inR_ex (by decide) h1
    rw [nI_nat (by omega)] at h
    have hq := hq5 m
    cases h2 : inR a (idn m) with
    | false => rw [if_pos h2] at h; exact Or.inr (Or.inl ⟨m, hm, rfl, h2, h.symm⟩)
    | true =>
      rw [h2, if_neg (by decide)] at h
      obtain ⟨f, hf, rfl⟩ := inR_ex (by omega) h2
      cases h3 : inR b (idn m) with
      | false => rw [if_pos h3] at h; exact Or.inr (Or.inr (Or.inl ⟨m, f, hm, rfl, hf, rfl, h3, h.symm⟩))
      | true =>
        rw [h3, if_neg (by decide)] at h
        obtain ⟨t, ht, rfl⟩ := inR_ex (by omega) h3
        by_cases h4 : f = t
        · subst h4; rw [if_pos rfl] at h; exact Or.inr (Or.inr (Or.inr (Or.inl ⟨m, f, hm, rfl, hf, rfl, rfl, h.symm⟩)))
        · rw [if_neg (fun z => h4 ((nI_eq (by omega) (by omega)).mp z))] at h
          cases h5 : inR d 4 with
          | false => rw [if_pos h5] at h; exact Or.inr (Or.inr (Or.inr (Or.inr ⟨m, f, t, hm, rfl, hf, rfl, ht, rfl, h4, rfl, h.symm⟩)))
          | true => rw [h5, if_neg (by decide)] at h; exact absurd h.symm h0
theorem lkBad_ok {idn : Nat → Nat} (hq5 : ∀ m, idn m ≤ 5) {v a b d : Int32} (h : lkBad idn v a b d = 0) : ∃ m f t k, m < 4 ∧ v = nI m ∧ f < idn m ∧ a = nI f ∧ t < idn m ∧ b = nI t ∧ f ≠ t ∧ k < 4 ∧ d = nI k := by
  unfold lkBad at h
  cases h1 : inR v 4 with
  | false => rw [if_pos h1] at h; cases h
  | true =>
    rw [h1, if_neg (by decide)] at h
    obtain ⟨m, hm, rfl⟩ := inR_ex (by decide) h1
    rw [nI_nat (by omega)] at h
    have hq := hq5 m
    cases h2 : inR a (idn m) with
    | false => rw [if_pos h2] at h; cases h
    | true =>
      rw [h2, if_neg (by decide)] at h
      obtain ⟨f, hf, rfl⟩ := inR_ex (by omega) h2
      cases h3 : inR b (idn m) with
      | false => rw [if_pos h3] at h; cases h
      | true =>
        rw [h3, if_neg (by decide)] at h
        obtain ⟨t, ht, rfl⟩ := inR_ex (by omega) h3
        by_cases h4 : f = t
        · rw [if_pos (by rw [h4])] at h; cases h
        · rw [if_neg (fun z => h4 ((nI_eq (by omega) (by omega)).mp z))] at h
          cases h5 : inR d 4 with
          | false => rw [if_pos h5] at h; cases h
          | true => obtain ⟨k, hk, rfl⟩ := inR_ex (by decide) h5; exact ⟨m, f, t, k, hm, rfl, hf, rfl, ht, rfl, h4, hk, rfl⟩
