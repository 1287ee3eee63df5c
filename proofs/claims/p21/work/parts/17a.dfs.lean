/-! all matchings, one behind the other: what both searches come to -/
def usd (f : Nat → Option Nat) (o : Nat) : Nat → Bool
  | 0 => false
  | e + 1 => usd f o e || decide (f e = some o)
def pwS (PR : Nat → Nat → Nat → Nat → Nat) (f : Nat → Option Nat) (i o : Nat) : Nat → Nat
  | 0 => 0
  | e + 1 => match f e with
    | none => pwS PR f i o e
    | some a => pwS PR f i o e + PR e i a o
def scS (PR : Nat → Nat → Nat → Nat → Nat) (f : Nat → Option Nat) : Nat → Nat
  | 0 => 0
  | l + 1 => match f l with
    | none => scS PR f l
    | some o => scS PR f l + pwS PR f l o l
abbrev SG : Type := Option Nat × (Nat → Option Nat)
def foldS (step : Nat → SG → SG) (s : SG) : Nat → SG
  | 0 => s
  | o + 1 => step o (foldS step s o)
def dfStep (rc : (Nat → Option Nat) → SG → SG) (aB : Nat → Nat → Bool) (i : Nat) (f : Nat → Option Nat) (o : Nat) (s : SG) : SG :=
  if aB i o = true ∧ usd f o i = false then rc (va_up f i (some o)) s else s
def dfs (aB : Nat → Nat → Bool) (PR : Nat → Nat → Nat → Nat → Nat) (q : Nat) : Nat → Nat → (Nat → Option Nat) → SG → SG
  | 0, i, f, s => if leO (scS PR f i) s.1 = true then s else (some (scS PR f i), f)
  | d + 1, i, f, s => dfs aB PR q d (i + 1) f (foldS (dfStep (dfs aB PR q d (i + 1)) aB i f) s q)
/-- what is given so far: of the model, alike, none twice; none behind -/
def vld (aB : Nat → Nat → Bool) (q : Nat) (f : Nat → Option Nat) (i : Nat) : Prop :=
  (∀ e a, f e = some a → e < i ∧ a < q ∧ aB e a = true) ∧ (∀ e l a, f e = some a → f l = some a → e = l)
theorem usd_iff {f : Nat → Option Nat} {o : Nat} : ∀ {i}, usd f o i = true ↔ ∃ e, e < i ∧ f e = some o
  | 0 => ⟨fun h => (by cases h), fun ⟨e, he, _⟩ => absurd he (Nat.not_lt_zero e)⟩
  | i + 1 => by
    show (usd f o i || decide (f i = some o)) = true ↔ _
    rw [Bool.or_eq_true, decide_eq_true_iff, usd_iff (i := i)]
    constructor
    · rintro (⟨e, he, h⟩ | h)
      · exact ⟨e, by omega, h⟩
      · exact ⟨i, by omega, h⟩
    · rintro ⟨e, he, h⟩
      by_cases e1 : e = i
      · subst e1; exact Or.inr h
      · exact Or.inl ⟨e, by omega, h⟩
theorem usd_no {f : Nat → Option Nat} {o i e : Nat} (h : usd f o i = false) (he : e < i) : f e ≠ some o := fun z => by
  rw [usd_iff.mpr ⟨e, he, z⟩] at h; cases h
theorem vld_0 {aB : Nat → Nat → Bool} {q : Nat} : vld aB q (fun _ => none) 0 := ⟨fun _ _ h => (by cases h), fun _ _ _ h => (by cases h)⟩
theorem vld_none {aB : Nat → Nat → Bool} {q i : Nat} {f : Nat → Option Nat} (h : vld aB q f i) : vld aB q f (i + 1) :=
  ⟨fun e a z => by have := h.1 e a z; exact ⟨by omega, this.2⟩, h.2⟩
theorem vld_nn {aB : Nat → Nat → Bool} {q i j : Nat} {f : Nat → Option Nat} (h : vld aB q f i) (hj : i ≤ j) : f j = none := by
  cases hz : f j with
  | none => rfl
  | some a => have := (h.1 j a hz).1; omega
theorem vld_some {aB : Nat → Nat → Bool} {q i o : Nat} {f : Nat → Option Nat} (h : vld aB q f i) (ho : o < q) (ha : aB i o = true) (hu : usd f o i = false) : vld aB q (va_up f i (some o)) (i + 1) := by
  refine ⟨fun e a z => ?_, fun e l a z y => ?_⟩
  · by_cases e1 : e = i
    · subst e1; rw [vu_eq] at z; cases z; exact ⟨by omega, ho, ha⟩
    · rw [vu_ne e1] at z; have := h.1 e a z; exact ⟨by omega, this.2⟩
  · by_cases e1 : e = i
    · by_cases e2 : l = i
      · omega
      · subst e1; rw [vu_eq] at z; cases z; rw [vu_ne e2] at y; exact absurd y (usd_no hu (h.1 l o y).1)
    · by_cases e2 : l = i
      · subst e2; rw [vu_eq] at y; cases y; rw [vu_ne e1] at z; exact absurd z (usd_no hu (h.1 e o z).1)
      · rw [vu_ne e1] at z; rw [vu_ne e2] at y; exact h.2 e l a z y
theorem pwS_cg {PR : Nat → Nat → Nat → Nat → Nat} {f f2 : Nat → Option Nat} {i o : Nat} : ∀ {e}, (∀ j, j < e → f j = f2 j) → pwS PR f i o e = pwS PR f2 i o e
  | 0, _ => rfl
  | e + 1, h => by
    have ih := pwS_cg (PR := PR) (i := i) (o := o) (e := e) (fun j hj => h j (by omega))
    show (match f e with | none => _ | some a => _) = (match f2 e with | none => _ | some a => _)
    rw [h e (by omega), ih]
theorem scS_cg {PR : Nat → Nat → Nat → Nat → Nat} {f f2 : Nat → Option Nat} : ∀ {l}, (∀ j, j < l → f j = f2 j) → scS PR f l = scS PR f2 l
  | 0, _ => rfl
  | l + 1, h => by
    have ih := scS_cg (PR := PR) (l := l) (fun j hj => h j (by omega))
    show (match f l with | none => _ | some a => _) = (match f2 l with | none => _ | some a => _)
    rw [h l (by omega), ih]
    split
    · rfl
    · rw [pwS_cg (fun j hj => h j (by omega))]
theorem scS_none {PR : Nat → Nat → Nat → Nat → Nat} {f : Nat → Option Nat} {i : Nat} (h : f i = none) : scS PR f (i + 1) = scS PR f i := by
  show (match f i with | none => _ | some a => _) = _
  rw [h]
theorem scS_some {PR : Nat → Nat → Nat → Nat → Nat} {f : Nat → Option Nat} {i o : Nat} : scS PR (va_up f i (some o)) (i + 1) = scS PR f i + pwS PR f i o i := by
  show (match va_up f i (some o) i with | none => _ | some a => _) = _
  rw [vu_eq]
  show scS PR (va_up f i (some o)) i + pwS PR (va_up f i (some o)) i o i = _
  rw [scS_cg (f2 := f) (fun j hj => vu_ne (by omega)), pwS_cg (f2 := f) (fun j hj => vu_ne (by omega))]
/-- nothing below can beat the bound -/
def hpB (aB : Nat → Nat → Bool) (PR : Nat → Nat → Nat → Nat → Nat) (q p : Nat) (hp : Nat → Nat) : Prop :=
  hp p = 0 ∧ ∀ i, i < p → hp (i + 1) ≤ hp i ∧ ∀ f o, vld aB q f i → o < q → aB i o = true → usd f o i = false → hp (i + 1) + pwS PR f i o i ≤ hp i
theorem leO_mono {a b : Nat} {o : Option Nat} (h : leO b o = true) (hab : a ≤ b) : leO a o = true := by
  cases o with
  | none => exact absurd h (by simp [leO])
  | some c => simp only [leO, decide_eq_true_eq] at h ⊢; omega
theorem foldS_same {step : Nat → SG → SG} {s : SG} : ∀ {q}, (∀ o, o < q → step o s = s) → foldS step s q = s
  | 0, _ => rfl
  | q + 1, h => by
    show step q (foldS step s q) = s
    rw [foldS_same (q := q) (fun o ho => h o (by omega))]; exact h q (by omega)
theorem dfs_prune {aB : Nat → Nat → Bool} {PR : Nat → Nat → Nat → Nat → Nat} {q p : Nat} {hp : Nat → Nat} (hB : hpB aB PR q p hp) : ∀ (d i : Nat) (f : Nat → Option Nat) (s : SG), i + d = p → vld aB q f i → leO (scS PR f i + hp i) s.1 = true → dfs aB PR q d i f s = s
  | 0, i, f, s, hi, hv, h => by
    unfold dfs; rw [if_pos (leO_mono h (Nat.le_add_right _ _))]
  | d + 1, i, f, s, hi, hv, h => by
    have hb := hB.2 i (by omega)
    have h1 : foldS (dfStep (dfs aB PR q d (i + 1)) aB i f) s q = s := foldS_same (fun o ho => by
      unfold dfStep; split
      · next hc =>
        refine dfs_prune hB d (i + 1) _ s (by omega) (vld_some hv ho hc.1 hc.2) ?_
        rw [scS_some]
        exact leO_mono h (by have := hb.2 f o hv ho hc.1 hc.2; omega)
      · rfl)
    unfold dfs
    rw [h1]
    refine dfs_prune hB d (i + 1) f s (by omega) (vld_none hv) ?_
    rw [scS_none (vld_nn hv (Nat.le_refl _))]
    exact leO_mono h (by have := hb.1; omega)
/-- the class's search with its bound is that search -/
def Rl (p : Nat) (x : Option Nat × (Nat → Option Nat)) (s : SG) : Prop := x.1 = s.1 ∧ (s.1 ≠ none → ∀ j, j < p → x.2 j = s.2 j)
theorem or_tb {u o j : Nat} : (u ||| (1 <<< o)).testBit j = (u.testBit j || decide (j = o)) := by
  rw [Nat.testBit_or, Nat.one_shiftLeft, Nat.testBit_two_pow]
  by_cases h : j = o
  · simp [h]
  · simp [h, Ne.symm h]
theorem usd_up {f : Nat → Option Nat} {o j : Nat} : ∀ {i}, usd (va_up f i (some o)) j (i + 1) = (usd f j i || decide (j = o)) := by
  intro i
  cases h : usd (va_up f i (some o)) j (i + 1) with
  | true =>
    obtain ⟨e, he, hz⟩ := usd_iff.mp h
    by_cases e1 : e = i
    · subst e1; rw [vu_eq] at hz; cases hz; simp
    · rw [vu_ne e1] at hz; rw [usd_iff.mpr ⟨e, by omega, hz⟩]; rfl
  | false =>
    symm; rw [Bool.or_eq_false_iff]
    constructor
    · cases h2 : usd f j i with
      | false => rfl
      | true =>
        obtain ⟨e, he, hz⟩ := usd_iff.mp h2
        rw [usd_iff.mpr ⟨e, by omega, by rw [vu_ne (by omega)]; exact hz⟩] at h; cases h
    · rw [decide_eq_false_iff_not]; intro z; subst z
      rw [usd_iff.mpr ⟨i, by omega, vu_eq⟩] at h; cases h
theorem usd_nn {f : Nat → Option Nat} {j i : Nat} (h : f i = none) : usd f j (i + 1) = usd f j i := by
  show (usd f j i || decide (f i = some j)) = _
  rw [h]; simp
theorem pweN_S {pp : Nat → Nat} {PR : Nat → Nat → Nat → Nat → Nat} {tr f : Nat → Option Nat} {i o : Nat} : ∀ {e}, (∀ j, j < e → tr j = f j) → (∀ j a, j < e → f j = some a → pp ((j * 5 + i) * 25 + a * 5 + o) = PR j i a o) → pweN pp tr i o e = pwS PR f i o e
  | 0, _, _ => rfl
  | e + 1, h, hq => by
    have ih := pweN_S (pp := pp) (PR := PR) (tr := tr) (f := f) (i := i) (o := o) (e := e) (fun j hj => h j (by omega)) (fun j a hj => hq j a (by omega))
    show (match tr e with | none => _ | some g => _) = (match f e with | none => _ | some a => _)
    rw [h e (by omega), ih]
    split
    · rfl
    · next a ha => rw [hq e a (by omega) ha]
/-- the table of points tells what two of the pupil's ideas get -/
def ppB (aB : Nat → Nat → Bool) (PR : Nat → Nat → Nat → Nat → Nat) (q p : Nat) (pp : Nat → Nat) : Prop :=
  ∀ e l a b, e < l → l < p → a ≠ b → a < q → b < q → aB e a = true → aB l b = true → pp ((e * 5 + l) * 25 + a * 5 + b) = PR e l a b
theorem pwe_ok {aB : Nat → Nat → Bool} {PR : Nat → Nat → Nat → Nat → Nat} {q p : Nat} {pp : Nat → Nat} (hpp : ppB aB PR q p pp) {tr f : Nat → Option Nat} {i o : Nat} (hi : i < p) (hv : vld aB q f i) (ho : o < q) (ha : aB i o = true) (hu : usd f o i = false) (ht : ∀ j, j < i → tr j = f j) : pweN pp tr i o i = pwS PR f i o i :=
  pweN_S ht (fun j a hj hz => hpp j i a o hj hi (fun z => by subst z; exact usd_no hu hj hz) (hv.1 j a hz).2.1 ho (hv.1 j a hz).2.2 ha)
theorem ext_dfs {aB : Nat → Nat → Bool} {PR : Nat → Nat → Nat → Nat → Nat} {q p : Nat} {al pp hp : Nat → Nat} (hal : ∀ i o, i < p → o < q → aB i o = (al i).testBit o) (hpp : ppB aB PR q p pp) (hB : hpB aB PR q p hp) : ∀ (d i used pts : Nat) (s : ES) (f : Nat → Option Nat) (σ : SG), i + d = p → vld aB q f i → (∀ o, used.testBit o = usd f o i) → pts = scS PR f i → (∀ j, j < i → s.1 j = f j) → Rl p s.2 σ → Rl p (ext q al pp hp d i used pts s).2 (dfs aB PR q d i f σ) ∧ (∀ j, j < i → (ext q al pp hp d i used pts s).1 j = f j)
  | 0, i, used, pts, s, f, σ, hi, hv, hu, hs, ht, hr => by
    have h0 : hp i = 0 := by rw [show i = p by omega]; exact hB.1
    unfold ext dfs
    rw [h0, Nat.add_zero, hr.1, hs]
    split
    · exact ⟨hr, ht⟩
    · exact ⟨⟨rfl, fun _ j hj => ht j (by omega)⟩, ht⟩
  | d + 1, i, used, pts, s, f, σ, hi, hv, hu, hs, ht, hr => by
    unfold ext
    split
    · next hle =>
      rw [dfs_prune hB (d + 1) i f σ hi hv (by rw [← hs, ← hr.1]; exact hle)]
      exact ⟨hr, ht⟩
    · have hf : ∀ o, o ≤ q → Rl p (foldO (exStep (ext q al pp hp d (i + 1)) al pp i used pts) s o).2 (foldS (dfStep (dfs aB PR q d (i + 1)) aB i f) σ o) ∧ (∀ j, j < i → (foldO (exStep (ext q al pp hp d (i + 1)) al pp i used pts) s o).1 j = f j) := by
        intro o
        induction o with
        | zero => intro _; exact ⟨hr, ht⟩
        | succ o ih =>
          intro ho
          obtain ⟨ih1, ih2⟩ := ih (by omega)
          generalize hA : foldO (exStep (ext q al pp hp d (i + 1)) al pp i used pts) s o = A at ih1 ih2
          generalize hC : foldS (dfStep (dfs aB PR q d (i + 1)) aB i f) σ o = C at ih1
          show Rl p (exStep _ al pp i used pts o (foldO _ s o)).2 (dfStep _ aB i f o (foldS _ σ o)) ∧ (∀ j, j < i → (exStep _ al pp i used pts o (foldO _ s o)).1 j = f j)
          rw [hA, hC]
          unfold exStep dfStep
          rw [← hal i o (by omega) (by omega), hu o]
          split
          · next hc =>
            have hvs := vld_some hv (by omega) hc.1 hc.2
            have hpw : pweN pp (va_up A.1 i (some o)) i o i = pwS PR f i o i := pwe_ok hpp (by omega) hv (by omega) hc.1 hc.2 (fun j hj => by rw [vu_ne (by omega)]; exact ih2 j hj)
            rw [hpw]
            have h := ext_dfs hal hpp hB d (i + 1) (used ||| (1 <<< o)) (pts + pwS PR f i o i) (va_up A.1 i (some o), A.2) (va_up f i (some o)) C (by omega) hvs
              (fun j => by rw [or_tb, usd_up, hu j]) (by rw [scS_some, hs]) (fun j hj => by
                by_cases e1 : j = i
                · subst e1; rw [vu_eq]; exact vu_eq
                · rw [vu_ne e1]; show va_up _ i _ j = _; rw [vu_ne e1]; exact ih2 j (by omega)) ih1
            exact ⟨h.1, fun j hj => by rw [h.2 j (by omega), vu_ne (by omega)]⟩
          · exact ⟨ih1, ih2⟩
      obtain ⟨h1, h2⟩ := hf q (Nat.le_refl _)
      have hn := vld_nn hv (Nat.le_refl i)
      have h := ext_dfs hal hpp hB d (i + 1) used pts (va_up (foldO (exStep (ext q al pp hp d (i + 1)) al pp i used pts) s q).1 i none, (foldO (exStep (ext q al pp hp d (i + 1)) al pp i used pts) s q).2) f (foldS (dfStep (dfs aB PR q d (i + 1)) aB i f) σ q) (by omega) (vld_none hv) (fun o => by rw [usd_nn hn, hu o]) (by rw [scS_none hn, hs]) (fun j hj => by
        by_cases e1 : j = i
        · subst e1; rw [hn]; exact vu_eq
        · show va_up _ i _ j = _; rw [vu_ne e1]; exact h2 j (by omega)) h1
      exact ⟨h.1, fun j hj => h.2 j (by omega)⟩
/-- the most points, all tried -/
def mxO (o : Option Nat) (x : Nat) : Option Nat := match o with
  | none => some x
  | some b => some (max b x)
theorem mxO_mxO (o : Option Nat) (x y : Nat) : mxO (mxO o x) y = mxO o (max x y) := by
  cases o with
  | none => rfl
  | some b => show some (max (max b x) y) = some (max b (max x y)); rw [Nat.max_assoc]
theorem mxO_none (x : Nat) : mxO none x = some x := rfl
theorem moa_dfs {aB : Nat → Nat → Bool} {PR : Nat → Nat → Nat → Nat → Nat} {q p : Nat} {al pp : Nat → Nat} (hal : ∀ i o, i < p → o < q → aB i o = (al i).testBit o) (hpp : ppB aB PR q p pp) : ∀ (d i used pts : Nat) (t f : Nat → Option Nat) (σ : SG), i + d = p → vld aB q f i → (∀ o, used.testBit o = usd f o i) → pts = scS PR f i → (∀ j, j < i → t j = f j) → (dfs aB PR q d i f σ).1 = mxO σ.1 (moa q al pp d i used pts t).1 ∧ (∀ j, j < i → (moa q al pp d i used pts t).2 j = f j)
  | 0, i, used, pts, t, f, σ, hi, hv, hu, hs, ht => by
    refine ⟨?_, ht⟩
    show _ = mxO σ.1 pts
    unfold dfs; rw [hs]
    cases hσ : σ.1 with
    | none => rw [if_neg (by simp [leO])]; rfl
    | some b =>
      by_cases h : scS PR f i ≤ b
      · rw [if_pos (by simp [leO, h]), hσ]; show some b = some (max b _); rw [Nat.max_eq_left h]
      · rw [if_neg (by simp only [leO, decide_eq_true_eq]; exact h)]; show some _ = some (max b _); rw [Nat.max_eq_right (by omega)]
  | d + 1, i, used, pts, t, f, σ, hi, hv, hu, hs, ht => by
    have hn := vld_nn hv (Nat.le_refl i)
    have hnone := fun (σ2 : SG) => moa_dfs hal hpp d (i + 1) used pts (va_up t i none) f σ2 (by omega) (vld_none hv) (fun o => by rw [usd_nn hn, hu o]) (by rw [scS_none hn, hs]) (fun j hj => by
        by_cases e1 : j = i
        · subst e1; rw [hn]; exact vu_eq
        · rw [vu_ne e1]; exact ht j (by omega))
    have hf : ∀ o, o ≤ q → mxO σ.1 (foldM (moStep (moa q al pp d (i + 1)) al pp i used pts) (moa q al pp d (i + 1) used pts (va_up t i none)) o).1 = mxO (foldS (dfStep (dfs aB PR q d (i + 1)) aB i f) σ o).1 (moa q al pp d (i + 1) used pts (va_up t i none)).1 ∧ (∀ j, j < i → (foldM (moStep (moa q al pp d (i + 1)) al pp i used pts) (moa q al pp d (i + 1) used pts (va_up t i none)) o).2 j = f j) := by
      intro o
      induction o with
      | zero => intro _; exact ⟨rfl, fun j hj => (hnone σ).2 j (by omega)⟩
      | succ o ih =>
        intro ho
        obtain ⟨ih1, ih2⟩ := ih (by omega)
        generalize hA : foldM (moStep (moa q al pp d (i + 1)) al pp i used pts) (moa q al pp d (i + 1) used pts (va_up t i none)) o = A at ih1 ih2
        generalize hC : foldS (dfStep (dfs aB PR q d (i + 1)) aB i f) σ o = C at ih1
        show mxO σ.1 (moStep _ al pp i used pts o (foldM _ _ o)).1 = mxO (dfStep _ aB i f o (foldS _ σ o)).1 _ ∧ (∀ j, j < i → (moStep _ al pp i used pts o (foldM _ _ o)).2 j = f j)
        rw [hA, hC]
        unfold moStep dfStep
        rw [← hal i o (by omega) (by omega), hu o]
        split
        · next hc =>
          have hpw : pweN pp (va_up A.2 i (some o)) i o i = pwS PR f i o i := pwe_ok hpp (by omega) hv (by omega) hc.1 hc.2 (fun j hj => by rw [vu_ne (by omega)]; exact ih2 j hj)
          rw [hpw]
          have h := moa_dfs hal hpp d (i + 1) (used ||| (1 <<< o)) (pts + pwS PR f i o i) (va_up A.2 i (some o)) (va_up f i (some o)) C (by omega) (vld_some hv (by omega) hc.1 hc.2)
              (fun j => by rw [or_tb, usd_up, hu j]) (by rw [scS_some, hs]) (fun j hj => by
                by_cases e1 : j = i
                · subst e1; rw [vu_eq, vu_eq]
                · rw [vu_ne e1, vu_ne e1]; exact ih2 j (by omega))
          refine ⟨?_, fun j hj => by rw [show _ = _ from h.2 j (by omega), vu_ne (by omega)]⟩
          rw [h.1]
          show mxO σ.1 (max A.1 _) = _
          rw [← mxO_mxO, ih1, mxO_mxO, mxO_mxO, Nat.max_comm]
        · exact ⟨ih1, ih2⟩
    obtain ⟨h1, h2⟩ := hf q (Nat.le_refl _)
    refine ⟨?_, h2⟩
    show (dfs aB PR q d (i + 1) f (foldS (dfStep (dfs aB PR q d (i + 1)) aB i f) σ q)).1 = mxO σ.1 (foldM _ _ q).1
    rw [(hnone _).1]
    exact h1.symm
