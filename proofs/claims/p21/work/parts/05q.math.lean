/-! the reference's verdicts and points -/
def isOt (hs : Nat → Bool) (a b : Nat) : Nat → Bool
  | 0 => false
  | k + 1 => isOt hs a b k || hs (atF 0 a b k)
def vdF (hs ho : Nat → Bool) (bk : Nat → Option Nat) (f t k : Nat) : Nat := match bk f with
  | none => 0
  | some a => match bk t with
    | none => 0
    | some b => if ho (atF 0 a b k) = true then 3 else if isOt hs a b 4 = true then 2 else if hs (atF 0 b a k) = true then 1 else 0
theorem vdF_n1 {hs ho : Nat → Bool} {bk : Nat → Option Nat} {f t k : Nat} (h : bk f = none) : vdF hs ho bk f t k = 0 := by unfold vdF; rw [h]
theorem vdF_n2 {hs ho : Nat → Bool} {bk : Nat → Option Nat} {f t k : Nat} (h : bk t = none) : vdF hs ho bk f t k = 0 := by
  unfold vdF; cases bk f with
  | none => rfl
  | some a => rw [h]
theorem vdF_s {hs ho : Nat → Bool} {bk : Nat → Option Nat} {f t k a b : Nat} (h1 : bk f = some a) (h2 : bk t = some b) : vdF hs ho bk f t k = if ho (atF 0 a b k) = true then 3 else if isOt hs a b 4 = true then 2 else if hs (atF 0 b a k) = true then 1 else 0 := by unfold vdF; rw [h1, h2]
theorem vdF_le {hs ho : Nat → Bool} {bk : Nat → Option Nat} {f t k : Nat} : vdF hs ho bk f t k ≤ 3 := by
  unfold vdF; split
  · omega
  · split
    · omega
    · split
      · omega
      · split
        · omega
        · split <;> omega
/-- the way back of a matching: which of the pupil's first k ideas is given an idea of the model -/
def tnF (mt : Nat → Option Nat) (q : Nat) : Nat → Nat → Option Nat
  | 0 => fun _ => none
  | k + 1 => match mt k with
    | none => tnF mt q k
    | some c => if c < q then va_up (tnF mt q k) c (some k) else tnF mt q k
theorem tnF_lt {mt : Nat → Option Nat} {q k c : Nat} (h : mt k = some c) (h2 : c < q) : tnF mt q (k + 1) = va_up (tnF mt q k) c (some k) := by
  show (match mt k with | none => _ | some c => if c < q then _ else _) = _
  rw [h]; simp only [if_pos h2]
theorem tnF_ge {mt : Nat → Option Nat} {q k c : Nat} (h : mt k = some c) (h2 : q ≤ c) : tnF mt q (k + 1) = tnF mt q k := by
  show (match mt k with | none => _ | some c => if c < q then _ else _) = _
  rw [h]; simp only [if_neg (Nat.not_lt.mpr h2)]
theorem tnF_ok {mt : Nat → Option Nat} {q : Nat} : ∀ k, k ≤ 5 → trOk (tnF mt q k)
  | 0, _ => fun _ _ h => by cases h
  | k + 1, hk => by
    have ih := tnF_ok (mt := mt) (q := q) k (by omega)
    show trOk (match mt k with | none => tnF mt q k | some c => if c < q then va_up (tnF mt q k) c (some k) else tnF mt q k)
    split
    · exact ih
    · split
      · exact trOk_up ih (by omega)
      · exact ih
def bkC (bk : Nat → Option Nat) (i : Nat) : Nat → Option Nat := fun j => if j < i then none else bk j
theorem bkC_0 (bk : Nat → Option Nat) : bkC bk 0 = bk := by funext j; simp [bkC]
theorem bkC_put (bk : Nat → Option Nat) (i : Nat) : va_up (bkC bk i) i none = bkC bk (i + 1) := by
  funext j
  by_cases h1 : j = i
  · subst h1; simp [va_up, bkC]
  · by_cases h2 : j < i
    · simp [va_up, bkC, h1, h2, show j < i + 1 by omega]
    · simp [va_up, bkC, h1, h2, show ¬ j < i + 1 by omega]
/-- may an idea be given what it is? -/
def myN (gr wd : Nat → Nat) (mt : Nat → Option Nat) (q m k c : Nat) : Nat → Bool
  | 0 => decide (c = q) || decide (gr (wd k) = gr (wd (5 * m + c)))
  | o + 1 => myN gr wd mt q m k c o && (decide (c = q) || decide (mt o ≠ some c))
def ptW (v : Nat) : Nat := if v = 3 then 4 else v
def ptF (hs ho : Nat → Bool) (bk : Nat → Option Nat) (m : Nat) : Nat → Nat
  | 0 => 0
  | k + 1 => ptF hs ho bk m k + (if hs (100 * m + k) = true then ptW (vdF hs ho bk (k / 20) (k / 4 % 5) (k % 4)) else 0)
theorem ptF_no {hs ho : Nat → Bool} {bk : Nat → Option Nat} {m k : Nat} (h : hs (100 * m + k) = false) : ptF hs ho bk m k = ptF hs ho bk m (k + 1) := by
  show _ = ptF hs ho bk m k + (if hs (100 * m + k) = true then _ else 0); rw [h]; rfl
theorem ptF_3 {hs ho : Nat → Bool} {bk : Nat → Option Nat} {m k : Nat} (h : hs (100 * m + k) = true) (h3 : vdF hs ho bk (k / 20) (k / 4 % 5) (k % 4) = 3) : ptF hs ho bk m k + 4 = ptF hs ho bk m (k + 1) := by
  show _ = ptF hs ho bk m k + (if hs (100 * m + k) = true then _ else 0); rw [if_pos h, ptW, if_pos h3]
theorem ptF_v {hs ho : Nat → Bool} {bk : Nat → Option Nat} {m k : Nat} (h : hs (100 * m + k) = true) (h3 : vdF hs ho bk (k / 20) (k / 4 % 5) (k % 4) ≠ 3) : ptF hs ho bk m k + vdF hs ho bk (k / 20) (k / 4 % 5) (k % 4) = ptF hs ho bk m (k + 1) := by
  show _ = ptF hs ho bk m k + (if hs (100 * m + k) = true then _ else 0); rw [if_pos h, ptW, if_neg h3]
theorem ptF_le {hs ho : Nat → Bool} {bk : Nat → Option Nat} {m : Nat} : ∀ k, ptF hs ho bk m k ≤ 4 * k
  | 0 => Nat.le_refl _
  | k + 1 => by
    have ih := ptF_le (hs := hs) (ho := ho) (bk := bk) (m := m) k
    have h := vdF_le (hs := hs) (ho := ho) (bk := bk) (f := k / 20) (t := k / 4 % 5) (k := k % 4)
    show ptF hs ho bk m k + (if hs (100 * m + k) = true then ptW _ else 0) ≤ _
    unfold ptW; split
    · split <;> omega
    · omega
theorem n1_b {X : Bool} (h : X = true) : nI 1 = b2i X := by rw [h]; rfl
theorem n0_b {X : Bool} (h : X = false) : nI 0 = b2i X := by rw [h]; rfl
theorem my_0a {gr wd : Nat → Nat} {mt : Nat → Option Nat} {q m k c : Nat} (h : c = q) : myN gr wd mt q m k c 0 = true := by simp [myN, h]
theorem my_0b {gr wd : Nat → Nat} {mt : Nat → Option Nat} {q m k c : Nat} (h : gr (wd k) = gr (wd (5 * m + c))) : myN gr wd mt q m k c 0 = true := by simp [myN, h]
theorem my_0f {gr wd : Nat → Nat} {mt : Nat → Option Nat} {q m k c : Nat} (h1 : c ≠ q) (h : gr (wd k) ≠ gr (wd (5 * m + c))) : myN gr wd mt q m k c 0 = false := by simp [myN, h1, h]
theorem my_sf {gr wd : Nat → Nat} {mt : Nat → Option Nat} {q m k c o : Nat} (h : myN gr wd mt q m k c o = false) : myN gr wd mt q m k c (o + 1) = false := by
  show (myN gr wd mt q m k c o && _) = false; rw [h]; rfl
theorem my_sa {gr wd : Nat → Nat} {mt : Nat → Option Nat} {q m k c o : Nat} (h : myN gr wd mt q m k c o = true) (h1 : c = q) : myN gr wd mt q m k c (o + 1) = true := by
  show (myN gr wd mt q m k c o && (decide (c = q) || decide (mt o ≠ some c))) = true; rw [h]; simp [h1]
theorem my_sb {gr wd : Nat → Nat} {mt : Nat → Option Nat} {q m k c o c8 : Nat} (h : myN gr wd mt q m k c o = true) (h8 : mt o = some c8) (h1 : c8 ≠ c) : myN gr wd mt q m k c (o + 1) = true := by
  show (myN gr wd mt q m k c o && (decide (c = q) || decide (mt o ≠ some c))) = true; rw [h, h8]; simp [h1]
theorem my_sc {gr wd : Nat → Nat} {mt : Nat → Option Nat} {q m k c o c8 : Nat} (h2 : c ≠ q) (h8 : mt o = some c8) (h1 : c8 = c) : myN gr wd mt q m k c (o + 1) = false := by
  show (myN gr wd mt q m k c o && (decide (c = q) || decide (mt o ≠ some c))) = false; rw [h8]; simp [h1, h2]
