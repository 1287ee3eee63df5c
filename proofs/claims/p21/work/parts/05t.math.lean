def lackN (bs : Nat → Option Nat) (p : Nat) : Nat → Nat
  | 0 => 0
  | i + 1 => lackN bs p i + (if pidF bs i p p = none then 1 else 0)
theorem lackN_yes {bs : Nat → Option Nat} {p i : Nat} (h : pidF bs i p p = none) : lackN bs p i + 1 = lackN bs p (i + 1) := by
  show _ = lackN bs p i + (if pidF bs i p p = none then 1 else 0); rw [if_pos h]
theorem lackN_no {bs : Nat → Option Nat} {p i : Nat} (h : ¬ pidF bs i p p = none) : lackN bs p i = lackN bs p (i + 1) := by
  show _ = lackN bs p i + (if pidF bs i p p = none then 1 else 0); rw [if_neg h]; rfl
theorem pidF_lt {bs : Nat → Option Nat} {o p : Nat} : ∀ k j, k ≤ p → pidF bs o p k = some j → j < p
  | 0, j, _, h => by cases h
  | k + 1, j, hk, h => by
    have h : (if bs (p - (k + 1)) = some o then some (p - (k + 1)) else pidF bs o p k) = some j := h
    split at h
    · cases h; omega
    · exact pidF_lt k j (by omega) h
/-- the worth of points as a verdict -/
def vwF (v : Nat) : Nat := if v = 4 then 3 else if v = 2 then 2 else if v = 1 then 1 else 0
def mbF (q : Nat) (al pp : Nat → Nat) (p : Nat) (tr : Nat → Option Nat) : Nat × (Nat → Option Nat) := moa q al pp p 0 0 0 tr
def vdC (bs : Nat → Option Nat) (p : Nat) (hd pm : Nat → Nat) (f t k : Nat) : Nat := match pidF bs f p p with
  | none => 0
  | some a => match pidF bs t p p with
    | none => 0
    | some b => vwF (pf (1 <<< k) (hd (a * 5 + b)) (pm (a * 5 + b)) (pm (b * 5 + a)))
theorem vdC_n1 {bs : Nat → Option Nat} {p : Nat} {hd pm : Nat → Nat} {f t k : Nat} (h : pidF bs f p p = none) : vdC bs p hd pm f t k = 0 := by unfold vdC; rw [h]
theorem vdC_n2 {bs : Nat → Option Nat} {p : Nat} {hd pm : Nat → Nat} {f t k : Nat} (h : pidF bs t p p = none) : vdC bs p hd pm f t k = 0 := by
  unfold vdC; cases pidF bs f p p with
  | none => rfl
  | some a => simp only [h]
theorem vdC_s {bs : Nat → Option Nat} {p : Nat} {hd pm : Nat → Nat} {f t k a b : Nat} (h1 : pidF bs f p p = some a) (h2 : pidF bs t p p = some b) : vdC bs p hd pm f t k = vwF (pf (1 <<< k) (hd (a * 5 + b)) (pm (a * 5 + b)) (pm (b * 5 + a))) := by unfold vdC; rw [h1]; simp only [h2]
/-- one wanted kind: 4, 2, 1 or 0 points -/
theorem pf_one : ∀ k, k < 4 → ∀ h, h < 16 → ∀ d, d < 16 → ∀ b, b < 16 → pf (1 <<< k) h d b = 0 ∨ pf (1 <<< k) h d b = 1 ∨ pf (1 <<< k) h d b = 2 ∨ pf (1 <<< k) h d b = 4 := by decide +kernel
