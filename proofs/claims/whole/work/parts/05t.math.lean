def lackN (bs : Nat → Option Nat) (p : Nat) : Nat → Nat
  | 0 => 0
  | i + 1 => lackN bs p i + (if pidF bs i p p = none then 1 else 0)
theorem lackN_yes {bs : Nat → Option Nat} {p i : Nat} (h : pidF bs i p p = none) : lackN bs p i + 1 = lackN bs p (i + 1) := by
  show _ = lackN bs p i + (if pidF bs i p p = none then 1 else 0); rw [if_pos h]
theorem lackN_no {bs : Nat → Option Nat} {p i : Nat} (h : ¬ pidF bs i p p = none) : lackN bs p i = lackN bs p (i + 1) := by
  show _ = lackN bs p i + (if pidF bs i p p = none then 1 else 0); rw [if_neg h]; rfl
theorem pidF_lt {bs : Nat → Option Nat} {o p : Nat} : ∀ k j, k ≤ p → pidF bs o p k = some j → j < p
  | 0, j, _, h => by cases h
  | k + 1, j, hk, h => by
    have h : (if bs (p - (k + 1)) = some o then some (p - (k + 1)) else pidF bs o p k) = some j := h
    split at h
    · cases h; omega
    · exact pidF_lt k j (by omega) h
/-- the worth of points as a verdict -/
def vwF (v : Nat) : Nat := if v = 4 then 3 else if v = 2 then 2 else if v = 1 then 1 else 0
def mbF (q : Nat) (al pp : Nat → Nat) (p : Nat) (tr : Nat → Option Nat) : Nat × (Nat → Option Nat) := moa q al pp p 0 0 0 tr
