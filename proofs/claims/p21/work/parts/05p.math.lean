/-! the reference's own functions, as it goes about them -/
def atF (m f t k : Nat) : Nat := 100 * m + 20 * f + 4 * t + k
def cntB (h : Nat → Bool) (b : Nat) : Nat → Nat
  | 0 => 0
  | i + 1 => cntB h b i + (if h (b + i) = true then 1 else 0)
theorem cntB_le (h : Nat → Bool) (b : Nat) : ∀ i, cntB h b i ≤ i
  | 0 => Nat.le_refl _
  | i + 1 => by have := cntB_le h b i; unfold cntB; split <;> omega
theorem cntB_yes {h : Nat → Bool} {b i : Nat} (e : h (b + i) = true) : cntB h b i + 1 = cntB h b (i + 1) := by
  show _ = cntB h b i + (if h (b + i) = true then 1 else 0); rw [if_pos e]
theorem cntB_no {h : Nat → Bool} {b i : Nat} (e : h (b + i) = false) : cntB h b i + 0 = cntB h b (i + 1) := by
  show _ = cntB h b i + (if h (b + i) = true then 1 else 0); rw [e]; rfl
/-- one place of the table of chains, for three ideas a, b, c of the map m -/
def ipS (ch : Nat → Option Nat) (m a b c p : Nat) (s : (Nat → Bool) × Bool) : (Nat → Bool) × Bool := match ch p with
  | none => s
  | some k => if s.1 (atF m a b (p / 4)) = true ∧ s.1 (atF m b c (p % 4)) = true ∧ s.1 (atF m a c k) = false then (va_up s.1 (atF m a c k) true, true) else s
def ipN (ch : Nat → Option Nat) (m a b c : Nat) (s : (Nat → Bool) × Bool) : Nat → (Nat → Bool) × Bool
  | 0 => s
  | p + 1 => ipS ch m a b c p (ipN ch m a b c s p)
theorem ipN_none {ch : Nat → Option Nat} {m a b c p : Nat} {s : (Nat → Bool) × Bool} (h : ch p = none) : ipN ch m a b c s (p + 1) = ipN ch m a b c s p := by
  show ipS ch m a b c p _ = _
  unfold ipS; rw [h]
theorem ipN_no {ch : Nat → Option Nat} {m a b c p k : Nat} {s : (Nat → Bool) × Bool} (h : ch p = some k) (hn : ¬ ((ipN ch m a b c s p).1 (atF m a b (p / 4)) = true ∧ (ipN ch m a b c s p).1 (atF m b c (p % 4)) = true ∧ (ipN ch m a b c s p).1 (atF m a c k) = false)) : ipN ch m a b c s (p + 1) = ipN ch m a b c s p := by
  show ipS ch m a b c p _ = _
  unfold ipS; rw [h]; simp only [if_neg hn]
theorem ipN_yes {ch : Nat → Option Nat} {m a b c p k : Nat} {s : (Nat → Bool) × Bool} (h : ch p = some k) (h1 : (ipN ch m a b c s p).1 (atF m a b (p / 4)) = true) (h2 : (ipN ch m a b c s p).1 (atF m b c (p % 4)) = true) (h3 : (ipN ch m a b c s p).1 (atF m a c k) = false) : ipN ch m a b c s (p + 1) = (va_up (ipN ch m a b c s p).1 (atF m a c k) true, true) := by
  show ipS ch m a b c p _ = _
  unfold ipS; rw [h]; simp only [if_pos (And.intro h1 (And.intro h2 h3))]
/-- a sweep over all three ideas -/
def ipT1 (ch : Nat → Option Nat) (m k : Nat) (s : (Nat → Bool) × Bool) : (Nat → Bool) × Bool :=
  if k / 25 ≠ k / 5 % 5 ∧ k / 5 % 5 ≠ k % 5 ∧ k % 5 ≠ k / 25 then
    ((ipN ch m (k / 25) (k / 5 % 5) (k % 5) (s.1, false) 16).1, s.2 || (ipN ch m (k / 25) (k / 5 % 5) (k % 5) (s.1, false) 16).2)
  else s
def ipT (ch : Nat → Option Nat) (m : Nat) (s : (Nat → Bool) × Bool) : Nat → (Nat → Bool) × Bool
  | 0 => s
  | k + 1 => ipT1 ch m k (ipT ch m s k)
theorem ipT_no {ch : Nat → Option Nat} {m k : Nat} {s : (Nat → Bool) × Bool} (h : ¬ (k / 25 ≠ k / 5 % 5 ∧ k / 5 % 5 ≠ k % 5 ∧ k % 5 ≠ k / 25)) : ipT ch m s (k + 1) = ipT ch m s k := by
  show ipT1 ch m k _ = _
  unfold ipT1; rw [if_neg h]
theorem ipT_yes {ch : Nat → Option Nat} {m k : Nat} {s : (Nat → Bool) × Bool} (h1 : k / 25 ≠ k / 5 % 5) (h2 : k / 5 % 5 ≠ k % 5) (h3 : k % 5 ≠ k / 25) : ipT ch m s (k + 1) = ((ipN ch m (k / 25) (k / 5 % 5) (k % 5) ((ipT ch m s k).1, false) 16).1, (ipT ch m s k).2 || (ipN ch m (k / 25) (k / 5 % 5) (k % 5) ((ipT ch m s k).1, false) 16).2) := by
  show ipT1 ch m k _ = _
  unfold ipT1; rw [if_pos ⟨h1, h2, h3⟩]
def cpB (ho hs : Nat → Bool) (b i : Nat) : Nat → Bool := fun j => if b ≤ j ∧ j < b + i then hs j else ho j
theorem cpB_0 (ho hs : Nat → Bool) (b : Nat) : cpB ho hs b 0 = ho := by
  funext j; simp only [cpB]; rw [if_neg (by omega)]
theorem cpB_put (ho hs : Nat → Bool) (b i : Nat) : va_up (cpB ho hs b i) (b + i) (hs (b + i)) = cpB ho hs b (i + 1) := by
  funext j; simp only [va_up, cpB]
  by_cases h1 : j = b + i
  · subst h1; rw [if_pos rfl, if_pos (by omega)]
  · rw [if_neg h1]
    by_cases h2 : b ≤ j ∧ j < b + i
    · rw [if_pos h2, if_pos (by omega)]
    · rw [if_neg h2, if_neg (by omega)]
def rdB (ch : Nat → Option Nat) (m : Nat) (h : Nat → Bool) : Nat → (Nat → Bool) × Bool
  | 0 => (h, true)
  | r + 1 => if (rdB ch m h r).2 = true then ipT ch m ((rdB ch m h r).1, false) 125 else rdB ch m h r
theorem rdB_go {ch : Nat → Option Nat} {m r : Nat} {h : Nat → Bool} (e : (rdB ch m h r).2 = true) : rdB ch m h (r + 1) = ipT ch m ((rdB ch m h r).1, false) 125 := by
  show (if (rdB ch m h r).2 = true then _ else _) = _
  rw [if_pos e]
theorem rdB_stop {ch : Nat → Option Nat} {m r : Nat} {h : Nat → Bool} (e : (rdB ch m h r).2 = false) : ∀ k, rdB ch m h (r + k) = rdB ch m h r
  | 0 => rfl
  | k + 1 => by
    have ih := rdB_stop e k
    have e2 : rdB ch m h (r + k + 1) = if (rdB ch m h (r + k)).2 = true then ipT ch m ((rdB ch m h (r + k)).1, false) 125 else rdB ch m h (r + k) := rfl
    rw [show r + (k + 1) = r + k + 1 from rfl, e2, ih, e]
    simp
/-- how many places of a row of yes and no say yes -/
theorem cntB_up {h : Nat → Bool} {j : Nat} (hj : h j = false) : ∀ n, j < n → cntB (va_up h j true) 0 n = cntB h 0 n + 1
  | 0, h0 => absurd h0 (Nat.not_lt_zero _)
  | n + 1, hn => by
    have same : ∀ n, n ≤ j → cntB (va_up h j true) 0 n = cntB h 0 n := by
      intro n
      induction n with
      | zero => intro _; rfl
      | succ n ih =>
        intro h9
        show cntB (va_up h j true) 0 n + (if va_up h j true (0 + n) = true then 1 else 0) = cntB h 0 n + (if h (0 + n) = true then 1 else 0)
        rw [ih (by omega), show va_up h j true (0 + n) = h (0 + n) from by simp only [va_up]; rw [if_neg (by omega)]]
    show cntB (va_up h j true) 0 n + (if va_up h j true (0 + n) = true then 1 else 0) = cntB h 0 n + (if h (0 + n) = true then 1 else 0) + 1
    by_cases e : j = n
    · subst e
      rw [same j (Nat.le_refl _), show va_up h j true (0 + j) = true from by simp only [va_up]; rw [if_pos (by omega)], show h (0 + j) = false from by rw [Nat.zero_add]; exact hj]
      simp
    · rw [cntB_up hj n (by omega), show va_up h j true (0 + n) = h (0 + n) from by simp only [va_up]; rw [if_neg (by omega)]]
      omega
/-- a step never takes away, and what is new is counted -/
def grB (s s' : (Nat → Bool) × Bool) : Prop := cntB s.1 0 400 ≤ cntB s'.1 0 400 ∧ (s.2 = true → s'.2 = true) ∧ (s.2 = false → s'.2 = true → cntB s.1 0 400 + 1 ≤ cntB s'.1 0 400)
theorem grB_rf (s : (Nat → Bool) × Bool) : grB s s := ⟨Nat.le_refl _, fun h => h, fun h h2 => by rw [h] at h2; cases h2⟩
theorem grB_tr {a b c : (Nat → Bool) × Bool} (h1 : grB a b) (h2 : grB b c) : grB a c := by
  refine ⟨Nat.le_trans h1.1 h2.1, fun h => h2.2.1 (h1.2.1 h), fun h h3 => ?_⟩
  cases hb : b.2 with
  | false => have := h2.2.2 hb h3; have := h1.1; omega
  | true => have := h1.2.2 h hb; have := h2.1; omega
theorem ipS_gr {ch : Nat → Option Nat} (hc : chOk ch) {m a b c p : Nat} (hm : m < 4) (ha : a < 5) (hcc : c < 5) (s : (Nat → Bool) × Bool) : grB s (ipS ch m a b c p s) := by
  unfold ipS; split
  · exact grB_rf s
  · next k hk =>
    split
    · next h =>
      have h4 := hc p k hk
      have hlt : atF m a c k < 400 := by unfold atF; omega
      have e := cntB_up h.2.2 400 hlt
      exact ⟨by show _ ≤ cntB (va_up s.1 (atF m a c k) true) 0 400; omega, fun _ => rfl, fun _ _ => by show _ ≤ cntB (va_up s.1 (atF m a c k) true) 0 400; omega⟩
    · exact grB_rf s
theorem ipN_gr {ch : Nat → Option Nat} (hc : chOk ch) {m a b c : Nat} (hm : m < 4) (ha : a < 5) (hcc : c < 5) (s : (Nat → Bool) × Bool) : ∀ p, grB s (ipN ch m a b c s p)
  | 0 => grB_rf s
  | p + 1 => grB_tr (ipN_gr hc hm ha hcc s p) (ipS_gr hc hm ha hcc _)
theorem ipT_gr {ch : Nat → Option Nat} (hc : chOk ch) {m : Nat} (hm : m < 4) (s : (Nat → Bool) × Bool) : ∀ k, k ≤ 125 → grB s (ipT ch m s k)
  | 0, _ => grB_rf s
  | k + 1, hk => by
    refine grB_tr (ipT_gr hc hm s k (by omega)) ?_
    show grB _ (ipT1 ch m k _)
    unfold ipT1; split
    · have h := ipN_gr hc (b := k / 5 % 5) hm (show k / 25 < 5 by omega) (show k % 5 < 5 by omega) ((ipT ch m s k).1, false) 16
      refine ⟨h.1, fun e => ?_, fun e e2 => ?_⟩
      · show ((ipT ch m s k).2 || _) = true; rw [e]; rfl
      · have e3 : ((ipT ch m s k).2 || (ipN ch m (k / 25) (k / 5 % 5) (k % 5) ((ipT ch m s k).1, false) 16).2) = true := e2
        rw [e, Bool.false_or] at e3
        exact h.2.2 rfl e3
    · exact grB_rf _
theorem rdB_cnt {ch : Nat → Option Nat} (hc : chOk ch) {m : Nat} (hm : m < 4) {h : Nat → Bool} : ∀ r, (rdB ch m h r).2 = true → r ≤ cntB (rdB ch m h r).1 0 400
  | 0, _ => Nat.zero_le _
  | r + 1, e => by
    cases hr : (rdB ch m h r).2 with
    | false => have e2 := rdB_stop hr 1; rw [e2] at e; rw [hr] at e; cases e
    | true =>
      have ih := rdB_cnt hc hm r hr
      rw [rdB_go hr] at e ⊢
      have h3 := (ipT_gr hc hm ((rdB ch m h r).1, false) 125 (Nat.le_refl _)).2.2 rfl e
      have h4 : cntB (rdB ch m h r).1 0 400 + 1 ≤ cntB (ipT ch m ((rdB ch m h r).1, false) 125).1 0 400 := h3
      omega
theorem rdB_lt {ch : Nat → Option Nat} (hc : chOk ch) {m r : Nat} (hm : m < 4) {h : Nat → Bool} (e : (rdB ch m h r).2 = true) : r < 401 := by
  have h1 := rdB_cnt hc hm r e
  have h2 := cntB_le (rdB ch m h r).1 0 400
  omega
/-- what the map holds, by the reference -/
def clB (ch : Nat → Option Nat) (m : Nat) (ho hs : Nat → Bool) : Nat → Bool := (rdB ch m (cpB ho hs (100 * m) 100) 401).1
theorem clB_end {ch : Nat → Option Nat} {m r : Nat} {ho hs : Nat → Bool} (hr : r ≤ 401) (e : (rdB ch m (cpB ho hs (100 * m) 100) r).2 = false) : (rdB ch m (cpB ho hs (100 * m) 100) r).1 = clB ch m ho hs := by
  have h1 := rdB_stop e (401 - r)
  rw [show r + (401 - r) = 401 by omega] at h1
  show _ = (rdB ch m (cpB ho hs (100 * m) 100) 401).1
  rw [h1]
