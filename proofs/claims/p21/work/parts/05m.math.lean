/-! what the class works out, in plain words of numbers -/
def pc4 (a : Nat) : Nat := a % 2 + a / 2 % 2 + a / 4 % 2 + a / 8 % 2
/-- what one place of the table of chains adds -/
def imp1 (ch : Nat → Option Nat) (fk sk acc p : Nat) : Nat := match ch p with
  | none => acc
  | some k => if (fk >>> (p / 4)) &&& (sk >>> (p % 4)) &&& 1 = 0 then acc else acc ||| (1 <<< k)
def impN (ch : Nat → Option Nat) (fk sk : Nat) : Nat → Nat
  | 0 => 0
  | p + 1 => imp1 ch fk sk (impN ch fk sk p) p
theorem impN_no {ch : Nat → Option Nat} {fk sk p : Nat} (h : (fk >>> (p / 4)) &&& (sk >>> (p % 4)) &&& 1 = 0) : impN ch fk sk (p + 1) = impN ch fk sk p := by
  show imp1 ch fk sk _ p = _
  unfold imp1; split
  · rfl
  · rw [if_pos h]
theorem impN_none {ch : Nat → Option Nat} {fk sk p : Nat} (h : ch p = none) : impN ch fk sk (p + 1) = impN ch fk sk p := by
  show imp1 ch fk sk _ p = _
  unfold imp1; rw [h]
theorem impN_yes {ch : Nat → Option Nat} {fk sk p k : Nat} (hk : ch p = some k) (h : (fk >>> (p / 4)) &&& (sk >>> (p % 4)) &&& 1 ≠ 0) : impN ch fk sk (p + 1) = impN ch fk sk p ||| (1 <<< k) := by
  show imp1 ch fk sk _ p = _
  unfold imp1; rw [hk]; simp only [if_neg h]
def imp (ch : Nat → Option Nat) (fk sk : Nat) : Nat := if fk = 0 ∨ sk = 0 then 0 else impN ch fk sk 16
def chOk (ch : Nat → Option Nat) : Prop := ∀ p k, ch p = some k → k < 4
theorem shl1_lt {k : Nat} (h : k < 4) : 1 <<< k < 16 := by
  match k, h with
  | 0, _ => decide
  | 1, _ => decide
  | 2, _ => decide
  | 3, _ => decide
theorem or16 {a b : Nat} (ha : a < 16) (hb : b < 16) : a ||| b < 16 := Nat.or_lt_two_pow (n := 4) ha hb
theorem impN_lt {ch : Nat → Option Nat} (h : chOk ch) (fk sk : Nat) : ∀ p, impN ch fk sk p < 16
  | 0 => show 0 < 16 by decide
  | p + 1 => by
    have ih := impN_lt h fk sk p
    unfold impN imp1
    split
    · exact ih
    · next k hk => split
                   · exact ih
                   · exact or16 ih (shl1_lt (h p k hk))
theorem imp_lt {ch : Nat → Option Nat} (h : chOk ch) (fk sk : Nat) : imp ch fk sk < 16 := by
  unfold imp; split
  · decide
  · exact impN_lt h fk sk 16
def mOk (m : Nat → Nat) : Prop := ∀ j, m j < 16
theorem mOk_up {m : Nat → Nat} (h : mOk m) {k v : Nat} (hv : v < 16) : mOk (va_up m k v) := by
  intro j; simp only [va_up]; split
  · exact hv
  · exact h j
/-- one step of a sweep: what a to b by v implies is added -/
def sw1 (ch : Nat → Option Nat) (v f t : Nat) (s : (Nat → Nat) × Bool) : (Nat → Nat) × Bool :=
  if f ≠ v ∧ t ≠ v ∧ f ≠ t then
    (va_up s.1 (f * 5 + t) (s.1 (f * 5 + t) ||| imp ch (s.1 (f * 5 + v)) (s.1 (v * 5 + t))), s.2 || decide (s.1 (f * 5 + t) ||| imp ch (s.1 (f * 5 + v)) (s.1 (v * 5 + t)) ≠ s.1 (f * 5 + t)))
  else s
def swT (ch : Nat → Option Nat) (v f : Nat) (s : (Nat → Nat) × Bool) : Nat → (Nat → Nat) × Bool
  | 0 => s
  | t + 1 => sw1 ch v f t (swT ch v f s t)
def swF (ch : Nat → Option Nat) (v : Nat) (s : (Nat → Nat) × Bool) : Nat → (Nat → Nat) × Bool
  | 0 => s
  | f + 1 => swT ch v f (swF ch v s f) 5
def swV (ch : Nat → Option Nat) (s : (Nat → Nat) × Bool) : Nat → (Nat → Nat) × Bool
  | 0 => s
  | v + 1 => swF ch v (swV ch s v) 5
theorem sw1_ok {ch : Nat → Option Nat} (hc : chOk ch) {v f t : Nat} {s : (Nat → Nat) × Bool} (h : mOk s.1) : mOk (sw1 ch v f t s).1 := by
  unfold sw1; split
  · exact mOk_up h (or16 (h _) (imp_lt hc _ _))
  · exact h
theorem swT_ok {ch : Nat → Option Nat} (hc : chOk ch) {v f : Nat} {s : (Nat → Nat) × Bool} (h : mOk s.1) : ∀ t, mOk (swT ch v f s t).1
  | 0 => h
  | t + 1 => sw1_ok hc (swT_ok hc h t)
theorem swF_ok {ch : Nat → Option Nat} (hc : chOk ch) {v : Nat} {s : (Nat → Nat) × Bool} (h : mOk s.1) : ∀ t, mOk (swF ch v s t).1
  | 0 => h
  | t + 1 => swT_ok hc (swF_ok hc h t) 5
theorem swV_ok {ch : Nat → Option Nat} (hc : chOk ch) {s : (Nat → Nat) × Bool} (h : mOk s.1) : ∀ t, mOk (swV ch s t).1
  | 0 => h
  | t + 1 => swF_ok hc (swV_ok hc h t) 5
/-- the rounds: each is a sweep, as long as the last one added something -/
def rnd (ch : Nat → Option Nat) (m : Nat → Nat) : Nat → (Nat → Nat) × Bool
  | 0 => (m, true)
  | r + 1 => if (rnd ch m r).2 = true then swV ch ((rnd ch m r).1, false) 5 else rnd ch m r
theorem rnd_ok {ch : Nat → Option Nat} (hc : chOk ch) {m : Nat → Nat} (h : mOk m) : ∀ r, mOk (rnd ch m r).1
  | 0 => h
  | r + 1 => by
    unfold rnd; split
    · exact swV_ok hc (s := ((rnd ch m r).1, false)) (rnd_ok hc h r) 5
    · exact rnd_ok hc h r
theorem rnd_stop {ch : Nat → Option Nat} {m : Nat → Nat} {r : Nat} (h : (rnd ch m r).2 = false) : ∀ k, rnd ch m (r + k) = rnd ch m r
  | 0 => rfl
  | k + 1 => by
    have ih := rnd_stop h k
    have e : rnd ch m (r + k + 1) = if (rnd ch m (r + k)).2 = true then swV ch ((rnd ch m (r + k)).1, false) 5 else rnd ch m (r + k) := rfl
    rw [show r + (k + 1) = r + k + 1 from rfl, e, ih, h]
    simp
/-- all that is held -/
def clo (ch : Nat → Option Nat) (m : Nat → Nat) : Nat → Nat := (rnd ch m 101).1
theorem clo_stop {ch : Nat → Option Nat} {m : Nat → Nat} {r : Nat} (hr : r ≤ 101) (h : (rnd ch m r).2 = false) : (rnd ch m r).1 = clo ch m := by
  have h1 := rnd_stop h (101 - r)
  rw [show r + (101 - r) = 101 by omega] at h1
  show _ = (rnd ch m 101).1
  rw [h1]
theorem clo_last {ch : Nat → Option Nat} {m : Nat → Nat} {r : Nat} (hr : r ≤ 101) (h : 100 < r) : (rnd ch m r).1 = clo ch m := by
  have e : r = 101 := by omega
  subst e; rfl
theorem rnd_go {ch : Nat → Option Nat} {m : Nat → Nat} {r : Nat} (h : (rnd ch m r).2 = true) : rnd ch m (r + 1) = swV ch ((rnd ch m r).1, false) 5 := by
  show (if (rnd ch m r).2 = true then _ else _) = _
  rw [if_pos h]
theorem clo_ok {ch : Nat → Option Nat} (hc : chOk ch) {m : Nat → Nat} (h : mOk m) : mOk (clo ch m) := rnd_ok hc h 101
def cntN (m : Nat → Nat) : Nat → Nat
  | 0 => 0
  | j + 1 => cntN m j + pc4 (m j)
theorem pc4_le (a : Nat) : pc4 a ≤ 4 := by unfold pc4; omega
theorem cntN_le (m : Nat → Nat) : ∀ j, cntN m j ≤ 4 * j
  | 0 => Nat.le_refl _
  | j + 1 => by have := cntN_le m j; have := pc4_le (m j); unfold cntN; omega
theorem tb_ne {a k : Nat} (h : (a >>> k) &&& 1 ≠ 0) : a.testBit k = true := by
  simp only [Nat.testBit, bne_iff_ne]
  rw [Nat.and_comm] at h
  exact h
theorem tb_eq {a k : Nat} (h : (a >>> k) &&& 1 = 0) : a.testBit k = false := by
  simp only [Nat.testBit, bne_eq_false_iff_eq]
  rw [Nat.and_comm] at h
  exact h
theorem andn_ne : ∀ a, a < 16 → ∀ b, b < 16 → ((nI a &&& (nI b ^^^ (-1))) = 0 ↔ b ||| a = b) := by decide +kernel
def grOk (m : Nat → Nat) : Prop := ∀ j, m j < 32
theorem andn_or : ∀ a, a < 16 → ∀ b, b < 16 → ((a &&& (15 ^^^ b)) ≠ 0 ↔ b ||| a ≠ b) := by decide +kernel
theorem and_lt {a b : Nat} (h : b < 2 ^ 31) : a &&& b < 2 ^ 31 := Nat.lt_of_le_of_lt Nat.and_le_right h
theorem and1_lt {a : Nat} : a &&& 1 < 2 ^ 31 := Nat.lt_of_le_of_lt Nat.and_le_right (by decide)
theorem and16 {a b : Nat} (h : a < 16) : a &&& b < 16 := Nat.lt_of_le_of_lt Nat.and_le_left h
theorem xor16 {a b : Nat} (ha : a < 16) (hb : b < 16) : a ^^^ b < 16 := Nat.xor_lt_two_pow (n := 4) ha hb
theorem shl_b {k : Nat} (h : k < 4) : 1 * 2 ^ k < 2 ^ 32 := by
  match k, h with
  | 0, _ => decide
  | 1, _ => decide
  | 2, _ => decide
  | 3, _ => decide
theorem shl_b5 {k : Nat} (h : k < 5) : 1 * 2 ^ k < 2 ^ 32 := by
  match k, h with
  | 0, _ => decide
  | 1, _ => decide
  | 2, _ => decide
  | 3, _ => decide
  | 4, _ => decide
/-- the points for wanted kinds: held, had, had the other way round -/
def pf (w h d b : Nat) : Nat := 4 * pc4 (w &&& h) + (if d = 0 then 1 * pc4 ((w &&& (15 ^^^ h)) &&& b) else 2 * pc4 (w &&& (15 ^^^ h)))
/-- joining two groups -/
def jn (gr : Nat → Nat) (kept left : Nat) (i : Nat) : Nat → Nat := fun j => if j < i then (if gr j = left then kept else gr j) else gr j
theorem jn_0 (gr : Nat → Nat) (kept left : Nat) : jn gr kept left 0 = gr := by funext j; simp [jn]
theorem jn_put {gr : Nat → Nat} {kept left i : Nat} (h : jn gr kept left i i = left) : va_up (jn gr kept left i) i kept = jn gr kept left (i + 1) := by
  have h0 : gr i = left := by simpa [jn] using h
  funext j
  by_cases h1 : j = i
  · subst h1; simp [va_up, jn, h0]
  · by_cases h2 : j < i
    · simp [va_up, jn, h1, h2, show j < i + 1 by omega]
    · simp [va_up, jn, h1, h2, show ¬ j < i + 1 by omega]
theorem jn_keep {gr : Nat → Nat} {kept left i : Nat} (h : jn gr kept left i i ≠ left) : jn gr kept left i = jn gr kept left (i + 1) := by
  have h0 : gr i ≠ left := by simpa [jn] using h
  funext j
  by_cases h1 : j = i
  · subst h1; simp [jn, h0]
  · by_cases h2 : j < i
    · simp [jn, h2, show j < i + 1 by omega]
    · simp [jn, h2, show ¬ j < i + 1 by omega]
theorem jn_ok {gr : Nat → Nat} {kept left i : Nat} (h : grOk gr) (hk : kept < 32) : grOk (jn gr kept left i) := by
  intro j; simp only [jn]; split
  · split
    · exact hk
    · exact h j
  · exact h j
