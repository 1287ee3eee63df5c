/-! what is held: the least set of links that is closed under the chains -/
def clsd (ch : Nat → Option Nat) (T : Nat → Nat → Nat → Prop) : Prop := ∀ a b c p k, a < 5 → b < 5 → c < 5 → a ≠ b → b ≠ c → c ≠ a → p < 16 → ch p = some k → T a b (p / 4) → T b c (p % 4) → T a c k
def sM (m : Nat → Nat) (a b k : Nat) : Prop := (m (a * 5 + b)).testBit k = true
def sbs (S T : Nat → Nat → Nat → Prop) : Prop := ∀ a b k, a < 5 → b < 5 → k < 4 → S a b k → T a b k
theorem sbs_rf (S : Nat → Nat → Nat → Prop) : sbs S S := fun _ _ _ _ _ _ h => h
theorem sbs_tr {S T U : Nat → Nat → Nat → Prop} (h1 : sbs S T) (h2 : sbs T U) : sbs S U := fun a b k ha hb hk h => h2 a b k ha hb hk (h1 a b k ha hb hk h)
theorem and1_tb {z : Nat} : z &&& 1 ≠ 0 ↔ z.testBit 0 = true := by
  constructor
  · intro h; exact tb_ne (k := 0) h
  · intro h z0
    rw [show z.testBit 0 = false from tb_eq (k := 0) z0] at h; cases h
theorem im_tb {x y i j : Nat} : (x >>> i) &&& (y >>> j) &&& 1 ≠ 0 ↔ x.testBit i = true ∧ y.testBit j = true := by
  rw [and1_tb, Nat.testBit_and, Nat.testBit_shiftRight, Nat.testBit_shiftRight, Bool.and_eq_true, Nat.add_zero, Nat.add_zero]
theorem impN_tb {ch : Nat → Option Nat} {fk sk k : Nat} : ∀ n, (impN ch fk sk n).testBit k = true ↔ ∃ p, p < n ∧ ch p = some k ∧ fk.testBit (p / 4) = true ∧ sk.testBit (p % 4) = true
  | 0 => ⟨fun h => (by rw [show impN ch fk sk 0 = 0 from rfl, Nat.zero_testBit] at h; cases h), fun ⟨p, h, _⟩ => absurd h (Nat.not_lt_zero p)⟩
  | n + 1 => by
    have ih := impN_tb (ch := ch) (fk := fk) (sk := sk) (k := k) n
    have up : (∃ p, p < n ∧ ch p = some k ∧ fk.testBit (p / 4) = true ∧ sk.testBit (p % 4) = true) → ∃ p, p < n + 1 ∧ ch p = some k ∧ fk.testBit (p / 4) = true ∧ sk.testBit (p % 4) = true := fun ⟨p, h, h2⟩ => ⟨p, by omega, h2⟩
    have dn : (¬ (ch n = some k ∧ fk.testBit (n / 4) = true ∧ sk.testBit (n % 4) = true)) → (∃ p, p < n + 1 ∧ ch p = some k ∧ fk.testBit (p / 4) = true ∧ sk.testBit (p % 4) = true) → ∃ p, p < n ∧ ch p = some k ∧ fk.testBit (p / 4) = true ∧ sk.testBit (p % 4) = true := fun hn ⟨p, h, h2⟩ => by
      by_cases e : p = n
      · subst e; exact absurd h2 hn
      · exact ⟨p, by omega, h2⟩
    cases hc : ch n with
    | none => rw [impN_none hc, ih]; exact ⟨up, dn (fun z => by rw [hc] at z; cases z.1)⟩
    | some c =>
      by_cases h0 : (fk >>> (n / 4)) &&& (sk >>> (n % 4)) &&& 1 = 0
      · rw [impN_no h0, ih]; exact ⟨up, dn (fun z => (im_tb.mpr z.2) h0)⟩
      · rw [impN_yes hc h0, or_tb, Bool.or_eq_true, decide_eq_true_iff, ih]
        have hb := im_tb.mp h0
        constructor
        · rintro (h | h)
          · exact up h
          · subst h; exact ⟨n, by omega, hc, hb⟩
        · intro h
          by_cases e : k = c
          · exact Or.inr e
          · exact Or.inl (dn (fun z => by rw [hc] at z; exact e (by cases z.1; rfl)) h)
theorem imp_tb {ch : Nat → Option Nat} {fk sk k : Nat} : (imp ch fk sk).testBit k = true ↔ ∃ p, p < 16 ∧ ch p = some k ∧ fk.testBit (p / 4) = true ∧ sk.testBit (p % 4) = true := by
  unfold imp; split
  · next h =>
    constructor
    · intro z; rw [Nat.zero_testBit] at z; cases z
    · rintro ⟨p, _, _, h1, h2⟩
      rcases h with h | h
      · rw [h, Nat.zero_testBit] at h1; cases h1
      · rw [h, Nat.zero_testBit] at h2; cases h2
  · exact impN_tb 16
/-- one step: nothing is lost; what is closed and above stays above; where nothing is new, nothing has changed -/
theorem sM_up {m : Nat → Nat} {f t v a b k : Nat} (ht : t < 5) (hb : b < 5) : sM (va_up m (f * 5 + t) v) a b k ↔ (a = f ∧ b = t ∧ v.testBit k = true) ∨ (¬ (a = f ∧ b = t) ∧ sM m a b k) := by
  unfold sM
  by_cases h : a * 5 + b = f * 5 + t
  · have e1 : a = f := by omega
    have e2 : b = t := by omega
    subst e1; subst e2; rw [vu_eq]
    constructor
    · intro z; exact Or.inl ⟨rfl, rfl, z⟩
    · rintro (z | z)
      · exact z.2.2
      · exact absurd ⟨rfl, rfl⟩ z.1
  · rw [vu_ne h]
    constructor
    · intro z; exact Or.inr ⟨fun y => h (by rw [y.1, y.2]), z⟩
    · rintro (z | z)
      · exact absurd (by rw [z.1, z.2.1]) h
      · exact z.2
def stp (ch : Nat → Option Nat) (s s2 : (Nat → Nat) × Bool) : Prop :=
  sbs (sM s.1) (sM s2.1) ∧ (∀ T, clsd ch T → sbs (sM s.1) T → sbs (sM s2.1) T) ∧ (s2.2 = false → s2.1 = s.1 ∧ s.2 = false)
theorem stp_rf {ch : Nat → Option Nat} (s : (Nat → Nat) × Bool) : stp ch s s := ⟨sbs_rf _, fun _ _ h => h, fun h => ⟨rfl, h⟩⟩
theorem stp_tr {ch : Nat → Option Nat} {a b c : (Nat → Nat) × Bool} (h1 : stp ch a b) (h2 : stp ch b c) : stp ch a c :=
  ⟨sbs_tr h1.1 h2.1, fun T hT h => h2.2.1 T hT (h1.2.1 T hT h), fun h => by
    have e := h2.2.2 h; have e2 := h1.2.2 e.2; exact ⟨by rw [e.1, e2.1], e2.2⟩⟩
theorem sw1_stp {ch : Nat → Option Nat} {v f t : Nat} (hv : v < 5) (hf : f < 5) (ht : t < 5) (s : (Nat → Nat) × Bool) : stp ch s (sw1 ch v f t s) := by
  unfold sw1; split
  · next hc =>
    refine ⟨fun a b k ha hb hk h => ?_, fun T hT hs a b k ha hb hk h => ?_, fun h => ?_⟩
    · refine (sM_up ht hb).mpr ?_
      by_cases e : a = f ∧ b = t
      · refine Or.inl ⟨e.1, e.2, ?_⟩
        rw [Nat.testBit_or, ← e.1, ← e.2, show (s.1 (a * 5 + b)).testBit k = true from h]; rfl
      · exact Or.inr ⟨e, h⟩
    · rcases (sM_up ht hb).mp h with ⟨e1, e2, z⟩ | ⟨_, z⟩
      · rw [Nat.testBit_or, Bool.or_eq_true] at z
        subst e1; subst e2
        rcases z with z | z
        · exact hs a b k ha hb hk z
        · obtain ⟨p, hp, hcp, h1, h2⟩ := imp_tb.mp z
          exact hT a v b p k ha hv hb (fun y => hc.1 y) (fun y => hc.2.1 y.symm) (fun y => hc.2.2 y.symm) hp hcp (hs a v _ ha hv (by omega) h1) (hs v b _ hv hb (by omega) h2)
      · exact hs a b k ha hb hk z
    · have h : (s.2 || decide (s.1 (f * 5 + t) ||| imp ch (s.1 (f * 5 + v)) (s.1 (v * 5 + t)) ≠ s.1 (f * 5 + t))) = false := h
      rw [Bool.or_eq_false_iff, decide_eq_false_iff_not, Decidable.not_not] at h
      refine ⟨?_, h.1⟩
      show va_up s.1 (f * 5 + t) _ = s.1
      rw [h.2]; funext j
      by_cases e : j = f * 5 + t
      · subst e; exact vu_eq
      · exact vu_ne e
  · exact stp_rf s
/-- where a step says that nothing is new, all that it could add was there -/
theorem sw1_no {ch : Nat → Option Nat} {v f t : Nat} {s : (Nat → Nat) × Bool} (h : (sw1 ch v f t s).2 = false) (h1 : f ≠ v) (h2 : t ≠ v) (h3 : f ≠ t) : ∀ p k, p < 16 → ch p = some k → sM s.1 f v (p / 4) → sM s.1 v t (p % 4) → sM s.1 f t k := by
  intro p k hp hcp hx hy
  unfold sw1 at h; rw [if_pos ⟨h1, h2, h3⟩] at h
  have h : (s.2 || decide (s.1 (f * 5 + t) ||| imp ch (s.1 (f * 5 + v)) (s.1 (v * 5 + t)) ≠ s.1 (f * 5 + t))) = false := h
  rw [Bool.or_eq_false_iff, decide_eq_false_iff_not, Decidable.not_not] at h
  unfold sM
  rw [← h.2, Nat.testBit_or, imp_tb.mpr ⟨p, hp, hcp, hx, hy⟩, Bool.or_true]
theorem swT_stp {ch : Nat → Option Nat} {v f : Nat} (hv : v < 5) (hf : f < 5) (s : (Nat → Nat) × Bool) : ∀ n, n ≤ 5 → stp ch s (swT ch v f s n)
  | 0, _ => stp_rf s
  | n + 1, h => stp_tr (swT_stp hv hf s n (by omega)) (sw1_stp hv hf (by omega) _)
theorem swF_stp {ch : Nat → Option Nat} {v : Nat} (hv : v < 5) (s : (Nat → Nat) × Bool) : ∀ n, n ≤ 5 → stp ch s (swF ch v s n)
  | 0, _ => stp_rf s
  | n + 1, h => stp_tr (swF_stp hv s n (by omega)) (swT_stp hv (by omega) _ 5 (Nat.le_refl _))
theorem swV_stp {ch : Nat → Option Nat} (s : (Nat → Nat) × Bool) : ∀ n, n ≤ 5 → stp ch s (swV ch s n)
  | 0, _ => stp_rf s
  | n + 1, h => stp_tr (swV_stp s n (by omega)) (swF_stp (by omega) _ 5 (Nat.le_refl _))
theorem swT_no {ch : Nat → Option Nat} {v f : Nat} (hv : v < 5) (hf : f < 5) (s : (Nat → Nat) × Bool) : ∀ n, n ≤ 5 → (swT ch v f s n).2 = false → ∀ t, t < n → f ≠ v → t ≠ v → f ≠ t → ∀ p k, p < 16 → ch p = some k → sM s.1 f v (p / 4) → sM s.1 v t (p % 4) → sM s.1 f t k
  | 0, _, _, t, ht => absurd ht (Nat.not_lt_zero t)
  | n + 1, hn, h, t, ht => by
    have e := (sw1_stp (ch := ch) hv hf (show n < 5 by omega) (swT ch v f s n)).2.2 h
    by_cases e1 : t = n
    · subst e1
      have e2 := (swT_stp (ch := ch) hv hf s t (by omega)).2.2 e.2
      have := sw1_no (ch := ch) (s := swT ch v f s t) (v := v) (f := f) (t := t) h
      rw [e2.1] at this; exact this
    · exact swT_no hv hf s n (by omega) e.2 t (by omega)
theorem swF_no {ch : Nat → Option Nat} {v : Nat} (hv : v < 5) (s : (Nat → Nat) × Bool) : ∀ n, n ≤ 5 → (swF ch v s n).2 = false → ∀ f t, f < n → t < 5 → f ≠ v → t ≠ v → f ≠ t → ∀ p k, p < 16 → ch p = some k → sM s.1 f v (p / 4) → sM s.1 v t (p % 4) → sM s.1 f t k
  | 0, _, _, f, _, hf, _ => absurd hf (Nat.not_lt_zero f)
  | n + 1, hn, h, f, t, hf, ht => by
    have e := (swT_stp (ch := ch) hv (show n < 5 by omega) (swF ch v s n) 5 (Nat.le_refl _)).2.2 h
    by_cases e1 : f = n
    · subst e1
      have e2 := (swF_stp (ch := ch) hv s f (by omega)).2.2 e.2
      have := swT_no (ch := ch) hv (show f < 5 by omega) (swF ch v s f) 5 (Nat.le_refl _) h t ht
      rw [e2.1] at this; exact this
    · exact swF_no hv s n (by omega) e.2 f t (by omega) ht
theorem swV_no {ch : Nat → Option Nat} (s : (Nat → Nat) × Bool) : ∀ n, n ≤ 5 → (swV ch s n).2 = false → ∀ v f t, v < n → f < 5 → t < 5 → f ≠ v → t ≠ v → f ≠ t → ∀ p k, p < 16 → ch p = some k → sM s.1 f v (p / 4) → sM s.1 v t (p % 4) → sM s.1 f t k
  | 0, _, _, v, _, _, hv, _, _ => absurd hv (Nat.not_lt_zero v)
  | n + 1, hn, h, v, f, t, hv, hf, ht => by
    have e := (swF_stp (ch := ch) (show n < 5 by omega) (swV ch s n) 5 (Nat.le_refl _)).2.2 h
    by_cases e1 : v = n
    · subst e1
      have e2 := (swV_stp (ch := ch) s v (by omega)).2.2 e.2
      have := swF_no (ch := ch) (show v < 5 by omega) (swV ch s v) 5 (Nat.le_refl _) h f t hf ht
      rw [e2.1] at this; exact this
    · exact swV_no s n (by omega) e.2 v f t (by omega) hf ht
theorem rnd_stp {ch : Nat → Option Nat} {m : Nat → Nat} : ∀ r, sbs (sM m) (sM (rnd ch m r).1) ∧ ∀ T, clsd ch T → sbs (sM m) T → sbs (sM (rnd ch m r).1) T
  | 0 => ⟨sbs_rf _, fun _ _ h => h⟩
  | r + 1 => by
    have ih := rnd_stp (ch := ch) (m := m) r
    cases h : (rnd ch m r).2 with
    | false => rw [show rnd ch m (r + 1) = rnd ch m r from rnd_stop h 1]; exact ih
    | true =>
      rw [rnd_go h]
      have e := swV_stp (ch := ch) ((rnd ch m r).1, false) 5 (Nat.le_refl _)
      exact ⟨sbs_tr ih.1 e.1, fun T hT hs => e.2.1 T hT (ih.2 T hT hs)⟩
/-- there are no more rounds than links -/
theorem pc4_or : ∀ a, a < 16 → ∀ b, b < 16 → pc4 a ≤ pc4 (a ||| b) ∧ (a ||| b ≠ a → pc4 a + 1 ≤ pc4 (a ||| b)) := by decide +kernel
theorem cntN_up {m : Nat → Nat} {j v : Nat} : ∀ n, cntN (va_up m j v) n + (if j < n then pc4 (m j) else 0) = cntN m n + (if j < n then pc4 v else 0)
  | 0 => rfl
  | n + 1 => by
    have ih := cntN_up (m := m) (j := j) (v := v) n
    show cntN (va_up m j v) n + pc4 (va_up m j v n) + _ = cntN m n + pc4 (m n) + _
    by_cases e : n = j
    · subst e; rw [if_neg (by omega), if_neg (by omega)] at ih; rw [vu_eq, if_pos (by omega), if_pos (by omega)]; omega
    · rw [vu_ne e]
      by_cases e2 : j < n
      · rw [if_pos e2, if_pos e2] at ih; rw [if_pos (by omega), if_pos (by omega)]; omega
      · rw [if_neg e2, if_neg e2] at ih; rw [if_neg (by omega), if_neg (by omega)]; omega
def grM (s s2 : (Nat → Nat) × Bool) : Prop := mOk s2.1 ∧ cntN s.1 25 ≤ cntN s2.1 25 ∧ (s.2 = false → s2.2 = true → cntN s.1 25 + 1 ≤ cntN s2.1 25)
theorem grM_rf {s : (Nat → Nat) × Bool} (h : mOk s.1) : grM s s := ⟨h, Nat.le_refl _, fun h h2 => by rw [h] at h2; cases h2⟩
theorem grM_tr {a b c : (Nat → Nat) × Bool} (h1 : grM a b) (h2 : grM b c) : grM a c := by
  refine ⟨h2.1, Nat.le_trans h1.2.1 h2.2.1, fun h h3 => ?_⟩
  cases hb : b.2 with
  | false => have := h2.2.2 hb h3; have := h1.2.1; omega
  | true => have := h1.2.2 h hb; have := h2.2.1; omega
theorem sw1_gr {ch : Nat → Option Nat} (hc : chOk ch) {v f t : Nat} (hf : f < 5) (ht : t < 5) {s : (Nat → Nat) × Bool} (h : mOk s.1) : grM s (sw1 ch v f t s) := by
  refine ⟨sw1_ok hc h, ?_⟩
  unfold sw1; split
  · have h1 := pc4_or (s.1 (f * 5 + t)) (h _) (imp ch (s.1 (f * 5 + v)) (s.1 (v * 5 + t))) (imp_lt hc _ _)
    have h2 := cntN_up (m := s.1) (j := f * 5 + t) (v := s.1 (f * 5 + t) ||| imp ch (s.1 (f * 5 + v)) (s.1 (v * 5 + t))) 25
    rw [if_pos (by omega), if_pos (by omega)] at h2
    refine ⟨?_, fun e e2 => ?_⟩
    · show _ ≤ cntN (va_up s.1 _ _) 25
      have := h1.1; omega
    · show _ ≤ cntN (va_up s.1 _ _) 25
      have e2 : (s.2 || decide (s.1 (f * 5 + t) ||| imp ch (s.1 (f * 5 + v)) (s.1 (v * 5 + t)) ≠ s.1 (f * 5 + t))) = true := e2
      rw [e, Bool.false_or, decide_eq_true_iff] at e2
      have := h1.2 e2; omega
  · exact (grM_rf h).2
theorem swT_gr {ch : Nat → Option Nat} (hc : chOk ch) {v f : Nat} (hf : f < 5) {s : (Nat → Nat) × Bool} (h : mOk s.1) : ∀ n, n ≤ 5 → grM s (swT ch v f s n)
  | 0, _ => grM_rf h
  | n + 1, hn => grM_tr (swT_gr hc hf h n (by omega)) (sw1_gr hc hf (by omega) (swT_ok hc h n))
theorem swF_gr {ch : Nat → Option Nat} (hc : chOk ch) {v : Nat} {s : (Nat → Nat) × Bool} (h : mOk s.1) : ∀ n, n ≤ 5 → grM s (swF ch v s n)
  | 0, _ => grM_rf h
  | n + 1, hn => grM_tr (swF_gr hc h n (by omega)) (swT_gr hc (by omega) (swF_ok hc h n) 5 (Nat.le_refl _))
theorem swV_gr {ch : Nat → Option Nat} (hc : chOk ch) {s : (Nat → Nat) × Bool} (h : mOk s.1) : ∀ n, n ≤ 5 → grM s (swV ch s n)
  | 0, _ => grM_rf h
  | n + 1, hn => grM_tr (swV_gr hc h n (by omega)) (swF_gr hc (swV_ok hc h n) 5 (Nat.le_refl _))
theorem rnd_cnt {ch : Nat → Option Nat} (hc : chOk ch) {m : Nat → Nat} (h : mOk m) : ∀ r, (rnd ch m r).2 = true → r ≤ cntN (rnd ch m r).1 25
  | 0, _ => Nat.zero_le _
  | r + 1, e => by
    cases hr : (rnd ch m r).2 with
    | false => have e2 := rnd_stop hr 1; rw [e2] at e; rw [hr] at e; cases e
    | true =>
      have ih := rnd_cnt hc h r hr
      rw [rnd_go hr] at e ⊢
      have h3 := (swV_gr hc (s := ((rnd ch m r).1, false)) (rnd_ok hc h r) 5 (Nat.le_refl _)).2.2 rfl e
      have h4 : cntN (rnd ch m r).1 25 + 1 ≤ cntN (swV ch ((rnd ch m r).1, false) 5).1 25 := h3
      omega
theorem clo_cl {ch : Nat → Option Nat} (hc : chOk ch) {m : Nat → Nat} (h : mOk m) : clsd ch (sM (clo ch m)) := by
  have h101 : (rnd ch m 101).2 = false := by
    cases e : (rnd ch m 101).2 with
    | false => rfl
    | true => have := rnd_cnt hc h 101 e; have := cntN_le (rnd ch m 101).1 25; omega
  have ex : ∃ r, r < 101 ∧ (rnd ch m r).2 = true ∧ (rnd ch m (r + 1)).2 = false := by
    have : ∀ n, n ≤ 101 → (rnd ch m n).2 = false → ∃ r, r < n ∧ (rnd ch m r).2 = true ∧ (rnd ch m (r + 1)).2 = false := by
      intro n
      induction n with
      | zero => intro _ e; cases e
      | succ n ih =>
        intro hn e
        cases e2 : (rnd ch m n).2 with
        | true => exact ⟨n, by omega, e2, e⟩
        | false => obtain ⟨r, hr, h1, h2⟩ := ih (by omega) e2; exact ⟨r, by omega, h1, h2⟩
    exact this 101 (Nat.le_refl _) h101
  obtain ⟨r, hr, h1, h2⟩ := ex
  have e1 := rnd_go h1
  rw [e1] at h2
  have e2 := ((swV_stp (ch := ch) ((rnd ch m r).1, false) 5 (Nat.le_refl _)).2.2 h2).1
  have e3 : (rnd ch m (r + 1)).1 = clo ch m := clo_stop (by omega) (by rw [e1]; exact h2)
  rw [e1, e2] at e3
  have e3 : (rnd ch m r).1 = clo ch m := e3
  intro a b c p k ha hb hcc h4 h5 h6 hp hcp
  have h7 := swV_no (ch := ch) ((rnd ch m r).1, false) 5 (Nat.le_refl _) h2 b a c hb ha hcc h4 (fun z => h5 z.symm) (fun z => h6 z.symm) p k hp hcp
  rw [← e3]; exact h7
theorem clo_le {ch : Nat → Option Nat} {m : Nat → Nat} : sbs (sM m) (sM (clo ch m)) := (rnd_stp 101).1
theorem clo_lt {ch : Nat → Option Nat} {m : Nat → Nat} {T : Nat → Nat → Nat → Prop} (hT : clsd ch T) (h : sbs (sM m) T) : sbs (sM (clo ch m)) T := (rnd_stp 101).2 T hT h
/-! the same for the reference's row -/
def sB (m : Nat) (h : Nat → Bool) (a b k : Nat) : Prop := h (atF m a b k) = true
theorem sB_up {m : Nat} {h : Nat → Bool} {f t d a b k : Nat} (hd : d < 4) (ht : t < 5) (hb : b < 5) (hk : k < 4) : sB m (va_up h (atF m f t d) true) a b k ↔ (a = f ∧ b = t ∧ k = d) ∨ sB m h a b k := by
  unfold sB
  by_cases e : atF m a b k = atF m f t d
  · have e2 : a = f ∧ b = t ∧ k = d := by unfold atF at e; exact ⟨by omega, by omega, by omega⟩
    obtain ⟨rfl, rfl, rfl⟩ := e2
    rw [vu_eq]; exact ⟨fun _ => Or.inl ⟨rfl, rfl, rfl⟩, fun _ => rfl⟩
  · rw [vu_ne e]
    constructor
    · exact Or.inr
    · rintro (⟨rfl, rfl, rfl⟩ | z)
      · exact absurd rfl e
      · exact z
def stpB (ch : Nat → Option Nat) (m : Nat) (s s2 : (Nat → Bool) × Bool) : Prop :=
  sbs (sB m s.1) (sB m s2.1) ∧ (∀ T, clsd ch T → sbs (sB m s.1) T → sbs (sB m s2.1) T) ∧ (s2.2 = false → s2.1 = s.1 ∧ s.2 = false)
theorem stpB_rf {ch : Nat → Option Nat} {m : Nat} (s : (Nat → Bool) × Bool) : stpB ch m s s := ⟨sbs_rf _, fun _ _ h => h, fun h => ⟨rfl, h⟩⟩
theorem stpB_tr {ch : Nat → Option Nat} {m : Nat} {a b c : (Nat → Bool) × Bool} (h1 : stpB ch m a b) (h2 : stpB ch m b c) : stpB ch m a c :=
  ⟨sbs_tr h1.1 h2.1, fun T hT h => h2.2.1 T hT (h1.2.1 T hT h), fun h => by
    have e := h2.2.2 h; have e2 := h1.2.2 e.2; exact ⟨by rw [e.1, e2.1], e2.2⟩⟩
theorem ipS_stp {ch : Nat → Option Nat} (hc : chOk ch) {m a b c p : Nat} (ha : a < 5) (hb : b < 5) (hcc : c < 5) (h1 : a ≠ b) (h2 : b ≠ c) (h3 : c ≠ a) (hp : p < 16) (s : (Nat → Bool) × Bool) : stpB ch m s (ipS ch m a b c p s) := by
  unfold ipS; split
  · exact stpB_rf s
  · next k hk =>
    have hk4 := hc p k hk
    split
    · next h =>
      refine ⟨fun x y z hx hy hz w => (sB_up hk4 hcc hy hz).mpr (Or.inr w), fun T hT hs x y z hx hy hz w => ?_, fun e => by cases e⟩
      rcases (sB_up hk4 hcc hy hz).mp w with ⟨rfl, rfl, rfl⟩ | w
      · exact hT x b y p z ha hb hcc h1 h2 h3 hp hk (hs x b _ ha hb (by omega) h.1) (hs b y _ hb hcc (by omega) h.2.1)
      · exact hs x y z hx hy hz w
    · exact stpB_rf s
theorem ipS_no {ch : Nat → Option Nat} {m a b c p k : Nat} {s : (Nat → Bool) × Bool} (h : (ipS ch m a b c p s).2 = false) (hk : ch p = some k) (hx : sB m s.1 a b (p / 4)) (hy : sB m s.1 b c (p % 4)) : sB m s.1 a c k := by
  unfold ipS at h; rw [hk] at h
  unfold sB at hx hy ⊢
  cases e : s.1 (atF m a c k) with
  | true => rfl
  | false => simp only [if_pos (And.intro hx (And.intro hy e))] at h; cases h
theorem ipN_stp {ch : Nat → Option Nat} (hc : chOk ch) {m a b c : Nat} (ha : a < 5) (hb : b < 5) (hcc : c < 5) (h1 : a ≠ b) (h2 : b ≠ c) (h3 : c ≠ a) (s : (Nat → Bool) × Bool) : ∀ n, n ≤ 16 → stpB ch m s (ipN ch m a b c s n)
  | 0, _ => stpB_rf s
  | n + 1, h => stpB_tr (ipN_stp hc ha hb hcc h1 h2 h3 s n (by omega)) (ipS_stp hc ha hb hcc h1 h2 h3 (by omega) _)
theorem ipN_nn {ch : Nat → Option Nat} (hc : chOk ch) {m a b c : Nat} (ha : a < 5) (hb : b < 5) (hcc : c < 5) (h1 : a ≠ b) (h2 : b ≠ c) (h3 : c ≠ a) (s : (Nat → Bool) × Bool) : ∀ n, n ≤ 16 → (ipN ch m a b c s n).2 = false → ∀ p k, p < n → ch p = some k → sB m s.1 a b (p / 4) → sB m s.1 b c (p % 4) → sB m s.1 a c k
  | 0, _, _, p, _, hp => absurd hp (Nat.not_lt_zero p)
  | n + 1, hn, h, p, k, hp => by
    have e := (ipS_stp (m := m) hc ha hb hcc h1 h2 h3 (show n < 16 by omega) (ipN ch m a b c s n)).2.2 h
    by_cases e1 : p = n
    · subst e1
      have e2 := (ipN_stp (m := m) hc ha hb hcc h1 h2 h3 s p (by omega)).2.2 e.2
      have := ipS_no (ch := ch) (m := m) (a := a) (b := b) (c := c) (p := p) (k := k) (s := ipN ch m a b c s p) h
      rw [e2.1] at this; exact this
    · exact ipN_nn hc ha hb hcc h1 h2 h3 s n (by omega) e.2 p k (by omega)
theorem ipT1_stp {ch : Nat → Option Nat} (hc : chOk ch) {m k : Nat} (hk : k < 125) (s : (Nat → Bool) × Bool) : stpB ch m s (ipT1 ch m k s) := by
  unfold ipT1; split
  · next h =>
    have e := ipN_stp (m := m) hc (show k / 25 < 5 by omega) (show k / 5 % 5 < 5 by omega) (show k % 5 < 5 by omega) h.1 h.2.1 h.2.2 (s.1, false) 16 (Nat.le_refl _)
    refine ⟨e.1, e.2.1, fun z => ?_⟩
    have z : (s.2 || (ipN ch m (k / 25) (k / 5 % 5) (k % 5) (s.1, false) 16).2) = false := z
    rw [Bool.or_eq_false_iff] at z
    exact ⟨(e.2.2 z.2).1, z.1⟩
  · exact stpB_rf s
theorem ipT_stp {ch : Nat → Option Nat} (hc : chOk ch) {m : Nat} (s : (Nat → Bool) × Bool) : ∀ n, n ≤ 125 → stpB ch m s (ipT ch m s n)
  | 0, _ => stpB_rf s
  | n + 1, h => stpB_tr (ipT_stp hc s n (by omega)) (ipT1_stp hc (by omega) _)
theorem ipT_nn {ch : Nat → Option Nat} (hc : chOk ch) {m : Nat} (s : (Nat → Bool) × Bool) : ∀ n, n ≤ 125 → (ipT ch m s n).2 = false → ∀ k, k < n → k / 25 ≠ k / 5 % 5 → k / 5 % 5 ≠ k % 5 → k % 5 ≠ k / 25 → ∀ p d, p < 16 → ch p = some d → sB m s.1 (k / 25) (k / 5 % 5) (p / 4) → sB m s.1 (k / 5 % 5) (k % 5) (p % 4) → sB m s.1 (k / 25) (k % 5) d
  | 0, _, _, k, hk => absurd hk (Nat.not_lt_zero k)
  | n + 1, hn, h, k, hk => by
    have e := (ipT1_stp (m := m) hc (show n < 125 by omega) (ipT ch m s n)).2.2 h
    by_cases e1 : k = n
    · subst e1
      intro h1 h2 h3 p d hp hd
      have e2 := (ipT_stp (m := m) hc s k (by omega)).2.2 e.2
      have h9 : (ipT1 ch m k (ipT ch m s k)).2 = false := h
      unfold ipT1 at h9; rw [if_pos ⟨h1, h2, h3⟩] at h9
      have h9 : ((ipT ch m s k).2 || (ipN ch m (k / 25) (k / 5 % 5) (k % 5) ((ipT ch m s k).1, false) 16).2) = false := h9
      rw [Bool.or_eq_false_iff] at h9
      have := ipN_nn (m := m) hc (show k / 25 < 5 by omega) (show k / 5 % 5 < 5 by omega) (show k % 5 < 5 by omega) h1 h2 h3 ((ipT ch m s k).1, false) 16 (Nat.le_refl _) h9.2 p d hp hd
      rw [e2.1] at this; exact this
    · exact ipT_nn hc s n (by omega) e.2 k (by omega)
theorem rdB_stp {ch : Nat → Option Nat} (hc : chOk ch) {m : Nat} {h : Nat → Bool} : ∀ r, sbs (sB m h) (sB m (rdB ch m h r).1) ∧ ∀ T, clsd ch T → sbs (sB m h) T → sbs (sB m (rdB ch m h r).1) T
  | 0 => ⟨sbs_rf _, fun _ _ h => h⟩
  | r + 1 => by
    have ih := rdB_stp hc (m := m) (h := h) r
    cases hr : (rdB ch m h r).2 with
    | false => rw [show rdB ch m h (r + 1) = rdB ch m h r from rdB_stop hr 1]; exact ih
    | true =>
      rw [rdB_go hr]
      have e := ipT_stp (m := m) hc ((rdB ch m h r).1, false) 125 (Nat.le_refl _)
      exact ⟨sbs_tr ih.1 e.1, fun T hT hs => e.2.1 T hT (ih.2 T hT hs)⟩
theorem clB_cl {ch : Nat → Option Nat} (hc : chOk ch) {m : Nat} (hm : m < 4) {ho hs : Nat → Bool} : clsd ch (sB m (clB ch m ho hs)) := by
  have h401 : (rdB ch m (cpB ho hs (100 * m) 100) 401).2 = false := by
    cases e : (rdB ch m (cpB ho hs (100 * m) 100) 401).2 with
    | false => rfl
    | true => have := rdB_lt hc hm e; omega
  have ex : ∃ r, r < 401 ∧ (rdB ch m (cpB ho hs (100 * m) 100) r).2 = true ∧ (rdB ch m (cpB ho hs (100 * m) 100) (r + 1)).2 = false := by
    have : ∀ n, n ≤ 401 → (rdB ch m (cpB ho hs (100 * m) 100) n).2 = false → ∃ r, r < n ∧ (rdB ch m (cpB ho hs (100 * m) 100) r).2 = true ∧ (rdB ch m (cpB ho hs (100 * m) 100) (r + 1)).2 = false := by
      intro n
      induction n with
      | zero => intro _ e; cases e
      | succ n ih =>
        intro hn e
        cases e2 : (rdB ch m (cpB ho hs (100 * m) 100) n).2 with
        | true => exact ⟨n, by omega, e2, e⟩
        | false => obtain ⟨r, hr, h1, h2⟩ := ih (by omega) e2; exact ⟨r, by omega, h1, h2⟩
    exact this 401 (Nat.le_refl _) h401
  obtain ⟨r, hr, h1, h2⟩ := ex
  have e1 := rdB_go h1
  rw [e1] at h2
  have e2 := ((ipT_stp (m := m) hc ((rdB ch m (cpB ho hs (100 * m) 100) r).1, false) 125 (Nat.le_refl _)).2.2 h2).1
  have e3 : (rdB ch m (cpB ho hs (100 * m) 100) (r + 1)).1 = clB ch m ho hs := clB_end (by omega) (by rw [e1]; exact h2)
  rw [e1, e2] at e3
  have e3 : (rdB ch m (cpB ho hs (100 * m) 100) r).1 = clB ch m ho hs := e3
  intro a b c p k ha hb hcc h4 h5 h6 hp hcp
  have ea : (25 * a + 5 * b + c) / 25 = a := by omega
  have eb : (25 * a + 5 * b + c) / 5 % 5 = b := by omega
  have ec : (25 * a + 5 * b + c) % 5 = c := by omega
  have h7 := ipT_nn (m := m) hc ((rdB ch m (cpB ho hs (100 * m) 100) r).1, false) 125 (Nat.le_refl _) h2 (25 * a + 5 * b + c) (by omega)
  rw [ea, eb, ec] at h7
  have h8 := h7 h4 h5 h6 p k hp hcp
  rw [← e3]; exact h8
theorem cpB_in {ho hs : Nat → Bool} {m a b k : Nat} (ha : a < 5) (hb : b < 5) (hk : k < 4) : cpB ho hs (100 * m) 100 (atF m a b k) = hs (atF m a b k) := by
  unfold cpB; rw [if_pos (by unfold atF; omega)]
/-- class and reference hold the same links -/
theorem clo_clB {ch : Nat → Option Nat} (hc : chOk ch) {m : Nat} (hm : m < 4) {ho hs : Nat → Bool} {mm : Nat → Nat} (hmm : mOk mm) (hR : mskR m hs mm) : mskR m (clB ch m ho hs) (clo ch mm) := by
  have s1 : sbs (sM mm) (sB m (cpB ho hs (100 * m) 100)) := fun a b k ha hb hk h => by
    show cpB ho hs (100 * m) 100 (atF m a b k) = true
    rw [cpB_in ha hb hk, hR a b k ha hb hk]; exact h
  have s2 : sbs (sB m (cpB ho hs (100 * m) 100)) (sM mm) := fun a b k ha hb hk h => by
    have h : cpB ho hs (100 * m) 100 (atF m a b k) = true := h
    rw [cpB_in ha hb hk, hR a b k ha hb hk] at h; exact h
  have d1 : sbs (sM (clo ch mm)) (sB m (clB ch m ho hs)) := clo_lt (clB_cl hc hm) (sbs_tr s1 (rdB_stp hc 401).1)
  have d2 : sbs (sB m (clB ch m ho hs)) (sM (clo ch mm)) := (rdB_stp hc 401).2 _ (clo_cl hc hmm) (sbs_tr s2 clo_le)
  intro a b k ha hb hk
  cases e : (clo ch mm (a * 5 + b)).testBit k with
  | true => exact d1 a b k ha hb hk e
  | false =>
    cases e2 : clB ch m ho hs (atF m a b k) with
    | false => rfl
    | true => have h9 : (clo ch mm (a * 5 + b)).testBit k = true := d2 a b k ha hb hk e2
              rw [e] at h9; cases h9
theorem msk_ext {x y : Nat} (hx : x < 16) (hy : y < 16) (h : ∀ k, k < 4 → x.testBit k = y.testBit k) : x = y := by
  refine Nat.eq_of_testBit_eq (fun k => ?_)
  by_cases hk : k < 4
  · exact h k hk
  · rw [Nat.testBit_lt_two_pow (Nat.lt_of_lt_of_le hx (show 16 ≤ 2 ^ k from by rw [show (16 : Nat) = 2 ^ 4 from rfl]; exact Nat.pow_le_pow_right (by decide) (by omega))), Nat.testBit_lt_two_pow (Nat.lt_of_lt_of_le hy (show 16 ≤ 2 ^ k from by rw [show (16 : Nat) = 2 ^ 4 from rfl]; exact Nat.pow_le_pow_right (by decide) (by omega)))]
/-- one link more: what was held may be taken for what was had -/
theorem sM_add {m : Nat → Nat} {f t d a b k : Nat} (ht : t < 5) (hb : b < 5) : sM (hAdd m f t d) a b k ↔ (a = f ∧ b = t ∧ k = d) ∨ sM m a b k := by
  unfold hAdd; rw [sM_up ht hb, or_tb, Bool.or_eq_true, decide_eq_true_iff]
  constructor
  · rintro (⟨rfl, rfl, h | h⟩ | h)
    · exact Or.inr h
    · exact Or.inl ⟨rfl, rfl, h⟩
    · exact Or.inr h.2
  · rintro (⟨rfl, rfl, h⟩ | h)
    · exact Or.inl ⟨rfl, rfl, Or.inr h⟩
    · by_cases e : a = f ∧ b = t
      · obtain ⟨rfl, rfl⟩ := e; exact Or.inl ⟨rfl, rfl, Or.inl h⟩
      · exact Or.inr ⟨e, h⟩
theorem clo_hAdd {ch : Nat → Option Nat} (hc : chOk ch) {pm : Nat → Nat} (hp : mOk pm) {f t d : Nat} (hf : f < 5) (ht : t < 5) (hd : d < 4) {a b : Nat} (ha : a < 5) (hb : b < 5) : clo ch (hAdd (clo ch pm) f t d) (a * 5 + b) = clo ch (hAdd pm f t d) (a * 5 + b) := by
  have k1 := clo_ok hc hp
  have y1 := clo_cl hc (hAdd_ok k1 (f := f) (t := t) hd)
  have y2 := clo_cl hc (hAdd_ok hp (f := f) (t := t) hd)
  have d1 : sbs (sM (clo ch (hAdd pm f t d))) (sM (clo ch (hAdd (clo ch pm) f t d))) := clo_lt y1 (sbs_tr (fun a b k ha hb hk h => by
    rcases (sM_add ht hb).mp h with h | h
    · exact (sM_add ht hb).mpr (Or.inl h)
    · exact (sM_add ht hb).mpr (Or.inr (clo_le a b k ha hb hk h))) clo_le)
  have d0 : sbs (sM (clo ch pm)) (sM (clo ch (hAdd pm f t d))) := clo_lt y2 (sbs_tr (fun a b k ha hb hk h => (sM_add ht hb).mpr (Or.inr h)) clo_le)
  have d2 : sbs (sM (clo ch (hAdd (clo ch pm) f t d))) (sM (clo ch (hAdd pm f t d))) := clo_lt y2 (fun a b k ha hb hk h => by
    rcases (sM_add ht hb).mp h with h | h
    · exact clo_le a b k ha hb hk ((sM_add ht hb).mpr (Or.inl h))
    · exact d0 a b k ha hb hk h)
  refine msk_ext (clo_ok hc (hAdd_ok k1 hd) _) (clo_ok hc (hAdd_ok hp hd) _) (fun k hk => ?_)
  cases e : (clo ch (hAdd pm f t d) (a * 5 + b)).testBit k with
  | true => exact d1 a b k ha hb hk e
  | false =>
    cases e2 : (clo ch (hAdd (clo ch pm) f t d) (a * 5 + b)).testBit k with
    | false => rfl
    | true => have h9 : (clo ch (hAdd pm f t d) (a * 5 + b)).testBit k = true := d2 a b k ha hb hk e2
              rw [e] at h9; cases h9
