/-! sums; the reference's points are the class's -/
def sumN (g : Nat → Nat) : Nat → Nat
  | 0 => 0
  | j + 1 => sumN g j + g j
theorem sumN_cg {g h : Nat → Nat} : ∀ {n}, (∀ j, j < n → g j = h j) → sumN g n = sumN h n
  | 0, _ => rfl
  | n + 1, e => by
    show sumN g n + g n = sumN h n + h n
    rw [sumN_cg (fun j hj => e j (by omega)), e n (by omega)]
theorem sumN_add {g : Nat → Nat} {a : Nat} : ∀ b, sumN g (a + b) = sumN g a + sumN (fun j => g (a + j)) b
  | 0 => rfl
  | b + 1 => by
    show sumN g (a + b) + g (a + b) = sumN g a + (sumN (fun j => g (a + j)) b + g (a + b))
    rw [sumN_add b]; omega
theorem sumN_mul {g : Nat → Nat} {b : Nat} : ∀ a, sumN g (a * b) = sumN (fun i => sumN (fun j => g (i * b + j)) b) a
  | 0 => by rw [Nat.zero_mul]; rfl
  | a + 1 => by
    rw [Nat.succ_mul, sumN_add, sumN_mul a]; rfl
theorem sumN_0 : ∀ {n}, sumN (fun _ => 0) n = 0
  | 0 => rfl
  | n + 1 => by show sumN (fun _ => 0) n + 0 = 0; rw [sumN_0]
theorem sumN_pl {g h : Nat → Nat} : ∀ n, sumN (fun j => g j + h j) n = sumN g n + sumN h n
  | 0 => rfl
  | n + 1 => by
    show sumN (fun j => g j + h j) n + (g n + h n) = sumN g n + g n + (sumN h n + h n)
    rw [sumN_pl n]; omega
/-- one term put in where there was none -/
theorem sumN_up {g h : Nat → Nat} {c : Nat} (hc : g c = 0) (hne : ∀ j, j ≠ c → h j = g j) : ∀ {n}, c < n → sumN h n = sumN g n + h c
  | 0, h0 => absurd h0 (Nat.not_lt_zero _)
  | n + 1, hn => by
    show sumN h n + h n = sumN g n + g n + h c
    by_cases e : c = n
    · subst e
      rw [sumN_cg (g := h) (h := g) (fun j hj => hne j (by omega)), hc]; omega
    · rw [sumN_up hc hne (by omega), hne n (by omega)]; omega
def gS (G : Nat → Nat) (o : Option Nat) : Nat := match o with
  | none => 0
  | some e => G e
theorem tn_f {aB : Nat → Nat → Bool} {mt f : Nat → Option Nat} {q k : Nat} (hinj : ∀ e l a, f e = some a → f l = some a → e = l) (hq : ∀ e a, f e = some a → a < q) : ∀ {n}, (∀ j, j < n → mt j = some (enc q (f j))) → ∀ c e, tnF mt q n c = some e ↔ e < n ∧ f e = some c
  | 0, _, c, e => ⟨fun h => (by cases h), fun h => absurd h.1 (Nat.not_lt_zero _)⟩
  | n + 1, hm, c, e => by
    have ih := tn_f (aB := aB) (k := k) hinj hq (n := n) (fun j hj => hm j (by omega))
    cases hz : f n with
    | none =>
      rw [tnF_ge (hm n (by omega)) (by rw [hz]; exact Nat.le_refl _), ih c e]
      constructor
      · rintro ⟨h1, h2⟩; exact ⟨by omega, h2⟩
      · rintro ⟨h1, h2⟩
        by_cases e1 : e = n
        · subst e1; rw [hz] at h2; cases h2
        · exact ⟨by omega, h2⟩
    | some b =>
      rw [tnF_lt (hm n (by omega)) (by rw [hz]; exact hq n b hz)]
      show va_up (tnF mt q n) (enc q (f n)) (some n) c = some e ↔ _
      rw [hz]; show va_up (tnF mt q n) b (some n) c = some e ↔ _
      by_cases e1 : c = b
      · subst e1; rw [vu_eq]
        constructor
        · intro h; cases h; exact ⟨by omega, hz⟩
        · rintro ⟨_, h2⟩; rw [hinj e n c h2 hz]
      · rw [vu_ne e1, ih c e]
        constructor
        · rintro ⟨h1, h2⟩; exact ⟨by omega, h2⟩
        · rintro ⟨h1, h2⟩
          by_cases e2 : e = n
          · subst e2; rw [hz] at h2; cases h2; exact absurd rfl e1
          · exact ⟨by omega, h2⟩
/-- once over the ideas of the model by the way back is once over the ideas of the pupil -/
theorem re1 {aB : Nat → Nat → Bool} {mt f : Nat → Option Nat} {q : Nat} (hq5 : q ≤ 5) (hinj : ∀ e l a, f e = some a → f l = some a → e = l) (hq : ∀ e a, f e = some a → a < q) (G : Nat → Nat → Nat) : ∀ {n}, (∀ j, j < n → mt j = some (enc q (f j))) → sumN (fun a => gS (G a) (tnF mt q n a)) 5 = sumN (fun e => gS (fun a => G a e) (f e)) n
  | 0, _ => sumN_0
  | n + 1, hm => by
    have ih := re1 (aB := aB) hq5 hinj hq G (n := n) (fun j hj => hm j (by omega))
    show _ = sumN (fun e => gS (fun a => G a e) (f e)) n + gS (fun a => G a n) (f n)
    cases hz : f n with
    | none =>
      rw [tnF_ge (hm n (by omega)) (by rw [hz]; exact Nat.le_refl _), ih]; rfl
    | some b =>
      have hb := hq n b hz
      rw [tnF_lt (hm n (by omega)) (by rw [hz]; exact hb), hz]
      show sumN (fun a => gS (G a) (va_up (tnF mt q n) b (some n) a)) 5 = _
      have hnone : tnF mt q n b = none := by
        cases hy : tnF mt q n b with
        | none => rfl
        | some e =>
          have := (tn_f (aB := aB) (k := 0) hinj hq (fun j hj => hm j (by omega)) b e).mp hy
          have := hinj e n b this.2 hz
          omega
      rw [sumN_up (g := fun a => gS (G a) (tnF mt q n a)) (c := b) (by show gS (G b) (tnF mt q n b) = 0; rw [hnone]; rfl) (fun j hj => by show gS (G j) (va_up _ b _ j) = _; rw [vu_ne hj]) (by omega), ih]
      show _ + gS (G b) (va_up (tnF mt q n) b (some n) b) = _ + G b n
      rw [vu_eq]; rfl
/-- all pairs: below and above the line -/
theorem tri {Q : Nat → Nat → Nat} (h0 : ∀ e, Q e e = 0) : ∀ n, sumN (fun e => sumN (fun l => Q e l) n) n = sumN (fun l => sumN (fun e => Q e l + Q l e) l) n
  | 0 => rfl
  | n + 1 => by
    have ih := tri h0 n
    show sumN (fun e => sumN (fun l => Q e l) n + Q e n) n + (sumN (fun l => Q n l) n + Q n n) = sumN (fun l => sumN (fun e => Q e l + Q l e) l) n + sumN (fun e => Q e n + Q n e) n
    have e1 := sumN_pl (g := fun e => sumN (fun l => Q e l) n) (h := fun e => Q e n) n
    have e2 := sumN_pl (g := fun e => Q e n) (h := fun l => Q n l) n
    have e3 := h0 n
    omega
/-- one kind of a wanted link -/
def pk (h d b : Bool) : Nat := if h = true then 4 else if d = true then 2 else if b = true then 1 else 0
theorem pf_sum1 : ∀ w, w < 16 → ∀ h, h < 16 → ∀ b, b < 16 → pf w h 0 b = sumN (fun k => if w.testBit k = true then pk (h.testBit k) false (b.testBit k) else 0) 4 ∧ pf w h 1 b = sumN (fun k => if w.testBit k = true then pk (h.testBit k) true (b.testBit k) else 0) 4 := by decide +kernel
theorem pf_sum {w h d b : Nat} (hw : w < 16) (hh : h < 16) (hb : b < 16) : pf w h d b = sumN (fun k => if w.testBit k = true then pk (h.testBit k) (decide (d ≠ 0)) (b.testBit k) else 0) 4 := by
  by_cases e : d = 0
  · subst e; exact (pf_sum1 w hw h hh b hb).1
  · rw [show pf w h d b = pf w h 1 b from by unfold pf; rw [if_neg e, if_neg (by decide)]]
    rw [show decide (d ≠ 0) = true from by simp [e]]
    exact (pf_sum1 w hw h hh b hb).2
theorem pf_0 {h d b : Nat} : pf 0 h d b = 0 := by
  unfold pf; rw [Nat.zero_and, Nat.zero_and, Nat.zero_and]; split <;> rfl
theorem tb4 : ∀ d, d < 16 → (d.testBit 0 || d.testBit 1 || d.testBit 2 || d.testBit 3) = decide (d ≠ 0) := by decide +kernel
/-- the links of a map, by masks and by places -/
def mskR (m : Nat) (hs : Nat → Bool) (mm : Nat → Nat) : Prop := ∀ a b k, a < 5 → b < 5 → k < 4 → hs (atF m a b k) = (mm (a * 5 + b)).testBit k
theorem isOt_m {hs : Nat → Bool} {pm : Nat → Nat} (hR : mskR 0 hs pm) (hp : mOk pm) {a b : Nat} (ha : a < 5) (hb : b < 5) : isOt hs a b 4 = decide (pm (a * 5 + b) ≠ 0) := by
  show (((((false || hs (atF 0 a b 0)) || hs (atF 0 a b 1)) || hs (atF 0 a b 2)) || hs (atF 0 a b 3))) = _
  rw [hR a b 0 ha hb (by omega), hR a b 1 ha hb (by omega), hR a b 2 ha hb (by omega), hR a b 3 ha hb (by omega), Bool.false_or]
  exact tb4 _ (hp _)
theorem vdF_m {hs ho : Nat → Bool} {pm hd : Nat → Nat} (h1 : mskR 0 hs pm) (h2 : mskR 0 ho hd) (hp : mOk pm) {bk : Nat → Option Nat} {a b k e l : Nat} (he : e < 5) (hl : l < 5) (hk : k < 4) (hbe : bk a = some e) (hbl : bk b = some l) : ptW (vdF hs ho bk a b k) = pk ((hd (e * 5 + l)).testBit k) (decide (pm (e * 5 + l) ≠ 0)) ((pm (l * 5 + e)).testBit k) := by
  rw [vdF_s hbe hbl, h2 e l k he hl hk, isOt_m h1 hp he hl, h1 l e k hl he hk]
  unfold pk
  split
  · rfl
  · split
    · rfl
    · split <;> rfl
/-- what two ideas of the pupil, given two of the model, get -/
def PRm (mm hd pm : Nat → Nat) : Nat → Nat → Nat → Nat → Nat := fun e l a b => fpP mm (hd (e * 5 + l)) (hd (l * 5 + e)) (pm (e * 5 + l)) (pm (l * 5 + e)) a b
def H2 (mm hd pm : Nat → Nat) (e l a b : Nat) : Nat := pf (mm (a * 5 + b)) (hd (e * 5 + l)) (pm (e * 5 + l)) (pm (l * 5 + e))
theorem pwS_sum {PR : Nat → Nat → Nat → Nat → Nat} {f : Nat → Option Nat} {i o : Nat} : ∀ n, pwS PR f i o n = sumN (fun e => gS (fun a => PR e i a o) (f e)) n
  | 0 => rfl
  | n + 1 => by
    show (match f n with | none => pwS PR f i o n | some a => pwS PR f i o n + PR n i a o) = sumN _ n + gS _ (f n)
    rw [pwS_sum n]
    cases f n <;> rfl
theorem scS_sum {PR : Nat → Nat → Nat → Nat → Nat} {f : Nat → Option Nat} : ∀ n, scS PR f n = sumN (fun l => gS (fun o => sumN (fun e => gS (fun a => PR e l a o) (f e)) l) (f l)) n
  | 0 => rfl
  | n + 1 => by
    show (match f n with | none => scS PR f n | some o => scS PR f n + pwS PR f n o n) = sumN _ n + gS _ (f n)
    rw [scS_sum n]
    cases f n with
    | none => rfl
    | some o => show _ + pwS PR f n o n = _ + sumN _ n; rw [pwS_sum]
theorem ptF_sum {hs ho : Nat → Bool} {bk : Nat → Option Nat} {m : Nat} : ∀ n, ptF hs ho bk m n = sumN (fun k => if hs (100 * m + k) = true then ptW (vdF hs ho bk (k / 20) (k / 4 % 5) (k % 4)) else 0) n
  | 0 => rfl
  | n + 1 => by
    show ptF hs ho bk m n + _ = sumN _ n + _
    rw [ptF_sum n]
theorem gS_0 {G : Nat → Nat} {o : Option Nat} (h : ∀ e, o = some e → G e = 0) : gS G o = 0 := by
  cases o with
  | none => rfl
  | some e => exact h e rfl
theorem gS_cg {G H : Nat → Nat} {o : Option Nat} (h : ∀ e, o = some e → G e = H e) : gS G o = gS H o := by
  cases o with
  | none => rfl
  | some e => exact h e rfl
/-- no link from an idea to itself -/
def dgOk (mm : Nat → Nat) : Prop := ∀ a, a < 5 → mm (a * 5 + a) = 0
theorem ptF_scS {aB : Nat → Nat → Bool} {hs ho : Nat → Bool} {mm hd pm : Nat → Nat} {m p q : Nat} (hp5 : p ≤ 5) (hq5 : q ≤ 5) (h1 : mskR 0 hs pm) (h2 : mskR 0 ho hd) (h3 : mskR m hs mm) (hpm : mOk pm) (hhd : mOk hd) (hmm : mOk mm) (hdg : dgOk mm) (mt f : Nat → Option Nat) (hv : vld aB q f p) (he : encR q p mt f) : ptF hs ho (tnF mt q p) m 100 = scS (PRm mm hd pm) f p := by
  have hinj := hv.2
  have hqf : ∀ e a, f e = some a → a < q := fun e a z => (hv.1 e a z).2.1
  have htn := tn_f (aB := aB) (k := 0) hinj hqf he
  have s1 : ptF hs ho (tnF mt q p) m 100 = sumN (fun a => sumN (fun b => gS (fun e => gS (fun l => H2 mm hd pm e l a b) (tnF mt q p b)) (tnF mt q p a)) 5) 5 := by
    rw [ptF_sum, show (100 : Nat) = 5 * 20 from rfl, sumN_mul]
    refine sumN_cg (fun a ha => ?_)
    show sumN _ (5 * 4) = _
    rw [sumN_mul]
    refine sumN_cg (fun b hb => ?_)
    have e1 : ∀ k, k < 4 → (a * 20 + (b * 4 + k)) / 20 = a ∧ (a * 20 + (b * 4 + k)) / 4 % 5 = b ∧ (a * 20 + (b * 4 + k)) % 4 = k ∧ 100 * m + (a * 20 + (b * 4 + k)) = atF m a b k := fun k hk => ⟨by omega, by omega, by omega, by unfold atF; omega⟩
    cases hta : tnF mt q p a with
    | none =>
      show _ = 0
      refine (sumN_cg (h := fun _ => 0) (fun k hk => ?_)).trans sumN_0
      obtain ⟨ea, eb, ek, _⟩ := e1 k hk
      rw [ea, eb, ek, vdF_n1 hta]; split <;> rfl
    | some e =>
      cases htb : tnF mt q p b with
      | none =>
        show _ = 0
        refine (sumN_cg (h := fun _ => 0) (fun k hk => ?_)).trans sumN_0
        obtain ⟨ea, eb, ek, _⟩ := e1 k hk
        rw [ea, eb, ek, vdF_n2 htb]; split <;> rfl
      | some l =>
        have hep := ((htn a e).mp hta).1
        have hlp := ((htn b l).mp htb).1
        show _ = H2 mm hd pm e l a b
        unfold H2
        rw [pf_sum (hmm _) (hhd _) (hpm _)]
        refine sumN_cg (fun k hk => ?_)
        obtain ⟨ea, eb, ek, ei⟩ := e1 k hk
        rw [ea, eb, ek, ei, h3 a b k ha hb hk, vdF_m h1 h2 hpm (by omega) (by omega) hk hta htb]
  have s2 : ∀ a, sumN (fun b => gS (fun e => gS (fun l => H2 mm hd pm e l a b) (tnF mt q p b)) (tnF mt q p a)) 5 = gS (fun e => sumN (fun l => gS (fun b => H2 mm hd pm e l a b) (f l)) p) (tnF mt q p a) := by
    intro a
    cases tnF mt q p a with
    | none => exact sumN_0
    | some e => exact re1 (aB := aB) hq5 hinj hqf (fun b l => H2 mm hd pm e l a b) he
  rw [s1, sumN_cg (fun a _ => s2 a), re1 (aB := aB) hq5 hinj hqf (fun a e => sumN (fun l => gS (fun b => H2 mm hd pm e l a b) (f l)) p) he]
  have s3 : sumN (fun e => gS (fun a => sumN (fun l => gS (fun b => H2 mm hd pm e l a b) (f l)) p) (f e)) p = sumN (fun e => sumN (fun l => gS (fun a => gS (fun b => H2 mm hd pm e l a b) (f l)) (f e)) p) p := by
    refine sumN_cg (fun e _ => ?_)
    cases f e with
    | none => exact sumN_0.symm
    | some a => rfl
  rw [s3, tri (Q := fun e l => gS (fun a => gS (fun b => H2 mm hd pm e l a b) (f l)) (f e)) (fun e => gS_0 (fun a ha => by
    show gS (fun b => H2 mm hd pm e e a b) (f e) = 0
    rw [ha]; show H2 mm hd pm e e a a = 0
    unfold H2; rw [hdg a (by have := hqf e a ha; omega)]; exact pf_0)) p, scS_sum]
  refine sumN_cg (fun l _ => ?_)
  cases hl : f l with
  | none =>
    show _ = 0
    refine (sumN_cg (h := fun _ => 0) (fun e _ => ?_)).trans sumN_0
    show gS (fun a => 0) (f e) + 0 = 0
    rw [gS_0 (fun _ _ => rfl)]
  | some b =>
    show _ = sumN (fun e => gS (fun a => PRm mm hd pm e l a b) (f e)) l
    refine sumN_cg (fun e _ => ?_)
    cases f e with
    | none => rfl
    | some a => rfl
