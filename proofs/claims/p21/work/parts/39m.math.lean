/-! p21: what the law asks of the answers, in plain words of numbers -/
/-- the best matching has the points that are told -/
theorem dfs_sc {aB : Nat → Nat → Bool} {PR : Nat → Nat → Nat → Nat → Nat} {q p : Nat} : ∀ (d i : Nat) (f : Nat → Option Nat) (σ : SG), i + d = p → (∀ v, σ.1 = some v → v = scS PR σ.2 p) → ∀ v, (dfs aB PR q d i f σ).1 = some v → v = scS PR (dfs aB PR q d i f σ).2 p
  | 0, i, f, σ, hi, h => by
    intro v
    unfold dfs; split
    · exact h v
    · intro e
      have e1 : i = p := by omega
      subst e1; cases e; rfl
  | d + 1, i, f, σ, hi, h => by
    unfold dfs
    refine dfs_sc d (i + 1) f _ (by omega) ?_
    refine foldS_inv (I := fun s => ∀ v, s.1 = some v → v = scS PR s.2 p) (fun o s ho hs => ?_) h q (Nat.le_refl _)
    unfold dfStep; split
    · exact dfs_sc d (i + 1) _ s (by omega) hs
    · exact hs
theorem RES_sc {aB : Nat → Nat → Bool} {PR : Nat → Nat → Nat → Nat → Nat} {q p : Nat} : (RES aB PR q p).1.getD 0 = scS PR (RES aB PR q p).2 p :=
  dfs_sc p 0 (fun _ => none) (none, fun _ => none) (by omega) (fun v h => by cases h) _ RES_1
/-- the links of a map by their places -/
def hsM (mF : Nat → Nat → Nat) (j : Nat) : Bool := (mF (j / 100) (j % 100 / 20 * 5 + j % 20 / 4)).testBit (j % 4)
theorem hsM_R (mF : Nat → Nat → Nat) (m : Nat) : mskR m (hsM mF) (mF m) := by
  intro a b k ha hb hk
  unfold hsM atF
  rw [show (100 * m + 20 * a + 4 * b + k) / 100 = m by omega, show (100 * m + 20 * a + 4 * b + k) % 100 / 20 = a by omega, show (100 * m + 20 * a + 4 * b + k) % 20 / 4 = b by omega, show (100 * m + 20 * a + 4 * b + k) % 4 = k by omega]
/-- the points of a link of the model by its verdict -/
def lkP (ch : Nat → Option Nat) (gr wp wm pm mm : Nat → Nat) (pn qn a b d : Nat) : Nat := if (mm (a * 5 + b)).testBit d = true then ptW (vdA ch gr wp wm pm mm pn qn a b d) else 0
theorem MX_sum {ch : Nat → Option Nat} {gr wp wm pm mm : Nat → Nat} {pn qn : Nat} (hp5 : pn ≤ 5) (hq5 : qn ≤ 5) (hc : chOk ch) (hpm : mOk pm) (hmm : mOk mm) (hdg : dgOk mm) : MXm ch gr wp wm pm mm pn qn = sumN (fun k => lkP ch gr wp wm pm mm pn qn (k / 20) (k / 4 % 5) (k % 4)) 100 := by
  have hhd := clo_ok hc hpm
  have h1 : mskR 0 (hsM (fun i => if i = 0 then pm else mm)) pm := hsM_R (fun i => if i = 0 then pm else mm) 0
  have h3 : mskR 1 (hsM (fun i => if i = 0 then pm else mm)) mm := hsM_R (fun i => if i = 0 then pm else mm) 1
  have h2 : mskR 0 (hsM (fun _ => clo ch pm)) (clo ch pm) := hsM_R (fun _ => clo ch pm) 0
  have hv : vld (aBm gr wp wm) qn (REm ch gr wp wm pm mm pn qn).2 pn := RES_ok.2
  have he : encR qn pn (fun j => some (enc qn ((REm ch gr wp wm pm mm pn qn).2 j))) (REm ch gr wp wm pm mm pn qn).2 := fun _ _ => rfl
  have e1 : MXm ch gr wp wm pm mm pn qn = scS (PRm mm (clo ch pm) pm) (REm ch gr wp wm pm mm pn qn).2 pn := RES_sc
  rw [e1, ← ptF_scS hp5 hq5 h1 h2 h3 hpm hhd hmm hdg _ _ hv he, ptF_sum]
  refine sumN_cg (fun k hk => ?_)
  unfold lkP vdA
  rw [vdC_vdF hp5 h1 h2 hpm hhd (show k % 4 < 4 by omega) (pid_tn hv he (k / 20)) (pid_tn hv he (k / 4 % 5))]
  have h9 := h3 (k / 20) (k / 4 % 5) (k % 4) (by omega) (by omega) (by omega)
  rw [show atF 1 (k / 20) (k / 4 % 5) (k % 4) = 100 * 1 + k by unfold atF; omega] at h9
  rw [h9]
/-- sums over the places that there are -/
theorem sumN_out {g : Nat → Nat} {n : Nat} : ∀ {N}, n ≤ N → (∀ j, n ≤ j → j < N → g j = 0) → sumN g N = sumN g n
  | 0, h, _ => by rw [show n = 0 by omega]
  | N + 1, h, h0 => by
    by_cases e : n = N + 1
    · rw [e]
    · show sumN g N + g N = _
      rw [sumN_out (N := N) (by omega) (fun j h1 h2 => h0 j h1 (by omega)), h0 N (by omega) (by omega)]; omega
theorem sum5 {T : Nat → Nat → Nat → Nat} : sumN (fun k => T (k / 20) (k / 4 % 5) (k % 4)) 100 = sumN (fun a => sumN (fun b => sumN (fun d => T a b d) 4) 5) 5 := by
  rw [show (100 : Nat) = 5 * 20 from rfl, sumN_mul]
  refine sumN_cg (fun a ha => ?_)
  show sumN _ (5 * 4) = _
  rw [sumN_mul]
  refine sumN_cg (fun b hb => sumN_cg (fun d hd => ?_))
  rw [show (a * 20 + (b * 4 + d)) / 20 = a by omega, show (a * 20 + (b * 4 + d)) / 4 % 5 = b by omega, show (a * 20 + (b * 4 + d)) % 4 = d by omega]
theorem sumn {T : Nat → Nat → Nat → Nat} {n : Nat} : sumN (fun k => T (k / 4 / n) (k / 4 % n) (k % 4)) (n * n * 4) = sumN (fun a => sumN (fun b => sumN (fun d => T a b d) 4) n) n := by
  rw [sumN_mul (b := 4), sumN_mul (b := n)]
  refine sumN_cg (fun a ha => sumN_cg (fun b hb => sumN_cg (fun d hd => ?_)))
  rw [show ((a * n + b) * 4 + d) / 4 = a * n + b by omega, show ((a * n + b) * 4 + d) % 4 = d by omega]
  rw [show (a * n + b) / n = a from by rw [Nat.mul_comm, Nat.mul_add_div (by omega), Nat.div_eq_of_lt hb, Nat.add_zero], show (a * n + b) % n = b from by rw [Nat.mul_comm, Nat.mul_add_mod, Nat.mod_eq_of_lt hb]]
theorem sumn5 {T : Nat → Nat → Nat → Nat} {n : Nat} (hn : n ≤ 5) (h0 : ∀ a b d, a < 5 → b < 5 → (n ≤ a ∨ n ≤ b) → T a b d = 0) : sumN (fun k => T (k / 4 / n) (k / 4 % n) (k % 4)) (n * n * 4) = sumN (fun k => T (k / 20) (k / 4 % 5) (k % 4)) 100 := by
  rw [sumn, sum5]
  rw [sumN_out (g := fun a => sumN (fun b => sumN (fun d => T a b d) 4) 5) hn (fun a h1 h2 => by
    refine (sumN_cg (h := fun _ => 0) (fun b hb => ?_)).trans sumN_0
    exact (sumN_cg (h := fun _ => 0) (fun d hd => h0 a b d h2 hb (Or.inl h1))).trans sumN_0)]
  refine sumN_cg (fun a ha => ?_)
  exact (sumN_out (g := fun b => sumN (fun d => T a b d) 4) hn (fun b h1 h2 => (sumN_cg (h := fun _ => 0) (fun d hd => h0 a b d (by omega) h2 (Or.inr h1))).trans sumN_0)).symm
/-- one link -/
def lk1 (mm : Nat → Nat) (a b d : Nat) : Nat := if (mm (a * 5 + b)).testBit d = true then 1 else 0
theorem cnt_sum {mm : Nat → Nat} (hmm : mOk mm) : cntN mm 25 = sumN (fun k => lk1 mm (k / 20) (k / 4 % 5) (k % 4)) 100 := by
  rw [sum5, cntN_sum, show (25 : Nat) = 5 * 5 from rfl, sumN_mul]
  refine sumN_cg (fun a ha => sumN_cg (fun b hb => ?_))
  rw [pc4_sum _ (hmm _)]; rfl
def okM (n : Nat) (mm : Nat → Nat) : Prop := ∀ a b, a < 5 → b < 5 → mm (a * 5 + b) ≠ 0 → a ≠ b ∧ a < n ∧ b < n
theorem okM_dg {n : Nat} {mm : Nat → Nat} (h : okM n mm) : dgOk mm := fun a ha => Decidable.byContradiction (fun z => (h a a ha ha z).1 rfl)
theorem okM_0 {n : Nat} {mm : Nat → Nat} (h : okM n mm) {a b : Nat} (ha : a < 5) (hb : b < 5) (hab : n ≤ a ∨ n ≤ b) : mm (a * 5 + b) = 0 := Decidable.byContradiction (fun z => by have := h a b ha hb z; omega)
theorem cnt_n {mm : Nat → Nat} {n : Nat} (hn : n ≤ 5) (hmm : mOk mm) (h : okM n mm) : sumN (fun k => lk1 mm (k / 4 / n) (k / 4 % n) (k % 4)) (n * n * 4) = cntN mm 25 := by
  rw [cnt_sum hmm]
  exact sumn5 hn (fun a b d ha hb hab => by unfold lk1; rw [okM_0 h ha hb hab, Nat.zero_testBit]; rfl)
theorem pts_n {ch : Nat → Option Nat} {gr wp wm pm mm : Nat → Nat} {pn qn : Nat} (hp5 : pn ≤ 5) (hq5 : qn ≤ 5) (hc : chOk ch) (hpm : mOk pm) (hmm : mOk mm) (h : okM qn mm) : sumN (fun k => lkP ch gr wp wm pm mm pn qn (k / 4 / qn) (k / 4 % qn) (k % 4)) (qn * qn * 4) = MXm ch gr wp wm pm mm pn qn := by
  rw [MX_sum hp5 hq5 hc hpm hmm (okM_dg h)]
  exact sumn5 hq5 (fun a b d ha hb hab => by unfold lkP; rw [okM_0 h ha hb hab, Nat.zero_testBit]; rfl)
/-- a verdict is one of four -/
theorem vwF_le (v : Nat) : vwF v ≤ 3 := by unfold vwF; repeat' split
                                           all_goals omega
theorem vdA_le {ch : Nat → Option Nat} {gr wp wm pm mm : Nat → Nat} {pn qn a b d : Nat} : vdA ch gr wp wm pm mm pn qn a b d ≤ 3 := by
  unfold vdA vdC; split
  · omega
  · split
    · omega
    · exact vwF_le _
theorem ptW_le {v : Nat} (h : v ≤ 3) : ptW v ≤ 4 := by unfold ptW; split <;> omega
theorem lkP_le {ch : Nat → Option Nat} {gr wp wm pm mm : Nat → Nat} {pn qn a b d : Nat} : lkP ch gr wp wm pm mm pn qn a b d ≤ 4 := by
  unfold lkP; split
  · exact ptW_le vdA_le
  · omega
theorem lk1_le {mm : Nat → Nat} {a b d : Nat} : lk1 mm a b d ≤ 1 := by unfold lk1; split <;> omega
theorem sumN_le {g : Nat → Nat} {c : Nat} (h : ∀ j, g j ≤ c) : ∀ n, sumN g n ≤ c * n
  | 0 => Nat.zero_le _
  | n + 1 => by
    have := sumN_le h n; have := h n
    show sumN g n + g n ≤ c * (n + 1)
    rw [Nat.mul_succ]; omega
/-- what is held is no less than what there is -/
theorem pc4_mono : ∀ a, a < 16 → ∀ b, b < 16 → (∀ k, k < 4 → a.testBit k = true → b.testBit k = true) → pc4 a ≤ pc4 b := by decide +kernel
theorem cntN_mono {m m2 : Nat → Nat} : ∀ n, (∀ j, j < n → pc4 (m j) ≤ pc4 (m2 j)) → cntN m n ≤ cntN m2 n
  | 0, _ => Nat.le_refl _
  | n + 1, h => by
    have := cntN_mono (m := m) (m2 := m2) n (fun j hj => h j (by omega)); have := h n (by omega)
    show cntN m n + pc4 (m n) ≤ cntN m2 n + pc4 (m2 n); omega
theorem held_ge {ch : Nat → Option Nat} (hc : chOk ch) {m : Nat → Nat} (hm : mOk m) : cntN m 25 ≤ cntN (clo ch m) 25 := by
  refine cntN_mono 25 (fun j hj => pc4_mono _ (hm j) _ (clo_ok hc hm j) (fun k hk h => ?_))
  have h9 := clo_le (ch := ch) (m := m) (j / 5) (j % 5) k (by omega) (by omega) hk
  unfold sM at h9
  rw [show j / 5 * 5 + j % 5 = j by omega] at h9
  exact h9 h
theorem holds_own {ch : Nat → Option Nat} {m : Nat → Nat} {a b d : Nat} (ha : a < 5) (hb : b < 5) (hd : d < 4) (h : (m (a * 5 + b)).testBit d = true) : (clo ch m (a * 5 + b)).testBit d = true := clo_le a b d ha hb hd h
/-- nothing holds nothing -/
theorem cntN_0 {m : Nat → Nat} : ∀ n, (∀ j, j < n → m j = 0) → cntN m n = 0
  | 0, _ => rfl
  | n + 1, h => by
    show cntN m n + pc4 (m n) = 0
    rw [cntN_0 n (fun j hj => h j (by omega)), h n (by omega)]; rfl
theorem clo_none {ch : Nat → Option Nat} (hc : chOk ch) : cntN (clo ch (fun _ => 0)) 25 = 0 := by
  have hz : mOk (fun _ : Nat => 0) := fun _ => (by decide : 0 < 16)
  have h := clo_lt (ch := ch) (m := fun _ => 0) (T := fun _ _ _ => False) (fun a b c p k _ _ _ _ _ _ _ _ h _ => h) (fun a b k _ _ _ z => by unfold sM at z; rw [Nat.zero_testBit] at z; cases z)
  refine cntN_0 25 (fun j hj => msk_ext (clo_ok hc hz j) (by decide) (fun k hk => ?_))
  have h9 := h (j / 5) (j % 5) k (by omega) (by omega) hk
  unfold sM at h9
  rw [show j / 5 * 5 + j % 5 = j by omega] at h9
  rw [Nat.zero_testBit]
  cases e : (clo ch (fun _ => 0) j).testBit k with
  | false => rfl
  | true => exact (h9 e).elim
/-- the matching: which ideas are given, how many -/
def stF (f : Nat → Option Nat) : Nat → Nat
  | 0 => 0
  | k + 1 => match f k with
    | none => stF f k
    | some o => stF f k ||| (1 <<< o)
def gvF (f : Nat → Option Nat) : Nat → Nat
  | 0 => 0
  | k + 1 => match f k with
    | none => gvF f k
    | some _ => gvF f k + 1
theorem stF_n {f : Nat → Option Nat} {k : Nat} (h : f k = none) : stF f (k + 1) = stF f k := by show (match f k with | none => _ | some o => _) = _; rw [h]
theorem stF_s {f : Nat → Option Nat} {k o : Nat} (h : f k = some o) : stF f (k + 1) = stF f k ||| (1 <<< o) := by show (match f k with | none => _ | some o => _) = _; rw [h]
theorem gvF_n {f : Nat → Option Nat} {k : Nat} (h : f k = none) : gvF f (k + 1) = gvF f k := by show (match f k with | none => _ | some o => _) = _; rw [h]
theorem gvF_s {f : Nat → Option Nat} {k o : Nat} (h : f k = some o) : gvF f (k + 1) = gvF f k + 1 := by show (match f k with | none => _ | some o => _) = _; rw [h]
theorem stF_tb {f : Nat → Option Nat} (o : Nat) : ∀ k, (stF f k).testBit o = usd f o k
  | 0 => Nat.zero_testBit o
  | k + 1 => by
    have ih := stF_tb (f := f) o k
    show _ = (usd f o k || decide (f k = some o))
    cases hz : f k with
    | none => rw [stF_n hz, ih]; simp
    | some c =>
      rw [stF_s hz, or_tb, ih]
      by_cases e : o = c
      · subst e; simp
      · simp [e, Ne.symm e]
theorem stF_lt {f : Nat → Option Nat} (h : ∀ e a, f e = some a → a < 5) : ∀ k, stF f k < 32
  | 0 => show 0 < 32 by decide
  | k + 1 => by
    have ih := stF_lt h k
    cases hz : f k with
    | none => rw [stF_n hz]; exact ih
    | some c => rw [stF_s hz]; exact or32 ih (shl1_lt5 (h k c hz))
theorem gvF_le {f : Nat → Option Nat} : ∀ k, gvF f k ≤ k
  | 0 => Nat.le_refl _
  | k + 1 => by
    have ih := gvF_le (f := f) k
    cases hz : f k with
    | none => rw [gvF_n hz]; omega
    | some c => rw [gvF_s hz]; omega
theorem gvF_sum {f : Nat → Option Nat} : ∀ k, gvF f k = sumN (fun e => gS (fun _ => 1) (f e)) k
  | 0 => rfl
  | k + 1 => by
    show _ = sumN _ k + gS (fun _ => 1) (f k)
    rw [← gvF_sum k]
    cases hz : f k with
    | none => rw [gvF_n hz]; rfl
    | some c => rw [gvF_s hz]; rfl
/-- who is not given twice is free still -/
theorem st_free {aB : Nat → Nat → Bool} {f : Nat → Option Nat} {q p k o : Nat} (hv : vld aB q f p) (h : f k = some o) : (stF f k).testBit o = false := by
  rw [stF_tb]
  cases hz : usd f o k with
  | false => rfl
  | true => obtain ⟨e, he, h2⟩ := usd_iff.mp hz; have := hv.2 e k o h2 h; omega
theorem lack_gv {aB : Nat → Nat → Bool} {f : Nat → Option Nat} {q p : Nat} (hq5 : q ≤ 5) (hv : vld aB q f p) : lackN f p q + gvF f p = q := by
  have he : encR q p (fun j => some (enc q (f j))) f := fun _ _ => rfl
  have hqf : ∀ e a, f e = some a → a < q := fun e a z => (hv.1 e a z).2.1
  have h1 := re1 (aB := aB) hq5 hv.2 hqf (fun _ _ => 1) he
  rw [gvF_sum, ← h1]
  have h2 : sumN (fun a => gS (fun _ => 1) (tnF (fun j => some (enc q (f j))) q p a)) 5 = sumN (fun a => gS (fun _ => 1) (tnF (fun j => some (enc q (f j))) q p a)) q := sumN_out hq5 (fun o h1 h2 => by
    rw [← pid_tn hv he o]
    cases hz : pidF f o p p with
    | none => rfl
    | some e => have := hqf e o (pidF_sd p e (Nat.le_refl _) hz); omega)
  have h3 : ∀ n, lackN f p n + sumN (fun a => gS (fun _ => 1) (tnF (fun j => some (enc q (f j))) q p a)) n = n := by
    intro n
    induction n with
    | zero => rfl
    | succ n ih =>
      show lackN f p n + (if pidF f n p p = none then 1 else 0) + (sumN _ n + gS (fun _ => 1) (tnF _ q p n)) = n + 1
      rw [← pid_tn hv he n]
      cases hz : pidF f n p p with
      | none => rw [if_pos rfl]; show _ + 1 + (_ + 0) = _; omega
      | some e => rw [if_neg (fun z => by cases z)]; show _ + 0 + (_ + 1) = _; omega
  rw [h2]; exact h3 q
/-- a link told: one more, one less -/
theorem pc4_xor : ∀ a, a < 16 → ∀ d, d < 4 → (a.testBit d = false → pc4 (a ^^^ (1 <<< d)) = pc4 a + 1 ∧ a ^^^ (1 <<< d) = a ||| (1 <<< d)) ∧ (a.testBit d = true → pc4 (a ^^^ (1 <<< d)) + 1 = pc4 a) := by decide +kernel
theorem xor_xor (a d : Nat) : a ^^^ (1 <<< d) ^^^ (1 <<< d) = a := by rw [Nat.xor_assoc, Nat.xor_self, Nat.xor_zero]
def tgM (m : Nat → Nat) (f t d : Nat) : Nat → Nat := va_up m (f * 5 + t) (m (f * 5 + t) ^^^ (1 <<< d))
theorem tgM_tg (m : Nat → Nat) (f t d : Nat) : tgM (tgM m f t d) f t d = m := by
  unfold tgM
  funext j
  by_cases e : j = f * 5 + t
  · subst e; rw [vu_eq, vu_eq, xor_xor]
  · rw [vu_ne e, vu_ne e]
theorem tgM_at (m : Nat → Nat) (f t d : Nat) : tgM m f t d (f * 5 + t) = m (f * 5 + t) ^^^ (1 <<< d) := vu_eq
theorem tgM_tb (m : Nat → Nat) (f t d : Nat) : (tgM m f t d (f * 5 + t)).testBit d = !(m (f * 5 + t)).testBit d := by
  rw [tgM_at, Nat.testBit_xor, Nat.one_shiftLeft, Nat.testBit_two_pow]; simp
theorem tgM_ok {m : Nat → Nat} (h : mOk m) {f t d : Nat} (hd : d < 4) : mOk (tgM m f t d) := mOk_up h (xor16 (h _) (shl1_lt hd))
theorem tgM_okM {n : Nat} {m : Nat → Nat} (h : okM n m) {f t d : Nat} (hn : n ≤ 5) (hf : f < n) (ht : t < n) (hft : f ≠ t) : okM n (tgM m f t d) := by
  intro a b ha hb hz
  by_cases e : a * 5 + b = f * 5 + t
  · exact ⟨by omega, by omega, by omega⟩
  · unfold tgM at hz; rw [vu_ne e] at hz; exact h a b ha hb hz
theorem cnt_tg {m : Nat → Nat} (h : mOk m) {f t d : Nat} (hf : f < 5) (ht : t < 5) (hd : d < 4) : ((m (f * 5 + t)).testBit d = false → cntN (tgM m f t d) 25 = cntN m 25 + 1) ∧ ((m (f * 5 + t)).testBit d = true → cntN (tgM m f t d) 25 + 1 = cntN m 25) := by
  have h1 := cntN_up (m := m) (j := f * 5 + t) (v := m (f * 5 + t) ^^^ (1 <<< d)) 25
  rw [if_pos (by omega), if_pos (by omega)] at h1
  have h2 := pc4_xor (m (f * 5 + t)) (h _) d hd
  constructor
  · intro e; have := (h2.1 e).1; unfold tgM; omega
  · intro e; have := h2.2 e; unfold tgM; omega
theorem tgM_add {m : Nat → Nat} (h : mOk m) {f t d : Nat} (hd : d < 4) (e : (m (f * 5 + t)).testBit d = false) : tgM m f t d = hAdd m f t d := by
  unfold tgM hAdd; rw [((pc4_xor (m (f * 5 + t)) (h _) d hd).1 e).2]
/-- words that are synonyms -/
theorem jn_same {gr : Nat → Nat} {k i : Nat} : jn gr k k i = gr := by
  funext j; unfold jn; split
  · split
    · next h => exact h.symm
    · rfl
  · rfl
theorem jn_alike {gr : Nat → Nat} {a b : Nat} (ha : a < 32) (hb : b < 32) : jn gr (gr a) (gr b) 32 a = jn gr (gr a) (gr b) 32 b := by
  unfold jn; rw [if_pos ha, if_pos hb, if_pos rfl]
  split
  · rfl
  · rfl
/-- two searches over tables that agree -/
theorem dfs_cg {aB : Nat → Nat → Bool} {PR P2 : Nat → Nat → Nat → Nat → Nat} {q p : Nat} (h : ∀ f, scS PR f p = scS P2 f p) : ∀ (d i : Nat) (f : Nat → Option Nat) (σ : SG), i + d = p → dfs aB PR q d i f σ = dfs aB P2 q d i f σ
  | 0, i, f, σ, hi => by
    have e : i = p := by omega
    subst e
    unfold dfs; rw [h f]
  | d + 1, i, f, σ, hi => by
    unfold dfs
    have e1 : foldS (dfStep (dfs aB PR q d (i + 1)) aB i f) σ q = foldS (dfStep (dfs aB P2 q d (i + 1)) aB i f) σ q := by
      have : ∀ n, foldS (dfStep (dfs aB PR q d (i + 1)) aB i f) σ n = foldS (dfStep (dfs aB P2 q d (i + 1)) aB i f) σ n := by
        intro n
        induction n with
        | zero => rfl
        | succ n ih =>
          show dfStep _ aB i f n (foldS _ σ n) = dfStep _ aB i f n (foldS _ σ n)
          rw [ih]; unfold dfStep; split
          · exact dfs_cg h d (i + 1) _ _ (by omega)
          · rfl
      exact this q
    rw [e1]; exact dfs_cg h d (i + 1) f _ (by omega)
theorem scS_pr {PR P2 : Nat → Nat → Nat → Nat → Nat} {f : Nat → Option Nat} : ∀ {p}, (∀ e l a b, e < l → l < p → PR e l a b = P2 e l a b) → scS PR f p = scS P2 f p
  | 0, _ => rfl
  | p + 1, h => by
    have ih := scS_pr (f := f) (p := p) (fun e l a b h1 h2 => h e l a b h1 (by omega))
    show (match f p with | none => _ | some o => _) = (match f p with | none => _ | some o => _)
    rw [ih]
    split
    · rfl
    · next o ho =>
      have : ∀ n, n ≤ p → pwS PR f p o n = pwS P2 f p o n := by
        intro n
        induction n with
        | zero => intro _; rfl
        | succ n ih2 =>
          intro hn
          show (match f n with | none => _ | some a => _) = (match f n with | none => _ | some a => _)
          rw [ih2 (by omega)]
          split
          · rfl
          · rw [h n p _ o (by omega) (by omega)]
      rw [this p (Nat.le_refl _)]
/-- the hint followed -/
theorem MX_add {ch : Nat → Option Nat} {gr wp wm pm mm : Nat → Nat} {pn qn f t d : Nat} (hp5 : pn ≤ 5) (hc : chOk ch) (hpm : mOk pm) (hf : f < pn) (ht : t < pn) (hd : d < 4) : MXm ch gr wp wm (hAdd pm f t d) mm pn qn = MXh ch gr wp wm pm mm pn qn f t d := by
  have h9 := fun a b (ha : a < 5) (hb : b < 5) => clo_hAdd hc hpm (f := f) (t := t) (d := d) (by omega) (by omega) hd ha hb
  show (RES _ _ qn pn).1.getD 0 = (RES _ _ qn pn).1.getD 0
  unfold RES
  rw [dfs_cg (p := pn) (PR := PRm mm (clo ch (hAdd pm f t d)) (hAdd pm f t d)) (P2 := PRm mm (clo ch (hAdd (clo ch pm) f t d)) (hAdd pm f t d)) (fun g => scS_pr (fun e l a b h1 h2 => by
    unfold PRm
    rw [h9 e l (by omega) (by omega), h9 l e (by omega) (by omega)])) pn 0 _ _ (by omega)]
theorem hn_inv {ch : Nat → Option Nat} {gr wp wm pm mm : Nat → Nat} {pn qn : Nat} : ∀ n, n ≤ 100 → ((hnA ch gr wp wm pm mm pn qn n).1 = none → (hnA ch gr wp wm pm mm pn qn n).2 = 0) ∧ (∀ h, (hnA ch gr wp wm pm mm pn qn n).1 = some h → ∃ f t d, h = 100 * f + 10 * t + d ∧ f ≠ t ∧ f < pn ∧ t < pn ∧ d < 4 ∧ f < 5 ∧ t < 5 ∧ (pm (f * 5 + t)).testBit d = false ∧ 0 < (hnA ch gr wp wm pm mm pn qn n).2 ∧ MXh ch gr wp wm pm mm pn qn f t d = MXm ch gr wp wm pm mm pn qn + (hnA ch gr wp wm pm mm pn qn n).2)
  | 0, _ => ⟨fun _ => rfl, fun h z => by cases z⟩
  | n + 1, hn => by
    have ih := hn_inv (ch := ch) (gr := gr) (wp := wp) (wm := wm) (pm := pm) (mm := mm) (pn := pn) (qn := qn) n (by omega)
    show ((hnT ch gr wp wm pm mm pn qn (n / 20) (n / 4 % 5) (n % 4) (hnA ch gr wp wm pm mm pn qn n)).1 = none → (hnT ch gr wp wm pm mm pn qn (n / 20) (n / 4 % 5) (n % 4) (hnA ch gr wp wm pm mm pn qn n)).2 = 0) ∧ (∀ h, (hnT ch gr wp wm pm mm pn qn (n / 20) (n / 4 % 5) (n % 4) (hnA ch gr wp wm pm mm pn qn n)).1 = some h → ∃ f t d, h = 100 * f + 10 * t + d ∧ f ≠ t ∧ f < pn ∧ t < pn ∧ d < 4 ∧ f < 5 ∧ t < 5 ∧ (pm (f * 5 + t)).testBit d = false ∧ 0 < (hnT ch gr wp wm pm mm pn qn (n / 20) (n / 4 % 5) (n % 4) (hnA ch gr wp wm pm mm pn qn n)).2 ∧ MXh ch gr wp wm pm mm pn qn f t d = MXm ch gr wp wm pm mm pn qn + (hnT ch gr wp wm pm mm pn qn (n / 20) (n / 4 % 5) (n % 4) (hnA ch gr wp wm pm mm pn qn n)).2)
    unfold hnT; split
    · next hc =>
      refine ⟨fun z => (by cases z), fun h z => ?_⟩
      cases z
      refine ⟨n / 20, n / 4 % 5, n % 4, rfl, hc.1, hc.2.1, hc.2.2.1, by omega, by omega, by omega, hc.2.2.2.1, ?_, ?_⟩
      · have := hc.2.2.2.2; show 0 < _ - _; omega
      · have := hc.2.2.2.2; show _ = _ + (_ - _); omega
    · exact ih
/-- the best model -/
theorem bm_max {mk ct : Nat → Nat} : ∀ n, (∀ i, 0 < i → i < n → ct i ≠ 0 → ∃ b, (foldP (bmT mk ct) (none, none) n).1 = some b ∧ mk i ≤ mk b)
  | 0 => fun i _ h _ => absurd h (Nat.not_lt_zero i)
  | n + 1 => by
    intro i h0 hi hc
    have ih := bm_max (mk := mk) (ct := ct) n
    have hv := bm_inv (mk := mk) (ct := ct) n
    show ∃ b, (bmT mk ct n (foldP (bmT mk ct) (none, none) n)).1 = some b ∧ mk i ≤ mk b
    generalize foldP (bmT mk ct) (none, none) n = F at ih hv
    unfold bmT
    by_cases h1 : n = 0 ∨ ct n = 0
    · rw [if_pos h1]
      by_cases e : i = n
      · subst e; rcases h1 with h1 | h1
        · omega
        · exact absurd h1 hc
      · exact ih i h0 (by omega) hc
    · rw [if_neg h1]
      split
      · next hle =>
        cases hb : F.1 with
        | none => rw [hv.2 hb] at hle; exact absurd hle (by simp [leO])
        | some b =>
          rw [(hv.1 b hb).2.2.2] at hle
          have hle : mk n ≤ mk b := by simpa [leO] using hle
          by_cases e : i = n
          · subst e; exact ⟨b, rfl, hle⟩
          · obtain ⟨b2, h2, h3⟩ := ih i h0 (by omega) hc
            rw [hb] at h2; cases h2; exact ⟨b, rfl, h3⟩
      · next hle =>
        refine ⟨n, rfl, ?_⟩
        by_cases e : i = n
        · subst e; exact Nat.le_refl _
        · obtain ⟨b2, h2, h3⟩ := ih i h0 (by omega) hc
          rw [(hv.1 b2 h2).2.2.2] at hle
          have hle : ¬ mk n ≤ mk b2 := by simpa [leO] using hle
          omega
