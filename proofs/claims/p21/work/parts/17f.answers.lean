/-! the answers, in plain words, and that the class's rows come to them -/
theorem pidF_cg {f f2 : Nat → Option Nat} {o p : Nat} (h : ∀ j, j < p → f j = f2 j) : ∀ k, k ≤ p → pidF f o p k = pidF f2 o p k
  | 0, _ => rfl
  | k + 1, hk => by
    show (if f (p - (k + 1)) = some o then some (p - (k + 1)) else pidF f o p k) = (if f2 (p - (k + 1)) = some o then some (p - (k + 1)) else pidF f2 o p k)
    rw [h (p - (k + 1)) (by omega), pidF_cg h k (by omega)]
theorem pidF_sd {f : Nat → Option Nat} {o p : Nat} : ∀ k e, k ≤ p → pidF f o p k = some e → f e = some o
  | 0, _, _, h => by cases h
  | k + 1, e, hk, h => by
    have h : (if f (p - (k + 1)) = some o then some (p - (k + 1)) else pidF f o p k) = some e := h
    split at h
    · next h2 => cases h; exact h2
    · exact pidF_sd k e (by omega) h
theorem pidF_nn {f : Nat → Option Nat} {o p : Nat} : ∀ k e, k ≤ p → pidF f o p k = none → p ≤ e + k → e < p → f e ≠ some o
  | 0, _, _, _, h1, h2 => by omega
  | k + 1, e, hk, h, h1, h2 => by
    have h : (if f (p - (k + 1)) = some o then some (p - (k + 1)) else pidF f o p k) = none := h
    split at h
    · cases h
    · next h3 =>
      by_cases e1 : e = p - (k + 1)
      · rw [e1]; exact h3
      · exact pidF_nn k e (by omega) h (by omega) h2
/-- the class's way back is the reference's -/
theorem pid_tn {aB : Nat → Nat → Bool} {mt f : Nat → Option Nat} {q p : Nat} (hv : vld aB q f p) (he : encR q p mt f) (o : Nat) : pidF f o p p = tnF mt q p o := by
  have htn := tn_f (aB := aB) (k := 0) hv.2 (fun e a z => (hv.1 e a z).2.1) he
  cases h : pidF f o p p with
  | none =>
    cases h2 : tnF mt q p o with
    | none => rfl
    | some e => have h3 := (htn o e).mp h2; exact absurd h3.2 (pidF_nn p e (Nat.le_refl _) h (by omega) h3.1)
  | some e =>
    exact ((htn o e).mpr ⟨(hv.1 e o (pidF_sd p e (Nat.le_refl _) h)).1, pidF_sd p e (Nat.le_refl _) h⟩).symm
theorem vw_pk : ∀ k, k < 4 → ∀ h, h < 16 → ∀ b, b < 16 → vwF (pf (1 <<< k) h 0 b) = (if h.testBit k = true then 3 else if b.testBit k = true then 1 else 0) ∧ vwF (pf (1 <<< k) h 1 b) = (if h.testBit k = true then 3 else 2) := by decide +kernel
theorem vdC_vdF {hs ho : Nat → Bool} {bk f : Nat → Option Nat} {pm hd : Nat → Nat} {p a b k : Nat} (hp5 : p ≤ 5) (h1 : mskR 0 hs pm) (h2 : mskR 0 ho hd) (hpm : mOk pm) (hhd : mOk hd) (hk : k < 4) (ha : pidF f a p p = bk a) (hb : pidF f b p p = bk b) : vdC f p hd pm a b k = vdF hs ho bk a b k := by
  cases hz : bk a with
  | none => rw [hz] at ha; rw [vdC_n1 ha, vdF_n1 hz]
  | some e =>
    cases hy : bk b with
    | none => rw [hy] at hb; rw [vdC_n2 hb, vdF_n2 hy]
    | some l =>
      rw [hz] at ha; rw [hy] at hb
      have he := pidF_lt p e (Nat.le_refl _) ha
      have hl := pidF_lt p l (Nat.le_refl _) hb
      rw [vdC_s ha hb, vdF_s hz hy, h2 e l k (by omega) (by omega) hk, isOt_m h1 hpm (by omega) (by omega), h1 l e k (by omega) (by omega) hk]
      have h9 := vw_pk k hk (hd (e * 5 + l)) (hhd _) (pm (l * 5 + e)) (hpm _)
      by_cases e0 : pm (e * 5 + l) = 0
      · rw [e0, h9.1]; simp
      · rw [show pf (1 <<< k) (hd (e * 5 + l)) (pm (e * 5 + l)) (pm (l * 5 + e)) = pf (1 <<< k) (hd (e * 5 + l)) 1 (pm (l * 5 + e)) from by unfold pf; rw [if_neg e0, if_neg (by decide)], h9.2]; simp [e0]
theorem lackN_cg {f f2 : Nat → Option Nat} {p : Nat} (h : ∀ j, j < p → f j = f2 j) : ∀ n, lackN f p n = lackN f2 p n
  | 0 => rfl
  | n + 1 => by
    show lackN f p n + _ = lackN f2 p n + _
    rw [lackN_cg h n, pidF_cg h p (Nat.le_refl _)]
/-- how many ideas of the model no idea of the pupil is given, by the way back -/
def lkB (bk : Nat → Option Nat) : Nat → Nat
  | 0 => 0
  | i + 1 => lkB bk i + (if bk i = none then 1 else 0)
theorem lackN_lkB {f bk : Nat → Option Nat} {p : Nat} (h : ∀ o, pidF f o p p = bk o) : ∀ n, lackN f p n = lkB bk n
  | 0 => rfl
  | n + 1 => by
    show lackN f p n + _ = lkB bk n + _
    rw [lackN_lkB h n, h n]
/-- the answers -/
def vdA (ch : Nat → Option Nat) (gr wp wm pm mm : Nat → Nat) (pn qn f t k : Nat) : Nat := vdC (REm ch gr wp wm pm mm pn qn).2 pn (clo ch pm) pm f t k
def lkA (ch : Nat → Option Nat) (gr wp wm pm mm : Nat → Nat) (pn qn : Nat) : Nat := lackN (REm ch gr wp wm pm mm pn qn).2 pn qn
def mkA (ch : Nat → Option Nat) (gr wp wm pm mm : Nat → Nat) (pn qn : Nat) : Nat := if cntN mm 25 = 0 then 0 else 100 * MXm ch gr wp wm pm mm pn qn / (4 * cntN mm 25)
theorem fb1_vd {ch : Nat → Option Nat} {gr wp wm pm mm al pp hp : Nat → Nat} {tr bs : Nat → Option Nat} {pn qn f t k : Nat} (hp5 : pn ≤ 5) (hq : qn ≤ 5) : vdC (fb1 ch gr wp wm pm mm al pp hp tr bs pn qn).2.2 pn (clo ch pm) pm f t k = vdA ch gr wp wm pm mm pn qn f t k := by
  have h := (fb1_res (ch := ch) (gr := gr) (wp := wp) (wm := wm) (pm := pm) (mm := mm) (al := al) (pp := pp) (hp := hp) (tr := tr) (bs := bs) hp5 hq).2
  unfold vdA vdC
  rw [pidF_cg h pn (Nat.le_refl _), pidF_cg h pn (Nat.le_refl _)]
theorem fb1_lk {ch : Nat → Option Nat} {gr wp wm pm mm al pp hp : Nat → Nat} {tr bs : Nat → Option Nat} {pn qn : Nat} (hp5 : pn ≤ 5) (hq : qn ≤ 5) : lackN (fb1 ch gr wp wm pm mm al pp hp tr bs pn qn).2.2 pn qn = lkA ch gr wp wm pm mm pn qn :=
  lackN_cg (fb1_res hp5 hq).2 qn
/-- one candidate of a hint: from f to t, of kind d -/
def MXh (ch : Nat → Option Nat) (gr wp wm pm mm : Nat → Nat) (pn qn f t d : Nat) : Nat := (RES (aBm gr wp wm) (PRm mm (clo ch (hAdd (clo ch pm) f t d)) (hAdd pm f t d)) qn pn).1.getD 0
abbrev HG : Type := Option Nat × Nat
def hnT (ch : Nat → Option Nat) (gr wp wm pm mm : Nat → Nat) (pn qn f t d : Nat) (s : HG) : HG :=
  if f ≠ t ∧ f < pn ∧ t < pn ∧ (pm (f * 5 + t)).testBit d = false ∧ MXm ch gr wp wm pm mm pn qn + s.2 < MXh ch gr wp wm pm mm pn qn f t d then (some (100 * f + 10 * t + d), MXh ch gr wp wm pm mm pn qn f t d - MXm ch gr wp wm pm mm pn qn) else s
def foldP {α : Type} (step : Nat → α → α) (s : α) : Nat → α
  | 0 => s
  | n + 1 => step n (foldP step s n)
theorem foldP_cg {α : Type} {step st2 : Nat → α → α} {s : α} : ∀ n, (∀ j x, j < n → step j x = st2 j x) → foldP step s n = foldP st2 s n
  | 0, _ => rfl
  | n + 1, h => by
    show step n (foldP step s n) = st2 n (foldP st2 s n)
    rw [foldP_cg n (fun j x hj => h j x (by omega)), h n _ (by omega)]
theorem foldP_add {α : Type} {step : Nat → α → α} {s : α} {a : Nat} : ∀ b, foldP step s (a + b) = foldP (fun j => step (a + j)) (foldP step s a) b
  | 0 => rfl
  | b + 1 => by
    show step (a + b) (foldP step s (a + b)) = step (a + b) (foldP (fun j => step (a + j)) (foldP step s a) b)
    rw [foldP_add b]
theorem foldP_mul {α : Type} {step : Nat → α → α} {s : α} {b : Nat} : ∀ a, foldP step s (a * b) = foldP (fun i x => foldP (fun j => step (i * b + j)) x b) s a
  | 0 => by rw [Nat.zero_mul]; rfl
  | a + 1 => by rw [Nat.succ_mul, foldP_add, foldP_mul a]; rfl
theorem foldP_id {α : Type} {step : Nat → α → α} {s : α} {p n : Nat} (hn : p ≤ n) (h : ∀ j x, p ≤ j → step j x = x) : foldP step s n = foldP step s p := by
  induction n with
  | zero => rw [show p = 0 by omega]
  | succ n ih =>
    by_cases e : p = n + 1
    · rw [e]
    · show step n (foldP step s n) = _
      rw [h n _ (by omega), ih (by omega)]
/-- all candidates, in their order -/
def hnA (ch : Nat → Option Nat) (gr wp wm pm mm : Nat → Nat) (pn qn : Nat) (n : Nat) : HG := foldP (fun k => hnT ch gr wp wm pm mm pn qn (k / 20) (k / 4 % 5) (k % 4)) (none, 0) n
theorem hnA_nest {ch : Nat → Option Nat} {gr wp wm pm mm : Nat → Nat} {pn qn : Nat} (hp5 : pn ≤ 5) : hnA ch gr wp wm pm mm pn qn 100 = foldP (fun f x => foldP (fun t y => foldP (fun d => hnT ch gr wp wm pm mm pn qn f t d) y 4) x pn) (none, 0) pn := by
  unfold hnA
  rw [show (100 : Nat) = 5 * 20 from rfl, foldP_mul]
  have e1 : ∀ (f : Nat) (x : HG), f < 5 → foldP (fun j => hnT ch gr wp wm pm mm pn qn ((f * 20 + j) / 20) ((f * 20 + j) / 4 % 5) ((f * 20 + j) % 4)) x 20 = foldP (fun t y => foldP (fun d => hnT ch gr wp wm pm mm pn qn f t d) y 4) x pn := by
    intro f x hf
    rw [show (20 : Nat) = 5 * 4 from rfl, foldP_mul]
    rw [← foldP_id (p := pn) (n := 5) (step := fun t y => foldP (fun d => hnT ch gr wp wm pm mm pn qn f t d) y 4) hp5 (fun t y ht => foldP_id (p := 0) (Nat.zero_le _) (fun d z _ => by unfold hnT; rw [if_neg (fun w => by have := w.2.2.1; omega)]))]
    refine foldP_cg 5 (fun t y ht => foldP_cg 4 (fun d z hd => ?_))
    rw [show (f * (5 * 4) + (t * 4 + d)) / (5 * 4) = f by omega, show (f * (5 * 4) + (t * 4 + d)) / 4 % 5 = t by omega, show (f * (5 * 4) + (t * 4 + d)) % 4 = d by omega]
  rw [foldP_cg 5 (fun f x hf => e1 f x hf)]
  exact foldP_id hp5 (fun f x hf => foldP_id (p := 0) (Nat.zero_le _) (fun t y _ => foldP_id (p := 0) (Nat.zero_le _) (fun d z _ => by unfold hnT; rw [if_neg (fun w => by have := w.2.1; omega)])))
theorem hStep_T {ch : Nat → Option Nat} {gr wp wm pm mm al : Nat → Nat} {pn qn bef f t d : Nat} {s : HS} (hp5 : pn ≤ 5) (hq : qn ≤ 5) (hal : ∀ i o, i < pn → o < qn → aBm gr wp wm i o = (al i).testBit o) (hb : bef = MXm ch gr wp wm pm mm pn qn) (hf : f < pn) (ht : t < pn) : ((hStep ch pm (clo ch pm) mm al pn qn bef f t d s).1, (hStep ch pm (clo ch pm) mm al pn qn bef f t d s).2.1) = hnT ch gr wp wm pm mm pn qn f t d (s.1, s.2.1) := by
  unfold hStep hnT
  by_cases h1 : f ≠ t ∧ (pm (f * 5 + t)).testBit d = false
  · rw [if_pos h1]
    have hE := fbE_fl (al := al) (own := hAdd pm f t d) (hld := clo ch (hAdd (clo ch pm) f t d)) (wn := mm) (pp := s.2.2.2.2.1) (hp := s.2.2.2.2.2.1) (tr := s.2.2.2.2.2.2.1) (bs := s.2.2.2.2.2.2.2.1) (fl := bef + s.2.1) hp5 hq hal
    have hE : (fbE qn al (ppN al (hAdd pm f t d) (clo ch (hAdd (clo ch pm) f t d)) mm pn qn s.2.2.2.2.1 s.2.2.2.2.2.1) (hpN al (hAdd pm f t d) (clo ch (hAdd (clo ch pm) f t d)) mm pn qn s.2.2.2.2.1 s.2.2.2.2.2.1) pn s.2.2.2.2.2.2.1 (some (bef + s.2.1)) s.2.2.2.2.2.2.2.1).2.1.getD 0 = max (bef + s.2.1) (MXh ch gr wp wm pm mm pn qn f t d) := hE
    dsimp only
    rw [hE]
    by_cases h2 : bef + s.2.1 < MXh ch gr wp wm pm mm pn qn f t d
    · rw [if_pos (by omega), if_pos (by omega), if_pos ⟨h1.1, hf, ht, h1.2, by rw [← hb]; exact h2⟩, Nat.max_eq_right (by omega), hb]
    · rw [if_neg (by omega), if_neg (by omega), if_neg (fun w => h2 (by have := w.2.2.2.2; omega))]
  · rw [if_neg h1, if_neg (fun w => h1 ⟨w.1, w.2.2.2.1⟩)]
theorem hlK_T {ch : Nat → Option Nat} {gr wp wm pm mm al : Nat → Nat} {pn qn bef f t : Nat} {s : HS} (hp5 : pn ≤ 5) (hq : qn ≤ 5) (hal : ∀ i o, i < pn → o < qn → aBm gr wp wm i o = (al i).testBit o) (hb : bef = MXm ch gr wp wm pm mm pn qn) (hf : f < pn) (ht : t < pn) : ∀ n, ((hlK ch pm (clo ch pm) mm al pn qn bef f t s n).1, (hlK ch pm (clo ch pm) mm al pn qn bef f t s n).2.1) = foldP (fun d => hnT ch gr wp wm pm mm pn qn f t d) (s.1, s.2.1) n
  | 0 => rfl
  | n + 1 => by
    show ((hStep ch pm (clo ch pm) mm al pn qn bef f t n _).1, (hStep ch pm (clo ch pm) mm al pn qn bef f t n _).2.1) = hnT ch gr wp wm pm mm pn qn f t n (foldP _ _ n)
    rw [hStep_T hp5 hq hal hb hf ht, hlK_T hp5 hq hal hb hf ht n]
theorem hlT_T {ch : Nat → Option Nat} {gr wp wm pm mm al : Nat → Nat} {pn qn bef f : Nat} {s : HS} (hp5 : pn ≤ 5) (hq : qn ≤ 5) (hal : ∀ i o, i < pn → o < qn → aBm gr wp wm i o = (al i).testBit o) (hb : bef = MXm ch gr wp wm pm mm pn qn) (hf : f < pn) : ∀ n, n ≤ pn → ((hlT ch pm (clo ch pm) mm al pn qn bef f s n).1, (hlT ch pm (clo ch pm) mm al pn qn bef f s n).2.1) = foldP (fun t y => foldP (fun d => hnT ch gr wp wm pm mm pn qn f t d) y 4) (s.1, s.2.1) n
  | 0, _ => rfl
  | n + 1, hn => by
    show ((hlK ch pm (clo ch pm) mm al pn qn bef f n _ 4).1, (hlK ch pm (clo ch pm) mm al pn qn bef f n _ 4).2.1) = foldP _ (foldP _ _ n) 4
    rw [hlK_T hp5 hq hal hb hf (by omega) 4, hlT_T hp5 hq hal hb hf n (by omega)]
theorem hlF_T {ch : Nat → Option Nat} {gr wp wm pm mm al : Nat → Nat} {pn qn bef : Nat} {s : HS} (hp5 : pn ≤ 5) (hq : qn ≤ 5) (hal : ∀ i o, i < pn → o < qn → aBm gr wp wm i o = (al i).testBit o) (hb : bef = MXm ch gr wp wm pm mm pn qn) : ∀ n, n ≤ pn → ((hlF ch pm (clo ch pm) mm al pn qn bef s n).1, (hlF ch pm (clo ch pm) mm al pn qn bef s n).2.1) = foldP (fun f x => foldP (fun t y => foldP (fun d => hnT ch gr wp wm pm mm pn qn f t d) y 4) x pn) (s.1, s.2.1) n
  | 0, _ => rfl
  | n + 1, hn => by
    show ((hlT ch pm (clo ch pm) mm al pn qn bef n _ pn).1, (hlT ch pm (clo ch pm) mm al pn qn bef n _ pn).2.1) = foldP _ (foldP _ _ n) pn
    rw [hlT_T hp5 hq hal hb (by omega) pn (Nat.le_refl _), hlF_T hp5 hq hal hb n (by omega)]
theorem fblR_T {ch : Nat → Option Nat} {gr wp wm pm mm al pp hp : Nat → Nat} {tr bs : Nat → Option Nat} {pn qn : Nat} {tlm thm : Nat → Nat} (hp5 : pn ≤ 5) (hq : qn ≤ 5) : ((fblR ch gr wp wm pm mm al pp hp tr bs pn qn tlm thm).1, (fblR ch gr wp wm pm mm al pp hp tr bs pn qn tlm thm).2.1) = hnA ch gr wp wm pm mm pn qn 100 := by
  unfold fblR
  rw [hlF_T hp5 hq alN_tb (fb1_res hp5 hq).1 pn (Nat.le_refl _), hnA_nest hp5]; rfl
/-- the model with the greatest mark -/
def bmT (mk : Nat → Nat) (ct : Nat → Nat) (i : Nat) (s : Option Nat × Option Nat) : Option Nat × Option Nat :=
  if i = 0 ∨ ct i = 0 then s else if leO (mk i) s.2 = true then s else (some i, some (mk i))
def bmA (ch : Nat → Option Nat) (gr wp pm : Nat → Nat) (pn : Nat) (wF mF : Nat → Nat → Nat) (qF : Nat → Nat) : Option Nat × Option Nat := foldP (bmT (fun i => mkA ch gr wp (wF i) pm (mF i) pn (qF i)) (fun i => cntN (mF i) 25)) (none, none) 4
theorem bmB_T {ch : Nat → Option Nat} {gr wp pm : Nat → Nat} {pn : Nat} {wF mF : Nat → Nat → Nat} {qF : Nat → Nat} {s : BM} (hp5 : pn ≤ 5) (hq : ∀ i, qF i ≤ 5) : ∀ n, ((bmB ch gr wp pm pn wF mF qF s n).1, (bmB ch gr wp pm pn wF mF qF s n).2.1) = foldP (bmT (fun i => mkA ch gr wp (wF i) pm (mF i) pn (qF i)) (fun i => cntN (mF i) 25)) (s.1, s.2.1) n
  | 0 => rfl
  | n + 1 => by
    have ih := bmB_T (ch := ch) (gr := gr) (wp := wp) (pm := pm) (wF := wF) (mF := mF) (s := s) hp5 hq n
    show ((if n = 0 then s else bmS ch gr wp pm pn (wF n) (mF n) (qF n) n (bmB ch gr wp pm pn wF mF qF s n)).1, (if n = 0 then s else bmS ch gr wp pm pn (wF n) (mF n) (qF n) n (bmB ch gr wp pm pn wF mF qF s n)).2.1) = bmT _ _ n (foldP _ _ n)
    rw [← ih]
    unfold bmT
    by_cases h0 : n = 0
    · subst h0; rw [if_pos rfl, if_pos (Or.inl rfl)]; rfl
    · rw [if_neg h0]
      by_cases hc : cntN (mF n) 25 = 0
      · rw [if_pos (Or.inr hc)]; unfold bmS; rw [if_pos hc]
      · rw [if_neg (fun w => w.elim h0 hc)]
        unfold bmS; rw [if_neg hc]
        dsimp only
        rw [(fb1_res hp5 (hq n)).1]
        have e : mkA ch gr wp (wF n) pm (mF n) pn (qF n) = 100 * MXm ch gr wp (wF n) pm (mF n) pn (qF n) / (4 * cntN (mF n) 25) := by unfold mkA; rw [if_neg hc]
        rw [← e]
        split <;> rfl
