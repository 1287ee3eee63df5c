/-! the reference's search is that search -/
def enc (q : Nat) (o : Option Nat) : Nat := match o with
  | none => q
  | some c => c
def encR (q k : Nat) (mt f : Nat → Option Nat) : Prop := ∀ j, j < k → mt j = some (enc q (f j))
def RlR (q p : Nat) (x : Option Nat × (Nat → Option Nat)) (s : SG) : Prop := x.1 = s.1 ∧ (s.1 ≠ none → ∀ j, j < p → x.2 j = some (enc q (s.2 j)))
theorem msR_add {gr wd : Nat → Nat} {hs ho : Nat → Bool} {p q m : Nat} : ∀ (a b : Nat) (s : MS), msR gr wd hs ho p q m (a + b) s = msR gr wd hs ho p q m b (msR gr wd hs ho p q m a s)
  | 0, b, s => by rw [Nat.zero_add]; rfl
  | a + 1, b, s => by
    rw [show a + 1 + b = (a + b) + 1 by omega]
    show msR gr wd hs ho p q m (a + b) (msS gr wd hs ho p q m s) = msR gr wd hs ho p q m b (msR gr wd hs ho p q m a (msS gr wd hs ho p q m s))
    exact msR_add a b _
def rch (gr wd : Nat → Nat) (hs ho : Nat → Bool) (p q m : Nat) (s s2 : MS) : Prop := ∃ n, msR gr wd hs ho p q m n s = s2
theorem rch_rf {gr wd : Nat → Nat} {hs ho : Nat → Bool} {p q m : Nat} (s : MS) : rch gr wd hs ho p q m s s := ⟨0, rfl⟩
theorem rch_tr {gr wd : Nat → Nat} {hs ho : Nat → Bool} {p q m : Nat} {a b c : MS} (h1 : rch gr wd hs ho p q m a b) (h2 : rch gr wd hs ho p q m b c) : rch gr wd hs ho p q m a c := by
  obtain ⟨n1, h1⟩ := h1; obtain ⟨n2, h2⟩ := h2
  exact ⟨n1 + n2, by rw [msR_add, h1, h2]⟩
theorem rch_st {gr wd : Nat → Nat} {hs ho : Nat → Bool} {p q m : Nat} {a b : MS} (h : msS gr wd hs ho p q m a = b) : rch gr wd hs ho p q m a b := ⟨1, h⟩
theorem my_q {gr wd : Nat → Nat} {mt : Nat → Option Nat} {q m k : Nat} : ∀ n, myN gr wd mt q m k q n = true
  | 0 => by simp [myN]
  | n + 1 => by
    show (myN gr wd mt q m k q n && (decide (q = q) || _)) = true
    rw [my_q n]; simp
theorem my_iff {gr wd : Nat → Nat} {aB : Nat → Nat → Bool} {mt f : Nat → Option Nat} {q m k c : Nat} (hc : c < q) (ha : aB k c = decide (gr (wd k) = gr (wd (5 * m + c)))) : ∀ n, (∀ j, j < n → mt j = some (enc q (f j))) → myN gr wd mt q m k c n = (aB k c && !usd f c n)
  | 0, _ => by
    show (decide (c = q) || decide (gr (wd k) = gr (wd (5 * m + c)))) = (aB k c && !false)
    rw [ha]; simp [show ¬ c = q by omega]
  | n + 1, h => by
    show (myN gr wd mt q m k c n && (decide (c = q) || decide (mt n ≠ some c))) = (aB k c && !(usd f c n || decide (f n = some c)))
    rw [my_iff hc ha n (fun j hj => h j (by omega)), h n (by omega)]
    have e : decide (some (enc q (f n)) ≠ some c) = !decide (f n = some c) := by
      cases hz : f n with
      | none => simp [enc]; omega
      | some b => simp [enc]
    rw [e]
    simp [show ¬ c = q by omega, Bool.and_assoc]
set_option maxRecDepth 10000 in
theorem ms_dfs {gr wd : Nat → Nat} {hs ho : Nat → Bool} {p q m : Nat} {aB : Nat → Nat → Bool} {PR : Nat → Nat → Nat → Nat → Nat} (hp5 : p ≤ 5) (ha : ∀ i c, i < p → c < q → aB i c = decide (gr (wd i) = gr (wd (5 * m + c)))) (hsc : ∀ mt f, vld aB q f p → encR q p mt f → ptF hs ho (tnF mt q p) m 100 = scS PR f p) : ∀ (d i : Nat) (mt bs bk : Nat → Option Nat) (mo : Option Nat) (f : Nat → Option Nat) (σ : SG), i + d = p → vld aB q f i → encR q i mt f → (d = 0 ∨ mt i = none) → RlR q p (mo, bs) σ → ∃ mt2 bs2 bk2 mo2, rch gr wd hs ho p q m (mt, bs, bk, mo, i + 1) (mt2, bs2, bk2, mo2, i) ∧ (∀ j, j < i → mt2 j = mt j) ∧ RlR q p (mo2, bs2) (dfs aB PR q d i f σ)
  | 0, i, mt, bs, bk, mo, f, σ, hi, hv, he, _, hr => by
    have hip : i = p := by omega
    subst hip
    have hs2 := hsc mt f hv he
    have hr1 : mo = σ.1 := hr.1
    cases hl : leO (ptF hs ho (tnF mt q i) m 100) mo with
    | true =>
      refine ⟨mt, bs, tnF mt q i, mo, rch_st (ms_leaf0 (s := (mt, bs, bk, mo, i + 1)) rfl rfl hl), fun _ _ => rfl, ?_⟩
      unfold dfs; rw [if_pos (by rw [← hs2, ← hr1]; exact hl)]; exact hr
    | false =>
      refine ⟨mt, mt, tnF mt q i, some (ptF hs ho (tnF mt q i) m 100), rch_st (ms_leaf1 (s := (mt, bs, bk, mo, i + 1)) rfl rfl hl), fun _ _ => rfl, ?_⟩
      unfold dfs; rw [if_neg (by rw [← hs2, ← hr1, hl]; decide)]
      exact ⟨by rw [hs2], fun _ j hj => he j hj⟩
  | d + 1, i, mt, bs, bk, mo, f, σ, hi, hv, he, hm, hr => by
    have hm : mt i = none := by rcases hm with h | h; · omega
                                · exact h
    have hip : i ≠ p := by omega
    have lp : ∀ c, c ≤ q → ∃ mt2 bs2 bk2 mo2, rch gr wd hs ho p q m (mt, bs, bk, mo, i + 1) (mt2, bs2, bk2, mo2, i + 1) ∧ incO (mt2 i) = c ∧ (∀ j, j < i → mt2 j = mt j) ∧ RlR q p (mo2, bs2) (foldS (dfStep (dfs aB PR q d (i + 1)) aB i f) σ c) := by
      intro c
      induction c with
      | zero => intro _; exact ⟨mt, bs, bk, mo, rch_rf _, by rw [hm]; rfl, fun _ _ => rfl, hr⟩
      | succ c ih =>
        intro hc
        obtain ⟨mt2, bs2, bk2, mo2, h1, h2, h3, h4⟩ := ih (by omega)
        have he2 : ∀ j, j < i → va_up mt2 i (some c) j = some (enc q (f j)) := fun j hj => by rw [vu_ne (by omega), h3 j hj]; exact he j hj
        have hy := my_iff (mt := va_up mt2 i (some c)) (f := f) (k := i) (c := c) (by omega) (ha i c (by omega) (by omega)) i he2
        show ∃ mt2 bs2 bk2 mo2, _ ∧ _ ∧ _ ∧ RlR q p (mo2, bs2) (dfStep _ aB i f c (foldS _ σ c))
        unfold dfStep
        by_cases hcnd : aB i c = true ∧ usd f c i = false
        · rw [if_pos hcnd]
          rw [hcnd.1, hcnd.2] at hy
          have hst : ∃ mt3, msS gr wd hs ho p q m (mt2, bs2, bk2, mo2, i + 1) = (mt3, bs2, bk2, mo2, i + 1 + 1) ∧ (∀ j, j < i + 1 → mt3 j = va_up mt2 i (some c) j) ∧ (d = 0 ∨ mt3 (i + 1) = none) := by
            by_cases h5 : i + 1 < 5
            · have h := ms_yes (gr := gr) (wd := wd) (hs := hs) (ho := ho) (m := m) (s := (mt2, bs2, bk2, mo2, i + 1)) (p := p) (q := q) rfl hip (by show incO (mt2 i) ≤ q; omega) (by show myN gr wd (va_up mt2 i (some (incO (mt2 i)))) q m i (incO (mt2 i)) i = true; rw [h2]; exact hy) h5
              dsimp only at h; rw [h2] at h
              exact ⟨_, h, fun j hj => vu_ne (by omega), Or.inr vu_eq⟩
            · have h := ms_yes5 (gr := gr) (wd := wd) (hs := hs) (ho := ho) (m := m) (s := (mt2, bs2, bk2, mo2, i + 1)) (p := p) (q := q) rfl hip (by show incO (mt2 i) ≤ q; omega) (by show myN gr wd (va_up mt2 i (some (incO (mt2 i)))) q m i (incO (mt2 i)) i = true; rw [h2]; exact hy) h5
              dsimp only at h; rw [h2] at h
              refine ⟨_, h, fun j hj => ?_, Or.inl (by omega)⟩
              by_cases e0 : j = 0
              · subst e0; exact vu_eq
              · exact vu_ne e0
          obtain ⟨mt3, hs3, hs4, hs5⟩ := hst
          have hi3 : mt3 i = some c := by rw [hs4 i (by omega)]; exact vu_eq
          obtain ⟨mt4, bs4, bk4, mo4, g1, g2, g3⟩ := ms_dfs hp5 ha hsc d (i + 1) mt3 bs2 bk2 mo2 (va_up f i (some c)) (foldS (dfStep (dfs aB PR q d (i + 1)) aB i f) σ c) (by omega) (vld_some hv (by omega) hcnd.1 hcnd.2)
            (fun j hj => by
              by_cases e1 : j = i
              · subst e1; rw [hi3, vu_eq]; rfl
              · rw [hs4 j hj, he2 j (by omega), vu_ne e1]) hs5 h4
          exact ⟨mt4, bs4, bk4, mo4, rch_tr h1 (rch_tr (rch_st hs3) g1), by rw [g2 i (by omega), hi3]; rfl, fun j hj => by rw [g2 j (by omega), hs4 j (by omega), vu_ne (by omega), h3 j hj], g3⟩
        · rw [if_neg hcnd]
          have hy2 : myN gr wd (va_up mt2 i (some c)) q m i c i = false := by
            rw [hy]
            cases h9 : aB i c with
            | false => rfl
            | true => cases h8 : usd f c i with
                      | false => exact absurd ⟨h9, h8⟩ hcnd
                      | true => rfl
          have h := ms_no (gr := gr) (wd := wd) (hs := hs) (ho := ho) (m := m) (s := (mt2, bs2, bk2, mo2, i + 1)) (p := p) (q := q) rfl hip (by show incO (mt2 i) ≤ q; omega) (by show myN gr wd (va_up mt2 i (some (incO (mt2 i)))) q m i (incO (mt2 i)) i = false; rw [h2]; exact hy2)
          dsimp only at h; rw [h2] at h
          exact ⟨_, _, _, _, rch_tr h1 (rch_st h), by rw [vu_eq]; rfl, fun j hj => by rw [vu_ne (by omega), h3 j hj], h4⟩
    obtain ⟨mt2, bs2, bk2, mo2, h1, h2, h3, h4⟩ := lp q (Nat.le_refl _)
    have hst : ∃ mt3, msS gr wd hs ho p q m (mt2, bs2, bk2, mo2, i + 1) = (mt3, bs2, bk2, mo2, i + 1 + 1) ∧ (∀ j, j < i + 1 → mt3 j = va_up mt2 i (some q) j) ∧ (d = 0 ∨ mt3 (i + 1) = none) := by
      by_cases h5 : i + 1 < 5
      · have h := ms_yes (gr := gr) (wd := wd) (hs := hs) (ho := ho) (m := m) (s := (mt2, bs2, bk2, mo2, i + 1)) (p := p) (q := q) rfl hip (by show incO (mt2 i) ≤ q; omega) (by show myN gr wd (va_up mt2 i (some (incO (mt2 i)))) q m i (incO (mt2 i)) i = true; rw [h2]; exact my_q i) h5
        dsimp only at h; rw [h2] at h
        exact ⟨_, h, fun j hj => vu_ne (by omega), Or.inr vu_eq⟩
      · have h := ms_yes5 (gr := gr) (wd := wd) (hs := hs) (ho := ho) (m := m) (s := (mt2, bs2, bk2, mo2, i + 1)) (p := p) (q := q) rfl hip (by show incO (mt2 i) ≤ q; omega) (by show myN gr wd (va_up mt2 i (some (incO (mt2 i)))) q m i (incO (mt2 i)) i = true; rw [h2]; exact my_q i) h5
        dsimp only at h; rw [h2] at h
        refine ⟨_, h, fun j hj => ?_, Or.inl (by omega)⟩
        by_cases e0 : j = 0
        · subst e0; exact vu_eq
        · exact vu_ne e0
    obtain ⟨mt3, hs3, hs4, hs5⟩ := hst
    have hi3 : mt3 i = some q := by rw [hs4 i (by omega)]; exact vu_eq
    obtain ⟨mt4, bs4, bk4, mo4, g1, g2, g3⟩ := ms_dfs hp5 ha hsc d (i + 1) mt3 bs2 bk2 mo2 f (foldS (dfStep (dfs aB PR q d (i + 1)) aB i f) σ q) (by omega) (vld_none hv)
      (fun j hj => by
        by_cases e1 : j = i
        · subst e1; rw [hi3, vld_nn hv (Nat.le_refl _)]; rfl
        · rw [hs4 j hj, vu_ne e1, h3 j (by omega)]; exact he j (by omega)) hs5 h4
    have hi4 : mt4 i = some q := by rw [g2 i (by omega), hi3]
    have h := ms_out (gr := gr) (wd := wd) (hs := hs) (ho := ho) (m := m) (s := (mt4, bs4, bk4, mo4, i + 1)) (p := p) (q := q) rfl hip (by show q < incO (mt4 i); rw [hi4]; exact Nat.lt_succ_self q)
    dsimp only at h
    exact ⟨_, _, _, _, rch_tr h1 (rch_tr (rch_st hs3) (rch_tr g1 (rch_st h))), fun j hj => by rw [vu_ne (by omega), g2 j (by omega), hs4 j (by omega), vu_ne (by omega), h3 j hj], g3⟩
/-- the best matching is one -/
theorem foldS_inv {step : Nat → SG → SG} {I : SG → Prop} {s : SG} {q : Nat} (h : ∀ o s, o < q → I s → I (step o s)) (hs : I s) : ∀ o, o ≤ q → I (foldS step s o)
  | 0, _ => hs
  | o + 1, ho => h o _ (by omega) (foldS_inv h hs o (by omega))
theorem dfs_vld {aB : Nat → Nat → Bool} {PR : Nat → Nat → Nat → Nat → Nat} {q p : Nat} : ∀ (d i : Nat) (f : Nat → Option Nat) (σ : SG), i + d = p → vld aB q f i → (σ.1 ≠ none → vld aB q σ.2 p) → ((dfs aB PR q d i f σ).1 ≠ none ∧ vld aB q (dfs aB PR q d i f σ).2 p)
  | 0, i, f, σ, hi, hv, h => by
    unfold dfs; split
    · next hl =>
      have hn : σ.1 ≠ none := fun z => by rw [z] at hl; exact absurd hl (by simp [leO])
      exact ⟨hn, h hn⟩
    · have e : i = p := by omega
      subst e; exact ⟨fun z => (by cases z), hv⟩
  | d + 1, i, f, σ, hi, hv, h => by
    unfold dfs
    refine dfs_vld d (i + 1) f _ (by omega) (vld_none hv) ?_
    refine foldS_inv (I := fun s => s.1 ≠ none → vld aB q s.2 p) (fun o s ho hs => ?_) h q (Nat.le_refl _)
    unfold dfStep; split
    · next hc => exact fun _ => (dfs_vld d (i + 1) _ s (by omega) (vld_some hv ho hc.1 hc.2) hs).2
    · exact hs
/-- the search's end: the most points, and the best matching -/
def RES (aB : Nat → Nat → Bool) (PR : Nat → Nat → Nat → Nat → Nat) (q p : Nat) : SG := dfs aB PR q p 0 (fun _ => none) (none, fun _ => none)
theorem RES_ok {aB : Nat → Nat → Bool} {PR : Nat → Nat → Nat → Nat → Nat} {q p : Nat} : (RES aB PR q p).1 ≠ none ∧ vld aB q (RES aB PR q p).2 p := dfs_vld p 0 _ _ (by omega) vld_0 (fun h => absurd rfl h)
theorem ms_end {gr wd : Nat → Nat} {hs ho : Nat → Bool} {p q m : Nat} {aB : Nat → Nat → Bool} {PR : Nat → Nat → Nat → Nat → Nat} (hp5 : p ≤ 5) (ha : ∀ i c, i < p → c < q → aB i c = decide (gr (wd i) = gr (wd (5 * m + c)))) (hsc : ∀ mt f, vld aB q f p → encR q p mt f → ptF hs ho (tnF mt q p) m 100 = scS PR f p) (mt bs bk : Nat → Option Nat) : ∃ (n : Nat) (FIN : MS), msR gr wd hs ho p q m n (va_up mt 0 none, bs, bk, none, 1) = FIN ∧ FIN.2.2.2.2 = 0 ∧ FIN.2.2.2.1 = (RES aB PR q p).1 ∧ encR q p FIN.2.1 (RES aB PR q p).2 ∧ mtOk FIN.2.1 q p := by
  obtain ⟨mt2, bs2, bk2, mo2, ⟨n, h1⟩, _, h3⟩ := ms_dfs hp5 ha hsc p 0 (va_up mt 0 none) bs bk none (fun _ => none) (none, fun _ => none) (by omega) vld_0 (fun j hj => absurd hj (Nat.not_lt_zero j)) (Or.inr vu_eq) ⟨rfl, fun h => absurd rfl h⟩
  have hk := RES_ok (aB := aB) (PR := PR) (q := q) (p := p)
  have he : encR q p bs2 (RES aB PR q p).2 := fun j hj => h3.2 hk.1 j hj
  refine ⟨n, _, h1, rfl, h3.1, he, fun j hj => ⟨_, he j hj, ?_⟩⟩
  cases hz : (RES aB PR q p).2 j with
  | none => exact Nat.le_refl _
  | some c => exact Nat.le_of_lt (hk.2.1 j c hz).2.1
