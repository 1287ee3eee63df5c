/-! what the reference's marks need -/
theorem nI_subI {a b : Nat} (h : b ≤ a) : nI a - nI b = nI (a - b) := pk_sub h
theorem sub_le {a b c : Nat} (ha : a ≤ 2000) (hb : b ≤ 2000) (hc : c ≤ 2000) : nI a - nI b ≤ nI c ↔ ¬ b + c < a := by
  by_cases h : b ≤ a
  · rw [nI_subI h, nI_leI (by omega) (by omega)]; omega
  · have e : nI a - nI b = -(nI (b - a)) := by
      rw [← nI_subI (a := b) (b := a) (by omega)]
      simp [Int32.neg_sub]
    constructor
    · intro _; omega
    · intro _
      rw [e, Int32.le_iff_toInt_le, nI_toInt (by omega)]
      have h2 : (-(nI (b - a))).toInt = -((b - a : Nat) : Int) := by
        rw [Int32.toInt_neg, nI_toInt (by omega)]
        refine Int.bmod_eq_of_le ?_ ?_ <;> omega
      rw [h2]; omega
theorem hs_k {hs : Nat → Bool} {pm : Nat → Nat} (hR0 : mskR 0 hs pm) {k : Nat} (hk : k < 100) : hs k = (pm (k / 20 * 5 + k / 4 % 5)).testBit (k % 4) := by
  have h := hR0 (k / 20) (k / 4 % 5) (k % 4) (by omega) (by omega) (by omega)
  rwa [show atF 0 (k / 20) (k / 4 % 5) (k % 4) = k by unfold atF; omega] at h
theorem mskR_hk {hs : Nat → Bool} {pm : Nat → Nat} (hR0 : mskR 0 hs pm) {k : Nat} (hk : k < 100) : mskR 0 (va_up hs k true) (hAdd pm (k / 20) (k / 4 % 5) (k % 4)) := by
  have h := mskR_up hR0 (show k / 20 < 5 by omega) (show k / 4 % 5 < 5 by omega) (show k % 4 < 4 by omega)
  rwa [show atF 0 (k / 20) (k / 4 % 5) (k % 4) = k by unfold atF; omega] at h
/-- the candidate's search, by the class's words -/
theorem most_hint {ch : Nat → Option Nat} {gr wd wp wm pm mm : Nat → Nat} {hs ho : Nat → Bool} {p q m k : Nat} (hk : k < 100) (hc : chOk ch) (hp5 : p ≤ 5) (hq5 : q ≤ 5) (hm0 : m ≠ 0) (h1 : mskR 0 hs pm) (h3 : mskR m hs mm) (hpm : mOk pm) (hmm : mOk mm) (hdg : dgOk mm) (hwp : ∀ i, i < p → wd i = wp i) (hwm : ∀ c, c < q → wd (5 * m + c) = wm c) (mt bs bk : Nat → Option Nat) : ∃ (n : Nat) (FIN : MS), msR gr wd (va_up hs k true) (clB ch 0 ho (va_up hs k true)) p q m n (va_up mt 0 none, bs, bk, none, 1) = FIN ∧ FIN.2.2.2.2 = 0 ∧ FIN.2.2.2.1 = some (MXh ch gr wp wm pm mm p q (k / 20) (k / 4 % 5) (k % 4)) ∧ mtOk FIN.2.1 q p := by
  have hb := mskR_hk h1 hk
  have hpk := hAdd_ok hpm (f := k / 20) (t := k / 4 % 5) (k := k % 4) (by omega)
  have hc1 := clo_ok hc hpm
  have h2 := mskR_cg (clo_clB (m := 0) (ho := ho) hc (by decide) hpk hb) (fun a b ha hb => (clo_hAdd hc hpm (f := k / 20) (t := k / 4 % 5) (d := k % 4) (by omega) (by omega) (by omega) ha hb).symm)
  obtain ⟨n, F, e1, e2, e3, e4, e5⟩ := most_end (ch := ch) (gr := gr) (wd := wd) (wp := wp) (wm := wm) hp5 hq5 hb h2 (mskR_off h3 (by omega)) hpk (clo_ok hc (hAdd_ok hc1 (by omega))) hmm hdg hwp hwm mt bs bk
  exact ⟨n, F, e1, e2, e3, e5⟩
theorem MXm_le {ch : Nat → Option Nat} {gr wp wm pm mm : Nat → Nat} {pn qn : Nat} (h : pn ≤ 5) : MXm ch gr wp wm pm mm pn qn ≤ 1200 := RES_le h
theorem MXh_le {ch : Nat → Option Nat} {gr wp wm pm mm : Nat → Nat} {pn qn f t d : Nat} (h : pn ≤ 5) : MXh ch gr wp wm pm mm pn qn f t d ≤ 1200 := RES_le h
theorem REm_lt {ch : Nat → Option Nat} {gr wp wm pm mm : Nat → Nat} {pn qn i c : Nat} (h : (REm ch gr wp wm pm mm pn qn).2 i = some c) : c < qn := (RES_ok.2.1 i c h).2.1
/-- verdict and lacking by the reference's way back -/
theorem vdA_ref {ch : Nat → Option Nat} {gr wp wm pm mm : Nat → Nat} {pn qn m f t k : Nat} {hs ho : Nat → Bool} {mt : Nat → Option Nat} (hp5 : pn ≤ 5) (hc : chOk ch) (h1 : mskR 0 hs pm) (hpm : mOk pm) (hk : k < 4) (he : encR qn pn mt (REm ch gr wp wm pm mm pn qn).2) : vdF hs (clB ch 0 ho hs) (tnF mt qn pn) f t k = vdA ch gr wp wm pm mm pn qn f t k :=
  (vdC_vdF hp5 h1 (clo_clB hc (by decide) hpm h1) hpm (clo_ok hc hpm) hk (pid_tn RES_ok.2 he f) (pid_tn RES_ok.2 he t)).symm
theorem lkA_ref {ch : Nat → Option Nat} {gr wp wm pm mm : Nat → Nat} {pn qn : Nat} {mt : Nat → Option Nat} (he : encR qn pn mt (REm ch gr wp wm pm mm pn qn).2) : lkB (tnF mt qn pn) qn = lkA ch gr wp wm pm mm pn qn :=
  (lackN_lkB (fun o => pid_tn RES_ok.2 he o) qn).symm
theorem lkB_yes {bk : Nat → Option Nat} {i : Nat} (h : bk i = none) : lkB bk i + 1 = lkB bk (i + 1) := by
  show _ = lkB bk i + (if bk i = none then 1 else 0); rw [if_pos h]
theorem lkB_no {bk : Nat → Option Nat} {i : Nat} (h : bk i ≠ none) : lkB bk i + 0 = lkB bk (i + 1) := by
  show _ = lkB bk i + (if bk i = none then 1 else 0); rw [if_neg h]
theorem mkA_0 {ch : Nat → Option Nat} {gr wp wm pm mm : Nat → Nat} {pn qn : Nat} (h : cntN mm 25 = 0) : mkA ch gr wp wm pm mm pn qn = 0 := by unfold mkA; rw [if_pos h]
theorem mkA_1 {ch : Nat → Option Nat} {gr wp wm pm mm : Nat → Nat} {pn qn : Nat} (h : cntN mm 25 ≠ 0) : mkA ch gr wp wm pm mm pn qn = 100 * MXm ch gr wp wm pm mm pn qn / (4 * cntN mm 25) := by unfold mkA; rw [if_neg h]
theorem mkA_le {ch : Nat → Option Nat} {gr wp wm pm mm : Nat → Nat} {pn qn : Nat} (h : pn ≤ 5) : mkA ch gr wp wm pm mm pn qn ≤ 200000 := by
  by_cases h0 : cntN mm 25 = 0
  · rw [mkA_0 h0]; exact Nat.zero_le _
  · rw [mkA_1 h0]; exact bmv_le (by have := MXm_le (ch := ch) (gr := gr) (wp := wp) (wm := wm) (pm := pm) (mm := mm) (qn := qn) h; omega)
/-- the best model so far: with its mark -/
theorem bm_inv {mk ct : Nat → Nat} : ∀ n, (∀ b, (foldP (bmT mk ct) (none, none) n).1 = some b → b ≠ 0 ∧ b < n ∧ ct b ≠ 0 ∧ (foldP (bmT mk ct) (none, none) n).2 = some (mk b)) ∧ ((foldP (bmT mk ct) (none, none) n).1 = none → (foldP (bmT mk ct) (none, none) n).2 = none)
  | 0 => ⟨fun b h => (by cases h), fun _ => rfl⟩
  | n + 1 => by
    have ih := bm_inv (mk := mk) (ct := ct) n
    show (∀ b, (bmT mk ct n (foldP (bmT mk ct) (none, none) n)).1 = some b → b ≠ 0 ∧ b < n + 1 ∧ ct b ≠ 0 ∧ (bmT mk ct n (foldP (bmT mk ct) (none, none) n)).2 = some (mk b)) ∧ ((bmT mk ct n (foldP (bmT mk ct) (none, none) n)).1 = none → (bmT mk ct n (foldP (bmT mk ct) (none, none) n)).2 = none)
    unfold bmT
    split
    · exact ⟨fun b h => by have := ih.1 b h; exact ⟨this.1, by omega, this.2.2⟩, ih.2⟩
    · next hn =>
      split
      · exact ⟨fun b h => by have := ih.1 b h; exact ⟨this.1, by omega, this.2.2⟩, ih.2⟩
      · exact ⟨fun b h => by cases h; exact ⟨fun z => hn (Or.inl z), by omega, fun z => hn (Or.inr z), rfl⟩, fun h => (by cases h)⟩
theorem bmT_no {mk ct : Nat → Nat} {i : Nat} {s : Option Nat × Option Nat} (h : ct i = 0) : foldP (bmT mk ct) s (i + 1) = foldP (bmT mk ct) s i := by
  show bmT mk ct i _ = _
  unfold bmT; rw [if_pos (Or.inr h)]
theorem bmT_lo {mk ct : Nat → Nat} {i b : Nat} (hb : (foldP (bmT mk ct) (none, none) i).1 = some b) (h : mk i ≤ mk b) : foldP (bmT mk ct) (none, none) (i + 1) = foldP (bmT mk ct) (none, none) i := by
  have h2 := ((bm_inv (mk := mk) (ct := ct) i).1 b hb).2.2.2
  show bmT mk ct i (foldP (bmT mk ct) (none, none) i) = _
  generalize foldP (bmT mk ct) (none, none) i = s at hb h2 ⊢
  unfold bmT; split
  · rfl
  · rw [if_pos (by rw [h2]; simp [leO, h])]
theorem bmT_n {mk ct : Nat → Nat} {i : Nat} (hi : i ≠ 0) (hc : ct i ≠ 0) (hb : (foldP (bmT mk ct) (none, none) i).1 = none) : (foldP (bmT mk ct) (none, none) (i + 1)).1 = some i := by
  have h2 := (bm_inv (mk := mk) (ct := ct) i).2 hb
  show (bmT mk ct i (foldP (bmT mk ct) (none, none) i)).1 = _
  generalize foldP (bmT mk ct) (none, none) i = s at hb h2 ⊢
  unfold bmT; rw [if_neg (fun z => z.elim hi hc), if_neg (by rw [h2]; simp [leO])]
theorem bmT_hi {mk ct : Nat → Nat} {i b : Nat} (hi : i ≠ 0) (hc : ct i ≠ 0) (hb : (foldP (bmT mk ct) (none, none) i).1 = some b) (h : mk b < mk i) : (foldP (bmT mk ct) (none, none) (i + 1)).1 = some i := by
  have h2 := ((bm_inv (mk := mk) (ct := ct) i).1 b hb).2.2.2
  show (bmT mk ct i (foldP (bmT mk ct) (none, none) i)).1 = _
  generalize foldP (bmT mk ct) (none, none) i = s at hb h2 ⊢
  unfold bmT; rw [if_neg (fun z => z.elim hi hc), if_neg (by rw [h2]; simp only [leO, decide_eq_true_eq]; omega)]
