/-! the reference's search: one turn of its loop; match, best, back, the most points, and how far it is (0: ended; k + 1: at the pupil's idea k) -/
abbrev MS : Type := (Nat → Option Nat) × (Nat → Option Nat) × (Nat → Option Nat) × Option Nat × Nat
def incO (o : Option Nat) : Nat := match o with
  | none => 0
  | some c => c + 1
theorem incO_i {o : Option Nat} : oI o + nI 1 = nI (incO o) := by
  cases o with
  | none => decide
  | some c => exact nI_add c 1
def msS (gr wd : Nat → Nat) (hs ho : Nat → Bool) (p q m : Nat) (s : MS) : MS := match s.2.2.2.2 with
  | 0 => s
  | k + 1 =>
    if k = p then
      (s.1, if leO (ptF hs ho (tnF s.1 q p) m 100) s.2.2.2.1 = true then s.2.1 else s.1, tnF s.1 q p, if leO (ptF hs ho (tnF s.1 q p) m 100) s.2.2.2.1 = true then s.2.2.2.1 else some (ptF hs ho (tnF s.1 q p) m 100), k)
    else if q < incO (s.1 k) then (va_up s.1 k (some (incO (s.1 k))), s.2.1, s.2.2.1, s.2.2.2.1, k)
    else if myN gr wd (va_up s.1 k (some (incO (s.1 k)))) q m k (incO (s.1 k)) k = true then
      (if k + 1 < 5 then va_up (va_up s.1 k (some (incO (s.1 k)))) (k + 1) none else va_up (va_up s.1 k (some (incO (s.1 k)))) 0 (va_up s.1 k (some (incO (s.1 k))) 0), s.2.1, s.2.2.1, s.2.2.2.1, k + 1 + 1)
    else (va_up s.1 k (some (incO (s.1 k))), s.2.1, s.2.2.1, s.2.2.2.1, k + 1)
def msR (gr wd : Nat → Nat) (hs ho : Nat → Bool) (p q m : Nat) : Nat → MS → MS
  | 0, s => s
  | n + 1, s => msR gr wd hs ho p q m n (msS gr wd hs ho p q m s)
theorem msS_done {gr wd : Nat → Nat} {hs ho : Nat → Bool} {p q m : Nat} {s : MS} (h : s.2.2.2.2 = 0) : msS gr wd hs ho p q m s = s := by
  unfold msS; rw [h]
theorem msR_done {gr wd : Nat → Nat} {hs ho : Nat → Bool} {p q m : Nat} {s : MS} (h : s.2.2.2.2 = 0) : ∀ n, msR gr wd hs ho p q m n s = s
  | 0 => rfl
  | n + 1 => by
    show msR gr wd hs ho p q m n (msS gr wd hs ho p q m s) = s
    rw [msS_done h, msR_done h n]
theorem ms_leaf0 {gr wd : Nat → Nat} {hs ho : Nat → Bool} {p q m k : Nat} {s : MS} (h : s.2.2.2.2 = k + 1) (hk : k = p) (hl : leO (ptF hs ho (tnF s.1 q p) m 100) s.2.2.2.1 = true) : msS gr wd hs ho p q m s = (s.1, s.2.1, tnF s.1 q p, s.2.2.2.1, k) := by
  unfold msS; rw [h]; simp only [if_pos hk, if_pos hl]
theorem ms_leaf1 {gr wd : Nat → Nat} {hs ho : Nat → Bool} {p q m k : Nat} {s : MS} (h : s.2.2.2.2 = k + 1) (hk : k = p) (hl : leO (ptF hs ho (tnF s.1 q p) m 100) s.2.2.2.1 = false) : msS gr wd hs ho p q m s = (s.1, s.1, tnF s.1 q p, some (ptF hs ho (tnF s.1 q p) m 100), k) := by
  unfold msS; rw [h]; simp only [if_pos hk, hl]; rfl
theorem ms_out {gr wd : Nat → Nat} {hs ho : Nat → Bool} {p q m k : Nat} {s : MS} (h : s.2.2.2.2 = k + 1) (hk : k ≠ p) (hq : q < incO (s.1 k)) : msS gr wd hs ho p q m s = (va_up s.1 k (some (incO (s.1 k))), s.2.1, s.2.2.1, s.2.2.2.1, k) := by
  unfold msS; rw [h]; simp only [if_neg hk, if_pos hq]
theorem ms_no {gr wd : Nat → Nat} {hs ho : Nat → Bool} {p q m k : Nat} {s : MS} (h : s.2.2.2.2 = k + 1) (hk : k ≠ p) (hq : incO (s.1 k) ≤ q) (hm : myN gr wd (va_up s.1 k (some (incO (s.1 k)))) q m k (incO (s.1 k)) k = false) : msS gr wd hs ho p q m s = (va_up s.1 k (some (incO (s.1 k))), s.2.1, s.2.2.1, s.2.2.2.1, k + 1) := by
  unfold msS; rw [h]; simp only [if_neg hk, if_neg (Nat.not_lt.mpr hq), hm]; rfl
theorem ms_yes {gr wd : Nat → Nat} {hs ho : Nat → Bool} {p q m k : Nat} {s : MS} (h : s.2.2.2.2 = k + 1) (hk : k ≠ p) (hq : incO (s.1 k) ≤ q) (hm : myN gr wd (va_up s.1 k (some (incO (s.1 k)))) q m k (incO (s.1 k)) k = true) (h5 : k + 1 < 5) : msS gr wd hs ho p q m s = (va_up (va_up s.1 k (some (incO (s.1 k)))) (k + 1) none, s.2.1, s.2.2.1, s.2.2.2.1, k + 1 + 1) := by
  unfold msS; rw [h]; simp only [if_neg hk, if_neg (Nat.not_lt.mpr hq), if_pos hm, if_pos h5]
theorem ms_yes5 {gr wd : Nat → Nat} {hs ho : Nat → Bool} {p q m k : Nat} {s : MS} (h : s.2.2.2.2 = k + 1) (hk : k ≠ p) (hq : incO (s.1 k) ≤ q) (hm : myN gr wd (va_up s.1 k (some (incO (s.1 k)))) q m k (incO (s.1 k)) k = true) (h5 : ¬ k + 1 < 5) : msS gr wd hs ho p q m s = (va_up (va_up s.1 k (some (incO (s.1 k)))) 0 (va_up s.1 k (some (incO (s.1 k))) 0), s.2.1, s.2.2.1, s.2.2.2.1, k + 1 + 1) := by
  unfold msS; rw [h]; simp only [if_neg hk, if_neg (Nat.not_lt.mpr hq), if_pos hm, if_neg h5]
/-- what holds at the head of the loop -/
def mtOk (mt : Nat → Option Nat) (q k : Nat) : Prop := ∀ j, j < k → ∃ c, mt j = some c ∧ c ≤ q
def stOk (p q : Nat) (s : MS) : Prop := s.2.2.2.2 ≤ p + 1 ∧ mtOk s.1 q (s.2.2.2.2 - 1) ∧ (1 ≤ s.2.2.2.2 → s.2.2.2.2 ≤ p → ∀ c, s.1 (s.2.2.2.2 - 1) = some c → c ≤ q) ∧ (∀ b, s.2.2.2.1 = some b → b ≤ 400)
theorem vu_ne {α : Type} {f : Nat → α} {k j : Nat} {v : α} (h : j ≠ k) : va_up f k v j = f j := by simp only [va_up]; rw [if_neg h]
theorem vu_eq {α : Type} {f : Nat → α} {k : Nat} {v : α} : va_up f k v k = v := by simp [va_up]
theorem mtOk_down {mt : Nat → Option Nat} {q k j : Nat} (h : mtOk mt q k) (hj : j ≤ k) : mtOk mt q j := fun i hi => h i (by omega)
theorem mtOk_up {mt : Nat → Option Nat} {q k j : Nat} {v : Option Nat} (h : mtOk mt q k) (hj : k ≤ j) : mtOk (va_up mt j v) q k := fun i hi => by rw [vu_ne (by omega)]; exact h i hi
theorem mtOk_add {mt : Nat → Option Nat} {q k c : Nat} (h : mtOk mt q k) (hc : c ≤ q) : mtOk (va_up mt k (some c)) q (k + 1) := fun i hi => by
  by_cases e : i = k
  · subst e; exact ⟨c, vu_eq, hc⟩
  · rw [vu_ne e]; exact h i (by omega)
theorem stOk_step {gr wd : Nat → Nat} {hs ho : Nat → Bool} {p q m : Nat} {s : MS} (hp : p ≤ 5) (h : stOk p q s) : stOk p q (msS gr wd hs ho p q m s) := by
  obtain ⟨h1, h2, h3, h4⟩ := id h
  cases hK : s.2.2.2.2 with
  | zero => rw [msS_done hK]; exact h
  | succ k =>
    rw [hK] at h1 h2 h3
    have h2 : mtOk s.1 q k := h2
    have h3 : 1 ≤ k + 1 → k + 1 ≤ p → ∀ c, s.1 k = some c → c ≤ q := h3
    have low : 1 ≤ k → ∀ c, s.1 (k - 1) = some c → c ≤ q := fun h9 c hc => by
      obtain ⟨c2, hc2, hle⟩ := h2 (k - 1) (by omega)
      rw [hc] at hc2; cases hc2; exact hle
    by_cases hk : k = p
    · cases hl : leO (ptF hs ho (tnF s.1 q p) m 100) s.2.2.2.1 with
      | true => rw [ms_leaf0 hK hk hl]; exact ⟨show k ≤ p + 1 by omega, mtOk_down h2 (Nat.sub_le _ _), fun h9 _ => low h9, h4⟩
      | false => rw [ms_leaf1 hK hk hl]; exact ⟨show k ≤ p + 1 by omega, mtOk_down h2 (Nat.sub_le _ _), fun h9 _ => low h9, fun b hb => by cases hb; exact ptF_le 100⟩
    · by_cases hq : q < incO (s.1 k)
      · rw [ms_out hK hk hq]
        refine ⟨show k ≤ p + 1 by omega, mtOk_down (mtOk_up h2 (Nat.le_refl _)) (Nat.sub_le _ _), fun h9 _ c hc => low h9 c ?_, h4⟩
        have hc : va_up s.1 k (some (incO (s.1 k))) (k - 1) = some c := hc
        have h9 : 1 ≤ k := h9
        rwa [vu_ne (by omega)] at hc
      · have hq2 : incO (s.1 k) ≤ q := Nat.not_lt.mp hq
        cases hm : myN gr wd (va_up s.1 k (some (incO (s.1 k)))) q m k (incO (s.1 k)) k with
        | false =>
          rw [ms_no hK hk hq2 hm]
          refine ⟨show k + 1 ≤ p + 1 by omega, mtOk_up h2 (Nat.le_refl _), fun _ _ c hc => ?_, h4⟩
          have hc : va_up s.1 k (some (incO (s.1 k))) k = some c := hc
          rw [vu_eq] at hc; cases hc; exact hq2
        | true =>
          by_cases h5 : k + 1 < 5
          · rw [ms_yes hK hk hq2 hm h5]
            refine ⟨show k + 1 + 1 ≤ p + 1 by omega, mtOk_up (mtOk_add h2 hq2) (Nat.le_refl _), fun _ _ c hc => ?_, h4⟩
            have hc : va_up (va_up s.1 k (some (incO (s.1 k)))) (k + 1) none (k + 1) = some c := hc
            rw [vu_eq] at hc; cases hc
          · rw [ms_yes5 hK hk hq2 hm h5]
            refine ⟨show k + 1 + 1 ≤ p + 1 by omega, fun i hi => ?_, fun _ h9 => ?_, h4⟩
            · show ∃ c, va_up (va_up s.1 k (some (incO (s.1 k)))) 0 (va_up s.1 k (some (incO (s.1 k))) 0) i = some c ∧ c ≤ q
              by_cases e : i = 0
              · subst e; rw [vu_eq]; exact mtOk_add h2 hq2 0 (by omega)
              · rw [vu_ne e]; exact mtOk_add h2 hq2 i hi
            · have h9 : k + 1 + 1 ≤ p := h9
              omega
def cpA {α : Type} (f f2 : Nat → α) (i : Nat) : Nat → α := fun j => if j < i then f2 j else f j
theorem cpA_0 {α : Type} (f f2 : Nat → α) : cpA f f2 0 = f := by funext j; simp [cpA]
theorem cpA_put {α : Type} (f f2 : Nat → α) (i : Nat) : va_up (cpA f f2 i) i (f2 i) = cpA f f2 (i + 1) := by
  funext j
  by_cases h1 : j = i
  · subst h1; simp [va_up, cpA]
  · by_cases h2 : j < i
    · simp [va_up, cpA, h1, h2, show j < i + 1 by omega]
    · simp [va_up, cpA, h1, h2, show ¬ j < i + 1 by omega]
section NO2
variable {p : Program} {l : Launch} {e : Env} {R : Room} {s : State} {m : MethodId} {args : Array Value} {below : List Frame} {meth : Method} {c : Code} {H : Heap} {locs : List Loc} {cells slots : Nat} {Q : State → Prop}
variable {pc : Nat} {ls : Array Slot} {rest : List Value} {cc : ByteArray}
theorem nov_icmp_le (hx : p.tables.exec = Jvm.exec) (hb : c.code = cc) {a : Nat} {o : Option Nat} (ha : a < 2 ^ 31) (ho : ∀ b, o = some b → b < 2 ^ 31) {off : Int} {tgt : Nat} (hdg : decode cc pc = .ok (.if_icmp .le off, 3)) (ht : (pc : Int) + off = (tgt : Int)) (kt : leO a o = true → W p l e R s m args below meth c H locs cells slots Q (F0 m tgt ls rest)) (kf : leO a o = false → W p l e R s m args below meth c H locs cells slots Q (F0 m (pc + 3) ls rest)) : W p l e R s m args below meth c H locs cells slots Q (F0 m pc ls (.int (oI o) :: .int (nI a) :: rest)) :=
  lv_icmp_le hx hb hdg ht (fun h => kt ((leO_iff ha ho).mp h)) (fun h => kf (by
    cases hz : leO a o with
    | false => rfl
    | true => exact absurd ((leO_iff ha ho).mpr hz) h))
end NO2
theorem incO_le {o : Option Nat} {q : Nat} (h : ∀ c, o = some c → c ≤ q) : incO o ≤ q + 1 := by
  cases o with
  | none => exact Nat.zero_le _
  | some c => exact Nat.succ_le_succ (h c rfl)
