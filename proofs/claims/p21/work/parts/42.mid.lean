/-! what the law asks, by the state -/
theorem a_ct_le (σ : Stt) (k : Nat) : a_ct σ k ≤ 100 := cntN_le _ 25
theorem a_hl_le (σ : Stt) (k : Nat) : a_hl σ k ≤ 100 := cntN_le _ 25
theorem a_pts_le {σ : Stt} (h : SOk σ) (k : Nat) : a_pts σ k ≤ 1200 := MXm_le (h.1 0)
theorem a_mk_le {σ : Stt} (h : SOk σ) (k : Nat) : a_mk σ k ≤ 200000 := mkA_le (h.1 0)
theorem a_hn_le {σ : Stt} (h : SOk σ) (k : Nat) : (a_hn σ k).2 ≤ 1200 := hn_le (h.1 0) 100
theorem SOk_M {σ : Stt} (h : SOk σ) (k : Nat) : okM (s_n σ k) (s_m σ k) := fun a b ha hb hz => h.2.2.2.2.2 k a b ha hb hz
theorem a_hl_ge {σ : Stt} (h : SOk σ) (k : Nat) : a_ct σ k ≤ a_hl σ k := held_ge h.2.2.2.1 (h.2.2.2.2.1 k)
theorem a_mk_eq (σ : Stt) (k : Nat) : a_mk σ k = if a_ct σ k = 0 then 0 else 100 * a_pts σ k / (4 * a_ct σ k) := rfl
theorem a_vd_le {σ : Stt} {k f t d : Nat} : a_vd σ k f t d ≤ 3 := vdA_le
theorem a_re_v (σ : Stt) (k : Nat) : vld (aBm (s_g σ) (s_w σ 0) (s_w σ k)) (s_n σ k) (a_re σ k) (s_n σ 0) := RES_ok.2
theorem a_re_lt {σ : Stt} {k i c : Nat} (h : a_re σ k i = some c) : c < s_n σ k := ((a_re_v σ k).1 i c h).2.1
theorem a_lk_gv {σ : Stt} (h : SOk σ) (k : Nat) : a_lk σ k + gvF (a_re σ k) (s_n σ 0) = s_n σ k := lack_gv (h.1 k) (a_re_v σ k)
def a_l1 (σ : Stt) (k j : Nat) : Nat := lk1 (s_m σ k) (j / 4 / s_n σ k) (j / 4 % s_n σ k) (j % 4)
def a_lp (σ : Stt) (k j : Nat) : Nat := lkP (s_c σ) (s_g σ) (s_w σ 0) (s_w σ k) (s_m σ 0) (s_m σ k) (s_n σ 0) (s_n σ k) (j / 4 / s_n σ k) (j / 4 % s_n σ k) (j % 4)
theorem a_l1_sum {σ : Stt} (h : SOk σ) (k : Nat) : sumN (a_l1 σ k) (s_n σ k * s_n σ k * 4) = a_ct σ k := cnt_n (h.1 k) (h.2.2.2.2.1 k) (SOk_M h k)
theorem a_lp_sum {σ : Stt} (h : SOk σ) (k : Nat) : sumN (a_lp σ k) (s_n σ k * s_n σ k * 4) = a_pts σ k := pts_n (h.1 0) (h.1 k) h.2.2.2.1 (h.2.2.2.2.1 0) (h.2.2.2.2.1 k) (SOk_M h k)
theorem a_l1_le (σ : Stt) (k n : Nat) : sumN (a_l1 σ k) n ≤ n := by have := sumN_le (g := a_l1 σ k) (c := 1) (fun j => lk1_le) n; omega
theorem a_lp_le (σ : Stt) (k n : Nat) : sumN (a_lp σ k) n ≤ 4 * n := sumN_le (fun j => lkP_le) n
/-- a place of the loop that is no link, and one that is -/
theorem a_l1_no {σ : Stt} {k j : Nat} (h : (s_m σ k (j / 4 / s_n σ k * 5 + j / 4 % s_n σ k)).testBit (j % 4) = false) : sumN (a_l1 σ k) j = sumN (a_l1 σ k) (j + 1) ∧ sumN (a_lp σ k) j = sumN (a_lp σ k) (j + 1) := by
  constructor
  · show _ = sumN (a_l1 σ k) j + a_l1 σ k j
    unfold a_l1 lk1; rw [h]; rfl
  · show _ = sumN (a_lp σ k) j + a_lp σ k j
    unfold a_lp lkP; rw [h]; rfl
theorem a_l1_yes {σ : Stt} {k j : Nat} (h : (s_m σ k (j / 4 / s_n σ k * 5 + j / 4 % s_n σ k)).testBit (j % 4) = true) : sumN (a_l1 σ k) j + 1 = sumN (a_l1 σ k) (j + 1) ∧ sumN (a_lp σ k) j + ptW (a_vd σ k (j / 4 / s_n σ k) (j / 4 % s_n σ k) (j % 4)) = sumN (a_lp σ k) (j + 1) := by
  constructor
  · show _ = sumN (a_l1 σ k) j + a_l1 σ k j
    unfold a_l1 lk1; rw [if_pos h]
  · show _ = sumN (a_lp σ k) j + a_lp σ k j
    unfold a_lp lkP; rw [if_pos h]; rfl
theorem a_l1_dg {σ : Stt} (h : SOk σ) {k a d : Nat} (ha : a < 5) : (s_m σ k (a * 5 + a)).testBit d = false := by
  rw [okM_dg (SOk_M h k) a ha, Nat.zero_testBit]
/-! the states stay sound -/
theorem u_add_ok {σ : Stt} (h : SOk σ) {k w : Nat} (hn : s_n σ k < 5) (hw : w < 32) : SOk (u_add σ k w) := by
  obtain ⟨h1, h2, h3, h4, h5, h6⟩ := h
  refine ⟨fun i => ?_, fun i => ?_, h3, h4, h5, fun i a b ha hb hz => ?_⟩
  · show va_up _ k _ i ≤ 5
    by_cases e : i = k
    · subst e; rw [vu_eq]; omega
    · rw [vu_ne e]; exact h1 i
  · show grOk (va_up _ k _ i)
    by_cases e : i = k
    · subst e; rw [vu_eq]; intro j; simp only [va_up]; split
      · exact hw
      · exact h2 i j
    · rw [vu_ne e]; exact h2 i
  · have h9 := h6 i a b ha hb hz
    show a ≠ b ∧ a < va_up _ k _ i ∧ b < va_up _ k _ i
    by_cases e : i = k
    · subst e; rw [vu_eq]; exact ⟨h9.1, by omega, by omega⟩
    · rw [vu_ne e]; exact h9
theorem u_lnk_ok {σ : Stt} (h : SOk σ) {k f t d : Nat} (hf : f < s_n σ k) (ht : t < s_n σ k) (hft : f ≠ t) (hd : d < 4) : SOk (u_lnk σ k f t d) := by
  obtain ⟨h1, h2, h3, h4, h5, h6⟩ := id h
  refine ⟨h1, h2, h3, h4, fun i => ?_, fun i a b ha hb hz => ?_⟩
  · show mOk (va_up _ k _ i)
    by_cases e : i = k
    · subst e; rw [vu_eq]; exact tgM_ok (h5 i) hd
    · rw [vu_ne e]; exact h5 i
  · have hz : va_up (s_m σ) k (tgM (s_m σ k) f t d) i (a * 5 + b) ≠ 0 := hz
    by_cases e : i = k
    · subst e; rw [vu_eq] at hz; exact tgM_okM (SOk_M h i) (h1 i) hf ht hft a b ha hb hz
    · rw [vu_ne e] at hz; exact h6 i a b ha hb hz
theorem u_clr_ok {σ : Stt} (h : SOk σ) {k : Nat} : SOk (u_clr σ k) := by
  obtain ⟨h1, h2, h3, h4, h5, h6⟩ := h
  refine ⟨fun i => ?_, h2, h3, h4, fun i => ?_, fun i a b ha hb hz => ?_⟩
  · show va_up _ k _ i ≤ 5
    by_cases e : i = k
    · subst e; rw [vu_eq]; omega
    · rw [vu_ne e]; exact h1 i
  · show mOk (va_up _ k _ i)
    by_cases e : i = k
    · subst e; rw [vu_eq]; intro j; exact (by decide : 0 < 16)
    · rw [vu_ne e]; exact h5 i
  · have hz : va_up (s_m σ) k (fun _ => 0) i (a * 5 + b) ≠ 0 := hz
    by_cases e : i = k
    · subst e; rw [vu_eq] at hz; exact absurd rfl hz
    · rw [vu_ne e] at hz
      show a ≠ b ∧ a < va_up _ k _ i ∧ b < va_up _ k _ i
      rw [vu_ne e]; exact h6 i a b ha hb hz
theorem u_syn_ok {σ : Stt} (h : SOk σ) {a b : Nat} : SOk (u_syn σ a b) := by
  obtain ⟨h1, h2, h3, h4, h5, h6⟩ := h
  exact ⟨h1, h2, jn_ok h3 (h3 a), h4, h5, h6⟩
theorem u_chn_ok {σ : Stt} (h : SOk σ) {f t : Nat} {o : Option Nat} (ho : ∀ d, o = some d → d < 4) : SOk (u_chn σ f t o) := by
  obtain ⟨h1, h2, h3, h4, h5, h6⟩ := h
  refine ⟨h1, h2, h3, fun q k hq => ?_, h5, h6⟩
  have hq : va_up (s_c σ) (f * 4 + t) o q = some k := hq
  by_cases e : q = f * 4 + t
  · subst e; rw [vu_eq] at hq; exact ho k hq
  · rw [vu_ne e] at hq; exact h4 q k hq
/-! there and back -/
theorem u_lnk_m (σ : Stt) (k f t d : Nat) : s_m (u_lnk σ k f t d) k = tgM (s_m σ k) f t d := vu_eq
theorem u_lnk_2 (σ : Stt) (k f t d : Nat) : u_lnk (u_lnk σ k f t d) k f t d = σ := by
  have e : va_up (s_m (u_lnk σ k f t d)) k (tgM (s_m (u_lnk σ k f t d) k) f t d) = s_m σ := by
    rw [u_lnk_m, tgM_tg]; exact up_up rfl
  show (s_n σ, s_w σ, va_up (s_m (u_lnk σ k f t d)) k (tgM (s_m (u_lnk σ k f t d) k) f t d), s_g σ, s_c σ) = σ
  rw [e]
theorem u_syn_s {σ : Stt} {a b : Nat} (h : s_g σ a = s_g σ b) : u_syn σ a b = σ := by
  show (s_n σ, s_w σ, s_m σ, jn (s_g σ) (s_g σ a) (s_g σ b) 32, s_c σ) = σ
  rw [← h, jn_same]
theorem u_syn_a {σ : Stt} {a b : Nat} (ha : a < 32) (hb : b < 32) : s_g (u_syn σ a b) a = s_g (u_syn σ a b) b := jn_alike ha hb
theorem u_chn_c (σ : Stt) (f t : Nat) (o : Option Nat) : s_c (u_chn σ f t o) (f * 4 + t) = o := vu_eq
theorem u_chn_2 (σ : Stt) (f t : Nat) (o : Option Nat) : u_chn (u_chn σ f t o) f t (s_c σ (f * 4 + t)) = σ := by
  have e : va_up (va_up (s_c σ) (f * 4 + t) o) (f * 4 + t) (s_c σ (f * 4 + t)) = s_c σ := up_up rfl
  show (s_n σ, s_w σ, s_m σ, s_g σ, va_up (va_up (s_c σ) (f * 4 + t) o) (f * 4 + t) (s_c σ (f * 4 + t))) = σ
  rw [e]
theorem u_chn_3 (σ : Stt) (f t : Nat) (o p : Option Nat) : u_chn (u_chn σ f t o) f t p = u_chn σ f t p := by
  have e : va_up (va_up (s_c σ) (f * 4 + t) o) (f * 4 + t) p = va_up (s_c σ) (f * 4 + t) p := by
    funext j
    by_cases h : j = f * 4 + t
    · subst h; rw [vu_eq, vu_eq]
    · rw [vu_ne h, vu_ne h, vu_ne h]
  show (s_n σ, s_w σ, s_m σ, s_g σ, va_up (va_up (s_c σ) (f * 4 + t) o) (f * 4 + t) p) = _
  rw [e]; rfl
theorem u_add_n (σ : Stt) (k w : Nat) : s_n (u_add σ k w) k = s_n σ k + 1 := vu_eq
theorem u_clr_n (σ : Stt) (k : Nat) : s_n (u_clr σ k) k = 0 := vu_eq
theorem u_clr_m (σ : Stt) (k : Nat) : s_m (u_clr σ k) k = fun _ => 0 := vu_eq
theorem u_clr_ct (σ : Stt) (k : Nat) : a_ct (u_clr σ k) k = 0 := by unfold a_ct; rw [u_clr_m]; exact cntN_0 25 (fun _ _ => rfl)
theorem u_clr_hl {σ : Stt} (h : SOk σ) (k : Nat) : a_hl (u_clr σ k) k = 0 := by unfold a_hl; rw [u_clr_m]; exact clo_none h.2.2.2.1
theorem u_lnk_ct0 {σ : Stt} (h : SOk σ) {k f t d : Nat} (hf : f < s_n σ k) (ht : t < s_n σ k) (hd : d < 4) (e : (s_m σ k (f * 5 + t)).testBit d = false) : a_ct (u_lnk σ k f t d) k = a_ct σ k + 1 := by
  have := h.1 k
  unfold a_ct; rw [u_lnk_m]; exact (cnt_tg (h.2.2.2.2.1 k) (by omega) (by omega) hd).1 e
theorem u_lnk_ct1 {σ : Stt} (h : SOk σ) {k f t d : Nat} (hf : f < s_n σ k) (ht : t < s_n σ k) (hd : d < 4) (e : (s_m σ k (f * 5 + t)).testBit d = true) : a_ct (u_lnk σ k f t d) k + 1 = a_ct σ k := by
  have := h.1 k
  unfold a_ct; rw [u_lnk_m]; exact (cnt_tg (h.2.2.2.2.1 k) (by omega) (by omega) hd).2 e
theorem u_lnk_tb (σ : Stt) (k f t d : Nat) : (s_m (u_lnk σ k f t d) k (f * 5 + t)).testBit d = !(s_m σ k (f * 5 + t)).testBit d := by rw [u_lnk_m, tgM_tb]
/-- the hint that is followed -/
theorem hint_inv (σ : Stt) (k : Nat) : ((a_hn σ k).1 = none → (a_hn σ k).2 = 0) ∧ (∀ h, (a_hn σ k).1 = some h → ∃ f t d, h = 100 * f + 10 * t + d ∧ f ≠ t ∧ f < s_n σ 0 ∧ t < s_n σ 0 ∧ d < 4 ∧ f < 5 ∧ t < 5 ∧ (s_m σ 0 (f * 5 + t)).testBit d = false ∧ 0 < (a_hn σ k).2 ∧ MXh (s_c σ) (s_g σ) (s_w σ 0) (s_w σ k) (s_m σ 0) (s_m σ k) (s_n σ 0) (s_n σ k) f t d = a_pts σ k + (a_hn σ k).2) := hn_inv 100 (Nat.le_refl _)
theorem hint_pts {σ : Stt} (h : SOk σ) {k f t d : Nat} (hk0 : k ≠ 0) (hf : f < s_n σ 0) (ht : t < s_n σ 0) (hd : d < 4) (e : (s_m σ 0 (f * 5 + t)).testBit d = false) : a_pts (u_lnk σ 0 f t d) k = MXh (s_c σ) (s_g σ) (s_w σ 0) (s_w σ k) (s_m σ 0) (s_m σ k) (s_n σ 0) (s_n σ k) f t d := by
  show MXm (s_c σ) (s_g σ) (s_w σ 0) (s_w σ k) (va_up (s_m σ) 0 (tgM (s_m σ 0) f t d) 0) (va_up (s_m σ) 0 (tgM (s_m σ 0) f t d) k) (s_n σ 0) (s_n σ k) = _
  rw [vu_eq, vu_ne hk0, tgM_add (h.2.2.2.2.1 0) hd e]
  exact MX_add (h.1 0) h.2.2.2.1 (h.2.2.2.2.1 0) hf ht hd
theorem hint_ne {σ : Stt} {k f t d : Nat} (hft : f < 5 ∧ t < 5 ∧ d < 4) (e : (s_m σ 0 (f * 5 + t)).testBit d = false) : (a_hn (u_lnk σ 0 f t d) k).1 ≠ some (100 * f + 10 * t + d) := by
  intro z
  obtain ⟨f2, t2, d2, e1, _, _, _, h4, h5, h6, h7, _⟩ := (hint_inv (u_lnk σ 0 f t d) k).2 _ z
  have e2 : f2 = f := by omega
  have e3 : t2 = t := by omega
  have e4 : d2 = d := by omega
  subst e2; subst e3; subst e4
  rw [u_lnk_tb, e] at h7; cases h7
/-- the best model -/
theorem best_inv (σ : Stt) : (∀ b, a_bm σ = some b → b ≠ 0 ∧ b < 4 ∧ a_ct σ b ≠ 0) := fun b h => by
  have h9 := (bm_inv (mk := a_mk σ) (ct := a_ct σ) 4).1 b h
  exact ⟨h9.1, h9.2.1, h9.2.2.1⟩
theorem best_max {σ : Stt} {i : Nat} (h0 : i ≠ 0) (h4 : i < 4) (hc : a_ct σ i ≠ 0) : ∃ b, a_bm σ = some b ∧ a_mk σ i ≤ a_mk σ b := bm_max (mk := a_mk σ) (ct := a_ct σ) 4 i (by omega) h4 hc
theorem best_none {σ : Stt} (h : a_bm σ = none) {i : Nat} (h0 : i ≠ 0) (h4 : i < 4) : a_ct σ i = 0 := Decidable.byContradiction (fun z => by
  obtain ⟨b, hb, _⟩ := best_max h0 h4 z
  rw [h] at hb; cases hb)
/-- the law's first state -/
def s_0 : Stt := (fun _ => 0, fun _ _ => 0, fun _ _ => 0, cpA (fun _ => 0) (fun j => j) 32, fun _ => none)
theorem s_0_ok : SOk s_0 := by
  refine ⟨fun _ => Nat.zero_le _, fun _ _ => (by decide : 0 < 32), fun j => ?_, fun _ _ h => (by cases h), fun _ _ => (by decide : 0 < 16), fun _ _ _ _ _ h => absurd rfl h⟩
  show cpA (fun _ => 0) (fun j => j) 32 j < 32
  simp only [cpA]; split
  · next h => exact h
  · exact (by decide : 0 < 32)
theorem s_0_ct (i : Nat) : a_ct s_0 i = 0 := cntN_0 25 (fun _ _ => rfl)
theorem s_0_bm : a_bm s_0 = none := by
  cases h : a_bm s_0 with
  | none => rfl
  | some b => exact absurd (s_0_ct b) (best_inv s_0 b h).2.2
/-- numbers of ours are never one of the law's words -/
theorem nI_nneg {v : Nat} (h : v < 2 ^ 31) {x : Int32} (hx : x < 0) : nI v ≠ x := fun z => by rw [← z] at hx; exact nI_pos h hx
theorem lg_self (v : Int64) : lg_cmp v v = 0 := by
  unfold lg_cmp
  rw [if_neg (by rw [gt_iff_lt, Int64.lt_iff_toInt_lt]; omega), if_pos rfl]
