theorem nI_lit31 (x : Int32) : x.toInt < 2 ^ 31 := by have := x.toInt_lt; omega
theorem inX_l {v : Int32} {n : Nat} (hn : n + 1 < 2 ^ 31) (h1 : ¬ v < 0) (h2 : v ≤ nI n) : inR v (n + 1) = true := by
  refine inX_1 hn h1 (fun h => ?_)
  have a := Int32.le_iff_toInt_le.mp h2
  have b := Int32.le_iff_toInt_le.mp h
  rw [nI_toInt (by omega)] at a b
  omega
theorem inX_g {v : Int32} {n : Nat} (hn : n + 1 < 2 ^ 31) (h1 : ¬ v < 0) (h2 : ¬ nI n < v) : inR v (n + 1) = true := inX_l hn h1 (Int32.not_lt.mp h2)
theorem inX_m {v : Int32} (h1 : ¬ v < -1) (h2 : v ≠ -1) (h3 : v ≤ nI 3) : inR v 4 = true := by
  refine inX_l (n := 3) (by decide) (fun h => ?_) h3
  have a := Int32.lt_iff_toInt_lt.mp h
  have b : ¬ v.toInt < -1 := fun z => h1 (Int32.lt_iff_toInt_lt.mpr z)
  have c : v.toInt ≠ -1 := fun z => h2 (Int32.toInt_inj.mp z)
  have a : v.toInt < 0 := a
  omega
theorem nI_dn (n : Nat) : nI n = nI (n + 1) + (-1) := by
  rw [← nI_add]
  show _ = nI n + nI 1 + -1
  rw [Int32.add_assoc, show nI 1 + -1 = 0 from by decide, Int32.add_zero]
theorem lkB2_eq {n N : Nat} (hN : N ≤ 5) (h : n < N) {d : Int32} : lkB2 N (nI n) (nI n) d = 2 := by
  unfold lkB2
  rw [inR_nI h (by omega), if_neg (by decide), if_neg (by decide), if_pos rfl]
theorem lkB2_up {n N : Nat} (hN : N ≤ 5) (h : N = n + 1) {d : Int32} : lkB2 N (nI n) (nI (n + 1)) d = 1 := by
  unfold lkB2
  rw [inR_nI (show n < N by omega) (by omega), h, inR_self (by omega)]; rfl
theorem lkB2_012 (n : Nat) (a b d : Int32) : lkB2 n a b d = 0 ∨ lkB2 n a b d = 1 ∨ lkB2 n a b d = 2 := by
  unfold lkB2; repeat' split
  all_goals simp
theorem lkB2_ok {n : Nat} (hq : n ≤ 5) {a b d : Int32} (h : lkB2 n a b d = 0) : ∃ f t k, f < n ∧ a = nI f ∧ t < n ∧ b = nI t ∧ f ≠ t ∧ k < 4 ∧ d = nI k := by
  unfold lkB2 at h
  cases h2 : inR a n with
  | false => rw [if_pos h2] at h; cases h
  | true =>
    rw [h2, if_neg (by decide)] at h
    obtain ⟨f, hf, rfl⟩ := inR_ex (by omega) h2
    cases h3 : inR b n with
    | false => rw [if_pos h3] at h; cases h
    | true =>
      rw [h3, if_neg (by decide)] at h
      obtain ⟨t, ht, rfl⟩ := inR_ex (by omega) h3
      by_cases h4 : f = t
      · rw [if_pos (by rw [h4])] at h; cases h
      · rw [if_neg (fun z => h4 ((nI_eq (by omega) (by omega)).mp z))] at h
        cases h5 : inR d 4 with
        | false => rw [if_pos h5] at h; cases h
        | true => obtain ⟨k, hk, rfl⟩ := inR_ex (by decide) h5; exact ⟨f, t, k, hf, rfl, ht, rfl, h4, hk, rfl⟩
theorem u_chn_b {σ : Stt} {f t : Nat} {o p : Option Nat} (h : s_c σ (f * 4 + t) = p) : u_chn (u_chn σ f t o) f t p = σ := by rw [← h]; exact u_chn_2 σ f t o
theorem nI_m1lt {n : Nat} (h : n < 2 ^ 31) : ¬ nI n < -1 := fun z => by
  have a := Int32.lt_iff_toInt_lt.mp z
  rw [nI_toInt h, show ((-1 : Int32).toInt) = -1 by decide] at a
  omega
theorem nI_nneg9 (z : (-1 : Int32) < -1) : False := absurd z (by decide)
set_option maxRecDepth 100000 in
set_option maxHeartbeats 8000000 in
theorem c_changes (l : Launch) (hst : l.stackTraces = false) (g : GG) (ad : Nat → Nat) (gm : Nat → Option Nat) (hG : GM ad gm) (σ : Stt) (hσ : SOk σ) (y : Int32) (odd : Bool) : MY l yL_changes wsL_changes 14 3 18 g ad gm [.ref (ad 0), .int (y), .int (b2i (odd))] σ (fun x σ' => x = 1 ∧ SOk σ') := by
  intro z0 hz0 sz
  refine iy_body (Qc := fun A => va_Qi (fun (x : Int32) (w : va_W) => ∃ σ' z', (fun x σ' => x = 1 ∧ SOk σ') x σ' ∧ ZOk z' ∧ w = MW g ad gm σ' z') (iB g (MW g ad gm σ z0)) A) (cc := cL_changes) (maxL := 17) (ret := (some .boolean)) (by decide) rfl (Nat.le_of_ble_eq_true rfl) ?_ sz
  intro pg ev s0 mi below meth cd A hx hb hr hml hts hown hlocks hK hA hNX hZ H0 hP0 hD0 hS0 ls0 hl0
  have hl0 : lv_has ls0 17 [(0, .ref (ad 0)), (1, .int (y)), (2, .int (b2i (odd)))] := hl0
  have j703 : ∀ (a b : Int32) (z : Scr) (hz : ZOk z) (H : Heap) (locs : List Loc) (hP : va_P g.1 vwCl (MW g ad gm σ z) H) (hD : va_D A (MW g ad gm σ z)) (hS : va_S A s0.heap H locs) (ls : Array Slot) (hl : lv_has ls 17 [(0, .ref (ad 0)), (3, .long (a_all σ)), (10, .int (a))]), W pg l ev (rmY 14 3 18) s0 mi ([.ref (ad 0), .int (y), .int (b2i (odd))] : List Value).toArray below meth cd H locs (0) (0) (MQ below (va_Qi (fun (x : Int32) (w : va_W) => ∃ σ' z', (fun x σ' => x = 1 ∧ SOk σ') x σ' ∧ ZOk z' ∧ w = MW g ad gm σ' z') (iB g (MW g ad gm σ z0)) A) ([.ref (ad 0), .int (y), .int (b2i (odd))] : List Value).toArray s0 3 18 A) (F0 mi 703 ls [.int (b)]) := by
    intro a b z hz H locs hP hD hS ls hl
    refine lv_istore (lv' := [(11, .int (b)), (0, .ref (ad 0)), (3, .long (a_all σ)), (10, .int (a))]) hx hb dL_changes_703 hl (by decide) rfl (fun ls hl => ?_)
    cases h1 : inR a 32 with
    | false =>
      refine lv_aload_n hx hb dL_changes_705 rfl (lv_at hl 1 rfl) ?_
      refine lv_iconst (v := nI (3)) hx hb dL_changes_706 (by decide) ?_
      refine lv_iload hx hb dL_changes_707 (lv_at hl 3 rfl) ?_
      refine lv_iload hx hb dL_changes_709 (lv_at hl 0 rfl) ?_
      refine lv_iconst (v := nI (0)) hx hb dL_changes_711 (by decide) ?_
      refine lv_iconst (v := nI (0)) hx hb dL_changes_712 (by decide) ?_
      refine mx_S (k := 6) hx hb hml hown hts (k_synonyms_a l hst g ad gm hG σ hσ a b h1 (nI 0) (nI 0)) gL_changes_L_call rfl (by decide +kernel) ⟨Nat.le_of_ble_eq_true rfl, Nat.le_of_ble_eq_true rfl⟩ ⟨by show _ ≤ 3; omega, by show _ ≤ 18; omega⟩ hK hNX hZ hz hP hD hS hA rfl hl.1 (rest := []) (As := [.ref (ad 0), .int (nI 3), .int (a), .int (b), .int (nI 0), .int (nI 0)]) rfl (Nat.le_of_ble_eq_true rfl) dL_changes_713 (fun z H locs hz hP hD hS => ?_)
      refine lv_istore (lv' := [(12, .int (-111)), (11, .int (b)), (0, .ref (ad 0)), (3, .long (a_all σ)), (10, .int (a))]) hx hb dL_changes_716 hl (by decide) rfl (fun ls hl => ?_)
      refine lv_iload hx hb dL_changes_718 (lv_at hl 4 rfl) ?_
      refine lv_if_lt (tgt := 742) hx hb dL_changes_720 (by decide) (fun c_1 => ?_) (fun c_1 => ?_)
      · skip
        refine lv_iload hx hb dL_changes_742 (lv_at hl 0 rfl) ?_
        refine lv_bipush (v := -111) hx hb dL_changes_744 (by decide) ?_
        refine lv_icmp_ne (tgt := 762) hx hb dL_changes_746 (by decide) (fun c_2 => absurd c_2 (by decide)) (fun c_2 => ?_)
        refine lv_aload_n hx hb dL_changes_749 rfl (lv_at hl 2 rfl) ?_
        refine ml_S (k := 1) hx hb hml hown hts (c_all l g ad gm hG σ hσ) gL_changes_L_all rfl (by decide +kernel) ⟨Nat.le_of_ble_eq_true rfl, Nat.le_of_ble_eq_true rfl⟩ ⟨by show _ ≤ 3; omega, by show _ ≤ 18; omega⟩ hK hz hP hD hS hA rfl hl.1 (rest := []) (As := [.ref (ad 0)]) rfl (Nat.le_of_ble_eq_true rfl) dL_changes_750 (fun z H locs hz hP hD hS => ?_)
        refine lv_lload_n hx hb dL_changes_753 rfl (lv_at hl 3 rfl) ?_
        refine W.lcmp (x := a_all σ) (y := a_all σ) hx hb dL_changes_754 ?_
        rw [lg_self]
        refine lv_if_ne (tgt := 762) hx hb dL_changes_755 (by decide) (fun c_3 => absurd c_3 (by decide)) (fun c_3 => ?_)
        refine lv_iconst (v := nI (1)) hx hb dL_changes_758 (by decide) ?_
        refine lv_goto (tgt := 763) hx hb dL_changes_759 (by decide) ?_
        exact my_retz (v := nI (1)) hx hb hr hlocks hz hP hS (by omega) (by omega) (mc := 3) (ms := 18) ⟨rfl, hσ⟩ (by first | exact b2i_nar _ | rfl) dL_changes_763
      · skip
        refine lv_iload hx hb dL_changes_723 (lv_at hl 4 rfl) ?_
        refine lv_bipush (v := nI (31)) hx hb dL_changes_725 (by decide) ?_
        refine lv_icmp_gt (tgt := 742) hx hb dL_changes_727 (by decide) (fun c_4 => ?_) (fun c_4 => by exfalso; exact absurd (inX_g (n := 31) (by decide) c_1 c_4) (by rw [h1]; decide))
        refine lv_iload hx hb dL_changes_742 (lv_at hl 0 rfl) ?_
        refine lv_bipush (v := -111) hx hb dL_changes_744 (by decide) ?_
        refine lv_icmp_ne (tgt := 762) hx hb dL_changes_746 (by decide) (fun c_5 => absurd c_5 (by decide)) (fun c_5 => ?_)
        refine lv_aload_n hx hb dL_changes_749 rfl (lv_at hl 2 rfl) ?_
        refine ml_S (k := 1) hx hb hml hown hts (c_all l g ad gm hG σ hσ) gL_changes_L_all rfl (by decide +kernel) ⟨Nat.le_of_ble_eq_true rfl, Nat.le_of_ble_eq_true rfl⟩ ⟨by show _ ≤ 3; omega, by show _ ≤ 18; omega⟩ hK hz hP hD hS hA rfl hl.1 (rest := []) (As := [.ref (ad 0)]) rfl (Nat.le_of_ble_eq_true rfl) dL_changes_750 (fun z H locs hz hP hD hS => ?_)
        refine lv_lload_n hx hb dL_changes_753 rfl (lv_at hl 3 rfl) ?_
        refine W.lcmp (x := a_all σ) (y := a_all σ) hx hb dL_changes_754 ?_
        rw [lg_self]
        refine lv_if_ne (tgt := 762) hx hb dL_changes_755 (by decide) (fun c_6 => absurd c_6 (by decide)) (fun c_6 => ?_)
        refine lv_iconst (v := nI (1)) hx hb dL_changes_758 (by decide) ?_
        refine lv_goto (tgt := 763) hx hb dL_changes_759 (by decide) ?_
        exact my_retz (v := nI (1)) hx hb hr hlocks hz hP hS (by omega) (by omega) (mc := 3) (ms := 18) ⟨rfl, hσ⟩ (by first | exact b2i_nar _ | rfl) dL_changes_763
    | true =>
      obtain ⟨a1, ha1, rfl⟩ := inR_ex (by decide) h1
      cases h2 : inR b 32 with
      | false =>
        refine lv_aload_n hx hb dL_changes_705 rfl (lv_at hl 1 rfl) ?_
        refine lv_iconst (v := nI (3)) hx hb dL_changes_706 (by decide) ?_
        refine lv_iload hx hb dL_changes_707 (lv_at hl 3 rfl) ?_
        refine lv_iload hx hb dL_changes_709 (lv_at hl 0 rfl) ?_
        refine lv_iconst (v := nI (0)) hx hb dL_changes_711 (by decide) ?_
        refine lv_iconst (v := nI (0)) hx hb dL_changes_712 (by decide) ?_
        refine mx_S (k := 6) hx hb hml hown hts (k_synonyms_b l hst g ad gm hG σ hσ a1 b ha1 h2 (nI 0) (nI 0)) gL_changes_L_call rfl (by decide +kernel) ⟨Nat.le_of_ble_eq_true rfl, Nat.le_of_ble_eq_true rfl⟩ ⟨by show _ ≤ 3; omega, by show _ ≤ 18; omega⟩ hK hNX hZ hz hP hD hS hA rfl hl.1 (rest := []) (As := [.ref (ad 0), .int (nI 3), .int (nI a1), .int (b), .int (nI 0), .int (nI 0)]) rfl (Nat.le_of_ble_eq_true rfl) dL_changes_713 (fun z H locs hz hP hD hS => ?_)
        refine lv_istore (lv' := [(12, .int (-111)), (11, .int (b)), (0, .ref (ad 0)), (3, .long (a_all σ)), (10, .int (nI a1))]) hx hb dL_changes_716 hl (by decide) rfl (fun ls hl => ?_)
        refine lv_iload hx hb dL_changes_718 (lv_at hl 4 rfl) ?_
        refine nv_if_lt (tgt := 742) hx hb (by omega) dL_changes_720 (by decide) (fun c_7 => by exfalso; exact c_7) (fun c_7 => ?_)
        refine lv_iload hx hb dL_changes_723 (lv_at hl 4 rfl) ?_
        refine lv_bipush (v := nI (31)) hx hb dL_changes_725 (by decide) ?_
        refine nv_icmp_gt (tgt := 742) hx hb (by omega) (by omega) dL_changes_727 (by decide) (fun c_8 => by exfalso; omega) (fun c_8 => ?_)
        refine lv_iload hx hb dL_changes_730 (lv_at hl 1 rfl) ?_
        refine lv_if_lt (tgt := 742) hx hb dL_changes_732 (by decide) (fun c_9 => ?_) (fun c_9 => ?_)
        · skip
          refine lv_iload hx hb dL_changes_742 (lv_at hl 0 rfl) ?_
          refine lv_bipush (v := -111) hx hb dL_changes_744 (by decide) ?_
          refine lv_icmp_ne (tgt := 762) hx hb dL_changes_746 (by decide) (fun c_10 => absurd c_10 (by decide)) (fun c_10 => ?_)
          refine lv_aload_n hx hb dL_changes_749 rfl (lv_at hl 2 rfl) ?_
          refine ml_S (k := 1) hx hb hml hown hts (c_all l g ad gm hG σ hσ) gL_changes_L_all rfl (by decide +kernel) ⟨Nat.le_of_ble_eq_true rfl, Nat.le_of_ble_eq_true rfl⟩ ⟨by show _ ≤ 3; omega, by show _ ≤ 18; omega⟩ hK hz hP hD hS hA rfl hl.1 (rest := []) (As := [.ref (ad 0)]) rfl (Nat.le_of_ble_eq_true rfl) dL_changes_750 (fun z H locs hz hP hD hS => ?_)
          refine lv_lload_n hx hb dL_changes_753 rfl (lv_at hl 3 rfl) ?_
          refine W.lcmp (x := a_all σ) (y := a_all σ) hx hb dL_changes_754 ?_
          rw [lg_self]
          refine lv_if_ne (tgt := 762) hx hb dL_changes_755 (by decide) (fun c_11 => absurd c_11 (by decide)) (fun c_11 => ?_)
          refine lv_iconst (v := nI (1)) hx hb dL_changes_758 (by decide) ?_
          refine lv_goto (tgt := 763) hx hb dL_changes_759 (by decide) ?_
          exact my_retz (v := nI (1)) hx hb hr hlocks hz hP hS (by omega) (by omega) (mc := 3) (ms := 18) ⟨rfl, hσ⟩ (by first | exact b2i_nar _ | rfl) dL_changes_763
        · skip
          refine lv_iload hx hb dL_changes_735 (lv_at hl 1 rfl) ?_
          refine lv_bipush (v := nI (31)) hx hb dL_changes_737 (by decide) ?_
          refine lv_icmp_le (tgt := 764) hx hb dL_changes_739 (by decide) (fun c_12 => by exfalso; exact absurd (inX_l (n := 31) (by decide) c_9 c_12) (by rw [h2]; decide)) (fun c_12 => ?_)
          refine lv_iload hx hb dL_changes_742 (lv_at hl 0 rfl) ?_
          refine lv_bipush (v := -111) hx hb dL_changes_744 (by decide) ?_
          refine lv_icmp_ne (tgt := 762) hx hb dL_changes_746 (by decide) (fun c_13 => absurd c_13 (by decide)) (fun c_13 => ?_)
          refine lv_aload_n hx hb dL_changes_749 rfl (lv_at hl 2 rfl) ?_
          refine ml_S (k := 1) hx hb hml hown hts (c_all l g ad gm hG σ hσ) gL_changes_L_all rfl (by decide +kernel) ⟨Nat.le_of_ble_eq_true rfl, Nat.le_of_ble_eq_true rfl⟩ ⟨by show _ ≤ 3; omega, by show _ ≤ 18; omega⟩ hK hz hP hD hS hA rfl hl.1 (rest := []) (As := [.ref (ad 0)]) rfl (Nat.le_of_ble_eq_true rfl) dL_changes_750 (fun z H locs hz hP hD hS => ?_)
          refine lv_lload_n hx hb dL_changes_753 rfl (lv_at hl 3 rfl) ?_
          refine W.lcmp (x := a_all σ) (y := a_all σ) hx hb dL_changes_754 ?_
          rw [lg_self]
          refine lv_if_ne (tgt := 762) hx hb dL_changes_755 (by decide) (fun c_14 => absurd c_14 (by decide)) (fun c_14 => ?_)
          refine lv_iconst (v := nI (1)) hx hb dL_changes_758 (by decide) ?_
          refine lv_goto (tgt := 763) hx hb dL_changes_759 (by decide) ?_
          exact my_retz (v := nI (1)) hx hb hr hlocks hz hP hS (by omega) (by omega) (mc := 3) (ms := 18) ⟨rfl, hσ⟩ (by first | exact b2i_nar _ | rfl) dL_changes_763
      | true =>
        obtain ⟨b1, hb1, rfl⟩ := inR_ex (by decide) h2
        by_cases hal : s_g σ a1 = s_g σ b1
        · skip
          refine lv_aload_n hx hb dL_changes_705 rfl (lv_at hl 1 rfl) ?_
          refine lv_iconst (v := nI (3)) hx hb dL_changes_706 (by decide) ?_
          refine lv_iload hx hb dL_changes_707 (lv_at hl 3 rfl) ?_
          refine lv_iload hx hb dL_changes_709 (lv_at hl 0 rfl) ?_
          refine lv_iconst (v := nI (0)) hx hb dL_changes_711 (by decide) ?_
          refine lv_iconst (v := nI (0)) hx hb dL_changes_712 (by decide) ?_
          refine mx_S (k := 6) hx hb hml hown hts (k_synonyms l g ad gm hG σ hσ a1 b1 ha1 hb1 (nI 0) (nI 0)) gL_changes_L_call rfl (by decide +kernel) ⟨Nat.le_of_ble_eq_true rfl, Nat.le_of_ble_eq_true rfl⟩ ⟨by show _ ≤ 3; omega, by show _ ≤ 18; omega⟩ hK hNX hZ hz hP hD hS hA rfl hl.1 (rest := []) (As := [.ref (ad 0), .int (nI 3), .int (nI a1), .int (nI b1), .int (nI 0), .int (nI 0)]) rfl (Nat.le_of_ble_eq_true rfl) dL_changes_713 (fun z H locs hz hP hD hS => ?_)
          rw [decide_eq_true hal, show b2i true = nI 1 from by decide]
          rw [u_syn_s hal] at hP hD
          refine lv_istore (lv' := [(12, .int (nI 1)), (11, .int (nI b1)), (0, .ref (ad 0)), (3, .long (a_all σ)), (10, .int (nI a1))]) hx hb dL_changes_716 hl (by decide) rfl (fun ls hl => ?_)
          refine lv_iload hx hb dL_changes_718 (lv_at hl 4 rfl) ?_
          refine nv_if_lt (tgt := 742) hx hb (by omega) dL_changes_720 (by decide) (fun c_15 => by exfalso; exact c_15) (fun c_15 => ?_)
          refine lv_iload hx hb dL_changes_723 (lv_at hl 4 rfl) ?_
          refine lv_bipush (v := nI (31)) hx hb dL_changes_725 (by decide) ?_
          refine nv_icmp_gt (tgt := 742) hx hb (by omega) (by omega) dL_changes_727 (by decide) (fun c_16 => by exfalso; omega) (fun c_16 => ?_)
          refine lv_iload hx hb dL_changes_730 (lv_at hl 1 rfl) ?_
          refine nv_if_lt (tgt := 742) hx hb (by omega) dL_changes_732 (by decide) (fun c_17 => by exfalso; exact c_17) (fun c_17 => ?_)
          refine lv_iload hx hb dL_changes_735 (lv_at hl 1 rfl) ?_
          refine lv_bipush (v := nI (31)) hx hb dL_changes_737 (by decide) ?_
          refine nv_icmp_le (tgt := 764) hx hb (by omega) (by omega) dL_changes_739 (by decide) (fun c_18 => ?_) (fun c_18 => by exfalso; omega)
          refine lv_iload hx hb dL_changes_764 (lv_at hl 0 rfl) ?_
          refine lv_if_eq (tgt := 778) hx hb dL_changes_766 (by decide) (fun c_19 => absurd c_19 (by decide)) (fun c_19 => ?_)
          refine lv_aload_n hx hb dL_changes_769 rfl (lv_at hl 2 rfl) ?_
          refine ml_S (k := 1) hx hb hml hown hts (c_all l g ad gm hG σ hσ) gL_changes_L_all rfl (by decide +kernel) ⟨Nat.le_of_ble_eq_true rfl, Nat.le_of_ble_eq_true rfl⟩ ⟨by show _ ≤ 3; omega, by show _ ≤ 18; omega⟩ hK hz hP hD hS hA rfl hl.1 (rest := []) (As := [.ref (ad 0)]) rfl (Nat.le_of_ble_eq_true rfl) dL_changes_770 (fun z H locs hz hP hD hS => ?_)
          refine lv_lload_n hx hb dL_changes_773 rfl (lv_at hl 3 rfl) ?_
          refine W.lcmp (x := a_all σ) (y := a_all σ) hx hb dL_changes_774 ?_
          rw [lg_self]
          refine lv_if_ne (tgt := 828) hx hb dL_changes_775 (by decide) (fun c_20 => absurd c_20 (by decide)) (fun c_20 => ?_)
          refine lv_aload_n hx hb dL_changes_778 rfl (lv_at hl 2 rfl) ?_
          refine lv_iload hx hb dL_changes_779 (lv_at hl 4 rfl) ?_
          refine lv_iload hx hb dL_changes_781 (lv_at hl 1 rfl) ?_
          refine mc_V (k := 2) hx hb hml hown hts (mc_synonyms l g ad gm hG σ hσ a1 b1 ha1 hb1) gL_changes_X6_synonyms rfl (by decide +kernel) ⟨Nat.le_of_ble_eq_true rfl, Nat.le_of_ble_eq_true rfl⟩ ⟨by show _ ≤ 3; omega, by show _ ≤ 18; omega⟩ hK hz hP hD hS hA rfl hl.1 (rest := []) (As := [.int (nI a1), .int (nI b1)]) rfl (Nat.le_of_ble_eq_true rfl) dL_changes_783 (fun z H locs hz hP hD hS => ?_)
          rw [decide_eq_true hal, show b2i true = nI 1 from by decide]
          rw [u_syn_s hal] at hP hD
          refine lv_if_eq (tgt := 828) hx hb dL_changes_786 (by decide) (fun c_21 => absurd c_21 (by decide)) (fun c_21 => ?_)
          refine lv_aload_n hx hb dL_changes_789 rfl (lv_at hl 2 rfl) ?_
          refine lv_iload hx hb dL_changes_790 (lv_at hl 1 rfl) ?_
          refine lv_iload hx hb dL_changes_792 (lv_at hl 4 rfl) ?_
          refine mc_V (k := 2) hx hb hml hown hts (mc_synonyms l g ad gm hG σ hσ b1 a1 hb1 ha1) gL_changes_X6_synonyms rfl (by decide +kernel) ⟨Nat.le_of_ble_eq_true rfl, Nat.le_of_ble_eq_true rfl⟩ ⟨by show _ ≤ 3; omega, by show _ ≤ 18; omega⟩ hK hz hP hD hS hA rfl hl.1 (rest := []) (As := [.int (nI b1), .int (nI a1)]) rfl (Nat.le_of_ble_eq_true rfl) dL_changes_794 (fun z H locs hz hP hD hS => ?_)
          rw [decide_eq_true hal.symm, show b2i true = nI 1 from by decide]
          rw [u_syn_s hal.symm] at hP hD
          refine lv_if_eq (tgt := 828) hx hb dL_changes_797 (by decide) (fun c_22 => absurd c_22 (by decide)) (fun c_22 => ?_)
          refine lv_aload_n hx hb dL_changes_800 rfl (lv_at hl 2 rfl) ?_
          refine lv_iload hx hb dL_changes_801 (lv_at hl 4 rfl) ?_
          refine lv_iload hx hb dL_changes_803 (lv_at hl 4 rfl) ?_
          refine mc_V (k := 2) hx hb hml hown hts (mc_synonyms l g ad gm hG σ hσ a1 a1 ha1 ha1) gL_changes_X6_synonyms rfl (by decide +kernel) ⟨Nat.le_of_ble_eq_true rfl, Nat.le_of_ble_eq_true rfl⟩ ⟨by show _ ≤ 3; omega, by show _ ≤ 18; omega⟩ hK hz hP hD hS hA rfl hl.1 (rest := []) (As := [.int (nI a1), .int (nI a1)]) rfl (Nat.le_of_ble_eq_true rfl) dL_changes_805 (fun z H locs hz hP hD hS => ?_)
          rw [decide_eq_true (rfl : s_g σ a1 = s_g σ a1), show b2i true = nI 1 from by decide]
          rw [u_syn_s (rfl : s_g σ a1 = s_g σ a1)] at hP hD
          refine lv_if_eq (tgt := 828) hx hb dL_changes_808 (by decide) (fun c_23 => absurd c_23 (by decide)) (fun c_23 => ?_)
          refine lv_iload hx hb dL_changes_811 (lv_at hl 4 rfl) ?_
          refine lv_iload hx hb dL_changes_813 (lv_at hl 1 rfl) ?_
          refine nv_icmp_ne (tgt := 824) hx hb (by omega) (by omega) dL_changes_815 (by decide) (fun c_24 => ?_) (fun c_24 => ?_)
          · skip
            refine lv_iconst (v := nI (1)) hx hb dL_changes_824 (by decide) ?_
            refine lv_goto (tgt := 829) hx hb dL_changes_825 (by decide) ?_
            exact my_retz (v := nI (1)) hx hb hr hlocks hz hP hS (by omega) (by omega) (mc := 3) (ms := 18) ⟨rfl, hσ⟩ (by first | exact b2i_nar _ | rfl) dL_changes_829
          · skip
            refine lv_iload hx hb dL_changes_818 (lv_at hl 0 rfl) ?_
            refine lv_iconst (v := nI (1)) hx hb dL_changes_820 (by decide) ?_
            refine lv_icmp_ne (tgt := 828) hx hb dL_changes_821 (by decide) (fun c_25 => absurd c_25 (by decide)) (fun c_25 => ?_)
            refine lv_iconst (v := nI (1)) hx hb dL_changes_824 (by decide) ?_
            refine lv_goto (tgt := 829) hx hb dL_changes_825 (by decide) ?_
            exact my_retz (v := nI (1)) hx hb hr hlocks hz hP hS (by omega) (by omega) (mc := 3) (ms := 18) ⟨rfl, hσ⟩ (by first | exact b2i_nar _ | rfl) dL_changes_829
        · skip
          have hσ2 : SOk (u_syn σ a1 b1) := u_syn_ok hσ
          have hal2 : s_g (u_syn σ a1 b1) a1 = s_g (u_syn σ a1 b1) b1 := u_syn_a ha1 hb1
          refine lv_aload_n hx hb dL_changes_705 rfl (lv_at hl 1 rfl) ?_
          refine lv_iconst (v := nI (3)) hx hb dL_changes_706 (by decide) ?_
          refine lv_iload hx hb dL_changes_707 (lv_at hl 3 rfl) ?_
          refine lv_iload hx hb dL_changes_709 (lv_at hl 0 rfl) ?_
          refine lv_iconst (v := nI (0)) hx hb dL_changes_711 (by decide) ?_
          refine lv_iconst (v := nI (0)) hx hb dL_changes_712 (by decide) ?_
          refine mx_S (k := 6) hx hb hml hown hts (k_synonyms l g ad gm hG σ hσ a1 b1 ha1 hb1 (nI 0) (nI 0)) gL_changes_L_call rfl (by decide +kernel) ⟨Nat.le_of_ble_eq_true rfl, Nat.le_of_ble_eq_true rfl⟩ ⟨by show _ ≤ 3; omega, by show _ ≤ 18; omega⟩ hK hNX hZ hz hP hD hS hA rfl hl.1 (rest := []) (As := [.ref (ad 0), .int (nI 3), .int (nI a1), .int (nI b1), .int (nI 0), .int (nI 0)]) rfl (Nat.le_of_ble_eq_true rfl) dL_changes_713 (fun z H locs hz hP hD hS => ?_)
          rw [decide_eq_false hal, show b2i false = nI 0 from by decide]
          refine lv_istore (lv' := [(12, .int (nI 0)), (11, .int (nI b1)), (0, .ref (ad 0)), (3, .long (a_all σ)), (10, .int (nI a1))]) hx hb dL_changes_716 hl (by decide) rfl (fun ls hl => ?_)
          refine lv_iload hx hb dL_changes_718 (lv_at hl 4 rfl) ?_
          refine nv_if_lt (tgt := 742) hx hb (by omega) dL_changes_720 (by decide) (fun c_26 => by exfalso; exact c_26) (fun c_26 => ?_)
          refine lv_iload hx hb dL_changes_723 (lv_at hl 4 rfl) ?_
          refine lv_bipush (v := nI (31)) hx hb dL_changes_725 (by decide) ?_
          refine nv_icmp_gt (tgt := 742) hx hb (by omega) (by omega) dL_changes_727 (by decide) (fun c_27 => by exfalso; omega) (fun c_27 => ?_)
          refine lv_iload hx hb dL_changes_730 (lv_at hl 1 rfl) ?_
          refine nv_if_lt (tgt := 742) hx hb (by omega) dL_changes_732 (by decide) (fun c_28 => by exfalso; exact c_28) (fun c_28 => ?_)
          refine lv_iload hx hb dL_changes_735 (lv_at hl 1 rfl) ?_
          refine lv_bipush (v := nI (31)) hx hb dL_changes_737 (by decide) ?_
          refine nv_icmp_le (tgt := 764) hx hb (by omega) (by omega) dL_changes_739 (by decide) (fun c_29 => ?_) (fun c_29 => by exfalso; omega)
          refine lv_iload hx hb dL_changes_764 (lv_at hl 0 rfl) ?_
          refine lv_if_eq (tgt := 778) hx hb dL_changes_766 (by decide) (fun c_30 => ?_) (fun c_30 => absurd c_30 (by decide))
          refine lv_aload_n hx hb dL_changes_778 rfl (lv_at hl 2 rfl) ?_
          refine lv_iload hx hb dL_changes_779 (lv_at hl 4 rfl) ?_
          refine lv_iload hx hb dL_changes_781 (lv_at hl 1 rfl) ?_
          refine mc_V (k := 2) hx hb hml hown hts (mc_synonyms l g ad gm hG (u_syn σ a1 b1) hσ2 a1 b1 ha1 hb1) gL_changes_X6_synonyms rfl (by decide +kernel) ⟨Nat.le_of_ble_eq_true rfl, Nat.le_of_ble_eq_true rfl⟩ ⟨by show _ ≤ 3; omega, by show _ ≤ 18; omega⟩ hK hz hP hD hS hA rfl hl.1 (rest := []) (As := [.int (nI a1), .int (nI b1)]) rfl (Nat.le_of_ble_eq_true rfl) dL_changes_783 (fun z H locs hz hP hD hS => ?_)
          rw [decide_eq_true hal2, show b2i true = nI 1 from by decide]
          rw [u_syn_s hal2] at hP hD
          refine lv_if_eq (tgt := 828) hx hb dL_changes_786 (by decide) (fun c_31 => absurd c_31 (by decide)) (fun c_31 => ?_)
          refine lv_aload_n hx hb dL_changes_789 rfl (lv_at hl 2 rfl) ?_
          refine lv_iload hx hb dL_changes_790 (lv_at hl 1 rfl) ?_
          refine lv_iload hx hb dL_changes_792 (lv_at hl 4 rfl) ?_
          refine mc_V (k := 2) hx hb hml hown hts (mc_synonyms l g ad gm hG (u_syn σ a1 b1) hσ2 b1 a1 hb1 ha1) gL_changes_X6_synonyms rfl (by decide +kernel) ⟨Nat.le_of_ble_eq_true rfl, Nat.le_of_ble_eq_true rfl⟩ ⟨by show _ ≤ 3; omega, by show _ ≤ 18; omega⟩ hK hz hP hD hS hA rfl hl.1 (rest := []) (As := [.int (nI b1), .int (nI a1)]) rfl (Nat.le_of_ble_eq_true rfl) dL_changes_794 (fun z H locs hz hP hD hS => ?_)
          rw [decide_eq_true hal2.symm, show b2i true = nI 1 from by decide]
          rw [u_syn_s hal2.symm] at hP hD
          refine lv_if_eq (tgt := 828) hx hb dL_changes_797 (by decide) (fun c_32 => absurd c_32 (by decide)) (fun c_32 => ?_)
          refine lv_aload_n hx hb dL_changes_800 rfl (lv_at hl 2 rfl) ?_
          refine lv_iload hx hb dL_changes_801 (lv_at hl 4 rfl) ?_
          refine lv_iload hx hb dL_changes_803 (lv_at hl 4 rfl) ?_
          refine mc_V (k := 2) hx hb hml hown hts (mc_synonyms l g ad gm hG (u_syn σ a1 b1) hσ2 a1 a1 ha1 ha1) gL_changes_X6_synonyms rfl (by decide +kernel) ⟨Nat.le_of_ble_eq_true rfl, Nat.le_of_ble_eq_true rfl⟩ ⟨by show _ ≤ 3; omega, by show _ ≤ 18; omega⟩ hK hz hP hD hS hA rfl hl.1 (rest := []) (As := [.int (nI a1), .int (nI a1)]) rfl (Nat.le_of_ble_eq_true rfl) dL_changes_805 (fun z H locs hz hP hD hS => ?_)
          rw [decide_eq_true (rfl : s_g (u_syn σ a1 b1) a1 = s_g (u_syn σ a1 b1) a1), show b2i true = nI 1 from by decide]
          rw [u_syn_s (rfl : s_g (u_syn σ a1 b1) a1 = s_g (u_syn σ a1 b1) a1)] at hP hD
          refine lv_if_eq (tgt := 828) hx hb dL_changes_808 (by decide) (fun c_33 => absurd c_33 (by decide)) (fun c_33 => ?_)
          refine lv_iload hx hb dL_changes_811 (lv_at hl 4 rfl) ?_
          refine lv_iload hx hb dL_changes_813 (lv_at hl 1 rfl) ?_
          refine nv_icmp_ne (tgt := 824) hx hb (by omega) (by omega) dL_changes_815 (by decide) (fun c_34 => ?_) (fun c_34 => by exfalso; exact hal (by rw [c_34]))
          refine lv_iconst (v := nI (1)) hx hb dL_changes_824 (by decide) ?_
          refine lv_goto (tgt := 829) hx hb dL_changes_825 (by decide) ?_
          exact my_retz (v := nI (1)) hx hb hr hlocks hz hP hS (by omega) (by omega) (mc := 3) (ms := 18) ⟨rfl, hσ2⟩ (by first | exact b2i_nar _ | rfl) dL_changes_829
  have j674 : ∀ (a : Int32) (z : Scr) (hz : ZOk z) (H : Heap) (locs : List Loc) (hP : va_P g.1 vwCl (MW g ad gm σ z) H) (hD : va_D A (MW g ad gm σ z)) (hS : va_S A s0.heap H locs) (ls : Array Slot) (hl : lv_has ls 17 [(0, .ref (ad 0)), (1, .int (y)), (2, .int (b2i (odd))), (3, .long (a_all σ))]), W pg l ev (rmY 14 3 18) s0 mi ([.ref (ad 0), .int (y), .int (b2i (odd))] : List Value).toArray below meth cd H locs (0) (0) (MQ below (va_Qi (fun (x : Int32) (w : va_W) => ∃ σ' z', (fun x σ' => x = 1 ∧ SOk σ') x σ' ∧ ZOk z' ∧ w = MW g ad gm σ' z') (iB g (MW g ad gm σ z0)) A) ([.ref (ad 0), .int (y), .int (b2i (odd))] : List Value).toArray s0 3 18 A) (F0 mi 674 ls [.int (a)]) := by
    intro a z hz H locs hP hD hS ls hl
    refine lv_istore (lv' := [(10, .int (a)), (0, .ref (ad 0)), (1, .int (y)), (2, .int (b2i (odd))), (3, .long (a_all σ))]) hx hb dL_changes_674 hl (by decide) rfl (fun ls hl => ?_)
    refine lv_iload_n hx hb dL_changes_676 rfl (lv_at hl 3 rfl) ?_
    refine bv_if_eq (tgt := 694) hx hb dL_changes_677 (by decide) (fun c_35 => ?_) (fun c_35 => ?_)
    · skip
      refine lv_iload_n hx hb dL_changes_694 rfl (lv_at hl 2 rfl) ?_
      refine lv_bipush (v := nI (9)) hx hb dL_changes_695 (by decide) ?_
      refine lv_ishr hx hb dL_changes_697 ?_
      refine lv_bipush (v := nI (7)) hx hb dL_changes_698 (by decide) ?_
      refine ms_S hx hb hml hown hts (c_some l g (y >>> ((nI (9)) &&& 31)) 7 (by decide) (by decide)) gL_changes_L_some rfl (by decide +kernel) ⟨Nat.le_of_ble_eq_true rfl, Nat.le_of_ble_eq_true rfl⟩ ⟨by show _ ≤ 3; omega, by show _ ≤ 18; omega⟩ hK hz hP hD hS hA hl.1 (rest := []) (Nat.le_of_ble_eq_true rfl) dL_changes_700 (fun r1 hr1 z H locs hz hP hD hS => ?_)
      exact j703 a (r1) z hz H locs hP hD hS ls (lv_sub hl [1, 4, 0] rfl)
    · skip
      refine lv_iload_n hx hb dL_changes_680 rfl (lv_at hl 2 rfl) ?_
      refine lv_bipush (v := nI (9)) hx hb dL_changes_681 (by decide) ?_
      refine lv_ishr hx hb dL_changes_683 ?_
      refine lv_bipush (v := nI (34)) hx hb dL_changes_684 (by decide) ?_
      refine ms_S hx hb hml hown hts (c_some l g (y >>> ((nI (9)) &&& 31)) 34 (by decide) (by decide)) gL_changes_L_some rfl (by decide +kernel) ⟨Nat.le_of_ble_eq_true rfl, Nat.le_of_ble_eq_true rfl⟩ ⟨by show _ ≤ 3; omega, by show _ ≤ 18; omega⟩ hK hz hP hD hS hA hl.1 (rest := []) (Nat.le_of_ble_eq_true rfl) dL_changes_686 (fun r2 hr2 z H locs hz hP hD hS => ?_)
      refine lv_iconst (v := nI (1)) hx hb dL_changes_689 (by decide) ?_
      refine lv_isub hx hb dL_changes_690 ?_
      refine lv_goto (tgt := 703) hx hb dL_changes_691 (by decide) ?_
      exact j703 a (r2 - (nI (1))) z hz H locs hP hD hS ls (lv_sub hl [1, 4, 0] rfl)
  have j647 : ∀ (z : Scr) (hz : ZOk z) (H : Heap) (locs : List Loc) (hP : va_P g.1 vwCl (MW g ad gm σ z) H) (hD : va_D A (MW g ad gm σ z)) (hS : va_S A s0.heap H locs) (ls : Array Slot) (hl : lv_has ls 17 [(0, .ref (ad 0)), (1, .int (y)), (2, .int (b2i (odd))), (3, .long (a_all σ))]), W pg l ev (rmY 14 3 18) s0 mi ([.ref (ad 0), .int (y), .int (b2i (odd))] : List Value).toArray below meth cd H locs (0) (0) (MQ below (va_Qi (fun (x : Int32) (w : va_W) => ∃ σ' z', (fun x σ' => x = 1 ∧ SOk σ') x σ' ∧ ZOk z' ∧ w = MW g ad gm σ' z') (iB g (MW g ad gm σ z0)) A) ([.ref (ad 0), .int (y), .int (b2i (odd))] : List Value).toArray s0 3 18 A) (F0 mi 647 ls []) := by
    intro  z hz H locs hP hD hS ls hl
    refine lv_iload_n hx hb dL_changes_647 rfl (lv_at hl 2 rfl) ?_
    refine bv_if_eq (tgt := 665) hx hb dL_changes_648 (by decide) (fun c_36 => ?_) (fun c_36 => ?_)
    · skip
      refine lv_iload_n hx hb dL_changes_665 rfl (lv_at hl 1 rfl) ?_
      refine lv_bipush (v := nI (7)) hx hb dL_changes_666 (by decide) ?_
      refine lv_ishr hx hb dL_changes_668 ?_
      refine lv_bipush (v := nI (7)) hx hb dL_changes_669 (by decide) ?_
      refine ms_S hx hb hml hown hts (c_some l g (y >>> ((nI (7)) &&& 31)) 7 (by decide) (by decide)) gL_changes_L_some rfl (by decide +kernel) ⟨Nat.le_of_ble_eq_true rfl, Nat.le_of_ble_eq_true rfl⟩ ⟨by show _ ≤ 3; omega, by show _ ≤ 18; omega⟩ hK hz hP hD hS hA hl.1 (rest := []) (Nat.le_of_ble_eq_true rfl) dL_changes_671 (fun r3 hr3 z H locs hz hP hD hS => ?_)
      exact j674 (r3) z hz H locs hP hD hS ls (lv_sub hl [0, 1, 2, 3] rfl)
    · skip
      refine lv_iload_n hx hb dL_changes_651 rfl (lv_at hl 1 rfl) ?_
      refine lv_bipush (v := nI (7)) hx hb dL_changes_652 (by decide) ?_
      refine lv_ishr hx hb dL_changes_654 ?_
      refine lv_bipush (v := nI (34)) hx hb dL_changes_655 (by decide) ?_
      refine ms_S hx hb hml hown hts (c_some l g (y >>> ((nI (7)) &&& 31)) 34 (by decide) (by decide)) gL_changes_L_some rfl (by decide +kernel) ⟨Nat.le_of_ble_eq_true rfl, Nat.le_of_ble_eq_true rfl⟩ ⟨by show _ ≤ 3; omega, by show _ ≤ 18; omega⟩ hK hz hP hD hS hA hl.1 (rest := []) (Nat.le_of_ble_eq_true rfl) dL_changes_657 (fun r4 hr4 z H locs hz hP hD hS => ?_)
      refine lv_iconst (v := nI (1)) hx hb dL_changes_660 (by decide) ?_
      refine lv_isub hx hb dL_changes_661 ?_
      refine lv_goto (tgt := 674) hx hb dL_changes_662 (by decide) ?_
      exact j674 (r4 - (nI (1))) z hz H locs hP hD hS ls (lv_sub hl [0, 1, 2, 3] rfl)
  have j921 : ∀ (a b d : Int32) (z : Scr) (hz : ZOk z) (H : Heap) (locs : List Loc) (hP : va_P g.1 vwCl (MW g ad gm σ z) H) (hD : va_D A (MW g ad gm σ z)) (hS : va_S A s0.heap H locs) (ls : Array Slot) (hl : lv_has ls 17 [(0, .ref (ad 0)), (3, .long (a_all σ)), (10, .int (a)), (11, .int (b))]), W pg l ev (rmY 14 3 18) s0 mi ([.ref (ad 0), .int (y), .int (b2i (odd))] : List Value).toArray below meth cd H locs (0) (0) (MQ below (va_Qi (fun (x : Int32) (w : va_W) => ∃ σ' z', (fun x σ' => x = 1 ∧ SOk σ') x σ' ∧ ZOk z' ∧ w = MW g ad gm σ' z') (iB g (MW g ad gm σ z0)) A) ([.ref (ad 0), .int (y), .int (b2i (odd))] : List Value).toArray s0 3 18 A) (F0 mi 921 ls [.int (d)]) := by
    intro a b d z hz H locs hP hD hS ls hl
    refine lv_istore (lv' := [(12, .int (d)), (0, .ref (ad 0)), (3, .long (a_all σ)), (10, .int (a)), (11, .int (b))]) hx hb dL_changes_921 hl (by decide) rfl (fun ls hl => ?_)
    cases h1 : inR a 4 with
    | false =>
      refine lv_aload_n hx hb dL_changes_923 rfl (lv_at hl 1 rfl) ?_
      refine lv_iconst (v := nI (4)) hx hb dL_changes_924 (by decide) ?_
      refine lv_iload hx hb dL_changes_925 (lv_at hl 3 rfl) ?_
      refine lv_iload hx hb dL_changes_927 (lv_at hl 4 rfl) ?_
      refine lv_iload hx hb dL_changes_929 (lv_at hl 0 rfl) ?_
      refine lv_iconst (v := nI (0)) hx hb dL_changes_931 (by decide) ?_
      refine mx_S (k := 6) hx hb hml hown hts (k_chain_a l hst g ad gm hG σ hσ a b d h1 (nI 0)) gL_changes_L_call rfl (by decide +kernel) ⟨Nat.le_of_ble_eq_true rfl, Nat.le_of_ble_eq_true rfl⟩ ⟨by show _ ≤ 3; omega, by show _ ≤ 18; omega⟩ hK hNX hZ hz hP hD hS hA rfl hl.1 (rest := []) (As := [.ref (ad 0), .int (nI 4), .int (a), .int (b), .int (d), .int (nI 0)]) rfl (Nat.le_of_ble_eq_true rfl) dL_changes_932 (fun z H locs hz hP hD hS => ?_)
      refine lv_istore (lv' := [(13, .int (-112)), (12, .int (d)), (0, .ref (ad 0)), (3, .long (a_all σ)), (10, .int (a)), (11, .int (b))]) hx hb dL_changes_935 hl (by decide) rfl (fun ls hl => ?_)
      refine lv_iload hx hb dL_changes_937 (lv_at hl 4 rfl) ?_
      refine lv_if_lt (tgt := 971) hx hb dL_changes_939 (by decide) (fun c_37 => ?_) (fun c_37 => ?_)
      · skip
        refine lv_iload hx hb dL_changes_971 (lv_at hl 0 rfl) ?_
        refine lv_bipush (v := -112) hx hb dL_changes_973 (by decide) ?_
        refine lv_icmp_ne (tgt := 991) hx hb dL_changes_975 (by decide) (fun c_38 => absurd c_38 (by decide)) (fun c_38 => ?_)
        refine lv_aload_n hx hb dL_changes_978 rfl (lv_at hl 2 rfl) ?_
        refine ml_S (k := 1) hx hb hml hown hts (c_all l g ad gm hG σ hσ) gL_changes_L_all rfl (by decide +kernel) ⟨Nat.le_of_ble_eq_true rfl, Nat.le_of_ble_eq_true rfl⟩ ⟨by show _ ≤ 3; omega, by show _ ≤ 18; omega⟩ hK hz hP hD hS hA rfl hl.1 (rest := []) (As := [.ref (ad 0)]) rfl (Nat.le_of_ble_eq_true rfl) dL_changes_979 (fun z H locs hz hP hD hS => ?_)
        refine lv_lload_n hx hb dL_changes_982 rfl (lv_at hl 3 rfl) ?_
        refine W.lcmp (x := a_all σ) (y := a_all σ) hx hb dL_changes_983 ?_
        rw [lg_self]
        refine lv_if_ne (tgt := 991) hx hb dL_changes_984 (by decide) (fun c_39 => absurd c_39 (by decide)) (fun c_39 => ?_)
        refine lv_iconst (v := nI (1)) hx hb dL_changes_987 (by decide) ?_
        refine lv_goto (tgt := 992) hx hb dL_changes_988 (by decide) ?_
        exact my_retz (v := nI (1)) hx hb hr hlocks hz hP hS (by omega) (by omega) (mc := 3) (ms := 18) ⟨rfl, hσ⟩ (by first | exact b2i_nar _ | rfl) dL_changes_992
      · skip
        refine lv_iload hx hb dL_changes_942 (lv_at hl 4 rfl) ?_
        refine lv_iconst (v := nI (3)) hx hb dL_changes_944 (by decide) ?_
        refine lv_icmp_gt (tgt := 971) hx hb dL_changes_945 (by decide) (fun c_40 => ?_) (fun c_40 => by exfalso; exact absurd (inX_g (n := 3) (by decide) c_37 c_40) (by rw [h1]; decide))
        refine lv_iload hx hb dL_changes_971 (lv_at hl 0 rfl) ?_
        refine lv_bipush (v := -112) hx hb dL_changes_973 (by decide) ?_
        refine lv_icmp_ne (tgt := 991) hx hb dL_changes_975 (by decide) (fun c_41 => absurd c_41 (by decide)) (fun c_41 => ?_)
        refine lv_aload_n hx hb dL_changes_978 rfl (lv_at hl 2 rfl) ?_
        refine ml_S (k := 1) hx hb hml hown hts (c_all l g ad gm hG σ hσ) gL_changes_L_all rfl (by decide +kernel) ⟨Nat.le_of_ble_eq_true rfl, Nat.le_of_ble_eq_true rfl⟩ ⟨by show _ ≤ 3; omega, by show _ ≤ 18; omega⟩ hK hz hP hD hS hA rfl hl.1 (rest := []) (As := [.ref (ad 0)]) rfl (Nat.le_of_ble_eq_true rfl) dL_changes_979 (fun z H locs hz hP hD hS => ?_)
        refine lv_lload_n hx hb dL_changes_982 rfl (lv_at hl 3 rfl) ?_
        refine W.lcmp (x := a_all σ) (y := a_all σ) hx hb dL_changes_983 ?_
        rw [lg_self]
        refine lv_if_ne (tgt := 991) hx hb dL_changes_984 (by decide) (fun c_42 => absurd c_42 (by decide)) (fun c_42 => ?_)
        refine lv_iconst (v := nI (1)) hx hb dL_changes_987 (by decide) ?_
        refine lv_goto (tgt := 992) hx hb dL_changes_988 (by decide) ?_
        exact my_retz (v := nI (1)) hx hb hr hlocks hz hP hS (by omega) (by omega) (mc := 3) (ms := 18) ⟨rfl, hσ⟩ (by first | exact b2i_nar _ | rfl) dL_changes_992
    | true =>
      obtain ⟨f, hf, rfl⟩ := inR_ex (by decide) h1
      cases h2 : inR b 4 with
      | false =>
        refine lv_aload_n hx hb dL_changes_923 rfl (lv_at hl 1 rfl) ?_
        refine lv_iconst (v := nI (4)) hx hb dL_changes_924 (by decide) ?_
        refine lv_iload hx hb dL_changes_925 (lv_at hl 3 rfl) ?_
        refine lv_iload hx hb dL_changes_927 (lv_at hl 4 rfl) ?_
        refine lv_iload hx hb dL_changes_929 (lv_at hl 0 rfl) ?_
        refine lv_iconst (v := nI (0)) hx hb dL_changes_931 (by decide) ?_
        refine mx_S (k := 6) hx hb hml hown hts (k_chain_b l hst g ad gm hG σ hσ f b d hf h2 (nI 0)) gL_changes_L_call rfl (by decide +kernel) ⟨Nat.le_of_ble_eq_true rfl, Nat.le_of_ble_eq_true rfl⟩ ⟨by show _ ≤ 3; omega, by show _ ≤ 18; omega⟩ hK hNX hZ hz hP hD hS hA rfl hl.1 (rest := []) (As := [.ref (ad 0), .int (nI 4), .int (nI f), .int (b), .int (d), .int (nI 0)]) rfl (Nat.le_of_ble_eq_true rfl) dL_changes_932 (fun z H locs hz hP hD hS => ?_)
        refine lv_istore (lv' := [(13, .int (-112)), (12, .int (d)), (0, .ref (ad 0)), (3, .long (a_all σ)), (10, .int (nI f)), (11, .int (b))]) hx hb dL_changes_935 hl (by decide) rfl (fun ls hl => ?_)
        refine lv_iload hx hb dL_changes_937 (lv_at hl 4 rfl) ?_
        refine nv_if_lt (tgt := 971) hx hb (by omega) dL_changes_939 (by decide) (fun c_43 => by exfalso; exact c_43) (fun c_43 => ?_)
        refine lv_iload hx hb dL_changes_942 (lv_at hl 4 rfl) ?_
        refine lv_iconst (v := nI (3)) hx hb dL_changes_944 (by decide) ?_
        refine nv_icmp_gt (tgt := 971) hx hb (by omega) (by omega) dL_changes_945 (by decide) (fun c_44 => by exfalso; omega) (fun c_44 => ?_)
        refine lv_iload hx hb dL_changes_948 (lv_at hl 5 rfl) ?_
        refine lv_if_lt (tgt := 971) hx hb dL_changes_950 (by decide) (fun c_45 => ?_) (fun c_45 => ?_)
        · skip
          refine lv_iload hx hb dL_changes_971 (lv_at hl 0 rfl) ?_
          refine lv_bipush (v := -112) hx hb dL_changes_973 (by decide) ?_
          refine lv_icmp_ne (tgt := 991) hx hb dL_changes_975 (by decide) (fun c_46 => absurd c_46 (by decide)) (fun c_46 => ?_)
          refine lv_aload_n hx hb dL_changes_978 rfl (lv_at hl 2 rfl) ?_
          refine ml_S (k := 1) hx hb hml hown hts (c_all l g ad gm hG σ hσ) gL_changes_L_all rfl (by decide +kernel) ⟨Nat.le_of_ble_eq_true rfl, Nat.le_of_ble_eq_true rfl⟩ ⟨by show _ ≤ 3; omega, by show _ ≤ 18; omega⟩ hK hz hP hD hS hA rfl hl.1 (rest := []) (As := [.ref (ad 0)]) rfl (Nat.le_of_ble_eq_true rfl) dL_changes_979 (fun z H locs hz hP hD hS => ?_)
          refine lv_lload_n hx hb dL_changes_982 rfl (lv_at hl 3 rfl) ?_
          refine W.lcmp (x := a_all σ) (y := a_all σ) hx hb dL_changes_983 ?_
          rw [lg_self]
          refine lv_if_ne (tgt := 991) hx hb dL_changes_984 (by decide) (fun c_47 => absurd c_47 (by decide)) (fun c_47 => ?_)
          refine lv_iconst (v := nI (1)) hx hb dL_changes_987 (by decide) ?_
          refine lv_goto (tgt := 992) hx hb dL_changes_988 (by decide) ?_
          exact my_retz (v := nI (1)) hx hb hr hlocks hz hP hS (by omega) (by omega) (mc := 3) (ms := 18) ⟨rfl, hσ⟩ (by first | exact b2i_nar _ | rfl) dL_changes_992
        · skip
          refine lv_iload hx hb dL_changes_953 (lv_at hl 5 rfl) ?_
          refine lv_iconst (v := nI (3)) hx hb dL_changes_955 (by decide) ?_
          refine lv_icmp_gt (tgt := 971) hx hb dL_changes_956 (by decide) (fun c_48 => ?_) (fun c_48 => by exfalso; exact absurd (inX_g (n := 3) (by decide) c_45 c_48) (by rw [h2]; decide))
          refine lv_iload hx hb dL_changes_971 (lv_at hl 0 rfl) ?_
          refine lv_bipush (v := -112) hx hb dL_changes_973 (by decide) ?_
          refine lv_icmp_ne (tgt := 991) hx hb dL_changes_975 (by decide) (fun c_49 => absurd c_49 (by decide)) (fun c_49 => ?_)
          refine lv_aload_n hx hb dL_changes_978 rfl (lv_at hl 2 rfl) ?_
          refine ml_S (k := 1) hx hb hml hown hts (c_all l g ad gm hG σ hσ) gL_changes_L_all rfl (by decide +kernel) ⟨Nat.le_of_ble_eq_true rfl, Nat.le_of_ble_eq_true rfl⟩ ⟨by show _ ≤ 3; omega, by show _ ≤ 18; omega⟩ hK hz hP hD hS hA rfl hl.1 (rest := []) (As := [.ref (ad 0)]) rfl (Nat.le_of_ble_eq_true rfl) dL_changes_979 (fun z H locs hz hP hD hS => ?_)
          refine lv_lload_n hx hb dL_changes_982 rfl (lv_at hl 3 rfl) ?_
          refine W.lcmp (x := a_all σ) (y := a_all σ) hx hb dL_changes_983 ?_
          rw [lg_self]
          refine lv_if_ne (tgt := 991) hx hb dL_changes_984 (by decide) (fun c_50 => absurd c_50 (by decide)) (fun c_50 => ?_)
          refine lv_iconst (v := nI (1)) hx hb dL_changes_987 (by decide) ?_
          refine lv_goto (tgt := 992) hx hb dL_changes_988 (by decide) ?_
          exact my_retz (v := nI (1)) hx hb hr hlocks hz hP hS (by omega) (by omega) (mc := 3) (ms := 18) ⟨rfl, hσ⟩ (by first | exact b2i_nar _ | rfl) dL_changes_992
      | true =>
        obtain ⟨t, ht, rfl⟩ := inR_ex (by decide) h2
        by_cases hz9 : d = -1
        · skip
          subst hz9
          have hσ2 : SOk (u_chn σ f t none) := u_chn_ok hσ (fun d9 h9 => by cases h9)
          refine lv_aload_n hx hb dL_changes_923 rfl (lv_at hl 1 rfl) ?_
          refine lv_iconst (v := nI (4)) hx hb dL_changes_924 (by decide) ?_
          refine lv_iload hx hb dL_changes_925 (lv_at hl 3 rfl) ?_
          refine lv_iload hx hb dL_changes_927 (lv_at hl 4 rfl) ?_
          refine lv_iload hx hb dL_changes_929 (lv_at hl 0 rfl) ?_
          refine lv_iconst (v := nI (0)) hx hb dL_changes_931 (by decide) ?_
          refine mx_S (k := 6) hx hb hml hown hts (k_chain_none l g ad gm hG σ hσ f t hf ht (nI 0)) gL_changes_L_call rfl (by decide +kernel) ⟨Nat.le_of_ble_eq_true rfl, Nat.le_of_ble_eq_true rfl⟩ ⟨by show _ ≤ 3; omega, by show _ ≤ 18; omega⟩ hK hNX hZ hz hP hD hS hA rfl hl.1 (rest := []) (As := [.ref (ad 0), .int (nI 4), .int (nI f), .int (nI t), .int (oI (none)), .int (nI 0)]) rfl (Nat.le_of_ble_eq_true rfl) dL_changes_932 (fun z H locs hz hP hD hS => ?_)
          cases ho : s_c σ (f * 4 + t) with
          | none =>
            refine lv_istore (lv' := [(13, .int (oI (none))), (12, .int (oI (none))), (0, .ref (ad 0)), (3, .long (a_all σ)), (10, .int (nI f)), (11, .int (nI t))]) hx hb dL_changes_935 hl (by decide) rfl (fun ls hl => ?_)
            refine lv_iload hx hb dL_changes_937 (lv_at hl 4 rfl) ?_
            refine nv_if_lt (tgt := 971) hx hb (by omega) dL_changes_939 (by decide) (fun c_51 => by exfalso; exact c_51) (fun c_51 => ?_)
            refine lv_iload hx hb dL_changes_942 (lv_at hl 4 rfl) ?_
            refine lv_iconst (v := nI (3)) hx hb dL_changes_944 (by decide) ?_
            refine nv_icmp_gt (tgt := 971) hx hb (by omega) (by omega) dL_changes_945 (by decide) (fun c_52 => by exfalso; omega) (fun c_52 => ?_)
            refine lv_iload hx hb dL_changes_948 (lv_at hl 5 rfl) ?_
            refine nv_if_lt (tgt := 971) hx hb (by omega) dL_changes_950 (by decide) (fun c_53 => by exfalso; exact c_53) (fun c_53 => ?_)
            refine lv_iload hx hb dL_changes_953 (lv_at hl 5 rfl) ?_
            refine lv_iconst (v := nI (3)) hx hb dL_changes_955 (by decide) ?_
            refine nv_icmp_gt (tgt := 971) hx hb (by omega) (by omega) dL_changes_956 (by decide) (fun c_54 => by exfalso; omega) (fun c_54 => ?_)
            refine lv_iload hx hb dL_changes_959 (lv_at hl 1 rfl) ?_
            refine lv_iconst (v := -1) hx hb dL_changes_961 (by decide) ?_
            refine lv_icmp_lt (tgt := 971) hx hb dL_changes_962 (by decide) (fun c_55 => absurd c_55 (by decide)) (fun c_55 => ?_)
            refine lv_iload hx hb dL_changes_965 (lv_at hl 1 rfl) ?_
            refine lv_iconst (v := nI (3)) hx hb dL_changes_967 (by decide) ?_
            refine lv_icmp_le (tgt := 993) hx hb dL_changes_968 (by decide) (fun c_56 => ?_) (fun c_56 => absurd c_56 (by decide))
            refine lv_iload hx hb dL_changes_993 (lv_at hl 0 rfl) ?_
            refine lv_iconst (v := -1) hx hb dL_changes_995 (by decide) ?_
            refine lv_icmp_lt (tgt := 1048) hx hb dL_changes_996 (by decide) (fun c_57 => absurd c_57 (by decide)) (fun c_57 => ?_)
            refine lv_iload hx hb dL_changes_999 (lv_at hl 0 rfl) ?_
            refine lv_iconst (v := nI (4)) hx hb dL_changes_1001 (by decide) ?_
            refine lv_icmp_ge (tgt := 1048) hx hb dL_changes_1002 (by decide) (fun c_58 => absurd c_58 (by decide)) (fun c_58 => ?_)
            refine lv_aload_n hx hb dL_changes_1005 rfl (lv_at hl 2 rfl) ?_
            refine lv_iload hx hb dL_changes_1006 (lv_at hl 4 rfl) ?_
            refine lv_iload hx hb dL_changes_1008 (lv_at hl 5 rfl) ?_
            refine lv_iload hx hb dL_changes_1010 (lv_at hl 0 rfl) ?_
            refine mc_V (k := 3) hx hb hml hown hts (mc_chain_none l g ad gm hG (u_chn σ f t none) hσ2 f t hf ht) gL_changes_X6_chain rfl (by decide +kernel) ⟨Nat.le_of_ble_eq_true rfl, Nat.le_of_ble_eq_true rfl⟩ ⟨by show _ ≤ 3; omega, by show _ ≤ 18; omega⟩ hK hz hP hD hS hA rfl hl.1 (rest := []) (As := [.int (nI f), .int (nI t), .int (oI (none))]) rfl (Nat.le_of_ble_eq_true rfl) dL_changes_1012 (fun z H locs hz hP hD hS => ?_)
            rw [u_chn_c]
            rw [u_chn_b ho] at hP hD
            refine lv_iload hx hb dL_changes_1015 (lv_at hl 1 rfl) ?_
            refine lv_icmp_ne (tgt := 1048) hx hb dL_changes_1017 (by decide) (fun c_59 => absurd c_59 (by decide)) (fun c_59 => ?_)
            refine lv_aload_n hx hb dL_changes_1020 rfl (lv_at hl 2 rfl) ?_
            refine ml_S (k := 1) hx hb hml hown hts (c_all l g ad gm hG σ hσ) gL_changes_L_all rfl (by decide +kernel) ⟨Nat.le_of_ble_eq_true rfl, Nat.le_of_ble_eq_true rfl⟩ ⟨by show _ ≤ 3; omega, by show _ ≤ 18; omega⟩ hK hz hP hD hS hA rfl hl.1 (rest := []) (As := [.ref (ad 0)]) rfl (Nat.le_of_ble_eq_true rfl) dL_changes_1021 (fun z H locs hz hP hD hS => ?_)
            refine lv_lload_n hx hb dL_changes_1024 rfl (lv_at hl 3 rfl) ?_
            refine W.lcmp (x := a_all σ) (y := a_all σ) hx hb dL_changes_1025 ?_
            rw [lg_self]
            refine lv_if_ne (tgt := 1048) hx hb dL_changes_1026 (by decide) (fun c_60 => absurd c_60 (by decide)) (fun c_60 => ?_)
            refine lv_aload_n hx hb dL_changes_1029 rfl (lv_at hl 2 rfl) ?_
            refine lv_iload hx hb dL_changes_1030 (lv_at hl 4 rfl) ?_
            refine lv_iload hx hb dL_changes_1032 (lv_at hl 5 rfl) ?_
            refine lv_iload hx hb dL_changes_1034 (lv_at hl 1 rfl) ?_
            refine mc_V (k := 3) hx hb hml hown hts (mc_chain_none l g ad gm hG σ hσ f t hf ht) gL_changes_X6_chain rfl (by decide +kernel) ⟨Nat.le_of_ble_eq_true rfl, Nat.le_of_ble_eq_true rfl⟩ ⟨by show _ ≤ 3; omega, by show _ ≤ 18; omega⟩ hK hz hP hD hS hA rfl hl.1 (rest := []) (As := [.int (nI f), .int (nI t), .int (oI (none))]) rfl (Nat.le_of_ble_eq_true rfl) dL_changes_1036 (fun z H locs hz hP hD hS => ?_)
            rw [ho]
            refine lv_iload hx hb dL_changes_1039 (lv_at hl 0 rfl) ?_
            refine lv_icmp_ne (tgt := 1048) hx hb dL_changes_1041 (by decide) (fun c_61 => absurd c_61 (by decide)) (fun c_61 => ?_)
            refine lv_iconst (v := nI (1)) hx hb dL_changes_1044 (by decide) ?_
            refine lv_goto (tgt := 1049) hx hb dL_changes_1045 (by decide) ?_
            exact my_retz (v := nI (1)) hx hb hr hlocks hz hP hS (by omega) (by omega) (mc := 3) (ms := 18) ⟨rfl, hσ2⟩ (by first | exact b2i_nar _ | rfl) dL_changes_1049
          | some c =>
            have hc4 : c < 4 := hσ.2.2.2.1 _ _ ho
            refine lv_istore (lv' := [(13, .int (nI c)), (12, .int (oI (none))), (0, .ref (ad 0)), (3, .long (a_all σ)), (10, .int (nI f)), (11, .int (nI t))]) hx hb dL_changes_935 hl (by decide) rfl (fun ls hl => ?_)
            refine lv_iload hx hb dL_changes_937 (lv_at hl 4 rfl) ?_
            refine nv_if_lt (tgt := 971) hx hb (by omega) dL_changes_939 (by decide) (fun c_62 => by exfalso; exact c_62) (fun c_62 => ?_)
            refine lv_iload hx hb dL_changes_942 (lv_at hl 4 rfl) ?_
            refine lv_iconst (v := nI (3)) hx hb dL_changes_944 (by decide) ?_
            refine nv_icmp_gt (tgt := 971) hx hb (by omega) (by omega) dL_changes_945 (by decide) (fun c_63 => by exfalso; omega) (fun c_63 => ?_)
            refine lv_iload hx hb dL_changes_948 (lv_at hl 5 rfl) ?_
            refine nv_if_lt (tgt := 971) hx hb (by omega) dL_changes_950 (by decide) (fun c_64 => by exfalso; exact c_64) (fun c_64 => ?_)
            refine lv_iload hx hb dL_changes_953 (lv_at hl 5 rfl) ?_
            refine lv_iconst (v := nI (3)) hx hb dL_changes_955 (by decide) ?_
            refine nv_icmp_gt (tgt := 971) hx hb (by omega) (by omega) dL_changes_956 (by decide) (fun c_65 => by exfalso; omega) (fun c_65 => ?_)
            refine lv_iload hx hb dL_changes_959 (lv_at hl 1 rfl) ?_
            refine lv_iconst (v := -1) hx hb dL_changes_961 (by decide) ?_
            refine lv_icmp_lt (tgt := 971) hx hb dL_changes_962 (by decide) (fun c_66 => absurd c_66 (by decide)) (fun c_66 => ?_)
            refine lv_iload hx hb dL_changes_965 (lv_at hl 1 rfl) ?_
            refine lv_iconst (v := nI (3)) hx hb dL_changes_967 (by decide) ?_
            refine lv_icmp_le (tgt := 993) hx hb dL_changes_968 (by decide) (fun c_67 => ?_) (fun c_67 => absurd c_67 (by decide))
            refine lv_iload hx hb dL_changes_993 (lv_at hl 0 rfl) ?_
            refine lv_iconst (v := -1) hx hb dL_changes_995 (by decide) ?_
            refine lv_icmp_lt (tgt := 1048) hx hb dL_changes_996 (by decide) (fun c_68 => by exfalso; exact absurd c_68 (nI_m1lt (by omega))) (fun c_68 => ?_)
            refine lv_iload hx hb dL_changes_999 (lv_at hl 0 rfl) ?_
            refine lv_iconst (v := nI (4)) hx hb dL_changes_1001 (by decide) ?_
            refine nv_icmp_ge (tgt := 1048) hx hb (by omega) (by omega) dL_changes_1002 (by decide) (fun c_69 => by exfalso; omega) (fun c_69 => ?_)
            refine lv_aload_n hx hb dL_changes_1005 rfl (lv_at hl 2 rfl) ?_
            refine lv_iload hx hb dL_changes_1006 (lv_at hl 4 rfl) ?_
            refine lv_iload hx hb dL_changes_1008 (lv_at hl 5 rfl) ?_
            refine lv_iload hx hb dL_changes_1010 (lv_at hl 0 rfl) ?_
            refine mc_V (k := 3) hx hb hml hown hts (mc_chain l g ad gm hG (u_chn σ f t none) hσ2 f t c hf ht hc4) gL_changes_X6_chain rfl (by decide +kernel) ⟨Nat.le_of_ble_eq_true rfl, Nat.le_of_ble_eq_true rfl⟩ ⟨by show _ ≤ 3; omega, by show _ ≤ 18; omega⟩ hK hz hP hD hS hA rfl hl.1 (rest := []) (As := [.int (nI f), .int (nI t), .int (nI c)]) rfl (Nat.le_of_ble_eq_true rfl) dL_changes_1012 (fun z H locs hz hP hD hS => ?_)
            rw [u_chn_c]
            rw [u_chn_b ho] at hP hD
            refine lv_iload hx hb dL_changes_1015 (lv_at hl 1 rfl) ?_
            refine lv_icmp_ne (tgt := 1048) hx hb dL_changes_1017 (by decide) (fun c_70 => absurd c_70 (by decide)) (fun c_70 => ?_)
            refine lv_aload_n hx hb dL_changes_1020 rfl (lv_at hl 2 rfl) ?_
            refine ml_S (k := 1) hx hb hml hown hts (c_all l g ad gm hG σ hσ) gL_changes_L_all rfl (by decide +kernel) ⟨Nat.le_of_ble_eq_true rfl, Nat.le_of_ble_eq_true rfl⟩ ⟨by show _ ≤ 3; omega, by show _ ≤ 18; omega⟩ hK hz hP hD hS hA rfl hl.1 (rest := []) (As := [.ref (ad 0)]) rfl (Nat.le_of_ble_eq_true rfl) dL_changes_1021 (fun z H locs hz hP hD hS => ?_)
            refine lv_lload_n hx hb dL_changes_1024 rfl (lv_at hl 3 rfl) ?_
            refine W.lcmp (x := a_all σ) (y := a_all σ) hx hb dL_changes_1025 ?_
            rw [lg_self]
            refine lv_if_ne (tgt := 1048) hx hb dL_changes_1026 (by decide) (fun c_71 => absurd c_71 (by decide)) (fun c_71 => ?_)
            refine lv_aload_n hx hb dL_changes_1029 rfl (lv_at hl 2 rfl) ?_
            refine lv_iload hx hb dL_changes_1030 (lv_at hl 4 rfl) ?_
            refine lv_iload hx hb dL_changes_1032 (lv_at hl 5 rfl) ?_
            refine lv_iload hx hb dL_changes_1034 (lv_at hl 1 rfl) ?_
            refine mc_V (k := 3) hx hb hml hown hts (mc_chain_none l g ad gm hG σ hσ f t hf ht) gL_changes_X6_chain rfl (by decide +kernel) ⟨Nat.le_of_ble_eq_true rfl, Nat.le_of_ble_eq_true rfl⟩ ⟨by show _ ≤ 3; omega, by show _ ≤ 18; omega⟩ hK hz hP hD hS hA rfl hl.1 (rest := []) (As := [.int (nI f), .int (nI t), .int (oI (none))]) rfl (Nat.le_of_ble_eq_true rfl) dL_changes_1036 (fun z H locs hz hP hD hS => ?_)
            rw [ho]
            refine lv_iload hx hb dL_changes_1039 (lv_at hl 0 rfl) ?_
            refine nv_icmp_ne (tgt := 1048) hx hb (by omega) (by omega) dL_changes_1041 (by decide) (fun c_72 => by exfalso; exact c_72 rfl) (fun c_72 => ?_)
            refine lv_iconst (v := nI (1)) hx hb dL_changes_1044 (by decide) ?_
            refine lv_goto (tgt := 1049) hx hb dL_changes_1045 (by decide) ?_
            exact my_retz (v := nI (1)) hx hb hr hlocks hz hP hS (by omega) (by omega) (mc := 3) (ms := 18) ⟨rfl, hσ2⟩ (by first | exact b2i_nar _ | rfl) dL_changes_1049
        · skip
          cases h3 : inR d 4 with
          | false =>
            refine lv_aload_n hx hb dL_changes_923 rfl (lv_at hl 1 rfl) ?_
            refine lv_iconst (v := nI (4)) hx hb dL_changes_924 (by decide) ?_
            refine lv_iload hx hb dL_changes_925 (lv_at hl 3 rfl) ?_
            refine lv_iload hx hb dL_changes_927 (lv_at hl 4 rfl) ?_
            refine lv_iload hx hb dL_changes_929 (lv_at hl 0 rfl) ?_
            refine lv_iconst (v := nI (0)) hx hb dL_changes_931 (by decide) ?_
            refine mx_S (k := 6) hx hb hml hown hts (k_chain_c l hst g ad gm hG σ hσ f t d hf ht hz9 h3 (nI 0)) gL_changes_L_call rfl (by decide +kernel) ⟨Nat.le_of_ble_eq_true rfl, Nat.le_of_ble_eq_true rfl⟩ ⟨by show _ ≤ 3; omega, by show _ ≤ 18; omega⟩ hK hNX hZ hz hP hD hS hA rfl hl.1 (rest := []) (As := [.ref (ad 0), .int (nI 4), .int (nI f), .int (nI t), .int (d), .int (nI 0)]) rfl (Nat.le_of_ble_eq_true rfl) dL_changes_932 (fun z H locs hz hP hD hS => ?_)
            refine lv_istore (lv' := [(13, .int (-112)), (12, .int (d)), (0, .ref (ad 0)), (3, .long (a_all σ)), (10, .int (nI f)), (11, .int (nI t))]) hx hb dL_changes_935 hl (by decide) rfl (fun ls hl => ?_)
            refine lv_iload hx hb dL_changes_937 (lv_at hl 4 rfl) ?_
            refine nv_if_lt (tgt := 971) hx hb (by omega) dL_changes_939 (by decide) (fun c_73 => by exfalso; exact c_73) (fun c_73 => ?_)
            refine lv_iload hx hb dL_changes_942 (lv_at hl 4 rfl) ?_
            refine lv_iconst (v := nI (3)) hx hb dL_changes_944 (by decide) ?_
            refine nv_icmp_gt (tgt := 971) hx hb (by omega) (by omega) dL_changes_945 (by decide) (fun c_74 => by exfalso; omega) (fun c_74 => ?_)
            refine lv_iload hx hb dL_changes_948 (lv_at hl 5 rfl) ?_
            refine nv_if_lt (tgt := 971) hx hb (by omega) dL_changes_950 (by decide) (fun c_75 => by exfalso; exact c_75) (fun c_75 => ?_)
            refine lv_iload hx hb dL_changes_953 (lv_at hl 5 rfl) ?_
            refine lv_iconst (v := nI (3)) hx hb dL_changes_955 (by decide) ?_
            refine nv_icmp_gt (tgt := 971) hx hb (by omega) (by omega) dL_changes_956 (by decide) (fun c_76 => by exfalso; omega) (fun c_76 => ?_)
            refine lv_iload hx hb dL_changes_959 (lv_at hl 1 rfl) ?_
            refine lv_iconst (v := -1) hx hb dL_changes_961 (by decide) ?_
            refine lv_icmp_lt (tgt := 971) hx hb dL_changes_962 (by decide) (fun c_77 => ?_) (fun c_77 => ?_)
            · skip
              refine lv_iload hx hb dL_changes_971 (lv_at hl 0 rfl) ?_
              refine lv_bipush (v := -112) hx hb dL_changes_973 (by decide) ?_
              refine lv_icmp_ne (tgt := 991) hx hb dL_changes_975 (by decide) (fun c_78 => absurd c_78 (by decide)) (fun c_78 => ?_)
              refine lv_aload_n hx hb dL_changes_978 rfl (lv_at hl 2 rfl) ?_
              refine ml_S (k := 1) hx hb hml hown hts (c_all l g ad gm hG σ hσ) gL_changes_L_all rfl (by decide +kernel) ⟨Nat.le_of_ble_eq_true rfl, Nat.le_of_ble_eq_true rfl⟩ ⟨by show _ ≤ 3; omega, by show _ ≤ 18; omega⟩ hK hz hP hD hS hA rfl hl.1 (rest := []) (As := [.ref (ad 0)]) rfl (Nat.le_of_ble_eq_true rfl) dL_changes_979 (fun z H locs hz hP hD hS => ?_)
              refine lv_lload_n hx hb dL_changes_982 rfl (lv_at hl 3 rfl) ?_
              refine W.lcmp (x := a_all σ) (y := a_all σ) hx hb dL_changes_983 ?_
              rw [lg_self]
              refine lv_if_ne (tgt := 991) hx hb dL_changes_984 (by decide) (fun c_79 => absurd c_79 (by decide)) (fun c_79 => ?_)
              refine lv_iconst (v := nI (1)) hx hb dL_changes_987 (by decide) ?_
              refine lv_goto (tgt := 992) hx hb dL_changes_988 (by decide) ?_
              exact my_retz (v := nI (1)) hx hb hr hlocks hz hP hS (by omega) (by omega) (mc := 3) (ms := 18) ⟨rfl, hσ⟩ (by first | exact b2i_nar _ | rfl) dL_changes_992
            · skip
              refine lv_iload hx hb dL_changes_965 (lv_at hl 1 rfl) ?_
              refine lv_iconst (v := nI (3)) hx hb dL_changes_967 (by decide) ?_
              refine lv_icmp_le (tgt := 993) hx hb dL_changes_968 (by decide) (fun c_80 => by exfalso; exact absurd (inX_m c_77 hz9 c_80) (by rw [h3]; decide)) (fun c_80 => ?_)
              refine lv_iload hx hb dL_changes_971 (lv_at hl 0 rfl) ?_
              refine lv_bipush (v := -112) hx hb dL_changes_973 (by decide) ?_
              refine lv_icmp_ne (tgt := 991) hx hb dL_changes_975 (by decide) (fun c_81 => absurd c_81 (by decide)) (fun c_81 => ?_)
              refine lv_aload_n hx hb dL_changes_978 rfl (lv_at hl 2 rfl) ?_
              refine ml_S (k := 1) hx hb hml hown hts (c_all l g ad gm hG σ hσ) gL_changes_L_all rfl (by decide +kernel) ⟨Nat.le_of_ble_eq_true rfl, Nat.le_of_ble_eq_true rfl⟩ ⟨by show _ ≤ 3; omega, by show _ ≤ 18; omega⟩ hK hz hP hD hS hA rfl hl.1 (rest := []) (As := [.ref (ad 0)]) rfl (Nat.le_of_ble_eq_true rfl) dL_changes_979 (fun z H locs hz hP hD hS => ?_)
              refine lv_lload_n hx hb dL_changes_982 rfl (lv_at hl 3 rfl) ?_
              refine W.lcmp (x := a_all σ) (y := a_all σ) hx hb dL_changes_983 ?_
              rw [lg_self]
              refine lv_if_ne (tgt := 991) hx hb dL_changes_984 (by decide) (fun c_82 => absurd c_82 (by decide)) (fun c_82 => ?_)
              refine lv_iconst (v := nI (1)) hx hb dL_changes_987 (by decide) ?_
              refine lv_goto (tgt := 992) hx hb dL_changes_988 (by decide) ?_
              exact my_retz (v := nI (1)) hx hb hr hlocks hz hP hS (by omega) (by omega) (mc := 3) (ms := 18) ⟨rfl, hσ⟩ (by first | exact b2i_nar _ | rfl) dL_changes_992
          | true =>
            obtain ⟨d1, hd4, rfl⟩ := inR_ex (by decide) h3
            have hσ2 : SOk (u_chn σ f t (some d1)) := u_chn_ok hσ (fun d9 h9 => by cases h9; exact hd4)
            refine lv_aload_n hx hb dL_changes_923 rfl (lv_at hl 1 rfl) ?_
            refine lv_iconst (v := nI (4)) hx hb dL_changes_924 (by decide) ?_
            refine lv_iload hx hb dL_changes_925 (lv_at hl 3 rfl) ?_
            refine lv_iload hx hb dL_changes_927 (lv_at hl 4 rfl) ?_
            refine lv_iload hx hb dL_changes_929 (lv_at hl 0 rfl) ?_
            refine lv_iconst (v := nI (0)) hx hb dL_changes_931 (by decide) ?_
            refine mx_S (k := 6) hx hb hml hown hts (k_chain l g ad gm hG σ hσ f t d1 hf ht hd4 (nI 0)) gL_changes_L_call rfl (by decide +kernel) ⟨Nat.le_of_ble_eq_true rfl, Nat.le_of_ble_eq_true rfl⟩ ⟨by show _ ≤ 3; omega, by show _ ≤ 18; omega⟩ hK hNX hZ hz hP hD hS hA rfl hl.1 (rest := []) (As := [.ref (ad 0), .int (nI 4), .int (nI f), .int (nI t), .int (nI d1), .int (nI 0)]) rfl (Nat.le_of_ble_eq_true rfl) dL_changes_932 (fun z H locs hz hP hD hS => ?_)
            cases ho : s_c σ (f * 4 + t) with
            | none =>
              refine lv_istore (lv' := [(13, .int (oI (none))), (12, .int (nI d1)), (0, .ref (ad 0)), (3, .long (a_all σ)), (10, .int (nI f)), (11, .int (nI t))]) hx hb dL_changes_935 hl (by decide) rfl (fun ls hl => ?_)
              refine lv_iload hx hb dL_changes_937 (lv_at hl 4 rfl) ?_
              refine nv_if_lt (tgt := 971) hx hb (by omega) dL_changes_939 (by decide) (fun c_83 => by exfalso; exact c_83) (fun c_83 => ?_)
              refine lv_iload hx hb dL_changes_942 (lv_at hl 4 rfl) ?_
              refine lv_iconst (v := nI (3)) hx hb dL_changes_944 (by decide) ?_
              refine nv_icmp_gt (tgt := 971) hx hb (by omega) (by omega) dL_changes_945 (by decide) (fun c_84 => by exfalso; omega) (fun c_84 => ?_)
              refine lv_iload hx hb dL_changes_948 (lv_at hl 5 rfl) ?_
              refine nv_if_lt (tgt := 971) hx hb (by omega) dL_changes_950 (by decide) (fun c_85 => by exfalso; exact c_85) (fun c_85 => ?_)
              refine lv_iload hx hb dL_changes_953 (lv_at hl 5 rfl) ?_
              refine lv_iconst (v := nI (3)) hx hb dL_changes_955 (by decide) ?_
              refine nv_icmp_gt (tgt := 971) hx hb (by omega) (by omega) dL_changes_956 (by decide) (fun c_86 => by exfalso; omega) (fun c_86 => ?_)
              refine lv_iload hx hb dL_changes_959 (lv_at hl 1 rfl) ?_
              refine lv_iconst (v := -1) hx hb dL_changes_961 (by decide) ?_
              refine lv_icmp_lt (tgt := 971) hx hb dL_changes_962 (by decide) (fun c_87 => by exfalso; exact absurd c_87 (nI_m1lt (by omega))) (fun c_87 => ?_)
              refine lv_iload hx hb dL_changes_965 (lv_at hl 1 rfl) ?_
              refine lv_iconst (v := nI (3)) hx hb dL_changes_967 (by decide) ?_
              refine nv_icmp_le (tgt := 993) hx hb (by omega) (by omega) dL_changes_968 (by decide) (fun c_88 => ?_) (fun c_88 => by exfalso; omega)
              refine lv_iload hx hb dL_changes_993 (lv_at hl 0 rfl) ?_
              refine lv_iconst (v := -1) hx hb dL_changes_995 (by decide) ?_
              refine lv_icmp_lt (tgt := 1048) hx hb dL_changes_996 (by decide) (fun c_89 => absurd c_89 (by decide)) (fun c_89 => ?_)
              refine lv_iload hx hb dL_changes_999 (lv_at hl 0 rfl) ?_
              refine lv_iconst (v := nI (4)) hx hb dL_changes_1001 (by decide) ?_
              refine lv_icmp_ge (tgt := 1048) hx hb dL_changes_1002 (by decide) (fun c_90 => absurd c_90 (by decide)) (fun c_90 => ?_)
              refine lv_aload_n hx hb dL_changes_1005 rfl (lv_at hl 2 rfl) ?_
              refine lv_iload hx hb dL_changes_1006 (lv_at hl 4 rfl) ?_
              refine lv_iload hx hb dL_changes_1008 (lv_at hl 5 rfl) ?_
              refine lv_iload hx hb dL_changes_1010 (lv_at hl 0 rfl) ?_
              refine mc_V (k := 3) hx hb hml hown hts (mc_chain_none l g ad gm hG (u_chn σ f t (some d1)) hσ2 f t hf ht) gL_changes_X6_chain rfl (by decide +kernel) ⟨Nat.le_of_ble_eq_true rfl, Nat.le_of_ble_eq_true rfl⟩ ⟨by show _ ≤ 3; omega, by show _ ≤ 18; omega⟩ hK hz hP hD hS hA rfl hl.1 (rest := []) (As := [.int (nI f), .int (nI t), .int (oI (none))]) rfl (Nat.le_of_ble_eq_true rfl) dL_changes_1012 (fun z H locs hz hP hD hS => ?_)
              rw [u_chn_c]
              rw [u_chn_b ho] at hP hD
              refine lv_iload hx hb dL_changes_1015 (lv_at hl 1 rfl) ?_
              refine nv_icmp_ne (tgt := 1048) hx hb (by omega) (by omega) dL_changes_1017 (by decide) (fun c_91 => by exfalso; exact c_91 rfl) (fun c_91 => ?_)
              refine lv_aload_n hx hb dL_changes_1020 rfl (lv_at hl 2 rfl) ?_
              refine ml_S (k := 1) hx hb hml hown hts (c_all l g ad gm hG σ hσ) gL_changes_L_all rfl (by decide +kernel) ⟨Nat.le_of_ble_eq_true rfl, Nat.le_of_ble_eq_true rfl⟩ ⟨by show _ ≤ 3; omega, by show _ ≤ 18; omega⟩ hK hz hP hD hS hA rfl hl.1 (rest := []) (As := [.ref (ad 0)]) rfl (Nat.le_of_ble_eq_true rfl) dL_changes_1021 (fun z H locs hz hP hD hS => ?_)
              refine lv_lload_n hx hb dL_changes_1024 rfl (lv_at hl 3 rfl) ?_
              refine W.lcmp (x := a_all σ) (y := a_all σ) hx hb dL_changes_1025 ?_
              rw [lg_self]
              refine lv_if_ne (tgt := 1048) hx hb dL_changes_1026 (by decide) (fun c_92 => absurd c_92 (by decide)) (fun c_92 => ?_)
              refine lv_aload_n hx hb dL_changes_1029 rfl (lv_at hl 2 rfl) ?_
              refine lv_iload hx hb dL_changes_1030 (lv_at hl 4 rfl) ?_
              refine lv_iload hx hb dL_changes_1032 (lv_at hl 5 rfl) ?_
              refine lv_iload hx hb dL_changes_1034 (lv_at hl 1 rfl) ?_
              refine mc_V (k := 3) hx hb hml hown hts (mc_chain l g ad gm hG σ hσ f t d1 hf ht hd4) gL_changes_X6_chain rfl (by decide +kernel) ⟨Nat.le_of_ble_eq_true rfl, Nat.le_of_ble_eq_true rfl⟩ ⟨by show _ ≤ 3; omega, by show _ ≤ 18; omega⟩ hK hz hP hD hS hA rfl hl.1 (rest := []) (As := [.int (nI f), .int (nI t), .int (nI d1)]) rfl (Nat.le_of_ble_eq_true rfl) dL_changes_1036 (fun z H locs hz hP hD hS => ?_)
              rw [ho]
              refine lv_iload hx hb dL_changes_1039 (lv_at hl 0 rfl) ?_
              refine lv_icmp_ne (tgt := 1048) hx hb dL_changes_1041 (by decide) (fun c_93 => absurd c_93 (by decide)) (fun c_93 => ?_)
              refine lv_iconst (v := nI (1)) hx hb dL_changes_1044 (by decide) ?_
              refine lv_goto (tgt := 1049) hx hb dL_changes_1045 (by decide) ?_
              exact my_retz (v := nI (1)) hx hb hr hlocks hz hP hS (by omega) (by omega) (mc := 3) (ms := 18) ⟨rfl, hσ2⟩ (by first | exact b2i_nar _ | rfl) dL_changes_1049
            | some c =>
              have hc4 : c < 4 := hσ.2.2.2.1 _ _ ho
              refine lv_istore (lv' := [(13, .int (nI c)), (12, .int (nI d1)), (0, .ref (ad 0)), (3, .long (a_all σ)), (10, .int (nI f)), (11, .int (nI t))]) hx hb dL_changes_935 hl (by decide) rfl (fun ls hl => ?_)
              refine lv_iload hx hb dL_changes_937 (lv_at hl 4 rfl) ?_
              refine nv_if_lt (tgt := 971) hx hb (by omega) dL_changes_939 (by decide) (fun c_94 => by exfalso; exact c_94) (fun c_94 => ?_)
              refine lv_iload hx hb dL_changes_942 (lv_at hl 4 rfl) ?_
              refine lv_iconst (v := nI (3)) hx hb dL_changes_944 (by decide) ?_
              refine nv_icmp_gt (tgt := 971) hx hb (by omega) (by omega) dL_changes_945 (by decide) (fun c_95 => by exfalso; omega) (fun c_95 => ?_)
              refine lv_iload hx hb dL_changes_948 (lv_at hl 5 rfl) ?_
              refine nv_if_lt (tgt := 971) hx hb (by omega) dL_changes_950 (by decide) (fun c_96 => by exfalso; exact c_96) (fun c_96 => ?_)
              refine lv_iload hx hb dL_changes_953 (lv_at hl 5 rfl) ?_
              refine lv_iconst (v := nI (3)) hx hb dL_changes_955 (by decide) ?_
              refine nv_icmp_gt (tgt := 971) hx hb (by omega) (by omega) dL_changes_956 (by decide) (fun c_97 => by exfalso; omega) (fun c_97 => ?_)
              refine lv_iload hx hb dL_changes_959 (lv_at hl 1 rfl) ?_
              refine lv_iconst (v := -1) hx hb dL_changes_961 (by decide) ?_
              refine lv_icmp_lt (tgt := 971) hx hb dL_changes_962 (by decide) (fun c_98 => by exfalso; exact absurd c_98 (nI_m1lt (by omega))) (fun c_98 => ?_)
              refine lv_iload hx hb dL_changes_965 (lv_at hl 1 rfl) ?_
              refine lv_iconst (v := nI (3)) hx hb dL_changes_967 (by decide) ?_
              refine nv_icmp_le (tgt := 993) hx hb (by omega) (by omega) dL_changes_968 (by decide) (fun c_99 => ?_) (fun c_99 => by exfalso; omega)
              refine lv_iload hx hb dL_changes_993 (lv_at hl 0 rfl) ?_
              refine lv_iconst (v := -1) hx hb dL_changes_995 (by decide) ?_
              refine lv_icmp_lt (tgt := 1048) hx hb dL_changes_996 (by decide) (fun c_100 => by exfalso; exact absurd c_100 (nI_m1lt (by omega))) (fun c_100 => ?_)
              refine lv_iload hx hb dL_changes_999 (lv_at hl 0 rfl) ?_
              refine lv_iconst (v := nI (4)) hx hb dL_changes_1001 (by decide) ?_
              refine nv_icmp_ge (tgt := 1048) hx hb (by omega) (by omega) dL_changes_1002 (by decide) (fun c_101 => by exfalso; omega) (fun c_101 => ?_)
              refine lv_aload_n hx hb dL_changes_1005 rfl (lv_at hl 2 rfl) ?_
              refine lv_iload hx hb dL_changes_1006 (lv_at hl 4 rfl) ?_
              refine lv_iload hx hb dL_changes_1008 (lv_at hl 5 rfl) ?_
              refine lv_iload hx hb dL_changes_1010 (lv_at hl 0 rfl) ?_
              refine mc_V (k := 3) hx hb hml hown hts (mc_chain l g ad gm hG (u_chn σ f t (some d1)) hσ2 f t c hf ht hc4) gL_changes_X6_chain rfl (by decide +kernel) ⟨Nat.le_of_ble_eq_true rfl, Nat.le_of_ble_eq_true rfl⟩ ⟨by show _ ≤ 3; omega, by show _ ≤ 18; omega⟩ hK hz hP hD hS hA rfl hl.1 (rest := []) (As := [.int (nI f), .int (nI t), .int (nI c)]) rfl (Nat.le_of_ble_eq_true rfl) dL_changes_1012 (fun z H locs hz hP hD hS => ?_)
              rw [u_chn_c]
              rw [u_chn_b ho] at hP hD
              refine lv_iload hx hb dL_changes_1015 (lv_at hl 1 rfl) ?_
              refine nv_icmp_ne (tgt := 1048) hx hb (by omega) (by omega) dL_changes_1017 (by decide) (fun c_102 => by exfalso; exact c_102 rfl) (fun c_102 => ?_)
              refine lv_aload_n hx hb dL_changes_1020 rfl (lv_at hl 2 rfl) ?_
              refine ml_S (k := 1) hx hb hml hown hts (c_all l g ad gm hG σ hσ) gL_changes_L_all rfl (by decide +kernel) ⟨Nat.le_of_ble_eq_true rfl, Nat.le_of_ble_eq_true rfl⟩ ⟨by show _ ≤ 3; omega, by show _ ≤ 18; omega⟩ hK hz hP hD hS hA rfl hl.1 (rest := []) (As := [.ref (ad 0)]) rfl (Nat.le_of_ble_eq_true rfl) dL_changes_1021 (fun z H locs hz hP hD hS => ?_)
              refine lv_lload_n hx hb dL_changes_1024 rfl (lv_at hl 3 rfl) ?_
              refine W.lcmp (x := a_all σ) (y := a_all σ) hx hb dL_changes_1025 ?_
              rw [lg_self]
              refine lv_if_ne (tgt := 1048) hx hb dL_changes_1026 (by decide) (fun c_103 => absurd c_103 (by decide)) (fun c_103 => ?_)
              refine lv_aload_n hx hb dL_changes_1029 rfl (lv_at hl 2 rfl) ?_
              refine lv_iload hx hb dL_changes_1030 (lv_at hl 4 rfl) ?_
              refine lv_iload hx hb dL_changes_1032 (lv_at hl 5 rfl) ?_
              refine lv_iload hx hb dL_changes_1034 (lv_at hl 1 rfl) ?_
              refine mc_V (k := 3) hx hb hml hown hts (mc_chain l g ad gm hG σ hσ f t d1 hf ht hd4) gL_changes_X6_chain rfl (by decide +kernel) ⟨Nat.le_of_ble_eq_true rfl, Nat.le_of_ble_eq_true rfl⟩ ⟨by show _ ≤ 3; omega, by show _ ≤ 18; omega⟩ hK hz hP hD hS hA rfl hl.1 (rest := []) (As := [.int (nI f), .int (nI t), .int (nI d1)]) rfl (Nat.le_of_ble_eq_true rfl) dL_changes_1036 (fun z H locs hz hP hD hS => ?_)
              rw [ho]
              refine lv_iload hx hb dL_changes_1039 (lv_at hl 0 rfl) ?_
              refine nv_icmp_ne (tgt := 1048) hx hb (by omega) (by omega) dL_changes_1041 (by decide) (fun c_104 => by exfalso; exact c_104 rfl) (fun c_104 => ?_)
              refine lv_iconst (v := nI (1)) hx hb dL_changes_1044 (by decide) ?_
              refine lv_goto (tgt := 1049) hx hb dL_changes_1045 (by decide) ?_
              exact my_retz (v := nI (1)) hx hb hr hlocks hz hP hS (by omega) (by omega) (mc := 3) (ms := 18) ⟨rfl, hσ2⟩ (by first | exact b2i_nar _ | rfl) dL_changes_1049
  have j891 : ∀ (a b : Int32) (z : Scr) (hz : ZOk z) (H : Heap) (locs : List Loc) (hP : va_P g.1 vwCl (MW g ad gm σ z) H) (hD : va_D A (MW g ad gm σ z)) (hS : va_S A s0.heap H locs) (ls : Array Slot) (hl : lv_has ls 17 [(0, .ref (ad 0)), (1, .int (y)), (2, .int (b2i (odd))), (3, .long (a_all σ)), (10, .int (a))]), W pg l ev (rmY 14 3 18) s0 mi ([.ref (ad 0), .int (y), .int (b2i (odd))] : List Value).toArray below meth cd H locs (0) (0) (MQ below (va_Qi (fun (x : Int32) (w : va_W) => ∃ σ' z', (fun x σ' => x = 1 ∧ SOk σ') x σ' ∧ ZOk z' ∧ w = MW g ad gm σ' z') (iB g (MW g ad gm σ z0)) A) ([.ref (ad 0), .int (y), .int (b2i (odd))] : List Value).toArray s0 3 18 A) (F0 mi 891 ls [.int (b)]) := by
    intro a b z hz H locs hP hD hS ls hl
    refine lv_istore (lv' := [(11, .int (b)), (0, .ref (ad 0)), (1, .int (y)), (2, .int (b2i (odd))), (3, .long (a_all σ)), (10, .int (a))]) hx hb dL_changes_891 hl (by decide) rfl (fun ls hl => ?_)
    refine lv_iload_n hx hb dL_changes_893 rfl (lv_at hl 3 rfl) ?_
    refine bv_if_eq (tgt := 911) hx hb dL_changes_894 (by decide) (fun c_105 => ?_) (fun c_105 => ?_)
    · skip
      refine lv_iload_n hx hb dL_changes_911 rfl (lv_at hl 2 rfl) ?_
      refine lv_bipush (v := nI (11)) hx hb dL_changes_912 (by decide) ?_
      refine lv_ishr hx hb dL_changes_914 ?_
      refine lv_iconst (v := nI (5)) hx hb dL_changes_915 (by decide) ?_
      refine ms_S hx hb hml hown hts (c_some l g (y >>> ((nI (11)) &&& 31)) 5 (by decide) (by decide)) gL_changes_L_some rfl (by decide +kernel) ⟨Nat.le_of_ble_eq_true rfl, Nat.le_of_ble_eq_true rfl⟩ ⟨by show _ ≤ 3; omega, by show _ ≤ 18; omega⟩ hK hz hP hD hS hA hl.1 (rest := []) (Nat.le_of_ble_eq_true rfl) dL_changes_916 (fun r5 hr5 z H locs hz hP hD hS => ?_)
      refine lv_iconst (v := nI (1)) hx hb dL_changes_919 (by decide) ?_
      refine lv_isub hx hb dL_changes_920 ?_
      exact j921 a b (r5 - (nI (1))) z hz H locs hP hD hS ls (lv_sub hl [1, 4, 5, 0] rfl)
    · skip
      refine lv_iload_n hx hb dL_changes_897 rfl (lv_at hl 2 rfl) ?_
      refine lv_bipush (v := nI (11)) hx hb dL_changes_898 (by decide) ?_
      refine lv_ishr hx hb dL_changes_900 ?_
      refine lv_bipush (v := nI (7)) hx hb dL_changes_901 (by decide) ?_
      refine ms_S hx hb hml hown hts (c_some l g (y >>> ((nI (11)) &&& 31)) 7 (by decide) (by decide)) gL_changes_L_some rfl (by decide +kernel) ⟨Nat.le_of_ble_eq_true rfl, Nat.le_of_ble_eq_true rfl⟩ ⟨by show _ ≤ 3; omega, by show _ ≤ 18; omega⟩ hK hz hP hD hS hA hl.1 (rest := []) (Nat.le_of_ble_eq_true rfl) dL_changes_903 (fun r6 hr6 z H locs hz hP hD hS => ?_)
      refine lv_iconst (v := nI (2)) hx hb dL_changes_906 (by decide) ?_
      refine lv_isub hx hb dL_changes_907 ?_
      refine lv_goto (tgt := 921) hx hb dL_changes_908 (by decide) ?_
      exact j921 a b (r6 - (nI (2))) z hz H locs hP hD hS ls (lv_sub hl [1, 4, 5, 0] rfl)
  have j863 : ∀ (a : Int32) (z : Scr) (hz : ZOk z) (H : Heap) (locs : List Loc) (hP : va_P g.1 vwCl (MW g ad gm σ z) H) (hD : va_D A (MW g ad gm σ z)) (hS : va_S A s0.heap H locs) (ls : Array Slot) (hl : lv_has ls 17 [(0, .ref (ad 0)), (1, .int (y)), (2, .int (b2i (odd))), (3, .long (a_all σ))]), W pg l ev (rmY 14 3 18) s0 mi ([.ref (ad 0), .int (y), .int (b2i (odd))] : List Value).toArray below meth cd H locs (0) (0) (MQ below (va_Qi (fun (x : Int32) (w : va_W) => ∃ σ' z', (fun x σ' => x = 1 ∧ SOk σ') x σ' ∧ ZOk z' ∧ w = MW g ad gm σ' z') (iB g (MW g ad gm σ z0)) A) ([.ref (ad 0), .int (y), .int (b2i (odd))] : List Value).toArray s0 3 18 A) (F0 mi 863 ls [.int (a)]) := by
    intro a z hz H locs hP hD hS ls hl
    refine lv_istore (lv' := [(10, .int (a)), (0, .ref (ad 0)), (1, .int (y)), (2, .int (b2i (odd))), (3, .long (a_all σ))]) hx hb dL_changes_863 hl (by decide) rfl (fun ls hl => ?_)
    refine lv_iload_n hx hb dL_changes_865 rfl (lv_at hl 3 rfl) ?_
    refine bv_if_eq (tgt := 883) hx hb dL_changes_866 (by decide) (fun c_106 => ?_) (fun c_106 => ?_)
    · skip
      refine lv_iload_n hx hb dL_changes_883 rfl (lv_at hl 2 rfl) ?_
      refine lv_bipush (v := nI (9)) hx hb dL_changes_884 (by decide) ?_
      refine lv_ishr hx hb dL_changes_886 ?_
      refine lv_iconst (v := nI (3)) hx hb dL_changes_887 (by decide) ?_
      refine ms_S hx hb hml hown hts (c_some l g (y >>> ((nI (9)) &&& 31)) 3 (by decide) (by decide)) gL_changes_L_some rfl (by decide +kernel) ⟨Nat.le_of_ble_eq_true rfl, Nat.le_of_ble_eq_true rfl⟩ ⟨by show _ ≤ 3; omega, by show _ ≤ 18; omega⟩ hK hz hP hD hS hA hl.1 (rest := []) (Nat.le_of_ble_eq_true rfl) dL_changes_888 (fun r7 hr7 z H locs hz hP hD hS => ?_)
      exact j891 a (r7) z hz H locs hP hD hS ls (lv_sub hl [1, 2, 3, 4, 0] rfl)
    · skip
      refine lv_iload_n hx hb dL_changes_869 rfl (lv_at hl 2 rfl) ?_
      refine lv_bipush (v := nI (9)) hx hb dL_changes_870 (by decide) ?_
      refine lv_ishr hx hb dL_changes_872 ?_
      refine lv_bipush (v := nI (6)) hx hb dL_changes_873 (by decide) ?_
      refine ms_S hx hb hml hown hts (c_some l g (y >>> ((nI (9)) &&& 31)) 6 (by decide) (by decide)) gL_changes_L_some rfl (by decide +kernel) ⟨Nat.le_of_ble_eq_true rfl, Nat.le_of_ble_eq_true rfl⟩ ⟨by show _ ≤ 3; omega, by show _ ≤ 18; omega⟩ hK hz hP hD hS hA hl.1 (rest := []) (Nat.le_of_ble_eq_true rfl) dL_changes_875 (fun r8 hr8 z H locs hz hP hD hS => ?_)
      refine lv_iconst (v := nI (1)) hx hb dL_changes_878 (by decide) ?_
      refine lv_isub hx hb dL_changes_879 ?_
      refine lv_goto (tgt := 891) hx hb dL_changes_880 (by decide) ?_
      exact j891 a (r8 - (nI (1))) z hz H locs hP hD hS ls (lv_sub hl [1, 2, 3, 4, 0] rfl)
  have j837 : ∀ (z : Scr) (hz : ZOk z) (H : Heap) (locs : List Loc) (hP : va_P g.1 vwCl (MW g ad gm σ z) H) (hD : va_D A (MW g ad gm σ z)) (hS : va_S A s0.heap H locs) (ls : Array Slot) (hl : lv_has ls 17 [(0, .ref (ad 0)), (1, .int (y)), (2, .int (b2i (odd))), (3, .long (a_all σ))]), W pg l ev (rmY 14 3 18) s0 mi ([.ref (ad 0), .int (y), .int (b2i (odd))] : List Value).toArray below meth cd H locs (0) (0) (MQ below (va_Qi (fun (x : Int32) (w : va_W) => ∃ σ' z', (fun x σ' => x = 1 ∧ SOk σ') x σ' ∧ ZOk z' ∧ w = MW g ad gm σ' z') (iB g (MW g ad gm σ z0)) A) ([.ref (ad 0), .int (y), .int (b2i (odd))] : List Value).toArray s0 3 18 A) (F0 mi 837 ls []) := by
    intro  z hz H locs hP hD hS ls hl
    refine lv_iload_n hx hb dL_changes_837 rfl (lv_at hl 2 rfl) ?_
    refine bv_if_eq (tgt := 855) hx hb dL_changes_838 (by decide) (fun c_107 => ?_) (fun c_107 => ?_)
    · skip
      refine lv_iload_n hx hb dL_changes_855 rfl (lv_at hl 1 rfl) ?_
      refine lv_bipush (v := nI (7)) hx hb dL_changes_856 (by decide) ?_
      refine lv_ishr hx hb dL_changes_858 ?_
      refine lv_iconst (v := nI (3)) hx hb dL_changes_859 (by decide) ?_
      refine ms_S hx hb hml hown hts (c_some l g (y >>> ((nI (7)) &&& 31)) 3 (by decide) (by decide)) gL_changes_L_some rfl (by decide +kernel) ⟨Nat.le_of_ble_eq_true rfl, Nat.le_of_ble_eq_true rfl⟩ ⟨by show _ ≤ 3; omega, by show _ ≤ 18; omega⟩ hK hz hP hD hS hA hl.1 (rest := []) (Nat.le_of_ble_eq_true rfl) dL_changes_860 (fun r9 hr9 z H locs hz hP hD hS => ?_)
      exact j863 (r9) z hz H locs hP hD hS ls (lv_sub hl [0, 1, 2, 3] rfl)
    · skip
      refine lv_iload_n hx hb dL_changes_841 rfl (lv_at hl 1 rfl) ?_
      refine lv_bipush (v := nI (7)) hx hb dL_changes_842 (by decide) ?_
      refine lv_ishr hx hb dL_changes_844 ?_
      refine lv_bipush (v := nI (6)) hx hb dL_changes_845 (by decide) ?_
      refine ms_S hx hb hml hown hts (c_some l g (y >>> ((nI (7)) &&& 31)) 6 (by decide) (by decide)) gL_changes_L_some rfl (by decide +kernel) ⟨Nat.le_of_ble_eq_true rfl, Nat.le_of_ble_eq_true rfl⟩ ⟨by show _ ≤ 3; omega, by show _ ≤ 18; omega⟩ hK hz hP hD hS hA hl.1 (rest := []) (Nat.le_of_ble_eq_true rfl) dL_changes_847 (fun r10 hr10 z H locs hz hP hD hS => ?_)
      refine lv_iconst (v := nI (1)) hx hb dL_changes_850 (by decide) ?_
      refine lv_isub hx hb dL_changes_851 ?_
      refine lv_goto (tgt := 863) hx hb dL_changes_852 (by decide) ?_
      exact j863 (r10 - (nI (1))) z hz H locs hP hD hS ls (lv_sub hl [0, 1, 2, 3] rfl)
  have j25 : ∀ (v : Int32) (z : Scr) (hz : ZOk z) (H : Heap) (locs : List Loc) (hP : va_P g.1 vwCl (MW g ad gm σ z) H) (hD : va_D A (MW g ad gm σ z)) (hS : va_S A s0.heap H locs) (ls : Array Slot) (hl : lv_has ls 17 [(0, .ref (ad 0)), (1, .int (y)), (2, .int (b2i (odd))), (3, .long (a_all σ))]), W pg l ev (rmY 14 3 18) s0 mi ([.ref (ad 0), .int (y), .int (b2i (odd))] : List Value).toArray below meth cd H locs (0) (0) (MQ below (va_Qi (fun (x : Int32) (w : va_W) => ∃ σ' z', (fun x σ' => x = 1 ∧ SOk σ') x σ' ∧ ZOk z' ∧ w = MW g ad gm σ' z') (iB g (MW g ad gm σ z0)) A) ([.ref (ad 0), .int (y), .int (b2i (odd))] : List Value).toArray s0 3 18 A) (F0 mi 25 ls [.int (v)]) := by
    intro v z hz H locs hP hD hS ls hl
    refine lv_istore (lv' := [(5, .int (v)), (0, .ref (ad 0)), (1, .int (y)), (2, .int (b2i (odd))), (3, .long (a_all σ))]) hx hb dL_changes_25 hl (by decide) rfl (fun ls hl => ?_)
    cases hv : inR v 4 with
    | false =>
      have j121 : ∀ (w : Int32) (z : Scr) (hz : ZOk z) (H : Heap) (locs : List Loc) (hP : va_P g.1 vwCl (MW g ad gm σ z) H) (hD : va_D A (MW g ad gm σ z)) (hS : va_S A s0.heap H locs) (ls : Array Slot) (hl : lv_has ls 17 [(0, .ref (ad 0)), (3, .long (a_all σ)), (5, .int (v)), (6, .int (nI 1)), (7, .int (nI 0)), (8, .int (nI 0))]), W pg l ev (rmY 14 3 18) s0 mi ([.ref (ad 0), .int (y), .int (b2i (odd))] : List Value).toArray below meth cd H locs (0) (0) (MQ below (va_Qi (fun (x : Int32) (w : va_W) => ∃ σ' z', (fun x σ' => x = 1 ∧ SOk σ') x σ' ∧ ZOk z' ∧ w = MW g ad gm σ' z') (iB g (MW g ad gm σ z0)) A) ([.ref (ad 0), .int (y), .int (b2i (odd))] : List Value).toArray s0 3 18 A) (F0 mi 121 ls [.int (w)]) := by
        intro w z hz H locs hP hD hS ls hl
        refine lv_istore (lv' := [(10, .int (w)), (0, .ref (ad 0)), (3, .long (a_all σ)), (5, .int (v)), (6, .int (nI 1)), (7, .int (nI 0)), (8, .int (nI 0))]) hx hb dL_changes_121 hl (by decide) rfl (fun ls hl => ?_)
        refine lv_aload_n hx hb dL_changes_123 rfl (lv_at hl 1 rfl) ?_
        refine lv_iconst (v := nI (0)) hx hb dL_changes_124 (by decide) ?_
        refine lv_iload hx hb dL_changes_125 (lv_at hl 3 rfl) ?_
        refine lv_iload hx hb dL_changes_127 (lv_at hl 0 rfl) ?_
        refine lv_iconst (v := nI (0)) hx hb dL_changes_129 (by decide) ?_
        refine lv_iconst (v := nI (0)) hx hb dL_changes_130 (by decide) ?_
        refine mx_S (k := 6) hx hb hml hown hts (k_addIdea_m l hst g ad gm hG σ hσ v hv w (nI 0) (nI 0)) gL_changes_L_call rfl (by decide +kernel) ⟨Nat.le_of_ble_eq_true rfl, Nat.le_of_ble_eq_true rfl⟩ ⟨by show _ ≤ 3; omega, by show _ ≤ 18; omega⟩ hK hNX hZ hz hP hD hS hA rfl hl.1 (rest := []) (As := [.ref (ad 0), .int (nI 0), .int (v), .int (w), .int (nI 0), .int (nI 0)]) rfl (Nat.le_of_ble_eq_true rfl) dL_changes_131 (fun z H locs hz hP hD hS => ?_)
        refine lv_istore (lv' := [(11, .int (-111)), (10, .int (w)), (0, .ref (ad 0)), (3, .long (a_all σ)), (5, .int (v)), (6, .int (nI 1)), (7, .int (nI 0)), (8, .int (nI 0))]) hx hb dL_changes_134 hl (by decide) rfl (fun ls hl => ?_)
        refine lv_iload hx hb dL_changes_136 (lv_at hl 0 rfl) ?_
        refine lv_if_ge (tgt := 198) hx hb dL_changes_138 (by decide) (fun c_108 => absurd c_108 (by decide)) (fun c_108 => ?_)
        refine lv_aload_n hx hb dL_changes_141 rfl (lv_at hl 2 rfl) ?_
        refine ml_S (k := 1) hx hb hml hown hts (c_all l g ad gm hG σ hσ) gL_changes_L_all rfl (by decide +kernel) ⟨Nat.le_of_ble_eq_true rfl, Nat.le_of_ble_eq_true rfl⟩ ⟨by show _ ≤ 3; omega, by show _ ≤ 18; omega⟩ hK hz hP hD hS hA rfl hl.1 (rest := []) (As := [.ref (ad 0)]) rfl (Nat.le_of_ble_eq_true rfl) dL_changes_142 (fun z H locs hz hP hD hS => ?_)
        refine lv_lload_n hx hb dL_changes_145 rfl (lv_at hl 3 rfl) ?_
        refine W.lcmp (x := a_all σ) (y := a_all σ) hx hb dL_changes_146 ?_
        rw [lg_self]
        refine lv_if_ne (tgt := 196) hx hb dL_changes_147 (by decide) (fun c_109 => absurd c_109 (by decide)) (fun c_109 => ?_)
        refine lv_iload hx hb dL_changes_150 (lv_at hl 0 rfl) ?_
        refine lv_iload hx hb dL_changes_152 (lv_at hl 5 rfl) ?_
        refine lv_if_ne (tgt := 169) hx hb dL_changes_154 (by decide) (fun c_110 => ?_) (fun c_110 => absurd c_110 (by decide))
        refine lv_bipush (v := -111) hx hb dL_changes_169 (by decide) ?_
        refine lv_goto (tgt := 176) hx hb dL_changes_171 (by decide) ?_
        refine lv_icmp_ne (tgt := 196) hx hb dL_changes_176 (by decide) (fun c_111 => absurd c_111 (by decide)) (fun c_111 => ?_)
        refine lv_iload hx hb dL_changes_179 (lv_at hl 0 rfl) ?_
        refine lv_bipush (v := -111) hx hb dL_changes_181 (by decide) ?_
        refine lv_icmp_eq (tgt := 192) hx hb dL_changes_183 (by decide) (fun c_112 => ?_) (fun c_112 => absurd c_112 (by decide))
        refine lv_iconst (v := nI (1)) hx hb dL_changes_192 (by decide) ?_
        refine lv_goto (tgt := 197) hx hb dL_changes_193 (by decide) ?_
        exact my_retz (v := nI (1)) hx hb hr hlocks hz hP hS (by omega) (by omega) (mc := 3) (ms := 18) ⟨rfl, hσ⟩ (by first | exact b2i_nar _ | rfl) dL_changes_197
      have j396 : ∀ (a b d : Int32) (z : Scr) (hz : ZOk z) (H : Heap) (locs : List Loc) (hP : va_P g.1 vwCl (MW g ad gm σ z) H) (hD : va_D A (MW g ad gm σ z)) (hS : va_S A s0.heap H locs) (ls : Array Slot) (hl : lv_has ls 17 [(0, .ref (ad 0)), (3, .long (a_all σ)), (5, .int (v)), (6, .int (nI 1)), (7, .int (nI 0)), (8, .int (nI 0)), (10, .int (a)), (11, .int (b))]), W pg l ev (rmY 14 3 18) s0 mi ([.ref (ad 0), .int (y), .int (b2i (odd))] : List Value).toArray below meth cd H locs (0) (0) (MQ below (va_Qi (fun (x : Int32) (w : va_W) => ∃ σ' z', (fun x σ' => x = 1 ∧ SOk σ') x σ' ∧ ZOk z' ∧ w = MW g ad gm σ' z') (iB g (MW g ad gm σ z0)) A) ([.ref (ad 0), .int (y), .int (b2i (odd))] : List Value).toArray s0 3 18 A) (F0 mi 396 ls [.int (d)]) := by
        intro a b d z hz H locs hP hD hS ls hl
        refine lv_istore (lv' := [(12, .int (d)), (0, .ref (ad 0)), (3, .long (a_all σ)), (5, .int (v)), (6, .int (nI 1)), (7, .int (nI 0)), (8, .int (nI 0)), (10, .int (a)), (11, .int (b))]) hx hb dL_changes_396 hl (by decide) rfl (fun ls hl => ?_)
        refine lv_iload hx hb dL_changes_398 (lv_at hl 4 rfl) ?_
        refine lv_if_ne (tgt := 427) hx hb dL_changes_400 (by decide) (fun c_113 => ?_) (fun c_113 => absurd c_113 (by decide))
        refine lv_iconst (v := nI (1)) hx hb dL_changes_427 (by decide) ?_
        refine lv_goto (tgt := 432) hx hb dL_changes_428 (by decide) ?_
        refine lv_istore (lv' := [(6, .int (nI 1)), (12, .int (d)), (0, .ref (ad 0)), (3, .long (a_all σ)), (5, .int (v)), (7, .int (nI 0)), (8, .int (nI 0)), (10, .int (a)), (11, .int (b))]) hx hb dL_changes_432 hl (by decide) rfl (fun ls hl => ?_)
        refine lv_aload_n hx hb dL_changes_434 rfl (lv_at hl 2 rfl) ?_
        refine lv_iconst (v := nI (1)) hx hb dL_changes_435 (by decide) ?_
        refine lv_iload hx hb dL_changes_436 (lv_at hl 4 rfl) ?_
        refine lv_iload hx hb dL_changes_438 (lv_at hl 7 rfl) ?_
        refine lv_iload hx hb dL_changes_440 (lv_at hl 8 rfl) ?_
        refine lv_iload hx hb dL_changes_442 (lv_at hl 1 rfl) ?_
        refine mx_S (k := 6) hx hb hml hown hts (k_link_m l hst g ad gm hG σ hσ v hv a b d) gL_changes_L_call rfl (by decide +kernel) ⟨Nat.le_of_ble_eq_true rfl, Nat.le_of_ble_eq_true rfl⟩ ⟨by show _ ≤ 3; omega, by show _ ≤ 18; omega⟩ hK hNX hZ hz hP hD hS hA rfl hl.1 (rest := []) (As := [.ref (ad 0), .int (nI 1), .int (v), .int (a), .int (b), .int (d)]) rfl (Nat.le_of_ble_eq_true rfl) dL_changes_444 (fun z H locs hz hP hD hS => ?_)
        refine lv_istore (lv' := [(13, .int (-111)), (6, .int (nI 1)), (12, .int (d)), (0, .ref (ad 0)), (3, .long (a_all σ)), (5, .int (v)), (7, .int (nI 0)), (8, .int (nI 0)), (10, .int (a)), (11, .int (b))]) hx hb dL_changes_447 hl (by decide) rfl (fun ls hl => ?_)
        refine lv_iload hx hb dL_changes_449 (lv_at hl 1 rfl) ?_
        refine lv_if_ne (tgt := 472) hx hb dL_changes_451 (by decide) (fun c_114 => ?_) (fun c_114 => absurd c_114 (by decide))
        refine lv_iload hx hb dL_changes_472 (lv_at hl 0 rfl) ?_
        refine lv_iload hx hb dL_changes_474 (lv_at hl 1 rfl) ?_
        refine lv_if_eq (tgt := 484) hx hb dL_changes_476 (by decide) (fun c_115 => absurd c_115 (by decide)) (fun c_115 => ?_)
        refine lv_bipush (v := -111) hx hb dL_changes_479 (by decide) ?_
        refine lv_goto (tgt := 486) hx hb dL_changes_481 (by decide) ?_
        refine lv_icmp_ne (tgt := 502) hx hb dL_changes_486 (by decide) (fun c_116 => absurd c_116 (by decide)) (fun c_116 => ?_)
        refine lv_aload_n hx hb dL_changes_489 rfl (lv_at hl 3 rfl) ?_
        refine ml_S (k := 1) hx hb hml hown hts (c_all l g ad gm hG σ hσ) gL_changes_L_all rfl (by decide +kernel) ⟨Nat.le_of_ble_eq_true rfl, Nat.le_of_ble_eq_true rfl⟩ ⟨by show _ ≤ 3; omega, by show _ ≤ 18; omega⟩ hK hz hP hD hS hA rfl hl.1 (rest := []) (As := [.ref (ad 0)]) rfl (Nat.le_of_ble_eq_true rfl) dL_changes_490 (fun z H locs hz hP hD hS => ?_)
        refine lv_lload_n hx hb dL_changes_493 rfl (lv_at hl 4 rfl) ?_
        refine W.lcmp (x := a_all σ) (y := a_all σ) hx hb dL_changes_494 ?_
        rw [lg_self]
        refine lv_if_ne (tgt := 502) hx hb dL_changes_495 (by decide) (fun c_117 => absurd c_117 (by decide)) (fun c_117 => ?_)
        refine lv_iconst (v := nI (1)) hx hb dL_changes_498 (by decide) ?_
        refine lv_goto (tgt := 503) hx hb dL_changes_499 (by decide) ?_
        exact my_retz (v := nI (1)) hx hb hr hlocks hz hP hS (by omega) (by omega) (mc := 3) (ms := 18) ⟨rfl, hσ⟩ (by first | exact b2i_nar _ | rfl) dL_changes_503
      have j354 : ∀ (a b : Int32) (z : Scr) (hz : ZOk z) (H : Heap) (locs : List Loc) (hP : va_P g.1 vwCl (MW g ad gm σ z) H) (hD : va_D A (MW g ad gm σ z)) (hS : va_S A s0.heap H locs) (ls : Array Slot) (hl : lv_has ls 17 [(0, .ref (ad 0)), (1, .int (y)), (2, .int (b2i (odd))), (3, .long (a_all σ)), (5, .int (v)), (6, .int (nI 1)), (7, .int (nI 0)), (8, .int (nI 0)), (10, .int (a))]), W pg l ev (rmY 14 3 18) s0 mi ([.ref (ad 0), .int (y), .int (b2i (odd))] : List Value).toArray below meth cd H locs (0) (0) (MQ below (va_Qi (fun (x : Int32) (w : va_W) => ∃ σ' z', (fun x σ' => x = 1 ∧ SOk σ') x σ' ∧ ZOk z' ∧ w = MW g ad gm σ' z') (iB g (MW g ad gm σ z0)) A) ([.ref (ad 0), .int (y), .int (b2i (odd))] : List Value).toArray s0 3 18 A) (F0 mi 354 ls [.int (b)]) := by
        intro a b z hz H locs hP hD hS ls hl
        refine lv_istore (lv' := [(11, .int (b)), (0, .ref (ad 0)), (1, .int (y)), (2, .int (b2i (odd))), (3, .long (a_all σ)), (5, .int (v)), (6, .int (nI 1)), (7, .int (nI 0)), (8, .int (nI 0)), (10, .int (a))]) hx hb dL_changes_354 hl (by decide) rfl (fun ls hl => ?_)
        refine lv_iload_n hx hb dL_changes_356 rfl (lv_at hl 3 rfl) ?_
        refine bv_if_eq (tgt := 374) hx hb dL_changes_357 (by decide) (fun c_118 => ?_) (fun c_118 => ?_)
        · skip
          refine lv_iload_n hx hb dL_changes_374 rfl (lv_at hl 2 rfl) ?_
          refine lv_bipush (v := nI (11)) hx hb dL_changes_375 (by decide) ?_
          refine lv_ishr hx hb dL_changes_377 ?_
          refine lv_iload_n hx hb dL_changes_378 rfl (lv_at hl 2 rfl) ?_
          refine lv_iconst (v := nI (2)) hx hb dL_changes_379 (by decide) ?_
          refine lv_ishr hx hb dL_changes_380 ?_
          refine lv_iconst (v := nI (2)) hx hb dL_changes_381 (by decide) ?_
          refine ms_S hx hb hml hown hts (c_some l g (y >>> ((nI (2)) &&& 31)) 2 (by decide) (by decide)) gL_changes_L_some rfl (by decide +kernel) ⟨Nat.le_of_ble_eq_true rfl, Nat.le_of_ble_eq_true rfl⟩ ⟨by show _ ≤ 3; omega, by show _ ≤ 18; omega⟩ hK hz hP hD hS hA hl.1 (rest := [.int (y >>> ((nI (11)) &&& 31))]) (Nat.le_of_ble_eq_true rfl) dL_changes_382 (fun r11 hr11 z H locs hz hP hD hS => ?_)
          refine lv_if_ne (tgt := 392) hx hb dL_changes_385 (by decide) (fun c_119 => ?_) (fun c_119 => ?_)
          · skip
            refine lv_iconst (v := nI (2)) hx hb dL_changes_392 (by decide) ?_
            refine ms_S hx hb hml hown hts (c_some l g (y >>> ((nI (11)) &&& 31)) 2 (by decide) (by decide)) gL_changes_L_some rfl (by decide +kernel) ⟨Nat.le_of_ble_eq_true rfl, Nat.le_of_ble_eq_true rfl⟩ ⟨by show _ ≤ 3; omega, by show _ ≤ 18; omega⟩ hK hz hP hD hS hA hl.1 (rest := []) (Nat.le_of_ble_eq_true rfl) dL_changes_393 (fun r12 hr12 z H locs hz hP hD hS => ?_)
            exact j396 a b (r12) z hz H locs hP hD hS ls (lv_sub hl [1, 4, 5, 6, 7, 8, 9, 0] rfl)
          · skip
            refine lv_iconst (v := nI (4)) hx hb dL_changes_388 (by decide) ?_
            refine lv_goto (tgt := 393) hx hb dL_changes_389 (by decide) ?_
            refine ms_S hx hb hml hown hts (c_some l g (y >>> ((nI (11)) &&& 31)) 4 (by decide) (by decide)) gL_changes_L_some rfl (by decide +kernel) ⟨Nat.le_of_ble_eq_true rfl, Nat.le_of_ble_eq_true rfl⟩ ⟨by show _ ≤ 3; omega, by show _ ≤ 18; omega⟩ hK hz hP hD hS hA hl.1 (rest := []) (Nat.le_of_ble_eq_true rfl) dL_changes_393 (fun r13 hr13 z H locs hz hP hD hS => ?_)
            exact j396 a b (r13) z hz H locs hP hD hS ls (lv_sub hl [1, 4, 5, 6, 7, 8, 9, 0] rfl)
        · skip
          refine lv_iload_n hx hb dL_changes_360 rfl (lv_at hl 2 rfl) ?_
          refine lv_bipush (v := nI (11)) hx hb dL_changes_361 (by decide) ?_
          refine lv_ishr hx hb dL_changes_363 ?_
          refine lv_bipush (v := nI (6)) hx hb dL_changes_364 (by decide) ?_
          refine ms_S hx hb hml hown hts (c_some l g (y >>> ((nI (11)) &&& 31)) 6 (by decide) (by decide)) gL_changes_L_some rfl (by decide +kernel) ⟨Nat.le_of_ble_eq_true rfl, Nat.le_of_ble_eq_true rfl⟩ ⟨by show _ ≤ 3; omega, by show _ ≤ 18; omega⟩ hK hz hP hD hS hA hl.1 (rest := []) (Nat.le_of_ble_eq_true rfl) dL_changes_366 (fun r14 hr14 z H locs hz hP hD hS => ?_)
          refine lv_iconst (v := nI (1)) hx hb dL_changes_369 (by decide) ?_
          refine lv_isub hx hb dL_changes_370 ?_
          refine lv_goto (tgt := 396) hx hb dL_changes_371 (by decide) ?_
          exact j396 a b (r14 - (nI (1))) z hz H locs hP hD hS ls (lv_sub hl [1, 4, 5, 6, 7, 8, 9, 0] rfl)
      have j316 : ∀ (a : Int32) (z : Scr) (hz : ZOk z) (H : Heap) (locs : List Loc) (hP : va_P g.1 vwCl (MW g ad gm σ z) H) (hD : va_D A (MW g ad gm σ z)) (hS : va_S A s0.heap H locs) (ls : Array Slot) (hl : lv_has ls 17 [(0, .ref (ad 0)), (1, .int (y)), (2, .int (b2i (odd))), (3, .long (a_all σ)), (5, .int (v)), (6, .int (nI 1)), (7, .int (nI 0)), (8, .int (nI 0))]), W pg l ev (rmY 14 3 18) s0 mi ([.ref (ad 0), .int (y), .int (b2i (odd))] : List Value).toArray below meth cd H locs (0) (0) (MQ below (va_Qi (fun (x : Int32) (w : va_W) => ∃ σ' z', (fun x σ' => x = 1 ∧ SOk σ') x σ' ∧ ZOk z' ∧ w = MW g ad gm σ' z') (iB g (MW g ad gm σ z0)) A) ([.ref (ad 0), .int (y), .int (b2i (odd))] : List Value).toArray s0 3 18 A) (F0 mi 316 ls [.int (a)]) := by
        intro a z hz H locs hP hD hS ls hl
        refine lv_istore (lv' := [(10, .int (a)), (0, .ref (ad 0)), (1, .int (y)), (2, .int (b2i (odd))), (3, .long (a_all σ)), (5, .int (v)), (6, .int (nI 1)), (7, .int (nI 0)), (8, .int (nI 0))]) hx hb dL_changes_316 hl (by decide) rfl (fun ls hl => ?_)
        refine lv_iload_n hx hb dL_changes_318 rfl (lv_at hl 3 rfl) ?_
        refine bv_if_eq (tgt := 336) hx hb dL_changes_319 (by decide) (fun c_120 => ?_) (fun c_120 => ?_)
        · skip
          refine lv_iload_n hx hb dL_changes_336 rfl (lv_at hl 2 rfl) ?_
          refine lv_bipush (v := nI (9)) hx hb dL_changes_337 (by decide) ?_
          refine lv_ishr hx hb dL_changes_339 ?_
          refine lv_iload hx hb dL_changes_340 (lv_at hl 7 rfl) ?_
          refine lv_if_ne (tgt := 349) hx hb dL_changes_342 (by decide) (fun c_121 => absurd c_121 (by decide)) (fun c_121 => ?_)
          refine lv_iconst (v := nI (1)) hx hb dL_changes_345 (by decide) ?_
          refine lv_goto (tgt := 351) hx hb dL_changes_346 (by decide) ?_
          refine ms_S hx hb hml hown hts (c_some l g (y >>> ((nI (9)) &&& 31)) 1 (by decide) (by decide)) gL_changes_L_some rfl (by decide +kernel) ⟨Nat.le_of_ble_eq_true rfl, Nat.le_of_ble_eq_true rfl⟩ ⟨by show _ ≤ 3; omega, by show _ ≤ 18; omega⟩ hK hz hP hD hS hA hl.1 (rest := []) (Nat.le_of_ble_eq_true rfl) dL_changes_351 (fun r15 hr15 z H locs hz hP hD hS => ?_)
          exact j354 a (r15) z hz H locs hP hD hS ls (lv_sub hl [1, 2, 3, 4, 5, 6, 7, 8, 0] rfl)
        · skip
          refine lv_iload_n hx hb dL_changes_322 rfl (lv_at hl 2 rfl) ?_
          refine lv_bipush (v := nI (9)) hx hb dL_changes_323 (by decide) ?_
          refine lv_ishr hx hb dL_changes_325 ?_
          refine lv_bipush (v := nI (7)) hx hb dL_changes_326 (by decide) ?_
          refine ms_S hx hb hml hown hts (c_some l g (y >>> ((nI (9)) &&& 31)) 7 (by decide) (by decide)) gL_changes_L_some rfl (by decide +kernel) ⟨Nat.le_of_ble_eq_true rfl, Nat.le_of_ble_eq_true rfl⟩ ⟨by show _ ≤ 3; omega, by show _ ≤ 18; omega⟩ hK hz hP hD hS hA hl.1 (rest := []) (Nat.le_of_ble_eq_true rfl) dL_changes_328 (fun r16 hr16 z H locs hz hP hD hS => ?_)
          refine lv_iconst (v := nI (1)) hx hb dL_changes_331 (by decide) ?_
          refine lv_isub hx hb dL_changes_332 ?_
          refine lv_goto (tgt := 354) hx hb dL_changes_333 (by decide) ?_
          exact j354 a (r16 - (nI (1))) z hz H locs hP hD hS ls (lv_sub hl [1, 2, 3, 4, 5, 6, 7, 8, 0] rfl)
      have j1069 : ∀ (z : Scr) (hz : ZOk z) (H : Heap) (locs : List Loc) (hP : va_P g.1 vwCl (MW g ad gm σ z) H) (hD : va_D A (MW g ad gm σ z)) (hS : va_S A s0.heap H locs) (ls : Array Slot) (hl : lv_has ls 17 [(0, .ref (ad 0)), (3, .long (a_all σ)), (5, .int (v)), (6, .int (nI 1)), (7, .int (nI 0)), (8, .int (nI 0))]), W pg l ev (rmY 14 3 18) s0 mi ([.ref (ad 0), .int (y), .int (b2i (odd))] : List Value).toArray below meth cd H locs (0) (0) (MQ below (va_Qi (fun (x : Int32) (w : va_W) => ∃ σ' z', (fun x σ' => x = 1 ∧ SOk σ') x σ' ∧ ZOk z' ∧ w = MW g ad gm σ' z') (iB g (MW g ad gm σ z0)) A) ([.ref (ad 0), .int (y), .int (b2i (odd))] : List Value).toArray s0 3 18 A) (F0 mi 1069 ls []) := by
        intro  z hz H locs hP hD hS ls hl
        refine lv_aload_n hx hb dL_changes_1069 rfl (lv_at hl 0 rfl) ?_
        refine lv_iconst (v := nI (2)) hx hb dL_changes_1070 (by decide) ?_
        refine lv_iload hx hb dL_changes_1071 (lv_at hl 2 rfl) ?_
        refine lv_iconst (v := nI (0)) hx hb dL_changes_1073 (by decide) ?_
        refine lv_iconst (v := nI (0)) hx hb dL_changes_1074 (by decide) ?_
        refine lv_iconst (v := nI (0)) hx hb dL_changes_1075 (by decide) ?_
        refine mx_S (k := 6) hx hb hml hown hts (k_clear_m l hst g ad gm hG σ hσ v hv (nI 0) (nI 0) (nI 0)) gL_changes_L_call rfl (by decide +kernel) ⟨Nat.le_of_ble_eq_true rfl, Nat.le_of_ble_eq_true rfl⟩ ⟨by show _ ≤ 3; omega, by show _ ≤ 18; omega⟩ hK hNX hZ hz hP hD hS hA rfl hl.1 (rest := []) (As := [.ref (ad 0), .int (nI 2), .int (v), .int (nI 0), .int (nI 0), .int (nI 0)]) rfl (Nat.le_of_ble_eq_true rfl) dL_changes_1076 (fun z H locs hz hP hD hS => ?_)
        refine lv_istore (lv' := [(10, .int (-111)), (0, .ref (ad 0)), (3, .long (a_all σ)), (5, .int (v)), (6, .int (nI 1)), (7, .int (nI 0)), (8, .int (nI 0))]) hx hb dL_changes_1079 hl (by decide) rfl (fun ls hl => ?_)
        refine lv_iload hx hb dL_changes_1081 (lv_at hl 0 rfl) ?_
        refine lv_iconst (v := -1) hx hb dL_changes_1083 (by decide) ?_
        refine lv_icmp_eq (tgt := 1161) hx hb dL_changes_1084 (by decide) (fun c_122 => absurd c_122 (by decide)) (fun c_122 => ?_)
        refine lv_iload hx hb dL_changes_1087 (lv_at hl 4 rfl) ?_
        refine lv_if_eq (tgt := 1111) hx hb dL_changes_1089 (by decide) (fun c_123 => absurd c_123 (by decide)) (fun c_123 => ?_)
        refine lv_iload hx hb dL_changes_1092 (lv_at hl 0 rfl) ?_
        refine lv_bipush (v := -111) hx hb dL_changes_1094 (by decide) ?_
        refine lv_icmp_ne (tgt := 1165) hx hb dL_changes_1096 (by decide) (fun c_124 => absurd c_124 (by decide)) (fun c_124 => ?_)
        refine lv_aload_n hx hb dL_changes_1099 rfl (lv_at hl 1 rfl) ?_
        refine ml_S (k := 1) hx hb hml hown hts (c_all l g ad gm hG σ hσ) gL_changes_L_all rfl (by decide +kernel) ⟨Nat.le_of_ble_eq_true rfl, Nat.le_of_ble_eq_true rfl⟩ ⟨by show _ ≤ 3; omega, by show _ ≤ 18; omega⟩ hK hz hP hD hS hA rfl hl.1 (rest := []) (As := [.ref (ad 0)]) rfl (Nat.le_of_ble_eq_true rfl) dL_changes_1100 (fun z H locs hz hP hD hS => ?_)
        refine lv_lload_n hx hb dL_changes_1103 rfl (lv_at hl 2 rfl) ?_
        refine W.lcmp (x := a_all σ) (y := a_all σ) hx hb dL_changes_1104 ?_
        rw [lg_self]
        refine lv_if_ne (tgt := 1165) hx hb dL_changes_1105 (by decide) (fun c_125 => absurd c_125 (by decide)) (fun c_125 => ?_)
        refine lv_goto (tgt := 1161) hx hb dL_changes_1108 (by decide) ?_
        refine lv_iconst (v := nI (1)) hx hb dL_changes_1161 (by decide) ?_
        refine lv_goto (tgt := 1166) hx hb dL_changes_1162 (by decide) ?_
        exact my_retz (v := nI (1)) hx hb hr hlocks hz hP hS (by omega) (by omega) (mc := 3) (ms := 18) ⟨rfl, hσ⟩ (by first | exact b2i_nar _ | rfl) dL_changes_1166
      have j45 : ∀ (z : Scr) (hz : ZOk z) (H : Heap) (locs : List Loc) (hP : va_P g.1 vwCl (MW g ad gm σ z) H) (hD : va_D A (MW g ad gm σ z)) (hS : va_S A s0.heap H locs) (ls : Array Slot) (hl : lv_has ls 17 [(0, .ref (ad 0)), (1, .int (y)), (2, .int (b2i (odd))), (3, .long (a_all σ)), (5, .int (v)), (6, .int (nI 1))]), W pg l ev (rmY 14 3 18) s0 mi ([.ref (ad 0), .int (y), .int (b2i (odd))] : List Value).toArray below meth cd H locs (0) (0) (MQ below (va_Qi (fun (x : Int32) (w : va_W) => ∃ σ' z', (fun x σ' => x = 1 ∧ SOk σ') x σ' ∧ ZOk z' ∧ w = MW g ad gm σ' z') (iB g (MW g ad gm σ z0)) A) ([.ref (ad 0), .int (y), .int (b2i (odd))] : List Value).toArray s0 3 18 A) (F0 mi 45 ls []) := by
        intro  z hz H locs hP hD hS ls hl
        refine lv_iload hx hb dL_changes_45 (lv_at hl 5 rfl) ?_
        refine lv_if_eq (tgt := 54) hx hb dL_changes_47 (by decide) (fun c_126 => absurd c_126 (by decide)) (fun c_126 => ?_)
        refine lv_iconst (v := nI (0)) hx hb dL_changes_50 (by decide) ?_
        refine lv_goto (tgt := 60) hx hb dL_changes_51 (by decide) ?_
        refine lv_istore (lv' := [(7, .int (nI 0)), (0, .ref (ad 0)), (1, .int (y)), (2, .int (b2i (odd))), (3, .long (a_all σ)), (5, .int (v)), (6, .int (nI 1))]) hx hb dL_changes_60 hl (by decide) rfl (fun ls hl => ?_)
        refine lv_iload hx hb dL_changes_62 (lv_at hl 6 rfl) ?_
        refine lv_if_eq (tgt := 71) hx hb dL_changes_64 (by decide) (fun c_127 => absurd c_127 (by decide)) (fun c_127 => ?_)
        refine lv_iconst (v := nI (0)) hx hb dL_changes_67 (by decide) ?_
        refine lv_goto (tgt := 77) hx hb dL_changes_68 (by decide) ?_
        refine lv_istore (lv' := [(8, .int (nI 0)), (7, .int (nI 0)), (0, .ref (ad 0)), (1, .int (y)), (2, .int (b2i (odd))), (3, .long (a_all σ)), (5, .int (v)), (6, .int (nI 1))]) hx hb dL_changes_77 hl (by decide) rfl (fun ls hl => ?_)
        refine lv_iload_n hx hb dL_changes_79 rfl (lv_at hl 3 rfl) ?_
        refine lv_iconst (v := nI (3)) hx hb dL_changes_80 (by decide) ?_
        refine lv_ishr hx hb dL_changes_81 ?_
        refine lv_bipush (v := nI (16)) hx hb dL_changes_82 (by decide) ?_
        refine ms_S hx hb hml hown hts (c_some l g (y >>> ((nI (3)) &&& 31)) 16 (by decide) (by decide)) gL_changes_L_some rfl (by decide +kernel) ⟨Nat.le_of_ble_eq_true rfl, Nat.le_of_ble_eq_true rfl⟩ ⟨by show _ ≤ 3; omega, by show _ ≤ 18; omega⟩ hK hz hP hD hS hA hl.1 (rest := []) (Nat.le_of_ble_eq_true rfl) dL_changes_84 (fun r17 hr17 z H locs hz hP hD hS => ?_)
        refine lv_istore (lv' := [(9, .int (r17)), (8, .int (nI 0)), (7, .int (nI 0)), (0, .ref (ad 0)), (1, .int (y)), (2, .int (b2i (odd))), (3, .long (a_all σ)), (5, .int (v)), (6, .int (nI 1))]) hx hb dL_changes_87 hl (by decide) rfl (fun ls hl => ?_)
        refine lv_iload hx hb dL_changes_89 (lv_at hl 0 rfl) ?_
        refine lv_iconst (v := nI (4)) hx hb dL_changes_91 (by decide) ?_
        refine lv_icmp_ge (tgt := 273) hx hb dL_changes_92 (by decide) (fun c_128 => ?_) (fun c_128 => ?_)
        · skip
          refine lv_iload hx hb dL_changes_273 (lv_at hl 0 rfl) ?_
          refine lv_bipush (v := nI (13)) hx hb dL_changes_275 (by decide) ?_
          refine lv_icmp_ge (tgt := 640) hx hb dL_changes_277 (by decide) (fun c_129 => ?_) (fun c_129 => ?_)
          · skip
            refine lv_iload hx hb dL_changes_640 (lv_at hl 0 rfl) ?_
            refine lv_bipush (v := nI (14)) hx hb dL_changes_642 (by decide) ?_
            refine lv_icmp_ge (tgt := 830) hx hb dL_changes_644 (by decide) (fun c_130 => ?_) (fun c_130 => ?_)
            · skip
              refine lv_iload hx hb dL_changes_830 (lv_at hl 0 rfl) ?_
              refine lv_bipush (v := nI (15)) hx hb dL_changes_832 (by decide) ?_
              refine lv_icmp_ge (tgt := 1050) hx hb dL_changes_834 (by decide) (fun c_131 => ?_) (fun c_131 => ?_)
              · skip
                refine lv_iload_n hx hb dL_changes_1050 rfl (lv_at hl 4 rfl) ?_
                refine lv_bipush (v := nI (7)) hx hb dL_changes_1051 (by decide) ?_
                refine lv_ishr hx hb dL_changes_1053 ?_
                refine lv_iconst (v := nI (4)) hx hb dL_changes_1054 (by decide) ?_
                refine ms_S hx hb hml hown hts (c_some l g (y >>> ((nI (7)) &&& 31)) 4 (by decide) (by decide)) gL_changes_L_some rfl (by decide +kernel) ⟨Nat.le_of_ble_eq_true rfl, Nat.le_of_ble_eq_true rfl⟩ ⟨by show _ ≤ 3; omega, by show _ ≤ 18; omega⟩ hK hz hP hD hS hA hl.1 (rest := []) (Nat.le_of_ble_eq_true rfl) dL_changes_1055 (fun r18 hr18 z H locs hz hP hD hS => ?_)
                refine lv_if_le (tgt := 1069) hx hb dL_changes_1058 (by decide) (fun c_132 => ?_) (fun c_132 => ?_)
                · skip
                  exact j1069  z hz H locs hP hD hS ls (lv_sub hl [3, 6, 7, 8, 2, 1] rfl)
                · skip
                  refine lv_iload_n hx hb dL_changes_1061 rfl (lv_at hl 5 rfl) ?_
                  refine bv_if_ne (tgt := 1069) hx hb dL_changes_1062 (by decide) (fun c_133 => ?_) (fun c_133 => ?_)
                  · skip
                    exact j1069  z hz H locs hP hD hS ls (lv_sub hl [3, 6, 7, 8, 2, 1] rfl)
                  · skip
                    refine lv_iconst (v := -1) hx hb dL_changes_1065 (by decide) ?_
                    refine lv_goto (tgt := 1079) hx hb dL_changes_1066 (by decide) ?_
                    refine lv_istore (lv' := [(10, .int (-1)), (9, .int (r17)), (8, .int (nI 0)), (7, .int (nI 0)), (0, .ref (ad 0)), (1, .int (y)), (2, .int (b2i (odd))), (3, .long (a_all σ)), (5, .int (v)), (6, .int (nI 1))]) hx hb dL_changes_1079 hl (by decide) rfl (fun ls hl => ?_)
                    refine lv_iload hx hb dL_changes_1081 (lv_at hl 0 rfl) ?_
                    refine lv_iconst (v := -1) hx hb dL_changes_1083 (by decide) ?_
                    refine lv_icmp_eq (tgt := 1161) hx hb dL_changes_1084 (by decide) (fun c_134 => ?_) (fun c_134 => absurd c_134 (by decide))
                    refine lv_iconst (v := nI (1)) hx hb dL_changes_1161 (by decide) ?_
                    refine lv_goto (tgt := 1166) hx hb dL_changes_1162 (by decide) ?_
                    exact my_retz (v := nI (1)) hx hb hr hlocks hz hP hS (by omega) (by omega) (mc := 3) (ms := 18) ⟨rfl, hσ⟩ (by first | exact b2i_nar _ | rfl) dL_changes_1166
              · skip
                exact j837  z hz H locs hP hD hS ls (lv_sub hl [3, 4, 5, 6] rfl)
            · skip
              exact j647  z hz H locs hP hD hS ls (lv_sub hl [3, 4, 5, 6] rfl)
          · skip
            refine lv_iload_n hx hb dL_changes_280 rfl (lv_at hl 5 rfl) ?_
            refine bv_if_eq (tgt := 298) hx hb dL_changes_281 (by decide) (fun c_135 => ?_) (fun c_135 => ?_)
            · skip
              refine lv_iload_n hx hb dL_changes_298 rfl (lv_at hl 4 rfl) ?_
              refine lv_bipush (v := nI (7)) hx hb dL_changes_299 (by decide) ?_
              refine lv_ishr hx hb dL_changes_301 ?_
              refine lv_iload hx hb dL_changes_302 (lv_at hl 2 rfl) ?_
              refine lv_if_ne (tgt := 311) hx hb dL_changes_304 (by decide) (fun c_136 => absurd c_136 (by decide)) (fun c_136 => ?_)
              refine lv_iconst (v := nI (1)) hx hb dL_changes_307 (by decide) ?_
              refine lv_goto (tgt := 313) hx hb dL_changes_308 (by decide) ?_
              refine ms_S hx hb hml hown hts (c_some l g (y >>> ((nI (7)) &&& 31)) 1 (by decide) (by decide)) gL_changes_L_some rfl (by decide +kernel) ⟨Nat.le_of_ble_eq_true rfl, Nat.le_of_ble_eq_true rfl⟩ ⟨by show _ ≤ 3; omega, by show _ ≤ 18; omega⟩ hK hz hP hD hS hA hl.1 (rest := []) (Nat.le_of_ble_eq_true rfl) dL_changes_313 (fun r19 hr19 z H locs hz hP hD hS => ?_)
              exact j316 (r19) z hz H locs hP hD hS ls (lv_sub hl [3, 4, 5, 6, 7, 8, 2, 1] rfl)
            · skip
              refine lv_iload_n hx hb dL_changes_284 rfl (lv_at hl 4 rfl) ?_
              refine lv_bipush (v := nI (7)) hx hb dL_changes_285 (by decide) ?_
              refine lv_ishr hx hb dL_changes_287 ?_
              refine lv_bipush (v := nI (7)) hx hb dL_changes_288 (by decide) ?_
              refine ms_S hx hb hml hown hts (c_some l g (y >>> ((nI (7)) &&& 31)) 7 (by decide) (by decide)) gL_changes_L_some rfl (by decide +kernel) ⟨Nat.le_of_ble_eq_true rfl, Nat.le_of_ble_eq_true rfl⟩ ⟨by show _ ≤ 3; omega, by show _ ≤ 18; omega⟩ hK hz hP hD hS hA hl.1 (rest := []) (Nat.le_of_ble_eq_true rfl) dL_changes_290 (fun r20 hr20 z H locs hz hP hD hS => ?_)
              refine lv_iconst (v := nI (1)) hx hb dL_changes_293 (by decide) ?_
              refine lv_isub hx hb dL_changes_294 ?_
              refine lv_goto (tgt := 316) hx hb dL_changes_295 (by decide) ?_
              exact j316 (r20 - (nI (1))) z hz H locs hP hD hS ls (lv_sub hl [3, 4, 5, 6, 7, 8, 2, 1] rfl)
        · skip
          refine lv_iload_n hx hb dL_changes_95 rfl (lv_at hl 5 rfl) ?_
          refine bv_if_eq (tgt := 113) hx hb dL_changes_96 (by decide) (fun c_137 => ?_) (fun c_137 => ?_)
          · skip
            refine lv_iload_n hx hb dL_changes_113 rfl (lv_at hl 4 rfl) ?_
            refine lv_bipush (v := nI (7)) hx hb dL_changes_114 (by decide) ?_
            refine lv_ishr hx hb dL_changes_116 ?_
            refine lv_iconst (v := nI (5)) hx hb dL_changes_117 (by decide) ?_
            refine ms_S hx hb hml hown hts (c_some l g (y >>> ((nI (7)) &&& 31)) 5 (by decide) (by decide)) gL_changes_L_some rfl (by decide +kernel) ⟨Nat.le_of_ble_eq_true rfl, Nat.le_of_ble_eq_true rfl⟩ ⟨by show _ ≤ 3; omega, by show _ ≤ 18; omega⟩ hK hz hP hD hS hA hl.1 (rest := []) (Nat.le_of_ble_eq_true rfl) dL_changes_118 (fun r21 hr21 z H locs hz hP hD hS => ?_)
            exact j121 (r21) z hz H locs hP hD hS ls (lv_sub hl [3, 6, 7, 8, 2, 1] rfl)
          · skip
            refine lv_iload_n hx hb dL_changes_99 rfl (lv_at hl 4 rfl) ?_
            refine lv_bipush (v := nI (7)) hx hb dL_changes_100 (by decide) ?_
            refine lv_ishr hx hb dL_changes_102 ?_
            refine lv_bipush (v := nI (34)) hx hb dL_changes_103 (by decide) ?_
            refine ms_S hx hb hml hown hts (c_some l g (y >>> ((nI (7)) &&& 31)) 34 (by decide) (by decide)) gL_changes_L_some rfl (by decide +kernel) ⟨Nat.le_of_ble_eq_true rfl, Nat.le_of_ble_eq_true rfl⟩ ⟨by show _ ≤ 3; omega, by show _ ≤ 18; omega⟩ hK hz hP hD hS hA hl.1 (rest := []) (Nat.le_of_ble_eq_true rfl) dL_changes_105 (fun r22 hr22 z H locs hz hP hD hS => ?_)
            refine lv_iconst (v := nI (1)) hx hb dL_changes_108 (by decide) ?_
            refine lv_isub hx hb dL_changes_109 ?_
            refine lv_goto (tgt := 121) hx hb dL_changes_110 (by decide) ?_
            exact j121 (r22 - (nI (1))) z hz H locs hP hD hS ls (lv_sub hl [3, 6, 7, 8, 2, 1] rfl)
      refine lv_iload hx hb dL_changes_27 (lv_at hl 0 rfl) ?_
      refine lv_if_lt (tgt := 38) hx hb dL_changes_29 (by decide) (fun c_138 => ?_) (fun c_138 => ?_)
      · skip
        refine lv_iconst (v := nI (1)) hx hb dL_changes_38 (by decide) ?_
        refine lv_goto (tgt := 43) hx hb dL_changes_39 (by decide) ?_
        refine lv_istore (lv' := [(6, .int (nI 1)), (5, .int (v)), (0, .ref (ad 0)), (1, .int (y)), (2, .int (b2i (odd))), (3, .long (a_all σ))]) hx hb dL_changes_43 hl (by decide) rfl (fun ls hl => ?_)
        exact j45  z hz H locs hP hD hS ls (lv_sub hl [2, 3, 4, 5, 1, 0] rfl)
      · skip
        refine lv_iload hx hb dL_changes_32 (lv_at hl 0 rfl) ?_
        refine lv_iconst (v := nI (3)) hx hb dL_changes_34 (by decide) ?_
        refine lv_icmp_le (tgt := 42) hx hb dL_changes_35 (by decide) (fun c_139 => by exfalso; exact absurd (inX_l (n := 3) (by decide) c_138 c_139) (by rw [hv]; decide)) (fun c_139 => ?_)
        refine lv_iconst (v := nI (1)) hx hb dL_changes_38 (by decide) ?_
        refine lv_goto (tgt := 43) hx hb dL_changes_39 (by decide) ?_
        refine lv_istore (lv' := [(6, .int (nI 1)), (5, .int (v)), (0, .ref (ad 0)), (1, .int (y)), (2, .int (b2i (odd))), (3, .long (a_all σ))]) hx hb dL_changes_43 hl (by decide) rfl (fun ls hl => ?_)
        exact j45  z hz H locs hP hD hS ls (lv_sub hl [2, 3, 4, 5, 1, 0] rfl)
    | true =>
      obtain ⟨k, hk4, rfl⟩ := inR_ex (by decide) hv
      have hn5 : s_n σ k ≤ 5 := hσ.1 k
      have hcl := a_ct_le σ k
      have j121 : ∀ (w : Int32) (z : Scr) (hz : ZOk z) (H : Heap) (locs : List Loc) (hP : va_P g.1 vwCl (MW g ad gm σ z) H) (hD : va_D A (MW g ad gm σ z)) (hS : va_S A s0.heap H locs) (ls : Array Slot) (hl : lv_has ls 17 [(0, .ref (ad 0)), (3, .long (a_all σ)), (5, .int (nI k)), (6, .int (nI 0)), (7, .int (nI (s_n σ k))), (8, .int (nI (a_ct σ k)))]), W pg l ev (rmY 14 3 18) s0 mi ([.ref (ad 0), .int (y), .int (b2i (odd))] : List Value).toArray below meth cd H locs (0) (0) (MQ below (va_Qi (fun (x : Int32) (w : va_W) => ∃ σ' z', (fun x σ' => x = 1 ∧ SOk σ') x σ' ∧ ZOk z' ∧ w = MW g ad gm σ' z') (iB g (MW g ad gm σ z0)) A) ([.ref (ad 0), .int (y), .int (b2i (odd))] : List Value).toArray s0 3 18 A) (F0 mi 121 ls [.int (w)]) := by
        intro w z hz H locs hP hD hS ls hl
        refine lv_istore (lv' := [(10, .int (w)), (0, .ref (ad 0)), (3, .long (a_all σ)), (5, .int (nI k)), (6, .int (nI 0)), (7, .int (nI (s_n σ k))), (8, .int (nI (a_ct σ k)))]) hx hb dL_changes_121 hl (by decide) rfl (fun ls hl => ?_)
        cases h1 : inR w 32 with
        | false =>
          refine lv_aload_n hx hb dL_changes_123 rfl (lv_at hl 1 rfl) ?_
          refine lv_iconst (v := nI (0)) hx hb dL_changes_124 (by decide) ?_
          refine lv_iload hx hb dL_changes_125 (lv_at hl 3 rfl) ?_
          refine lv_iload hx hb dL_changes_127 (lv_at hl 0 rfl) ?_
          refine lv_iconst (v := nI (0)) hx hb dL_changes_129 (by decide) ?_
          refine lv_iconst (v := nI (0)) hx hb dL_changes_130 (by decide) ?_
          refine mx_S (k := 6) hx hb hml hown hts (k_addIdea_w l hst g ad gm hG σ hσ k hk4 w h1 (nI 0) (nI 0)) gL_changes_L_call rfl (by decide +kernel) ⟨Nat.le_of_ble_eq_true rfl, Nat.le_of_ble_eq_true rfl⟩ ⟨by show _ ≤ 3; omega, by show _ ≤ 18; omega⟩ hK hNX hZ hz hP hD hS hA rfl hl.1 (rest := []) (As := [.ref (ad 0), .int (nI 0), .int (nI k), .int (w), .int (nI 0), .int (nI 0)]) rfl (Nat.le_of_ble_eq_true rfl) dL_changes_131 (fun z H locs hz hP hD hS => ?_)
          refine lv_istore (lv' := [(11, .int (-111)), (10, .int (w)), (0, .ref (ad 0)), (3, .long (a_all σ)), (5, .int (nI k)), (6, .int (nI 0)), (7, .int (nI (s_n σ k))), (8, .int (nI (a_ct σ k)))]) hx hb dL_changes_134 hl (by decide) rfl (fun ls hl => ?_)
          refine lv_iload hx hb dL_changes_136 (lv_at hl 0 rfl) ?_
          refine lv_if_ge (tgt := 198) hx hb dL_changes_138 (by decide) (fun c_140 => absurd c_140 (by decide)) (fun c_140 => ?_)
          refine lv_aload_n hx hb dL_changes_141 rfl (lv_at hl 2 rfl) ?_
          refine ml_S (k := 1) hx hb hml hown hts (c_all l g ad gm hG σ hσ) gL_changes_L_all rfl (by decide +kernel) ⟨Nat.le_of_ble_eq_true rfl, Nat.le_of_ble_eq_true rfl⟩ ⟨by show _ ≤ 3; omega, by show _ ≤ 18; omega⟩ hK hz hP hD hS hA rfl hl.1 (rest := []) (As := [.ref (ad 0)]) rfl (Nat.le_of_ble_eq_true rfl) dL_changes_142 (fun z H locs hz hP hD hS => ?_)
          refine lv_lload_n hx hb dL_changes_145 rfl (lv_at hl 3 rfl) ?_
          refine W.lcmp (x := a_all σ) (y := a_all σ) hx hb dL_changes_146 ?_
          rw [lg_self]
          refine lv_if_ne (tgt := 196) hx hb dL_changes_147 (by decide) (fun c_141 => absurd c_141 (by decide)) (fun c_141 => ?_)
          refine lv_iload hx hb dL_changes_150 (lv_at hl 0 rfl) ?_
          refine lv_iload hx hb dL_changes_152 (lv_at hl 5 rfl) ?_
          refine lv_if_ne (tgt := 169) hx hb dL_changes_154 (by decide) (fun c_142 => absurd c_142 (by decide)) (fun c_142 => ?_)
          refine lv_iload hx hb dL_changes_157 (lv_at hl 1 rfl) ?_
          refine lv_if_lt (tgt := 169) hx hb dL_changes_159 (by decide) (fun c_143 => ?_) (fun c_143 => ?_)
          · skip
            refine lv_bipush (v := -111) hx hb dL_changes_169 (by decide) ?_
            refine lv_goto (tgt := 176) hx hb dL_changes_171 (by decide) ?_
            refine lv_icmp_ne (tgt := 196) hx hb dL_changes_176 (by decide) (fun c_144 => absurd c_144 (by decide)) (fun c_144 => ?_)
            refine lv_iload hx hb dL_changes_179 (lv_at hl 0 rfl) ?_
            refine lv_bipush (v := -111) hx hb dL_changes_181 (by decide) ?_
            refine lv_icmp_eq (tgt := 192) hx hb dL_changes_183 (by decide) (fun c_145 => ?_) (fun c_145 => absurd c_145 (by decide))
            refine lv_iconst (v := nI (1)) hx hb dL_changes_192 (by decide) ?_
            refine lv_goto (tgt := 197) hx hb dL_changes_193 (by decide) ?_
            exact my_retz (v := nI (1)) hx hb hr hlocks hz hP hS (by omega) (by omega) (mc := 3) (ms := 18) ⟨rfl, hσ⟩ (by first | exact b2i_nar _ | rfl) dL_changes_197
          · skip
            refine lv_iload hx hb dL_changes_162 (lv_at hl 1 rfl) ?_
            refine lv_bipush (v := nI (31)) hx hb dL_changes_164 (by decide) ?_
            refine lv_icmp_le (tgt := 174) hx hb dL_changes_166 (by decide) (fun c_146 => by exfalso; exact absurd (inX_l (n := 31) (by decide) c_143 c_146) (by rw [h1]; decide)) (fun c_146 => ?_)
            refine lv_bipush (v := -111) hx hb dL_changes_169 (by decide) ?_
            refine lv_goto (tgt := 176) hx hb dL_changes_171 (by decide) ?_
            refine lv_icmp_ne (tgt := 196) hx hb dL_changes_176 (by decide) (fun c_147 => absurd c_147 (by decide)) (fun c_147 => ?_)
            refine lv_iload hx hb dL_changes_179 (lv_at hl 0 rfl) ?_
            refine lv_bipush (v := -111) hx hb dL_changes_181 (by decide) ?_
            refine lv_icmp_eq (tgt := 192) hx hb dL_changes_183 (by decide) (fun c_148 => ?_) (fun c_148 => absurd c_148 (by decide))
            refine lv_iconst (v := nI (1)) hx hb dL_changes_192 (by decide) ?_
            refine lv_goto (tgt := 197) hx hb dL_changes_193 (by decide) ?_
            exact my_retz (v := nI (1)) hx hb hr hlocks hz hP hS (by omega) (by omega) (mc := 3) (ms := 18) ⟨rfl, hσ⟩ (by first | exact b2i_nar _ | rfl) dL_changes_197
        | true =>
          obtain ⟨w1, hw1, rfl⟩ := inR_ex (by decide) h1
          by_cases hfl : s_n σ k = 5
          · skip
            refine lv_aload_n hx hb dL_changes_123 rfl (lv_at hl 1 rfl) ?_
            refine lv_iconst (v := nI (0)) hx hb dL_changes_124 (by decide) ?_
            refine lv_iload hx hb dL_changes_125 (lv_at hl 3 rfl) ?_
            refine lv_iload hx hb dL_changes_127 (lv_at hl 0 rfl) ?_
            refine lv_iconst (v := nI (0)) hx hb dL_changes_129 (by decide) ?_
            refine lv_iconst (v := nI (0)) hx hb dL_changes_130 (by decide) ?_
            refine mx_S (k := 6) hx hb hml hown hts (k_addIdea_full l hst g ad gm hG σ hσ k hk4 w1 hw1 hfl (nI 0) (nI 0)) gL_changes_L_call rfl (by decide +kernel) ⟨Nat.le_of_ble_eq_true rfl, Nat.le_of_ble_eq_true rfl⟩ ⟨by show _ ≤ 3; omega, by show _ ≤ 18; omega⟩ hK hNX hZ hz hP hD hS hA rfl hl.1 (rest := []) (As := [.ref (ad 0), .int (nI 0), .int (nI k), .int (nI w1), .int (nI 0), .int (nI 0)]) rfl (Nat.le_of_ble_eq_true rfl) dL_changes_131 (fun z H locs hz hP hD hS => ?_)
            refine lv_istore (lv' := [(11, .int (-113)), (10, .int (nI w1)), (0, .ref (ad 0)), (3, .long (a_all σ)), (5, .int (nI k)), (6, .int (nI 0)), (7, .int (nI (s_n σ k))), (8, .int (nI (a_ct σ k)))]) hx hb dL_changes_134 hl (by decide) rfl (fun ls hl => ?_)
            refine lv_iload hx hb dL_changes_136 (lv_at hl 0 rfl) ?_
            refine lv_if_ge (tgt := 198) hx hb dL_changes_138 (by decide) (fun c_149 => absurd c_149 (by decide)) (fun c_149 => ?_)
            refine lv_aload_n hx hb dL_changes_141 rfl (lv_at hl 2 rfl) ?_
            refine ml_S (k := 1) hx hb hml hown hts (c_all l g ad gm hG σ hσ) gL_changes_L_all rfl (by decide +kernel) ⟨Nat.le_of_ble_eq_true rfl, Nat.le_of_ble_eq_true rfl⟩ ⟨by show _ ≤ 3; omega, by show _ ≤ 18; omega⟩ hK hz hP hD hS hA rfl hl.1 (rest := []) (As := [.ref (ad 0)]) rfl (Nat.le_of_ble_eq_true rfl) dL_changes_142 (fun z H locs hz hP hD hS => ?_)
            refine lv_lload_n hx hb dL_changes_145 rfl (lv_at hl 3 rfl) ?_
            refine W.lcmp (x := a_all σ) (y := a_all σ) hx hb dL_changes_146 ?_
            rw [lg_self]
            refine lv_if_ne (tgt := 196) hx hb dL_changes_147 (by decide) (fun c_150 => absurd c_150 (by decide)) (fun c_150 => ?_)
            refine lv_iload hx hb dL_changes_150 (lv_at hl 0 rfl) ?_
            refine lv_iload hx hb dL_changes_152 (lv_at hl 5 rfl) ?_
            refine lv_if_ne (tgt := 169) hx hb dL_changes_154 (by decide) (fun c_151 => absurd c_151 (by decide)) (fun c_151 => ?_)
            refine lv_iload hx hb dL_changes_157 (lv_at hl 1 rfl) ?_
            refine nv_if_lt (tgt := 169) hx hb (by omega) dL_changes_159 (by decide) (fun c_152 => by exfalso; exact c_152) (fun c_152 => ?_)
            refine lv_iload hx hb dL_changes_162 (lv_at hl 1 rfl) ?_
            refine lv_bipush (v := nI (31)) hx hb dL_changes_164 (by decide) ?_
            refine nv_icmp_le (tgt := 174) hx hb (by omega) (by omega) dL_changes_166 (by decide) (fun c_153 => ?_) (fun c_153 => by exfalso; omega)
            refine lv_bipush (v := -113) hx hb dL_changes_174 (by decide) ?_
            refine lv_icmp_ne (tgt := 196) hx hb dL_changes_176 (by decide) (fun c_154 => absurd c_154 (by decide)) (fun c_154 => ?_)
            refine lv_iload hx hb dL_changes_179 (lv_at hl 0 rfl) ?_
            refine lv_bipush (v := -111) hx hb dL_changes_181 (by decide) ?_
            refine lv_icmp_eq (tgt := 192) hx hb dL_changes_183 (by decide) (fun c_155 => absurd c_155 (by decide)) (fun c_155 => ?_)
            refine lv_iload hx hb dL_changes_186 (lv_at hl 6 rfl) ?_
            refine lv_iconst (v := nI (5)) hx hb dL_changes_188 (by decide) ?_
            refine nv_icmp_ne (tgt := 196) hx hb (by omega) (by omega) dL_changes_189 (by decide) (fun c_156 => by exfalso; exact c_156 hfl) (fun c_156 => ?_)
            refine lv_iconst (v := nI (1)) hx hb dL_changes_192 (by decide) ?_
            refine lv_goto (tgt := 197) hx hb dL_changes_193 (by decide) ?_
            exact my_retz (v := nI (1)) hx hb hr hlocks hz hP hS (by omega) (by omega) (mc := 3) (ms := 18) ⟨rfl, hσ⟩ (by first | exact b2i_nar _ | rfl) dL_changes_197
          · skip
            have hlt : s_n σ k < 5 := by omega
            have hσ2 : SOk (u_add σ k w1) := u_add_ok hσ hlt hw1
            have hn2 := u_add_n σ k w1
            have hc2 := a_ct_le (u_add σ k w1) k
            refine lv_aload_n hx hb dL_changes_123 rfl (lv_at hl 1 rfl) ?_
            refine lv_iconst (v := nI (0)) hx hb dL_changes_124 (by decide) ?_
            refine lv_iload hx hb dL_changes_125 (lv_at hl 3 rfl) ?_
            refine lv_iload hx hb dL_changes_127 (lv_at hl 0 rfl) ?_
            refine lv_iconst (v := nI (0)) hx hb dL_changes_129 (by decide) ?_
            refine lv_iconst (v := nI (0)) hx hb dL_changes_130 (by decide) ?_
            refine mx_S (k := 6) hx hb hml hown hts (k_addIdea l g ad gm hG σ hσ k hk4 w1 hlt hw1 (nI 0) (nI 0)) gL_changes_L_call rfl (by decide +kernel) ⟨Nat.le_of_ble_eq_true rfl, Nat.le_of_ble_eq_true rfl⟩ ⟨by show _ ≤ 3; omega, by show _ ≤ 18; omega⟩ hK hNX hZ hz hP hD hS hA rfl hl.1 (rest := []) (As := [.ref (ad 0), .int (nI 0), .int (nI k), .int (nI w1), .int (nI 0), .int (nI 0)]) rfl (Nat.le_of_ble_eq_true rfl) dL_changes_131 (fun z H locs hz hP hD hS => ?_)
            refine lv_istore (lv' := [(11, .int (nI (s_n σ k))), (10, .int (nI w1)), (0, .ref (ad 0)), (3, .long (a_all σ)), (5, .int (nI k)), (6, .int (nI 0)), (7, .int (nI (s_n σ k))), (8, .int (nI (a_ct σ k)))]) hx hb dL_changes_134 hl (by decide) rfl (fun ls hl => ?_)
            refine lv_iload hx hb dL_changes_136 (lv_at hl 0 rfl) ?_
            refine nv_if_ge (tgt := 198) hx hb (by omega) dL_changes_138 (by decide) (fun c_157 => ?_) (fun c_157 => by exfalso; exact c_157)
            refine lv_iload hx hb dL_changes_198 (lv_at hl 0 rfl) ?_
            refine lv_iload hx hb dL_changes_200 (lv_at hl 6 rfl) ?_
            refine nv_icmp_ne (tgt := 271) hx hb (by omega) (by omega) dL_changes_202 (by decide) (fun c_158 => by exfalso; exact c_158 rfl) (fun c_158 => ?_)
            refine lv_aload_n hx hb dL_changes_205 rfl (lv_at hl 2 rfl) ?_
            refine lv_iload hx hb dL_changes_206 (lv_at hl 4 rfl) ?_
            refine mc_V (k := 1) hx hb hml hown hts (mc_ideas l g ad gm hG (u_add σ k w1) hσ2 k (by omega)) gL_changes_X6_ideas rfl (by decide +kernel) ⟨Nat.le_of_ble_eq_true rfl, Nat.le_of_ble_eq_true rfl⟩ ⟨by show _ ≤ 3; omega, by show _ ≤ 18; omega⟩ hK hz hP hD hS hA rfl hl.1 (rest := []) (As := [.int (nI k)]) rfl (Nat.le_of_ble_eq_true rfl) dL_changes_208 (fun z H locs hz hP hD hS => ?_)
            refine lv_iload hx hb dL_changes_211 (lv_at hl 6 rfl) ?_
            refine lv_iconst (v := nI (1)) hx hb dL_changes_213 (by decide) ?_
            refine nv_iadd hx hb dL_changes_214 ?_
            refine nv_icmp_ne (tgt := 271) hx hb (by omega) (by omega) dL_changes_215 (by decide) (fun c_159 => by exfalso; exact c_159 hn2) (fun c_159 => ?_)
            refine lv_aload_n hx hb dL_changes_218 rfl (lv_at hl 2 rfl) ?_
            refine lv_iload hx hb dL_changes_219 (lv_at hl 4 rfl) ?_
            refine mc_V (k := 1) hx hb hml hown hts (mc_links l g ad gm hG (u_add σ k w1) hσ2 k (by omega)) gL_changes_X6_links rfl (by decide +kernel) ⟨Nat.le_of_ble_eq_true rfl, Nat.le_of_ble_eq_true rfl⟩ ⟨by show _ ≤ 3; omega, by show _ ≤ 18; omega⟩ hK hz hP hD hS hA rfl hl.1 (rest := []) (As := [.int (nI k)]) rfl (Nat.le_of_ble_eq_true rfl) dL_changes_221 (fun z H locs hz hP hD hS => ?_)
            refine lv_iload hx hb dL_changes_224 (lv_at hl 7 rfl) ?_
            refine nv_icmp_ne (tgt := 271) hx hb (by omega) (by omega) dL_changes_226 (by decide) (fun c_160 => by exfalso; exact c_160 rfl) (fun c_160 => ?_)
            refine lv_aload_n hx hb dL_changes_229 rfl (lv_at hl 2 rfl) ?_
            refine lv_bipush (v := nI (8)) hx hb dL_changes_230 (by decide) ?_
            refine lv_iload hx hb dL_changes_232 (lv_at hl 4 rfl) ?_
            refine lv_iload hx hb dL_changes_234 (lv_at hl 0 rfl) ?_
            refine lv_iload hx hb dL_changes_236 (lv_at hl 0 rfl) ?_
            refine lv_iconst (v := nI (0)) hx hb dL_changes_238 (by decide) ?_
            refine mx_S (k := 6) hx hb hml hown hts (k_holds_2 l hst g ad gm hG (u_add σ k w1) hσ2 k hk4 (nI (s_n σ k)) (nI (s_n σ k)) (nI 0) (lkB2_eq (by omega) (by omega))) gL_changes_L_call rfl (by decide +kernel) ⟨Nat.le_of_ble_eq_true rfl, Nat.le_of_ble_eq_true rfl⟩ ⟨by show _ ≤ 3; omega, by show _ ≤ 18; omega⟩ hK hNX hZ hz hP hD hS hA rfl hl.1 (rest := []) (As := [.ref (ad 0), .int (nI 8), .int (nI k), .int (nI (s_n σ k)), .int (nI (s_n σ k)), .int (nI 0)]) rfl (Nat.le_of_ble_eq_true rfl) dL_changes_239 (fun z H locs hz hP hD hS => ?_)
            refine lv_bipush (v := -112) hx hb dL_changes_242 (by decide) ?_
            refine lv_icmp_ne (tgt := 271) hx hb dL_changes_244 (by decide) (fun c_161 => absurd c_161 (by decide)) (fun c_161 => ?_)
            refine lv_aload_n hx hb dL_changes_247 rfl (lv_at hl 2 rfl) ?_
            refine lv_bipush (v := nI (8)) hx hb dL_changes_248 (by decide) ?_
            refine lv_iload hx hb dL_changes_250 (lv_at hl 4 rfl) ?_
            refine lv_iload hx hb dL_changes_252 (lv_at hl 0 rfl) ?_
            refine lv_iload hx hb dL_changes_254 (lv_at hl 0 rfl) ?_
            refine lv_iconst (v := nI (1)) hx hb dL_changes_256 (by decide) ?_
            refine nv_iadd hx hb dL_changes_257 ?_
            refine lv_iconst (v := nI (0)) hx hb dL_changes_258 (by decide) ?_
            refine mx_S (k := 6) hx hb hml hown hts (k_holds_1 l hst g ad gm hG (u_add σ k w1) hσ2 k hk4 (nI (s_n σ k)) (nI (s_n σ k + 1)) (nI 0) (lkB2_up (by omega) hn2)) gL_changes_L_call rfl (by decide +kernel) ⟨Nat.le_of_ble_eq_true rfl, Nat.le_of_ble_eq_true rfl⟩ ⟨by show _ ≤ 3; omega, by show _ ≤ 18; omega⟩ hK hNX hZ hz hP hD hS hA rfl hl.1 (rest := []) (As := [.ref (ad 0), .int (nI 8), .int (nI k), .int (nI (s_n σ k)), .int (nI ((s_n σ k) + 1)), .int (nI 0)]) rfl (Nat.le_of_ble_eq_true rfl) dL_changes_259 (fun z H locs hz hP hD hS => ?_)
            refine lv_bipush (v := -111) hx hb dL_changes_262 (by decide) ?_
            refine lv_icmp_ne (tgt := 271) hx hb dL_changes_264 (by decide) (fun c_162 => absurd c_162 (by decide)) (fun c_162 => ?_)
            refine lv_iconst (v := nI (1)) hx hb dL_changes_267 (by decide) ?_
            refine lv_goto (tgt := 272) hx hb dL_changes_268 (by decide) ?_
            exact my_retz (v := nI (1)) hx hb hr hlocks hz hP hS (by omega) (by omega) (mc := 3) (ms := 18) ⟨rfl, hσ2⟩ (by first | exact b2i_nar _ | rfl) dL_changes_272
      have j396 : ∀ (a b d : Int32) (z : Scr) (hz : ZOk z) (H : Heap) (locs : List Loc) (hP : va_P g.1 vwCl (MW g ad gm σ z) H) (hD : va_D A (MW g ad gm σ z)) (hS : va_S A s0.heap H locs) (ls : Array Slot) (hl : lv_has ls 17 [(0, .ref (ad 0)), (3, .long (a_all σ)), (5, .int (nI k)), (6, .int (nI 0)), (7, .int (nI (s_n σ k))), (8, .int (nI (a_ct σ k))), (10, .int (a)), (11, .int (b))]), W pg l ev (rmY 14 3 18) s0 mi ([.ref (ad 0), .int (y), .int (b2i (odd))] : List Value).toArray below meth cd H locs (0) (0) (MQ below (va_Qi (fun (x : Int32) (w : va_W) => ∃ σ' z', (fun x σ' => x = 1 ∧ SOk σ') x σ' ∧ ZOk z' ∧ w = MW g ad gm σ' z') (iB g (MW g ad gm σ z0)) A) ([.ref (ad 0), .int (y), .int (b2i (odd))] : List Value).toArray s0 3 18 A) (F0 mi 396 ls [.int (d)]) := by
        intro a b d z hz H locs hP hD hS ls hl
        refine lv_istore (lv' := [(12, .int (d)), (0, .ref (ad 0)), (3, .long (a_all σ)), (5, .int (nI k)), (6, .int (nI 0)), (7, .int (nI (s_n σ k))), (8, .int (nI (a_ct σ k))), (10, .int (a)), (11, .int (b))]) hx hb dL_changes_396 hl (by decide) rfl (fun ls hl => ?_)
        rcases lkB2_012 (s_n σ k) a b d with hq9 | hq9 | hq9
        · skip
          obtain ⟨f, t, d1, hf, rfl, ht, rfl, hft, hd4, rfl⟩ := lkB2_ok hn5 hq9
          have hσ2 : SOk (u_lnk σ k f t d1) := u_lnk_ok hσ hf ht hft hd4
          have hc2 := a_ct_le (u_lnk σ k f t d1) k
          cases hb1 : (s_m σ k (f * 5 + t)).testBit d1 with
          | false =>
            refine lv_iload hx hb dL_changes_398 (lv_at hl 4 rfl) ?_
            refine lv_if_ne (tgt := 427) hx hb dL_changes_400 (by decide) (fun c_163 => absurd c_163 (by decide)) (fun c_163 => ?_)
            refine lv_iload hx hb dL_changes_403 (lv_at hl 7 rfl) ?_
            refine nv_if_lt (tgt := 427) hx hb (by omega) dL_changes_405 (by decide) (fun c_164 => by exfalso; exact c_164) (fun c_164 => ?_)
            refine lv_iload hx hb dL_changes_408 (lv_at hl 7 rfl) ?_
            refine lv_iload hx hb dL_changes_410 (lv_at hl 5 rfl) ?_
            refine nv_icmp_ge (tgt := 427) hx hb (by omega) (by omega) dL_changes_412 (by decide) (fun c_165 => by exfalso; omega) (fun c_165 => ?_)
            refine lv_iload hx hb dL_changes_415 (lv_at hl 8 rfl) ?_
            refine nv_if_lt (tgt := 427) hx hb (by omega) dL_changes_417 (by decide) (fun c_166 => by exfalso; exact c_166) (fun c_166 => ?_)
            refine lv_iload hx hb dL_changes_420 (lv_at hl 8 rfl) ?_
            refine lv_iload hx hb dL_changes_422 (lv_at hl 5 rfl) ?_
            refine nv_icmp_lt (tgt := 431) hx hb (by omega) (by omega) dL_changes_424 (by decide) (fun c_167 => ?_) (fun c_167 => by exfalso; omega)
            refine lv_iconst (v := nI (0)) hx hb dL_changes_431 (by decide) ?_
            refine lv_istore (lv' := [(6, .int (nI 0)), (12, .int (nI d1)), (0, .ref (ad 0)), (3, .long (a_all σ)), (5, .int (nI k)), (7, .int (nI (s_n σ k))), (8, .int (nI (a_ct σ k))), (10, .int (nI f)), (11, .int (nI t))]) hx hb dL_changes_432 hl (by decide) rfl (fun ls hl => ?_)
            refine lv_aload_n hx hb dL_changes_434 rfl (lv_at hl 2 rfl) ?_
            refine lv_iconst (v := nI (1)) hx hb dL_changes_435 (by decide) ?_
            refine lv_iload hx hb dL_changes_436 (lv_at hl 4 rfl) ?_
            refine lv_iload hx hb dL_changes_438 (lv_at hl 7 rfl) ?_
            refine lv_iload hx hb dL_changes_440 (lv_at hl 8 rfl) ?_
            refine lv_iload hx hb dL_changes_442 (lv_at hl 1 rfl) ?_
            refine mx_S (k := 6) hx hb hml hown hts (k_link l g ad gm hG σ hσ k hk4 f t d1 hf ht hft hd4) gL_changes_L_call rfl (by decide +kernel) ⟨Nat.le_of_ble_eq_true rfl, Nat.le_of_ble_eq_true rfl⟩ ⟨by show _ ≤ 3; omega, by show _ ≤ 18; omega⟩ hK hNX hZ hz hP hD hS hA rfl hl.1 (rest := []) (As := [.ref (ad 0), .int (nI 1), .int (nI k), .int (nI f), .int (nI t), .int (nI d1)]) rfl (Nat.le_of_ble_eq_true rfl) dL_changes_444 (fun z H locs hz hP hD hS => ?_)
            rw [hb1, show b2i (!false) = nI 1 from by decide]
            refine lv_istore (lv' := [(13, .int (nI 1)), (6, .int (nI 0)), (12, .int (nI d1)), (0, .ref (ad 0)), (3, .long (a_all σ)), (5, .int (nI k)), (7, .int (nI (s_n σ k))), (8, .int (nI (a_ct σ k))), (10, .int (nI f)), (11, .int (nI t))]) hx hb dL_changes_447 hl (by decide) rfl (fun ls hl => ?_)
            refine lv_iload hx hb dL_changes_449 (lv_at hl 1 rfl) ?_
            refine lv_if_ne (tgt := 472) hx hb dL_changes_451 (by decide) (fun c_168 => absurd c_168 (by decide)) (fun c_168 => ?_)
            refine lv_iload hx hb dL_changes_454 (lv_at hl 8 rfl) ?_
            refine lv_iload hx hb dL_changes_456 (lv_at hl 9 rfl) ?_
            refine nv_icmp_eq (tgt := 472) hx hb (by omega) (by omega) dL_changes_458 (by decide) (fun c_169 => by exfalso; exact hft c_169) (fun c_169 => ?_)
            refine lv_iload hx hb dL_changes_461 (lv_at hl 2 rfl) ?_
            refine nv_if_lt (tgt := 472) hx hb (by omega) dL_changes_463 (by decide) (fun c_170 => by exfalso; exact c_170) (fun c_170 => ?_)
            refine lv_iload hx hb dL_changes_466 (lv_at hl 2 rfl) ?_
            refine lv_iconst (v := nI (3)) hx hb dL_changes_468 (by decide) ?_
            refine nv_icmp_le (tgt := 504) hx hb (by omega) (by omega) dL_changes_469 (by decide) (fun c_171 => ?_) (fun c_171 => by exfalso; omega)
            refine lv_aload_n hx hb dL_changes_504 rfl (lv_at hl 3 rfl) ?_
            refine lv_iload hx hb dL_changes_505 (lv_at hl 5 rfl) ?_
            refine mc_V (k := 1) hx hb hml hown hts (mc_links l g ad gm hG (u_lnk σ k f t d1) hσ2 k (by omega)) gL_changes_X6_links rfl (by decide +kernel) ⟨Nat.le_of_ble_eq_true rfl, Nat.le_of_ble_eq_true rfl⟩ ⟨by show _ ≤ 3; omega, by show _ ≤ 18; omega⟩ hK hz hP hD hS hA rfl hl.1 (rest := []) (As := [.int (nI k)]) rfl (Nat.le_of_ble_eq_true rfl) dL_changes_507 (fun z H locs hz hP hD hS => ?_)
            refine lv_iload hx hb dL_changes_510 (lv_at hl 7 rfl) ?_
            refine lv_iload hx hb dL_changes_512 (lv_at hl 0 rfl) ?_
            refine lv_iconst (v := nI (1)) hx hb dL_changes_514 (by decide) ?_
            refine lv_icmp_ne (tgt := 522) hx hb dL_changes_515 (by decide) (fun c_172 => absurd c_172 (by decide)) (fun c_172 => ?_)
            refine lv_iconst (v := nI (1)) hx hb dL_changes_518 (by decide) ?_
            refine lv_goto (tgt := 523) hx hb dL_changes_519 (by decide) ?_
            refine nv_iadd hx hb dL_changes_523 ?_
            refine nv_icmp_ne (tgt := 551) hx hb (by omega) (by omega) dL_changes_524 (by decide) (fun c_173 => by exfalso; exact c_173 (u_lnk_ct0 hσ hf ht hd4 hb1)) (fun c_173 => ?_)
            refine lv_iload hx hb dL_changes_527 (lv_at hl 0 rfl) ?_
            refine lv_if_eq (tgt := 547) hx hb dL_changes_529 (by decide) (fun c_174 => absurd c_174 (by decide)) (fun c_174 => ?_)
            refine lv_aload_n hx hb dL_changes_532 rfl (lv_at hl 3 rfl) ?_
            refine lv_iload hx hb dL_changes_533 (lv_at hl 5 rfl) ?_
            refine lv_iload hx hb dL_changes_535 (lv_at hl 8 rfl) ?_
            refine lv_iload hx hb dL_changes_537 (lv_at hl 9 rfl) ?_
            refine lv_iload hx hb dL_changes_539 (lv_at hl 2 rfl) ?_
            refine mc_V (k := 4) hx hb hml hown hts (mc_holds l g ad gm hG (u_lnk σ k f t d1) hσ2 k hk4 f t d1 hf ht hft hd4) gL_changes_X6_holds rfl (by decide +kernel) ⟨Nat.le_of_ble_eq_true rfl, Nat.le_of_ble_eq_true rfl⟩ ⟨by show _ ≤ 3; omega, by show _ ≤ 18; omega⟩ hK hz hP hD hS hA rfl hl.1 (rest := []) (As := [.int (nI k), .int (nI f), .int (nI t), .int (nI d1)]) rfl (Nat.le_of_ble_eq_true rfl) dL_changes_541 (fun z H locs hz hP hD hS => ?_)
            rw [show ((clo (s_c (u_lnk σ k f t d1)) (s_m (u_lnk σ k f t d1) k) (f * 5 + t)).testBit d1) = true from holds_own (by omega) (by omega) hd4 (by simp [u_lnk_tb, hb1]), show b2i true = nI 1 from by decide]
            refine lv_if_eq (tgt := 551) hx hb dL_changes_544 (by decide) (fun c_175 => absurd c_175 (by decide)) (fun c_175 => ?_)
            refine lv_iconst (v := nI (1)) hx hb dL_changes_547 (by decide) ?_
            refine lv_goto (tgt := 552) hx hb dL_changes_548 (by decide) ?_
            refine lv_istore (lv' := [(14, .int (nI 1)), (13, .int (nI 1)), (6, .int (nI 0)), (12, .int (nI d1)), (0, .ref (ad 0)), (3, .long (a_all σ)), (5, .int (nI k)), (7, .int (nI (s_n σ k))), (8, .int (nI (a_ct σ k))), (10, .int (nI f)), (11, .int (nI t))]) hx hb dL_changes_552 hl (by decide) rfl (fun ls hl => ?_)
            refine lv_aload_n hx hb dL_changes_554 rfl (lv_at hl 4 rfl) ?_
            refine ml_S (k := 1) hx hb hml hown hts (c_all l g ad gm hG (u_lnk σ k f t d1) hσ2) gL_changes_L_all rfl (by decide +kernel) ⟨Nat.le_of_ble_eq_true rfl, Nat.le_of_ble_eq_true rfl⟩ ⟨by show _ ≤ 3; omega, by show _ ≤ 18; omega⟩ hK hz hP hD hS hA rfl hl.1 (rest := []) (As := [.ref (ad 0)]) rfl (Nat.le_of_ble_eq_true rfl) dL_changes_555 (fun z H locs hz hP hD hS => ?_)
            refine lv_lstore (lv' := [(15, .long (a_all (u_lnk σ k f t d1))), (14, .int (nI 1)), (13, .int (nI 1)), (6, .int (nI 0)), (12, .int (nI d1)), (0, .ref (ad 0)), (3, .long (a_all σ)), (5, .int (nI k)), (7, .int (nI (s_n σ k))), (8, .int (nI (a_ct σ k))), (10, .int (nI f)), (11, .int (nI t))]) hx hb dL_changes_558 hl (by decide) rfl (fun ls hl => ?_)
            refine lv_iload hx hb dL_changes_560 (lv_at hl 1 rfl) ?_
            refine lv_if_eq (tgt := 616) hx hb dL_changes_562 (by decide) (fun c_176 => absurd c_176 (by decide)) (fun c_176 => ?_)
            refine lv_aload_n hx hb dL_changes_565 rfl (lv_at hl 5 rfl) ?_
            refine lv_iconst (v := nI (1)) hx hb dL_changes_566 (by decide) ?_
            refine lv_iload hx hb dL_changes_567 (lv_at hl 7 rfl) ?_
            refine lv_iload hx hb dL_changes_569 (lv_at hl 10 rfl) ?_
            refine lv_iload hx hb dL_changes_571 (lv_at hl 11 rfl) ?_
            refine lv_iload hx hb dL_changes_573 (lv_at hl 4 rfl) ?_
            refine mx_S (k := 6) hx hb hml hown hts (k_link l g ad gm hG (u_lnk σ k f t d1) hσ2 k hk4 f t d1 hf ht hft hd4) gL_changes_L_call rfl (by decide +kernel) ⟨Nat.le_of_ble_eq_true rfl, Nat.le_of_ble_eq_true rfl⟩ ⟨by show _ ≤ 3; omega, by show _ ≤ 18; omega⟩ hK hNX hZ hz hP hD hS hA rfl hl.1 (rest := []) (As := [.ref (ad 0), .int (nI 1), .int (nI k), .int (nI f), .int (nI t), .int (nI d1)]) rfl (Nat.le_of_ble_eq_true rfl) dL_changes_575 (fun z H locs hz hP hD hS => ?_)
            rw [u_lnk_tb, hb1, show b2i (!(!false)) = nI 0 from by decide]
            rw [u_lnk_2] at hP hD
            refine lv_iconst (v := nI (1)) hx hb dL_changes_578 (by decide) ?_
            refine lv_iload hx hb dL_changes_579 (lv_at hl 2 rfl) ?_
            refine nv_isub hx hb (by omega) dL_changes_581 ?_
            refine lv_icmp_ne (tgt := 616) hx hb dL_changes_582 (by decide) (fun c_177 => absurd c_177 (by decide)) (fun c_177 => ?_)
            refine lv_aload_n hx hb dL_changes_585 rfl (lv_at hl 5 rfl) ?_
            refine ml_S (k := 1) hx hb hml hown hts (c_all l g ad gm hG σ hσ) gL_changes_L_all rfl (by decide +kernel) ⟨Nat.le_of_ble_eq_true rfl, Nat.le_of_ble_eq_true rfl⟩ ⟨by show _ ≤ 3; omega, by show _ ≤ 18; omega⟩ hK hz hP hD hS hA rfl hl.1 (rest := []) (As := [.ref (ad 0)]) rfl (Nat.le_of_ble_eq_true rfl) dL_changes_586 (fun z H locs hz hP hD hS => ?_)
            refine lv_lload_n hx hb dL_changes_589 rfl (lv_at hl 6 rfl) ?_
            refine W.lcmp (x := a_all σ) (y := a_all σ) hx hb dL_changes_590 ?_
            rw [lg_self]
            refine lv_if_ne (tgt := 616) hx hb dL_changes_591 (by decide) (fun c_178 => absurd c_178 (by decide)) (fun c_178 => ?_)
            refine lv_aload_n hx hb dL_changes_594 rfl (lv_at hl 5 rfl) ?_
            refine lv_iconst (v := nI (1)) hx hb dL_changes_595 (by decide) ?_
            refine lv_iload hx hb dL_changes_596 (lv_at hl 7 rfl) ?_
            refine lv_iload hx hb dL_changes_598 (lv_at hl 10 rfl) ?_
            refine lv_iload hx hb dL_changes_600 (lv_at hl 11 rfl) ?_
            refine lv_iload hx hb dL_changes_602 (lv_at hl 4 rfl) ?_
            refine mx_S (k := 6) hx hb hml hown hts (k_link l g ad gm hG σ hσ k hk4 f t d1 hf ht hft hd4) gL_changes_L_call rfl (by decide +kernel) ⟨Nat.le_of_ble_eq_true rfl, Nat.le_of_ble_eq_true rfl⟩ ⟨by show _ ≤ 3; omega, by show _ ≤ 18; omega⟩ hK hNX hZ hz hP hD hS hA rfl hl.1 (rest := []) (As := [.ref (ad 0), .int (nI 1), .int (nI k), .int (nI f), .int (nI t), .int (nI d1)]) rfl (Nat.le_of_ble_eq_true rfl) dL_changes_604 (fun z H locs hz hP hD hS => ?_)
            rw [hb1, show b2i (!false) = nI 1 from by decide]
            refine lv_iload hx hb dL_changes_607 (lv_at hl 2 rfl) ?_
            refine lv_icmp_ne (tgt := 616) hx hb dL_changes_609 (by decide) (fun c_179 => absurd c_179 (by decide)) (fun c_179 => ?_)
            refine lv_iconst (v := nI (1)) hx hb dL_changes_612 (by decide) ?_
            refine lv_goto (tgt := 617) hx hb dL_changes_613 (by decide) ?_
            refine lv_istore (lv' := [(14, .int (nI 1)), (15, .long (a_all (u_lnk σ k f t d1))), (13, .int (nI 1)), (6, .int (nI 0)), (12, .int (nI d1)), (0, .ref (ad 0)), (3, .long (a_all σ)), (5, .int (nI k)), (7, .int (nI (s_n σ k))), (8, .int (nI (a_ct σ k))), (10, .int (nI f)), (11, .int (nI t))]) hx hb dL_changes_617 hl (by decide) rfl (fun ls hl => ?_)
            refine lv_iload hx hb dL_changes_619 (lv_at hl 0 rfl) ?_
            refine lv_if_eq (tgt := 638) hx hb dL_changes_621 (by decide) (fun c_180 => absurd c_180 (by decide)) (fun c_180 => ?_)
            refine lv_aload_n hx hb dL_changes_624 rfl (lv_at hl 5 rfl) ?_
            refine ml_S (k := 1) hx hb hml hown hts (c_all l g ad gm hG (u_lnk σ k f t d1) hσ2) gL_changes_L_all rfl (by decide +kernel) ⟨Nat.le_of_ble_eq_true rfl, Nat.le_of_ble_eq_true rfl⟩ ⟨by show _ ≤ 3; omega, by show _ ≤ 18; omega⟩ hK hz hP hD hS hA rfl hl.1 (rest := []) (As := [.ref (ad 0)]) rfl (Nat.le_of_ble_eq_true rfl) dL_changes_625 (fun z H locs hz hP hD hS => ?_)
            refine lv_lload hx hb dL_changes_628 (lv_at hl 1 rfl) ?_
            refine W.lcmp (x := a_all (u_lnk σ k f t d1)) (y := a_all (u_lnk σ k f t d1)) hx hb dL_changes_630 ?_
            rw [lg_self]
            refine lv_if_ne (tgt := 638) hx hb dL_changes_631 (by decide) (fun c_181 => absurd c_181 (by decide)) (fun c_181 => ?_)
            refine lv_iconst (v := nI (1)) hx hb dL_changes_634 (by decide) ?_
            refine lv_goto (tgt := 639) hx hb dL_changes_635 (by decide) ?_
            exact my_retz (v := nI (1)) hx hb hr hlocks hz hP hS (by omega) (by omega) (mc := 3) (ms := 18) ⟨rfl, hσ2⟩ (by first | exact b2i_nar _ | rfl) dL_changes_639
          | true =>
            refine lv_iload hx hb dL_changes_398 (lv_at hl 4 rfl) ?_
            refine lv_if_ne (tgt := 427) hx hb dL_changes_400 (by decide) (fun c_182 => absurd c_182 (by decide)) (fun c_182 => ?_)
            refine lv_iload hx hb dL_changes_403 (lv_at hl 7 rfl) ?_
            refine nv_if_lt (tgt := 427) hx hb (by omega) dL_changes_405 (by decide) (fun c_183 => by exfalso; exact c_183) (fun c_183 => ?_)
            refine lv_iload hx hb dL_changes_408 (lv_at hl 7 rfl) ?_
            refine lv_iload hx hb dL_changes_410 (lv_at hl 5 rfl) ?_
            refine nv_icmp_ge (tgt := 427) hx hb (by omega) (by omega) dL_changes_412 (by decide) (fun c_184 => by exfalso; omega) (fun c_184 => ?_)
            refine lv_iload hx hb dL_changes_415 (lv_at hl 8 rfl) ?_
            refine nv_if_lt (tgt := 427) hx hb (by omega) dL_changes_417 (by decide) (fun c_185 => by exfalso; exact c_185) (fun c_185 => ?_)
            refine lv_iload hx hb dL_changes_420 (lv_at hl 8 rfl) ?_
            refine lv_iload hx hb dL_changes_422 (lv_at hl 5 rfl) ?_
            refine nv_icmp_lt (tgt := 431) hx hb (by omega) (by omega) dL_changes_424 (by decide) (fun c_186 => ?_) (fun c_186 => by exfalso; omega)
            refine lv_iconst (v := nI (0)) hx hb dL_changes_431 (by decide) ?_
            refine lv_istore (lv' := [(6, .int (nI 0)), (12, .int (nI d1)), (0, .ref (ad 0)), (3, .long (a_all σ)), (5, .int (nI k)), (7, .int (nI (s_n σ k))), (8, .int (nI (a_ct σ k))), (10, .int (nI f)), (11, .int (nI t))]) hx hb dL_changes_432 hl (by decide) rfl (fun ls hl => ?_)
            refine lv_aload_n hx hb dL_changes_434 rfl (lv_at hl 2 rfl) ?_
            refine lv_iconst (v := nI (1)) hx hb dL_changes_435 (by decide) ?_
            refine lv_iload hx hb dL_changes_436 (lv_at hl 4 rfl) ?_
            refine lv_iload hx hb dL_changes_438 (lv_at hl 7 rfl) ?_
            refine lv_iload hx hb dL_changes_440 (lv_at hl 8 rfl) ?_
            refine lv_iload hx hb dL_changes_442 (lv_at hl 1 rfl) ?_
            refine mx_S (k := 6) hx hb hml hown hts (k_link l g ad gm hG σ hσ k hk4 f t d1 hf ht hft hd4) gL_changes_L_call rfl (by decide +kernel) ⟨Nat.le_of_ble_eq_true rfl, Nat.le_of_ble_eq_true rfl⟩ ⟨by show _ ≤ 3; omega, by show _ ≤ 18; omega⟩ hK hNX hZ hz hP hD hS hA rfl hl.1 (rest := []) (As := [.ref (ad 0), .int (nI 1), .int (nI k), .int (nI f), .int (nI t), .int (nI d1)]) rfl (Nat.le_of_ble_eq_true rfl) dL_changes_444 (fun z H locs hz hP hD hS => ?_)
            rw [hb1, show b2i (!true) = nI 0 from by decide]
            refine lv_istore (lv' := [(13, .int (nI 0)), (6, .int (nI 0)), (12, .int (nI d1)), (0, .ref (ad 0)), (3, .long (a_all σ)), (5, .int (nI k)), (7, .int (nI (s_n σ k))), (8, .int (nI (a_ct σ k))), (10, .int (nI f)), (11, .int (nI t))]) hx hb dL_changes_447 hl (by decide) rfl (fun ls hl => ?_)
            refine lv_iload hx hb dL_changes_449 (lv_at hl 1 rfl) ?_
            refine lv_if_ne (tgt := 472) hx hb dL_changes_451 (by decide) (fun c_187 => absurd c_187 (by decide)) (fun c_187 => ?_)
            refine lv_iload hx hb dL_changes_454 (lv_at hl 8 rfl) ?_
            refine lv_iload hx hb dL_changes_456 (lv_at hl 9 rfl) ?_
            refine nv_icmp_eq (tgt := 472) hx hb (by omega) (by omega) dL_changes_458 (by decide) (fun c_188 => by exfalso; exact hft c_188) (fun c_188 => ?_)
            refine lv_iload hx hb dL_changes_461 (lv_at hl 2 rfl) ?_
            refine nv_if_lt (tgt := 472) hx hb (by omega) dL_changes_463 (by decide) (fun c_189 => by exfalso; exact c_189) (fun c_189 => ?_)
            refine lv_iload hx hb dL_changes_466 (lv_at hl 2 rfl) ?_
            refine lv_iconst (v := nI (3)) hx hb dL_changes_468 (by decide) ?_
            refine nv_icmp_le (tgt := 504) hx hb (by omega) (by omega) dL_changes_469 (by decide) (fun c_190 => ?_) (fun c_190 => by exfalso; omega)
            refine lv_aload_n hx hb dL_changes_504 rfl (lv_at hl 3 rfl) ?_
            refine lv_iload hx hb dL_changes_505 (lv_at hl 5 rfl) ?_
            refine mc_V (k := 1) hx hb hml hown hts (mc_links l g ad gm hG (u_lnk σ k f t d1) hσ2 k (by omega)) gL_changes_X6_links rfl (by decide +kernel) ⟨Nat.le_of_ble_eq_true rfl, Nat.le_of_ble_eq_true rfl⟩ ⟨by show _ ≤ 3; omega, by show _ ≤ 18; omega⟩ hK hz hP hD hS hA rfl hl.1 (rest := []) (As := [.int (nI k)]) rfl (Nat.le_of_ble_eq_true rfl) dL_changes_507 (fun z H locs hz hP hD hS => ?_)
            refine lv_iload hx hb dL_changes_510 (lv_at hl 7 rfl) ?_
            refine lv_iload hx hb dL_changes_512 (lv_at hl 0 rfl) ?_
            refine lv_iconst (v := nI (1)) hx hb dL_changes_514 (by decide) ?_
            refine lv_icmp_ne (tgt := 522) hx hb dL_changes_515 (by decide) (fun c_191 => ?_) (fun c_191 => absurd c_191 (by decide))
            refine lv_iconst (v := -1) hx hb dL_changes_522 (by decide) ?_
            refine lv_iadd hx hb dL_changes_523 ?_
            refine lv_icmp_ne (tgt := 551) hx hb dL_changes_524 (by decide) (fun c_192 => by exfalso; exact c_192 (by rw [← u_lnk_ct1 hσ hf ht hd4 hb1]; exact nI_dn _)) (fun c_192 => ?_)
            refine lv_iload hx hb dL_changes_527 (lv_at hl 0 rfl) ?_
            refine lv_if_eq (tgt := 547) hx hb dL_changes_529 (by decide) (fun c_193 => ?_) (fun c_193 => absurd c_193 (by decide))
            refine lv_iconst (v := nI (1)) hx hb dL_changes_547 (by decide) ?_
            refine lv_goto (tgt := 552) hx hb dL_changes_548 (by decide) ?_
            refine lv_istore (lv' := [(14, .int (nI 1)), (13, .int (nI 0)), (6, .int (nI 0)), (12, .int (nI d1)), (0, .ref (ad 0)), (3, .long (a_all σ)), (5, .int (nI k)), (7, .int (nI (s_n σ k))), (8, .int (nI (a_ct σ k))), (10, .int (nI f)), (11, .int (nI t))]) hx hb dL_changes_552 hl (by decide) rfl (fun ls hl => ?_)
            refine lv_aload_n hx hb dL_changes_554 rfl (lv_at hl 4 rfl) ?_
            refine ml_S (k := 1) hx hb hml hown hts (c_all l g ad gm hG (u_lnk σ k f t d1) hσ2) gL_changes_L_all rfl (by decide +kernel) ⟨Nat.le_of_ble_eq_true rfl, Nat.le_of_ble_eq_true rfl⟩ ⟨by show _ ≤ 3; omega, by show _ ≤ 18; omega⟩ hK hz hP hD hS hA rfl hl.1 (rest := []) (As := [.ref (ad 0)]) rfl (Nat.le_of_ble_eq_true rfl) dL_changes_555 (fun z H locs hz hP hD hS => ?_)
            refine lv_lstore (lv' := [(15, .long (a_all (u_lnk σ k f t d1))), (14, .int (nI 1)), (13, .int (nI 0)), (6, .int (nI 0)), (12, .int (nI d1)), (0, .ref (ad 0)), (3, .long (a_all σ)), (5, .int (nI k)), (7, .int (nI (s_n σ k))), (8, .int (nI (a_ct σ k))), (10, .int (nI f)), (11, .int (nI t))]) hx hb dL_changes_558 hl (by decide) rfl (fun ls hl => ?_)
            refine lv_iload hx hb dL_changes_560 (lv_at hl 1 rfl) ?_
            refine lv_if_eq (tgt := 616) hx hb dL_changes_562 (by decide) (fun c_194 => absurd c_194 (by decide)) (fun c_194 => ?_)
            refine lv_aload_n hx hb dL_changes_565 rfl (lv_at hl 5 rfl) ?_
            refine lv_iconst (v := nI (1)) hx hb dL_changes_566 (by decide) ?_
            refine lv_iload hx hb dL_changes_567 (lv_at hl 7 rfl) ?_
            refine lv_iload hx hb dL_changes_569 (lv_at hl 10 rfl) ?_
            refine lv_iload hx hb dL_changes_571 (lv_at hl 11 rfl) ?_
            refine lv_iload hx hb dL_changes_573 (lv_at hl 4 rfl) ?_
            refine mx_S (k := 6) hx hb hml hown hts (k_link l g ad gm hG (u_lnk σ k f t d1) hσ2 k hk4 f t d1 hf ht hft hd4) gL_changes_L_call rfl (by decide +kernel) ⟨Nat.le_of_ble_eq_true rfl, Nat.le_of_ble_eq_true rfl⟩ ⟨by show _ ≤ 3; omega, by show _ ≤ 18; omega⟩ hK hNX hZ hz hP hD hS hA rfl hl.1 (rest := []) (As := [.ref (ad 0), .int (nI 1), .int (nI k), .int (nI f), .int (nI t), .int (nI d1)]) rfl (Nat.le_of_ble_eq_true rfl) dL_changes_575 (fun z H locs hz hP hD hS => ?_)
            rw [u_lnk_tb, hb1, show b2i (!(!true)) = nI 1 from by decide]
            rw [u_lnk_2] at hP hD
            refine lv_iconst (v := nI (1)) hx hb dL_changes_578 (by decide) ?_
            refine lv_iload hx hb dL_changes_579 (lv_at hl 2 rfl) ?_
            refine nv_isub hx hb (by omega) dL_changes_581 ?_
            refine lv_icmp_ne (tgt := 616) hx hb dL_changes_582 (by decide) (fun c_195 => absurd c_195 (by decide)) (fun c_195 => ?_)
            refine lv_aload_n hx hb dL_changes_585 rfl (lv_at hl 5 rfl) ?_
            refine ml_S (k := 1) hx hb hml hown hts (c_all l g ad gm hG σ hσ) gL_changes_L_all rfl (by decide +kernel) ⟨Nat.le_of_ble_eq_true rfl, Nat.le_of_ble_eq_true rfl⟩ ⟨by show _ ≤ 3; omega, by show _ ≤ 18; omega⟩ hK hz hP hD hS hA rfl hl.1 (rest := []) (As := [.ref (ad 0)]) rfl (Nat.le_of_ble_eq_true rfl) dL_changes_586 (fun z H locs hz hP hD hS => ?_)
            refine lv_lload_n hx hb dL_changes_589 rfl (lv_at hl 6 rfl) ?_
            refine W.lcmp (x := a_all σ) (y := a_all σ) hx hb dL_changes_590 ?_
            rw [lg_self]
            refine lv_if_ne (tgt := 616) hx hb dL_changes_591 (by decide) (fun c_196 => absurd c_196 (by decide)) (fun c_196 => ?_)
            refine lv_aload_n hx hb dL_changes_594 rfl (lv_at hl 5 rfl) ?_
            refine lv_iconst (v := nI (1)) hx hb dL_changes_595 (by decide) ?_
            refine lv_iload hx hb dL_changes_596 (lv_at hl 7 rfl) ?_
            refine lv_iload hx hb dL_changes_598 (lv_at hl 10 rfl) ?_
            refine lv_iload hx hb dL_changes_600 (lv_at hl 11 rfl) ?_
            refine lv_iload hx hb dL_changes_602 (lv_at hl 4 rfl) ?_
            refine mx_S (k := 6) hx hb hml hown hts (k_link l g ad gm hG σ hσ k hk4 f t d1 hf ht hft hd4) gL_changes_L_call rfl (by decide +kernel) ⟨Nat.le_of_ble_eq_true rfl, Nat.le_of_ble_eq_true rfl⟩ ⟨by show _ ≤ 3; omega, by show _ ≤ 18; omega⟩ hK hNX hZ hz hP hD hS hA rfl hl.1 (rest := []) (As := [.ref (ad 0), .int (nI 1), .int (nI k), .int (nI f), .int (nI t), .int (nI d1)]) rfl (Nat.le_of_ble_eq_true rfl) dL_changes_604 (fun z H locs hz hP hD hS => ?_)
            rw [hb1, show b2i (!true) = nI 0 from by decide]
            refine lv_iload hx hb dL_changes_607 (lv_at hl 2 rfl) ?_
            refine lv_icmp_ne (tgt := 616) hx hb dL_changes_609 (by decide) (fun c_197 => absurd c_197 (by decide)) (fun c_197 => ?_)
            refine lv_iconst (v := nI (1)) hx hb dL_changes_612 (by decide) ?_
            refine lv_goto (tgt := 617) hx hb dL_changes_613 (by decide) ?_
            refine lv_istore (lv' := [(14, .int (nI 1)), (15, .long (a_all (u_lnk σ k f t d1))), (13, .int (nI 0)), (6, .int (nI 0)), (12, .int (nI d1)), (0, .ref (ad 0)), (3, .long (a_all σ)), (5, .int (nI k)), (7, .int (nI (s_n σ k))), (8, .int (nI (a_ct σ k))), (10, .int (nI f)), (11, .int (nI t))]) hx hb dL_changes_617 hl (by decide) rfl (fun ls hl => ?_)
            refine lv_iload hx hb dL_changes_619 (lv_at hl 0 rfl) ?_
            refine lv_if_eq (tgt := 638) hx hb dL_changes_621 (by decide) (fun c_198 => absurd c_198 (by decide)) (fun c_198 => ?_)
            refine lv_aload_n hx hb dL_changes_624 rfl (lv_at hl 5 rfl) ?_
            refine ml_S (k := 1) hx hb hml hown hts (c_all l g ad gm hG (u_lnk σ k f t d1) hσ2) gL_changes_L_all rfl (by decide +kernel) ⟨Nat.le_of_ble_eq_true rfl, Nat.le_of_ble_eq_true rfl⟩ ⟨by show _ ≤ 3; omega, by show _ ≤ 18; omega⟩ hK hz hP hD hS hA rfl hl.1 (rest := []) (As := [.ref (ad 0)]) rfl (Nat.le_of_ble_eq_true rfl) dL_changes_625 (fun z H locs hz hP hD hS => ?_)
            refine lv_lload hx hb dL_changes_628 (lv_at hl 1 rfl) ?_
            refine W.lcmp (x := a_all (u_lnk σ k f t d1)) (y := a_all (u_lnk σ k f t d1)) hx hb dL_changes_630 ?_
            rw [lg_self]
            refine lv_if_ne (tgt := 638) hx hb dL_changes_631 (by decide) (fun c_199 => absurd c_199 (by decide)) (fun c_199 => ?_)
            refine lv_iconst (v := nI (1)) hx hb dL_changes_634 (by decide) ?_
            refine lv_goto (tgt := 639) hx hb dL_changes_635 (by decide) ?_
            exact my_retz (v := nI (1)) hx hb hr hlocks hz hP hS (by omega) (by omega) (mc := 3) (ms := 18) ⟨rfl, hσ2⟩ (by first | exact b2i_nar _ | rfl) dL_changes_639
        · skip
          rcases lkB2_cases hn5 hq9 (by decide) with ⟨h2, h9⟩ | ⟨f, h2, rfl, h3, h9⟩ | ⟨f, h2, rfl, rfl, h9⟩ | ⟨f, t, h2, rfl, h3, rfl, h4, h5, h9⟩
          · skip
            refine lv_iload hx hb dL_changes_398 (lv_at hl 4 rfl) ?_
            refine lv_if_ne (tgt := 427) hx hb dL_changes_400 (by decide) (fun c_200 => absurd c_200 (by decide)) (fun c_200 => ?_)
            refine lv_iload hx hb dL_changes_403 (lv_at hl 7 rfl) ?_
            refine lv_if_lt (tgt := 427) hx hb dL_changes_405 (by decide) (fun c_201 => ?_) (fun c_201 => ?_)
            · skip
              refine lv_iconst (v := nI (1)) hx hb dL_changes_427 (by decide) ?_
              refine lv_goto (tgt := 432) hx hb dL_changes_428 (by decide) ?_
              refine lv_istore (lv' := [(6, .int (nI 1)), (12, .int (d)), (0, .ref (ad 0)), (3, .long (a_all σ)), (5, .int (nI k)), (7, .int (nI (s_n σ k))), (8, .int (nI (a_ct σ k))), (10, .int (a)), (11, .int (b))]) hx hb dL_changes_432 hl (by decide) rfl (fun ls hl => ?_)
              refine lv_aload_n hx hb dL_changes_434 rfl (lv_at hl 2 rfl) ?_
              refine lv_iconst (v := nI (1)) hx hb dL_changes_435 (by decide) ?_
              refine lv_iload hx hb dL_changes_436 (lv_at hl 4 rfl) ?_
              refine lv_iload hx hb dL_changes_438 (lv_at hl 7 rfl) ?_
              refine lv_iload hx hb dL_changes_440 (lv_at hl 8 rfl) ?_
              refine lv_iload hx hb dL_changes_442 (lv_at hl 1 rfl) ?_
              refine mx_S (k := 6) hx hb hml hown hts (k_link_1 l hst g ad gm hG σ hσ k hk4 (a) (b) d hq9) gL_changes_L_call rfl (by decide +kernel) ⟨Nat.le_of_ble_eq_true rfl, Nat.le_of_ble_eq_true rfl⟩ ⟨by show _ ≤ 3; omega, by show _ ≤ 18; omega⟩ hK hNX hZ hz hP hD hS hA rfl hl.1 (rest := []) (As := [.ref (ad 0), .int (nI 1), .int (nI k), .int (a), .int (b), .int (d)]) rfl (Nat.le_of_ble_eq_true rfl) dL_changes_444 (fun z H locs hz hP hD hS => ?_)
              refine lv_istore (lv' := [(13, .int (-111)), (6, .int (nI 1)), (12, .int (d)), (0, .ref (ad 0)), (3, .long (a_all σ)), (5, .int (nI k)), (7, .int (nI (s_n σ k))), (8, .int (nI (a_ct σ k))), (10, .int (a)), (11, .int (b))]) hx hb dL_changes_447 hl (by decide) rfl (fun ls hl => ?_)
              refine lv_iload hx hb dL_changes_449 (lv_at hl 1 rfl) ?_
              refine lv_if_ne (tgt := 472) hx hb dL_changes_451 (by decide) (fun c_202 => ?_) (fun c_202 => absurd c_202 (by decide))
              refine lv_iload hx hb dL_changes_472 (lv_at hl 0 rfl) ?_
              refine lv_iload hx hb dL_changes_474 (lv_at hl 1 rfl) ?_
              refine lv_if_eq (tgt := 484) hx hb dL_changes_476 (by decide) (fun c_203 => absurd c_203 (by decide)) (fun c_203 => ?_)
              refine lv_bipush (v := -111) hx hb dL_changes_479 (by decide) ?_
              refine lv_goto (tgt := 486) hx hb dL_changes_481 (by decide) ?_
              refine lv_icmp_ne (tgt := 502) hx hb dL_changes_486 (by decide) (fun c_204 => absurd c_204 (by decide)) (fun c_204 => ?_)
              refine lv_aload_n hx hb dL_changes_489 rfl (lv_at hl 3 rfl) ?_
              refine ml_S (k := 1) hx hb hml hown hts (c_all l g ad gm hG σ hσ) gL_changes_L_all rfl (by decide +kernel) ⟨Nat.le_of_ble_eq_true rfl, Nat.le_of_ble_eq_true rfl⟩ ⟨by show _ ≤ 3; omega, by show _ ≤ 18; omega⟩ hK hz hP hD hS hA rfl hl.1 (rest := []) (As := [.ref (ad 0)]) rfl (Nat.le_of_ble_eq_true rfl) dL_changes_490 (fun z H locs hz hP hD hS => ?_)
              refine lv_lload_n hx hb dL_changes_493 rfl (lv_at hl 4 rfl) ?_
              refine W.lcmp (x := a_all σ) (y := a_all σ) hx hb dL_changes_494 ?_
              rw [lg_self]
              refine lv_if_ne (tgt := 502) hx hb dL_changes_495 (by decide) (fun c_205 => absurd c_205 (by decide)) (fun c_205 => ?_)
              refine lv_iconst (v := nI (1)) hx hb dL_changes_498 (by decide) ?_
              refine lv_goto (tgt := 503) hx hb dL_changes_499 (by decide) ?_
              exact my_retz (v := nI (1)) hx hb hr hlocks hz hP hS (by omega) (by omega) (mc := 3) (ms := 18) ⟨rfl, hσ⟩ (by first | exact b2i_nar _ | rfl) dL_changes_503
            · skip
              refine lv_iload hx hb dL_changes_408 (lv_at hl 7 rfl) ?_
              refine lv_iload hx hb dL_changes_410 (lv_at hl 5 rfl) ?_
              refine lv_icmp_ge (tgt := 427) hx hb dL_changes_412 (by decide) (fun c_206 => ?_) (fun c_206 => by exfalso; exact absurd (inX_1 (by omega) c_201 c_206) (by rw [h2]; decide))
              refine lv_iconst (v := nI (1)) hx hb dL_changes_427 (by decide) ?_
              refine lv_goto (tgt := 432) hx hb dL_changes_428 (by decide) ?_
              refine lv_istore (lv' := [(6, .int (nI 1)), (12, .int (d)), (0, .ref (ad 0)), (3, .long (a_all σ)), (5, .int (nI k)), (7, .int (nI (s_n σ k))), (8, .int (nI (a_ct σ k))), (10, .int (a)), (11, .int (b))]) hx hb dL_changes_432 hl (by decide) rfl (fun ls hl => ?_)
              refine lv_aload_n hx hb dL_changes_434 rfl (lv_at hl 2 rfl) ?_
              refine lv_iconst (v := nI (1)) hx hb dL_changes_435 (by decide) ?_
              refine lv_iload hx hb dL_changes_436 (lv_at hl 4 rfl) ?_
              refine lv_iload hx hb dL_changes_438 (lv_at hl 7 rfl) ?_
              refine lv_iload hx hb dL_changes_440 (lv_at hl 8 rfl) ?_
              refine lv_iload hx hb dL_changes_442 (lv_at hl 1 rfl) ?_
              refine mx_S (k := 6) hx hb hml hown hts (k_link_1 l hst g ad gm hG σ hσ k hk4 (a) (b) d hq9) gL_changes_L_call rfl (by decide +kernel) ⟨Nat.le_of_ble_eq_true rfl, Nat.le_of_ble_eq_true rfl⟩ ⟨by show _ ≤ 3; omega, by show _ ≤ 18; omega⟩ hK hNX hZ hz hP hD hS hA rfl hl.1 (rest := []) (As := [.ref (ad 0), .int (nI 1), .int (nI k), .int (a), .int (b), .int (d)]) rfl (Nat.le_of_ble_eq_true rfl) dL_changes_444 (fun z H locs hz hP hD hS => ?_)
              refine lv_istore (lv' := [(13, .int (-111)), (6, .int (nI 1)), (12, .int (d)), (0, .ref (ad 0)), (3, .long (a_all σ)), (5, .int (nI k)), (7, .int (nI (s_n σ k))), (8, .int (nI (a_ct σ k))), (10, .int (a)), (11, .int (b))]) hx hb dL_changes_447 hl (by decide) rfl (fun ls hl => ?_)
              refine lv_iload hx hb dL_changes_449 (lv_at hl 1 rfl) ?_
              refine lv_if_ne (tgt := 472) hx hb dL_changes_451 (by decide) (fun c_207 => ?_) (fun c_207 => absurd c_207 (by decide))
              refine lv_iload hx hb dL_changes_472 (lv_at hl 0 rfl) ?_
              refine lv_iload hx hb dL_changes_474 (lv_at hl 1 rfl) ?_
              refine lv_if_eq (tgt := 484) hx hb dL_changes_476 (by decide) (fun c_208 => absurd c_208 (by decide)) (fun c_208 => ?_)
              refine lv_bipush (v := -111) hx hb dL_changes_479 (by decide) ?_
              refine lv_goto (tgt := 486) hx hb dL_changes_481 (by decide) ?_
              refine lv_icmp_ne (tgt := 502) hx hb dL_changes_486 (by decide) (fun c_209 => absurd c_209 (by decide)) (fun c_209 => ?_)
              refine lv_aload_n hx hb dL_changes_489 rfl (lv_at hl 3 rfl) ?_
              refine ml_S (k := 1) hx hb hml hown hts (c_all l g ad gm hG σ hσ) gL_changes_L_all rfl (by decide +kernel) ⟨Nat.le_of_ble_eq_true rfl, Nat.le_of_ble_eq_true rfl⟩ ⟨by show _ ≤ 3; omega, by show _ ≤ 18; omega⟩ hK hz hP hD hS hA rfl hl.1 (rest := []) (As := [.ref (ad 0)]) rfl (Nat.le_of_ble_eq_true rfl) dL_changes_490 (fun z H locs hz hP hD hS => ?_)
              refine lv_lload_n hx hb dL_changes_493 rfl (lv_at hl 4 rfl) ?_
              refine W.lcmp (x := a_all σ) (y := a_all σ) hx hb dL_changes_494 ?_
              rw [lg_self]
              refine lv_if_ne (tgt := 502) hx hb dL_changes_495 (by decide) (fun c_210 => absurd c_210 (by decide)) (fun c_210 => ?_)
              refine lv_iconst (v := nI (1)) hx hb dL_changes_498 (by decide) ?_
              refine lv_goto (tgt := 503) hx hb dL_changes_499 (by decide) ?_
              exact my_retz (v := nI (1)) hx hb hr hlocks hz hP hS (by omega) (by omega) (mc := 3) (ms := 18) ⟨rfl, hσ⟩ (by first | exact b2i_nar _ | rfl) dL_changes_503
          · skip
            refine lv_iload hx hb dL_changes_398 (lv_at hl 4 rfl) ?_
            refine lv_if_ne (tgt := 427) hx hb dL_changes_400 (by decide) (fun c_211 => absurd c_211 (by decide)) (fun c_211 => ?_)
            refine lv_iload hx hb dL_changes_403 (lv_at hl 7 rfl) ?_
            refine nv_if_lt (tgt := 427) hx hb (by omega) dL_changes_405 (by decide) (fun c_212 => by exfalso; exact c_212) (fun c_212 => ?_)
            refine lv_iload hx hb dL_changes_408 (lv_at hl 7 rfl) ?_
            refine lv_iload hx hb dL_changes_410 (lv_at hl 5 rfl) ?_
            refine nv_icmp_ge (tgt := 427) hx hb (by omega) (by omega) dL_changes_412 (by decide) (fun c_213 => by exfalso; omega) (fun c_213 => ?_)
            refine lv_iload hx hb dL_changes_415 (lv_at hl 8 rfl) ?_
            refine lv_if_lt (tgt := 427) hx hb dL_changes_417 (by decide) (fun c_214 => ?_) (fun c_214 => ?_)
            · skip
              refine lv_iconst (v := nI (1)) hx hb dL_changes_427 (by decide) ?_
              refine lv_goto (tgt := 432) hx hb dL_changes_428 (by decide) ?_
              refine lv_istore (lv' := [(6, .int (nI 1)), (12, .int (d)), (0, .ref (ad 0)), (3, .long (a_all σ)), (5, .int (nI k)), (7, .int (nI (s_n σ k))), (8, .int (nI (a_ct σ k))), (10, .int (nI f)), (11, .int (b))]) hx hb dL_changes_432 hl (by decide) rfl (fun ls hl => ?_)
              refine lv_aload_n hx hb dL_changes_434 rfl (lv_at hl 2 rfl) ?_
              refine lv_iconst (v := nI (1)) hx hb dL_changes_435 (by decide) ?_
              refine lv_iload hx hb dL_changes_436 (lv_at hl 4 rfl) ?_
              refine lv_iload hx hb dL_changes_438 (lv_at hl 7 rfl) ?_
              refine lv_iload hx hb dL_changes_440 (lv_at hl 8 rfl) ?_
              refine lv_iload hx hb dL_changes_442 (lv_at hl 1 rfl) ?_
              refine mx_S (k := 6) hx hb hml hown hts (k_link_1 l hst g ad gm hG σ hσ k hk4 (nI (f)) (b) d hq9) gL_changes_L_call rfl (by decide +kernel) ⟨Nat.le_of_ble_eq_true rfl, Nat.le_of_ble_eq_true rfl⟩ ⟨by show _ ≤ 3; omega, by show _ ≤ 18; omega⟩ hK hNX hZ hz hP hD hS hA rfl hl.1 (rest := []) (As := [.ref (ad 0), .int (nI 1), .int (nI k), .int (nI f), .int (b), .int (d)]) rfl (Nat.le_of_ble_eq_true rfl) dL_changes_444 (fun z H locs hz hP hD hS => ?_)
              refine lv_istore (lv' := [(13, .int (-111)), (6, .int (nI 1)), (12, .int (d)), (0, .ref (ad 0)), (3, .long (a_all σ)), (5, .int (nI k)), (7, .int (nI (s_n σ k))), (8, .int (nI (a_ct σ k))), (10, .int (nI f)), (11, .int (b))]) hx hb dL_changes_447 hl (by decide) rfl (fun ls hl => ?_)
              refine lv_iload hx hb dL_changes_449 (lv_at hl 1 rfl) ?_
              refine lv_if_ne (tgt := 472) hx hb dL_changes_451 (by decide) (fun c_215 => ?_) (fun c_215 => absurd c_215 (by decide))
              refine lv_iload hx hb dL_changes_472 (lv_at hl 0 rfl) ?_
              refine lv_iload hx hb dL_changes_474 (lv_at hl 1 rfl) ?_
              refine lv_if_eq (tgt := 484) hx hb dL_changes_476 (by decide) (fun c_216 => absurd c_216 (by decide)) (fun c_216 => ?_)
              refine lv_bipush (v := -111) hx hb dL_changes_479 (by decide) ?_
              refine lv_goto (tgt := 486) hx hb dL_changes_481 (by decide) ?_
              refine lv_icmp_ne (tgt := 502) hx hb dL_changes_486 (by decide) (fun c_217 => absurd c_217 (by decide)) (fun c_217 => ?_)
              refine lv_aload_n hx hb dL_changes_489 rfl (lv_at hl 3 rfl) ?_
              refine ml_S (k := 1) hx hb hml hown hts (c_all l g ad gm hG σ hσ) gL_changes_L_all rfl (by decide +kernel) ⟨Nat.le_of_ble_eq_true rfl, Nat.le_of_ble_eq_true rfl⟩ ⟨by show _ ≤ 3; omega, by show _ ≤ 18; omega⟩ hK hz hP hD hS hA rfl hl.1 (rest := []) (As := [.ref (ad 0)]) rfl (Nat.le_of_ble_eq_true rfl) dL_changes_490 (fun z H locs hz hP hD hS => ?_)
              refine lv_lload_n hx hb dL_changes_493 rfl (lv_at hl 4 rfl) ?_
              refine W.lcmp (x := a_all σ) (y := a_all σ) hx hb dL_changes_494 ?_
              rw [lg_self]
              refine lv_if_ne (tgt := 502) hx hb dL_changes_495 (by decide) (fun c_218 => absurd c_218 (by decide)) (fun c_218 => ?_)
              refine lv_iconst (v := nI (1)) hx hb dL_changes_498 (by decide) ?_
              refine lv_goto (tgt := 503) hx hb dL_changes_499 (by decide) ?_
              exact my_retz (v := nI (1)) hx hb hr hlocks hz hP hS (by omega) (by omega) (mc := 3) (ms := 18) ⟨rfl, hσ⟩ (by first | exact b2i_nar _ | rfl) dL_changes_503
            · skip
              refine lv_iload hx hb dL_changes_420 (lv_at hl 8 rfl) ?_
              refine lv_iload hx hb dL_changes_422 (lv_at hl 5 rfl) ?_
              refine lv_icmp_lt (tgt := 431) hx hb dL_changes_424 (by decide) (fun c_219 => by exfalso; exact absurd (inX_1 (by omega) c_214 (Int32.not_le.mpr c_219)) (by rw [h3]; decide)) (fun c_219 => ?_)
              refine lv_iconst (v := nI (1)) hx hb dL_changes_427 (by decide) ?_
              refine lv_goto (tgt := 432) hx hb dL_changes_428 (by decide) ?_
              refine lv_istore (lv' := [(6, .int (nI 1)), (12, .int (d)), (0, .ref (ad 0)), (3, .long (a_all σ)), (5, .int (nI k)), (7, .int (nI (s_n σ k))), (8, .int (nI (a_ct σ k))), (10, .int (nI f)), (11, .int (b))]) hx hb dL_changes_432 hl (by decide) rfl (fun ls hl => ?_)
              refine lv_aload_n hx hb dL_changes_434 rfl (lv_at hl 2 rfl) ?_
              refine lv_iconst (v := nI (1)) hx hb dL_changes_435 (by decide) ?_
              refine lv_iload hx hb dL_changes_436 (lv_at hl 4 rfl) ?_
              refine lv_iload hx hb dL_changes_438 (lv_at hl 7 rfl) ?_
              refine lv_iload hx hb dL_changes_440 (lv_at hl 8 rfl) ?_
              refine lv_iload hx hb dL_changes_442 (lv_at hl 1 rfl) ?_
              refine mx_S (k := 6) hx hb hml hown hts (k_link_1 l hst g ad gm hG σ hσ k hk4 (nI (f)) (b) d hq9) gL_changes_L_call rfl (by decide +kernel) ⟨Nat.le_of_ble_eq_true rfl, Nat.le_of_ble_eq_true rfl⟩ ⟨by show _ ≤ 3; omega, by show _ ≤ 18; omega⟩ hK hNX hZ hz hP hD hS hA rfl hl.1 (rest := []) (As := [.ref (ad 0), .int (nI 1), .int (nI k), .int (nI f), .int (b), .int (d)]) rfl (Nat.le_of_ble_eq_true rfl) dL_changes_444 (fun z H locs hz hP hD hS => ?_)
              refine lv_istore (lv' := [(13, .int (-111)), (6, .int (nI 1)), (12, .int (d)), (0, .ref (ad 0)), (3, .long (a_all σ)), (5, .int (nI k)), (7, .int (nI (s_n σ k))), (8, .int (nI (a_ct σ k))), (10, .int (nI f)), (11, .int (b))]) hx hb dL_changes_447 hl (by decide) rfl (fun ls hl => ?_)
              refine lv_iload hx hb dL_changes_449 (lv_at hl 1 rfl) ?_
              refine lv_if_ne (tgt := 472) hx hb dL_changes_451 (by decide) (fun c_220 => ?_) (fun c_220 => absurd c_220 (by decide))
              refine lv_iload hx hb dL_changes_472 (lv_at hl 0 rfl) ?_
              refine lv_iload hx hb dL_changes_474 (lv_at hl 1 rfl) ?_
              refine lv_if_eq (tgt := 484) hx hb dL_changes_476 (by decide) (fun c_221 => absurd c_221 (by decide)) (fun c_221 => ?_)
              refine lv_bipush (v := -111) hx hb dL_changes_479 (by decide) ?_
              refine lv_goto (tgt := 486) hx hb dL_changes_481 (by decide) ?_
              refine lv_icmp_ne (tgt := 502) hx hb dL_changes_486 (by decide) (fun c_222 => absurd c_222 (by decide)) (fun c_222 => ?_)
              refine lv_aload_n hx hb dL_changes_489 rfl (lv_at hl 3 rfl) ?_
              refine ml_S (k := 1) hx hb hml hown hts (c_all l g ad gm hG σ hσ) gL_changes_L_all rfl (by decide +kernel) ⟨Nat.le_of_ble_eq_true rfl, Nat.le_of_ble_eq_true rfl⟩ ⟨by show _ ≤ 3; omega, by show _ ≤ 18; omega⟩ hK hz hP hD hS hA rfl hl.1 (rest := []) (As := [.ref (ad 0)]) rfl (Nat.le_of_ble_eq_true rfl) dL_changes_490 (fun z H locs hz hP hD hS => ?_)
              refine lv_lload_n hx hb dL_changes_493 rfl (lv_at hl 4 rfl) ?_
              refine W.lcmp (x := a_all σ) (y := a_all σ) hx hb dL_changes_494 ?_
              rw [lg_self]
              refine lv_if_ne (tgt := 502) hx hb dL_changes_495 (by decide) (fun c_223 => absurd c_223 (by decide)) (fun c_223 => ?_)
              refine lv_iconst (v := nI (1)) hx hb dL_changes_498 (by decide) ?_
              refine lv_goto (tgt := 503) hx hb dL_changes_499 (by decide) ?_
              exact my_retz (v := nI (1)) hx hb hr hlocks hz hP hS (by omega) (by omega) (mc := 3) (ms := 18) ⟨rfl, hσ⟩ (by first | exact b2i_nar _ | rfl) dL_changes_503
          · skip
            exact absurd h9 (by decide)
          · skip
            exact absurd h9 (by decide)
        · skip
          rcases lkB2_cases hn5 hq9 (by decide) with ⟨h2, h9⟩ | ⟨f, h2, rfl, h3, h9⟩ | ⟨f, h2, rfl, rfl, h9⟩ | ⟨f, t, h2, rfl, h3, rfl, h4, h5, h9⟩
          · skip
            exact absurd h9 (by decide)
          · skip
            exact absurd h9 (by decide)
          · skip
            refine lv_iload hx hb dL_changes_398 (lv_at hl 4 rfl) ?_
            refine lv_if_ne (tgt := 427) hx hb dL_changes_400 (by decide) (fun c_224 => absurd c_224 (by decide)) (fun c_224 => ?_)
            refine lv_iload hx hb dL_changes_403 (lv_at hl 7 rfl) ?_
            refine nv_if_lt (tgt := 427) hx hb (by omega) dL_changes_405 (by decide) (fun c_225 => by exfalso; exact c_225) (fun c_225 => ?_)
            refine lv_iload hx hb dL_changes_408 (lv_at hl 7 rfl) ?_
            refine lv_iload hx hb dL_changes_410 (lv_at hl 5 rfl) ?_
            refine nv_icmp_ge (tgt := 427) hx hb (by omega) (by omega) dL_changes_412 (by decide) (fun c_226 => by exfalso; omega) (fun c_226 => ?_)
            refine lv_iload hx hb dL_changes_415 (lv_at hl 8 rfl) ?_
            refine nv_if_lt (tgt := 427) hx hb (by omega) dL_changes_417 (by decide) (fun c_227 => by exfalso; exact c_227) (fun c_227 => ?_)
            refine lv_iload hx hb dL_changes_420 (lv_at hl 8 rfl) ?_
            refine lv_iload hx hb dL_changes_422 (lv_at hl 5 rfl) ?_
            refine nv_icmp_lt (tgt := 431) hx hb (by omega) (by omega) dL_changes_424 (by decide) (fun c_228 => ?_) (fun c_228 => by exfalso; omega)
            refine lv_iconst (v := nI (0)) hx hb dL_changes_431 (by decide) ?_
            refine lv_istore (lv' := [(6, .int (nI 0)), (12, .int (d)), (0, .ref (ad 0)), (3, .long (a_all σ)), (5, .int (nI k)), (7, .int (nI (s_n σ k))), (8, .int (nI (a_ct σ k))), (10, .int (nI f)), (11, .int (nI f))]) hx hb dL_changes_432 hl (by decide) rfl (fun ls hl => ?_)
            refine lv_aload_n hx hb dL_changes_434 rfl (lv_at hl 2 rfl) ?_
            refine lv_iconst (v := nI (1)) hx hb dL_changes_435 (by decide) ?_
            refine lv_iload hx hb dL_changes_436 (lv_at hl 4 rfl) ?_
            refine lv_iload hx hb dL_changes_438 (lv_at hl 7 rfl) ?_
            refine lv_iload hx hb dL_changes_440 (lv_at hl 8 rfl) ?_
            refine lv_iload hx hb dL_changes_442 (lv_at hl 1 rfl) ?_
            refine mx_S (k := 6) hx hb hml hown hts (k_link_2 l hst g ad gm hG σ hσ k hk4 (nI (f)) (nI (f)) d hq9) gL_changes_L_call rfl (by decide +kernel) ⟨Nat.le_of_ble_eq_true rfl, Nat.le_of_ble_eq_true rfl⟩ ⟨by show _ ≤ 3; omega, by show _ ≤ 18; omega⟩ hK hNX hZ hz hP hD hS hA rfl hl.1 (rest := []) (As := [.ref (ad 0), .int (nI 1), .int (nI k), .int (nI f), .int (nI f), .int (d)]) rfl (Nat.le_of_ble_eq_true rfl) dL_changes_444 (fun z H locs hz hP hD hS => ?_)
            refine lv_istore (lv' := [(13, .int (-112)), (6, .int (nI 0)), (12, .int (d)), (0, .ref (ad 0)), (3, .long (a_all σ)), (5, .int (nI k)), (7, .int (nI (s_n σ k))), (8, .int (nI (a_ct σ k))), (10, .int (nI f)), (11, .int (nI f))]) hx hb dL_changes_447 hl (by decide) rfl (fun ls hl => ?_)
            refine lv_iload hx hb dL_changes_449 (lv_at hl 1 rfl) ?_
            refine lv_if_ne (tgt := 472) hx hb dL_changes_451 (by decide) (fun c_229 => absurd c_229 (by decide)) (fun c_229 => ?_)
            refine lv_iload hx hb dL_changes_454 (lv_at hl 8 rfl) ?_
            refine lv_iload hx hb dL_changes_456 (lv_at hl 9 rfl) ?_
            refine nv_icmp_eq (tgt := 472) hx hb (by omega) (by omega) dL_changes_458 (by decide) (fun c_230 => ?_) (fun c_230 => by exfalso; exact c_230 rfl)
            refine lv_iload hx hb dL_changes_472 (lv_at hl 0 rfl) ?_
            refine lv_iload hx hb dL_changes_474 (lv_at hl 1 rfl) ?_
            refine lv_if_eq (tgt := 484) hx hb dL_changes_476 (by decide) (fun c_231 => ?_) (fun c_231 => absurd c_231 (by decide))
            refine lv_bipush (v := -112) hx hb dL_changes_484 (by decide) ?_
            refine lv_icmp_ne (tgt := 502) hx hb dL_changes_486 (by decide) (fun c_232 => absurd c_232 (by decide)) (fun c_232 => ?_)
            refine lv_aload_n hx hb dL_changes_489 rfl (lv_at hl 3 rfl) ?_
            refine ml_S (k := 1) hx hb hml hown hts (c_all l g ad gm hG σ hσ) gL_changes_L_all rfl (by decide +kernel) ⟨Nat.le_of_ble_eq_true rfl, Nat.le_of_ble_eq_true rfl⟩ ⟨by show _ ≤ 3; omega, by show _ ≤ 18; omega⟩ hK hz hP hD hS hA rfl hl.1 (rest := []) (As := [.ref (ad 0)]) rfl (Nat.le_of_ble_eq_true rfl) dL_changes_490 (fun z H locs hz hP hD hS => ?_)
            refine lv_lload_n hx hb dL_changes_493 rfl (lv_at hl 4 rfl) ?_
            refine W.lcmp (x := a_all σ) (y := a_all σ) hx hb dL_changes_494 ?_
            rw [lg_self]
            refine lv_if_ne (tgt := 502) hx hb dL_changes_495 (by decide) (fun c_233 => absurd c_233 (by decide)) (fun c_233 => ?_)
            refine lv_iconst (v := nI (1)) hx hb dL_changes_498 (by decide) ?_
            refine lv_goto (tgt := 503) hx hb dL_changes_499 (by decide) ?_
            exact my_retz (v := nI (1)) hx hb hr hlocks hz hP hS (by omega) (by omega) (mc := 3) (ms := 18) ⟨rfl, hσ⟩ (by first | exact b2i_nar _ | rfl) dL_changes_503
          · skip
            refine lv_iload hx hb dL_changes_398 (lv_at hl 4 rfl) ?_
            refine lv_if_ne (tgt := 427) hx hb dL_changes_400 (by decide) (fun c_234 => absurd c_234 (by decide)) (fun c_234 => ?_)
            refine lv_iload hx hb dL_changes_403 (lv_at hl 7 rfl) ?_
            refine nv_if_lt (tgt := 427) hx hb (by omega) dL_changes_405 (by decide) (fun c_235 => by exfalso; exact c_235) (fun c_235 => ?_)
            refine lv_iload hx hb dL_changes_408 (lv_at hl 7 rfl) ?_
            refine lv_iload hx hb dL_changes_410 (lv_at hl 5 rfl) ?_
            refine nv_icmp_ge (tgt := 427) hx hb (by omega) (by omega) dL_changes_412 (by decide) (fun c_236 => by exfalso; omega) (fun c_236 => ?_)
            refine lv_iload hx hb dL_changes_415 (lv_at hl 8 rfl) ?_
            refine nv_if_lt (tgt := 427) hx hb (by omega) dL_changes_417 (by decide) (fun c_237 => by exfalso; exact c_237) (fun c_237 => ?_)
            refine lv_iload hx hb dL_changes_420 (lv_at hl 8 rfl) ?_
            refine lv_iload hx hb dL_changes_422 (lv_at hl 5 rfl) ?_
            refine nv_icmp_lt (tgt := 431) hx hb (by omega) (by omega) dL_changes_424 (by decide) (fun c_238 => ?_) (fun c_238 => by exfalso; omega)
            refine lv_iconst (v := nI (0)) hx hb dL_changes_431 (by decide) ?_
            refine lv_istore (lv' := [(6, .int (nI 0)), (12, .int (d)), (0, .ref (ad 0)), (3, .long (a_all σ)), (5, .int (nI k)), (7, .int (nI (s_n σ k))), (8, .int (nI (a_ct σ k))), (10, .int (nI f)), (11, .int (nI t))]) hx hb dL_changes_432 hl (by decide) rfl (fun ls hl => ?_)
            refine lv_aload_n hx hb dL_changes_434 rfl (lv_at hl 2 rfl) ?_
            refine lv_iconst (v := nI (1)) hx hb dL_changes_435 (by decide) ?_
            refine lv_iload hx hb dL_changes_436 (lv_at hl 4 rfl) ?_
            refine lv_iload hx hb dL_changes_438 (lv_at hl 7 rfl) ?_
            refine lv_iload hx hb dL_changes_440 (lv_at hl 8 rfl) ?_
            refine lv_iload hx hb dL_changes_442 (lv_at hl 1 rfl) ?_
            refine mx_S (k := 6) hx hb hml hown hts (k_link_2 l hst g ad gm hG σ hσ k hk4 (nI (f)) (nI (t)) d hq9) gL_changes_L_call rfl (by decide +kernel) ⟨Nat.le_of_ble_eq_true rfl, Nat.le_of_ble_eq_true rfl⟩ ⟨by show _ ≤ 3; omega, by show _ ≤ 18; omega⟩ hK hNX hZ hz hP hD hS hA rfl hl.1 (rest := []) (As := [.ref (ad 0), .int (nI 1), .int (nI k), .int (nI f), .int (nI t), .int (d)]) rfl (Nat.le_of_ble_eq_true rfl) dL_changes_444 (fun z H locs hz hP hD hS => ?_)
            refine lv_istore (lv' := [(13, .int (-112)), (6, .int (nI 0)), (12, .int (d)), (0, .ref (ad 0)), (3, .long (a_all σ)), (5, .int (nI k)), (7, .int (nI (s_n σ k))), (8, .int (nI (a_ct σ k))), (10, .int (nI f)), (11, .int (nI t))]) hx hb dL_changes_447 hl (by decide) rfl (fun ls hl => ?_)
            refine lv_iload hx hb dL_changes_449 (lv_at hl 1 rfl) ?_
            refine lv_if_ne (tgt := 472) hx hb dL_changes_451 (by decide) (fun c_239 => absurd c_239 (by decide)) (fun c_239 => ?_)
            refine lv_iload hx hb dL_changes_454 (lv_at hl 8 rfl) ?_
            refine lv_iload hx hb dL_changes_456 (lv_at hl 9 rfl) ?_
            refine nv_icmp_eq (tgt := 472) hx hb (by omega) (by omega) dL_changes_458 (by decide) (fun c_240 => by exfalso; exact h4 c_240) (fun c_240 => ?_)
            refine lv_iload hx hb dL_changes_461 (lv_at hl 2 rfl) ?_
            refine lv_if_lt (tgt := 472) hx hb dL_changes_463 (by decide) (fun c_241 => ?_) (fun c_241 => ?_)
            · skip
              refine lv_iload hx hb dL_changes_472 (lv_at hl 0 rfl) ?_
              refine lv_iload hx hb dL_changes_474 (lv_at hl 1 rfl) ?_
              refine lv_if_eq (tgt := 484) hx hb dL_changes_476 (by decide) (fun c_242 => ?_) (fun c_242 => absurd c_242 (by decide))
              refine lv_bipush (v := -112) hx hb dL_changes_484 (by decide) ?_
              refine lv_icmp_ne (tgt := 502) hx hb dL_changes_486 (by decide) (fun c_243 => absurd c_243 (by decide)) (fun c_243 => ?_)
              refine lv_aload_n hx hb dL_changes_489 rfl (lv_at hl 3 rfl) ?_
              refine ml_S (k := 1) hx hb hml hown hts (c_all l g ad gm hG σ hσ) gL_changes_L_all rfl (by decide +kernel) ⟨Nat.le_of_ble_eq_true rfl, Nat.le_of_ble_eq_true rfl⟩ ⟨by show _ ≤ 3; omega, by show _ ≤ 18; omega⟩ hK hz hP hD hS hA rfl hl.1 (rest := []) (As := [.ref (ad 0)]) rfl (Nat.le_of_ble_eq_true rfl) dL_changes_490 (fun z H locs hz hP hD hS => ?_)
              refine lv_lload_n hx hb dL_changes_493 rfl (lv_at hl 4 rfl) ?_
              refine W.lcmp (x := a_all σ) (y := a_all σ) hx hb dL_changes_494 ?_
              rw [lg_self]
              refine lv_if_ne (tgt := 502) hx hb dL_changes_495 (by decide) (fun c_244 => absurd c_244 (by decide)) (fun c_244 => ?_)
              refine lv_iconst (v := nI (1)) hx hb dL_changes_498 (by decide) ?_
              refine lv_goto (tgt := 503) hx hb dL_changes_499 (by decide) ?_
              exact my_retz (v := nI (1)) hx hb hr hlocks hz hP hS (by omega) (by omega) (mc := 3) (ms := 18) ⟨rfl, hσ⟩ (by first | exact b2i_nar _ | rfl) dL_changes_503
            · skip
              refine lv_iload hx hb dL_changes_466 (lv_at hl 2 rfl) ?_
              refine lv_iconst (v := nI (3)) hx hb dL_changes_468 (by decide) ?_
              refine lv_icmp_le (tgt := 504) hx hb dL_changes_469 (by decide) (fun c_245 => by exfalso; exact absurd (inX_l (n := 3) (by decide) c_241 c_245) (by rw [h5]; decide)) (fun c_245 => ?_)
              refine lv_iload hx hb dL_changes_472 (lv_at hl 0 rfl) ?_
              refine lv_iload hx hb dL_changes_474 (lv_at hl 1 rfl) ?_
              refine lv_if_eq (tgt := 484) hx hb dL_changes_476 (by decide) (fun c_246 => ?_) (fun c_246 => absurd c_246 (by decide))
              refine lv_bipush (v := -112) hx hb dL_changes_484 (by decide) ?_
              refine lv_icmp_ne (tgt := 502) hx hb dL_changes_486 (by decide) (fun c_247 => absurd c_247 (by decide)) (fun c_247 => ?_)
              refine lv_aload_n hx hb dL_changes_489 rfl (lv_at hl 3 rfl) ?_
              refine ml_S (k := 1) hx hb hml hown hts (c_all l g ad gm hG σ hσ) gL_changes_L_all rfl (by decide +kernel) ⟨Nat.le_of_ble_eq_true rfl, Nat.le_of_ble_eq_true rfl⟩ ⟨by show _ ≤ 3; omega, by show _ ≤ 18; omega⟩ hK hz hP hD hS hA rfl hl.1 (rest := []) (As := [.ref (ad 0)]) rfl (Nat.le_of_ble_eq_true rfl) dL_changes_490 (fun z H locs hz hP hD hS => ?_)
              refine lv_lload_n hx hb dL_changes_493 rfl (lv_at hl 4 rfl) ?_
              refine W.lcmp (x := a_all σ) (y := a_all σ) hx hb dL_changes_494 ?_
              rw [lg_self]
              refine lv_if_ne (tgt := 502) hx hb dL_changes_495 (by decide) (fun c_248 => absurd c_248 (by decide)) (fun c_248 => ?_)
              refine lv_iconst (v := nI (1)) hx hb dL_changes_498 (by decide) ?_
              refine lv_goto (tgt := 503) hx hb dL_changes_499 (by decide) ?_
              exact my_retz (v := nI (1)) hx hb hr hlocks hz hP hS (by omega) (by omega) (mc := 3) (ms := 18) ⟨rfl, hσ⟩ (by first | exact b2i_nar _ | rfl) dL_changes_503
      have j354 : ∀ (a b : Int32) (z : Scr) (hz : ZOk z) (H : Heap) (locs : List Loc) (hP : va_P g.1 vwCl (MW g ad gm σ z) H) (hD : va_D A (MW g ad gm σ z)) (hS : va_S A s0.heap H locs) (ls : Array Slot) (hl : lv_has ls 17 [(0, .ref (ad 0)), (1, .int (y)), (2, .int (b2i (odd))), (3, .long (a_all σ)), (5, .int (nI k)), (6, .int (nI 0)), (7, .int (nI (s_n σ k))), (8, .int (nI (a_ct σ k))), (10, .int (a))]), W pg l ev (rmY 14 3 18) s0 mi ([.ref (ad 0), .int (y), .int (b2i (odd))] : List Value).toArray below meth cd H locs (0) (0) (MQ below (va_Qi (fun (x : Int32) (w : va_W) => ∃ σ' z', (fun x σ' => x = 1 ∧ SOk σ') x σ' ∧ ZOk z' ∧ w = MW g ad gm σ' z') (iB g (MW g ad gm σ z0)) A) ([.ref (ad 0), .int (y), .int (b2i (odd))] : List Value).toArray s0 3 18 A) (F0 mi 354 ls [.int (b)]) := by
        intro a b z hz H locs hP hD hS ls hl
        refine lv_istore (lv' := [(11, .int (b)), (0, .ref (ad 0)), (1, .int (y)), (2, .int (b2i (odd))), (3, .long (a_all σ)), (5, .int (nI k)), (6, .int (nI 0)), (7, .int (nI (s_n σ k))), (8, .int (nI (a_ct σ k))), (10, .int (a))]) hx hb dL_changes_354 hl (by decide) rfl (fun ls hl => ?_)
        refine lv_iload_n hx hb dL_changes_356 rfl (lv_at hl 3 rfl) ?_
        refine bv_if_eq (tgt := 374) hx hb dL_changes_357 (by decide) (fun c_249 => ?_) (fun c_249 => ?_)
        · skip
          refine lv_iload_n hx hb dL_changes_374 rfl (lv_at hl 2 rfl) ?_
          refine lv_bipush (v := nI (11)) hx hb dL_changes_375 (by decide) ?_
          refine lv_ishr hx hb dL_changes_377 ?_
          refine lv_iload_n hx hb dL_changes_378 rfl (lv_at hl 2 rfl) ?_
          refine lv_iconst (v := nI (2)) hx hb dL_changes_379 (by decide) ?_
          refine lv_ishr hx hb dL_changes_380 ?_
          refine lv_iconst (v := nI (2)) hx hb dL_changes_381 (by decide) ?_
          refine ms_S hx hb hml hown hts (c_some l g (y >>> ((nI (2)) &&& 31)) 2 (by decide) (by decide)) gL_changes_L_some rfl (by decide +kernel) ⟨Nat.le_of_ble_eq_true rfl, Nat.le_of_ble_eq_true rfl⟩ ⟨by show _ ≤ 3; omega, by show _ ≤ 18; omega⟩ hK hz hP hD hS hA hl.1 (rest := [.int (y >>> ((nI (11)) &&& 31))]) (Nat.le_of_ble_eq_true rfl) dL_changes_382 (fun r23 hr23 z H locs hz hP hD hS => ?_)
          refine lv_if_ne (tgt := 392) hx hb dL_changes_385 (by decide) (fun c_250 => ?_) (fun c_250 => ?_)
          · skip
            refine lv_iconst (v := nI (2)) hx hb dL_changes_392 (by decide) ?_
            refine ms_S hx hb hml hown hts (c_some l g (y >>> ((nI (11)) &&& 31)) 2 (by decide) (by decide)) gL_changes_L_some rfl (by decide +kernel) ⟨Nat.le_of_ble_eq_true rfl, Nat.le_of_ble_eq_true rfl⟩ ⟨by show _ ≤ 3; omega, by show _ ≤ 18; omega⟩ hK hz hP hD hS hA hl.1 (rest := []) (Nat.le_of_ble_eq_true rfl) dL_changes_393 (fun r24 hr24 z H locs hz hP hD hS => ?_)
            exact j396 a b (r24) z hz H locs hP hD hS ls (lv_sub hl [1, 4, 5, 6, 7, 8, 9, 0] rfl)
          · skip
            refine lv_iconst (v := nI (4)) hx hb dL_changes_388 (by decide) ?_
            refine lv_goto (tgt := 393) hx hb dL_changes_389 (by decide) ?_
            refine ms_S hx hb hml hown hts (c_some l g (y >>> ((nI (11)) &&& 31)) 4 (by decide) (by decide)) gL_changes_L_some rfl (by decide +kernel) ⟨Nat.le_of_ble_eq_true rfl, Nat.le_of_ble_eq_true rfl⟩ ⟨by show _ ≤ 3; omega, by show _ ≤ 18; omega⟩ hK hz hP hD hS hA hl.1 (rest := []) (Nat.le_of_ble_eq_true rfl) dL_changes_393 (fun r25 hr25 z H locs hz hP hD hS => ?_)
            exact j396 a b (r25) z hz H locs hP hD hS ls (lv_sub hl [1, 4, 5, 6, 7, 8, 9, 0] rfl)
        · skip
          refine lv_iload_n hx hb dL_changes_360 rfl (lv_at hl 2 rfl) ?_
          refine lv_bipush (v := nI (11)) hx hb dL_changes_361 (by decide) ?_
          refine lv_ishr hx hb dL_changes_363 ?_
          refine lv_bipush (v := nI (6)) hx hb dL_changes_364 (by decide) ?_
          refine ms_S hx hb hml hown hts (c_some l g (y >>> ((nI (11)) &&& 31)) 6 (by decide) (by decide)) gL_changes_L_some rfl (by decide +kernel) ⟨Nat.le_of_ble_eq_true rfl, Nat.le_of_ble_eq_true rfl⟩ ⟨by show _ ≤ 3; omega, by show _ ≤ 18; omega⟩ hK hz hP hD hS hA hl.1 (rest := []) (Nat.le_of_ble_eq_true rfl) dL_changes_366 (fun r26 hr26 z H locs hz hP hD hS => ?_)
          refine lv_iconst (v := nI (1)) hx hb dL_changes_369 (by decide) ?_
          refine lv_isub hx hb dL_changes_370 ?_
          refine lv_goto (tgt := 396) hx hb dL_changes_371 (by decide) ?_
          exact j396 a b (r26 - (nI (1))) z hz H locs hP hD hS ls (lv_sub hl [1, 4, 5, 6, 7, 8, 9, 0] rfl)
      have j316 : ∀ (a : Int32) (z : Scr) (hz : ZOk z) (H : Heap) (locs : List Loc) (hP : va_P g.1 vwCl (MW g ad gm σ z) H) (hD : va_D A (MW g ad gm σ z)) (hS : va_S A s0.heap H locs) (ls : Array Slot) (hl : lv_has ls 17 [(0, .ref (ad 0)), (1, .int (y)), (2, .int (b2i (odd))), (3, .long (a_all σ)), (5, .int (nI k)), (6, .int (nI 0)), (7, .int (nI (s_n σ k))), (8, .int (nI (a_ct σ k)))]), W pg l ev (rmY 14 3 18) s0 mi ([.ref (ad 0), .int (y), .int (b2i (odd))] : List Value).toArray below meth cd H locs (0) (0) (MQ below (va_Qi (fun (x : Int32) (w : va_W) => ∃ σ' z', (fun x σ' => x = 1 ∧ SOk σ') x σ' ∧ ZOk z' ∧ w = MW g ad gm σ' z') (iB g (MW g ad gm σ z0)) A) ([.ref (ad 0), .int (y), .int (b2i (odd))] : List Value).toArray s0 3 18 A) (F0 mi 316 ls [.int (a)]) := by
        intro a z hz H locs hP hD hS ls hl
        refine lv_istore (lv' := [(10, .int (a)), (0, .ref (ad 0)), (1, .int (y)), (2, .int (b2i (odd))), (3, .long (a_all σ)), (5, .int (nI k)), (6, .int (nI 0)), (7, .int (nI (s_n σ k))), (8, .int (nI (a_ct σ k)))]) hx hb dL_changes_316 hl (by decide) rfl (fun ls hl => ?_)
        refine lv_iload_n hx hb dL_changes_318 rfl (lv_at hl 3 rfl) ?_
        refine bv_if_eq (tgt := 336) hx hb dL_changes_319 (by decide) (fun c_251 => ?_) (fun c_251 => ?_)
        · skip
          refine lv_iload_n hx hb dL_changes_336 rfl (lv_at hl 2 rfl) ?_
          refine lv_bipush (v := nI (9)) hx hb dL_changes_337 (by decide) ?_
          refine lv_ishr hx hb dL_changes_339 ?_
          refine lv_iload hx hb dL_changes_340 (lv_at hl 7 rfl) ?_
          refine nv_if_ne (tgt := 349) hx hb (by omega) dL_changes_342 (by decide) (fun c_252 => ?_) (fun c_252 => ?_)
          · skip
            refine lv_iload hx hb dL_changes_349 (lv_at hl 7 rfl) ?_
            refine ms_S hx hb hml hown hts (c_some l g (y >>> ((nI (9)) &&& 31)) (s_n σ k) (by omega) (by omega)) gL_changes_L_some rfl (by decide +kernel) ⟨Nat.le_of_ble_eq_true rfl, Nat.le_of_ble_eq_true rfl⟩ ⟨by show _ ≤ 3; omega, by show _ ≤ 18; omega⟩ hK hz hP hD hS hA hl.1 (rest := []) (Nat.le_of_ble_eq_true rfl) dL_changes_351 (fun r27 hr27 z H locs hz hP hD hS => ?_)
            exact j354 a (r27) z hz H locs hP hD hS ls (lv_sub hl [1, 2, 3, 4, 5, 6, 7, 8, 0] rfl)
          · skip
            refine lv_iconst (v := nI (1)) hx hb dL_changes_345 (by decide) ?_
            refine lv_goto (tgt := 351) hx hb dL_changes_346 (by decide) ?_
            refine ms_S hx hb hml hown hts (c_some l g (y >>> ((nI (9)) &&& 31)) 1 (by decide) (by decide)) gL_changes_L_some rfl (by decide +kernel) ⟨Nat.le_of_ble_eq_true rfl, Nat.le_of_ble_eq_true rfl⟩ ⟨by show _ ≤ 3; omega, by show _ ≤ 18; omega⟩ hK hz hP hD hS hA hl.1 (rest := []) (Nat.le_of_ble_eq_true rfl) dL_changes_351 (fun r28 hr28 z H locs hz hP hD hS => ?_)
            exact j354 a (r28) z hz H locs hP hD hS ls (lv_sub hl [1, 2, 3, 4, 5, 6, 7, 8, 0] rfl)
        · skip
          refine lv_iload_n hx hb dL_changes_322 rfl (lv_at hl 2 rfl) ?_
          refine lv_bipush (v := nI (9)) hx hb dL_changes_323 (by decide) ?_
          refine lv_ishr hx hb dL_changes_325 ?_
          refine lv_bipush (v := nI (7)) hx hb dL_changes_326 (by decide) ?_
          refine ms_S hx hb hml hown hts (c_some l g (y >>> ((nI (9)) &&& 31)) 7 (by decide) (by decide)) gL_changes_L_some rfl (by decide +kernel) ⟨Nat.le_of_ble_eq_true rfl, Nat.le_of_ble_eq_true rfl⟩ ⟨by show _ ≤ 3; omega, by show _ ≤ 18; omega⟩ hK hz hP hD hS hA hl.1 (rest := []) (Nat.le_of_ble_eq_true rfl) dL_changes_328 (fun r29 hr29 z H locs hz hP hD hS => ?_)
          refine lv_iconst (v := nI (1)) hx hb dL_changes_331 (by decide) ?_
          refine lv_isub hx hb dL_changes_332 ?_
          refine lv_goto (tgt := 354) hx hb dL_changes_333 (by decide) ?_
          exact j354 a (r29 - (nI (1))) z hz H locs hP hD hS ls (lv_sub hl [1, 2, 3, 4, 5, 6, 7, 8, 0] rfl)
      have j1069 : ∀ (z : Scr) (hz : ZOk z) (H : Heap) (locs : List Loc) (hP : va_P g.1 vwCl (MW g ad gm σ z) H) (hD : va_D A (MW g ad gm σ z)) (hS : va_S A s0.heap H locs) (ls : Array Slot) (hl : lv_has ls 17 [(0, .ref (ad 0)), (3, .long (a_all σ)), (5, .int (nI k)), (6, .int (nI 0)), (7, .int (nI (s_n σ k))), (8, .int (nI (a_ct σ k)))]), W pg l ev (rmY 14 3 18) s0 mi ([.ref (ad 0), .int (y), .int (b2i (odd))] : List Value).toArray below meth cd H locs (0) (0) (MQ below (va_Qi (fun (x : Int32) (w : va_W) => ∃ σ' z', (fun x σ' => x = 1 ∧ SOk σ') x σ' ∧ ZOk z' ∧ w = MW g ad gm σ' z') (iB g (MW g ad gm σ z0)) A) ([.ref (ad 0), .int (y), .int (b2i (odd))] : List Value).toArray s0 3 18 A) (F0 mi 1069 ls []) := by
        intro  z hz H locs hP hD hS ls hl
        have hσ2 : SOk (u_clr σ k) := u_clr_ok hσ
        have hn2 := u_clr_n σ k
        have hc2 := u_clr_ct σ k
        have hh2 := u_clr_hl hσ k
        refine lv_aload_n hx hb dL_changes_1069 rfl (lv_at hl 0 rfl) ?_
        refine lv_iconst (v := nI (2)) hx hb dL_changes_1070 (by decide) ?_
        refine lv_iload hx hb dL_changes_1071 (lv_at hl 2 rfl) ?_
        refine lv_iconst (v := nI (0)) hx hb dL_changes_1073 (by decide) ?_
        refine lv_iconst (v := nI (0)) hx hb dL_changes_1074 (by decide) ?_
        refine lv_iconst (v := nI (0)) hx hb dL_changes_1075 (by decide) ?_
        refine mx_S (k := 6) hx hb hml hown hts (k_clear l g ad gm hG σ hσ k hk4 (nI 0) (nI 0) (nI 0)) gL_changes_L_call rfl (by decide +kernel) ⟨Nat.le_of_ble_eq_true rfl, Nat.le_of_ble_eq_true rfl⟩ ⟨by show _ ≤ 3; omega, by show _ ≤ 18; omega⟩ hK hNX hZ hz hP hD hS hA rfl hl.1 (rest := []) (As := [.ref (ad 0), .int (nI 2), .int (nI k), .int (nI 0), .int (nI 0), .int (nI 0)]) rfl (Nat.le_of_ble_eq_true rfl) dL_changes_1076 (fun z H locs hz hP hD hS => ?_)
        refine lv_istore (lv' := [(10, .int (nI ((s_n σ k) + (a_ct σ k)))), (0, .ref (ad 0)), (3, .long (a_all σ)), (5, .int (nI k)), (6, .int (nI 0)), (7, .int (nI (s_n σ k))), (8, .int (nI (a_ct σ k)))]) hx hb dL_changes_1079 hl (by decide) rfl (fun ls hl => ?_)
        refine lv_iload hx hb dL_changes_1081 (lv_at hl 0 rfl) ?_
        refine lv_iconst (v := -1) hx hb dL_changes_1083 (by decide) ?_
        refine lv_icmp_eq (tgt := 1161) hx hb dL_changes_1084 (by decide) (fun c_253 => by exfalso; exact nI_nneg (by omega) (by decide) c_253) (fun c_253 => ?_)
        refine lv_iload hx hb dL_changes_1087 (lv_at hl 4 rfl) ?_
        refine lv_if_eq (tgt := 1111) hx hb dL_changes_1089 (by decide) (fun c_254 => ?_) (fun c_254 => absurd c_254 (by decide))
        refine lv_iload hx hb dL_changes_1111 (lv_at hl 0 rfl) ?_
        refine lv_iload hx hb dL_changes_1113 (lv_at hl 5 rfl) ?_
        refine lv_iload hx hb dL_changes_1115 (lv_at hl 6 rfl) ?_
        refine nv_iadd hx hb dL_changes_1117 ?_
        refine nv_icmp_ne (tgt := 1165) hx hb (by omega) (by omega) dL_changes_1118 (by decide) (fun c_255 => by exfalso; exact c_255 rfl) (fun c_255 => ?_)
        refine lv_aload_n hx hb dL_changes_1121 rfl (lv_at hl 1 rfl) ?_
        refine lv_iload hx hb dL_changes_1122 (lv_at hl 3 rfl) ?_
        refine mc_V (k := 1) hx hb hml hown hts (mc_ideas l g ad gm hG (u_clr σ k) hσ2 k (by omega)) gL_changes_X6_ideas rfl (by decide +kernel) ⟨Nat.le_of_ble_eq_true rfl, Nat.le_of_ble_eq_true rfl⟩ ⟨by show _ ≤ 3; omega, by show _ ≤ 18; omega⟩ hK hz hP hD hS hA rfl hl.1 (rest := []) (As := [.int (nI k)]) rfl (Nat.le_of_ble_eq_true rfl) dL_changes_1124 (fun z H locs hz hP hD hS => ?_)
        refine nv_if_ne (tgt := 1165) hx hb (by omega) dL_changes_1127 (by decide) (fun c_256 => by exfalso; exact c_256 hn2) (fun c_256 => ?_)
        refine lv_aload_n hx hb dL_changes_1130 rfl (lv_at hl 1 rfl) ?_
        refine lv_iload hx hb dL_changes_1131 (lv_at hl 3 rfl) ?_
        refine mc_V (k := 1) hx hb hml hown hts (mc_links l g ad gm hG (u_clr σ k) hσ2 k (by omega)) gL_changes_X6_links rfl (by decide +kernel) ⟨Nat.le_of_ble_eq_true rfl, Nat.le_of_ble_eq_true rfl⟩ ⟨by show _ ≤ 3; omega, by show _ ≤ 18; omega⟩ hK hz hP hD hS hA rfl hl.1 (rest := []) (As := [.int (nI k)]) rfl (Nat.le_of_ble_eq_true rfl) dL_changes_1133 (fun z H locs hz hP hD hS => ?_)
        refine nv_if_ne (tgt := 1165) hx hb (by omega) dL_changes_1136 (by decide) (fun c_257 => by exfalso; exact c_257 hc2) (fun c_257 => ?_)
        refine lv_aload_n hx hb dL_changes_1139 rfl (lv_at hl 1 rfl) ?_
        refine lv_iload hx hb dL_changes_1140 (lv_at hl 3 rfl) ?_
        refine mc_V (k := 1) hx hb hml hown hts (mc_held l g ad gm hG (u_clr σ k) hσ2 k (by omega)) gL_changes_X6_held rfl (by decide +kernel) ⟨Nat.le_of_ble_eq_true rfl, Nat.le_of_ble_eq_true rfl⟩ ⟨by show _ ≤ 3; omega, by show _ ≤ 18; omega⟩ hK hz hP hD hS hA rfl hl.1 (rest := []) (As := [.int (nI k)]) rfl (Nat.le_of_ble_eq_true rfl) dL_changes_1142 (fun z H locs hz hP hD hS => ?_)
        refine nv_if_ne (tgt := 1165) hx hb (by omega) dL_changes_1145 (by decide) (fun c_258 => by exfalso; exact c_258 hh2) (fun c_258 => ?_)
        refine lv_aload_n hx hb dL_changes_1148 rfl (lv_at hl 1 rfl) ?_
        refine lv_iconst (v := nI (2)) hx hb dL_changes_1149 (by decide) ?_
        refine lv_iload hx hb dL_changes_1150 (lv_at hl 3 rfl) ?_
        refine lv_iconst (v := nI (0)) hx hb dL_changes_1152 (by decide) ?_
        refine lv_iconst (v := nI (0)) hx hb dL_changes_1153 (by decide) ?_
        refine lv_iconst (v := nI (0)) hx hb dL_changes_1154 (by decide) ?_
        refine mx_S (k := 6) hx hb hml hown hts (k_clear l g ad gm hG (u_clr σ k) hσ2 k hk4 (nI 0) (nI 0) (nI 0)) gL_changes_L_call rfl (by decide +kernel) ⟨Nat.le_of_ble_eq_true rfl, Nat.le_of_ble_eq_true rfl⟩ ⟨by show _ ≤ 3; omega, by show _ ≤ 18; omega⟩ hK hNX hZ hz hP hD hS hA rfl hl.1 (rest := []) (As := [.ref (ad 0), .int (nI 2), .int (nI k), .int (nI 0), .int (nI 0), .int (nI 0)]) rfl (Nat.le_of_ble_eq_true rfl) dL_changes_1155 (fun z H locs hz hP hD hS => ?_)
        refine nv_if_ne (tgt := 1165) hx hb (by omega) dL_changes_1158 (by decide) (fun c_259 => by exfalso; omega) (fun c_259 => ?_)
        refine lv_iconst (v := nI (1)) hx hb dL_changes_1161 (by decide) ?_
        refine lv_goto (tgt := 1166) hx hb dL_changes_1162 (by decide) ?_
        exact my_retz (v := nI (1)) hx hb hr hlocks hz hP hS (by omega) (by omega) (mc := 3) (ms := 18) ⟨rfl, u_clr_ok hσ2⟩ (by first | exact b2i_nar _ | rfl) dL_changes_1166
      refine lv_iload hx hb dL_changes_27 (lv_at hl 0 rfl) ?_
      refine nv_if_lt (tgt := 38) hx hb (by omega) dL_changes_29 (by decide) (fun c_260 => by exfalso; exact c_260) (fun c_260 => ?_)
      refine lv_iload hx hb dL_changes_32 (lv_at hl 0 rfl) ?_
      refine lv_iconst (v := nI (3)) hx hb dL_changes_34 (by decide) ?_
      refine nv_icmp_le (tgt := 42) hx hb (by omega) (by omega) dL_changes_35 (by decide) (fun c_261 => ?_) (fun c_261 => by exfalso; omega)
      refine lv_iconst (v := nI (0)) hx hb dL_changes_42 (by decide) ?_
      refine lv_istore (lv' := [(6, .int (nI 0)), (5, .int (nI k)), (0, .ref (ad 0)), (1, .int (y)), (2, .int (b2i (odd))), (3, .long (a_all σ))]) hx hb dL_changes_43 hl (by decide) rfl (fun ls hl => ?_)
      refine lv_iload hx hb dL_changes_45 (lv_at hl 0 rfl) ?_
      refine lv_if_eq (tgt := 54) hx hb dL_changes_47 (by decide) (fun c_262 => ?_) (fun c_262 => absurd c_262 (by decide))
      refine lv_aload_n hx hb dL_changes_54 rfl (lv_at hl 2 rfl) ?_
      refine lv_iload hx hb dL_changes_55 (lv_at hl 1 rfl) ?_
      refine mc_V (k := 1) hx hb hml hown hts (mc_ideas l g ad gm hG σ hσ k (by omega)) gL_changes_X6_ideas rfl (by decide +kernel) ⟨Nat.le_of_ble_eq_true rfl, Nat.le_of_ble_eq_true rfl⟩ ⟨by show _ ≤ 3; omega, by show _ ≤ 18; omega⟩ hK hz hP hD hS hA rfl hl.1 (rest := []) (As := [.int (nI k)]) rfl (Nat.le_of_ble_eq_true rfl) dL_changes_57 (fun z H locs hz hP hD hS => ?_)
      refine lv_istore (lv' := [(7, .int (nI (s_n σ k))), (6, .int (nI 0)), (5, .int (nI k)), (0, .ref (ad 0)), (1, .int (y)), (2, .int (b2i (odd))), (3, .long (a_all σ))]) hx hb dL_changes_60 hl (by decide) rfl (fun ls hl => ?_)
      refine lv_iload hx hb dL_changes_62 (lv_at hl 1 rfl) ?_
      refine lv_if_eq (tgt := 71) hx hb dL_changes_64 (by decide) (fun c_263 => ?_) (fun c_263 => absurd c_263 (by decide))
      refine lv_aload_n hx hb dL_changes_71 rfl (lv_at hl 3 rfl) ?_
      refine lv_iload hx hb dL_changes_72 (lv_at hl 2 rfl) ?_
      refine mc_V (k := 1) hx hb hml hown hts (mc_links l g ad gm hG σ hσ k (by omega)) gL_changes_X6_links rfl (by decide +kernel) ⟨Nat.le_of_ble_eq_true rfl, Nat.le_of_ble_eq_true rfl⟩ ⟨by show _ ≤ 3; omega, by show _ ≤ 18; omega⟩ hK hz hP hD hS hA rfl hl.1 (rest := []) (As := [.int (nI k)]) rfl (Nat.le_of_ble_eq_true rfl) dL_changes_74 (fun z H locs hz hP hD hS => ?_)
      refine lv_istore (lv' := [(8, .int (nI (a_ct σ k))), (7, .int (nI (s_n σ k))), (6, .int (nI 0)), (5, .int (nI k)), (0, .ref (ad 0)), (1, .int (y)), (2, .int (b2i (odd))), (3, .long (a_all σ))]) hx hb dL_changes_77 hl (by decide) rfl (fun ls hl => ?_)
      refine lv_iload_n hx hb dL_changes_79 rfl (lv_at hl 5 rfl) ?_
      refine lv_iconst (v := nI (3)) hx hb dL_changes_80 (by decide) ?_
      refine lv_ishr hx hb dL_changes_81 ?_
      refine lv_bipush (v := nI (16)) hx hb dL_changes_82 (by decide) ?_
      refine ms_S hx hb hml hown hts (c_some l g (y >>> ((nI (3)) &&& 31)) 16 (by decide) (by decide)) gL_changes_L_some rfl (by decide +kernel) ⟨Nat.le_of_ble_eq_true rfl, Nat.le_of_ble_eq_true rfl⟩ ⟨by show _ ≤ 3; omega, by show _ ≤ 18; omega⟩ hK hz hP hD hS hA hl.1 (rest := []) (Nat.le_of_ble_eq_true rfl) dL_changes_84 (fun r30 hr30 z H locs hz hP hD hS => ?_)
      refine lv_istore (lv' := [(9, .int (r30)), (8, .int (nI (a_ct σ k))), (7, .int (nI (s_n σ k))), (6, .int (nI 0)), (5, .int (nI k)), (0, .ref (ad 0)), (1, .int (y)), (2, .int (b2i (odd))), (3, .long (a_all σ))]) hx hb dL_changes_87 hl (by decide) rfl (fun ls hl => ?_)
      refine lv_iload hx hb dL_changes_89 (lv_at hl 0 rfl) ?_
      refine lv_iconst (v := nI (4)) hx hb dL_changes_91 (by decide) ?_
      refine lv_icmp_ge (tgt := 273) hx hb dL_changes_92 (by decide) (fun c_264 => ?_) (fun c_264 => ?_)
      · skip
        refine lv_iload hx hb dL_changes_273 (lv_at hl 0 rfl) ?_
        refine lv_bipush (v := nI (13)) hx hb dL_changes_275 (by decide) ?_
        refine lv_icmp_ge (tgt := 640) hx hb dL_changes_277 (by decide) (fun c_265 => ?_) (fun c_265 => ?_)
        · skip
          refine lv_iload hx hb dL_changes_640 (lv_at hl 0 rfl) ?_
          refine lv_bipush (v := nI (14)) hx hb dL_changes_642 (by decide) ?_
          refine lv_icmp_ge (tgt := 830) hx hb dL_changes_644 (by decide) (fun c_266 => ?_) (fun c_266 => ?_)
          · skip
            refine lv_iload hx hb dL_changes_830 (lv_at hl 0 rfl) ?_
            refine lv_bipush (v := nI (15)) hx hb dL_changes_832 (by decide) ?_
            refine lv_icmp_ge (tgt := 1050) hx hb dL_changes_834 (by decide) (fun c_267 => ?_) (fun c_267 => ?_)
            · skip
              refine lv_iload_n hx hb dL_changes_1050 rfl (lv_at hl 6 rfl) ?_
              refine lv_bipush (v := nI (7)) hx hb dL_changes_1051 (by decide) ?_
              refine lv_ishr hx hb dL_changes_1053 ?_
              refine lv_iconst (v := nI (4)) hx hb dL_changes_1054 (by decide) ?_
              refine ms_S hx hb hml hown hts (c_some l g (y >>> ((nI (7)) &&& 31)) 4 (by decide) (by decide)) gL_changes_L_some rfl (by decide +kernel) ⟨Nat.le_of_ble_eq_true rfl, Nat.le_of_ble_eq_true rfl⟩ ⟨by show _ ≤ 3; omega, by show _ ≤ 18; omega⟩ hK hz hP hD hS hA hl.1 (rest := []) (Nat.le_of_ble_eq_true rfl) dL_changes_1055 (fun r31 hr31 z H locs hz hP hD hS => ?_)
              refine lv_if_le (tgt := 1069) hx hb dL_changes_1058 (by decide) (fun c_268 => ?_) (fun c_268 => ?_)
              · skip
                exact j1069  z hz H locs hP hD hS ls (lv_sub hl [5, 8, 4, 3, 2, 1] rfl)
              · skip
                refine lv_iload_n hx hb dL_changes_1061 rfl (lv_at hl 7 rfl) ?_
                refine bv_if_ne (tgt := 1069) hx hb dL_changes_1062 (by decide) (fun c_269 => ?_) (fun c_269 => ?_)
                · skip
                  exact j1069  z hz H locs hP hD hS ls (lv_sub hl [5, 8, 4, 3, 2, 1] rfl)
                · skip
                  refine lv_iconst (v := -1) hx hb dL_changes_1065 (by decide) ?_
                  refine lv_goto (tgt := 1079) hx hb dL_changes_1066 (by decide) ?_
                  refine lv_istore (lv' := [(10, .int (-1)), (9, .int (r30)), (8, .int (nI (a_ct σ k))), (7, .int (nI (s_n σ k))), (6, .int (nI 0)), (5, .int (nI k)), (0, .ref (ad 0)), (1, .int (y)), (2, .int (b2i (odd))), (3, .long (a_all σ))]) hx hb dL_changes_1079 hl (by decide) rfl (fun ls hl => ?_)
                  refine lv_iload hx hb dL_changes_1081 (lv_at hl 0 rfl) ?_
                  refine lv_iconst (v := -1) hx hb dL_changes_1083 (by decide) ?_
                  refine lv_icmp_eq (tgt := 1161) hx hb dL_changes_1084 (by decide) (fun c_270 => ?_) (fun c_270 => absurd c_270 (by decide))
                  refine lv_iconst (v := nI (1)) hx hb dL_changes_1161 (by decide) ?_
                  refine lv_goto (tgt := 1166) hx hb dL_changes_1162 (by decide) ?_
                  exact my_retz (v := nI (1)) hx hb hr hlocks hz hP hS (by omega) (by omega) (mc := 3) (ms := 18) ⟨rfl, hσ⟩ (by first | exact b2i_nar _ | rfl) dL_changes_1166
            · skip
              exact j837  z hz H locs hP hD hS ls (lv_sub hl [5, 6, 7, 8] rfl)
          · skip
            exact j647  z hz H locs hP hD hS ls (lv_sub hl [5, 6, 7, 8] rfl)
        · skip
          refine lv_iload_n hx hb dL_changes_280 rfl (lv_at hl 7 rfl) ?_
          refine bv_if_eq (tgt := 298) hx hb dL_changes_281 (by decide) (fun c_271 => ?_) (fun c_271 => ?_)
          · skip
            refine lv_iload_n hx hb dL_changes_298 rfl (lv_at hl 6 rfl) ?_
            refine lv_bipush (v := nI (7)) hx hb dL_changes_299 (by decide) ?_
            refine lv_ishr hx hb dL_changes_301 ?_
            refine lv_iload hx hb dL_changes_302 (lv_at hl 2 rfl) ?_
            refine nv_if_ne (tgt := 311) hx hb (by omega) dL_changes_304 (by decide) (fun c_272 => ?_) (fun c_272 => ?_)
            · skip
              refine lv_iload hx hb dL_changes_311 (lv_at hl 2 rfl) ?_
              refine ms_S hx hb hml hown hts (c_some l g (y >>> ((nI (7)) &&& 31)) (s_n σ k) (by omega) (by omega)) gL_changes_L_some rfl (by decide +kernel) ⟨Nat.le_of_ble_eq_true rfl, Nat.le_of_ble_eq_true rfl⟩ ⟨by show _ ≤ 3; omega, by show _ ≤ 18; omega⟩ hK hz hP hD hS hA hl.1 (rest := []) (Nat.le_of_ble_eq_true rfl) dL_changes_313 (fun r32 hr32 z H locs hz hP hD hS => ?_)
              exact j316 (r32) z hz H locs hP hD hS ls (lv_sub hl [5, 6, 7, 8, 4, 3, 2, 1] rfl)
            · skip
              refine lv_iconst (v := nI (1)) hx hb dL_changes_307 (by decide) ?_
              refine lv_goto (tgt := 313) hx hb dL_changes_308 (by decide) ?_
              refine ms_S hx hb hml hown hts (c_some l g (y >>> ((nI (7)) &&& 31)) 1 (by decide) (by decide)) gL_changes_L_some rfl (by decide +kernel) ⟨Nat.le_of_ble_eq_true rfl, Nat.le_of_ble_eq_true rfl⟩ ⟨by show _ ≤ 3; omega, by show _ ≤ 18; omega⟩ hK hz hP hD hS hA hl.1 (rest := []) (Nat.le_of_ble_eq_true rfl) dL_changes_313 (fun r33 hr33 z H locs hz hP hD hS => ?_)
              exact j316 (r33) z hz H locs hP hD hS ls (lv_sub hl [5, 6, 7, 8, 4, 3, 2, 1] rfl)
          · skip
            refine lv_iload_n hx hb dL_changes_284 rfl (lv_at hl 6 rfl) ?_
            refine lv_bipush (v := nI (7)) hx hb dL_changes_285 (by decide) ?_
            refine lv_ishr hx hb dL_changes_287 ?_
            refine lv_bipush (v := nI (7)) hx hb dL_changes_288 (by decide) ?_
            refine ms_S hx hb hml hown hts (c_some l g (y >>> ((nI (7)) &&& 31)) 7 (by decide) (by decide)) gL_changes_L_some rfl (by decide +kernel) ⟨Nat.le_of_ble_eq_true rfl, Nat.le_of_ble_eq_true rfl⟩ ⟨by show _ ≤ 3; omega, by show _ ≤ 18; omega⟩ hK hz hP hD hS hA hl.1 (rest := []) (Nat.le_of_ble_eq_true rfl) dL_changes_290 (fun r34 hr34 z H locs hz hP hD hS => ?_)
            refine lv_iconst (v := nI (1)) hx hb dL_changes_293 (by decide) ?_
            refine lv_isub hx hb dL_changes_294 ?_
            refine lv_goto (tgt := 316) hx hb dL_changes_295 (by decide) ?_
            exact j316 (r34 - (nI (1))) z hz H locs hP hD hS ls (lv_sub hl [5, 6, 7, 8, 4, 3, 2, 1] rfl)
      · skip
        refine lv_iload_n hx hb dL_changes_95 rfl (lv_at hl 7 rfl) ?_
        refine bv_if_eq (tgt := 113) hx hb dL_changes_96 (by decide) (fun c_273 => ?_) (fun c_273 => ?_)
        · skip
          refine lv_iload_n hx hb dL_changes_113 rfl (lv_at hl 6 rfl) ?_
          refine lv_bipush (v := nI (7)) hx hb dL_changes_114 (by decide) ?_
          refine lv_ishr hx hb dL_changes_116 ?_
          refine lv_iconst (v := nI (5)) hx hb dL_changes_117 (by decide) ?_
          refine ms_S hx hb hml hown hts (c_some l g (y >>> ((nI (7)) &&& 31)) 5 (by decide) (by decide)) gL_changes_L_some rfl (by decide +kernel) ⟨Nat.le_of_ble_eq_true rfl, Nat.le_of_ble_eq_true rfl⟩ ⟨by show _ ≤ 3; omega, by show _ ≤ 18; omega⟩ hK hz hP hD hS hA hl.1 (rest := []) (Nat.le_of_ble_eq_true rfl) dL_changes_118 (fun r35 hr35 z H locs hz hP hD hS => ?_)
          exact j121 (r35) z hz H locs hP hD hS ls (lv_sub hl [5, 8, 4, 3, 2, 1] rfl)
        · skip
          refine lv_iload_n hx hb dL_changes_99 rfl (lv_at hl 6 rfl) ?_
          refine lv_bipush (v := nI (7)) hx hb dL_changes_100 (by decide) ?_
          refine lv_ishr hx hb dL_changes_102 ?_
          refine lv_bipush (v := nI (34)) hx hb dL_changes_103 (by decide) ?_
          refine ms_S hx hb hml hown hts (c_some l g (y >>> ((nI (7)) &&& 31)) 34 (by decide) (by decide)) gL_changes_L_some rfl (by decide +kernel) ⟨Nat.le_of_ble_eq_true rfl, Nat.le_of_ble_eq_true rfl⟩ ⟨by show _ ≤ 3; omega, by show _ ≤ 18; omega⟩ hK hz hP hD hS hA hl.1 (rest := []) (Nat.le_of_ble_eq_true rfl) dL_changes_105 (fun r36 hr36 z H locs hz hP hD hS => ?_)
          refine lv_iconst (v := nI (1)) hx hb dL_changes_108 (by decide) ?_
          refine lv_isub hx hb dL_changes_109 ?_
          refine lv_goto (tgt := 121) hx hb dL_changes_110 (by decide) ?_
          exact j121 (r36 - (nI (1))) z hz H locs hP hD hS ls (lv_sub hl [5, 8, 4, 3, 2, 1] rfl)
  have hP := hP0; have hD := hD0; have hS := hS0; have hl := hl0; have hz := hz0
  refine lv_aload_n hx hb dL_changes_0 rfl (lv_at hl 0 rfl) ?_
  refine ml_S (k := 1) hx hb hml hown hts (c_all l g ad gm hG σ hσ) gL_changes_L_all rfl (by decide +kernel) ⟨Nat.le_of_ble_eq_true rfl, Nat.le_of_ble_eq_true rfl⟩ ⟨by show _ ≤ 3; omega, by show _ ≤ 18; omega⟩ hK hz hP hD hS hA rfl hl.1 (rest := []) (As := [.ref (ad 0)]) rfl (Nat.le_of_ble_eq_true rfl) dL_changes_1 (fun z H locs hz hP hD hS => ?_)
  refine lv_lstore_n (lv' := [(3, .long (a_all σ)), (0, .ref (ad 0)), (1, .int (y)), (2, .int (b2i (odd)))]) hx hb dL_changes_4 rfl hl (by decide) rfl (fun ls hl => ?_)
  refine lv_iload_n hx hb dL_changes_5 rfl (lv_at hl 3 rfl) ?_
  refine bv_if_eq (tgt := 20) hx hb dL_changes_6 (by decide) (fun c_274 => ?_) (fun c_274 => ?_)
  · skip
    refine lv_iload_n hx hb dL_changes_20 rfl (lv_at hl 2 rfl) ?_
    refine lv_iconst (v := nI (3)) hx hb dL_changes_21 (by decide) ?_
    refine ms_S hx hb hml hown hts (c_some l g y 3 (by decide) (by decide)) gL_changes_L_some rfl (by decide +kernel) ⟨Nat.le_of_ble_eq_true rfl, Nat.le_of_ble_eq_true rfl⟩ ⟨by show _ ≤ 3; omega, by show _ ≤ 18; omega⟩ hK hz hP hD hS hA hl.1 (rest := []) (Nat.le_of_ble_eq_true rfl) dL_changes_22 (fun r37 hr37 z H locs hz hP hD hS => ?_)
    exact j25 (r37) z hz H locs hP hD hS ls (lv_sub hl [1, 2, 3, 0] rfl)
  · skip
    refine lv_iload_n hx hb dL_changes_9 rfl (lv_at hl 2 rfl) ?_
    refine lv_bipush (v := nI (6)) hx hb dL_changes_10 (by decide) ?_
    refine ms_S hx hb hml hown hts (c_some l g y 6 (by decide) (by decide)) gL_changes_L_some rfl (by decide +kernel) ⟨Nat.le_of_ble_eq_true rfl, Nat.le_of_ble_eq_true rfl⟩ ⟨by show _ ≤ 3; omega, by show _ ≤ 18; omega⟩ hK hz hP hD hS hA hl.1 (rest := []) (Nat.le_of_ble_eq_true rfl) dL_changes_12 (fun r38 hr38 z H locs hz hP hD hS => ?_)
    refine lv_iconst (v := nI (1)) hx hb dL_changes_15 (by decide) ?_
    refine lv_isub hx hb dL_changes_16 ?_
    refine lv_goto (tgt := 25) hx hb dL_changes_17 (by decide) ?_
    exact j25 (r38 - (nI (1))) z hz H locs hP hD hS ls (lv_sub hl [1, 2, 3, 0] rfl)
