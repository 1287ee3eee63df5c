theorem lw_gt {L i : Nat} (hL : L ≤ 10000) (hi : i ≤ 10000) : (Int32.ofNat L - nI 5 < nI i) ↔ L < i + 5 := by
  show nI L - nI 5 < nI i ↔ _
  by_cases h : 5 ≤ L
  · rw [nI_subI h, nI_ltI (by omega) (by omega)]; omega
  · constructor
    · intro _; omega
    · intro _
      have e : nI L - nI 5 = -(nI (5 - L)) := by
        rw [← nI_subI (a := 5) (b := L) (by omega)]
        simp [Int32.neg_sub]
      rw [e, Int32.lt_iff_toInt_lt, nI_toInt (by omega)]
      have h2 : (-(nI (5 - L))).toInt = -((5 - L : Nat) : Int) := by
        rw [Int32.toInt_neg, nI_toInt (by omega)]
        refine Int.bmod_eq_of_le ?_ ?_ <;> omega
      rw [h2]; omega
theorem and31 (v : Int32) : ∃ t, t < 32 ∧ v &&& nI 31 = nI t := by
  refine ⟨(v &&& nI 31).toBitVec.toNat, ?_, ?_⟩
  · show (v.toBitVec &&& (nI 31).toBitVec).toNat < 32
    rw [BitVec.toNat_and]
    have h : (nI 31).toBitVec.toNat = 31 := by decide
    rw [h]
    have := Nat.and_le_right (n := v.toBitVec.toNat) (m := 31)
    omega
  · apply Int32.toBitVec_inj.mp
    show _ = BitVec.ofNat 32 _
    rw [BitVec.ofNat_toNat]; simp
set_option maxRecDepth 100000 in
set_option maxHeartbeats 4000000 in
theorem law_loop {pg : Program} {l : Launch} {e : Env} {s : State} {m : MethodId} {below : List Frame} {meth : Method} {c : Code} {g : GG} {sb L : Nat} {xs : Nat → Int32} (hr : meth.sig.returnType = ret) (hlocks : meth.locks = false) (C0 : LCtx pg l s m c (fun q : Nat => s.heap.size ≤ q) g sb L xs) (gm : Nat → Option Nat) (X xa a0 a0w a0wa a0o a0or a0oa a1 a1w a1wa a1o a1or a1oa a2 a2w a2wa a2o a2or a2oa a3 a3w a3wa a3o a3or a3oa th thr tha cx cxr cxa lo lor loa tl tlr tla tt ttr tta mx ra aa rp ap rh ah rt ta rb ab o ria rwa rha roa rga rca rma rba rka out : Nat) (hgm : gm 0 = some a0 ∧ gm 1 = some a1 ∧ gm 2 = some a2 ∧ gm 3 = some a3) : ∀ (k9 i cells slots : Nat) (idn : Nat → Nat) (wF : Nat → Nat → Nat) (mF : Nat → Nat → Nat) (gr : Nat → Nat) (ch : Nat → Option Nat) (hd : Nat → Nat) (tlm : Nat → Nat) (thm : Nat → Nat) (al : Nat → Nat) (pp : Nat → Nat) (chp : Nat → Nat) (ctr : Nat → Option Nat) (cbs : Nat → Option Nat) (p : Nat) (q : Nat) (bg : Nat) (bl : Option Nat) (bp : Option Nat) (wd : Nat → Nat) (hs : Nat → Bool) (ro : Nat → Bool) (rmt : Nat → Option Nat) (rbs : Nat → Option Nat) (rbk : Nat → Option Nat) (hnt : Option Nat) (gd : Nat) (tn : Nat) (fo : Nat → Int64) (hI : LInv idn wF mF gr ch wd hs) (hSc : LSc tlm thm al pp chp ctr cbs) (hk : L - i < k9) (hi : i ≤ L) (hcs : cells ≤ 100 + i ∧ slots ≤ 3000 + 6 * i) (H : Heap) (locs : List Loc) (hP : va_P g.1 vwCl (LWd g a0 0 1 2 3 gm X xa a0 a0w a0wa a0o a0or a0oa a1 a1w a1wa a1o a1or a1oa a2 a2w a2wa a2o a2or a2oa a3 a3w a3wa a3o a3or a3oa th thr tha cx cxr cxa lo lor loa tl tlr tla tt ttr tta mx ra aa rp ap rh ah rt ta rb ab o ria rwa rha roa rga rca rma rba rka out idn wF mF gr ch hd tlm thm al pp chp ctr cbs p q bg bl bp wd hs ro rmt rbs rbk hnt gd tn fo) H) (hD : va_D (fun q : Nat => s.heap.size ≤ q) (LWd g a0 0 1 2 3 gm X xa a0 a0w a0wa a0o a0or a0oa a1 a1w a1wa a1o a1or a1oa a2 a2w a2wa a2o a2or a2oa a3 a3w a3wa a3o a3or a3oa th thr tha cx cxr cxa lo lor loa tl tlr tla tt ttr tta mx ra aa rp ap rh ah rt ta rb ab o ria rwa rha roa rga rca rma rba rka out idn wF mF gr ch hd tlm thm al pp chp ctr cbs p q bg bl bp wd hs ro rmt rbs rbk hnt gd tn fo)) (hS : va_S (fun q : Nat => s.heap.size ≤ q) s.heap H locs) (ls : Array Slot) (hl : lv_has ls 7 [(0, .ref sb), (1, .ref X), (2, .ref o), (3, .ref out), (4, .int (nI i))]), W pg l e room_1 s m #[Value.ref sb] below meth c H locs cells slots (lw_Z below #[Value.ref sb] s) (F0 m 23 ls []) := by
  intro k9
  induction k9 with
  | zero => intros; omega
  | succ k9 ih =>
    intro i cells slots idn wF mF gr ch hd tlm thm al pp chp ctr cbs p q bg bl bp wd hs ro rmt rbs rbk hnt gd tn fo hI hSc hk hi hcs H locs hP hD hS ls hl
    obtain ⟨hx, hb, hml, hown, hts, hK, hA, hNX, hZ, hX, hbl, hbA, hL, hst⟩ := id C0
    refine lv_iload hx hb dL_law_23 (lv_at hl 4 rfl) ?_
    refine lv_aload_n hx hb dL_law_25 rfl (lv_at hl 0 rfl) ?_
    refine va_slen hx hb hX hbl hbA hS dL_law_26 ?_
    refine lv_iconst (v := nI 5) hx hb dL_law_27 (by decide) ?_
    refine lv_isub hx hb dL_law_28 ?_
    refine lv_icmp_gt (tgt := 1284) hx hb dL_law_29 (by decide) (fun c_1 => ?_) (fun c_1 => ?_)
    · refine lv_iconst (v := 1) hx hb dL_law_1284 (by decide) ?_
      refine va_forget (fun q hq => hS.2.2 q hq) ?_
      refine W.widen (k := 601024) (n := 7293033) (by omega) (by omega) ?_
      exact lw_ret hx hb hr hlocks dL_law_1285
    · have hi5 : i + 5 ≤ L := Nat.not_lt.mp (fun z => c_1 ((lw_gt (by omega) (by omega)).mpr z))
      refine lv_aload_n hx hb dL_law_32 rfl (lv_at hl 0 rfl) ?_
      refine lv_iload hx hb dL_law_33 (lv_at hl 4 rfl) ?_
      refine va_sld hx hb hX hbl hbA hS (vp_in_nI (by omega) (by omega)) dL_law_35 ?_
      rw [nI_clamp (by omega)]
      refine lv_bipush (v := nI 31) hx hb dL_law_36 (by decide) ?_
      refine lv_iand hx hb dL_law_38 ?_
      obtain ⟨t, ht, e9⟩ := and31 (xs i)
      rw [e9]
      have kk : LK pg l e s m below meth c (lw_Z below #[Value.ref sb] s) (fun q : Nat => s.heap.size ≤ q) g cells slots sb i a0 0 1 2 3 gm X xa a0 a0w a0wa a0o a0or a0oa a1 a1w a1wa a1o a1or a1oa a2 a2w a2wa a2o a2or a2oa a3 a3w a3wa a3o a3or a3oa th thr tha cx cxr cxa lo lor loa tl tlr tla tt ttr tta mx ra aa rp ap rh ah rt ta rb ab o ria rwa rha roa rga rca rma rba rka out := by
        intro idn wF mF gr ch hd tlm thm al pp chp ctr cbs p q bg bl bp wd hs ro rmt rbs rbk hnt gd tn fo hI hSc H locs hP hD hS ls hl
        refine lv_iinc (v := nI (i + 5)) (lv' := [(4, .int (nI (i + 5))), (0, .ref sb), (1, .ref X), (2, .ref o), (3, .ref out)]) hx hb dL_law_1278 hl (k := 4) rfl (by show nI _ + _ = _; rw [show Int32.ofInt 5 = nI 5 from by decide, nI_add]) (by decide) rfl (fun ls hl => ?_)
        refine lv_goto (tgt := 23) hx hb dL_law_1281 (by decide) ?_
        exact ih (i + 5) (cells + 1) (slots + 6) idn wF mF gr ch hd tlm thm al pp chp ctr cbs p q bg bl bp wd hs ro rmt rbs rbk hnt gd tn fo hI hSc (by omega) (by omega) (by omega) H locs hP hD hS ls (lv_sub hl [1, 2, 3, 4, 0] rfl)
      have hfc : cells + 1 ≤ 601024 ∧ slots + 6 ≤ 7293033 := by omega
      rcases (show t = 0 ∨ t = 1 ∨ t = 2 ∨ t = 3 ∨ t = 4 ∨ t = 5 ∨ t = 6 ∨ t = 7 ∨ t = 8 ∨ t = 9 ∨ t = 10 ∨ t = 11 ∨ t = 12 ∨ t = 13 ∨ t = 14 ∨ t = 15 ∨ t = 16 ∨ t = 17 ∨ t = 18 ∨ t = 19 ∨ t = 20 ∨ t = 21 ∨ t = 22 ∨ t = 23 ∨ t = 24 ∨ t = 25 ∨ t = 26 ∨ t = 27 ∨ t = 28 ∨ t = 29 ∨ t = 30 ∨ t = 31 by omega) with rfl | rfl | rfl | rfl | rfl | rfl | rfl | rfl | rfl | rfl | rfl | rfl | rfl | rfl | rfl | rfl | rfl | rfl | rfl | rfl | rfl | rfl | rfl | rfl | rfl | rfl | rfl | rfl | rfl | rfl | rfl | rfl
      · refine lv_tableIn (off := 85) (tgt := 124) hx hb dL_law_39 (by decide) (by decide) (by decide) (by decide) ?_
        exact op_addIdea C0 hi5 hfc gm X xa a0 a0w a0wa a0o a0or a0oa a1 a1w a1wa a1o a1or a1oa a2 a2w a2wa a2o a2or a2oa a3 a3w a3wa a3o a3or a3oa th thr tha cx cxr cxa lo lor loa tl tlr tla tt ttr tta mx ra aa rp ap rh ah rt ta rb ab o ria rwa rha roa rga rca rma rba rka out idn wF mF gr ch hd tlm thm al pp chp ctr cbs p q bg bl bp wd hs ro rmt rbs rbk hnt gd tn fo hgm hI hSc hP hD hS hl kk
      · refine lv_tableIn (off := 153) (tgt := 192) hx hb dL_law_39 (by decide) (by decide) (by decide) (by decide) ?_
        exact op_link C0 hi5 hfc gm X xa a0 a0w a0wa a0o a0or a0oa a1 a1w a1wa a1o a1or a1oa a2 a2w a2wa a2o a2or a2oa a3 a3w a3wa a3o a3or a3oa th thr tha cx cxr cxa lo lor loa tl tlr tla tt ttr tta mx ra aa rp ap rh ah rt ta rb ab o ria rwa rha roa rga rca rma rba rka out idn wF mF gr ch hd tlm thm al pp chp ctr cbs p q bg bl bp wd hs ro rmt rbs rbk hnt gd tn fo hgm hI hSc hP hD hS hl kk
      · refine lv_tableIn (off := 252) (tgt := 291) hx hb dL_law_39 (by decide) (by decide) (by decide) (by decide) ?_
        exact op_clear C0 hi5 hfc gm X xa a0 a0w a0wa a0o a0or a0oa a1 a1w a1wa a1o a1or a1oa a2 a2w a2wa a2o a2or a2oa a3 a3w a3wa a3o a3or a3oa th thr tha cx cxr cxa lo lor loa tl tlr tla tt ttr tta mx ra aa rp ap rh ah rt ta rb ab o ria rwa rha roa rga rca rma rba rka out idn wF mF gr ch hd tlm thm al pp chp ctr cbs p q bg bl bp wd hs ro rmt rbs rbk hnt gd tn fo hgm hI hSc hP hD hS hl kk
      · refine lv_tableIn (off := 308) (tgt := 347) hx hb dL_law_39 (by decide) (by decide) (by decide) (by decide) ?_
        exact op_synonyms C0 hi5 hfc gm X xa a0 a0w a0wa a0o a0or a0oa a1 a1w a1wa a1o a1or a1oa a2 a2w a2wa a2o a2or a2oa a3 a3w a3wa a3o a3or a3oa th thr tha cx cxr cxa lo lor loa tl tlr tla tt ttr tta mx ra aa rp ap rh ah rt ta rb ab o ria rwa rha roa rga rca rma rba rka out idn wF mF gr ch hd tlm thm al pp chp ctr cbs p q bg bl bp wd hs ro rmt rbs rbk hnt gd tn fo hgm hI hSc hP hD hS hl kk
      · refine lv_tableIn (off := 383) (tgt := 422) hx hb dL_law_39 (by decide) (by decide) (by decide) (by decide) ?_
        exact op_chain C0 hi5 hfc gm X xa a0 a0w a0wa a0o a0or a0oa a1 a1w a1wa a1o a1or a1oa a2 a2w a2wa a2o a2or a2oa a3 a3w a3wa a3o a3or a3oa th thr tha cx cxr cxa lo lor loa tl tlr tla tt ttr tta mx ra aa rp ap rh ah rt ta rb ab o ria rwa rha roa rga rca rma rba rka out idn wF mF gr ch hd tlm thm al pp chp ctr cbs p q bg bl bp wd hs ro rmt rbs rbk hnt gd tn fo hgm hI hSc hP hD hS hl kk
      · refine lv_tableIn (off := 463) (tgt := 502) hx hb dL_law_39 (by decide) (by decide) (by decide) (by decide) ?_
        exact op_ideas C0 hi5 hfc gm X xa a0 a0w a0wa a0o a0or a0oa a1 a1w a1wa a1o a1or a1oa a2 a2w a2wa a2o a2or a2oa a3 a3w a3wa a3o a3or a3oa th thr tha cx cxr cxa lo lor loa tl tlr tla tt ttr tta mx ra aa rp ap rh ah rt ta rb ab o ria rwa rha roa rga rca rma rba rka out idn wF mF gr ch hd tlm thm al pp chp ctr cbs p q bg bl bp wd hs ro rmt rbs rbk hnt gd tn fo hgm hI hSc hP hD hS hl kk
      · refine lv_tableIn (off := 519) (tgt := 558) hx hb dL_law_39 (by decide) (by decide) (by decide) (by decide) ?_
        exact op_links C0 hi5 hfc gm X xa a0 a0w a0wa a0o a0or a0oa a1 a1w a1wa a1o a1or a1oa a2 a2w a2wa a2o a2or a2oa a3 a3w a3wa a3o a3or a3oa th thr tha cx cxr cxa lo lor loa tl tlr tla tt ttr tta mx ra aa rp ap rh ah rt ta rb ab o ria rwa rha roa rga rca rma rba rka out idn wF mF gr ch hd tlm thm al pp chp ctr cbs p q bg bl bp wd hs ro rmt rbs rbk hnt gd tn fo hgm hI hSc hP hD hS hl kk
      · refine lv_tableIn (off := 575) (tgt := 614) hx hb dL_law_39 (by decide) (by decide) (by decide) (by decide) ?_
        exact op_held C0 hi5 hfc gm X xa a0 a0w a0wa a0o a0or a0oa a1 a1w a1wa a1o a1or a1oa a2 a2w a2wa a2o a2or a2oa a3 a3w a3wa a3o a3or a3oa th thr tha cx cxr cxa lo lor loa tl tlr tla tt ttr tta mx ra aa rp ap rh ah rt ta rb ab o ria rwa rha roa rga rca rma rba rka out idn wF mF gr ch hd tlm thm al pp chp ctr cbs p q bg bl bp wd hs ro rmt rbs rbk hnt gd tn fo hgm hI hSc hP hD hS hl kk
      · refine lv_tableIn (off := 631) (tgt := 670) hx hb dL_law_39 (by decide) (by decide) (by decide) (by decide) ?_
        exact op_holds C0 hi5 hfc gm X xa a0 a0w a0wa a0o a0or a0oa a1 a1w a1wa a1o a1or a1oa a2 a2w a2wa a2o a2or a2oa a3 a3w a3wa a3o a3or a3oa th thr tha cx cxr cxa lo lor loa tl tlr tla tt ttr tta mx ra aa rp ap rh ah rt ta rb ab o ria rwa rha roa rga rca rma rba rka out idn wF mF gr ch hd tlm thm al pp chp ctr cbs p q bg bl bp wd hs ro rmt rbs rbk hnt gd tn fo hgm hI hSc hP hD hS hl kk
      · refine lv_tableIn (off := 730) (tgt := 769) hx hb dL_law_39 (by decide) (by decide) (by decide) (by decide) ?_
        exact op_points C0 hi5 hfc gm X xa a0 a0w a0wa a0o a0or a0oa a1 a1w a1wa a1o a1or a1oa a2 a2w a2wa a2o a2or a2oa a3 a3w a3wa a3o a3or a3oa th thr tha cx cxr cxa lo lor loa tl tlr tla tt ttr tta mx ra aa rp ap rh ah rt ta rb ab o ria rwa rha roa rga rca rma rba rka out idn wF mF gr ch hd tlm thm al pp chp ctr cbs p q bg bl bp wd hs ro rmt rbs rbk hnt gd tn fo hgm hI hSc hP hD hS hl kk
      · refine lv_tableIn (off := 786) (tgt := 825) hx hb dL_law_39 (by decide) (by decide) (by decide) (by decide) ?_
        exact op_pointsByTrying C0 hi5 hfc gm X xa a0 a0w a0wa a0o a0or a0oa a1 a1w a1wa a1o a1or a1oa a2 a2w a2wa a2o a2or a2oa a3 a3w a3wa a3o a3or a3oa th thr tha cx cxr cxa lo lor loa tl tlr tla tt ttr tta mx ra aa rp ap rh ah rt ta rb ab o ria rwa rha roa rga rca rma rba rka out idn wF mF gr ch hd tlm thm al pp chp ctr cbs p q bg bl bp wd hs ro rmt rbs rbk hnt gd tn fo hgm hI hSc hP hD hS hl kk
      · refine lv_tableIn (off := 842) (tgt := 881) hx hb dL_law_39 (by decide) (by decide) (by decide) (by decide) ?_
        exact op_mark C0 hi5 hfc gm X xa a0 a0w a0wa a0o a0or a0oa a1 a1w a1wa a1o a1or a1oa a2 a2w a2wa a2o a2or a2oa a3 a3w a3wa a3o a3or a3oa th thr tha cx cxr cxa lo lor loa tl tlr tla tt ttr tta mx ra aa rp ap rh ah rt ta rb ab o ria rwa rha roa rga rca rma rba rka out idn wF mF gr ch hd tlm thm al pp chp ctr cbs p q bg bl bp wd hs ro rmt rbs rbk hnt gd tn fo hgm hI hSc hP hD hS hl kk
      · refine lv_tableIn (off := 898) (tgt := 937) hx hb dL_law_39 (by decide) (by decide) (by decide) (by decide) ?_
        exact op_bestModel C0 hi5 hfc gm X xa a0 a0w a0wa a0o a0or a0oa a1 a1w a1wa a1o a1or a1oa a2 a2w a2wa a2o a2or a2oa a3 a3w a3wa a3o a3or a3oa th thr tha cx cxr cxa lo lor loa tl tlr tla tt ttr tta mx ra aa rp ap rh ah rt ta rb ab o ria rwa rha roa rga rca rma rba rka out idn wF mF gr ch hd tlm thm al pp chp ctr cbs p q bg bl bp wd hs ro rmt rbs rbk hnt gd tn fo hgm hI hSc hP hD hS hl kk
      · refine lv_tableIn (off := 911) (tgt := 950) hx hb dL_law_39 (by decide) (by decide) (by decide) (by decide) ?_
        exact op_matchOf C0 hi5 hfc gm X xa a0 a0w a0wa a0o a0or a0oa a1 a1w a1wa a1o a1or a1oa a2 a2w a2wa a2o a2or a2oa a3 a3w a3wa a3o a3or a3oa th thr tha cx cxr cxa lo lor loa tl tlr tla tt ttr tta mx ra aa rp ap rh ah rt ta rb ab o ria rwa rha roa rga rca rma rba rka out idn wF mF gr ch hd tlm thm al pp chp ctr cbs p q bg bl bp wd hs ro rmt rbs rbk hnt gd tn fo hgm hI hSc hP hD hS hl kk
      · refine lv_tableIn (off := 979) (tgt := 1018) hx hb dL_law_39 (by decide) (by decide) (by decide) (by decide) ?_
        exact op_verdict C0 hi5 hfc gm X xa a0 a0w a0wa a0o a0or a0oa a1 a1w a1wa a1o a1or a1oa a2 a2w a2wa a2o a2or a2oa a3 a3w a3wa a3o a3or a3oa th thr tha cx cxr cxa lo lor loa tl tlr tla tt ttr tta mx ra aa rp ap rh ah rt ta rb ab o ria rwa rha roa rga rca rma rba rka out idn wF mF gr ch hd tlm thm al pp chp ctr cbs p q bg bl bp wd hs ro rmt rbs rbk hnt gd tn fo hgm hI hSc hP hD hS hl kk
      · refine lv_tableIn (off := 1071) (tgt := 1110) hx hb dL_law_39 (by decide) (by decide) (by decide) (by decide) ?_
        exact op_lacking C0 hi5 hfc gm X xa a0 a0w a0wa a0o a0or a0oa a1 a1w a1wa a1o a1or a1oa a2 a2w a2wa a2o a2or a2oa a3 a3w a3wa a3o a3or a3oa th thr tha cx cxr cxa lo lor loa tl tlr tla tt ttr tta mx ra aa rp ap rh ah rt ta rb ab o ria rwa rha roa rga rca rma rba rka out idn wF mF gr ch hd tlm thm al pp chp ctr cbs p q bg bl bp wd hs ro rmt rbs rbk hnt gd tn fo hgm hI hSc hP hD hS hl kk
      · refine lv_tableIn (off := 1127) (tgt := 1166) hx hb dL_law_39 (by decide) (by decide) (by decide) (by decide) ?_
        exact op_hint C0 hi5 hfc gm X xa a0 a0w a0wa a0o a0or a0oa a1 a1w a1wa a1o a1or a1oa a2 a2w a2wa a2o a2or a2oa a3 a3w a3wa a3o a3or a3oa th thr tha cx cxr cxa lo lor loa tl tlr tla tt ttr tta mx ra aa rp ap rh ah rt ta rb ab o ria rwa rha roa rga rca rma rba rka out idn wF mF gr ch hd tlm thm al pp chp ctr cbs p q bg bl bp wd hs ro rmt rbs rbk hnt gd tn fo hgm hI hSc hP hD hS hl kk
      · refine lv_tableIn (off := 1183) (tgt := 1222) hx hb dL_law_39 (by decide) (by decide) (by decide) (by decide) ?_
        exact op_gain C0 hi5 hfc gm X xa a0 a0w a0wa a0o a0or a0oa a1 a1w a1wa a1o a1or a1oa a2 a2w a2wa a2o a2or a2oa a3 a3w a3wa a3o a3or a3oa th thr tha cx cxr cxa lo lor loa tl tlr tla tt ttr tta mx ra aa rp ap rh ah rt ta rb ab o ria rwa rha roa rga rca rma rba rka out idn wF mF gr ch hd tlm thm al pp chp ctr cbs p q bg bl bp wd hs ro rmt rbs rbk hnt gd tn fo hgm hI hSc hP hD hS hl kk
      · refine lv_tableOut (tgt := 1278) hx hb dL_law_39 (by decide) (by decide) ?_
        refine W.widen (k := cells + 1) (n := slots + 6) (by omega) (by omega) ?_
        exact kk idn wF mF gr ch hd tlm thm al pp chp ctr cbs p q bg bl bp wd hs ro rmt rbs rbk hnt gd tn fo hI hSc H locs hP hD hS ls hl
      · refine lv_tableOut (tgt := 1278) hx hb dL_law_39 (by decide) (by decide) ?_
        refine W.widen (k := cells + 1) (n := slots + 6) (by omega) (by omega) ?_
        exact kk idn wF mF gr ch hd tlm thm al pp chp ctr cbs p q bg bl bp wd hs ro rmt rbs rbk hnt gd tn fo hI hSc H locs hP hD hS ls hl
      · refine lv_tableOut (tgt := 1278) hx hb dL_law_39 (by decide) (by decide) ?_
        refine W.widen (k := cells + 1) (n := slots + 6) (by omega) (by omega) ?_
        exact kk idn wF mF gr ch hd tlm thm al pp chp ctr cbs p q bg bl bp wd hs ro rmt rbs rbk hnt gd tn fo hI hSc H locs hP hD hS ls hl
      · refine lv_tableOut (tgt := 1278) hx hb dL_law_39 (by decide) (by decide) ?_
        refine W.widen (k := cells + 1) (n := slots + 6) (by omega) (by omega) ?_
        exact kk idn wF mF gr ch hd tlm thm al pp chp ctr cbs p q bg bl bp wd hs ro rmt rbs rbk hnt gd tn fo hI hSc H locs hP hD hS ls hl
      · refine lv_tableOut (tgt := 1278) hx hb dL_law_39 (by decide) (by decide) ?_
        refine W.widen (k := cells + 1) (n := slots + 6) (by omega) (by omega) ?_
        exact kk idn wF mF gr ch hd tlm thm al pp chp ctr cbs p q bg bl bp wd hs ro rmt rbs rbk hnt gd tn fo hI hSc H locs hP hD hS ls hl
      · refine lv_tableOut (tgt := 1278) hx hb dL_law_39 (by decide) (by decide) ?_
        refine W.widen (k := cells + 1) (n := slots + 6) (by omega) (by omega) ?_
        exact kk idn wF mF gr ch hd tlm thm al pp chp ctr cbs p q bg bl bp wd hs ro rmt rbs rbk hnt gd tn fo hI hSc H locs hP hD hS ls hl
      · refine lv_tableOut (tgt := 1278) hx hb dL_law_39 (by decide) (by decide) ?_
        refine W.widen (k := cells + 1) (n := slots + 6) (by omega) (by omega) ?_
        exact kk idn wF mF gr ch hd tlm thm al pp chp ctr cbs p q bg bl bp wd hs ro rmt rbs rbk hnt gd tn fo hI hSc H locs hP hD hS ls hl
      · refine lv_tableOut (tgt := 1278) hx hb dL_law_39 (by decide) (by decide) ?_
        refine W.widen (k := cells + 1) (n := slots + 6) (by omega) (by omega) ?_
        exact kk idn wF mF gr ch hd tlm thm al pp chp ctr cbs p q bg bl bp wd hs ro rmt rbs rbk hnt gd tn fo hI hSc H locs hP hD hS ls hl
      · refine lv_tableOut (tgt := 1278) hx hb dL_law_39 (by decide) (by decide) ?_
        refine W.widen (k := cells + 1) (n := slots + 6) (by omega) (by omega) ?_
        exact kk idn wF mF gr ch hd tlm thm al pp chp ctr cbs p q bg bl bp wd hs ro rmt rbs rbk hnt gd tn fo hI hSc H locs hP hD hS ls hl
      · refine lv_tableOut (tgt := 1278) hx hb dL_law_39 (by decide) (by decide) ?_
        refine W.widen (k := cells + 1) (n := slots + 6) (by omega) (by omega) ?_
        exact kk idn wF mF gr ch hd tlm thm al pp chp ctr cbs p q bg bl bp wd hs ro rmt rbs rbk hnt gd tn fo hI hSc H locs hP hD hS ls hl
      · refine lv_tableOut (tgt := 1278) hx hb dL_law_39 (by decide) (by decide) ?_
        refine W.widen (k := cells + 1) (n := slots + 6) (by omega) (by omega) ?_
        exact kk idn wF mF gr ch hd tlm thm al pp chp ctr cbs p q bg bl bp wd hs ro rmt rbs rbk hnt gd tn fo hI hSc H locs hP hD hS ls hl
      · refine lv_tableOut (tgt := 1278) hx hb dL_law_39 (by decide) (by decide) ?_
        refine W.widen (k := cells + 1) (n := slots + 6) (by omega) (by omega) ?_
        exact kk idn wF mF gr ch hd tlm thm al pp chp ctr cbs p q bg bl bp wd hs ro rmt rbs rbk hnt gd tn fo hI hSc H locs hP hD hS ls hl
      · refine lv_tableOut (tgt := 1278) hx hb dL_law_39 (by decide) (by decide) ?_
        refine W.widen (k := cells + 1) (n := slots + 6) (by omega) (by omega) ?_
        exact kk idn wF mF gr ch hd tlm thm al pp chp ctr cbs p q bg bl bp wd hs ro rmt rbs rbk hnt gd tn fo hI hSc H locs hP hD hS ls hl
      · refine lv_tableOut (tgt := 1278) hx hb dL_law_39 (by decide) (by decide) ?_
        refine W.widen (k := cells + 1) (n := slots + 6) (by omega) (by omega) ?_
        exact kk idn wF mF gr ch hd tlm thm al pp chp ctr cbs p q bg bl bp wd hs ro rmt rbs rbk hnt gd tn fo hI hSc H locs hP hD hS ls hl
