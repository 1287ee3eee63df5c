theorem hint_lt {σ : Stt} {k h : Nat} (e : (a_hn σ k).1 = some h) : h < 1000 := by
  obtain ⟨f, t, d, e1, _, _, _, h4, h5, h6, _⟩ := (hint_inv σ k).2 h e
  omega
set_option maxRecDepth 100000 in
set_option maxHeartbeats 8000000 in
theorem c_hints (l : Launch) (hst : l.stackTraces = false) (g : GG) (ad : Nat → Nat) (gm : Nat → Option Nat) (hG : GM ad gm) (σ : Stt) (hσ : SOk σ) (m : Nat) (hm0 : m ≠ 0) (hm4 : m < 4) : MY l yL_hints wsL_hints 14 0 0 g ad gm [.ref (ad 0), .int (nI m)] σ (fun x σ' => x = 1 ∧ σ' = σ) := by
  intro z0 hz0 sz
  refine iy_body (Qc := fun A => va_Qi (fun (x : Int32) (w : va_W) => ∃ σ' z', (fun x σ' => x = 1 ∧ σ' = σ) x σ' ∧ ZOk z' ∧ w = MW g ad gm σ' z') (iB g (MW g ad gm σ z0)) A) (cc := cL_hints) (maxL := 8) (ret := (some .boolean)) (by decide) rfl (Nat.le_of_ble_eq_true rfl) ?_ sz
  intro pg ev s0 mi below meth cd A hx hb hr hml hts hown hlocks hK hA hNX hZ H0 hP0 hD0 hS0 ls0 hl0
  have hn5 : s_n σ m ≤ 5 := hσ.1 m
  have hp5 : s_n σ 0 ≤ 5 := hσ.1 0
  have hpl := a_pts_le hσ m
  have hgl := a_hn_le hσ m
  have hl0 : lv_has ls0 8 [(0, .ref (ad 0)), (1, .int (nI m))] := hl0
  have hP := hP0; have hD := hD0; have hS := hS0; have hl := hl0; have hz := hz0
  refine lv_aload_n hx hb dL_hints_0 rfl (lv_at hl 0 rfl) ?_
  refine lv_iload_n hx hb dL_hints_1 rfl (lv_at hl 1 rfl) ?_
  refine mc_V (k := 1) hx hb hml hown hts (mc_points l g ad gm hG σ hσ m (by omega) (by omega)) gL_hints_X6_points rfl (by decide +kernel) ⟨Nat.le_of_ble_eq_true rfl, Nat.le_of_ble_eq_true rfl⟩ ⟨by show _ ≤ 0; omega, by show _ ≤ 0; omega⟩ hK hz hP hD hS hA rfl hl.1 (rest := []) (As := [.int (nI m)]) rfl (Nat.le_of_ble_eq_true rfl) dL_hints_2 (fun z H locs hz hP hD hS => ?_)
  refine lv_istore_n (lv' := [(2, .int (nI (a_pts σ m))), (0, .ref (ad 0)), (1, .int (nI m))]) hx hb dL_hints_5 rfl hl (by decide) rfl (fun ls hl => ?_)
  refine lv_aload_n hx hb dL_hints_6 rfl (lv_at hl 1 rfl) ?_
  refine lv_iload_n hx hb dL_hints_7 rfl (lv_at hl 2 rfl) ?_
  refine mc_V (k := 1) hx hb hml hown hts (mc_hint l g ad gm hG σ hσ m (by omega) (by omega)) gL_hints_X6_hint rfl (by decide +kernel) ⟨Nat.le_of_ble_eq_true rfl, Nat.le_of_ble_eq_true rfl⟩ ⟨by show _ ≤ 0; omega, by show _ ≤ 0; omega⟩ hK hz hP hD hS hA rfl hl.1 (rest := []) (As := [.int (nI m)]) rfl (Nat.le_of_ble_eq_true rfl) dL_hints_8 (fun z H locs hz hP hD hS => ?_)
  refine lv_istore_n (lv' := [(3, .int (oI ((a_hn σ m).1))), (2, .int (nI (a_pts σ m))), (0, .ref (ad 0)), (1, .int (nI m))]) hx hb dL_hints_11 rfl hl (by decide) rfl (fun ls hl => ?_)
  refine lv_aload_n hx hb dL_hints_12 rfl (lv_at hl 2 rfl) ?_
  refine lv_iload_n hx hb dL_hints_13 rfl (lv_at hl 3 rfl) ?_
  refine mc_V (k := 1) hx hb hml hown hts (mc_gain l g ad gm hG σ hσ m (by omega) (by omega)) gL_hints_X6_gain rfl (by decide +kernel) ⟨Nat.le_of_ble_eq_true rfl, Nat.le_of_ble_eq_true rfl⟩ ⟨by show _ ≤ 0; omega, by show _ ≤ 0; omega⟩ hK hz hP hD hS hA rfl hl.1 (rest := []) (As := [.int (nI m)]) rfl (Nat.le_of_ble_eq_true rfl) dL_hints_14 (fun z H locs hz hP hD hS => ?_)
  refine lv_istore (lv' := [(4, .int (nI ((a_hn σ m).2))), (3, .int (oI ((a_hn σ m).1))), (2, .int (nI (a_pts σ m))), (0, .ref (ad 0)), (1, .int (nI m))]) hx hb dL_hints_17 hl (by decide) rfl (fun ls hl => ?_)
  rcases hh : (a_hn σ m).1 with _ | h
  · rw [hh] at hl
    have hg0 : (a_hn σ m).2 = 0 := (hint_inv σ m).1 hh
    refine lv_iload_n hx hb dL_hints_19 rfl (lv_at hl 1 rfl) ?_
    refine lv_iconst (v := -1) hx hb dL_hints_20 (by decide) ?_
    refine lv_icmp_ne (tgt := 35) hx hb dL_hints_21 (by decide) (fun c_1 => absurd c_1 (by decide)) (fun c_1 => ?_)
    refine lv_iload hx hb dL_hints_24 (lv_at hl 0 rfl) ?_
    refine nv_if_ne (tgt := 33) hx hb (by omega) dL_hints_26 (by decide) (fun c_2 => by exfalso; exact c_2 hg0) (fun c_2 => ?_)
    refine lv_iconst (v := nI (1)) hx hb dL_hints_29 (by decide) ?_
    refine lv_goto (tgt := 34) hx hb dL_hints_30 (by decide) ?_
    exact my_retz (v := nI (1)) hx hb hr hlocks hz hP hS (by omega) (by omega) (mc := 0) (ms := 0) ⟨rfl, rfl⟩ (by first | exact b2i_nar _ | rfl) dL_hints_34
  · rw [hh] at hl
    obtain ⟨f, t, d, rfl, hft, hf, ht, hd, hf5, ht5, hb0, hg, hmx⟩ := (hint_inv σ m).2 h hh
    have hσ2 : SOk (u_lnk σ 0 f t d) := u_lnk_ok hσ hf ht hft hd
    have hpl2 := a_pts_le hσ2 m
    refine lv_iload_n hx hb dL_hints_19 rfl (lv_at hl 1 rfl) ?_
    refine lv_iconst (v := -1) hx hb dL_hints_20 (by decide) ?_
    refine lv_icmp_ne (tgt := 35) hx hb dL_hints_21 (by decide) (fun c_3 => ?_) (fun c_3 => by exfalso; exact nI_nneg (by omega) (by decide) c_3)
    refine lv_iload_n hx hb dL_hints_35 rfl (lv_at hl 1 rfl) ?_
    refine lv_bipush (v := nI (100)) hx hb dL_hints_36 (by decide) ?_
    refine nv_idiv hx hb (by omega) (by omega) (by omega) dL_hints_38 ?_
    refine lv_istore (lv' := [(5, .int (nI ((100 * f + 10 * t + d) / 100))), (4, .int (nI ((a_hn σ m).2))), (3, .int (nI (100 * f + 10 * t + d))), (2, .int (nI (a_pts σ m))), (0, .ref (ad 0)), (1, .int (nI m))]) hx hb dL_hints_39 hl (by decide) rfl (fun ls hl => ?_)
    rw [show (100 * f + 10 * t + d) / 100 = f from by omega] at hl
    refine lv_iload_n hx hb dL_hints_41 rfl (lv_at hl 2 rfl) ?_
    refine lv_bipush (v := nI (10)) hx hb dL_hints_42 (by decide) ?_
    refine nv_idiv hx hb (by omega) (by omega) (by omega) dL_hints_44 ?_
    refine lv_bipush (v := nI (10)) hx hb dL_hints_45 (by decide) ?_
    refine nv_irem hx hb (by omega) (by omega) (by omega) dL_hints_47 ?_
    refine lv_istore (lv' := [(6, .int (nI (((100 * f + 10 * t + d) / 10) % 10))), (5, .int (nI f)), (4, .int (nI ((a_hn σ m).2))), (3, .int (nI (100 * f + 10 * t + d))), (2, .int (nI (a_pts σ m))), (0, .ref (ad 0)), (1, .int (nI m))]) hx hb dL_hints_48 hl (by decide) rfl (fun ls hl => ?_)
    rw [show (100 * f + 10 * t + d) / 10 % 10 = t from by omega] at hl
    refine lv_iload hx hb dL_hints_50 (lv_at hl 2 rfl) ?_
    refine nv_if_le (tgt := 114) hx hb (by omega) dL_hints_52 (by decide) (fun c_4 => by exfalso; omega) (fun c_4 => ?_)
    refine lv_iload hx hb dL_hints_55 (lv_at hl 1 rfl) ?_
    refine lv_iload hx hb dL_hints_57 (lv_at hl 0 rfl) ?_
    refine nv_icmp_eq (tgt := 114) hx hb (by omega) (by omega) dL_hints_59 (by decide) (fun c_5 => by exfalso; exact hft c_5) (fun c_5 => ?_)
    refine lv_iload hx hb dL_hints_62 (lv_at hl 1 rfl) ?_
    refine lv_aload_n hx hb dL_hints_64 rfl (lv_at hl 5 rfl) ?_
    refine lv_iconst (v := nI (0)) hx hb dL_hints_65 (by decide) ?_
    refine mc_V (k := 1) hx hb hml hown hts (mc_ideas l g ad gm hG σ hσ 0 (by omega)) gL_hints_X6_ideas rfl (by decide +kernel) ⟨Nat.le_of_ble_eq_true rfl, Nat.le_of_ble_eq_true rfl⟩ ⟨by show _ ≤ 0; omega, by show _ ≤ 0; omega⟩ hK hz hP hD hS hA rfl hl.1 (rest := [.int (nI f)]) (As := [.int (nI 0)]) rfl (Nat.le_of_ble_eq_true rfl) dL_hints_66 (fun z H locs hz hP hD hS => ?_)
    refine nv_icmp_ge (tgt := 114) hx hb (by omega) (by omega) dL_hints_69 (by decide) (fun c_6 => by exfalso; omega) (fun c_6 => ?_)
    refine lv_iload hx hb dL_hints_72 (lv_at hl 0 rfl) ?_
    refine lv_aload_n hx hb dL_hints_74 rfl (lv_at hl 5 rfl) ?_
    refine lv_iconst (v := nI (0)) hx hb dL_hints_75 (by decide) ?_
    refine mc_V (k := 1) hx hb hml hown hts (mc_ideas l g ad gm hG σ hσ 0 (by omega)) gL_hints_X6_ideas rfl (by decide +kernel) ⟨Nat.le_of_ble_eq_true rfl, Nat.le_of_ble_eq_true rfl⟩ ⟨by show _ ≤ 0; omega, by show _ ≤ 0; omega⟩ hK hz hP hD hS hA rfl hl.1 (rest := [.int (nI t)]) (As := [.int (nI 0)]) rfl (Nat.le_of_ble_eq_true rfl) dL_hints_76 (fun z H locs hz hP hD hS => ?_)
    refine nv_icmp_ge (tgt := 114) hx hb (by omega) (by omega) dL_hints_79 (by decide) (fun c_7 => by exfalso; omega) (fun c_7 => ?_)
    refine lv_aload_n hx hb dL_hints_82 rfl (lv_at hl 5 rfl) ?_
    refine lv_iconst (v := nI (0)) hx hb dL_hints_83 (by decide) ?_
    refine lv_iload hx hb dL_hints_84 (lv_at hl 1 rfl) ?_
    refine lv_iload hx hb dL_hints_86 (lv_at hl 0 rfl) ?_
    refine lv_iload_n hx hb dL_hints_88 rfl (lv_at hl 3 rfl) ?_
    refine lv_bipush (v := nI (10)) hx hb dL_hints_89 (by decide) ?_
    refine nv_irem hx hb (by omega) (by omega) (by omega) dL_hints_91 ?_
    rw [show (100 * f + 10 * t + d) % 10 = d from by omega]
    refine mc_V (k := 4) hx hb hml hown hts (mc_link l g ad gm hG σ hσ 0 (by omega) f t d hf ht hft hd) gL_hints_X6_link rfl (by decide +kernel) ⟨Nat.le_of_ble_eq_true rfl, Nat.le_of_ble_eq_true rfl⟩ ⟨by show _ ≤ 0; omega, by show _ ≤ 0; omega⟩ hK hz hP hD hS hA rfl hl.1 (rest := []) (As := [.int (nI 0), .int (nI f), .int (nI t), .int (nI d)]) rfl (Nat.le_of_ble_eq_true rfl) dL_hints_92 (fun z H locs hz hP hD hS => ?_)
    rw [hb0]
    refine bv_if_eq (tgt := 114) hx hb dL_hints_95 (by decide) (fun c_8 => by exfalso; exact absurd c_8 (by decide)) (fun c_8 => ?_)
    refine lv_aload_n hx hb dL_hints_98 rfl (lv_at hl 5 rfl) ?_
    refine lv_iload_n hx hb dL_hints_99 rfl (lv_at hl 6 rfl) ?_
    refine mc_V (k := 1) hx hb hml hown hts (mc_points l g ad gm hG (u_lnk σ 0 f t d) hσ2 m (by omega) (by omega)) gL_hints_X6_points rfl (by decide +kernel) ⟨Nat.le_of_ble_eq_true rfl, Nat.le_of_ble_eq_true rfl⟩ ⟨by show _ ≤ 0; omega, by show _ ≤ 0; omega⟩ hK hz hP hD hS hA rfl hl.1 (rest := []) (As := [.int (nI m)]) rfl (Nat.le_of_ble_eq_true rfl) dL_hints_100 (fun z H locs hz hP hD hS => ?_)
    refine lv_iload_n hx hb dL_hints_103 rfl (lv_at hl 4 rfl) ?_
    refine lv_iload hx hb dL_hints_104 (lv_at hl 2 rfl) ?_
    refine nv_iadd hx hb dL_hints_106 ?_
    refine nv_icmp_ne (tgt := 114) hx hb (by omega) (by omega) dL_hints_107 (by decide) (fun c_9 => by exfalso; exact c_9 ((hint_pts hσ hm0 hf ht hd hb0).trans hmx)) (fun c_9 => ?_)
    refine lv_iconst (v := nI (1)) hx hb dL_hints_110 (by decide) ?_
    refine lv_goto (tgt := 115) hx hb dL_hints_111 (by decide) ?_
    refine lv_istore (lv' := [(7, .int (nI 1)), (6, .int (nI t)), (5, .int (nI f)), (4, .int (nI ((a_hn σ m).2))), (3, .int (nI (100 * f + 10 * t + d))), (2, .int (nI (a_pts σ m))), (0, .ref (ad 0)), (1, .int (nI m))]) hx hb dL_hints_115 hl (by decide) rfl (fun ls hl => ?_)
    refine lv_iload hx hb dL_hints_117 (lv_at hl 0 rfl) ?_
    refine lv_if_eq (tgt := 160) hx hb dL_hints_119 (by decide) (fun c_10 => absurd c_10 (by decide)) (fun c_10 => ?_)
    refine lv_aload_n hx hb dL_hints_122 rfl (lv_at hl 6 rfl) ?_
    refine lv_iload_n hx hb dL_hints_123 rfl (lv_at hl 7 rfl) ?_
    refine mc_V (k := 1) hx hb hml hown hts (mc_hint l g ad gm hG (u_lnk σ 0 f t d) hσ2 m (by omega) (by omega)) gL_hints_X6_hint rfl (by decide +kernel) ⟨Nat.le_of_ble_eq_true rfl, Nat.le_of_ble_eq_true rfl⟩ ⟨by show _ ≤ 0; omega, by show _ ≤ 0; omega⟩ hK hz hP hD hS hA rfl hl.1 (rest := []) (As := [.int (nI m)]) rfl (Nat.le_of_ble_eq_true rfl) dL_hints_124 (fun z H locs hz hP hD hS => ?_)
    refine lv_iload_n hx hb dL_hints_127 rfl (lv_at hl 4 rfl) ?_
    refine lv_icmp_eq (tgt := 160) hx hb dL_hints_128 (by decide) (fun c_11 => by exfalso; exact hint_ne ⟨hf5, ht5, hd⟩ hb0 ((oI_some (fun j h9 => by have := hint_lt h9; omega) (by omega)).mp c_11)) (fun c_11 => ?_)
    refine lv_aload_n hx hb dL_hints_131 rfl (lv_at hl 6 rfl) ?_
    refine lv_iconst (v := nI (0)) hx hb dL_hints_132 (by decide) ?_
    refine lv_iload hx hb dL_hints_133 (lv_at hl 2 rfl) ?_
    refine lv_iload hx hb dL_hints_135 (lv_at hl 1 rfl) ?_
    refine lv_iload_n hx hb dL_hints_137 rfl (lv_at hl 4 rfl) ?_
    refine lv_bipush (v := nI (10)) hx hb dL_hints_138 (by decide) ?_
    refine nv_irem hx hb (by omega) (by omega) (by omega) dL_hints_140 ?_
    rw [show (100 * f + 10 * t + d) % 10 = d from by omega]
    refine mc_V (k := 4) hx hb hml hown hts (mc_link l g ad gm hG (u_lnk σ 0 f t d) hσ2 0 (by omega) f t d hf ht hft hd) gL_hints_X6_link rfl (by decide +kernel) ⟨Nat.le_of_ble_eq_true rfl, Nat.le_of_ble_eq_true rfl⟩ ⟨by show _ ≤ 0; omega, by show _ ≤ 0; omega⟩ hK hz hP hD hS hA rfl hl.1 (rest := []) (As := [.int (nI 0), .int (nI f), .int (nI t), .int (nI d)]) rfl (Nat.le_of_ble_eq_true rfl) dL_hints_141 (fun z H locs hz hP hD hS => ?_)
    rw [u_lnk_tb, hb0]
    rw [u_lnk_2] at hP hD
    refine bv_if_ne (tgt := 160) hx hb dL_hints_144 (by decide) (fun c_12 => by exfalso; exact absurd c_12 (by decide)) (fun c_12 => ?_)
    refine lv_aload_n hx hb dL_hints_147 rfl (lv_at hl 6 rfl) ?_
    refine lv_iload_n hx hb dL_hints_148 rfl (lv_at hl 7 rfl) ?_
    refine mc_V (k := 1) hx hb hml hown hts (mc_points l g ad gm hG σ hσ m (by omega) (by omega)) gL_hints_X6_points rfl (by decide +kernel) ⟨Nat.le_of_ble_eq_true rfl, Nat.le_of_ble_eq_true rfl⟩ ⟨by show _ ≤ 0; omega, by show _ ≤ 0; omega⟩ hK hz hP hD hS hA rfl hl.1 (rest := []) (As := [.int (nI m)]) rfl (Nat.le_of_ble_eq_true rfl) dL_hints_149 (fun z H locs hz hP hD hS => ?_)
    refine lv_iload_n hx hb dL_hints_152 rfl (lv_at hl 5 rfl) ?_
    refine nv_icmp_ne (tgt := 160) hx hb (by omega) (by omega) dL_hints_153 (by decide) (fun c_13 => by exfalso; exact c_13 rfl) (fun c_13 => ?_)
    refine lv_iconst (v := nI (1)) hx hb dL_hints_156 (by decide) ?_
    refine lv_goto (tgt := 161) hx hb dL_hints_157 (by decide) ?_
    refine lv_istore (lv' := [(7, .int (nI 1)), (6, .int (nI t)), (5, .int (nI f)), (4, .int (nI ((a_hn σ m).2))), (3, .int (nI (100 * f + 10 * t + d))), (2, .int (nI (a_pts σ m))), (0, .ref (ad 0)), (1, .int (nI m))]) hx hb dL_hints_161 hl (by decide) rfl (fun ls hl => ?_)
    refine lv_iload hx hb dL_hints_163 (lv_at hl 0 rfl) ?_
    refine lv_if_eq (tgt := 181) hx hb dL_hints_165 (by decide) (fun c_14 => absurd c_14 (by decide)) (fun c_14 => ?_)
    refine lv_aload_n hx hb dL_hints_168 rfl (lv_at hl 6 rfl) ?_
    refine lv_iload_n hx hb dL_hints_169 rfl (lv_at hl 7 rfl) ?_
    refine mc_V (k := 1) hx hb hml hown hts (mc_hint l g ad gm hG σ hσ m (by omega) (by omega)) gL_hints_X6_hint rfl (by decide +kernel) ⟨Nat.le_of_ble_eq_true rfl, Nat.le_of_ble_eq_true rfl⟩ ⟨by show _ ≤ 0; omega, by show _ ≤ 0; omega⟩ hK hz hP hD hS hA rfl hl.1 (rest := []) (As := [.int (nI m)]) rfl (Nat.le_of_ble_eq_true rfl) dL_hints_170 (fun z H locs hz hP hD hS => ?_)
    refine lv_iload_n hx hb dL_hints_173 rfl (lv_at hl 4 rfl) ?_
    refine lv_icmp_ne (tgt := 181) hx hb dL_hints_174 (by decide) (fun c_15 => by exfalso; exact c_15 (by rw [hh]; rfl)) (fun c_15 => ?_)
    refine lv_iconst (v := nI (1)) hx hb dL_hints_177 (by decide) ?_
    refine lv_goto (tgt := 182) hx hb dL_hints_178 (by decide) ?_
    exact my_retz (v := nI (1)) hx hb hr hlocks hz hP hS (by omega) (by omega) (mc := 0) (ms := 0) ⟨rfl, rfl⟩ (by first | exact b2i_nar _ | rfl) dL_hints_182
