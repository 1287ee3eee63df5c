set_option maxRecDepth 100000 in
set_option maxHeartbeats 4000000 in
theorem c_X4_get (l : Launch) (g : GG) (r a n : Nat) (f : Nat → Int32) (i : Nat) (hi : i < n) (hn : n < 2 ^ 31) : IM l yX4_get wsX4_get 1 g [.ref r, .int (nI i)] [(r, .inr (4, [.ref a])), (a, .inl (gI g, n, .inl (f)))] (fun x w1 => x = f i ∧ w1 = [(r, .inr (4, [.ref a])), (a, .inl (gI g, n, .inl (f)))]) := by
  refine fun sz => im_body (Qc := fun A => va_Qi _ (iB g _) A) (cc := cX4_get) (maxL := 2) (ret := (some .int)) (by decide) rfl (Nat.le_of_ble_eq_true rfl) ?_ sz
  intro pg ev s0 mi below meth cd A hx hb hr hml hts hown hlocks hK hA H hP hD hS ls hl
  have hl : lv_has ls 2 [(0, .ref r), (1, .int (nI i))] := hl
  refine lv_iload_n hx hb dX4_get_0 rfl (lv_at hl 1 rfl) ?_
  refine nv_if_lt (tgt := 22) hx hb (by omega) dX4_get_1 (by decide) (fun c_1 => ?_) (fun c_1 => ?_)
  · skip
    exfalso; first | exact c_1 | omega | (simp at c_1; done) | (exact absurd c_1 (by simp))
  · skip
    refine lv_iload_n hx hb dX4_get_4 rfl (lv_at hl 1 rfl) ?_
    refine lv_aload_n hx hb dX4_get_5 rfl (lv_at hl 0 rfl) ?_
    refine va_get (D := g.1) (ci := 4) (v := .ref a) (C := RX4) (T := TX4) (N := 1) hx hb hts (fun _ h => (List.mem_cons_of_mem _ (List.mem_append_right _ h))) hown hK.1 hP 0 rfl rfl 0 (by decide) (hts _ (List.mem_cons_of_mem _ (List.mem_append_left _ (List.mem_of_getElem? (i := 0) rfl)))) (fun _ h9 => h9) rfl dX4_get_6 ?_
    refine va_alen (v := nI (n)) hx hb hK.1 hP 1 0 rfl rfl rfl dX4_get_9 ?_
    refine nv_icmp_ge (tgt := 22) hx hb (by omega) (by omega) dX4_get_10 (by decide) (fun c_2 => ?_) (fun c_2 => ?_)
    · skip
      exfalso; first | exact c_2 | omega | (simp at c_2; done) | (exact absurd c_2 (by simp))
    · skip
      refine lv_aload_n hx hb dX4_get_13 rfl (lv_at hl 0 rfl) ?_
      refine va_get (D := g.1) (ci := 4) (v := .ref a) (C := RX4) (T := TX4) (N := 1) hx hb hts (fun _ h => (List.mem_cons_of_mem _ (List.mem_append_right _ h))) hown hK.1 hP 0 rfl rfl 0 (by decide) (hts _ (List.mem_cons_of_mem _ (List.mem_append_left _ (List.mem_of_getElem? (i := 0) rfl)))) (fun _ h9 => h9) rfl dX4_get_14 ?_
      refine lv_iload_n hx hb dX4_get_17 rfl (lv_at hl 1 rfl) ?_
      refine nv_iald (v := f i) hx hb hK hP 1 rfl (by omega) (by omega) rfl dX4_get_18 ?_
      refine lv_goto (tgt := 23) hx hb dX4_get_19 (by decide) ?_
      exact im_ret (w1 := [(r, .inr (4, [.ref a])), (a, .inl (gI g, n, .inl (f)))]) (v := f i) hx hb hr hlocks hP hS rfl ⟨rfl, rfl⟩ dX4_get_23

set_option maxRecDepth 100000 in
set_option maxHeartbeats 4000000 in
theorem c_X4_set (l : Launch) (g : GG) (r a n : Nat) (f f' : Nat → Int32) (i : Nat) (x : Int32) (hi : i < n) (hn : n < 2 ^ 31) (hf : upd f i x = f') : IMv l yX4_set wsX4_set 1 g [.ref r, .int (nI i), .int (x)] [(r, .inr (4, [.ref a])), (a, .inl (gI g, n, .inl (f)))] (fun w1 => w1 = [(r, .inr (4, [.ref a])), (a, .inl (gI g, n, .inl (f')))]) := by
  refine fun sz => im_body (Qc := fun A => va_Qv _ (iB g _) A) (cc := cX4_set) (maxL := 3) (ret := none) (by decide) rfl (Nat.le_of_ble_eq_true rfl) ?_ sz
  intro pg ev s0 mi below meth cd A hx hb hr hml hts hown hlocks hK hA H hP hD hS ls hl
  have hl : lv_has ls 3 [(0, .ref r), (1, .int (nI i)), (2, .int (x))] := hl
  refine lv_iload_n hx hb dX4_set_0 rfl (lv_at hl 1 rfl) ?_
  refine nv_if_lt (tgt := 20) hx hb (by omega) dX4_set_1 (by decide) (fun c_1 => ?_) (fun c_1 => ?_)
  · skip
    exfalso; first | exact c_1 | omega | (simp at c_1; done) | (exact absurd c_1 (by simp))
  · skip
    refine lv_iload_n hx hb dX4_set_4 rfl (lv_at hl 1 rfl) ?_
    refine lv_aload_n hx hb dX4_set_5 rfl (lv_at hl 0 rfl) ?_
    refine va_get (D := g.1) (ci := 4) (v := .ref a) (C := RX4) (T := TX4) (N := 1) hx hb hts (fun _ h => (List.mem_cons_of_mem _ (List.mem_append_right _ h))) hown hK.1 hP 0 rfl rfl 0 (by decide) (hts _ (List.mem_cons_of_mem _ (List.mem_append_left _ (List.mem_of_getElem? (i := 0) rfl)))) (fun _ h9 => h9) rfl dX4_set_6 ?_
    refine va_alen (v := nI (n)) hx hb hK.1 hP 1 0 rfl rfl rfl dX4_set_9 ?_
    refine nv_icmp_ge (tgt := 20) hx hb (by omega) (by omega) dX4_set_10 (by decide) (fun c_2 => ?_) (fun c_2 => ?_)
    · skip
      exfalso; first | exact c_2 | omega | (simp at c_2; done) | (exact absurd c_2 (by simp))
    · skip
      refine lv_aload_n hx hb dX4_set_13 rfl (lv_at hl 0 rfl) ?_
      refine va_get (D := g.1) (ci := 4) (v := .ref a) (C := RX4) (T := TX4) (N := 1) hx hb hts (fun _ h => (List.mem_cons_of_mem _ (List.mem_append_right _ h))) hown hK.1 hP 0 rfl rfl 0 (by decide) (hts _ (List.mem_cons_of_mem _ (List.mem_append_left _ (List.mem_of_getElem? (i := 0) rfl)))) (fun _ h9 => h9) rfl dX4_set_14 ?_
      refine lv_iload_n hx hb dX4_set_17 rfl (lv_at hl 1 rfl) ?_
      refine lv_iload_n hx hb dX4_set_18 rfl (lv_at hl 2 rfl) ?_
      refine nv_iast (f' := upd f i x) hx hb hK hP hD hS 1 rfl (by omega) (by omega) rfl dX4_set_19 (fun H locs hP hD hS => ?_)
      have hP : va_P g.1 vwCl [(r, .inr (4, [.ref a])), (a, .inl (gI g, n, .inl (upd f i x)))] H := hP
      have hD : va_D A [(r, .inr (4, [.ref a])), (a, .inl (gI g, n, .inl (upd f i x)))] := hD
      exact im_retv (w1 := [(r, .inr (4, [.ref a])), (a, .inl (gI g, n, .inl (upd f i x)))]) hx hb hr hlocks hP hS rfl (by rw [hf]) dX4_set_20

set_option maxRecDepth 100000 in
set_option maxHeartbeats 4000000 in
theorem c_X4_fill (l : Launch) (g : GG) (r a n : Nat) (f : Nat → Int32) (x : Int32) (hn : n < 2 ^ 31) : IMv l yX4_fill wsX4_fill 1 g [.ref r, .int (x)] [(r, .inr (4, [.ref a])), (a, .inl (gI g, n, .inl (f)))] (fun w1 => w1 = [(r, .inr (4, [.ref a])), (a, .inl (gI g, n, .inl (fun _ => x)))]) := by
  refine fun sz => im_body (Qc := fun A => va_Qv _ (iB g _) A) (cc := cX4_fill) (maxL := 3) (ret := none) (by decide) rfl (Nat.le_of_ble_eq_true rfl) ?_ sz
  intro pg ev s0 mi below meth cd A hx hb hr hml hts hown hlocks hK hA H hP hD hS ls hl
  have hl : lv_has ls 3 [(0, .ref r), (1, .int (x))] := hl
  refine lv_iconst (v := nI (0)) hx hb dX4_fill_0 (by decide) ?_
  refine lv_istore_n (lv' := [(2, .int (nI 0)), (0, .ref r), (1, .int (x))]) hx hb dX4_fill_1 rfl hl (by decide) rfl (fun ls hl => ?_)
  have lp : ∀ (k9 : Nat) (i : Nat) (hi : i ≤ n) , n - i < k9 → ∀ (H : Heap) (locs : List Loc), va_P g.1 vwCl [(r, .inr (4, [.ref a])), (a, .inl (gI g, n, .inl (fillF f x i)))] H → va_D A [(r, .inr (4, [.ref a])), (a, .inl (gI g, n, .inl (fillF f x i)))] → va_S A s0.heap H locs → ∀ ls : Array Slot, lv_has ls 3 [(2, .int (nI i)), (0, .ref r), (1, .int (x))] → W pg l ev (rmL 1) s0 mi ([.ref r, .int (x)] : List Value).toArray below meth cd H locs 0 0 (MQ below (va_Qv (fun w1 => w1 = [(r, .inr (4, [.ref a])), (a, .inl (gI g, n, .inl (fun _ => x)))]) (iB g [(r, .inr (4, [.ref a])), (a, .inl (gI g, n, .inl (f)))]) A) ([.ref r, .int (x)] : List Value).toArray s0 0 0 A) (F0 mi 2 ls []) := by
    intro k9
    induction k9 with
    | zero => intros; omega
    | succ k9 lp_ih =>
      intro i hi hmz H locs hP hD hS ls hl
      refine lv_iload_n hx hb dX4_fill_2 rfl (lv_at hl 0 rfl) ?_
      refine lv_aload_n hx hb dX4_fill_3 rfl (lv_at hl 1 rfl) ?_
      refine va_get (D := g.1) (ci := 4) (v := .ref a) (C := RX4) (T := TX4) (N := 1) hx hb hts (fun _ h => (List.mem_cons_of_mem _ (List.mem_append_right _ h))) hown hK.1 hP 0 rfl rfl 0 (by decide) (hts _ (List.mem_cons_of_mem _ (List.mem_append_left _ (List.mem_of_getElem? (i := 0) rfl)))) (fun _ h9 => h9) rfl dX4_fill_4 ?_
      refine va_alen (v := nI (n)) hx hb hK.1 hP 1 0 rfl rfl rfl dX4_fill_7 ?_
      refine nv_icmp_ge (tgt := 24) hx hb (by omega) (by omega) dX4_fill_8 (by decide) (fun c_1 => ?_) (fun c_1 => ?_)
      · skip
        have ei : i = n := by omega
        subst ei
        have hP : va_P g.1 vwCl [(r, .inr (4, [.ref a])), (a, .inl (gI g, i, .inl (fun _ => x)))] H := cellI_congr 1 hP rfl (fun j hj => fillF_in hj)
        exact im_retv (w1 := [(r, .inr (4, [.ref a])), (a, .inl (gI g, i, .inl (fun _ => x)))]) hx hb hr hlocks hP hS rfl rfl dX4_fill_24
      · skip
        refine lv_aload_n hx hb dX4_fill_11 rfl (lv_at hl 1 rfl) ?_
        refine va_get (D := g.1) (ci := 4) (v := .ref a) (C := RX4) (T := TX4) (N := 1) hx hb hts (fun _ h => (List.mem_cons_of_mem _ (List.mem_append_right _ h))) hown hK.1 hP 0 rfl rfl 0 (by decide) (hts _ (List.mem_cons_of_mem _ (List.mem_append_left _ (List.mem_of_getElem? (i := 0) rfl)))) (fun _ h9 => h9) rfl dX4_fill_12 ?_
        refine lv_iload_n hx hb dX4_fill_15 rfl (lv_at hl 0 rfl) ?_
        refine lv_iload_n hx hb dX4_fill_16 rfl (lv_at hl 2 rfl) ?_
        refine nv_iast (f' := upd (fillF f x i) i x) hx hb hK hP hD hS 1 rfl (by omega) (by omega) rfl dX4_fill_17 (fun H locs hP hD hS => ?_)
        have hP : va_P g.1 vwCl [(r, .inr (4, [.ref a])), (a, .inl (gI g, n, .inl (upd (fillF f x i) i x)))] H := hP
        have hD : va_D A [(r, .inr (4, [.ref a])), (a, .inl (gI g, n, .inl (upd (fillF f x i) i x)))] := hD
        refine lv_iinc (v := nI (i + 1)) (lv' := [(2, .int (nI (i + 1))), (0, .ref r), (1, .int (x))]) hx hb dX4_fill_18 hl (k := 0) rfl (by show nI _ + _ = _; rw [show Int32.ofInt 1 = nI 1 from by decide, nI_add]) (by decide) rfl (fun ls hl => ?_)
        refine lv_goto (tgt := 2) hx hb dX4_fill_21 (by decide) ?_
        have eq_1 : (upd (fillF f x i) i x) = (fillF f x (i + 1)) := by exact fillF_succ _ _ _
        have hl : lv_has ls 3 [(2, .int (nI (i + 1))), (0, .ref r), (1, .int (x))] := by ((try rw [← eq_1]); exact hl)
        have hP : va_P g.1 vwCl [(r, .inr (4, [.ref a])), (a, .inl (gI g, n, .inl (fillF f x (i + 1))))] H := by ((try rw [← eq_1]); exact hP)
        have hD : va_D A [(r, .inr (4, [.ref a])), (a, .inl (gI g, n, .inl (fillF f x (i + 1))))] := by ((try rw [← eq_1]); exact hD)
        exact lp_ih (i + 1) (by omega)  (by omega) _ _ hP hD hS ls (lv_sub hl [0, 1, 2] rfl)
  have eq_2 : (f) = (fillF f x 0) := by exact (fillF_0 _ _).symm
  have hl : lv_has ls 3 [(2, .int (nI 0)), (0, .ref r), (1, .int (x))] := by ((try rw [← eq_2]); exact hl)
  have hP : va_P g.1 vwCl [(r, .inr (4, [.ref a])), (a, .inl (gI g, n, .inl (fillF f x 0)))] H := by ((try rw [← eq_2]); exact hP)
  have hD : va_D A [(r, .inr (4, [.ref a])), (a, .inl (gI g, n, .inl (fillF f x 0)))] := by ((try rw [← eq_2]); exact hD)
  exact lp (n + 1) 0 (Nat.zero_le _)  (by omega) _ _ hP hD hS ls (lv_sub hl [0, 1, 2] rfl)

set_option maxRecDepth 100000 in
set_option maxHeartbeats 4000000 in
theorem c_X4_become (l : Launch) (g : GG) (r a r2 a2 n : Nat) (f f2 : Nat → Int32) (hn : n < 2 ^ 31) : IMv l yX4_become wsX4_become 2 g [.ref r, .ref r2] [(r, .inr (4, [.ref a])), (a, .inl (gI g, n, .inl (f))), (r2, .inr (4, [.ref a2])), (a2, .inl (gI g, n, .inl (f2)))] (fun w1 => w1 = [(r, .inr (4, [.ref a])), (a, .inl (gI g, n, .inl (f2))), (r2, .inr (4, [.ref a2])), (a2, .inl (gI g, n, .inl (f2)))]) := by
  refine fun sz => im_body (Qc := fun A => va_Qv _ (iB g _) A) (cc := cX4_become) (maxL := 3) (ret := none) (by decide) rfl (Nat.le_of_ble_eq_true rfl) ?_ sz
  intro pg ev s0 mi below meth cd A hx hb hr hml hts hown hlocks hK hA H hP hD hS ls hl
  have hl : lv_has ls 3 [(0, .ref r), (1, .ref r2)] := hl
  refine lv_iconst (v := nI (0)) hx hb dX4_become_0 (by decide) ?_
  refine lv_istore_n (lv' := [(2, .int (nI 0)), (0, .ref r), (1, .ref r2)]) hx hb dX4_become_1 rfl hl (by decide) rfl (fun ls hl => ?_)
  have lp : ∀ (k9 : Nat) (i : Nat) (hi : i ≤ n) , n - i < k9 → ∀ (H : Heap) (locs : List Loc), va_P g.1 vwCl [(r, .inr (4, [.ref a])), (a, .inl (gI g, n, .inl (cpF f f2 i))), (r2, .inr (4, [.ref a2])), (a2, .inl (gI g, n, .inl (f2)))] H → va_D A [(r, .inr (4, [.ref a])), (a, .inl (gI g, n, .inl (cpF f f2 i))), (r2, .inr (4, [.ref a2])), (a2, .inl (gI g, n, .inl (f2)))] → va_S A s0.heap H locs → ∀ ls : Array Slot, lv_has ls 3 [(2, .int (nI i)), (0, .ref r), (1, .ref r2)] → W pg l ev (rmL 2) s0 mi ([.ref r, .ref r2] : List Value).toArray below meth cd H locs 0 0 (MQ below (va_Qv (fun w1 => w1 = [(r, .inr (4, [.ref a])), (a, .inl (gI g, n, .inl (f2))), (r2, .inr (4, [.ref a2])), (a2, .inl (gI g, n, .inl (f2)))]) (iB g [(r, .inr (4, [.ref a])), (a, .inl (gI g, n, .inl (f))), (r2, .inr (4, [.ref a2])), (a2, .inl (gI g, n, .inl (f2)))]) A) ([.ref r, .ref r2] : List Value).toArray s0 0 0 A) (F0 mi 2 ls []) := by
    intro k9
    induction k9 with
    | zero => intros; omega
    | succ k9 lp_ih =>
      intro i hi hmz H locs hP hD hS ls hl
      refine lv_iload_n hx hb dX4_become_2 rfl (lv_at hl 0 rfl) ?_
      refine lv_aload_n hx hb dX4_become_3 rfl (lv_at hl 1 rfl) ?_
      refine va_get (D := g.1) (ci := 4) (v := .ref a) (C := RX4) (T := TX4) (N := 1) hx hb hts (fun _ h => (List.mem_cons_of_mem _ (List.mem_append_right _ h))) hown hK.1 hP 0 rfl rfl 0 (by decide) (hts _ (List.mem_cons_of_mem _ (List.mem_append_left _ (List.mem_of_getElem? (i := 0) rfl)))) (fun _ h9 => h9) rfl dX4_become_4 ?_
      refine va_alen (v := nI (n)) hx hb hK.1 hP 1 0 rfl rfl rfl dX4_become_7 ?_
      refine nv_icmp_ge (tgt := 28) hx hb (by omega) (by omega) dX4_become_8 (by decide) (fun c_1 => ?_) (fun c_1 => ?_)
      · skip
        have ei : i = n := by omega
        subst ei
        have hP : va_P g.1 vwCl [(r, .inr (4, [.ref a])), (a, .inl (gI g, i, .inl (f2))), (r2, .inr (4, [.ref a2])), (a2, .inl (gI g, i, .inl (f2)))] H := cellI_congr 1 hP rfl (fun j hj => cpF_in hj)
        exact im_retv (w1 := [(r, .inr (4, [.ref a])), (a, .inl (gI g, i, .inl (f2))), (r2, .inr (4, [.ref a2])), (a2, .inl (gI g, i, .inl (f2)))]) hx hb hr hlocks hP hS rfl rfl dX4_become_28
      · skip
        refine lv_aload_n hx hb dX4_become_11 rfl (lv_at hl 1 rfl) ?_
        refine va_get (D := g.1) (ci := 4) (v := .ref a) (C := RX4) (T := TX4) (N := 1) hx hb hts (fun _ h => (List.mem_cons_of_mem _ (List.mem_append_right _ h))) hown hK.1 hP 0 rfl rfl 0 (by decide) (hts _ (List.mem_cons_of_mem _ (List.mem_append_left _ (List.mem_of_getElem? (i := 0) rfl)))) (fun _ h9 => h9) rfl dX4_become_12 ?_
        refine lv_iload_n hx hb dX4_become_15 rfl (lv_at hl 0 rfl) ?_
        refine lv_aload_n hx hb dX4_become_16 rfl (lv_at hl 2 rfl) ?_
        refine lv_iload_n hx hb dX4_become_17 rfl (lv_at hl 0 rfl) ?_
        refine im_V (k := 1) hx hb hml hown hts (c_X4_get l g r2 a2 n (f2) i (by omega) (by omega)) gX4_become_X4_get rfl (by decide +kernel) ⟨Nat.le_of_ble_eq_true rfl, Nat.le_of_ble_eq_true rfl⟩ ⟨Nat.zero_le _, Nat.zero_le _⟩ hK hP hD hS hA [2, 3] rfl (by decide) 2 4 rfl rfl rfl hl.1 (rest := [.int (nI i), .ref a]) (As := [.int (nI i)]) rfl (Nat.le_of_ble_eq_true rfl) dX4_become_18 (fun x1 w1 H locs hpo hpd hS => ?_)
        obtain ⟨hx1, rfl⟩ := hpo
        have hx1 : x1 = f2 i := hx1
        subst hx1
        obtain ⟨hP, hD⟩ := hpd [(r, .inr (4, [.ref a])), (a, .inl (gI g, n, .inl (cpF f f2 i))), (r2, .inr (4, [.ref a2])), (a2, .inl (gI g, n, .inl (f2)))] [0, 1] 4 rfl rfl [(r, .inr (4, [.ref a])), (a, .inl (gI g, n, .inl (cpF f f2 i)))] rfl rfl (by decide) (by decide)
        refine nv_iast (f' := upd (cpF f f2 i) i (f2 i)) hx hb hK hP hD hS 1 rfl (by omega) (by omega) rfl dX4_become_21 (fun H locs hP hD hS => ?_)
        have hP : va_P g.1 vwCl [(r, .inr (4, [.ref a])), (a, .inl (gI g, n, .inl (upd (cpF f f2 i) i (f2 i)))), (r2, .inr (4, [.ref a2])), (a2, .inl (gI g, n, .inl (f2)))] H := hP
        have hD : va_D A [(r, .inr (4, [.ref a])), (a, .inl (gI g, n, .inl (upd (cpF f f2 i) i (f2 i)))), (r2, .inr (4, [.ref a2])), (a2, .inl (gI g, n, .inl (f2)))] := hD
        refine lv_iinc (v := nI (i + 1)) (lv' := [(2, .int (nI (i + 1))), (0, .ref r), (1, .ref r2)]) hx hb dX4_become_22 hl (k := 0) rfl (by show nI _ + _ = _; rw [show Int32.ofInt 1 = nI 1 from by decide, nI_add]) (by decide) rfl (fun ls hl => ?_)
        refine lv_goto (tgt := 2) hx hb dX4_become_25 (by decide) ?_
        have eq_1 : (upd (cpF f f2 i) i (f2 i)) = (cpF f f2 (i + 1)) := by exact cpF_succ _ _ _
        have hl : lv_has ls 3 [(2, .int (nI (i + 1))), (0, .ref r), (1, .ref r2)] := by ((try rw [← eq_1]); exact hl)
        have hP : va_P g.1 vwCl [(r, .inr (4, [.ref a])), (a, .inl (gI g, n, .inl (cpF f f2 (i + 1)))), (r2, .inr (4, [.ref a2])), (a2, .inl (gI g, n, .inl (f2)))] H := by ((try rw [← eq_1]); exact hP)
        have hD : va_D A [(r, .inr (4, [.ref a])), (a, .inl (gI g, n, .inl (cpF f f2 (i + 1)))), (r2, .inr (4, [.ref a2])), (a2, .inl (gI g, n, .inl (f2)))] := by ((try rw [← eq_1]); exact hD)
        exact lp_ih (i + 1) (by omega)  (by omega) _ _ hP hD hS ls (lv_sub hl [0, 1, 2] rfl)
  have eq_2 : (f) = (cpF f f2 0) := by exact (cpF_0 _ _).symm
  have hl : lv_has ls 3 [(2, .int (nI 0)), (0, .ref r), (1, .ref r2)] := by ((try rw [← eq_2]); exact hl)
  have hP : va_P g.1 vwCl [(r, .inr (4, [.ref a])), (a, .inl (gI g, n, .inl (cpF f f2 0))), (r2, .inr (4, [.ref a2])), (a2, .inl (gI g, n, .inl (f2)))] H := by ((try rw [← eq_2]); exact hP)
  have hD : va_D A [(r, .inr (4, [.ref a])), (a, .inl (gI g, n, .inl (cpF f f2 0))), (r2, .inr (4, [.ref a2])), (a2, .inl (gI g, n, .inl (f2)))] := by ((try rw [← eq_2]); exact hD)
  exact lp (n + 1) 0 (Nat.zero_le _)  (by omega) _ _ hP hD hS ls (lv_sub hl [0, 1, 2] rfl)
