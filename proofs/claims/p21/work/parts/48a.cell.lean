/-! 'cell': a number out of the script, whatever it is -/
def iPe (g : GG) (sb L : Nat) (xs : Nat → Int32) (av : List Value) (sz : Nat) : Array Value → State → Prop := va_Pc av (fun U => U.heap.size = sz ∧ KK g U ∧ va_X sb L xs U U.heap ∧ sb < sz)
theorem iPe_blind (g : GG) (sb L : Nat) (xs : Nat → Int32) (av : List Value) (sz : Nat) : FrameBlind (iPe g sb L xs av sz) := fun a U f mk h => by
  obtain ⟨h1, h2, h3, h4, h5⟩ := h
  exact ⟨h1, h2, h3.call f mk a, va_X.moved (u := U) (U := U.calling f mk a) (Vm.Alike.refl U.vm) h4, h5⟩
def MCe (l : Launch) (y : MethodName) (ws : List Cond) (n : Nat) (g : GG) (sb L : Nat) (xs : Nat → Int32) (av : List Value) : Prop :=
  ∀ sz : Nat, Met l y ws (rmL n) (iPe g sb L xs av sz) (va_Qi (fun (_ : Int32) (_ : va_W) => True) (fun _ _ => True) (fun q => sz ≤ q)) 0 0 (fun q => sz ≤ q)
section ME
variable {p : Program} {l : Launch} {e : Env} {R : Room} {s : State} {m : MethodId} {args : Array Value} {below : List Frame} {meth : Method} {c : Code} {H : Heap} {locs : List Loc} {cells slots : Nat} {Q : State → Prop}
variable {pc : Nat} {ls : Array Slot} {rest As : List Value} {A : Nat → Prop} {g : GG} {Ts ws ws' : List Cond} {cc bytes : ByteArray} {nL maxL index n sb L : Nat} {xs : Nat → Int32} {own : String} {y : MethodName} {ret : Option FieldType} {ad : Nat → Nat} {gm : Nat → Option Nat} {σ : Stt} {z : Scr} {v : Int32}
theorem me_S (hx : p.tables.exec = Jvm.exec) (hb : c.code = cc) (hml : c.maxLocals = nL) (hown : s.vm.findClass own = some m.cls) (hts : ∀ x ∈ Ts, x.before args s = true) (hM : MCe l y ws n g sb L xs [.ref sb, .int v]) (hT : GoodIn Ts (va_wsS own index y ws)) (hw : ws = Cond.code y bytes maxL ret :: ws')
    (hd : y.cls ≠ "java/lang/invoke/MethodHandle" ∧ y.cls ≠ "java/lang/invoke/VarHandle" ∧ (parseMethodDescriptor y.desc).map (fun d => d.parameters.length) = some 2) (hR : n + 1 ≤ R.frames ∧ 8 + (maxL + 11) + 40 * n ≤ R.locals) (hf : cells ≤ R.cells ∧ slots ≤ R.slots)
    (hK : KK g s) (hX : va_X sb L xs s s.heap) (hbl : sb < s.heap.size) (hbA : ¬ A sb) (hz : ZOk z) (hP : va_P g.1 vwCl (MW g ad gm σ z) H) (hD : va_D A (MW g ad gm σ z)) (hS : va_S A s.heap H locs) (hA : ∀ q : Nat, s.heap.size ≤ q → A q)
    (hsz : ls.size = nL) (hcat : (rest.map fun v => v.category).sum ≤ 8) (hdg : decode cc pc = .ok (.invokestatic index, 3))
    (kk : ∀ (x : Int32) (H1 : Heap) (locs1 : List Loc), va_P g.1 vwCl (MW g ad gm σ z) H1 → va_D A (MW g ad gm σ z) → va_S A s.heap H1 locs1 → W p l e R s m args below meth c H1 locs1 cells slots Q (F0 m (pc + 3) ls (.int x :: rest))) : W p l e R s m args below meth c H locs cells slots Q (F0 m pc ls (.int v :: .ref sb :: rest)) := by
  have hXH : va_X sb L xs s H := hX.kept (hS.2.1 sb hbl hbA)
  have hlt : sb < H.size := Nat.lt_of_lt_of_le hbl hS.1
  refine va_calli (va_runS (As := [.ref sb, .int v]) (rest := rest) ⟨hx, hb, hml, hown, hts⟩ (hM H.size) (va_cwS 2 hts hT hw rfl rfl hd hR) ⟨iPe_blind g sb L xs _ _, fun U hU hW => ⟨rfl, by rw [hU], hK.warm hW, by rw [hU]; exact hXH.moved hW.alike, hlt⟩⟩ rfl rfl hsz rfl (lv_room hcat) hdg hf) hS (fun q h1 h2 => absurd h1 (Nat.not_lt.mpr h2)) (fun q h => hA q (Nat.le_trans hS.1 h)) (fun r u t H1 locs1 ht hvm hw hB hz1 hk1 hS1 => ?_)
  exact kk r H1 locs1 (xP_kept hP (fun q h => hk1 q h (Nat.not_le.mpr h))) hD hS1
end ME
set_option maxRecDepth 100000 in
set_option maxHeartbeats 4000000 in
theorem c_cell (l : Launch) (g : GG) (sb L : Nat) (xs : Nat → Int32) (hL : L ≤ 260) (k : Nat) (hk : k < 2 ^ 30) : MCe l yL_cell wsL_cell 1 g sb L xs [.ref sb, .int (nI k)] := by
  intro sz
  refine Met.ofW (cc := cL_cell) (maxL := 3) (ret := (some .int)) (by decide) rfl ?_
  intro p ev s m args below meth c s₁ Bd hml hv
  obtain ⟨rfl, hsz, hK, hX, hbl⟩ := hv
  subst hsz
  have hx := Bd.exec
  have hb := Bd.bytes
  have hr := Bd.returns
  have hlocks := Bd.notSynchronized
  have hts := atoms_spec (ws := wsL_cell) Bd.pre
  have hown : s.vm.findClass RL = some m.cls := findClass_of_methodNamed Bd.named
  have hS : va_S (fun q : Nat => s.heap.size ≤ q) s.heap s.heap [] := va_S.rf
  have hbA : ¬ s.heap.size ≤ sb := Nat.not_le.mpr hbl
  have hl := lv_entry ([.ref sb, .int (nI k)]) (n := 3) (Nat.le_of_ble_eq_true rfl)
  rw [lg_entry_eq]
  generalize (lg_sl ([.ref sb, .int (nI k)]) ++ List.replicate (3 - (lg_sl ([.ref sb, .int (nI k)])).length) Slot.unset).toArray = ls at hl ⊢
  have hl : lv_has ls 3 [(0, .ref sb), (1, .int (nI k))] := hl
  refine lv_iload_n hx hb dL_cell_0 rfl (lv_at hl 1 rfl) ?_
  refine lv_aload_n hx hb dL_cell_1 rfl (lv_at hl 0 rfl) ?_
  refine va_slen hx hb hX hbl hbA hS dL_cell_2 ?_
  refine nv_icmp_ge (tgt := 12) hx hb (by omega) (by omega) dL_cell_3 (by decide) (fun c_1 => ?_) (fun c_1 => ?_)
  · refine lv_sipush (v := nI 17081) hx hb dL_cell_12 (by decide) ?_
    refine lv_iload_n hx hb dL_cell_15 rfl (lv_at hl 1 rfl) ?_
    refine lv_bipush (v := nI 29) hx hb dL_cell_16 (by decide) ?_
    refine nv_iadd hx hb dL_cell_18 ?_
    refine nv_imul hx hb dL_cell_19 ?_
    refine lv_istore_n (lv' := [(2, .int (nI (17081 * (k + 29)))), (0, .ref sb), (1, .int (nI k))]) hx hb dL_cell_20 rfl hl (by decide) rfl (fun ls hl => ?_)
    refine lv_iload_n hx hb dL_cell_21 rfl (lv_at hl 0 rfl) ?_
    refine lv_iload_n hx hb dL_cell_22 rfl (lv_at hl 0 rfl) ?_
    refine lv_bipush (v := nI 14) hx hb dL_cell_23 (by decide) ?_
    refine lv_iushr hx hb dL_cell_25 rfl ?_
    refine lv_ixor hx hb dL_cell_26 ?_
    refine lv_ldc (v := 1821285619) hx hb hown (hts _ (List.mem_of_getElem? (i := 1) rfl)) dL_cell_27 ?_
    refine lv_imul hx hb dL_cell_29 ?_
    refine lv_bipush (v := nI 103) hx hb dL_cell_30 (by decide) ?_
    refine lv_iload_n hx hb dL_cell_32 rfl (lv_at hl 2 rfl) ?_
    refine lv_imul hx hb dL_cell_33 ?_
    refine lv_iadd hx hb dL_cell_34 ?_
    exact W.iret hx hb hr (fun t ht _ => ⟨⟨_, [], rfl, trivial, trivial⟩, hS.F ht⟩) hS.2.2 dL_cell_35 hlocks
  · refine lv_aload_n hx hb dL_cell_6 rfl (lv_at hl 0 rfl) ?_
    refine lv_iload_n hx hb dL_cell_7 rfl (lv_at hl 1 rfl) ?_
    refine va_sld hx hb hX hbl hbA hS (vp_in_nI c_1 (by omega)) dL_cell_8 ?_
    refine lv_goto (tgt := 20) hx hb dL_cell_9 (by decide) ?_
    refine lv_istore_n (lv' := [(2, .int (xs (nI k).toNatClampNeg)), (0, .ref sb), (1, .int (nI k))]) hx hb dL_cell_20 rfl hl (by decide) rfl (fun ls hl => ?_)
    refine lv_iload_n hx hb dL_cell_21 rfl (lv_at hl 0 rfl) ?_
    refine lv_iload_n hx hb dL_cell_22 rfl (lv_at hl 0 rfl) ?_
    refine lv_bipush (v := nI 14) hx hb dL_cell_23 (by decide) ?_
    refine lv_iushr hx hb dL_cell_25 rfl ?_
    refine lv_ixor hx hb dL_cell_26 ?_
    refine lv_ldc (v := 1821285619) hx hb hown (hts _ (List.mem_of_getElem? (i := 1) rfl)) dL_cell_27 ?_
    refine lv_imul hx hb dL_cell_29 ?_
    refine lv_bipush (v := nI 103) hx hb dL_cell_30 (by decide) ?_
    refine lv_iload_n hx hb dL_cell_32 rfl (lv_at hl 2 rfl) ?_
    refine lv_imul hx hb dL_cell_33 ?_
    refine lv_iadd hx hb dL_cell_34 ?_
    exact W.iret hx hb hr (fun t ht _ => ⟨⟨_, [], rfl, trivial, trivial⟩, hS.F ht⟩) hS.2.2 dL_cell_35 hlocks
