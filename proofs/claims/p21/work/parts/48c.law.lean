set_option maxRecDepth 100000 in
set_option maxHeartbeats 8000000 in
theorem law_loop {pg : Program} {l : Launch} {ev : Env} {s0 : State} {mi : MethodId} {below : List Frame} {meth : Method} {cd : Code} {g : GG} {sb L : Nat} {xs : Nat → Int32} {ad : Nat → Nat} {gm : Nat → Option Nat} (hst : l.stackTraces = false) (hL : L ≤ 260) (hx : pg.tables.exec = Jvm.exec) (hb : cd.code = cL_law) (hr : meth.sig.returnType = ret) (hml : cd.maxLocals = 9) (hown : s0.vm.findClass RL = some mi.cls) (hts : ∀ w ∈ wsL_law, w.before #[Value.ref sb] s0 = true) (hlocks : meth.locks = false) (hK : KK g s0) (hNX : XN s0) (hZ : XZ (fun q : Nat => s0.heap.size ≤ q) s0 s0.heap) (hX : va_X sb L xs s0 s0.heap) (hbl : sb < s0.heap.size) (hG : GM ad gm) : ∀ (k9 : Nat) (k : Nat) (hk : k ≤ 60), 60 - k < k9 → ∀ (σ : Stt) (hσ : SOk σ) (z : Scr) (hz : ZOk z) (H : Heap) (locs : List Loc) (hP : va_P g.1 vwCl (MW g ad gm σ z) H) (hD : va_D (fun q : Nat => s0.heap.size ≤ q) (MW g ad gm σ z)) (hS : va_S (fun q : Nat => s0.heap.size ≤ q) s0.heap H locs) (ls : Array Slot) (hl : lv_has ls 9 [(3, .int (nI k)), (2, .int (nI 1)), (1, .ref (ad 0)), (0, .ref sb)]), W pg l ev room_1 s0 mi #[Value.ref sb] below meth cd H locs (1000 + 200 * k) (8000 + 1000 * k) (lw_Z below #[Value.ref sb] s0) (F0 mi 73 ls []) := by
  intro k9
  induction k9 with
  | zero => intros; omega
  | succ k9 ih =>
    intro k hk hmz σ hσ z0 hz0 H0 locs0 hP0 hD0 hS0 ls0 hl0
    have hA : ∀ q : Nat, s0.heap.size ≤ q → (fun q : Nat => s0.heap.size ≤ q) q := fun _ h => h
    have hbA : ¬ (fun q : Nat => s0.heap.size ≤ q) sb := Nat.not_le.mpr hbl
    have j297 : ∀ (hk60 : k < 60) (σ2 : Stt) (hσ2 : SOk σ2) (z : Scr) (hz : ZOk z) (H : Heap) (locs : List Loc) (hP : va_P g.1 vwCl (MW g ad gm σ2 z) H) (hD : va_D (fun q : Nat => s0.heap.size ≤ q) (MW g ad gm σ2 z)) (hS : va_S (fun q : Nat => s0.heap.size ≤ q) s0.heap H locs) (ls : Array Slot) (hl : lv_has ls 9 [(3, .int (nI k)), (2, .int (nI 1)), (1, .ref (ad 0)), (0, .ref sb)]), W pg l ev room_1 s0 mi #[Value.ref sb] below meth cd H locs (1000 + 200 * k + 110) (8000 + 1000 * k + 700) (lw_Z below #[Value.ref sb] s0) (F0 mi 297 ls []) := by
      intro hk60 σ2 hσ2 z hz H locs hP hD hS ls hl
      refine lv_iinc (v := nI (k + 1)) (lv' := [(3, .int (nI (k + 1))), (2, .int (nI 1)), (1, .ref (ad 0)), (0, .ref sb)]) hx hb dL_law_297 hl (k := 0) rfl (by show nI _ + _ = _; rw [show Int32.ofInt 1 = nI 1 from by decide, nI_add]) (by decide) rfl (fun ls hl => ?_)
      refine lv_goto (tgt := 73) hx hb dL_law_300 (by decide) ?_
      refine W.widen (k := 1000 + 200 * (k + 1)) (n := 8000 + 1000 * (k + 1)) (by omega) (by omega) ?_
      exact ih (k + 1) (by omega) (by omega) σ2 hσ2 z hz H locs hP hD hS ls (lv_sub hl [0, 1, 2, 3] rfl)
    have j152 : ∀ (hk60 : k < 60) (σ2 : Stt) (hσ2 : SOk σ2) (x4 : Int32) (z : Scr) (hz : ZOk z) (H : Heap) (locs : List Loc) (hP : va_P g.1 vwCl (MW g ad gm σ2 z) H) (hD : va_D (fun q : Nat => s0.heap.size ≤ q) (MW g ad gm σ2 z)) (hS : va_S (fun q : Nat => s0.heap.size ≤ q) s0.heap H locs) (ls : Array Slot) (hl : lv_has ls 9 [(3, .int (nI k)), (2, .int (nI 1)), (1, .ref (ad 0)), (0, .ref sb), (4, .int (x4))]), W pg l ev room_1 s0 mi #[Value.ref sb] below meth cd H locs (1000 + 200 * k + 6) (8000 + 1000 * k + 36) (lw_Z below #[Value.ref sb] s0) (F0 mi 152 ls []) := by
      intro hk60 σ2 hσ2 x4 z hz H locs hP hD hS ls hl
      refine lv_iload_n hx hb dL_law_152 rfl (lv_at hl 0 rfl) ?_
      refine lv_bipush (v := nI (10)) hx hb dL_law_153 (by decide) ?_
      refine nv_irem hx hb (by omega) (by omega) (by omega) dL_law_155 ?_
      refine lv_bipush (v := nI (9)) hx hb dL_law_156 (by decide) ?_
      refine nv_icmp_ne (tgt := 297) hx hb (by omega) (by omega) dL_law_158 (by decide) (fun c_1 => ?_) (fun c_1 => ?_)
      · skip
        refine W.widen (k := 1000 + 200 * k + 110) (n := 8000 + 1000 * k + 700) (by omega) (by omega) ?_
        exact j297 hk60 σ2 hσ2 z hz H locs hP hD hS ls (lv_sub hl [0, 1, 2, 3] rfl)
      · skip
        refine lv_iload_n hx hb dL_law_161 rfl (lv_at hl 1 rfl) ?_
        refine lv_if_eq (tgt := 297) hx hb dL_law_162 (by decide) (fun c_2 => absurd c_2 (by decide)) (fun c_2 => ?_)
        refine lv_iconst (v := nI (1)) hx hb dL_law_165 (by decide) ?_
        refine lv_iload hx hb dL_law_166 (lv_at hl 4 rfl) ?_
        refine lv_iconst (v := nI (3)) hx hb dL_law_168 (by decide) ?_
        refine lv_ishr hx hb dL_law_169 ?_
        refine lv_iconst (v := nI (2)) hx hb dL_law_170 (by decide) ?_
        refine ms_S hx hb hml hown hts (c_some l g (x4 >>> ((nI (3)) &&& 31)) 2 (by decide) (by decide)) gL_law_L_some rfl (by decide +kernel) ⟨Nat.le_of_ble_eq_true rfl, Nat.le_of_ble_eq_true rfl⟩ ⟨by show _ ≤ 647118; omega, by show _ ≤ 7160271; omega⟩ hK hz hP hD hS hA hl.1 (rest := [.int (nI 1)]) (Nat.le_of_ble_eq_true rfl) dL_law_171 (fun r1 hr1 z H locs hz hP hD hS => ?_)
        obtain ⟨rm, hrm, rfl⟩ := hr1
        refine nv_iadd hx hb dL_law_174 ?_
        refine lv_istore (lv' := [(7, .int (nI (1 + rm))), (3, .int (nI k)), (2, .int (nI 1)), (1, .ref (ad 0)), (0, .ref sb), (4, .int (x4))]) hx hb dL_law_175 hl (by decide) rfl (fun ls hl => ?_)
        refine lv_aload_n hx hb dL_law_177 rfl (lv_at hl 3 rfl) ?_
        refine mc_V (k := 0) hx hb hml hown hts (mc_bestModel l g ad gm hG σ2 hσ2) gL_law_X6_bestModel rfl (by decide +kernel) ⟨Nat.le_of_ble_eq_true rfl, Nat.le_of_ble_eq_true rfl⟩ ⟨by show _ ≤ 647118; omega, by show _ ≤ 7160271; omega⟩ hK hz hP hD hS hA rfl hl.1 (rest := []) (As := []) rfl (Nat.le_of_ble_eq_true rfl) dL_law_178 (fun z H locs hz hP hD hS => ?_)
        refine lv_istore (lv' := [(8, .int (oI (a_bm σ2))), (7, .int (nI (1 + rm))), (3, .int (nI k)), (2, .int (nI 1)), (1, .ref (ad 0)), (0, .ref sb), (4, .int (x4))]) hx hb dL_law_181 hl (by decide) rfl (fun ls hl => ?_)
        refine lv_aload_n hx hb dL_law_183 rfl (lv_at hl 4 rfl) ?_
        refine lv_iload hx hb dL_law_184 (lv_at hl 1 rfl) ?_
        refine my_S (k := 2) hx hb hml hown hts (c_adds l hst g ad gm hG σ2 hσ2 (1 + rm) (by omega) (by omega)) gL_law_L_adds rfl (by decide +kernel) ⟨Nat.le_of_ble_eq_true rfl, Nat.le_of_ble_eq_true rfl⟩ ⟨by show _ ≤ 647118; omega, by show _ ≤ 7160271; omega⟩ hK hNX hZ hz hP hD hS hA rfl hl.1 (rest := []) (As := [.ref (ad 0), .int (nI (1 + rm))]) rfl (Nat.le_of_ble_eq_true rfl) dL_law_186 (fun x9 σ9 z H locs hpo hz hP hD hS => ?_)
        obtain ⟨hx9, he9⟩ := hpo
        subst hx9
        rw [he9] at hP hD
        refine lv_if_eq (tgt := 258) hx hb dL_law_189 (by decide) (fun c_3 => absurd c_3 (by decide)) (fun c_3 => ?_)
        have hb0 := best_inv σ2
        have hkl := a_mk_le hσ2 (1 + rm)
        have hcl := a_ct_le σ2 (1 + rm)
        have j259 : ∀ (z : Scr) (hz : ZOk z) (H : Heap) (locs : List Loc) (hP : va_P g.1 vwCl (MW g ad gm σ2 z) H) (hD : va_D (fun q : Nat => s0.heap.size ≤ q) (MW g ad gm σ2 z)) (hS : va_S (fun q : Nat => s0.heap.size ≤ q) s0.heap H locs) (ls : Array Slot) (hl : lv_has ls 9 [(3, .int (nI k)), (1, .ref (ad 0)), (0, .ref sb), (7, .int (nI (1 + rm)))]), W pg l ev room_1 s0 mi #[Value.ref sb] below meth cd H locs (1000 + 200 * k + 108) (8000 + 1000 * k + 660) (lw_Z below #[Value.ref sb] s0) (F0 mi 259 ls [.int (nI 1)]) := by
          intro  z hz H locs hP hD hS ls hl
          refine lv_istore_n (lv' := [(2, .int (nI 1)), (3, .int (nI k)), (1, .ref (ad 0)), (0, .ref sb), (7, .int (nI (1 + rm)))]) hx hb dL_law_259 rfl hl (by decide) rfl (fun ls hl => ?_)
          refine lv_iload_n hx hb dL_law_260 rfl (lv_at hl 0 rfl) ?_
          refine lv_if_eq (tgt := 295) hx hb dL_law_261 (by decide) (fun c_4 => absurd c_4 (by decide)) (fun c_4 => ?_)
          refine lv_iload_n hx hb dL_law_264 rfl (lv_at hl 1 rfl) ?_
          refine lv_bipush (v := nI (30)) hx hb dL_law_265 (by decide) ?_
          refine nv_irem hx hb (by omega) (by omega) (by omega) dL_law_267 ?_
          refine lv_bipush (v := nI (29)) hx hb dL_law_268 (by decide) ?_
          refine nv_icmp_ne (tgt := 291) hx hb (by omega) (by omega) dL_law_270 (by decide) (fun c_5 => ?_) (fun c_5 => ?_)
          · skip
            refine lv_iconst (v := nI (1)) hx hb dL_law_291 (by decide) ?_
            refine lv_goto (tgt := 296) hx hb dL_law_292 (by decide) ?_
            refine lv_istore_n (lv' := [(2, .int (nI 1)), (3, .int (nI k)), (1, .ref (ad 0)), (0, .ref sb), (7, .int (nI (1 + rm)))]) hx hb dL_law_296 rfl hl (by decide) rfl (fun ls hl => ?_)
            refine W.widen (k := 1000 + 200 * k + 110) (n := 8000 + 1000 * k + 700) (by omega) (by omega) ?_
            exact j297 hk60 σ2 hσ2 z hz H locs hP hD hS ls (lv_sub hl [1, 0, 2, 3] rfl)
          · skip
            refine lv_aload_n hx hb dL_law_273 rfl (lv_at hl 2 rfl) ?_
            refine lv_iconst (v := nI (0)) hx hb dL_law_274 (by decide) ?_
            refine mc_V (k := 1) hx hb hml hown hts (mc_ideas l g ad gm hG σ2 hσ2 0 (by omega)) gL_law_X6_ideas rfl (by decide +kernel) ⟨Nat.le_of_ble_eq_true rfl, Nat.le_of_ble_eq_true rfl⟩ ⟨by show _ ≤ 647118; omega, by show _ ≤ 7160271; omega⟩ hK hz hP hD hS hA rfl hl.1 (rest := []) (As := [.int (nI 0)]) rfl (Nat.le_of_ble_eq_true rfl) dL_law_275 (fun z H locs hz hP hD hS => ?_)
            refine lv_iconst (v := nI (3)) hx hb dL_law_278 (by decide) ?_
            refine nv_icmp_gt (tgt := 291) hx hb (by have := hσ2.1 0; omega) (by omega) dL_law_279 (by decide) (fun c_6 => ?_) (fun c_6 => ?_)
            · skip
              refine lv_iconst (v := nI (1)) hx hb dL_law_291 (by decide) ?_
              refine lv_goto (tgt := 296) hx hb dL_law_292 (by decide) ?_
              refine lv_istore_n (lv' := [(2, .int (nI 1)), (3, .int (nI k)), (1, .ref (ad 0)), (0, .ref sb), (7, .int (nI (1 + rm)))]) hx hb dL_law_296 rfl hl (by decide) rfl (fun ls hl => ?_)
              refine W.widen (k := 1000 + 200 * k + 110) (n := 8000 + 1000 * k + 700) (by omega) (by omega) ?_
              exact j297 hk60 σ2 hσ2 z hz H locs hP hD hS ls (lv_sub hl [1, 0, 2, 3] rfl)
            · skip
              refine lv_aload_n hx hb dL_law_282 rfl (lv_at hl 2 rfl) ?_
              refine lv_iload hx hb dL_law_283 (lv_at hl 4 rfl) ?_
              refine my_S (k := 2) hx hb hml hown hts (c_hints l hst g ad gm hG σ2 hσ2 (1 + rm) (by omega) (by omega)) gL_law_L_hints rfl (by decide +kernel) ⟨Nat.le_of_ble_eq_true rfl, Nat.le_of_ble_eq_true rfl⟩ ⟨by show _ ≤ 647118; omega, by show _ ≤ 7160271; omega⟩ hK hNX hZ hz hP hD hS hA rfl hl.1 (rest := []) (As := [.ref (ad 0), .int (nI (1 + rm))]) rfl (Nat.le_of_ble_eq_true rfl) dL_law_285 (fun x9 σ8 z H locs hpo hz hP hD hS => ?_)
              obtain ⟨hx9, he9⟩ := hpo
              subst hx9
              rw [he9] at hP hD
              refine lv_if_eq (tgt := 295) hx hb dL_law_288 (by decide) (fun c_7 => absurd c_7 (by decide)) (fun c_7 => ?_)
              refine lv_iconst (v := nI (1)) hx hb dL_law_291 (by decide) ?_
              refine lv_goto (tgt := 296) hx hb dL_law_292 (by decide) ?_
              refine lv_istore_n (lv' := [(2, .int (nI 1)), (3, .int (nI k)), (1, .ref (ad 0)), (0, .ref sb), (7, .int (nI (1 + rm)))]) hx hb dL_law_296 rfl hl (by decide) rfl (fun ls hl => ?_)
              refine W.widen (k := 1000 + 200 * k + 110) (n := 8000 + 1000 * k + 700) (by omega) (by omega) ?_
              exact j297 hk60 σ2 hσ2 z hz H locs hP hD hS ls (lv_sub hl [1, 0, 2, 3] rfl)
        rcases hbm : a_bm σ2 with _ | bm
        · rw [hbm] at hl
          have e1 := best_none hbm (i := 1) (by decide) (by decide)
          have e2 := best_none hbm (i := 2) (by decide) (by decide)
          have e3 := best_none hbm (i := 3) (by decide) (by decide)
          refine lv_iload hx hb dL_law_192 (lv_at hl 0 rfl) ?_
          refine lv_iconst (v := -1) hx hb dL_law_194 (by decide) ?_
          refine lv_icmp_ne (tgt := 221) hx hb dL_law_195 (by decide) (fun c_8 => absurd c_8 (by decide)) (fun c_8 => ?_)
          refine lv_aload_n hx hb dL_law_198 rfl (lv_at hl 4 rfl) ?_
          refine lv_iconst (v := nI (1)) hx hb dL_law_199 (by decide) ?_
          refine mc_V (k := 1) hx hb hml hown hts (mc_links l g ad gm hG σ2 hσ2 1 (by omega)) gL_law_X6_links rfl (by decide +kernel) ⟨Nat.le_of_ble_eq_true rfl, Nat.le_of_ble_eq_true rfl⟩ ⟨by show _ ≤ 647118; omega, by show _ ≤ 7160271; omega⟩ hK hz hP hD hS hA rfl hl.1 (rest := []) (As := [.int (nI 1)]) rfl (Nat.le_of_ble_eq_true rfl) dL_law_200 (fun z H locs hz hP hD hS => ?_)
          refine lv_aload_n hx hb dL_law_203 rfl (lv_at hl 4 rfl) ?_
          refine lv_iconst (v := nI (2)) hx hb dL_law_204 (by decide) ?_
          refine mc_V (k := 1) hx hb hml hown hts (mc_links l g ad gm hG σ2 hσ2 2 (by omega)) gL_law_X6_links rfl (by decide +kernel) ⟨Nat.le_of_ble_eq_true rfl, Nat.le_of_ble_eq_true rfl⟩ ⟨by show _ ≤ 647118; omega, by show _ ≤ 7160271; omega⟩ hK hz hP hD hS hA rfl hl.1 (rest := [.int (nI (a_ct σ2 1))]) (As := [.int (nI 2)]) rfl (Nat.le_of_ble_eq_true rfl) dL_law_205 (fun z H locs hz hP hD hS => ?_)
          refine nv_iadd hx hb dL_law_208 ?_
          refine lv_aload_n hx hb dL_law_209 rfl (lv_at hl 4 rfl) ?_
          refine lv_iconst (v := nI (3)) hx hb dL_law_210 (by decide) ?_
          refine mc_V (k := 1) hx hb hml hown hts (mc_links l g ad gm hG σ2 hσ2 3 (by omega)) gL_law_X6_links rfl (by decide +kernel) ⟨Nat.le_of_ble_eq_true rfl, Nat.le_of_ble_eq_true rfl⟩ ⟨by show _ ≤ 647118; omega, by show _ ≤ 7160271; omega⟩ hK hz hP hD hS hA rfl hl.1 (rest := [.int (nI ((a_ct σ2 1) + (a_ct σ2 2)))]) (As := [.int (nI 3)]) rfl (Nat.le_of_ble_eq_true rfl) dL_law_211 (fun z H locs hz hP hD hS => ?_)
          refine nv_iadd hx hb dL_law_214 ?_
          refine nv_if_ne (tgt := 258) hx hb (by omega) dL_law_215 (by decide) (fun c_9 => by exfalso; omega) (fun c_9 => ?_)
          refine lv_goto (tgt := 254) hx hb dL_law_218 (by decide) ?_
          refine lv_iconst (v := nI (1)) hx hb dL_law_254 (by decide) ?_
          refine lv_goto (tgt := 259) hx hb dL_law_255 (by decide) ?_
          refine W.widen (k := 1000 + 200 * k + 108) (n := 8000 + 1000 * k + 660) (by omega) (by omega) ?_
          exact j259  z hz H locs hP hD hS ls (lv_sub hl [2, 4, 5, 1] rfl)
        · rw [hbm] at hl
          obtain ⟨hq1, hq2, hq3⟩ := hb0 bm hbm
          have hkb := a_mk_le hσ2 bm
          have hcb := a_ct_le σ2 bm
          refine lv_iload hx hb dL_law_192 (lv_at hl 0 rfl) ?_
          refine lv_iconst (v := -1) hx hb dL_law_194 (by decide) ?_
          refine lv_icmp_ne (tgt := 221) hx hb dL_law_195 (by decide) (fun c_10 => ?_) (fun c_10 => by exfalso; exact nI_nneg (by omega) (by decide) c_10)
          refine lv_aload_n hx hb dL_law_221 rfl (lv_at hl 4 rfl) ?_
          refine lv_iload hx hb dL_law_222 (lv_at hl 0 rfl) ?_
          refine mc_V (k := 1) hx hb hml hown hts (mc_links l g ad gm hG σ2 hσ2 bm (by omega)) gL_law_X6_links rfl (by decide +kernel) ⟨Nat.le_of_ble_eq_true rfl, Nat.le_of_ble_eq_true rfl⟩ ⟨by show _ ≤ 647118; omega, by show _ ≤ 7160271; omega⟩ hK hz hP hD hS hA rfl hl.1 (rest := []) (As := [.int (nI bm)]) rfl (Nat.le_of_ble_eq_true rfl) dL_law_224 (fun z H locs hz hP hD hS => ?_)
          refine nv_if_le (tgt := 258) hx hb (by omega) dL_law_227 (by decide) (fun c_11 => by exfalso; exact hq3 c_11) (fun c_11 => ?_)
          refine lv_aload_n hx hb dL_law_230 rfl (lv_at hl 4 rfl) ?_
          refine lv_iload hx hb dL_law_231 (lv_at hl 1 rfl) ?_
          refine mc_V (k := 1) hx hb hml hown hts (mc_links l g ad gm hG σ2 hσ2 (1 + rm) (by omega)) gL_law_X6_links rfl (by decide +kernel) ⟨Nat.le_of_ble_eq_true rfl, Nat.le_of_ble_eq_true rfl⟩ ⟨by show _ ≤ 647118; omega, by show _ ≤ 7160271; omega⟩ hK hz hP hD hS hA rfl hl.1 (rest := []) (As := [.int (nI (1 + rm))]) rfl (Nat.le_of_ble_eq_true rfl) dL_law_233 (fun z H locs hz hP hD hS => ?_)
          refine nv_if_eq (tgt := 254) hx hb (by omega) dL_law_236 (by decide) (fun c_12 => ?_) (fun c_12 => ?_)
          · skip
            refine lv_iconst (v := nI (1)) hx hb dL_law_254 (by decide) ?_
            refine lv_goto (tgt := 259) hx hb dL_law_255 (by decide) ?_
            refine W.widen (k := 1000 + 200 * k + 108) (n := 8000 + 1000 * k + 660) (by omega) (by omega) ?_
            exact j259  z hz H locs hP hD hS ls (lv_sub hl [2, 4, 5, 1] rfl)
          · skip
            refine lv_aload_n hx hb dL_law_239 rfl (lv_at hl 4 rfl) ?_
            refine lv_iload hx hb dL_law_240 (lv_at hl 0 rfl) ?_
            refine mc_V (k := 1) hx hb hml hown hts (mc_mark l g ad gm hG σ2 hσ2 bm (by omega) (by omega)) gL_law_X6_mark rfl (by decide +kernel) ⟨Nat.le_of_ble_eq_true rfl, Nat.le_of_ble_eq_true rfl⟩ ⟨by show _ ≤ 647118; omega, by show _ ≤ 7160271; omega⟩ hK hz hP hD hS hA rfl hl.1 (rest := []) (As := [.int (nI bm)]) rfl (Nat.le_of_ble_eq_true rfl) dL_law_242 (fun z H locs hz hP hD hS => ?_)
            refine lv_aload_n hx hb dL_law_245 rfl (lv_at hl 4 rfl) ?_
            refine lv_iload hx hb dL_law_246 (lv_at hl 1 rfl) ?_
            refine mc_V (k := 1) hx hb hml hown hts (mc_mark l g ad gm hG σ2 hσ2 (1 + rm) (by omega) (by omega)) gL_law_X6_mark rfl (by decide +kernel) ⟨Nat.le_of_ble_eq_true rfl, Nat.le_of_ble_eq_true rfl⟩ ⟨by show _ ≤ 647118; omega, by show _ ≤ 7160271; omega⟩ hK hz hP hD hS hA rfl hl.1 (rest := [.int (nI (a_mk σ2 bm))]) (As := [.int (nI (1 + rm))]) rfl (Nat.le_of_ble_eq_true rfl) dL_law_248 (fun z H locs hz hP hD hS => ?_)
            refine nv_icmp_lt (tgt := 258) hx hb (by omega) (by omega) dL_law_251 (by decide) (fun c_13 => by exfalso; obtain ⟨b2, h1, h2⟩ := best_max (σ := σ2) (i := (1 + rm)) (by omega) (by omega) c_12; rw [hbm] at h1; cases h1; omega) (fun c_13 => ?_)
            refine lv_iconst (v := nI (1)) hx hb dL_law_254 (by decide) ?_
            refine lv_goto (tgt := 259) hx hb dL_law_255 (by decide) ?_
            refine W.widen (k := 1000 + 200 * k + 108) (n := 8000 + 1000 * k + 660) (by omega) (by omega) ?_
            exact j259  z hz H locs hP hD hS ls (lv_sub hl [2, 4, 5, 1] rfl)
    have j121 : ∀ (hk60 : k < 60) (odd : Bool) (x4 x5 : Int32) (z : Scr) (hz : ZOk z) (H : Heap) (locs : List Loc) (hP : va_P g.1 vwCl (MW g ad gm σ z) H) (hD : va_D (fun q : Nat => s0.heap.size ≤ q) (MW g ad gm σ z)) (hS : va_S (fun q : Nat => s0.heap.size ≤ q) s0.heap H locs) (ls : Array Slot) (hl : lv_has ls 9 [(3, .int (nI k)), (2, .int (nI 1)), (1, .ref (ad 0)), (0, .ref sb), (4, .int (x4)), (5, .int (x5))]), W pg l ev room_1 s0 mi #[Value.ref sb] below meth cd H locs (1000 + 200 * k) (8000 + 1000 * k) (lw_Z below #[Value.ref sb] s0) (F0 mi 121 ls [.int (b2i (odd))]) := by
      intro hk60 odd x4 x5 z hz H locs hP hD hS ls hl
      refine lv_istore (lv' := [(6, .int (b2i (odd))), (3, .int (nI k)), (2, .int (nI 1)), (1, .ref (ad 0)), (0, .ref sb), (4, .int (x4)), (5, .int (x5))]) hx hb dL_law_121 hl (by decide) rfl (fun ls hl => ?_)
      refine lv_aload_n hx hb dL_law_123 rfl (lv_at hl 3 rfl) ?_
      refine lv_iload hx hb dL_law_124 (lv_at hl 6 rfl) ?_
      refine lv_iload hx hb dL_law_126 (lv_at hl 0 rfl) ?_
      refine my_S (k := 3) hx hb hml hown hts (c_changes l hst g ad gm hG σ hσ x5 odd) gL_law_L_changes rfl (by decide +kernel) ⟨Nat.le_of_ble_eq_true rfl, Nat.le_of_ble_eq_true rfl⟩ ⟨by show _ ≤ 647118; omega, by show _ ≤ 7160271; omega⟩ hK hNX hZ hz hP hD hS hA rfl hl.1 (rest := []) (As := [.ref (ad 0), .int (x5), .int (b2i (odd))]) rfl (Nat.le_of_ble_eq_true rfl) dL_law_128 (fun x9 σ3 z H locs hpo hz hP hD hS => ?_)
      obtain ⟨hx9, hσ3⟩ := hpo
      subst hx9
      refine lv_if_eq (tgt := 150) hx hb dL_law_131 (by decide) (fun c_14 => absurd c_14 (by decide)) (fun c_14 => ?_)
      refine lv_aload_n hx hb dL_law_134 rfl (lv_at hl 3 rfl) ?_
      refine lv_iload hx hb dL_law_135 (lv_at hl 5 rfl) ?_
      refine lv_iconst (v := nI (2)) hx hb dL_law_137 (by decide) ?_
      refine lv_ishr hx hb dL_law_138 ?_
      refine lv_iconst (v := nI (0)) hx hb dL_law_139 (by decide) ?_
      rw [show nI 0 = b2i false from by decide]
      refine my_S (k := 3) hx hb hml hown hts (c_changes l hst g ad gm hG σ3 hσ3 (x4 >>> ((nI (2)) &&& 31)) false) gL_law_L_changes rfl (by decide +kernel) ⟨Nat.le_of_ble_eq_true rfl, Nat.le_of_ble_eq_true rfl⟩ ⟨by show _ ≤ 647118; omega, by show _ ≤ 7160271; omega⟩ hK hNX hZ hz hP hD hS hA rfl hl.1 (rest := []) (As := [.ref (ad 0), .int (x4 >>> ((nI (2)) &&& 31)), .int (b2i (false))]) rfl (Nat.le_of_ble_eq_true rfl) dL_law_140 (fun x9 σ4 z H locs hpo hz hP hD hS => ?_)
      obtain ⟨hx9, hσ4⟩ := hpo
      subst hx9
      refine lv_if_eq (tgt := 150) hx hb dL_law_143 (by decide) (fun c_15 => absurd c_15 (by decide)) (fun c_15 => ?_)
      refine lv_iconst (v := nI (1)) hx hb dL_law_146 (by decide) ?_
      refine lv_goto (tgt := 151) hx hb dL_law_147 (by decide) ?_
      refine lv_istore_n (lv' := [(2, .int (nI 1)), (6, .int (b2i (odd))), (3, .int (nI k)), (1, .ref (ad 0)), (0, .ref sb), (4, .int (x4)), (5, .int (x5))]) hx hb dL_law_151 rfl hl (by decide) rfl (fun ls hl => ?_)
      exact j152 hk60 σ4 hσ4 x4 z hz H locs hP hD hS ls (lv_sub hl [2, 0, 3, 4, 5] rfl)
    have hP := hP0; have hD := hD0; have hS := hS0; have hl := hl0; have hz := hz0
    refine lv_iload_n hx hb dL_law_73 rfl (lv_at hl 0 rfl) ?_
    refine lv_bipush (v := nI (60)) hx hb dL_law_74 (by decide) ?_
    refine nv_icmp_ge (tgt := 303) hx hb (by omega) (by omega) dL_law_76 (by decide) (fun c_16 => ?_) (fun c_16 => ?_)
    · skip
      refine lv_iload_n hx hb dL_law_303 rfl (lv_at hl 1 rfl) ?_
      rw [show nI 1 = 1 from by decide]
      refine va_forget (fun q hq => hS.2.2 q hq) ?_
      refine W.widen (k := 647118) (n := 7160271) (by omega) (by omega) ?_
      exact lw_ret hx hb hr hlocks dL_law_304
    · skip
      refine lv_iload_n hx hb dL_law_79 rfl (lv_at hl 1 rfl) ?_
      refine lv_if_eq (tgt := 303) hx hb dL_law_80 (by decide) (fun c_17 => absurd c_17 (by decide)) (fun c_17 => ?_)
      refine lv_aload_n hx hb dL_law_83 rfl (lv_at hl 3 rfl) ?_
      refine lv_iconst (v := nI (2)) hx hb dL_law_84 (by decide) ?_
      refine lv_iload_n hx hb dL_law_85 rfl (lv_at hl 0 rfl) ?_
      refine nv_imul hx hb dL_law_86 ?_
      refine me_S hx hb hml hown hts (c_cell l g sb L xs hL (2 * k) (by omega)) gL_law_L_cell rfl (by decide +kernel) ⟨Nat.le_of_ble_eq_true rfl, Nat.le_of_ble_eq_true rfl⟩ ⟨by show _ ≤ 647118; omega, by show _ ≤ 7160271; omega⟩ hK hX hbl hbA hz hP hD hS hA hl.1 (rest := []) (Nat.le_of_ble_eq_true rfl) dL_law_87 (fun x1 H locs hP hD hS => ?_)
      refine lv_istore (lv' := [(4, .int (x1)), (3, .int (nI k)), (2, .int (nI 1)), (1, .ref (ad 0)), (0, .ref sb)]) hx hb dL_law_90 hl (by decide) rfl (fun ls hl => ?_)
      refine lv_aload_n hx hb dL_law_92 rfl (lv_at hl 4 rfl) ?_
      refine lv_iconst (v := nI (2)) hx hb dL_law_93 (by decide) ?_
      refine lv_iload_n hx hb dL_law_94 rfl (lv_at hl 1 rfl) ?_
      refine nv_imul hx hb dL_law_95 ?_
      refine lv_iconst (v := nI (1)) hx hb dL_law_96 (by decide) ?_
      refine nv_iadd hx hb dL_law_97 ?_
      refine me_S hx hb hml hown hts (c_cell l g sb L xs hL ((2 * k) + 1) (by omega)) gL_law_L_cell rfl (by decide +kernel) ⟨Nat.le_of_ble_eq_true rfl, Nat.le_of_ble_eq_true rfl⟩ ⟨by show _ ≤ 647118; omega, by show _ ≤ 7160271; omega⟩ hK hX hbl hbA hz hP hD hS hA hl.1 (rest := []) (Nat.le_of_ble_eq_true rfl) dL_law_98 (fun x2 H locs hP hD hS => ?_)
      refine lv_istore (lv' := [(5, .int (x2)), (4, .int (x1)), (3, .int (nI k)), (2, .int (nI 1)), (1, .ref (ad 0)), (0, .ref sb)]) hx hb dL_law_101 hl (by decide) rfl (fun ls hl => ?_)
      refine lv_iload hx hb dL_law_103 (lv_at hl 1 rfl) ?_
      refine lv_bipush (v := nI (9)) hx hb dL_law_105 (by decide) ?_
      refine lv_ishr hx hb dL_law_107 ?_
      refine lv_bipush (v := nI (10)) hx hb dL_law_108 (by decide) ?_
      refine ms_S hx hb hml hown hts (c_some l g (x1 >>> ((nI (9)) &&& 31)) 10 (by decide) (by decide)) gL_law_L_some rfl (by decide +kernel) ⟨Nat.le_of_ble_eq_true rfl, Nat.le_of_ble_eq_true rfl⟩ ⟨by show _ ≤ 647118; omega, by show _ ≤ 7160271; omega⟩ hK hz hP hD hS hA hl.1 (rest := []) (Nat.le_of_ble_eq_true rfl) dL_law_110 (fun r2 hr2 z H locs hz hP hD hS => ?_)
      refine lv_if_ne (tgt := 120) hx hb dL_law_113 (by decide) (fun c_18 => ?_) (fun c_18 => ?_)
      · skip
        refine lv_iconst (v := nI (0)) hx hb dL_law_120 (by decide) ?_
        rw [show nI 0 = b2i false from by decide]
        exact j121 c_16 false x1 x2 z hz H locs hP hD hS ls (lv_sub hl [2, 3, 4, 5, 1, 0] rfl)
      · skip
        refine lv_iconst (v := nI (1)) hx hb dL_law_116 (by decide) ?_
        refine lv_goto (tgt := 121) hx hb dL_law_117 (by decide) ?_
        rw [show nI 1 = b2i true from by decide]
        exact j121 c_16 true x1 x2 z hz H locs hP hD hS ls (lv_sub hl [2, 3, 4, 5, 1, 0] rfl)
set_option maxRecDepth 100000 in
set_option maxHeartbeats 8000000 in
theorem law_pre {pg : Program} {l : Launch} {ev : Env} {s0 : State} {mi : MethodId} {below : List Frame} {meth : Method} {cd : Code} {g : GG} {sb L : Nat} {xs : Nat → Int32} {ad : Nat → Nat} {gm : Nat → Option Nat} (hst : l.stackTraces = false) (hL : L ≤ 260) (hx : pg.tables.exec = Jvm.exec) (hb : cd.code = cL_law) (hr : meth.sig.returnType = ret) (hml : cd.maxLocals = 9) (hown : s0.vm.findClass RL = some mi.cls) (hts : ∀ w ∈ wsL_law, w.before #[Value.ref sb] s0 = true) (hlocks : meth.locks = false) (hK : KK g s0) (hNX : XN s0) (hZ : XZ (fun q : Nat => s0.heap.size ≤ q) s0 s0.heap) (hX : va_X sb L xs s0 s0.heap) (hbl : sb < s0.heap.size) (hG : GM ad gm) (z : Scr) (hz : ZOk z) (H : Heap) (locs : List Loc) (hP : va_P g.1 vwCl (MW g ad gm s_0 z) H) (hD : va_D (fun q : Nat => s0.heap.size ≤ q) (MW g ad gm s_0 z)) (hS : va_S (fun q : Nat => s0.heap.size ≤ q) s0.heap H locs) (ls : Array Slot) (hl : lv_has ls 9 [(1, .ref (ad 0)), (0, .ref sb)]) : W pg l ev room_1 s0 mi #[Value.ref sb] below meth cd H locs (60) (1000) (lw_Z below #[Value.ref sb] s0) (F0 mi 8 ls []) := by
  have hA : ∀ q : Nat, s0.heap.size ≤ q → (fun q : Nat => s0.heap.size ≤ q) q := fun _ h => h
  have hbA : ¬ (fun q : Nat => s0.heap.size ≤ q) sb := Nat.not_le.mpr hbl
  refine lv_aload_n hx hb dL_law_8 rfl (lv_at hl 0 rfl) ?_
  refine ml_S (k := 1) hx hb hml hown hts (c_all l g ad gm hG s_0 s_0_ok) gL_law_L_all rfl (by decide +kernel) ⟨Nat.le_of_ble_eq_true rfl, Nat.le_of_ble_eq_true rfl⟩ ⟨by show _ ≤ 647118; omega, by show _ ≤ 7160271; omega⟩ hK hz hP hD hS hA rfl hl.1 (rest := []) (As := [.ref (ad 0)]) rfl (Nat.le_of_ble_eq_true rfl) dL_law_9 (fun z H locs hz hP hD hS => ?_)
  refine lv_aload_n hx hb dL_law_12 rfl (lv_at hl 0 rfl) ?_
  refine ml_S (k := 1) hx hb hml hown hts (c_all l g ad gm hG s_0 s_0_ok) gL_law_L_all rfl (by decide +kernel) ⟨Nat.le_of_ble_eq_true rfl, Nat.le_of_ble_eq_true rfl⟩ ⟨by show _ ≤ 647118; omega, by show _ ≤ 7160271; omega⟩ hK hz hP hD hS hA rfl hl.1 (rest := [.long (a_all s_0)]) (As := [.ref (ad 0)]) rfl (Nat.le_of_ble_eq_true rfl) dL_law_13 (fun z H locs hz hP hD hS => ?_)
  refine W.lcmp (x := a_all s_0) (y := a_all s_0) hx hb dL_law_16 ?_
  rw [lg_self]
  refine lv_if_ne (tgt := 69) hx hb dL_law_17 (by decide) (fun c_1 => absurd c_1 (by decide)) (fun c_1 => ?_)
  refine lv_aload_n hx hb dL_law_20 rfl (lv_at hl 0 rfl) ?_
  refine mc_V (k := 0) hx hb hml hown hts (mc_bestModel l g ad gm hG s_0 s_0_ok) gL_law_X6_bestModel rfl (by decide +kernel) ⟨Nat.le_of_ble_eq_true rfl, Nat.le_of_ble_eq_true rfl⟩ ⟨by show _ ≤ 647118; omega, by show _ ≤ 7160271; omega⟩ hK hz hP hD hS hA rfl hl.1 (rest := []) (As := []) rfl (Nat.le_of_ble_eq_true rfl) dL_law_21 (fun z H locs hz hP hD hS => ?_)
  rw [s_0_bm]
  refine lv_iconst (v := -1) hx hb dL_law_24 (by decide) ?_
  refine lv_icmp_ne (tgt := 69) hx hb dL_law_25 (by decide) (fun c_2 => absurd c_2 (by decide)) (fun c_2 => ?_)
  refine lv_aload_n hx hb dL_law_28 rfl (lv_at hl 0 rfl) ?_
  refine lv_bipush (v := nI (9)) hx hb dL_law_29 (by decide) ?_
  refine lv_iconst (v := nI (0)) hx hb dL_law_31 (by decide) ?_
  refine lv_iconst (v := nI (0)) hx hb dL_law_32 (by decide) ?_
  refine lv_iconst (v := nI (0)) hx hb dL_law_33 (by decide) ?_
  refine lv_iconst (v := nI (0)) hx hb dL_law_34 (by decide) ?_
  refine mx_S (k := 6) hx hb hml hown hts (k_points_m l hst g ad gm hG s_0 s_0_ok (nI 0) (by decide +kernel) (nI 0) (nI 0) (nI 0)) gL_law_L_call rfl (by decide +kernel) ⟨Nat.le_of_ble_eq_true rfl, Nat.le_of_ble_eq_true rfl⟩ ⟨by show _ ≤ 647118; omega, by show _ ≤ 7160271; omega⟩ hK hNX hZ hz hP hD hS hA rfl hl.1 (rest := []) (As := [.ref (ad 0), .int (nI 9), .int (nI 0), .int (nI 0), .int (nI 0), .int (nI 0)]) rfl (Nat.le_of_ble_eq_true rfl) dL_law_35 (fun z H locs hz hP hD hS => ?_)
  refine lv_bipush (v := -111) hx hb dL_law_38 (by decide) ?_
  refine lv_icmp_ne (tgt := 69) hx hb dL_law_40 (by decide) (fun c_3 => absurd c_3 (by decide)) (fun c_3 => ?_)
  refine lv_aload_n hx hb dL_law_43 rfl (lv_at hl 0 rfl) ?_
  refine lv_iconst (v := nI (5)) hx hb dL_law_44 (by decide) ?_
  refine lv_iconst (v := nI (4)) hx hb dL_law_45 (by decide) ?_
  refine lv_iconst (v := nI (0)) hx hb dL_law_46 (by decide) ?_
  refine lv_iconst (v := nI (0)) hx hb dL_law_47 (by decide) ?_
  refine lv_iconst (v := nI (0)) hx hb dL_law_48 (by decide) ?_
  refine mx_S (k := 6) hx hb hml hown hts (k_ideas_m l hst g ad gm hG s_0 s_0_ok (nI 4) (by decide +kernel) (nI 0) (nI 0) (nI 0)) gL_law_L_call rfl (by decide +kernel) ⟨Nat.le_of_ble_eq_true rfl, Nat.le_of_ble_eq_true rfl⟩ ⟨by show _ ≤ 647118; omega, by show _ ≤ 7160271; omega⟩ hK hNX hZ hz hP hD hS hA rfl hl.1 (rest := []) (As := [.ref (ad 0), .int (nI 5), .int (nI 4), .int (nI 0), .int (nI 0), .int (nI 0)]) rfl (Nat.le_of_ble_eq_true rfl) dL_law_49 (fun z H locs hz hP hD hS => ?_)
  refine lv_bipush (v := -111) hx hb dL_law_52 (by decide) ?_
  refine lv_icmp_ne (tgt := 69) hx hb dL_law_54 (by decide) (fun c_4 => absurd c_4 (by decide)) (fun c_4 => ?_)
  refine lv_aload_n hx hb dL_law_57 rfl (lv_at hl 0 rfl) ?_
  refine lv_iconst (v := nI (1)) hx hb dL_law_58 (by decide) ?_
  refine my_S (k := 2) hx hb hml hown hts (c_adds l hst g ad gm hG s_0 s_0_ok 1 (by decide) (by decide)) gL_law_L_adds rfl (by decide +kernel) ⟨Nat.le_of_ble_eq_true rfl, Nat.le_of_ble_eq_true rfl⟩ ⟨by show _ ≤ 647118; omega, by show _ ≤ 7160271; omega⟩ hK hNX hZ hz hP hD hS hA rfl hl.1 (rest := []) (As := [.ref (ad 0), .int (nI 1)]) rfl (Nat.le_of_ble_eq_true rfl) dL_law_59 (fun x9 σ9 z H locs hpo hz hP hD hS => ?_)
  obtain ⟨hx9, he9⟩ := hpo
  subst hx9
  rw [he9] at hP hD
  refine lv_if_eq (tgt := 69) hx hb dL_law_62 (by decide) (fun c_5 => absurd c_5 (by decide)) (fun c_5 => ?_)
  refine lv_iconst (v := nI (1)) hx hb dL_law_65 (by decide) ?_
  refine lv_goto (tgt := 70) hx hb dL_law_66 (by decide) ?_
  refine lv_istore_n (lv' := [(2, .int (nI 1)), (1, .ref (ad 0)), (0, .ref sb)]) hx hb dL_law_70 rfl hl (by decide) rfl (fun ls hl => ?_)
  refine lv_iconst (v := nI (0)) hx hb dL_law_71 (by decide) ?_
  refine lv_istore_n (lv' := [(3, .int (nI 0)), (2, .int (nI 1)), (1, .ref (ad 0)), (0, .ref sb)]) hx hb dL_law_72 rfl hl (by decide) rfl (fun ls hl => ?_)
  refine W.widen (k := 1000 + 200 * 0) (n := 8000 + 1000 * 0) (by omega) (by omega) ?_
  exact law_loop hst hL hx hb hr hml hown hts hlocks hK hNX hZ hX hbl hG (60 + 1) 0 (Nat.zero_le _) (by omega) s_0 s_0_ok z hz H locs hP hD hS ls (lv_sub hl [0, 1, 2, 3] rfl)
