/-! the answers, by the state -/
def a_pts (σ : Stt) (k : Nat) : Nat := MXm (s_c σ) (s_g σ) (s_w σ 0) (s_w σ k) (s_m σ 0) (s_m σ k) (s_n σ 0) (s_n σ k)
def a_mk (σ : Stt) (k : Nat) : Nat := mkA (s_c σ) (s_g σ) (s_w σ 0) (s_w σ k) (s_m σ 0) (s_m σ k) (s_n σ 0) (s_n σ k)
def a_lk (σ : Stt) (k : Nat) : Nat := lkA (s_c σ) (s_g σ) (s_w σ 0) (s_w σ k) (s_m σ 0) (s_m σ k) (s_n σ 0) (s_n σ k)
def a_vd (σ : Stt) (k f t d : Nat) : Nat := vdA (s_c σ) (s_g σ) (s_w σ 0) (s_w σ k) (s_m σ 0) (s_m σ k) (s_n σ 0) (s_n σ k) f t d
def a_re (σ : Stt) (k : Nat) : Nat → Option Nat := (REm (s_c σ) (s_g σ) (s_w σ 0) (s_w σ k) (s_m σ 0) (s_m σ k) (s_n σ 0) (s_n σ k)).2
def a_hn (σ : Stt) (k : Nat) : HG := hnA (s_c σ) (s_g σ) (s_w σ 0) (s_w σ k) (s_m σ 0) (s_m σ k) (s_n σ 0) (s_n σ k) 100
def a_ct (σ : Stt) (k : Nat) : Nat := cntN (s_m σ k) 25
def a_hl (σ : Stt) (k : Nat) : Nat := cntN (clo (s_c σ) (s_m σ k)) 25
def a_bm (σ : Stt) : Option Nat := (bmA (s_c σ) (s_g σ) (s_w σ 0) (s_m σ 0) (s_n σ 0) (s_w σ) (s_m σ) (s_n σ)).1
/-! the states behind the calls -/
def u_add (σ : Stt) (k w : Nat) : Stt := (va_up (s_n σ) k (s_n σ k + 1), va_up (s_w σ) k (va_up (s_w σ k) (s_n σ k) w), s_m σ, s_g σ, s_c σ)
def u_lnk (σ : Stt) (k f t d : Nat) : Stt := (s_n σ, s_w σ, va_up (s_m σ) k (tgM (s_m σ k) f t d), s_g σ, s_c σ)
def u_clr (σ : Stt) (k : Nat) : Stt := (va_up (s_n σ) k 0, s_w σ, va_up (s_m σ) k (fun _ => 0), s_g σ, s_c σ)
def u_syn (σ : Stt) (a b : Nat) : Stt := (s_n σ, s_w σ, s_m σ, jn (s_g σ) (s_g σ a) (s_g σ b) 32, s_c σ)
def u_chn (σ : Stt) (f t : Nat) (o : Option Nat) : Stt := (s_n σ, s_w σ, s_m σ, s_g σ, va_up (s_c σ) (f * 4 + t) o)
/-! the rows of work after a search -/
theorem sc_fb {ch : Nat → Option Nat} {gr wp wm pm mm tlm thm al pp hp : Nat → Nat} {tr bs : Nat → Option Nat} {pn qn : Nat} (h : LSc tlm thm al pp hp tr bs) (hp5 : pn ≤ 5) (hq : qn ≤ 5) : LSc tlm thm (alN gr wp wm qn pn al) (pp1 ch gr wp wm pm mm al pp hp pn qn) (hp1 ch gr wp wm pm mm al pp hp pn qn) (fb1 ch gr wp wm pm mm al pp hp tr bs pn qn).1 (fb1 ch gr wp wm pm mm al pp hp tr bs pn qn).2.2 := by
  obtain ⟨h1, h2, h3, h4, h5, h6, h7⟩ := h
  exact ⟨h1, h2, alN_ok hq h3, pp1_ok hp5 h4 h5, hp1_ok hp5 h4 h5, (fbE_ok hp5 hq (pp1_ok hp5 h4 h5) h6 (fun _ z => by cases z)).1, fbE_bs hq h6 h7⟩
theorem sc_mb {ch : Nat → Option Nat} {gr wp wm pm mm tlm thm al pp hp : Nat → Nat} {tr bs : Nat → Option Nat} {pn qn : Nat} (h : LSc tlm thm al pp hp tr bs) (hp5 : pn ≤ 5) (hq : qn ≤ 5) : LSc tlm thm (alN gr wp wm qn pn al) (pp1 ch gr wp wm pm mm al pp hp pn qn) (hp1 ch gr wp wm pm mm al pp hp pn qn) (mbF qn (alN gr wp wm qn pn al) (pp1 ch gr wp wm pm mm al pp hp pn qn) pn tr).2 bs := by
  obtain ⟨h1, h2, h3, h4, h5, h6, h7⟩ := h
  exact ⟨h1, h2, alN_ok hq h3, pp1_ok hp5 h4 h5, hp1_ok hp5 h4 h5, (moa_ok hq (pp1_ok hp5 h4 h5) pn 0 0 0 tr (by omega) (Nat.zero_le _) h6).2, h7⟩
theorem sc_hn {ch : Nat → Option Nat} {gr wp wm pm mm tlm thm al pp hp : Nat → Nat} {tr bs : Nat → Option Nat} {pn qn : Nat} {S : HS} (hS : S = fblR ch gr wp wm pm mm al pp hp tr bs pn qn tlm thm) (h : LSc tlm thm al pp hp tr bs) (hc : chOk ch) (hpm : mOk pm) (hp5 : pn ≤ 5) (hq : qn ≤ 5) : LSc S.2.2.1 S.2.2.2.1 (alN gr wp wm qn pn al) S.2.2.2.2.1 S.2.2.2.2.2.1 S.2.2.2.2.2.2.1 S.2.2.2.2.2.2.2.1 := by
  obtain ⟨h1, h2, h3, h4, h5, h6, h7⟩ := h
  have k := hlF_ok (al := alN gr wp wm qn pn al) (wn := mm) hc hpm (clo_ok hc hpm) hp5 hq (hs1_ok (ch := ch) (gr := gr) (wp := wp) (wm := wm) (pm := pm) (mm := mm) (al := al) hp5 hq h4 h5 h6 h7 h1 h2) pn
  rw [hS]
  exact ⟨k.2.1.1, k.2.1.2, alN_ok hq h3, k.2.2.1, k.2.2.2.1, k.2.2.2.2.1, k.2.2.2.2.2⟩
theorem sc_bm {ch : Nat → Option Nat} {gr wp pm tlm thm hd al pp hp : Nat → Nat} {tr bs : Nat → Option Nat} {pn p q : Nat} {bp : Option Nat} {wF mF : Nat → Nat → Nat} {qF : Nat → Nat} {S : BM} (hS : S = bmB ch gr wp pm pn wF mF qF (none, none, hd, al, pp, hp, tr, bs, p, q, bp) 4) (h : LSc tlm thm al pp hp tr bs) (hp5 : pn ≤ 5) (hq : ∀ i, qF i ≤ 5) : LSc tlm thm S.2.2.2.1 S.2.2.2.2.1 S.2.2.2.2.2.1 S.2.2.2.2.2.2.1 S.2.2.2.2.2.2.2.1 := by
  obtain ⟨h1, h2, h3, h4, h5, h6, h7⟩ := h
  have k := bmB_ok (ch := ch) (gr := gr) (wp := wp) (pm := pm) (wF := wF) (mF := mF) hp5 hq (show bmOk (none, none, hd, al, pp, hp, tr, bs, p, q, bp) from ⟨fun _ z => (by cases z), h3, h4, h5, h6, h7⟩) 4
  rw [hS]
  exact ⟨h1, h2, k.2.1, k.2.2.1, k.2.2.2.1, k.2.2.2.2.1, k.2.2.2.2.2⟩
