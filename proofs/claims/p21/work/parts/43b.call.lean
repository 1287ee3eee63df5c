set_option maxRecDepth 100000 in
theorem xw_addIdea_m (l : Launch) (hst : l.stackTraces = false) (g : GG) (ad : Nat → Nat) (gm : Nat → Option Nat) (hG : GM ad gm) (σ : Stt) (hσ : SOk σ) (v : Int32) (hbd : inR v 4 = false) (a1 : Int32) : XW l yX6_addIdea wsX6_addIdea 3 g ad gm [.ref (ad 0), .int v, .int a1] σ eI := by
  intro z
  obtain ⟨hd, tlm, thm, al, pp, hp, tr, bs, p, q, bg, bl, bp⟩ := z
  obtain ⟨idn, wF, mF, gr, ch⟩ := σ
  obtain ⟨hn, hw, hg, hc, hm, ho⟩ := hσ
  have hn : ∀ i, idn i ≤ 5 := hn
  have hm : ∀ i, mOk (mF i) := hm
  exact xm_frame (x_X6_addIdea_m l hst g (ad 0) (ad 1) (ad 2) (ad 26) (ad 29) (ad 32) (ad 35) (ad 38) (ad 41) bl bg gm v hbd a1) [0, 1] rfl (by decide)
set_option maxRecDepth 100000 in
theorem xw_link_m (l : Launch) (hst : l.stackTraces = false) (g : GG) (ad : Nat → Nat) (gm : Nat → Option Nat) (hG : GM ad gm) (σ : Stt) (hσ : SOk σ) (v : Int32) (hbd : inR v 4 = false) (a1 : Int32) (b1 : Int32) (d1 : Int32) : XW l yX6_link wsX6_link 5 g ad gm [.ref (ad 0), .int v, .int a1, .int b1, .int d1] σ eI := by
  intro z
  obtain ⟨hd, tlm, thm, al, pp, hp, tr, bs, p, q, bg, bl, bp⟩ := z
  obtain ⟨idn, wF, mF, gr, ch⟩ := σ
  obtain ⟨hn, hw, hg, hc, hm, ho⟩ := hσ
  have hn : ∀ i, idn i ≤ 5 := hn
  have hm : ∀ i, mOk (mF i) := hm
  exact xm_frame (x_X6_link_m l hst g (ad 0) (ad 1) (ad 2) (ad 26) (ad 29) (ad 32) (ad 35) (ad 38) (ad 41) bl bg gm v hbd a1 b1 d1) [0, 1] rfl (by decide)
set_option maxRecDepth 100000 in
theorem xw_clear_m (l : Launch) (hst : l.stackTraces = false) (g : GG) (ad : Nat → Nat) (gm : Nat → Option Nat) (hG : GM ad gm) (σ : Stt) (hσ : SOk σ) (v : Int32) (hbd : inR v 4 = false) : XW l yX6_clear wsX6_clear 4 g ad gm [.ref (ad 0), .int v] σ eI := by
  intro z
  obtain ⟨hd, tlm, thm, al, pp, hp, tr, bs, p, q, bg, bl, bp⟩ := z
  obtain ⟨idn, wF, mF, gr, ch⟩ := σ
  obtain ⟨hn, hw, hg, hc, hm, ho⟩ := hσ
  have hn : ∀ i, idn i ≤ 5 := hn
  have hm : ∀ i, mOk (mF i) := hm
  exact xm_frame (x_X6_clear_m l hst g (ad 0) (ad 1) (ad 2) (ad 26) (ad 29) (ad 32) (ad 35) (ad 38) (ad 41) bl bg gm v hbd ) [0, 1] rfl (by decide)
set_option maxRecDepth 100000 in
theorem xw_ideas_m (l : Launch) (hst : l.stackTraces = false) (g : GG) (ad : Nat → Nat) (gm : Nat → Option Nat) (hG : GM ad gm) (σ : Stt) (hσ : SOk σ) (v : Int32) (hbd : inR v 4 = false) : XW l yX6_ideas wsX6_ideas 2 g ad gm [.ref (ad 0), .int v] σ eI := by
  intro z
  obtain ⟨hd, tlm, thm, al, pp, hp, tr, bs, p, q, bg, bl, bp⟩ := z
  obtain ⟨idn, wF, mF, gr, ch⟩ := σ
  obtain ⟨hn, hw, hg, hc, hm, ho⟩ := hσ
  have hn : ∀ i, idn i ≤ 5 := hn
  have hm : ∀ i, mOk (mF i) := hm
  exact xm_frame (x_X6_ideas_m l hst g (ad 0) (ad 1) (ad 2) (ad 26) (ad 29) (ad 32) (ad 35) (ad 38) (ad 41) bl bg gm v hbd ) [0, 1] rfl (by decide)
set_option maxRecDepth 100000 in
theorem xw_points_m (l : Launch) (hst : l.stackTraces = false) (g : GG) (ad : Nat → Nat) (gm : Nat → Option Nat) (hG : GM ad gm) (σ : Stt) (hσ : SOk σ) (v : Int32) (hbd : inM v = false) : XW l yX6_points wsX6_points 10 g ad gm [.ref (ad 0), .int v] σ eI := by
  intro z
  obtain ⟨hd, tlm, thm, al, pp, hp, tr, bs, p, q, bg, bl, bp⟩ := z
  obtain ⟨idn, wF, mF, gr, ch⟩ := σ
  obtain ⟨hn, hw, hg, hc, hm, ho⟩ := hσ
  have hn : ∀ i, idn i ≤ 5 := hn
  have hm : ∀ i, mOk (mF i) := hm
  exact xm_frame (x_X6_points_m l hst g (ad 0) (ad 1) (ad 2) (ad 26) (ad 29) (ad 32) (ad 35) (ad 38) (ad 41) bl bg gm v hbd) [0, 1] rfl (by decide)
set_option maxRecDepth 100000 in
theorem xw_synonyms_a (l : Launch) (hst : l.stackTraces = false) (g : GG) (ad : Nat → Nat) (gm : Nat → Option Nat) (hG : GM ad gm) (σ : Stt) (hσ : SOk σ) (v w : Int32) (hbd : inR v 32 = false) : XW l yX6_synonyms wsX6_synonyms 3 g ad gm [.ref (ad 0), .int v, .int w] σ eI := by
  intro z
  obtain ⟨hd, tlm, thm, al, pp, hp, tr, bs, p, q, bg, bl, bp⟩ := z
  obtain ⟨idn, wF, mF, gr, ch⟩ := σ
  obtain ⟨hn, hw, hg, hc, hm, ho⟩ := hσ
  have hn : ∀ i, idn i ≤ 5 := hn
  have hm : ∀ i, mOk (mF i) := hm
  exact xm_frame (x_X6_synonyms_a l hst g (ad 0) (ad 1) (ad 2) (ad 26) (ad 29) (ad 32) (ad 35) (ad 38) (ad 41) bl bg gm v w hbd) [0, 1] rfl (by decide)
set_option maxRecDepth 100000 in
theorem xw_synonyms_b (l : Launch) (hst : l.stackTraces = false) (g : GG) (ad : Nat → Nat) (gm : Nat → Option Nat) (hG : GM ad gm) (σ : Stt) (hσ : SOk σ) (o1 : Nat) (w : Int32) (h1 : o1 < 32) (hbd : inR w 32 = false) : XW l yX6_synonyms wsX6_synonyms 3 g ad gm [.ref (ad 0), .int (nI o1), .int w] σ eI := by
  intro z
  obtain ⟨hd, tlm, thm, al, pp, hp, tr, bs, p, q, bg, bl, bp⟩ := z
  obtain ⟨idn, wF, mF, gr, ch⟩ := σ
  obtain ⟨hn, hw, hg, hc, hm, ho⟩ := hσ
  have hn : ∀ i, idn i ≤ 5 := hn
  have hm : ∀ i, mOk (mF i) := hm
  exact xm_frame (x_X6_synonyms_b l hst g (ad 0) (ad 1) (ad 2) (ad 26) (ad 29) (ad 32) (ad 35) (ad 38) (ad 41) bl bg gm o1 w h1 hbd) [0, 1] rfl (by decide)
set_option maxRecDepth 100000 in
theorem xw_chain_a (l : Launch) (hst : l.stackTraces = false) (g : GG) (ad : Nat → Nat) (gm : Nat → Option Nat) (hG : GM ad gm) (σ : Stt) (hσ : SOk σ) (v w y9 : Int32) (hbd : inR v 4 = false) : XW l yX6_chain wsX6_chain 3 g ad gm [.ref (ad 0), .int v, .int w, .int y9] σ eA := by
  intro z
  obtain ⟨hd, tlm, thm, al, pp, hp, tr, bs, p, q, bg, bl, bp⟩ := z
  obtain ⟨idn, wF, mF, gr, ch⟩ := σ
  obtain ⟨hn, hw, hg, hc, hm, ho⟩ := hσ
  have hn : ∀ i, idn i ≤ 5 := hn
  have hm : ∀ i, mOk (mF i) := hm
  exact xm_frame (x_X6_chain_a l hst g (ad 0) (ad 1) (ad 2) (ad 26) (ad 29) (ad 32) (ad 35) (ad 38) (ad 41) bl bg gm v w y9 hbd) [0, 1] rfl (by decide)
set_option maxRecDepth 100000 in
theorem xw_chain_b (l : Launch) (hst : l.stackTraces = false) (g : GG) (ad : Nat → Nat) (gm : Nat → Option Nat) (hG : GM ad gm) (σ : Stt) (hσ : SOk σ) (f : Nat) (w y9 : Int32) (hf : f < 4) (hbd : inR w 4 = false) : XW l yX6_chain wsX6_chain 3 g ad gm [.ref (ad 0), .int (nI f), .int w, .int y9] σ eA := by
  intro z
  obtain ⟨hd, tlm, thm, al, pp, hp, tr, bs, p, q, bg, bl, bp⟩ := z
  obtain ⟨idn, wF, mF, gr, ch⟩ := σ
  obtain ⟨hn, hw, hg, hc, hm, ho⟩ := hσ
  have hn : ∀ i, idn i ≤ 5 := hn
  have hm : ∀ i, mOk (mF i) := hm
  exact xm_frame (x_X6_chain_b l hst g (ad 0) (ad 1) (ad 2) (ad 26) (ad 29) (ad 32) (ad 35) (ad 38) (ad 41) bl bg gm f w y9 hf hbd) [0, 1] rfl (by decide)
set_option maxRecDepth 100000 in
theorem xw_chain_c (l : Launch) (hst : l.stackTraces = false) (g : GG) (ad : Nat → Nat) (gm : Nat → Option Nat) (hG : GM ad gm) (σ : Stt) (hσ : SOk σ) (f t : Nat) (y9 : Int32) (hf : f < 4) (ht9 : t < 4) (hy : y9 ≠ -1) (hbd : inR y9 4 = false) : XW l yX6_chain wsX6_chain 3 g ad gm [.ref (ad 0), .int (nI f), .int (nI t), .int y9] σ eA := by
  intro z
  obtain ⟨hd, tlm, thm, al, pp, hp, tr, bs, p, q, bg, bl, bp⟩ := z
  obtain ⟨idn, wF, mF, gr, ch⟩ := σ
  obtain ⟨hn, hw, hg, hc, hm, ho⟩ := hσ
  have hn : ∀ i, idn i ≤ 5 := hn
  have hm : ∀ i, mOk (mF i) := hm
  exact xm_frame (x_X6_chain_c l hst g (ad 0) (ad 1) (ad 2) (ad 26) (ad 29) (ad 32) (ad 35) (ad 38) (ad 41) bl bg gm f t y9 hf ht9 hy hbd) [0, 1] rfl (by decide)
set_option maxRecDepth 100000 in
theorem xw_addIdea_w (l : Launch) (hst : l.stackTraces = false) (g : GG) (ad : Nat → Nat) (gm : Nat → Option Nat) (hG : GM ad gm) (σ : Stt) (hσ : SOk σ) (k : Nat) (hk4 : k < 4) (y9 : Int32) (hbd : inR y9 32 = false) : XW l yX6_addIdea wsX6_addIdea 3 g ad gm [.ref (ad 0), .int (nI k), .int y9] σ eI := by
  intro z
  obtain ⟨hd, tlm, thm, al, pp, hp, tr, bs, p, q, bg, bl, bp⟩ := z
  obtain ⟨idn, wF, mF, gr, ch⟩ := σ
  obtain ⟨hn, hw, hg, hc, hm, ho⟩ := hσ
  have hn : ∀ i, idn i ≤ 5 := hn
  have hm : ∀ i, mOk (mF i) := hm
  rcases (show k = 0 ∨ k = 1 ∨ k = 2 ∨ k = 3 by omega) with rfl | rfl | rfl | rfl
  · exact xm_frame (x_X6_addIdea_w l hst g (ad 0) (ad 1) (ad 2) (ad 26) (ad 29) (ad 32) (ad 35) (ad 38) (ad 41) bl bg gm (ad 2) (ad 3) (ad 4) (ad 5) (ad 6) (ad 7) (wF 0) (mF 0) (idn 0) 0 (by decide) hG.1 (hn 0) y9 hbd) [0, 1, 2, 3, 4, 5, 6, 7] rfl (by decide)
  · exact xm_frame (x_X6_addIdea_w l hst g (ad 0) (ad 1) (ad 2) (ad 26) (ad 29) (ad 32) (ad 35) (ad 38) (ad 41) bl bg gm (ad 8) (ad 9) (ad 10) (ad 11) (ad 12) (ad 13) (wF 1) (mF 1) (idn 1) 1 (by decide) hG.2.1 (hn 1) y9 hbd) [0, 1, 8, 9, 10, 11, 12, 13] rfl (by decide)
  · exact xm_frame (x_X6_addIdea_w l hst g (ad 0) (ad 1) (ad 2) (ad 26) (ad 29) (ad 32) (ad 35) (ad 38) (ad 41) bl bg gm (ad 14) (ad 15) (ad 16) (ad 17) (ad 18) (ad 19) (wF 2) (mF 2) (idn 2) 2 (by decide) hG.2.2.1 (hn 2) y9 hbd) [0, 1, 14, 15, 16, 17, 18, 19] rfl (by decide)
  · exact xm_frame (x_X6_addIdea_w l hst g (ad 0) (ad 1) (ad 2) (ad 26) (ad 29) (ad 32) (ad 35) (ad 38) (ad 41) bl bg gm (ad 20) (ad 21) (ad 22) (ad 23) (ad 24) (ad 25) (wF 3) (mF 3) (idn 3) 3 (by decide) hG.2.2.2 (hn 3) y9 hbd) [0, 1, 20, 21, 22, 23, 24, 25] rfl (by decide)
set_option maxRecDepth 100000 in
theorem xw_addIdea_full (l : Launch) (hst : l.stackTraces = false) (g : GG) (ad : Nat → Nat) (gm : Nat → Option Nat) (hG : GM ad gm) (σ : Stt) (hσ : SOk σ) (k : Nat) (hk4 : k < 4) (w : Nat) (hw9 : w < 32) (hfl : s_n σ k = 5) : XW l yX6_addIdea wsX6_addIdea 3 g ad gm [.ref (ad 0), .int (nI k), .int (nI w)] σ eS := by
  intro z
  obtain ⟨hd, tlm, thm, al, pp, hp, tr, bs, p, q, bg, bl, bp⟩ := z
  obtain ⟨idn, wF, mF, gr, ch⟩ := σ
  obtain ⟨hn, hw, hg, hc, hm, ho⟩ := hσ
  have hn : ∀ i, idn i ≤ 5 := hn
  have hm : ∀ i, mOk (mF i) := hm
  rcases (show k = 0 ∨ k = 1 ∨ k = 2 ∨ k = 3 by omega) with rfl | rfl | rfl | rfl
  · exact xm_frame (x_X6_addIdea_full l hst g (ad 0) (ad 1) (ad 2) (ad 26) (ad 29) (ad 32) (ad 35) (ad 38) (ad 41) bl bg gm (ad 2) (ad 3) (ad 4) (ad 5) (ad 6) (ad 7) (wF 0) (mF 0) (idn 0) 0 (by decide) hG.1 (hn 0) w hw9 hfl) [0, 1, 2, 3, 4, 5, 6, 7] rfl (by decide)
  · exact xm_frame (x_X6_addIdea_full l hst g (ad 0) (ad 1) (ad 2) (ad 26) (ad 29) (ad 32) (ad 35) (ad 38) (ad 41) bl bg gm (ad 8) (ad 9) (ad 10) (ad 11) (ad 12) (ad 13) (wF 1) (mF 1) (idn 1) 1 (by decide) hG.2.1 (hn 1) w hw9 hfl) [0, 1, 8, 9, 10, 11, 12, 13] rfl (by decide)
  · exact xm_frame (x_X6_addIdea_full l hst g (ad 0) (ad 1) (ad 2) (ad 26) (ad 29) (ad 32) (ad 35) (ad 38) (ad 41) bl bg gm (ad 14) (ad 15) (ad 16) (ad 17) (ad 18) (ad 19) (wF 2) (mF 2) (idn 2) 2 (by decide) hG.2.2.1 (hn 2) w hw9 hfl) [0, 1, 14, 15, 16, 17, 18, 19] rfl (by decide)
  · exact xm_frame (x_X6_addIdea_full l hst g (ad 0) (ad 1) (ad 2) (ad 26) (ad 29) (ad 32) (ad 35) (ad 38) (ad 41) bl bg gm (ad 20) (ad 21) (ad 22) (ad 23) (ad 24) (ad 25) (wF 3) (mF 3) (idn 3) 3 (by decide) hG.2.2.2 (hn 3) w hw9 hfl) [0, 1, 20, 21, 22, 23, 24, 25] rfl (by decide)
set_option maxRecDepth 100000 in
theorem xw_link_1 (l : Launch) (hst : l.stackTraces = false) (g : GG) (ad : Nat → Nat) (gm : Nat → Option Nat) (hG : GM ad gm) (σ : Stt) (hσ : SOk σ) (k : Nat) (hk4 : k < 4) (a1 b1 d1 : Int32) (hr9 : lkB2 (s_n σ k) a1 b1 d1 = 1) : XW l yX6_link wsX6_link 5 g ad gm [.ref (ad 0), .int (nI k), .int a1, .int b1, .int d1] σ eI := by
  intro z
  obtain ⟨hd, tlm, thm, al, pp, hp, tr, bs, p, q, bg, bl, bp⟩ := z
  obtain ⟨idn, wF, mF, gr, ch⟩ := σ
  obtain ⟨hn, hw, hg, hc, hm, ho⟩ := hσ
  have hn : ∀ i, idn i ≤ 5 := hn
  have hm : ∀ i, mOk (mF i) := hm
  rcases (show k = 0 ∨ k = 1 ∨ k = 2 ∨ k = 3 by omega) with rfl | rfl | rfl | rfl
  · exact xm_frame (x_X6_link_l l hst g (ad 0) (ad 1) (ad 2) (ad 26) (ad 29) (ad 32) (ad 35) (ad 38) (ad 41) bl bg gm (ad 2) (ad 3) (ad 4) (ad 5) (ad 6) (ad 7) (wF 0) (mF 0) (idn 0) 0 (by decide) hG.1 (hn 0) a1 b1 d1 1 hr9 (by decide)) [0, 1, 2, 3, 4, 5, 6, 7] rfl (by decide)
  · exact xm_frame (x_X6_link_l l hst g (ad 0) (ad 1) (ad 2) (ad 26) (ad 29) (ad 32) (ad 35) (ad 38) (ad 41) bl bg gm (ad 8) (ad 9) (ad 10) (ad 11) (ad 12) (ad 13) (wF 1) (mF 1) (idn 1) 1 (by decide) hG.2.1 (hn 1) a1 b1 d1 1 hr9 (by decide)) [0, 1, 8, 9, 10, 11, 12, 13] rfl (by decide)
  · exact xm_frame (x_X6_link_l l hst g (ad 0) (ad 1) (ad 2) (ad 26) (ad 29) (ad 32) (ad 35) (ad 38) (ad 41) bl bg gm (ad 14) (ad 15) (ad 16) (ad 17) (ad 18) (ad 19) (wF 2) (mF 2) (idn 2) 2 (by decide) hG.2.2.1 (hn 2) a1 b1 d1 1 hr9 (by decide)) [0, 1, 14, 15, 16, 17, 18, 19] rfl (by decide)
  · exact xm_frame (x_X6_link_l l hst g (ad 0) (ad 1) (ad 2) (ad 26) (ad 29) (ad 32) (ad 35) (ad 38) (ad 41) bl bg gm (ad 20) (ad 21) (ad 22) (ad 23) (ad 24) (ad 25) (wF 3) (mF 3) (idn 3) 3 (by decide) hG.2.2.2 (hn 3) a1 b1 d1 1 hr9 (by decide)) [0, 1, 20, 21, 22, 23, 24, 25] rfl (by decide)
set_option maxRecDepth 100000 in
theorem xw_link_2 (l : Launch) (hst : l.stackTraces = false) (g : GG) (ad : Nat → Nat) (gm : Nat → Option Nat) (hG : GM ad gm) (σ : Stt) (hσ : SOk σ) (k : Nat) (hk4 : k < 4) (a1 b1 d1 : Int32) (hr9 : lkB2 (s_n σ k) a1 b1 d1 = 2) : XW l yX6_link wsX6_link 5 g ad gm [.ref (ad 0), .int (nI k), .int a1, .int b1, .int d1] σ eA := by
  intro z
  obtain ⟨hd, tlm, thm, al, pp, hp, tr, bs, p, q, bg, bl, bp⟩ := z
  obtain ⟨idn, wF, mF, gr, ch⟩ := σ
  obtain ⟨hn, hw, hg, hc, hm, ho⟩ := hσ
  have hn : ∀ i, idn i ≤ 5 := hn
  have hm : ∀ i, mOk (mF i) := hm
  rcases (show k = 0 ∨ k = 1 ∨ k = 2 ∨ k = 3 by omega) with rfl | rfl | rfl | rfl
  · exact xm_frame (x_X6_link_l l hst g (ad 0) (ad 1) (ad 2) (ad 26) (ad 29) (ad 32) (ad 35) (ad 38) (ad 41) bl bg gm (ad 2) (ad 3) (ad 4) (ad 5) (ad 6) (ad 7) (wF 0) (mF 0) (idn 0) 0 (by decide) hG.1 (hn 0) a1 b1 d1 2 hr9 (by decide)) [0, 1, 2, 3, 4, 5, 6, 7] rfl (by decide)
  · exact xm_frame (x_X6_link_l l hst g (ad 0) (ad 1) (ad 2) (ad 26) (ad 29) (ad 32) (ad 35) (ad 38) (ad 41) bl bg gm (ad 8) (ad 9) (ad 10) (ad 11) (ad 12) (ad 13) (wF 1) (mF 1) (idn 1) 1 (by decide) hG.2.1 (hn 1) a1 b1 d1 2 hr9 (by decide)) [0, 1, 8, 9, 10, 11, 12, 13] rfl (by decide)
  · exact xm_frame (x_X6_link_l l hst g (ad 0) (ad 1) (ad 2) (ad 26) (ad 29) (ad 32) (ad 35) (ad 38) (ad 41) bl bg gm (ad 14) (ad 15) (ad 16) (ad 17) (ad 18) (ad 19) (wF 2) (mF 2) (idn 2) 2 (by decide) hG.2.2.1 (hn 2) a1 b1 d1 2 hr9 (by decide)) [0, 1, 14, 15, 16, 17, 18, 19] rfl (by decide)
  · exact xm_frame (x_X6_link_l l hst g (ad 0) (ad 1) (ad 2) (ad 26) (ad 29) (ad 32) (ad 35) (ad 38) (ad 41) bl bg gm (ad 20) (ad 21) (ad 22) (ad 23) (ad 24) (ad 25) (wF 3) (mF 3) (idn 3) 3 (by decide) hG.2.2.2 (hn 3) a1 b1 d1 2 hr9 (by decide)) [0, 1, 20, 21, 22, 23, 24, 25] rfl (by decide)
set_option maxRecDepth 100000 in
theorem xw_holds_1 (l : Launch) (hst : l.stackTraces = false) (g : GG) (ad : Nat → Nat) (gm : Nat → Option Nat) (hG : GM ad gm) (σ : Stt) (hσ : SOk σ) (k : Nat) (hk4 : k < 4) (a1 b1 d1 : Int32) (hr9 : lkB2 (s_n σ k) a1 b1 d1 = 1) : XW l yX6_holds wsX6_holds 6 g ad gm [.ref (ad 0), .int (nI k), .int a1, .int b1, .int d1] σ eI := by
  intro z
  obtain ⟨hd, tlm, thm, al, pp, hp, tr, bs, p, q, bg, bl, bp⟩ := z
  obtain ⟨idn, wF, mF, gr, ch⟩ := σ
  obtain ⟨hn, hw, hg, hc, hm, ho⟩ := hσ
  have hn : ∀ i, idn i ≤ 5 := hn
  have hm : ∀ i, mOk (mF i) := hm
  rcases (show k = 0 ∨ k = 1 ∨ k = 2 ∨ k = 3 by omega) with rfl | rfl | rfl | rfl
  · exact xm_frame (x_X6_holds_l l hst g (ad 0) (ad 1) (ad 2) (ad 26) (ad 29) (ad 32) (ad 35) (ad 38) (ad 41) bl bg gm (ad 2) (ad 3) (ad 4) (ad 5) (ad 6) (ad 7) (wF 0) (mF 0) (idn 0) 0 (by decide) hG.1 (hn 0) a1 b1 d1 1 hr9 (by decide)) [0, 1, 2, 3, 4, 5, 6, 7] rfl (by decide)
  · exact xm_frame (x_X6_holds_l l hst g (ad 0) (ad 1) (ad 2) (ad 26) (ad 29) (ad 32) (ad 35) (ad 38) (ad 41) bl bg gm (ad 8) (ad 9) (ad 10) (ad 11) (ad 12) (ad 13) (wF 1) (mF 1) (idn 1) 1 (by decide) hG.2.1 (hn 1) a1 b1 d1 1 hr9 (by decide)) [0, 1, 8, 9, 10, 11, 12, 13] rfl (by decide)
  · exact xm_frame (x_X6_holds_l l hst g (ad 0) (ad 1) (ad 2) (ad 26) (ad 29) (ad 32) (ad 35) (ad 38) (ad 41) bl bg gm (ad 14) (ad 15) (ad 16) (ad 17) (ad 18) (ad 19) (wF 2) (mF 2) (idn 2) 2 (by decide) hG.2.2.1 (hn 2) a1 b1 d1 1 hr9 (by decide)) [0, 1, 14, 15, 16, 17, 18, 19] rfl (by decide)
  · exact xm_frame (x_X6_holds_l l hst g (ad 0) (ad 1) (ad 2) (ad 26) (ad 29) (ad 32) (ad 35) (ad 38) (ad 41) bl bg gm (ad 20) (ad 21) (ad 22) (ad 23) (ad 24) (ad 25) (wF 3) (mF 3) (idn 3) 3 (by decide) hG.2.2.2 (hn 3) a1 b1 d1 1 hr9 (by decide)) [0, 1, 20, 21, 22, 23, 24, 25] rfl (by decide)
set_option maxRecDepth 100000 in
theorem xw_holds_2 (l : Launch) (hst : l.stackTraces = false) (g : GG) (ad : Nat → Nat) (gm : Nat → Option Nat) (hG : GM ad gm) (σ : Stt) (hσ : SOk σ) (k : Nat) (hk4 : k < 4) (a1 b1 d1 : Int32) (hr9 : lkB2 (s_n σ k) a1 b1 d1 = 2) : XW l yX6_holds wsX6_holds 6 g ad gm [.ref (ad 0), .int (nI k), .int a1, .int b1, .int d1] σ eA := by
  intro z
  obtain ⟨hd, tlm, thm, al, pp, hp, tr, bs, p, q, bg, bl, bp⟩ := z
  obtain ⟨idn, wF, mF, gr, ch⟩ := σ
  obtain ⟨hn, hw, hg, hc, hm, ho⟩ := hσ
  have hn : ∀ i, idn i ≤ 5 := hn
  have hm : ∀ i, mOk (mF i) := hm
  rcases (show k = 0 ∨ k = 1 ∨ k = 2 ∨ k = 3 by omega) with rfl | rfl | rfl | rfl
  · exact xm_frame (x_X6_holds_l l hst g (ad 0) (ad 1) (ad 2) (ad 26) (ad 29) (ad 32) (ad 35) (ad 38) (ad 41) bl bg gm (ad 2) (ad 3) (ad 4) (ad 5) (ad 6) (ad 7) (wF 0) (mF 0) (idn 0) 0 (by decide) hG.1 (hn 0) a1 b1 d1 2 hr9 (by decide)) [0, 1, 2, 3, 4, 5, 6, 7] rfl (by decide)
  · exact xm_frame (x_X6_holds_l l hst g (ad 0) (ad 1) (ad 2) (ad 26) (ad 29) (ad 32) (ad 35) (ad 38) (ad 41) bl bg gm (ad 8) (ad 9) (ad 10) (ad 11) (ad 12) (ad 13) (wF 1) (mF 1) (idn 1) 1 (by decide) hG.2.1 (hn 1) a1 b1 d1 2 hr9 (by decide)) [0, 1, 8, 9, 10, 11, 12, 13] rfl (by decide)
  · exact xm_frame (x_X6_holds_l l hst g (ad 0) (ad 1) (ad 2) (ad 26) (ad 29) (ad 32) (ad 35) (ad 38) (ad 41) bl bg gm (ad 14) (ad 15) (ad 16) (ad 17) (ad 18) (ad 19) (wF 2) (mF 2) (idn 2) 2 (by decide) hG.2.2.1 (hn 2) a1 b1 d1 2 hr9 (by decide)) [0, 1, 14, 15, 16, 17, 18, 19] rfl (by decide)
  · exact xm_frame (x_X6_holds_l l hst g (ad 0) (ad 1) (ad 2) (ad 26) (ad 29) (ad 32) (ad 35) (ad 38) (ad 41) bl bg gm (ad 20) (ad 21) (ad 22) (ad 23) (ad 24) (ad 25) (wF 3) (mF 3) (idn 3) 3 (by decide) hG.2.2.2 (hn 3) a1 b1 d1 2 hr9 (by decide)) [0, 1, 20, 21, 22, 23, 24, 25] rfl (by decide)
set_option maxRecDepth 100000 in
theorem xw_verdict_1 (l : Launch) (hst : l.stackTraces = false) (g : GG) (ad : Nat → Nat) (gm : Nat → Option Nat) (hG : GM ad gm) (σ : Stt) (hσ : SOk σ) (k : Nat) (hk0 : k ≠ 0) (hk4 : k < 4) (a1 b1 d1 : Int32) (hr9 : lkB2 (s_n σ k) a1 b1 d1 = 1) : XW l yX6_verdict wsX6_verdict 10 g ad gm [.ref (ad 0), .int (nI k), .int a1, .int b1, .int d1] σ eI := by
  intro z
  obtain ⟨hd, tlm, thm, al, pp, hp, tr, bs, p, q, bg, bl, bp⟩ := z
  obtain ⟨idn, wF, mF, gr, ch⟩ := σ
  obtain ⟨hn, hw, hg, hc, hm, ho⟩ := hσ
  have hn : ∀ i, idn i ≤ 5 := hn
  have hm : ∀ i, mOk (mF i) := hm
  rcases (show k = 1 ∨ k = 2 ∨ k = 3 by omega) with rfl | rfl | rfl
  · exact xm_frame (x_X6_verdict_l l hst g (ad 0) (ad 1) (ad 2) (ad 26) (ad 29) (ad 32) (ad 35) (ad 38) (ad 41) bl bg gm (ad 8) (ad 9) (ad 10) (ad 11) (ad 12) (ad 13) (wF 1) (mF 1) (idn 1) 1 (by decide) hG.2.1 (by decide) (hn 1) a1 b1 d1 1 hr9 (by decide)) [0, 1, 8, 9, 10, 11, 12, 13] rfl (by decide)
  · exact xm_frame (x_X6_verdict_l l hst g (ad 0) (ad 1) (ad 2) (ad 26) (ad 29) (ad 32) (ad 35) (ad 38) (ad 41) bl bg gm (ad 14) (ad 15) (ad 16) (ad 17) (ad 18) (ad 19) (wF 2) (mF 2) (idn 2) 2 (by decide) hG.2.2.1 (by decide) (hn 2) a1 b1 d1 1 hr9 (by decide)) [0, 1, 14, 15, 16, 17, 18, 19] rfl (by decide)
  · exact xm_frame (x_X6_verdict_l l hst g (ad 0) (ad 1) (ad 2) (ad 26) (ad 29) (ad 32) (ad 35) (ad 38) (ad 41) bl bg gm (ad 20) (ad 21) (ad 22) (ad 23) (ad 24) (ad 25) (wF 3) (mF 3) (idn 3) 3 (by decide) hG.2.2.2 (by decide) (hn 3) a1 b1 d1 1 hr9 (by decide)) [0, 1, 20, 21, 22, 23, 24, 25] rfl (by decide)
set_option maxRecDepth 100000 in
theorem xw_verdict_no (l : Launch) (hst : l.stackTraces = false) (g : GG) (ad : Nat → Nat) (gm : Nat → Option Nat) (hG : GM ad gm) (σ : Stt) (hσ : SOk σ) (k : Nat) (hk0 : k ≠ 0) (hk4 : k < 4) (f t d : Nat) (hf : f < s_n σ k) (ht9 : t < s_n σ k) (hft : f ≠ t) (hd4 : d < 4) (hno : (s_m σ k (f * 5 + t)).testBit d = false) : XW l yX6_verdict wsX6_verdict 10 g ad gm [.ref (ad 0), .int (nI k), .int (nI f), .int (nI t), .int (nI d)] σ eS := by
  intro z
  obtain ⟨hd, tlm, thm, al, pp, hp, tr, bs, p, q, bg, bl, bp⟩ := z
  obtain ⟨idn, wF, mF, gr, ch⟩ := σ
  obtain ⟨hn, hw, hg, hc, hm, ho⟩ := hσ
  have hn : ∀ i, idn i ≤ 5 := hn
  have hm : ∀ i, mOk (mF i) := hm
  rcases (show k = 1 ∨ k = 2 ∨ k = 3 by omega) with rfl | rfl | rfl
  · exact xm_frame (x_X6_verdict_no l hst g (ad 0) (ad 1) (ad 2) (ad 26) (ad 29) (ad 32) (ad 35) (ad 38) (ad 41) bl bg gm (ad 8) (ad 9) (ad 10) (ad 11) (ad 12) (ad 13) (wF 1) (mF 1) (idn 1) 1 (by decide) hG.2.1 (by decide) (hn 1) f t d hf ht9 hft hd4 (hm 1) hno) [0, 1, 8, 9, 10, 11, 12, 13] rfl (by decide)
  · exact xm_frame (x_X6_verdict_no l hst g (ad 0) (ad 1) (ad 2) (ad 26) (ad 29) (ad 32) (ad 35) (ad 38) (ad 41) bl bg gm (ad 14) (ad 15) (ad 16) (ad 17) (ad 18) (ad 19) (wF 2) (mF 2) (idn 2) 2 (by decide) hG.2.2.1 (by decide) (hn 2) f t d hf ht9 hft hd4 (hm 2) hno) [0, 1, 14, 15, 16, 17, 18, 19] rfl (by decide)
  · exact xm_frame (x_X6_verdict_no l hst g (ad 0) (ad 1) (ad 2) (ad 26) (ad 29) (ad 32) (ad 35) (ad 38) (ad 41) bl bg gm (ad 20) (ad 21) (ad 22) (ad 23) (ad 24) (ad 25) (wF 3) (mF 3) (idn 3) 3 (by decide) hG.2.2.2 (by decide) (hn 3) f t d hf ht9 hft hd4 (hm 3) hno) [0, 1, 20, 21, 22, 23, 24, 25] rfl (by decide)
set_option maxRecDepth 100000 in
theorem xw_matchOf_i (l : Launch) (hst : l.stackTraces = false) (g : GG) (ad : Nat → Nat) (gm : Nat → Option Nat) (hG : GM ad gm) (σ : Stt) (hσ : SOk σ) (k : Nat) (hk0 : k ≠ 0) (hk4 : k < 4) (v : Int32) (hbd : inR v (s_n σ 0) = false) : XW l yX6_matchOf wsX6_matchOf 10 g ad gm [.ref (ad 0), .int (nI k), .int v] σ eI := by
  intro z
  obtain ⟨hd, tlm, thm, al, pp, hp, tr, bs, p, q, bg, bl, bp⟩ := z
  obtain ⟨idn, wF, mF, gr, ch⟩ := σ
  obtain ⟨hn, hw, hg, hc, hm, ho⟩ := hσ
  have hn : ∀ i, idn i ≤ 5 := hn
  have hm : ∀ i, mOk (mF i) := hm
  rcases (show k = 1 ∨ k = 2 ∨ k = 3 by omega) with rfl | rfl | rfl
  · exact xm_frame (x_X6_matchOf_i l hst g (ad 0) (ad 1) (ad 2) (ad 26) (ad 29) (ad 32) (ad 35) (ad 38) (ad 41) bl bg gm (idn 0) (ad 3) (ad 5) 1 (ad 8) (by decide) hG.2.1 (by decide) v (hn 0) hbd) [0, 1, 2] rfl (by decide)
  · exact xm_frame (x_X6_matchOf_i l hst g (ad 0) (ad 1) (ad 2) (ad 26) (ad 29) (ad 32) (ad 35) (ad 38) (ad 41) bl bg gm (idn 0) (ad 3) (ad 5) 2 (ad 14) (by decide) hG.2.2.1 (by decide) v (hn 0) hbd) [0, 1, 2] rfl (by decide)
  · exact xm_frame (x_X6_matchOf_i l hst g (ad 0) (ad 1) (ad 2) (ad 26) (ad 29) (ad 32) (ad 35) (ad 38) (ad 41) bl bg gm (idn 0) (ad 3) (ad 5) 3 (ad 20) (by decide) hG.2.2.2 (by decide) v (hn 0) hbd) [0, 1, 2] rfl (by decide)
set_option maxRecDepth 100000 in
set_option maxHeartbeats 4000000 in
theorem dz_addIdea (l : Launch) (g : GG) (ad : Nat → Nat) (gm : Nat → Option Nat) (hG : GM ad gm) (σ : Stt) (hσ : SOk σ) (k : Nat) (hk4 : k < 4) (w : Nat) (hn5 : s_n σ k < 5) (hw5 : w < 32) (e3 e4 : Int32) : MC l yL_does wsL_does 12 g ad gm [.ref (ad 0), .int (nI 0), .int (nI k), .int (nI w), .int e3, .int e4] σ (u_add σ k w) (nI (s_n σ k)) := by
  intro z hz sz
  refine im_body (Qc := fun A => va_Qi _ (iB g _) A) (cc := cL_does) (maxL := 6) (ret := (some .int)) (by decide) rfl (Nat.le_of_ble_eq_true rfl) ?_ sz
  intro pg ev s0 mi below meth cd A hx hb hr hml hts hown hlocks hK hA H hP hD hS ls hl
  have hl : lv_has ls 6 [(0, .ref (ad 0)), (1, .int (nI 0)), (2, .int (nI k)), (3, .int (nI w)), (4, .int e3), (5, .int e4)] := hl
  refine lv_iload_n hx hb dL_does_0 rfl (lv_at hl 1 rfl) ?_
  refine lv_tableIn (off := 79) (tgt := 80) hx hb dL_does_1 (by decide) (by decide) (by decide) (by decide) ?_
  refine lv_aload_n hx hb dL_does_80 rfl (lv_at hl 0 rfl) ?_
  refine lv_iload_n hx hb dL_does_81 rfl (lv_at hl 2 rfl) ?_
  refine lv_iload_n hx hb dL_does_82 rfl (lv_at hl 3 rfl) ?_
  refine mc_V (k := 2) hx hb hml hown hts (mc_addIdea l g ad gm hG σ hσ k hk4 w hn5 hw5) gL_does_X6_addIdea rfl (by decide +kernel) ⟨Nat.le_of_ble_eq_true rfl, Nat.le_of_ble_eq_true rfl⟩ ⟨Nat.zero_le _, Nat.zero_le _⟩ hK hz hP hD hS hA rfl hl.1 (rest := []) (As := [.int (nI k), .int (nI w)]) rfl (Nat.le_of_ble_eq_true rfl) dL_does_83 (fun z H locs hz hP hD hS => ?_)
  exact im_ret (w1 := MW g ad gm (u_add σ k w) z) hx hb hr hlocks hP hS MW_adr ⟨rfl, z, hz, rfl⟩ dL_does_86
set_option maxRecDepth 100000 in
set_option maxHeartbeats 4000000 in
theorem k_addIdea (l : Launch) (g : GG) (ad : Nat → Nat) (gm : Nat → Option Nat) (hG : GM ad gm) (σ : Stt) (hσ : SOk σ) (k : Nat) (hk4 : k < 4) (w : Nat) (hn5 : s_n σ k < 5) (hw5 : w < 32) (e3 e4 : Int32) : MX l yL_call wsL_call 13 g ad gm [.ref (ad 0), .int (nI 0), .int (nI k), .int (nI w), .int e3, .int e4] σ (u_add σ k w) (nI (s_n σ k)) := by
  intro z hz sz
  refine ix_bodyH (Qc := fun A => va_Qi _ (iB g _) A) (cc := cL_call) (maxL := 7) (ret := (some .int)) (hh := [(0, 11, 12, 14), (0, 11, 17, 16), (0, 11, 22, 18)]) (by decide) rfl (Nat.le_of_ble_eq_true rfl) ?_ sz
  intro pg ev s0 mi below meth cd A hx hb hr hml hts hown hlocks hK hA hNX hZ htab H hP hD hS ls hl
  have hl : lv_has ls 7 [(0, .ref (ad 0)), (1, .int (nI 0)), (2, .int (nI k)), (3, .int (nI w)), (4, .int e3), (5, .int e4)] := hl
  refine lv_aload_n hx hb dL_call_0 rfl (lv_at hl 0 rfl) ?_
  refine lv_iload_n hx hb dL_call_1 rfl (lv_at hl 1 rfl) ?_
  refine lv_iload_n hx hb dL_call_2 rfl (lv_at hl 2 rfl) ?_
  refine lv_iload_n hx hb dL_call_3 rfl (lv_at hl 3 rfl) ?_
  refine lv_iload hx hb dL_call_4 (lv_at hl 4 rfl) ?_
  refine lv_iload hx hb dL_call_6 (lv_at hl 5 rfl) ?_
  refine mc_S (k := 6) hx hb hml hown hts (dz_addIdea l g ad gm hG σ hσ k hk4 w hn5 hw5 e3 e4) gL_call_L_does rfl (by decide +kernel) ⟨Nat.le_of_ble_eq_true rfl, Nat.le_of_ble_eq_true rfl⟩ ⟨Nat.zero_le _, Nat.zero_le _⟩ hK hz hP hD hS hA rfl hl.1 (rest := []) (As := [.ref (ad 0), .int (nI 0), .int (nI k), .int (nI w), .int e3, .int e4]) rfl (Nat.le_of_ble_eq_true rfl) dL_call_8 (fun z H locs hz hP hD hS => ?_)
  refine W.widen (k := 1) (n := 6) (Nat.zero_le _) (Nat.zero_le _) ?_
  exact im_ret (w1 := MW g ad gm (u_add σ k w) z) hx hb hr hlocks hP hS MW_adr ⟨rfl, z, hz, rfl⟩ dL_call_11
set_option maxRecDepth 100000 in
set_option maxHeartbeats 4000000 in
theorem dz_link (l : Launch) (g : GG) (ad : Nat → Nat) (gm : Nat → Option Nat) (hG : GM ad gm) (σ : Stt) (hσ : SOk σ) (k : Nat) (hk4 : k < 4) (f t d : Nat) (hf : f < s_n σ k) (ht : t < s_n σ k) (hft : f ≠ t) (hd4 : d < 4) : MC l yL_does wsL_does 12 g ad gm [.ref (ad 0), .int (nI 1), .int (nI k), .int (nI f), .int (nI t), .int (nI d)] σ (u_lnk σ k f t d) (b2i (!(s_m σ k (f * 5 + t)).testBit d)) := by
  intro z hz sz
  refine im_body (Qc := fun A => va_Qi _ (iB g _) A) (cc := cL_does) (maxL := 6) (ret := (some .int)) (by decide) rfl (Nat.le_of_ble_eq_true rfl) ?_ sz
  intro pg ev s0 mi below meth cd A hx hb hr hml hts hown hlocks hK hA H hP hD hS ls hl
  have hl : lv_has ls 6 [(0, .ref (ad 0)), (1, .int (nI 1)), (2, .int (nI k)), (3, .int (nI f)), (4, .int (nI t)), (5, .int (nI d))] := hl
  refine lv_iload_n hx hb dL_does_0 rfl (lv_at hl 1 rfl) ?_
  refine lv_tableIn (off := 86) (tgt := 87) hx hb dL_does_1 (by decide) (by decide) (by decide) (by decide) ?_
  refine lv_aload_n hx hb dL_does_87 rfl (lv_at hl 0 rfl) ?_
  refine lv_iload_n hx hb dL_does_88 rfl (lv_at hl 2 rfl) ?_
  refine lv_iload_n hx hb dL_does_89 rfl (lv_at hl 3 rfl) ?_
  refine lv_iload hx hb dL_does_90 (lv_at hl 4 rfl) ?_
  refine lv_iload hx hb dL_does_92 (lv_at hl 5 rfl) ?_
  refine mc_V (k := 4) hx hb hml hown hts (mc_link l g ad gm hG σ hσ k hk4 f t d hf ht hft hd4) gL_does_X6_link rfl (by decide +kernel) ⟨Nat.le_of_ble_eq_true rfl, Nat.le_of_ble_eq_true rfl⟩ ⟨Nat.zero_le _, Nat.zero_le _⟩ hK hz hP hD hS hA rfl hl.1 (rest := []) (As := [.int (nI k), .int (nI f), .int (nI t), .int (nI d)]) rfl (Nat.le_of_ble_eq_true rfl) dL_does_94 (fun z H locs hz hP hD hS => ?_)
  refine bv_if_eq (a := !(s_m σ k (f * 5 + t)).testBit d) (tgt := 104) hx hb dL_does_97 (by decide) (fun c_1 => ?_) (fun c_1 => ?_)
  · refine lv_iconst (v := nI 0) hx hb dL_does_104 (by decide) ?_
    exact im_ret (w1 := MW g ad gm (u_lnk σ k f t d) z) (v := nI 0) hx hb hr hlocks hP hS MW_adr ⟨by rw [c_1]; rfl, z, hz, rfl⟩ dL_does_105
  · refine lv_iconst (v := nI 1) hx hb dL_does_100 (by decide) ?_
    refine lv_goto (tgt := 105) hx hb dL_does_101 (by decide) ?_
    exact im_ret (w1 := MW g ad gm (u_lnk σ k f t d) z) (v := nI 1) hx hb hr hlocks hP hS MW_adr ⟨by rw [c_1]; rfl, z, hz, rfl⟩ dL_does_105
set_option maxRecDepth 100000 in
set_option maxHeartbeats 4000000 in
theorem k_link (l : Launch) (g : GG) (ad : Nat → Nat) (gm : Nat → Option Nat) (hG : GM ad gm) (σ : Stt) (hσ : SOk σ) (k : Nat) (hk4 : k < 4) (f t d : Nat) (hf : f < s_n σ k) (ht : t < s_n σ k) (hft : f ≠ t) (hd4 : d < 4) : MX l yL_call wsL_call 13 g ad gm [.ref (ad 0), .int (nI 1), .int (nI k), .int (nI f), .int (nI t), .int (nI d)] σ (u_lnk σ k f t d) (b2i (!(s_m σ k (f * 5 + t)).testBit d)) := by
  intro z hz sz
  refine ix_bodyH (Qc := fun A => va_Qi _ (iB g _) A) (cc := cL_call) (maxL := 7) (ret := (some .int)) (hh := [(0, 11, 12, 14), (0, 11, 17, 16), (0, 11, 22, 18)]) (by decide) rfl (Nat.le_of_ble_eq_true rfl) ?_ sz
  intro pg ev s0 mi below meth cd A hx hb hr hml hts hown hlocks hK hA hNX hZ htab H hP hD hS ls hl
  have hl : lv_has ls 7 [(0, .ref (ad 0)), (1, .int (nI 1)), (2, .int (nI k)), (3, .int (nI f)), (4, .int (nI t)), (5, .int (nI d))] := hl
  refine lv_aload_n hx hb dL_call_0 rfl (lv_at hl 0 rfl) ?_
  refine lv_iload_n hx hb dL_call_1 rfl (lv_at hl 1 rfl) ?_
  refine lv_iload_n hx hb dL_call_2 rfl (lv_at hl 2 rfl) ?_
  refine lv_iload_n hx hb dL_call_3 rfl (lv_at hl 3 rfl) ?_
  refine lv_iload hx hb dL_call_4 (lv_at hl 4 rfl) ?_
  refine lv_iload hx hb dL_call_6 (lv_at hl 5 rfl) ?_
  refine mc_S (k := 6) hx hb hml hown hts (dz_link l g ad gm hG σ hσ k hk4 f t d hf ht hft hd4) gL_call_L_does rfl (by decide +kernel) ⟨Nat.le_of_ble_eq_true rfl, Nat.le_of_ble_eq_true rfl⟩ ⟨Nat.zero_le _, Nat.zero_le _⟩ hK hz hP hD hS hA rfl hl.1 (rest := []) (As := [.ref (ad 0), .int (nI 1), .int (nI k), .int (nI f), .int (nI t), .int (nI d)]) rfl (Nat.le_of_ble_eq_true rfl) dL_call_8 (fun z H locs hz hP hD hS => ?_)
  refine W.widen (k := 1) (n := 6) (Nat.zero_le _) (Nat.zero_le _) ?_
  exact im_ret (w1 := MW g ad gm (u_lnk σ k f t d) z) hx hb hr hlocks hP hS MW_adr ⟨rfl, z, hz, rfl⟩ dL_call_11
set_option maxRecDepth 100000 in
set_option maxHeartbeats 4000000 in
theorem dz_clear (l : Launch) (g : GG) (ad : Nat → Nat) (gm : Nat → Option Nat) (hG : GM ad gm) (σ : Stt) (hσ : SOk σ) (k : Nat) (hk4 : k < 4) (e2 e3 e4 : Int32) : MC l yL_does wsL_does 12 g ad gm [.ref (ad 0), .int (nI 2), .int (nI k), .int e2, .int e3, .int e4] σ (u_clr σ k) (nI (s_n σ k + a_ct σ k)) := by
  intro z hz sz
  refine im_body (Qc := fun A => va_Qi _ (iB g _) A) (cc := cL_does) (maxL := 6) (ret := (some .int)) (by decide) rfl (Nat.le_of_ble_eq_true rfl) ?_ sz
  intro pg ev s0 mi below meth cd A hx hb hr hml hts hown hlocks hK hA H hP hD hS ls hl
  have hl : lv_has ls 6 [(0, .ref (ad 0)), (1, .int (nI 2)), (2, .int (nI k)), (3, .int e2), (4, .int e3), (5, .int e4)] := hl
  refine lv_iload_n hx hb dL_does_0 rfl (lv_at hl 1 rfl) ?_
  refine lv_tableIn (off := 105) (tgt := 106) hx hb dL_does_1 (by decide) (by decide) (by decide) (by decide) ?_
  refine lv_aload_n hx hb dL_does_106 rfl (lv_at hl 0 rfl) ?_
  refine lv_iload_n hx hb dL_does_107 rfl (lv_at hl 2 rfl) ?_
  refine mc_V (k := 1) hx hb hml hown hts (mc_clear l g ad gm hG σ hσ k hk4) gL_does_X6_clear rfl (by decide +kernel) ⟨Nat.le_of_ble_eq_true rfl, Nat.le_of_ble_eq_true rfl⟩ ⟨Nat.zero_le _, Nat.zero_le _⟩ hK hz hP hD hS hA rfl hl.1 (rest := []) (As := [.int (nI k)]) rfl (Nat.le_of_ble_eq_true rfl) dL_does_108 (fun z H locs hz hP hD hS => ?_)
  exact im_ret (w1 := MW g ad gm (u_clr σ k) z) hx hb hr hlocks hP hS MW_adr ⟨rfl, z, hz, rfl⟩ dL_does_111
set_option maxRecDepth 100000 in
set_option maxHeartbeats 4000000 in
theorem k_clear (l : Launch) (g : GG) (ad : Nat → Nat) (gm : Nat → Option Nat) (hG : GM ad gm) (σ : Stt) (hσ : SOk σ) (k : Nat) (hk4 : k < 4) (e2 e3 e4 : Int32) : MX l yL_call wsL_call 13 g ad gm [.ref (ad 0), .int (nI 2), .int (nI k), .int e2, .int e3, .int e4] σ (u_clr σ k) (nI (s_n σ k + a_ct σ k)) := by
  intro z hz sz
  refine ix_bodyH (Qc := fun A => va_Qi _ (iB g _) A) (cc := cL_call) (maxL := 7) (ret := (some .int)) (hh := [(0, 11, 12, 14), (0, 11, 17, 16), (0, 11, 22, 18)]) (by decide) rfl (Nat.le_of_ble_eq_true rfl) ?_ sz
  intro pg ev s0 mi below meth cd A hx hb hr hml hts hown hlocks hK hA hNX hZ htab H hP hD hS ls hl
  have hl : lv_has ls 7 [(0, .ref (ad 0)), (1, .int (nI 2)), (2, .int (nI k)), (3, .int e2), (4, .int e3), (5, .int e4)] := hl
  refine lv_aload_n hx hb dL_call_0 rfl (lv_at hl 0 rfl) ?_
  refine lv_iload_n hx hb dL_call_1 rfl (lv_at hl 1 rfl) ?_
  refine lv_iload_n hx hb dL_call_2 rfl (lv_at hl 2 rfl) ?_
  refine lv_iload_n hx hb dL_call_3 rfl (lv_at hl 3 rfl) ?_
  refine lv_iload hx hb dL_call_4 (lv_at hl 4 rfl) ?_
  refine lv_iload hx hb dL_call_6 (lv_at hl 5 rfl) ?_
  refine mc_S (k := 6) hx hb hml hown hts (dz_clear l g ad gm hG σ hσ k hk4 e2 e3 e4) gL_call_L_does rfl (by decide +kernel) ⟨Nat.le_of_ble_eq_true rfl, Nat.le_of_ble_eq_true rfl⟩ ⟨Nat.zero_le _, Nat.zero_le _⟩ hK hz hP hD hS hA rfl hl.1 (rest := []) (As := [.ref (ad 0), .int (nI 2), .int (nI k), .int e2, .int e3, .int e4]) rfl (Nat.le_of_ble_eq_true rfl) dL_call_8 (fun z H locs hz hP hD hS => ?_)
  refine W.widen (k := 1) (n := 6) (Nat.zero_le _) (Nat.zero_le _) ?_
  exact im_ret (w1 := MW g ad gm (u_clr σ k) z) hx hb hr hlocks hP hS MW_adr ⟨rfl, z, hz, rfl⟩ dL_call_11
set_option maxRecDepth 100000 in
set_option maxHeartbeats 4000000 in
theorem dz_synonyms (l : Launch) (g : GG) (ad : Nat → Nat) (gm : Nat → Option Nat) (hG : GM ad gm) (σ : Stt) (hσ : SOk σ) (a b : Nat) (ha : a < 32) (hb9 : b < 32) (e3 e4 : Int32) : MC l yL_does wsL_does 12 g ad gm [.ref (ad 0), .int (nI 3), .int (nI a), .int (nI b), .int e3, .int e4] σ (u_syn σ a b) (b2i (decide (s_g σ a = s_g σ b))) := by
  intro z hz sz
  refine im_body (Qc := fun A => va_Qi _ (iB g _) A) (cc := cL_does) (maxL := 6) (ret := (some .int)) (by decide) rfl (Nat.le_of_ble_eq_true rfl) ?_ sz
  intro pg ev s0 mi below meth cd A hx hb hr hml hts hown hlocks hK hA H hP hD hS ls hl
  have hl : lv_has ls 6 [(0, .ref (ad 0)), (1, .int (nI 3)), (2, .int (nI a)), (3, .int (nI b)), (4, .int e3), (5, .int e4)] := hl
  refine lv_iload_n hx hb dL_does_0 rfl (lv_at hl 1 rfl) ?_
  refine lv_tableIn (off := 111) (tgt := 112) hx hb dL_does_1 (by decide) (by decide) (by decide) (by decide) ?_
  refine lv_aload_n hx hb dL_does_112 rfl (lv_at hl 0 rfl) ?_
  refine lv_iload_n hx hb dL_does_113 rfl (lv_at hl 2 rfl) ?_
  refine lv_iload_n hx hb dL_does_114 rfl (lv_at hl 3 rfl) ?_
  refine mc_V (k := 2) hx hb hml hown hts (mc_synonyms l g ad gm hG σ hσ a b ha hb9) gL_does_X6_synonyms rfl (by decide +kernel) ⟨Nat.le_of_ble_eq_true rfl, Nat.le_of_ble_eq_true rfl⟩ ⟨Nat.zero_le _, Nat.zero_le _⟩ hK hz hP hD hS hA rfl hl.1 (rest := []) (As := [.int (nI a), .int (nI b)]) rfl (Nat.le_of_ble_eq_true rfl) dL_does_115 (fun z H locs hz hP hD hS => ?_)
  refine bv_if_eq (a := decide (s_g σ a = s_g σ b)) (tgt := 125) hx hb dL_does_118 (by decide) (fun c_1 => ?_) (fun c_1 => ?_)
  · refine lv_iconst (v := nI 0) hx hb dL_does_125 (by decide) ?_
    exact im_ret (w1 := MW g ad gm (u_syn σ a b) z) (v := nI 0) hx hb hr hlocks hP hS MW_adr ⟨by rw [c_1]; rfl, z, hz, rfl⟩ dL_does_126
  · refine lv_iconst (v := nI 1) hx hb dL_does_121 (by decide) ?_
    refine lv_goto (tgt := 126) hx hb dL_does_122 (by decide) ?_
    exact im_ret (w1 := MW g ad gm (u_syn σ a b) z) (v := nI 1) hx hb hr hlocks hP hS MW_adr ⟨by rw [c_1]; rfl, z, hz, rfl⟩ dL_does_126
set_option maxRecDepth 100000 in
set_option maxHeartbeats 4000000 in
theorem k_synonyms (l : Launch) (g : GG) (ad : Nat → Nat) (gm : Nat → Option Nat) (hG : GM ad gm) (σ : Stt) (hσ : SOk σ) (a b : Nat) (ha : a < 32) (hb9 : b < 32) (e3 e4 : Int32) : MX l yL_call wsL_call 13 g ad gm [.ref (ad 0), .int (nI 3), .int (nI a), .int (nI b), .int e3, .int e4] σ (u_syn σ a b) (b2i (decide (s_g σ a = s_g σ b))) := by
  intro z hz sz
  refine ix_bodyH (Qc := fun A => va_Qi _ (iB g _) A) (cc := cL_call) (maxL := 7) (ret := (some .int)) (hh := [(0, 11, 12, 14), (0, 11, 17, 16), (0, 11, 22, 18)]) (by decide) rfl (Nat.le_of_ble_eq_true rfl) ?_ sz
  intro pg ev s0 mi below meth cd A hx hb hr hml hts hown hlocks hK hA hNX hZ htab H hP hD hS ls hl
  have hl : lv_has ls 7 [(0, .ref (ad 0)), (1, .int (nI 3)), (2, .int (nI a)), (3, .int (nI b)), (4, .int e3), (5, .int e4)] := hl
  refine lv_aload_n hx hb dL_call_0 rfl (lv_at hl 0 rfl) ?_
  refine lv_iload_n hx hb dL_call_1 rfl (lv_at hl 1 rfl) ?_
  refine lv_iload_n hx hb dL_call_2 rfl (lv_at hl 2 rfl) ?_
  refine lv_iload_n hx hb dL_call_3 rfl (lv_at hl 3 rfl) ?_
  refine lv_iload hx hb dL_call_4 (lv_at hl 4 rfl) ?_
  refine lv_iload hx hb dL_call_6 (lv_at hl 5 rfl) ?_
  refine mc_S (k := 6) hx hb hml hown hts (dz_synonyms l g ad gm hG σ hσ a b ha hb9 e3 e4) gL_call_L_does rfl (by decide +kernel) ⟨Nat.le_of_ble_eq_true rfl, Nat.le_of_ble_eq_true rfl⟩ ⟨Nat.zero_le _, Nat.zero_le _⟩ hK hz hP hD hS hA rfl hl.1 (rest := []) (As := [.ref (ad 0), .int (nI 3), .int (nI a), .int (nI b), .int e3, .int e4]) rfl (Nat.le_of_ble_eq_true rfl) dL_call_8 (fun z H locs hz hP hD hS => ?_)
  refine W.widen (k := 1) (n := 6) (Nat.zero_le _) (Nat.zero_le _) ?_
  exact im_ret (w1 := MW g ad gm (u_syn σ a b) z) hx hb hr hlocks hP hS MW_adr ⟨rfl, z, hz, rfl⟩ dL_call_11
set_option maxRecDepth 100000 in
set_option maxHeartbeats 4000000 in
theorem dz_chain (l : Launch) (g : GG) (ad : Nat → Nat) (gm : Nat → Option Nat) (hG : GM ad gm) (σ : Stt) (hσ : SOk σ) (f t d : Nat) (hf : f < 4) (ht : t < 4) (hd4 : d < 4) (e4 : Int32) : MC l yL_does wsL_does 12 g ad gm [.ref (ad 0), .int (nI 4), .int (nI f), .int (nI t), .int (nI d), .int e4] σ (u_chn σ f t (some d)) (oI (s_c σ (f * 4 + t))) := by
  intro z hz sz
  refine im_body (Qc := fun A => va_Qi _ (iB g _) A) (cc := cL_does) (maxL := 6) (ret := (some .int)) (by decide) rfl (Nat.le_of_ble_eq_true rfl) ?_ sz
  intro pg ev s0 mi below meth cd A hx hb hr hml hts hown hlocks hK hA H hP hD hS ls hl
  have hl : lv_has ls 6 [(0, .ref (ad 0)), (1, .int (nI 4)), (2, .int (nI f)), (3, .int (nI t)), (4, .int (nI d)), (5, .int e4)] := hl
  refine lv_iload_n hx hb dL_does_0 rfl (lv_at hl 1 rfl) ?_
  refine lv_tableIn (off := 126) (tgt := 127) hx hb dL_does_1 (by decide) (by decide) (by decide) (by decide) ?_
  refine lv_aload_n hx hb dL_does_127 rfl (lv_at hl 0 rfl) ?_
  refine lv_iload_n hx hb dL_does_128 rfl (lv_at hl 2 rfl) ?_
  refine lv_iload_n hx hb dL_does_129 rfl (lv_at hl 3 rfl) ?_
  refine lv_iload hx hb dL_does_130 (lv_at hl 4 rfl) ?_
  refine mc_V (k := 3) hx hb hml hown hts (mc_chain l g ad gm hG σ hσ f t d hf ht hd4) gL_does_X6_chain rfl (by decide +kernel) ⟨Nat.le_of_ble_eq_true rfl, Nat.le_of_ble_eq_true rfl⟩ ⟨Nat.zero_le _, Nat.zero_le _⟩ hK hz hP hD hS hA rfl hl.1 (rest := []) (As := [.int (nI f), .int (nI t), .int (nI d)]) rfl (Nat.le_of_ble_eq_true rfl) dL_does_132 (fun z H locs hz hP hD hS => ?_)
  exact im_ret (w1 := MW g ad gm (u_chn σ f t (some d)) z) hx hb hr hlocks hP hS MW_adr ⟨rfl, z, hz, rfl⟩ dL_does_135
set_option maxRecDepth 100000 in
set_option maxHeartbeats 4000000 in
theorem k_chain (l : Launch) (g : GG) (ad : Nat → Nat) (gm : Nat → Option Nat) (hG : GM ad gm) (σ : Stt) (hσ : SOk σ) (f t d : Nat) (hf : f < 4) (ht : t < 4) (hd4 : d < 4) (e4 : Int32) : MX l yL_call wsL_call 13 g ad gm [.ref (ad 0), .int (nI 4), .int (nI f), .int (nI t), .int (nI d), .int e4] σ (u_chn σ f t (some d)) (oI (s_c σ (f * 4 + t))) := by
  intro z hz sz
  refine ix_bodyH (Qc := fun A => va_Qi _ (iB g _) A) (cc := cL_call) (maxL := 7) (ret := (some .int)) (hh := [(0, 11, 12, 14), (0, 11, 17, 16), (0, 11, 22, 18)]) (by decide) rfl (Nat.le_of_ble_eq_true rfl) ?_ sz
  intro pg ev s0 mi below meth cd A hx hb hr hml hts hown hlocks hK hA hNX hZ htab H hP hD hS ls hl
  have hl : lv_has ls 7 [(0, .ref (ad 0)), (1, .int (nI 4)), (2, .int (nI f)), (3, .int (nI t)), (4, .int (nI d)), (5, .int e4)] := hl
  refine lv_aload_n hx hb dL_call_0 rfl (lv_at hl 0 rfl) ?_
  refine lv_iload_n hx hb dL_call_1 rfl (lv_at hl 1 rfl) ?_
  refine lv_iload_n hx hb dL_call_2 rfl (lv_at hl 2 rfl) ?_
  refine lv_iload_n hx hb dL_call_3 rfl (lv_at hl 3 rfl) ?_
  refine lv_iload hx hb dL_call_4 (lv_at hl 4 rfl) ?_
  refine lv_iload hx hb dL_call_6 (lv_at hl 5 rfl) ?_
  refine mc_S (k := 6) hx hb hml hown hts (dz_chain l g ad gm hG σ hσ f t d hf ht hd4 e4) gL_call_L_does rfl (by decide +kernel) ⟨Nat.le_of_ble_eq_true rfl, Nat.le_of_ble_eq_true rfl⟩ ⟨Nat.zero_le _, Nat.zero_le _⟩ hK hz hP hD hS hA rfl hl.1 (rest := []) (As := [.ref (ad 0), .int (nI 4), .int (nI f), .int (nI t), .int (nI d), .int e4]) rfl (Nat.le_of_ble_eq_true rfl) dL_call_8 (fun z H locs hz hP hD hS => ?_)
  refine W.widen (k := 1) (n := 6) (Nat.zero_le _) (Nat.zero_le _) ?_
  exact im_ret (w1 := MW g ad gm (u_chn σ f t (some d)) z) hx hb hr hlocks hP hS MW_adr ⟨rfl, z, hz, rfl⟩ dL_call_11
set_option maxRecDepth 100000 in
set_option maxHeartbeats 4000000 in
theorem dz_chain_none (l : Launch) (g : GG) (ad : Nat → Nat) (gm : Nat → Option Nat) (hG : GM ad gm) (σ : Stt) (hσ : SOk σ) (f t : Nat) (hf : f < 4) (ht : t < 4) (e4 : Int32) : MC l yL_does wsL_does 12 g ad gm [.ref (ad 0), .int (nI 4), .int (nI f), .int (nI t), .int (oI none), .int e4] σ (u_chn σ f t none) (oI (s_c σ (f * 4 + t))) := by
  intro z hz sz
  refine im_body (Qc := fun A => va_Qi _ (iB g _) A) (cc := cL_does) (maxL := 6) (ret := (some .int)) (by decide) rfl (Nat.le_of_ble_eq_true rfl) ?_ sz
  intro pg ev s0 mi below meth cd A hx hb hr hml hts hown hlocks hK hA H hP hD hS ls hl
  have hl : lv_has ls 6 [(0, .ref (ad 0)), (1, .int (nI 4)), (2, .int (nI f)), (3, .int (nI t)), (4, .int (oI none)), (5, .int e4)] := hl
  refine lv_iload_n hx hb dL_does_0 rfl (lv_at hl 1 rfl) ?_
  refine lv_tableIn (off := 126) (tgt := 127) hx hb dL_does_1 (by decide) (by decide) (by decide) (by decide) ?_
  refine lv_aload_n hx hb dL_does_127 rfl (lv_at hl 0 rfl) ?_
  refine lv_iload_n hx hb dL_does_128 rfl (lv_at hl 2 rfl) ?_
  refine lv_iload_n hx hb dL_does_129 rfl (lv_at hl 3 rfl) ?_
  refine lv_iload hx hb dL_does_130 (lv_at hl 4 rfl) ?_
  refine mc_V (k := 3) hx hb hml hown hts (mc_chain_none l g ad gm hG σ hσ f t hf ht) gL_does_X6_chain rfl (by decide +kernel) ⟨Nat.le_of_ble_eq_true rfl, Nat.le_of_ble_eq_true rfl⟩ ⟨Nat.zero_le _, Nat.zero_le _⟩ hK hz hP hD hS hA rfl hl.1 (rest := []) (As := [.int (nI f), .int (nI t), .int (oI none)]) rfl (Nat.le_of_ble_eq_true rfl) dL_does_132 (fun z H locs hz hP hD hS => ?_)
  exact im_ret (w1 := MW g ad gm (u_chn σ f t none) z) hx hb hr hlocks hP hS MW_adr ⟨rfl, z, hz, rfl⟩ dL_does_135
set_option maxRecDepth 100000 in
set_option maxHeartbeats 4000000 in
theorem k_chain_none (l : Launch) (g : GG) (ad : Nat → Nat) (gm : Nat → Option Nat) (hG : GM ad gm) (σ : Stt) (hσ : SOk σ) (f t : Nat) (hf : f < 4) (ht : t < 4) (e4 : Int32) : MX l yL_call wsL_call 13 g ad gm [.ref (ad 0), .int (nI 4), .int (nI f), .int (nI t), .int (oI none), .int e4] σ (u_chn σ f t none) (oI (s_c σ (f * 4 + t))) := by
  intro z hz sz
  refine ix_bodyH (Qc := fun A => va_Qi _ (iB g _) A) (cc := cL_call) (maxL := 7) (ret := (some .int)) (hh := [(0, 11, 12, 14), (0, 11, 17, 16), (0, 11, 22, 18)]) (by decide) rfl (Nat.le_of_ble_eq_true rfl) ?_ sz
  intro pg ev s0 mi below meth cd A hx hb hr hml hts hown hlocks hK hA hNX hZ htab H hP hD hS ls hl
  have hl : lv_has ls 7 [(0, .ref (ad 0)), (1, .int (nI 4)), (2, .int (nI f)), (3, .int (nI t)), (4, .int (oI none)), (5, .int e4)] := hl
  refine lv_aload_n hx hb dL_call_0 rfl (lv_at hl 0 rfl) ?_
  refine lv_iload_n hx hb dL_call_1 rfl (lv_at hl 1 rfl) ?_
  refine lv_iload_n hx hb dL_call_2 rfl (lv_at hl 2 rfl) ?_
  refine lv_iload_n hx hb dL_call_3 rfl (lv_at hl 3 rfl) ?_
  refine lv_iload hx hb dL_call_4 (lv_at hl 4 rfl) ?_
  refine lv_iload hx hb dL_call_6 (lv_at hl 5 rfl) ?_
  refine mc_S (k := 6) hx hb hml hown hts (dz_chain_none l g ad gm hG σ hσ f t hf ht e4) gL_call_L_does rfl (by decide +kernel) ⟨Nat.le_of_ble_eq_true rfl, Nat.le_of_ble_eq_true rfl⟩ ⟨Nat.zero_le _, Nat.zero_le _⟩ hK hz hP hD hS hA rfl hl.1 (rest := []) (As := [.ref (ad 0), .int (nI 4), .int (nI f), .int (nI t), .int (oI none), .int e4]) rfl (Nat.le_of_ble_eq_true rfl) dL_call_8 (fun z H locs hz hP hD hS => ?_)
  refine W.widen (k := 1) (n := 6) (Nat.zero_le _) (Nat.zero_le _) ?_
  exact im_ret (w1 := MW g ad gm (u_chn σ f t none) z) hx hb hr hlocks hP hS MW_adr ⟨rfl, z, hz, rfl⟩ dL_call_11
set_option maxRecDepth 100000 in
set_option maxHeartbeats 4000000 in
theorem dz_verdict (l : Launch) (g : GG) (ad : Nat → Nat) (gm : Nat → Option Nat) (hG : GM ad gm) (σ : Stt) (hσ : SOk σ) (k : Nat) (hk0 : k ≠ 0) (hk4 : k < 4) (f t d : Nat) (hf : f < s_n σ k) (ht : t < s_n σ k) (hft : f ≠ t) (hd4 : d < 4) (hhas : (s_m σ k (f * 5 + t)).testBit d = true) : MC l yL_does wsL_does 12 g ad gm [.ref (ad 0), .int (nI 13), .int (nI k), .int (nI f), .int (nI t), .int (nI d)] σ σ (nI (a_vd σ k f t d)) := by
  intro z hz sz
  refine im_body (Qc := fun A => va_Qi _ (iB g _) A) (cc := cL_does) (maxL := 6) (ret := (some .int)) (by decide) rfl (Nat.le_of_ble_eq_true rfl) ?_ sz
  intro pg ev s0 mi below meth cd A hx hb hr hml hts hown hlocks hK hA H hP hD hS ls hl
  have hl : lv_has ls 6 [(0, .ref (ad 0)), (1, .int (nI 13)), (2, .int (nI k)), (3, .int (nI f)), (4, .int (nI t)), (5, .int (nI d))] := hl
  refine lv_iload_n hx hb dL_does_0 rfl (lv_at hl 1 rfl) ?_
  refine lv_tableIn (off := 197) (tgt := 198) hx hb dL_does_1 (by decide) (by decide) (by decide) (by decide) ?_
  refine lv_aload_n hx hb dL_does_198 rfl (lv_at hl 0 rfl) ?_
  refine lv_iload_n hx hb dL_does_199 rfl (lv_at hl 2 rfl) ?_
  refine lv_iload_n hx hb dL_does_200 rfl (lv_at hl 3 rfl) ?_
  refine lv_iload hx hb dL_does_201 (lv_at hl 4 rfl) ?_
  refine lv_iload hx hb dL_does_203 (lv_at hl 5 rfl) ?_
  refine mc_V (k := 4) hx hb hml hown hts (mc_verdict l g ad gm hG σ hσ k hk0 hk4 f t d hf ht hft hd4 hhas) gL_does_X6_verdict rfl (by decide +kernel) ⟨Nat.le_of_ble_eq_true rfl, Nat.le_of_ble_eq_true rfl⟩ ⟨Nat.zero_le _, Nat.zero_le _⟩ hK hz hP hD hS hA rfl hl.1 (rest := []) (As := [.int (nI k), .int (nI f), .int (nI t), .int (nI d)]) rfl (Nat.le_of_ble_eq_true rfl) dL_does_205 (fun z H locs hz hP hD hS => ?_)
  exact im_ret (w1 := MW g ad gm σ z) hx hb hr hlocks hP hS MW_adr ⟨rfl, z, hz, rfl⟩ dL_does_208
set_option maxRecDepth 100000 in
set_option maxHeartbeats 4000000 in
theorem k_verdict (l : Launch) (g : GG) (ad : Nat → Nat) (gm : Nat → Option Nat) (hG : GM ad gm) (σ : Stt) (hσ : SOk σ) (k : Nat) (hk0 : k ≠ 0) (hk4 : k < 4) (f t d : Nat) (hf : f < s_n σ k) (ht : t < s_n σ k) (hft : f ≠ t) (hd4 : d < 4) (hhas : (s_m σ k (f * 5 + t)).testBit d = true) : MX l yL_call wsL_call 13 g ad gm [.ref (ad 0), .int (nI 13), .int (nI k), .int (nI f), .int (nI t), .int (nI d)] σ σ (nI (a_vd σ k f t d)) := by
  intro z hz sz
  refine ix_bodyH (Qc := fun A => va_Qi _ (iB g _) A) (cc := cL_call) (maxL := 7) (ret := (some .int)) (hh := [(0, 11, 12, 14), (0, 11, 17, 16), (0, 11, 22, 18)]) (by decide) rfl (Nat.le_of_ble_eq_true rfl) ?_ sz
  intro pg ev s0 mi below meth cd A hx hb hr hml hts hown hlocks hK hA hNX hZ htab H hP hD hS ls hl
  have hl : lv_has ls 7 [(0, .ref (ad 0)), (1, .int (nI 13)), (2, .int (nI k)), (3, .int (nI f)), (4, .int (nI t)), (5, .int (nI d))] := hl
  refine lv_aload_n hx hb dL_call_0 rfl (lv_at hl 0 rfl) ?_
  refine lv_iload_n hx hb dL_call_1 rfl (lv_at hl 1 rfl) ?_
  refine lv_iload_n hx hb dL_call_2 rfl (lv_at hl 2 rfl) ?_
  refine lv_iload_n hx hb dL_call_3 rfl (lv_at hl 3 rfl) ?_
  refine lv_iload hx hb dL_call_4 (lv_at hl 4 rfl) ?_
  refine lv_iload hx hb dL_call_6 (lv_at hl 5 rfl) ?_
  refine mc_S (k := 6) hx hb hml hown hts (dz_verdict l g ad gm hG σ hσ k hk0 hk4 f t d hf ht hft hd4 hhas) gL_call_L_does rfl (by decide +kernel) ⟨Nat.le_of_ble_eq_true rfl, Nat.le_of_ble_eq_true rfl⟩ ⟨Nat.zero_le _, Nat.zero_le _⟩ hK hz hP hD hS hA rfl hl.1 (rest := []) (As := [.ref (ad 0), .int (nI 13), .int (nI k), .int (nI f), .int (nI t), .int (nI d)]) rfl (Nat.le_of_ble_eq_true rfl) dL_call_8 (fun z H locs hz hP hD hS => ?_)
  refine W.widen (k := 1) (n := 6) (Nat.zero_le _) (Nat.zero_le _) ?_
  exact im_ret (w1 := MW g ad gm σ z) hx hb hr hlocks hP hS MW_adr ⟨rfl, z, hz, rfl⟩ dL_call_11
set_option maxRecDepth 100000 in
set_option maxHeartbeats 4000000 in
theorem dx_addIdea_m (l : Launch) (hst : l.stackTraces = false) (g : GG) (ad : Nat → Nat) (gm : Nat → Option Nat) (hG : GM ad gm) (σ : Stt) (hσ : SOk σ) (v : Int32) (hbd : inR v 4 = false) (a1 : Int32) (e3 e4 : Int32) : XW l yL_does wsL_does 12 g ad gm [.ref (ad 0), .int (nI 0), .int v, .int a1, .int e3, .int e4] σ eI := by
  intro z sz
  refine xm_body (cc := cL_does) (maxL := 6) (ret := (some .int)) (by decide) rfl (Nat.le_of_ble_eq_true rfl) ?_ sz
  intro pg ev s0 mi below meth cd A hx hb hr hml hts hown hlocks hK hA hNX hZ ht H hP hD hS ls hl
  have hl : lv_has ls 6 [(0, .ref (ad 0)), (1, .int (nI 0)), (2, .int v), (3, .int a1), (4, .int e3), (5, .int e4)] := hl
  refine lv_iload_n hx hb dL_does_0 rfl (lv_at hl 1 rfl) ?_
  refine lv_tableIn (off := 79) (tgt := 80) hx hb dL_does_1 (by decide) (by decide) (by decide) (by decide) ?_
  refine lv_aload_n hx hb dL_does_80 rfl (lv_at hl 0 rfl) ?_
  refine lv_iload_n hx hb dL_does_81 rfl (lv_at hl 2 rfl) ?_
  refine lv_iload_n hx hb dL_does_82 rfl (lv_at hl 3 rfl) ?_
  exact xm_V (k := 2) hx hb hml hown hts (xw_addIdea_m l hst g ad gm hG σ hσ v hbd a1 z) gL_does_X6_addIdea rfl (by decide +kernel) ⟨Nat.le_of_ble_eq_true rfl, Nat.le_of_ble_eq_true rfl⟩ hK hNX hZ hP hD hS hA (List.range 52) MW_all (by decide) 0 6 rfl rfl rfl hl.1 (rest := []) (As := [.int v, .int a1]) rfl (Nat.le_of_ble_eq_true rfl) dL_does_83 hlocks ht
set_option maxRecDepth 100000 in
set_option maxHeartbeats 4000000 in
theorem k_addIdea_m (l : Launch) (hst : l.stackTraces = false) (g : GG) (ad : Nat → Nat) (gm : Nat → Option Nat) (hG : GM ad gm) (σ : Stt) (hσ : SOk σ) (v : Int32) (hbd : inR v 4 = false) (a1 : Int32) (e3 e4 : Int32) : MX l yL_call wsL_call 13 g ad gm [.ref (ad 0), .int (nI 0), .int v, .int a1, .int e3, .int e4] σ σ (-111) := by
  intro z hz sz
  refine ix_bodyH (Qc := fun A => va_Qi _ (iB g _) A) (cc := cL_call) (maxL := 7) (ret := (some .int)) (hh := [(0, 11, 12, 14), (0, 11, 17, 16), (0, 11, 22, 18)]) (by decide) rfl (Nat.le_of_ble_eq_true rfl) ?_ sz
  intro pg ev s0 mi below meth cd A hx hb hr hml hts hown hlocks hK hA hNX hZ htab H hP hD hS ls hl
  have hl : lv_has ls 7 [(0, .ref (ad 0)), (1, .int (nI 0)), (2, .int v), (3, .int a1), (4, .int e3), (5, .int e4)] := hl
  refine lv_aload_n hx hb dL_call_0 rfl (lv_at hl 0 rfl) ?_
  refine lv_iload_n hx hb dL_call_1 rfl (lv_at hl 1 rfl) ?_
  refine lv_iload_n hx hb dL_call_2 rfl (lv_at hl 2 rfl) ?_
  refine lv_iload_n hx hb dL_call_3 rfl (lv_at hl 3 rfl) ?_
  refine lv_iload hx hb dL_call_4 (lv_at hl 4 rfl) ?_
  refine lv_iload hx hb dL_call_6 (lv_at hl 5 rfl) ?_
  refine ix_S0 (E := eI) (k := 6) hx hb hml hown hts (dx_addIdea_m l hst g ad gm hG σ hσ v hbd a1 e3 e4 z) gL_call_L_does rfl (by decide +kernel) ⟨Nat.le_of_ble_eq_true rfl, Nat.le_of_ble_eq_true rfl⟩ hK hNX hZ hP hD hS hA (List.range 52) MW_all (by decide) rfl hl.1 (rest := []) (As := [.ref (ad 0), .int (nI 0), .int v, .int a1, .int e3, .int e4]) rfl (Nat.le_of_ble_eq_true rfl) dL_call_8 (fun ce q9 H locs hP hS hce hcv hcl => ?_)
  refine vx_catch (name := eI) hown [] { startPc := 0, endPc := 11, handlerPc := 12, catchType := 14 } [{ startPc := 0, endPc := 11, handlerPc := 17, catchType := 16 }, { startPc := 0, endPc := 11, handlerPc := 22, catchType := 18 }] (by rw [htab]; rfl) (fun z hz => absurd hz List.not_mem_nil) (by decide) (by decide) (hts _ (List.mem_cons_of_mem _ (List.mem_append_left _ (List.mem_append_left _ (List.mem_append_left _ (List.mem_append_left _ (List.mem_append_left _ (List.mem_append_left _ (List.mem_append_left _ (List.mem_append_left _ (List.mem_append_left _ (List.mem_append_left _ (List.mem_append_left _ (List.mem_of_getElem? (i := 0) rfl)))))))))))))) (va_Nw.use rfl hNX.2.1.1) hce hcv hcl ?_
  refine lv_astore (lv' := [(6, .ref q9), (0, .ref (ad 0)), (1, .int (nI 0)), (2, .int v), (3, .int a1), (4, .int e3), (5, .int e4)]) hx hb dL_call_12 hl (by decide) rfl (fun ls hl => ?_)
  refine lv_bipush (v := -111) hx hb dL_call_14 (by decide) ?_
  exact im_ret (w1 := MW g ad gm σ z) (v := -111) hx hb hr hlocks hP hS MW_adr ⟨rfl, z, hz, rfl⟩ dL_call_16
set_option maxRecDepth 100000 in
set_option maxHeartbeats 4000000 in
theorem dx_link_m (l : Launch) (hst : l.stackTraces = false) (g : GG) (ad : Nat → Nat) (gm : Nat → Option Nat) (hG : GM ad gm) (σ : Stt) (hσ : SOk σ) (v : Int32) (hbd : inR v 4 = false) (a1 : Int32) (b1 : Int32) (d1 : Int32) : XW l yL_does wsL_does 12 g ad gm [.ref (ad 0), .int (nI 1), .int v, .int a1, .int b1, .int d1] σ eI := by
  intro z sz
  refine xm_body (cc := cL_does) (maxL := 6) (ret := (some .int)) (by decide) rfl (Nat.le_of_ble_eq_true rfl) ?_ sz
  intro pg ev s0 mi below meth cd A hx hb hr hml hts hown hlocks hK hA hNX hZ ht H hP hD hS ls hl
  have hl : lv_has ls 6 [(0, .ref (ad 0)), (1, .int (nI 1)), (2, .int v), (3, .int a1), (4, .int b1), (5, .int d1)] := hl
  refine lv_iload_n hx hb dL_does_0 rfl (lv_at hl 1 rfl) ?_
  refine lv_tableIn (off := 86) (tgt := 87) hx hb dL_does_1 (by decide) (by decide) (by decide) (by decide) ?_
  refine lv_aload_n hx hb dL_does_87 rfl (lv_at hl 0 rfl) ?_
  refine lv_iload_n hx hb dL_does_88 rfl (lv_at hl 2 rfl) ?_
  refine lv_iload_n hx hb dL_does_89 rfl (lv_at hl 3 rfl) ?_
  refine lv_iload hx hb dL_does_90 (lv_at hl 4 rfl) ?_
  refine lv_iload hx hb dL_does_92 (lv_at hl 5 rfl) ?_
  exact xm_V (k := 4) hx hb hml hown hts (xw_link_m l hst g ad gm hG σ hσ v hbd a1 b1 d1 z) gL_does_X6_link rfl (by decide +kernel) ⟨Nat.le_of_ble_eq_true rfl, Nat.le_of_ble_eq_true rfl⟩ hK hNX hZ hP hD hS hA (List.range 52) MW_all (by decide) 0 6 rfl rfl rfl hl.1 (rest := []) (As := [.int v, .int a1, .int b1, .int d1]) rfl (Nat.le_of_ble_eq_true rfl) dL_does_94 hlocks ht
set_option maxRecDepth 100000 in
set_option maxHeartbeats 4000000 in
theorem k_link_m (l : Launch) (hst : l.stackTraces = false) (g : GG) (ad : Nat → Nat) (gm : Nat → Option Nat) (hG : GM ad gm) (σ : Stt) (hσ : SOk σ) (v : Int32) (hbd : inR v 4 = false) (a1 : Int32) (b1 : Int32) (d1 : Int32) : MX l yL_call wsL_call 13 g ad gm [.ref (ad 0), .int (nI 1), .int v, .int a1, .int b1, .int d1] σ σ (-111) := by
  intro z hz sz
  refine ix_bodyH (Qc := fun A => va_Qi _ (iB g _) A) (cc := cL_call) (maxL := 7) (ret := (some .int)) (hh := [(0, 11, 12, 14), (0, 11, 17, 16), (0, 11, 22, 18)]) (by decide) rfl (Nat.le_of_ble_eq_true rfl) ?_ sz
  intro pg ev s0 mi below meth cd A hx hb hr hml hts hown hlocks hK hA hNX hZ htab H hP hD hS ls hl
  have hl : lv_has ls 7 [(0, .ref (ad 0)), (1, .int (nI 1)), (2, .int v), (3, .int a1), (4, .int b1), (5, .int d1)] := hl
  refine lv_aload_n hx hb dL_call_0 rfl (lv_at hl 0 rfl) ?_
  refine lv_iload_n hx hb dL_call_1 rfl (lv_at hl 1 rfl) ?_
  refine lv_iload_n hx hb dL_call_2 rfl (lv_at hl 2 rfl) ?_
  refine lv_iload_n hx hb dL_call_3 rfl (lv_at hl 3 rfl) ?_
  refine lv_iload hx hb dL_call_4 (lv_at hl 4 rfl) ?_
  refine lv_iload hx hb dL_call_6 (lv_at hl 5 rfl) ?_
  refine ix_S0 (E := eI) (k := 6) hx hb hml hown hts (dx_link_m l hst g ad gm hG σ hσ v hbd a1 b1 d1  z) gL_call_L_does rfl (by decide +kernel) ⟨Nat.le_of_ble_eq_true rfl, Nat.le_of_ble_eq_true rfl⟩ hK hNX hZ hP hD hS hA (List.range 52) MW_all (by decide) rfl hl.1 (rest := []) (As := [.ref (ad 0), .int (nI 1), .int v, .int a1, .int b1, .int d1]) rfl (Nat.le_of_ble_eq_true rfl) dL_call_8 (fun ce q9 H locs hP hS hce hcv hcl => ?_)
  refine vx_catch (name := eI) hown [] { startPc := 0, endPc := 11, handlerPc := 12, catchType := 14 } [{ startPc := 0, endPc := 11, handlerPc := 17, catchType := 16 }, { startPc := 0, endPc := 11, handlerPc := 22, catchType := 18 }] (by rw [htab]; rfl) (fun z hz => absurd hz List.not_mem_nil) (by decide) (by decide) (hts _ (List.mem_cons_of_mem _ (List.mem_append_left _ (List.mem_append_left _ (List.mem_append_left _ (List.mem_append_left _ (List.mem_append_left _ (List.mem_append_left _ (List.mem_append_left _ (List.mem_append_left _ (List.mem_append_left _ (List.mem_append_left _ (List.mem_append_left _ (List.mem_of_getElem? (i := 0) rfl)))))))))))))) (va_Nw.use rfl hNX.2.1.1) hce hcv hcl ?_
  refine lv_astore (lv' := [(6, .ref q9), (0, .ref (ad 0)), (1, .int (nI 1)), (2, .int v), (3, .int a1), (4, .int b1), (5, .int d1)]) hx hb dL_call_12 hl (by decide) rfl (fun ls hl => ?_)
  refine lv_bipush (v := -111) hx hb dL_call_14 (by decide) ?_
  exact im_ret (w1 := MW g ad gm σ z) (v := -111) hx hb hr hlocks hP hS MW_adr ⟨rfl, z, hz, rfl⟩ dL_call_16
set_option maxRecDepth 100000 in
set_option maxHeartbeats 4000000 in
theorem dx_clear_m (l : Launch) (hst : l.stackTraces = false) (g : GG) (ad : Nat → Nat) (gm : Nat → Option Nat) (hG : GM ad gm) (σ : Stt) (hσ : SOk σ) (v : Int32) (hbd : inR v 4 = false) (e2 e3 e4 : Int32) : XW l yL_does wsL_does 12 g ad gm [.ref (ad 0), .int (nI 2), .int v, .int e2, .int e3, .int e4] σ eI := by
  intro z sz
  refine xm_body (cc := cL_does) (maxL := 6) (ret := (some .int)) (by decide) rfl (Nat.le_of_ble_eq_true rfl) ?_ sz
  intro pg ev s0 mi below meth cd A hx hb hr hml hts hown hlocks hK hA hNX hZ ht H hP hD hS ls hl
  have hl : lv_has ls 6 [(0, .ref (ad 0)), (1, .int (nI 2)), (2, .int v), (3, .int e2), (4, .int e3), (5, .int e4)] := hl
  refine lv_iload_n hx hb dL_does_0 rfl (lv_at hl 1 rfl) ?_
  refine lv_tableIn (off := 105) (tgt := 106) hx hb dL_does_1 (by decide) (by decide) (by decide) (by decide) ?_
  refine lv_aload_n hx hb dL_does_106 rfl (lv_at hl 0 rfl) ?_
  refine lv_iload_n hx hb dL_does_107 rfl (lv_at hl 2 rfl) ?_
  exact xm_V (k := 1) hx hb hml hown hts (xw_clear_m l hst g ad gm hG σ hσ v hbd  z) gL_does_X6_clear rfl (by decide +kernel) ⟨Nat.le_of_ble_eq_true rfl, Nat.le_of_ble_eq_true rfl⟩ hK hNX hZ hP hD hS hA (List.range 52) MW_all (by decide) 0 6 rfl rfl rfl hl.1 (rest := []) (As := [.int v]) rfl (Nat.le_of_ble_eq_true rfl) dL_does_108 hlocks ht
set_option maxRecDepth 100000 in
set_option maxHeartbeats 4000000 in
theorem k_clear_m (l : Launch) (hst : l.stackTraces = false) (g : GG) (ad : Nat → Nat) (gm : Nat → Option Nat) (hG : GM ad gm) (σ : Stt) (hσ : SOk σ) (v : Int32) (hbd : inR v 4 = false) (e2 e3 e4 : Int32) : MX l yL_call wsL_call 13 g ad gm [.ref (ad 0), .int (nI 2), .int v, .int e2, .int e3, .int e4] σ σ (-111) := by
  intro z hz sz
  refine ix_bodyH (Qc := fun A => va_Qi _ (iB g _) A) (cc := cL_call) (maxL := 7) (ret := (some .int)) (hh := [(0, 11, 12, 14), (0, 11, 17, 16), (0, 11, 22, 18)]) (by decide) rfl (Nat.le_of_ble_eq_true rfl) ?_ sz
  intro pg ev s0 mi below meth cd A hx hb hr hml hts hown hlocks hK hA hNX hZ htab H hP hD hS ls hl
  have hl : lv_has ls 7 [(0, .ref (ad 0)), (1, .int (nI 2)), (2, .int v), (3, .int e2), (4, .int e3), (5, .int e4)] := hl
  refine lv_aload_n hx hb dL_call_0 rfl (lv_at hl 0 rfl) ?_
  refine lv_iload_n hx hb dL_call_1 rfl (lv_at hl 1 rfl) ?_
  refine lv_iload_n hx hb dL_call_2 rfl (lv_at hl 2 rfl) ?_
  refine lv_iload_n hx hb dL_call_3 rfl (lv_at hl 3 rfl) ?_
  refine lv_iload hx hb dL_call_4 (lv_at hl 4 rfl) ?_
  refine lv_iload hx hb dL_call_6 (lv_at hl 5 rfl) ?_
  refine ix_S0 (E := eI) (k := 6) hx hb hml hown hts (dx_clear_m l hst g ad gm hG σ hσ v hbd  e2 e3 e4 z) gL_call_L_does rfl (by decide +kernel) ⟨Nat.le_of_ble_eq_true rfl, Nat.le_of_ble_eq_true rfl⟩ hK hNX hZ hP hD hS hA (List.range 52) MW_all (by decide) rfl hl.1 (rest := []) (As := [.ref (ad 0), .int (nI 2), .int v, .int e2, .int e3, .int e4]) rfl (Nat.le_of_ble_eq_true rfl) dL_call_8 (fun ce q9 H locs hP hS hce hcv hcl => ?_)
  refine vx_catch (name := eI) hown [] { startPc := 0, endPc := 11, handlerPc := 12, catchType := 14 } [{ startPc := 0, endPc := 11, handlerPc := 17, catchType := 16 }, { startPc := 0, endPc := 11, handlerPc := 22, catchType := 18 }] (by rw [htab]; rfl) (fun z hz => absurd hz List.not_mem_nil) (by decide) (by decide) (hts _ (List.mem_cons_of_mem _ (List.mem_append_left _ (List.mem_append_left _ (List.mem_append_left _ (List.mem_append_left _ (List.mem_append_left _ (List.mem_append_left _ (List.mem_append_left _ (List.mem_append_left _ (List.mem_append_left _ (List.mem_append_left _ (List.mem_append_left _ (List.mem_of_getElem? (i := 0) rfl)))))))))))))) (va_Nw.use rfl hNX.2.1.1) hce hcv hcl ?_
  refine lv_astore (lv' := [(6, .ref q9), (0, .ref (ad 0)), (1, .int (nI 2)), (2, .int v), (3, .int e2), (4, .int e3), (5, .int e4)]) hx hb dL_call_12 hl (by decide) rfl (fun ls hl => ?_)
  refine lv_bipush (v := -111) hx hb dL_call_14 (by decide) ?_
  exact im_ret (w1 := MW g ad gm σ z) (v := -111) hx hb hr hlocks hP hS MW_adr ⟨rfl, z, hz, rfl⟩ dL_call_16
set_option maxRecDepth 100000 in
set_option maxHeartbeats 4000000 in
theorem dx_ideas_m (l : Launch) (hst : l.stackTraces = false) (g : GG) (ad : Nat → Nat) (gm : Nat → Option Nat) (hG : GM ad gm) (σ : Stt) (hσ : SOk σ) (v : Int32) (hbd : inR v 4 = false) (e2 e3 e4 : Int32) : XW l yL_does wsL_does 12 g ad gm [.ref (ad 0), .int (nI 5), .int v, .int e2, .int e3, .int e4] σ eI := by
  intro z sz
  refine xm_body (cc := cL_does) (maxL := 6) (ret := (some .int)) (by decide) rfl (Nat.le_of_ble_eq_true rfl) ?_ sz
  intro pg ev s0 mi below meth cd A hx hb hr hml hts hown hlocks hK hA hNX hZ ht H hP hD hS ls hl
  have hl : lv_has ls 6 [(0, .ref (ad 0)), (1, .int (nI 5)), (2, .int v), (3, .int e2), (4, .int e3), (5, .int e4)] := hl
  refine lv_iload_n hx hb dL_does_0 rfl (lv_at hl 1 rfl) ?_
  refine lv_tableIn (off := 135) (tgt := 136) hx hb dL_does_1 (by decide) (by decide) (by decide) (by decide) ?_
  refine lv_aload_n hx hb dL_does_136 rfl (lv_at hl 0 rfl) ?_
  refine lv_iload_n hx hb dL_does_137 rfl (lv_at hl 2 rfl) ?_
  exact xm_V (k := 1) hx hb hml hown hts (xw_ideas_m l hst g ad gm hG σ hσ v hbd  z) gL_does_X6_ideas rfl (by decide +kernel) ⟨Nat.le_of_ble_eq_true rfl, Nat.le_of_ble_eq_true rfl⟩ hK hNX hZ hP hD hS hA (List.range 52) MW_all (by decide) 0 6 rfl rfl rfl hl.1 (rest := []) (As := [.int v]) rfl (Nat.le_of_ble_eq_true rfl) dL_does_138 hlocks ht
set_option maxRecDepth 100000 in
set_option maxHeartbeats 4000000 in
theorem k_ideas_m (l : Launch) (hst : l.stackTraces = false) (g : GG) (ad : Nat → Nat) (gm : Nat → Option Nat) (hG : GM ad gm) (σ : Stt) (hσ : SOk σ) (v : Int32) (hbd : inR v 4 = false) (e2 e3 e4 : Int32) : MX l yL_call wsL_call 13 g ad gm [.ref (ad 0), .int (nI 5), .int v, .int e2, .int e3, .int e4] σ σ (-111) := by
  intro z hz sz
  refine ix_bodyH (Qc := fun A => va_Qi _ (iB g _) A) (cc := cL_call) (maxL := 7) (ret := (some .int)) (hh := [(0, 11, 12, 14), (0, 11, 17, 16), (0, 11, 22, 18)]) (by decide) rfl (Nat.le_of_ble_eq_true rfl) ?_ sz
  intro pg ev s0 mi below meth cd A hx hb hr hml hts hown hlocks hK hA hNX hZ htab H hP hD hS ls hl
  have hl : lv_has ls 7 [(0, .ref (ad 0)), (1, .int (nI 5)), (2, .int v), (3, .int e2), (4, .int e3), (5, .int e4)] := hl
  refine lv_aload_n hx hb dL_call_0 rfl (lv_at hl 0 rfl) ?_
  refine lv_iload_n hx hb dL_call_1 rfl (lv_at hl 1 rfl) ?_
  refine lv_iload_n hx hb dL_call_2 rfl (lv_at hl 2 rfl) ?_
  refine lv_iload_n hx hb dL_call_3 rfl (lv_at hl 3 rfl) ?_
  refine lv_iload hx hb dL_call_4 (lv_at hl 4 rfl) ?_
  refine lv_iload hx hb dL_call_6 (lv_at hl 5 rfl) ?_
  refine ix_S0 (E := eI) (k := 6) hx hb hml hown hts (dx_ideas_m l hst g ad gm hG σ hσ v hbd  e2 e3 e4 z) gL_call_L_does rfl (by decide +kernel) ⟨Nat.le_of_ble_eq_true rfl, Nat.le_of_ble_eq_true rfl⟩ hK hNX hZ hP hD hS hA (List.range 52) MW_all (by decide) rfl hl.1 (rest := []) (As := [.ref (ad 0), .int (nI 5), .int v, .int e2, .int e3, .int e4]) rfl (Nat.le_of_ble_eq_true rfl) dL_call_8 (fun ce q9 H locs hP hS hce hcv hcl => ?_)
  refine vx_catch (name := eI) hown [] { startPc := 0, endPc := 11, handlerPc := 12, catchType := 14 } [{ startPc := 0, endPc := 11, handlerPc := 17, catchType := 16 }, { startPc := 0, endPc := 11, handlerPc := 22, catchType := 18 }] (by rw [htab]; rfl) (fun z hz => absurd hz List.not_mem_nil) (by decide) (by decide) (hts _ (List.mem_cons_of_mem _ (List.mem_append_left _ (List.mem_append_left _ (List.mem_append_left _ (List.mem_append_left _ (List.mem_append_left _ (List.mem_append_left _ (List.mem_append_left _ (List.mem_append_left _ (List.mem_append_left _ (List.mem_append_left _ (List.mem_append_left _ (List.mem_of_getElem? (i := 0) rfl)))))))))))))) (va_Nw.use rfl hNX.2.1.1) hce hcv hcl ?_
  refine lv_astore (lv' := [(6, .ref q9), (0, .ref (ad 0)), (1, .int (nI 5)), (2, .int v), (3, .int e2), (4, .int e3), (5, .int e4)]) hx hb dL_call_12 hl (by decide) rfl (fun ls hl => ?_)
  refine lv_bipush (v := -111) hx hb dL_call_14 (by decide) ?_
  exact im_ret (w1 := MW g ad gm σ z) (v := -111) hx hb hr hlocks hP hS MW_adr ⟨rfl, z, hz, rfl⟩ dL_call_16
set_option maxRecDepth 100000 in
set_option maxHeartbeats 4000000 in
theorem dx_points_m (l : Launch) (hst : l.stackTraces = false) (g : GG) (ad : Nat → Nat) (gm : Nat → Option Nat) (hG : GM ad gm) (σ : Stt) (hσ : SOk σ) (v : Int32) (hbd : inM v = false) (e2 e3 e4 : Int32) : XW l yL_does wsL_does 12 g ad gm [.ref (ad 0), .int (nI 9), .int v, .int e2, .int e3, .int e4] σ eI := by
  intro z sz
  refine xm_body (cc := cL_does) (maxL := 6) (ret := (some .int)) (by decide) rfl (Nat.le_of_ble_eq_true rfl) ?_ sz
  intro pg ev s0 mi below meth cd A hx hb hr hml hts hown hlocks hK hA hNX hZ ht H hP hD hS ls hl
  have hl : lv_has ls 6 [(0, .ref (ad 0)), (1, .int (nI 9)), (2, .int v), (3, .int e2), (4, .int e3), (5, .int e4)] := hl
  refine lv_iload_n hx hb dL_does_0 rfl (lv_at hl 1 rfl) ?_
  refine lv_tableIn (off := 172) (tgt := 173) hx hb dL_does_1 (by decide) (by decide) (by decide) (by decide) ?_
  refine lv_aload_n hx hb dL_does_173 rfl (lv_at hl 0 rfl) ?_
  refine lv_iload_n hx hb dL_does_174 rfl (lv_at hl 2 rfl) ?_
  exact xm_V (k := 1) hx hb hml hown hts (xw_points_m l hst g ad gm hG σ hσ v hbd z) gL_does_X6_points rfl (by decide +kernel) ⟨Nat.le_of_ble_eq_true rfl, Nat.le_of_ble_eq_true rfl⟩ hK hNX hZ hP hD hS hA (List.range 52) MW_all (by decide) 0 6 rfl rfl rfl hl.1 (rest := []) (As := [.int v]) rfl (Nat.le_of_ble_eq_true rfl) dL_does_175 hlocks ht
set_option maxRecDepth 100000 in
set_option maxHeartbeats 4000000 in
theorem k_points_m (l : Launch) (hst : l.stackTraces = false) (g : GG) (ad : Nat → Nat) (gm : Nat → Option Nat) (hG : GM ad gm) (σ : Stt) (hσ : SOk σ) (v : Int32) (hbd : inM v = false) (e2 e3 e4 : Int32) : MX l yL_call wsL_call 13 g ad gm [.ref (ad 0), .int (nI 9), .int v, .int e2, .int e3, .int e4] σ σ (-111) := by
  intro z hz sz
  refine ix_bodyH (Qc := fun A => va_Qi _ (iB g _) A) (cc := cL_call) (maxL := 7) (ret := (some .int)) (hh := [(0, 11, 12, 14), (0, 11, 17, 16), (0, 11, 22, 18)]) (by decide) rfl (Nat.le_of_ble_eq_true rfl) ?_ sz
  intro pg ev s0 mi below meth cd A hx hb hr hml hts hown hlocks hK hA hNX hZ htab H hP hD hS ls hl
  have hl : lv_has ls 7 [(0, .ref (ad 0)), (1, .int (nI 9)), (2, .int v), (3, .int e2), (4, .int e3), (5, .int e4)] := hl
  refine lv_aload_n hx hb dL_call_0 rfl (lv_at hl 0 rfl) ?_
  refine lv_iload_n hx hb dL_call_1 rfl (lv_at hl 1 rfl) ?_
  refine lv_iload_n hx hb dL_call_2 rfl (lv_at hl 2 rfl) ?_
  refine lv_iload_n hx hb dL_call_3 rfl (lv_at hl 3 rfl) ?_
  refine lv_iload hx hb dL_call_4 (lv_at hl 4 rfl) ?_
  refine lv_iload hx hb dL_call_6 (lv_at hl 5 rfl) ?_
  refine ix_S0 (E := eI) (k := 6) hx hb hml hown hts (dx_points_m l hst g ad gm hG σ hσ v hbd e2 e3 e4 z) gL_call_L_does rfl (by decide +kernel) ⟨Nat.le_of_ble_eq_true rfl, Nat.le_of_ble_eq_true rfl⟩ hK hNX hZ hP hD hS hA (List.range 52) MW_all (by decide) rfl hl.1 (rest := []) (As := [.ref (ad 0), .int (nI 9), .int v, .int e2, .int e3, .int e4]) rfl (Nat.le_of_ble_eq_true rfl) dL_call_8 (fun ce q9 H locs hP hS hce hcv hcl => ?_)
  refine vx_catch (name := eI) hown [] { startPc := 0, endPc := 11, handlerPc := 12, catchType := 14 } [{ startPc := 0, endPc := 11, handlerPc := 17, catchType := 16 }, { startPc := 0, endPc := 11, handlerPc := 22, catchType := 18 }] (by rw [htab]; rfl) (fun z hz => absurd hz List.not_mem_nil) (by decide) (by decide) (hts _ (List.mem_cons_of_mem _ (List.mem_append_left _ (List.mem_append_left _ (List.mem_append_left _ (List.mem_append_left _ (List.mem_append_left _ (List.mem_append_left _ (List.mem_append_left _ (List.mem_append_left _ (List.mem_append_left _ (List.mem_append_left _ (List.mem_append_left _ (List.mem_of_getElem? (i := 0) rfl)))))))))))))) (va_Nw.use rfl hNX.2.1.1) hce hcv hcl ?_
  refine lv_astore (lv' := [(6, .ref q9), (0, .ref (ad 0)), (1, .int (nI 9)), (2, .int v), (3, .int e2), (4, .int e3), (5, .int e4)]) hx hb dL_call_12 hl (by decide) rfl (fun ls hl => ?_)
  refine lv_bipush (v := -111) hx hb dL_call_14 (by decide) ?_
  exact im_ret (w1 := MW g ad gm σ z) (v := -111) hx hb hr hlocks hP hS MW_adr ⟨rfl, z, hz, rfl⟩ dL_call_16
set_option maxRecDepth 100000 in
set_option maxHeartbeats 4000000 in
theorem dx_synonyms_a (l : Launch) (hst : l.stackTraces = false) (g : GG) (ad : Nat → Nat) (gm : Nat → Option Nat) (hG : GM ad gm) (σ : Stt) (hσ : SOk σ) (v w : Int32) (hbd : inR v 32 = false) (e3 e4 : Int32) : XW l yL_does wsL_does 12 g ad gm [.ref (ad 0), .int (nI 3), .int v, .int w, .int e3, .int e4] σ eI := by
  intro z sz
  refine xm_body (cc := cL_does) (maxL := 6) (ret := (some .int)) (by decide) rfl (Nat.le_of_ble_eq_true rfl) ?_ sz
  intro pg ev s0 mi below meth cd A hx hb hr hml hts hown hlocks hK hA hNX hZ ht H hP hD hS ls hl
  have hl : lv_has ls 6 [(0, .ref (ad 0)), (1, .int (nI 3)), (2, .int v), (3, .int w), (4, .int e3), (5, .int e4)] := hl
  refine lv_iload_n hx hb dL_does_0 rfl (lv_at hl 1 rfl) ?_
  refine lv_tableIn (off := 111) (tgt := 112) hx hb dL_does_1 (by decide) (by decide) (by decide) (by decide) ?_
  refine lv_aload_n hx hb dL_does_112 rfl (lv_at hl 0 rfl) ?_
  refine lv_iload_n hx hb dL_does_113 rfl (lv_at hl 2 rfl) ?_
  refine lv_iload_n hx hb dL_does_114 rfl (lv_at hl 3 rfl) ?_
  exact xm_V (k := 2) hx hb hml hown hts (xw_synonyms_a l hst g ad gm hG σ hσ v w hbd z) gL_does_X6_synonyms rfl (by decide +kernel) ⟨Nat.le_of_ble_eq_true rfl, Nat.le_of_ble_eq_true rfl⟩ hK hNX hZ hP hD hS hA (List.range 52) MW_all (by decide) 0 6 rfl rfl rfl hl.1 (rest := []) (As := [.int v, .int w]) rfl (Nat.le_of_ble_eq_true rfl) dL_does_115 hlocks ht
set_option maxRecDepth 100000 in
set_option maxHeartbeats 4000000 in
theorem k_synonyms_a (l : Launch) (hst : l.stackTraces = false) (g : GG) (ad : Nat → Nat) (gm : Nat → Option Nat) (hG : GM ad gm) (σ : Stt) (hσ : SOk σ) (v w : Int32) (hbd : inR v 32 = false) (e3 e4 : Int32) : MX l yL_call wsL_call 13 g ad gm [.ref (ad 0), .int (nI 3), .int v, .int w, .int e3, .int e4] σ σ (-111) := by
  intro z hz sz
  refine ix_bodyH (Qc := fun A => va_Qi _ (iB g _) A) (cc := cL_call) (maxL := 7) (ret := (some .int)) (hh := [(0, 11, 12, 14), (0, 11, 17, 16), (0, 11, 22, 18)]) (by decide) rfl (Nat.le_of_ble_eq_true rfl) ?_ sz
  intro pg ev s0 mi below meth cd A hx hb hr hml hts hown hlocks hK hA hNX hZ htab H hP hD hS ls hl
  have hl : lv_has ls 7 [(0, .ref (ad 0)), (1, .int (nI 3)), (2, .int v), (3, .int w), (4, .int e3), (5, .int e4)] := hl
  refine lv_aload_n hx hb dL_call_0 rfl (lv_at hl 0 rfl) ?_
  refine lv_iload_n hx hb dL_call_1 rfl (lv_at hl 1 rfl) ?_
  refine lv_iload_n hx hb dL_call_2 rfl (lv_at hl 2 rfl) ?_
  refine lv_iload_n hx hb dL_call_3 rfl (lv_at hl 3 rfl) ?_
  refine lv_iload hx hb dL_call_4 (lv_at hl 4 rfl) ?_
  refine lv_iload hx hb dL_call_6 (lv_at hl 5 rfl) ?_
  refine ix_S0 (E := eI) (k := 6) hx hb hml hown hts (dx_synonyms_a l hst g ad gm hG σ hσ v w hbd e3 e4 z) gL_call_L_does rfl (by decide +kernel) ⟨Nat.le_of_ble_eq_true rfl, Nat.le_of_ble_eq_true rfl⟩ hK hNX hZ hP hD hS hA (List.range 52) MW_all (by decide) rfl hl.1 (rest := []) (As := [.ref (ad 0), .int (nI 3), .int v, .int w, .int e3, .int e4]) rfl (Nat.le_of_ble_eq_true rfl) dL_call_8 (fun ce q9 H locs hP hS hce hcv hcl => ?_)
  refine vx_catch (name := eI) hown [] { startPc := 0, endPc := 11, handlerPc := 12, catchType := 14 } [{ startPc := 0, endPc := 11, handlerPc := 17, catchType := 16 }, { startPc := 0, endPc := 11, handlerPc := 22, catchType := 18 }] (by rw [htab]; rfl) (fun z hz => absurd hz List.not_mem_nil) (by decide) (by decide) (hts _ (List.mem_cons_of_mem _ (List.mem_append_left _ (List.mem_append_left _ (List.mem_append_left _ (List.mem_append_left _ (List.mem_append_left _ (List.mem_append_left _ (List.mem_append_left _ (List.mem_append_left _ (List.mem_append_left _ (List.mem_append_left _ (List.mem_append_left _ (List.mem_of_getElem? (i := 0) rfl)))))))))))))) (va_Nw.use rfl hNX.2.1.1) hce hcv hcl ?_
  refine lv_astore (lv' := [(6, .ref q9), (0, .ref (ad 0)), (1, .int (nI 3)), (2, .int v), (3, .int w), (4, .int e3), (5, .int e4)]) hx hb dL_call_12 hl (by decide) rfl (fun ls hl => ?_)
  refine lv_bipush (v := -111) hx hb dL_call_14 (by decide) ?_
  exact im_ret (w1 := MW g ad gm σ z) (v := -111) hx hb hr hlocks hP hS MW_adr ⟨rfl, z, hz, rfl⟩ dL_call_16
set_option maxRecDepth 100000 in
set_option maxHeartbeats 4000000 in
theorem dx_synonyms_b (l : Launch) (hst : l.stackTraces = false) (g : GG) (ad : Nat → Nat) (gm : Nat → Option Nat) (hG : GM ad gm) (σ : Stt) (hσ : SOk σ) (o1 : Nat) (w : Int32) (h1 : o1 < 32) (hbd : inR w 32 = false) (e3 e4 : Int32) : XW l yL_does wsL_does 12 g ad gm [.ref (ad 0), .int (nI 3), .int (nI o1), .int w, .int e3, .int e4] σ eI := by
  intro z sz
  refine xm_body (cc := cL_does) (maxL := 6) (ret := (some .int)) (by decide) rfl (Nat.le_of_ble_eq_true rfl) ?_ sz
  intro pg ev s0 mi below meth cd A hx hb hr hml hts hown hlocks hK hA hNX hZ ht H hP hD hS ls hl
  have hl : lv_has ls 6 [(0, .ref (ad 0)), (1, .int (nI 3)), (2, .int (nI o1)), (3, .int w), (4, .int e3), (5, .int e4)] := hl
  refine lv_iload_n hx hb dL_does_0 rfl (lv_at hl 1 rfl) ?_
  refine lv_tableIn (off := 111) (tgt := 112) hx hb dL_does_1 (by decide) (by decide) (by decide) (by decide) ?_
  refine lv_aload_n hx hb dL_does_112 rfl (lv_at hl 0 rfl) ?_
  refine lv_iload_n hx hb dL_does_113 rfl (lv_at hl 2 rfl) ?_
  refine lv_iload_n hx hb dL_does_114 rfl (lv_at hl 3 rfl) ?_
  exact xm_V (k := 2) hx hb hml hown hts (xw_synonyms_b l hst g ad gm hG σ hσ o1 w h1 hbd z) gL_does_X6_synonyms rfl (by decide +kernel) ⟨Nat.le_of_ble_eq_true rfl, Nat.le_of_ble_eq_true rfl⟩ hK hNX hZ hP hD hS hA (List.range 52) MW_all (by decide) 0 6 rfl rfl rfl hl.1 (rest := []) (As := [.int (nI o1), .int w]) rfl (Nat.le_of_ble_eq_true rfl) dL_does_115 hlocks ht
set_option maxRecDepth 100000 in
set_option maxHeartbeats 4000000 in
theorem k_synonyms_b (l : Launch) (hst : l.stackTraces = false) (g : GG) (ad : Nat → Nat) (gm : Nat → Option Nat) (hG : GM ad gm) (σ : Stt) (hσ : SOk σ) (o1 : Nat) (w : Int32) (h1 : o1 < 32) (hbd : inR w 32 = false) (e3 e4 : Int32) : MX l yL_call wsL_call 13 g ad gm [.ref (ad 0), .int (nI 3), .int (nI o1), .int w, .int e3, .int e4] σ σ (-111) := by
  intro z hz sz
  refine ix_bodyH (Qc := fun A => va_Qi _ (iB g _) A) (cc := cL_call) (maxL := 7) (ret := (some .int)) (hh := [(0, 11, 12, 14), (0, 11, 17, 16), (0, 11, 22, 18)]) (by decide) rfl (Nat.le_of_ble_eq_true rfl) ?_ sz
  intro pg ev s0 mi below meth cd A hx hb hr hml hts hown hlocks hK hA hNX hZ htab H hP hD hS ls hl
  have hl : lv_has ls 7 [(0, .ref (ad 0)), (1, .int (nI 3)), (2, .int (nI o1)), (3, .int w), (4, .int e3), (5, .int e4)] := hl
  refine lv_aload_n hx hb dL_call_0 rfl (lv_at hl 0 rfl) ?_
  refine lv_iload_n hx hb dL_call_1 rfl (lv_at hl 1 rfl) ?_
  refine lv_iload_n hx hb dL_call_2 rfl (lv_at hl 2 rfl) ?_
  refine lv_iload_n hx hb dL_call_3 rfl (lv_at hl 3 rfl) ?_
  refine lv_iload hx hb dL_call_4 (lv_at hl 4 rfl) ?_
  refine lv_iload hx hb dL_call_6 (lv_at hl 5 rfl) ?_
  refine ix_S0 (E := eI) (k := 6) hx hb hml hown hts (dx_synonyms_b l hst g ad gm hG σ hσ o1 w h1 hbd e3 e4 z) gL_call_L_does rfl (by decide +kernel) ⟨Nat.le_of_ble_eq_true rfl, Nat.le_of_ble_eq_true rfl⟩ hK hNX hZ hP hD hS hA (List.range 52) MW_all (by decide) rfl hl.1 (rest := []) (As := [.ref (ad 0), .int (nI 3), .int (nI o1), .int w, .int e3, .int e4]) rfl (Nat.le_of_ble_eq_true rfl) dL_call_8 (fun ce q9 H locs hP hS hce hcv hcl => ?_)
  refine vx_catch (name := eI) hown [] { startPc := 0, endPc := 11, handlerPc := 12, catchType := 14 } [{ startPc := 0, endPc := 11, handlerPc := 17, catchType := 16 }, { startPc := 0, endPc := 11, handlerPc := 22, catchType := 18 }] (by rw [htab]; rfl) (fun z hz => absurd hz List.not_mem_nil) (by decide) (by decide) (hts _ (List.mem_cons_of_mem _ (List.mem_append_left _ (List.mem_append_left _ (List.mem_append_left _ (List.mem_append_left _ (List.mem_append_left _ (List.mem_append_left _ (List.mem_append_left _ (List.mem_append_left _ (List.mem_append_left _ (List.mem_append_left _ (List.mem_append_left _ (List.mem_of_getElem? (i := 0) rfl)))))))))))))) (va_Nw.use rfl hNX.2.1.1) hce hcv hcl ?_
  refine lv_astore (lv' := [(6, .ref q9), (0, .ref (ad 0)), (1, .int (nI 3)), (2, .int (nI o1)), (3, .int w), (4, .int e3), (5, .int e4)]) hx hb dL_call_12 hl (by decide) rfl (fun ls hl => ?_)
  refine lv_bipush (v := -111) hx hb dL_call_14 (by decide) ?_
  exact im_ret (w1 := MW g ad gm σ z) (v := -111) hx hb hr hlocks hP hS MW_adr ⟨rfl, z, hz, rfl⟩ dL_call_16
set_option maxRecDepth 100000 in
set_option maxHeartbeats 4000000 in
theorem dx_chain_a (l : Launch) (hst : l.stackTraces = false) (g : GG) (ad : Nat → Nat) (gm : Nat → Option Nat) (hG : GM ad gm) (σ : Stt) (hσ : SOk σ) (v w y9 : Int32) (hbd : inR v 4 = false) (e4 : Int32) : XW l yL_does wsL_does 12 g ad gm [.ref (ad 0), .int (nI 4), .int v, .int w, .int y9, .int e4] σ eA := by
  intro z sz
  refine xm_body (cc := cL_does) (maxL := 6) (ret := (some .int)) (by decide) rfl (Nat.le_of_ble_eq_true rfl) ?_ sz
  intro pg ev s0 mi below meth cd A hx hb hr hml hts hown hlocks hK hA hNX hZ ht H hP hD hS ls hl
  have hl : lv_has ls 6 [(0, .ref (ad 0)), (1, .int (nI 4)), (2, .int v), (3, .int w), (4, .int y9), (5, .int e4)] := hl
  refine lv_iload_n hx hb dL_does_0 rfl (lv_at hl 1 rfl) ?_
  refine lv_tableIn (off := 126) (tgt := 127) hx hb dL_does_1 (by decide) (by decide) (by decide) (by decide) ?_
  refine lv_aload_n hx hb dL_does_127 rfl (lv_at hl 0 rfl) ?_
  refine lv_iload_n hx hb dL_does_128 rfl (lv_at hl 2 rfl) ?_
  refine lv_iload_n hx hb dL_does_129 rfl (lv_at hl 3 rfl) ?_
  refine lv_iload hx hb dL_does_130 (lv_at hl 4 rfl) ?_
  exact xm_V (k := 3) hx hb hml hown hts (xw_chain_a l hst g ad gm hG σ hσ v w y9 hbd z) gL_does_X6_chain rfl (by decide +kernel) ⟨Nat.le_of_ble_eq_true rfl, Nat.le_of_ble_eq_true rfl⟩ hK hNX hZ hP hD hS hA (List.range 52) MW_all (by decide) 0 6 rfl rfl rfl hl.1 (rest := []) (As := [.int v, .int w, .int y9]) rfl (Nat.le_of_ble_eq_true rfl) dL_does_132 hlocks ht
set_option maxRecDepth 100000 in
set_option maxHeartbeats 4000000 in
theorem k_chain_a (l : Launch) (hst : l.stackTraces = false) (g : GG) (ad : Nat → Nat) (gm : Nat → Option Nat) (hG : GM ad gm) (σ : Stt) (hσ : SOk σ) (v w y9 : Int32) (hbd : inR v 4 = false) (e4 : Int32) : MX l yL_call wsL_call 13 g ad gm [.ref (ad 0), .int (nI 4), .int v, .int w, .int y9, .int e4] σ σ (-112) := by
  intro z hz sz
  refine ix_bodyH (Qc := fun A => va_Qi _ (iB g _) A) (cc := cL_call) (maxL := 7) (ret := (some .int)) (hh := [(0, 11, 12, 14), (0, 11, 17, 16), (0, 11, 22, 18)]) (by decide) rfl (Nat.le_of_ble_eq_true rfl) ?_ sz
  intro pg ev s0 mi below meth cd A hx hb hr hml hts hown hlocks hK hA hNX hZ htab H hP hD hS ls hl
  have hl : lv_has ls 7 [(0, .ref (ad 0)), (1, .int (nI 4)), (2, .int v), (3, .int w), (4, .int y9), (5, .int e4)] := hl
  refine lv_aload_n hx hb dL_call_0 rfl (lv_at hl 0 rfl) ?_
  refine lv_iload_n hx hb dL_call_1 rfl (lv_at hl 1 rfl) ?_
  refine lv_iload_n hx hb dL_call_2 rfl (lv_at hl 2 rfl) ?_
  refine lv_iload_n hx hb dL_call_3 rfl (lv_at hl 3 rfl) ?_
  refine lv_iload hx hb dL_call_4 (lv_at hl 4 rfl) ?_
  refine lv_iload hx hb dL_call_6 (lv_at hl 5 rfl) ?_
  refine ix_S0 (E := eA) (k := 6) hx hb hml hown hts (dx_chain_a l hst g ad gm hG σ hσ v w y9 hbd e4 z) gL_call_L_does rfl (by decide +kernel) ⟨Nat.le_of_ble_eq_true rfl, Nat.le_of_ble_eq_true rfl⟩ hK hNX hZ hP hD hS hA (List.range 52) MW_all (by decide) rfl hl.1 (rest := []) (As := [.ref (ad 0), .int (nI 4), .int v, .int w, .int y9, .int e4]) rfl (Nat.le_of_ble_eq_true rfl) dL_call_8 (fun ce q9 H locs hP hS hce hcv hcl => ?_)
  refine vx_catch (name := eA) hown [{ startPc := 0, endPc := 11, handlerPc := 12, catchType := 14 }] { startPc := 0, endPc := 11, handlerPc := 17, catchType := 16 } [{ startPc := 0, endPc := 11, handlerPc := 22, catchType := 18 }] (by rw [htab]; rfl) (List.forall_mem_cons.mpr ⟨Or.inr ⟨by decide, eI, (hts _ (List.mem_cons_of_mem _ (List.mem_append_left _ (List.mem_append_left _ (List.mem_append_left _ (List.mem_append_left _ (List.mem_append_left _ (List.mem_append_left _ (List.mem_append_left _ (List.mem_append_left _ (List.mem_append_left _ (List.mem_append_left _ (List.mem_append_left _ (List.mem_of_getElem? (i := 0) rfl)))))))))))))), hNX.2.2.1.1⟩, (fun z hz => absurd hz List.not_mem_nil)⟩) (by decide) (by decide) (hts _ (List.mem_cons_of_mem _ (List.mem_append_left _ (List.mem_append_left _ (List.mem_append_left _ (List.mem_append_left _ (List.mem_append_left _ (List.mem_append_left _ (List.mem_append_left _ (List.mem_append_left _ (List.mem_append_left _ (List.mem_append_left _ (List.mem_append_left _ (List.mem_of_getElem? (i := 1) rfl)))))))))))))) (va_Nw.use rfl hNX.2.1.2.1) hce hcv hcl ?_
  refine lv_astore (lv' := [(6, .ref q9), (0, .ref (ad 0)), (1, .int (nI 4)), (2, .int v), (3, .int w), (4, .int y9), (5, .int e4)]) hx hb dL_call_17 hl (by decide) rfl (fun ls hl => ?_)
  refine lv_bipush (v := -112) hx hb dL_call_19 (by decide) ?_
  exact im_ret (w1 := MW g ad gm σ z) (v := -112) hx hb hr hlocks hP hS MW_adr ⟨rfl, z, hz, rfl⟩ dL_call_21
set_option maxRecDepth 100000 in
set_option maxHeartbeats 4000000 in
theorem dx_chain_b (l : Launch) (hst : l.stackTraces = false) (g : GG) (ad : Nat → Nat) (gm : Nat → Option Nat) (hG : GM ad gm) (σ : Stt) (hσ : SOk σ) (f : Nat) (w y9 : Int32) (hf : f < 4) (hbd : inR w 4 = false) (e4 : Int32) : XW l yL_does wsL_does 12 g ad gm [.ref (ad 0), .int (nI 4), .int (nI f), .int w, .int y9, .int e4] σ eA := by
  intro z sz
  refine xm_body (cc := cL_does) (maxL := 6) (ret := (some .int)) (by decide) rfl (Nat.le_of_ble_eq_true rfl) ?_ sz
  intro pg ev s0 mi below meth cd A hx hb hr hml hts hown hlocks hK hA hNX hZ ht H hP hD hS ls hl
  have hl : lv_has ls 6 [(0, .ref (ad 0)), (1, .int (nI 4)), (2, .int (nI f)), (3, .int w), (4, .int y9), (5, .int e4)] := hl
  refine lv_iload_n hx hb dL_does_0 rfl (lv_at hl 1 rfl) ?_
  refine lv_tableIn (off := 126) (tgt := 127) hx hb dL_does_1 (by decide) (by decide) (by decide) (by decide) ?_
  refine lv_aload_n hx hb dL_does_127 rfl (lv_at hl 0 rfl) ?_
  refine lv_iload_n hx hb dL_does_128 rfl (lv_at hl 2 rfl) ?_
  refine lv_iload_n hx hb dL_does_129 rfl (lv_at hl 3 rfl) ?_
  refine lv_iload hx hb dL_does_130 (lv_at hl 4 rfl) ?_
  exact xm_V (k := 3) hx hb hml hown hts (xw_chain_b l hst g ad gm hG σ hσ f w y9 hf hbd z) gL_does_X6_chain rfl (by decide +kernel) ⟨Nat.le_of_ble_eq_true rfl, Nat.le_of_ble_eq_true rfl⟩ hK hNX hZ hP hD hS hA (List.range 52) MW_all (by decide) 0 6 rfl rfl rfl hl.1 (rest := []) (As := [.int (nI f), .int w, .int y9]) rfl (Nat.le_of_ble_eq_true rfl) dL_does_132 hlocks ht
set_option maxRecDepth 100000 in
set_option maxHeartbeats 4000000 in
theorem k_chain_b (l : Launch) (hst : l.stackTraces = false) (g : GG) (ad : Nat → Nat) (gm : Nat → Option Nat) (hG : GM ad gm) (σ : Stt) (hσ : SOk σ) (f : Nat) (w y9 : Int32) (hf : f < 4) (hbd : inR w 4 = false) (e4 : Int32) : MX l yL_call wsL_call 13 g ad gm [.ref (ad 0), .int (nI 4), .int (nI f), .int w, .int y9, .int e4] σ σ (-112) := by
  intro z hz sz
  refine ix_bodyH (Qc := fun A => va_Qi _ (iB g _) A) (cc := cL_call) (maxL := 7) (ret := (some .int)) (hh := [(0, 11, 12, 14), (0, 11, 17, 16), (0, 11, 22, 18)]) (by decide) rfl (Nat.le_of_ble_eq_true rfl) ?_ sz
  intro pg ev s0 mi below meth cd A hx hb hr hml hts hown hlocks hK hA hNX hZ htab H hP hD hS ls hl
  have hl : lv_has ls 7 [(0, .ref (ad 0)), (1, .int (nI 4)), (2, .int (nI f)), (3, .int w), (4, .int y9), (5, .int e4)] := hl
  refine lv_aload_n hx hb dL_call_0 rfl (lv_at hl 0 rfl) ?_
  refine lv_iload_n hx hb dL_call_1 rfl (lv_at hl 1 rfl) ?_
  refine lv_iload_n hx hb dL_call_2 rfl (lv_at hl 2 rfl) ?_
  refine lv_iload_n hx hb dL_call_3 rfl (lv_at hl 3 rfl) ?_
  refine lv_iload hx hb dL_call_4 (lv_at hl 4 rfl) ?_
  refine lv_iload hx hb dL_call_6 (lv_at hl 5 rfl) ?_
  refine ix_S0 (E := eA) (k := 6) hx hb hml hown hts (dx_chain_b l hst g ad gm hG σ hσ f w y9 hf hbd e4 z) gL_call_L_does rfl (by decide +kernel) ⟨Nat.le_of_ble_eq_true rfl, Nat.le_of_ble_eq_true rfl⟩ hK hNX hZ hP hD hS hA (List.range 52) MW_all (by decide) rfl hl.1 (rest := []) (As := [.ref (ad 0), .int (nI 4), .int (nI f), .int w, .int y9, .int e4]) rfl (Nat.le_of_ble_eq_true rfl) dL_call_8 (fun ce q9 H locs hP hS hce hcv hcl => ?_)
  refine vx_catch (name := eA) hown [{ startPc := 0, endPc := 11, handlerPc := 12, catchType := 14 }] { startPc := 0, endPc := 11, handlerPc := 17, catchType := 16 } [{ startPc := 0, endPc := 11, handlerPc := 22, catchType := 18 }] (by rw [htab]; rfl) (List.forall_mem_cons.mpr ⟨Or.inr ⟨by decide, eI, (hts _ (List.mem_cons_of_mem _ (List.mem_append_left _ (List.mem_append_left _ (List.mem_append_left _ (List.mem_append_left _ (List.mem_append_left _ (List.mem_append_left _ (List.mem_append_left _ (List.mem_append_left _ (List.mem_append_left _ (List.mem_append_left _ (List.mem_append_left _ (List.mem_of_getElem? (i := 0) rfl)))))))))))))), hNX.2.2.1.1⟩, (fun z hz => absurd hz List.not_mem_nil)⟩) (by decide) (by decide) (hts _ (List.mem_cons_of_mem _ (List.mem_append_left _ (List.mem_append_left _ (List.mem_append_left _ (List.mem_append_left _ (List.mem_append_left _ (List.mem_append_left _ (List.mem_append_left _ (List.mem_append_left _ (List.mem_append_left _ (List.mem_append_left _ (List.mem_append_left _ (List.mem_of_getElem? (i := 1) rfl)))))))))))))) (va_Nw.use rfl hNX.2.1.2.1) hce hcv hcl ?_
  refine lv_astore (lv' := [(6, .ref q9), (0, .ref (ad 0)), (1, .int (nI 4)), (2, .int (nI f)), (3, .int w), (4, .int y9), (5, .int e4)]) hx hb dL_call_17 hl (by decide) rfl (fun ls hl => ?_)
  refine lv_bipush (v := -112) hx hb dL_call_19 (by decide) ?_
  exact im_ret (w1 := MW g ad gm σ z) (v := -112) hx hb hr hlocks hP hS MW_adr ⟨rfl, z, hz, rfl⟩ dL_call_21
set_option maxRecDepth 100000 in
set_option maxHeartbeats 4000000 in
theorem dx_chain_c (l : Launch) (hst : l.stackTraces = false) (g : GG) (ad : Nat → Nat) (gm : Nat → Option Nat) (hG : GM ad gm) (σ : Stt) (hσ : SOk σ) (f t : Nat) (y9 : Int32) (hf : f < 4) (ht9 : t < 4) (hy : y9 ≠ -1) (hbd : inR y9 4 = false) (e4 : Int32) : XW l yL_does wsL_does 12 g ad gm [.ref (ad 0), .int (nI 4), .int (nI f), .int (nI t), .int y9, .int e4] σ eA := by
  intro z sz
  refine xm_body (cc := cL_does) (maxL := 6) (ret := (some .int)) (by decide) rfl (Nat.le_of_ble_eq_true rfl) ?_ sz
  intro pg ev s0 mi below meth cd A hx hb hr hml hts hown hlocks hK hA hNX hZ ht H hP hD hS ls hl
  have hl : lv_has ls 6 [(0, .ref (ad 0)), (1, .int (nI 4)), (2, .int (nI f)), (3, .int (nI t)), (4, .int y9), (5, .int e4)] := hl
  refine lv_iload_n hx hb dL_does_0 rfl (lv_at hl 1 rfl) ?_
  refine lv_tableIn (off := 126) (tgt := 127) hx hb dL_does_1 (by decide) (by decide) (by decide) (by decide) ?_
  refine lv_aload_n hx hb dL_does_127 rfl (lv_at hl 0 rfl) ?_
  refine lv_iload_n hx hb dL_does_128 rfl (lv_at hl 2 rfl) ?_
  refine lv_iload_n hx hb dL_does_129 rfl (lv_at hl 3 rfl) ?_
  refine lv_iload hx hb dL_does_130 (lv_at hl 4 rfl) ?_
  exact xm_V (k := 3) hx hb hml hown hts (xw_chain_c l hst g ad gm hG σ hσ f t y9 hf ht9 hy hbd z) gL_does_X6_chain rfl (by decide +kernel) ⟨Nat.le_of_ble_eq_true rfl, Nat.le_of_ble_eq_true rfl⟩ hK hNX hZ hP hD hS hA (List.range 52) MW_all (by decide) 0 6 rfl rfl rfl hl.1 (rest := []) (As := [.int (nI f), .int (nI t), .int y9]) rfl (Nat.le_of_ble_eq_true rfl) dL_does_132 hlocks ht
set_option maxRecDepth 100000 in
set_option maxHeartbeats 4000000 in
theorem k_chain_c (l : Launch) (hst : l.stackTraces = false) (g : GG) (ad : Nat → Nat) (gm : Nat → Option Nat) (hG : GM ad gm) (σ : Stt) (hσ : SOk σ) (f t : Nat) (y9 : Int32) (hf : f < 4) (ht9 : t < 4) (hy : y9 ≠ -1) (hbd : inR y9 4 = false) (e4 : Int32) : MX l yL_call wsL_call 13 g ad gm [.ref (ad 0), .int (nI 4), .int (nI f), .int (nI t), .int y9, .int e4] σ σ (-112) := by
  intro z hz sz
  refine ix_bodyH (Qc := fun A => va_Qi _ (iB g _) A) (cc := cL_call) (maxL := 7) (ret := (some .int)) (hh := [(0, 11, 12, 14), (0, 11, 17, 16), (0, 11, 22, 18)]) (by decide) rfl (Nat.le_of_ble_eq_true rfl) ?_ sz
  intro pg ev s0 mi below meth cd A hx hb hr hml hts hown hlocks hK hA hNX hZ htab H hP hD hS ls hl
  have hl : lv_has ls 7 [(0, .ref (ad 0)), (1, .int (nI 4)), (2, .int (nI f)), (3, .int (nI t)), (4, .int y9), (5, .int e4)] := hl
  refine lv_aload_n hx hb dL_call_0 rfl (lv_at hl 0 rfl) ?_
  refine lv_iload_n hx hb dL_call_1 rfl (lv_at hl 1 rfl) ?_
  refine lv_iload_n hx hb dL_call_2 rfl (lv_at hl 2 rfl) ?_
  refine lv_iload_n hx hb dL_call_3 rfl (lv_at hl 3 rfl) ?_
  refine lv_iload hx hb dL_call_4 (lv_at hl 4 rfl) ?_
  refine lv_iload hx hb dL_call_6 (lv_at hl 5 rfl) ?_
  refine ix_S0 (E := eA) (k := 6) hx hb hml hown hts (dx_chain_c l hst g ad gm hG σ hσ f t y9 hf ht9 hy hbd e4 z) gL_call_L_does rfl (by decide +kernel) ⟨Nat.le_of_ble_eq_true rfl, Nat.le_of_ble_eq_true rfl⟩ hK hNX hZ hP hD hS hA (List.range 52) MW_all (by decide) rfl hl.1 (rest := []) (As := [.ref (ad 0), .int (nI 4), .int (nI f), .int (nI t), .int y9, .int e4]) rfl (Nat.le_of_ble_eq_true rfl) dL_call_8 (fun ce q9 H locs hP hS hce hcv hcl => ?_)
  refine vx_catch (name := eA) hown [{ startPc := 0, endPc := 11, handlerPc := 12, catchType := 14 }] { startPc := 0, endPc := 11, handlerPc := 17, catchType := 16 } [{ startPc := 0, endPc := 11, handlerPc := 22, catchType := 18 }] (by rw [htab]; rfl) (List.forall_mem_cons.mpr ⟨Or.inr ⟨by decide, eI, (hts _ (List.mem_cons_of_mem _ (List.mem_append_left _ (List.mem_append_left _ (List.mem_append_left _ (List.mem_append_left _ (List.mem_append_left _ (List.mem_append_left _ (List.mem_append_left _ (List.mem_append_left _ (List.mem_append_left _ (List.mem_append_left _ (List.mem_append_left _ (List.mem_of_getElem? (i := 0) rfl)))))))))))))), hNX.2.2.1.1⟩, (fun z hz => absurd hz List.not_mem_nil)⟩) (by decide) (by decide) (hts _ (List.mem_cons_of_mem _ (List.mem_append_left _ (List.mem_append_left _ (List.mem_append_left _ (List.mem_append_left _ (List.mem_append_left _ (List.mem_append_left _ (List.mem_append_left _ (List.mem_append_left _ (List.mem_append_left _ (List.mem_append_left _ (List.mem_append_left _ (List.mem_of_getElem? (i := 1) rfl)))))))))))))) (va_Nw.use rfl hNX.2.1.2.1) hce hcv hcl ?_
  refine lv_astore (lv' := [(6, .ref q9), (0, .ref (ad 0)), (1, .int (nI 4)), (2, .int (nI f)), (3, .int (nI t)), (4, .int y9), (5, .int e4)]) hx hb dL_call_17 hl (by decide) rfl (fun ls hl => ?_)
  refine lv_bipush (v := -112) hx hb dL_call_19 (by decide) ?_
  exact im_ret (w1 := MW g ad gm σ z) (v := -112) hx hb hr hlocks hP hS MW_adr ⟨rfl, z, hz, rfl⟩ dL_call_21
set_option maxRecDepth 100000 in
set_option maxHeartbeats 4000000 in
theorem dx_addIdea_w (l : Launch) (hst : l.stackTraces = false) (g : GG) (ad : Nat → Nat) (gm : Nat → Option Nat) (hG : GM ad gm) (σ : Stt) (hσ : SOk σ) (k : Nat) (hk4 : k < 4) (y9 : Int32) (hbd : inR y9 32 = false) (e3 e4 : Int32) : XW l yL_does wsL_does 12 g ad gm [.ref (ad 0), .int (nI 0), .int (nI k), .int y9, .int e3, .int e4] σ eI := by
  intro z sz
  refine xm_body (cc := cL_does) (maxL := 6) (ret := (some .int)) (by decide) rfl (Nat.le_of_ble_eq_true rfl) ?_ sz
  intro pg ev s0 mi below meth cd A hx hb hr hml hts hown hlocks hK hA hNX hZ ht H hP hD hS ls hl
  have hl : lv_has ls 6 [(0, .ref (ad 0)), (1, .int (nI 0)), (2, .int (nI k)), (3, .int y9), (4, .int e3), (5, .int e4)] := hl
  refine lv_iload_n hx hb dL_does_0 rfl (lv_at hl 1 rfl) ?_
  refine lv_tableIn (off := 79) (tgt := 80) hx hb dL_does_1 (by decide) (by decide) (by decide) (by decide) ?_
  refine lv_aload_n hx hb dL_does_80 rfl (lv_at hl 0 rfl) ?_
  refine lv_iload_n hx hb dL_does_81 rfl (lv_at hl 2 rfl) ?_
  refine lv_iload_n hx hb dL_does_82 rfl (lv_at hl 3 rfl) ?_
  exact xm_V (k := 2) hx hb hml hown hts (xw_addIdea_w l hst g ad gm hG σ hσ k hk4 y9 hbd z) gL_does_X6_addIdea rfl (by decide +kernel) ⟨Nat.le_of_ble_eq_true rfl, Nat.le_of_ble_eq_true rfl⟩ hK hNX hZ hP hD hS hA (List.range 52) MW_all (by decide) 0 6 rfl rfl rfl hl.1 (rest := []) (As := [.int (nI k), .int y9]) rfl (Nat.le_of_ble_eq_true rfl) dL_does_83 hlocks ht
set_option maxRecDepth 100000 in
set_option maxHeartbeats 4000000 in
theorem k_addIdea_w (l : Launch) (hst : l.stackTraces = false) (g : GG) (ad : Nat → Nat) (gm : Nat → Option Nat) (hG : GM ad gm) (σ : Stt) (hσ : SOk σ) (k : Nat) (hk4 : k < 4) (y9 : Int32) (hbd : inR y9 32 = false) (e3 e4 : Int32) : MX l yL_call wsL_call 13 g ad gm [.ref (ad 0), .int (nI 0), .int (nI k), .int y9, .int e3, .int e4] σ σ (-111) := by
  intro z hz sz
  refine ix_bodyH (Qc := fun A => va_Qi _ (iB g _) A) (cc := cL_call) (maxL := 7) (ret := (some .int)) (hh := [(0, 11, 12, 14), (0, 11, 17, 16), (0, 11, 22, 18)]) (by decide) rfl (Nat.le_of_ble_eq_true rfl) ?_ sz
  intro pg ev s0 mi below meth cd A hx hb hr hml hts hown hlocks hK hA hNX hZ htab H hP hD hS ls hl
  have hl : lv_has ls 7 [(0, .ref (ad 0)), (1, .int (nI 0)), (2, .int (nI k)), (3, .int y9), (4, .int e3), (5, .int e4)] := hl
  refine lv_aload_n hx hb dL_call_0 rfl (lv_at hl 0 rfl) ?_
  refine lv_iload_n hx hb dL_call_1 rfl (lv_at hl 1 rfl) ?_
  refine lv_iload_n hx hb dL_call_2 rfl (lv_at hl 2 rfl) ?_
  refine lv_iload_n hx hb dL_call_3 rfl (lv_at hl 3 rfl) ?_
  refine lv_iload hx hb dL_call_4 (lv_at hl 4 rfl) ?_
  refine lv_iload hx hb dL_call_6 (lv_at hl 5 rfl) ?_
  refine ix_S0 (E := eI) (k := 6) hx hb hml hown hts (dx_addIdea_w l hst g ad gm hG σ hσ k hk4 y9 hbd e3 e4 z) gL_call_L_does rfl (by decide +kernel) ⟨Nat.le_of_ble_eq_true rfl, Nat.le_of_ble_eq_true rfl⟩ hK hNX hZ hP hD hS hA (List.range 52) MW_all (by decide) rfl hl.1 (rest := []) (As := [.ref (ad 0), .int (nI 0), .int (nI k), .int y9, .int e3, .int e4]) rfl (Nat.le_of_ble_eq_true rfl) dL_call_8 (fun ce q9 H locs hP hS hce hcv hcl => ?_)
  refine vx_catch (name := eI) hown [] { startPc := 0, endPc := 11, handlerPc := 12, catchType := 14 } [{ startPc := 0, endPc := 11, handlerPc := 17, catchType := 16 }, { startPc := 0, endPc := 11, handlerPc := 22, catchType := 18 }] (by rw [htab]; rfl) (fun z hz => absurd hz List.not_mem_nil) (by decide) (by decide) (hts _ (List.mem_cons_of_mem _ (List.mem_append_left _ (List.mem_append_left _ (List.mem_append_left _ (List.mem_append_left _ (List.mem_append_left _ (List.mem_append_left _ (List.mem_append_left _ (List.mem_append_left _ (List.mem_append_left _ (List.mem_append_left _ (List.mem_append_left _ (List.mem_of_getElem? (i := 0) rfl)))))))))))))) (va_Nw.use rfl hNX.2.1.1) hce hcv hcl ?_
  refine lv_astore (lv' := [(6, .ref q9), (0, .ref (ad 0)), (1, .int (nI 0)), (2, .int (nI k)), (3, .int y9), (4, .int e3), (5, .int e4)]) hx hb dL_call_12 hl (by decide) rfl (fun ls hl => ?_)
  refine lv_bipush (v := -111) hx hb dL_call_14 (by decide) ?_
  exact im_ret (w1 := MW g ad gm σ z) (v := -111) hx hb hr hlocks hP hS MW_adr ⟨rfl, z, hz, rfl⟩ dL_call_16
set_option maxRecDepth 100000 in
set_option maxHeartbeats 4000000 in
theorem dx_addIdea_full (l : Launch) (hst : l.stackTraces = false) (g : GG) (ad : Nat → Nat) (gm : Nat → Option Nat) (hG : GM ad gm) (σ : Stt) (hσ : SOk σ) (k : Nat) (hk4 : k < 4) (w : Nat) (hw9 : w < 32) (hfl : s_n σ k = 5) (e3 e4 : Int32) : XW l yL_does wsL_does 12 g ad gm [.ref (ad 0), .int (nI 0), .int (nI k), .int (nI w), .int e3, .int e4] σ eS := by
  intro z sz
  refine xm_body (cc := cL_does) (maxL := 6) (ret := (some .int)) (by decide) rfl (Nat.le_of_ble_eq_true rfl) ?_ sz
  intro pg ev s0 mi below meth cd A hx hb hr hml hts hown hlocks hK hA hNX hZ ht H hP hD hS ls hl
  have hl : lv_has ls 6 [(0, .ref (ad 0)), (1, .int (nI 0)), (2, .int (nI k)), (3, .int (nI w)), (4, .int e3), (5, .int e4)] := hl
  refine lv_iload_n hx hb dL_does_0 rfl (lv_at hl 1 rfl) ?_
  refine lv_tableIn (off := 79) (tgt := 80) hx hb dL_does_1 (by decide) (by decide) (by decide) (by decide) ?_
  refine lv_aload_n hx hb dL_does_80 rfl (lv_at hl 0 rfl) ?_
  refine lv_iload_n hx hb dL_does_81 rfl (lv_at hl 2 rfl) ?_
  refine lv_iload_n hx hb dL_does_82 rfl (lv_at hl 3 rfl) ?_
  exact xm_V (k := 2) hx hb hml hown hts (xw_addIdea_full l hst g ad gm hG σ hσ k hk4 w hw9 hfl z) gL_does_X6_addIdea rfl (by decide +kernel) ⟨Nat.le_of_ble_eq_true rfl, Nat.le_of_ble_eq_true rfl⟩ hK hNX hZ hP hD hS hA (List.range 52) MW_all (by decide) 0 6 rfl rfl rfl hl.1 (rest := []) (As := [.int (nI k), .int (nI w)]) rfl (Nat.le_of_ble_eq_true rfl) dL_does_83 hlocks ht
set_option maxRecDepth 100000 in
set_option maxHeartbeats 4000000 in
theorem k_addIdea_full (l : Launch) (hst : l.stackTraces = false) (g : GG) (ad : Nat → Nat) (gm : Nat → Option Nat) (hG : GM ad gm) (σ : Stt) (hσ : SOk σ) (k : Nat) (hk4 : k < 4) (w : Nat) (hw9 : w < 32) (hfl : s_n σ k = 5) (e3 e4 : Int32) : MX l yL_call wsL_call 13 g ad gm [.ref (ad 0), .int (nI 0), .int (nI k), .int (nI w), .int e3, .int e4] σ σ (-113) := by
  intro z hz sz
  refine ix_bodyH (Qc := fun A => va_Qi _ (iB g _) A) (cc := cL_call) (maxL := 7) (ret := (some .int)) (hh := [(0, 11, 12, 14), (0, 11, 17, 16), (0, 11, 22, 18)]) (by decide) rfl (Nat.le_of_ble_eq_true rfl) ?_ sz
  intro pg ev s0 mi below meth cd A hx hb hr hml hts hown hlocks hK hA hNX hZ htab H hP hD hS ls hl
  have hl : lv_has ls 7 [(0, .ref (ad 0)), (1, .int (nI 0)), (2, .int (nI k)), (3, .int (nI w)), (4, .int e3), (5, .int e4)] := hl
  refine lv_aload_n hx hb dL_call_0 rfl (lv_at hl 0 rfl) ?_
  refine lv_iload_n hx hb dL_call_1 rfl (lv_at hl 1 rfl) ?_
  refine lv_iload_n hx hb dL_call_2 rfl (lv_at hl 2 rfl) ?_
  refine lv_iload_n hx hb dL_call_3 rfl (lv_at hl 3 rfl) ?_
  refine lv_iload hx hb dL_call_4 (lv_at hl 4 rfl) ?_
  refine lv_iload hx hb dL_call_6 (lv_at hl 5 rfl) ?_
  refine ix_S0 (E := eS) (k := 6) hx hb hml hown hts (dx_addIdea_full l hst g ad gm hG σ hσ k hk4 w hw9 hfl e3 e4 z) gL_call_L_does rfl (by decide +kernel) ⟨Nat.le_of_ble_eq_true rfl, Nat.le_of_ble_eq_true rfl⟩ hK hNX hZ hP hD hS hA (List.range 52) MW_all (by decide) rfl hl.1 (rest := []) (As := [.ref (ad 0), .int (nI 0), .int (nI k), .int (nI w), .int e3, .int e4]) rfl (Nat.le_of_ble_eq_true rfl) dL_call_8 (fun ce q9 H locs hP hS hce hcv hcl => ?_)
  refine vx_catch (name := eS) hown [{ startPc := 0, endPc := 11, handlerPc := 12, catchType := 14 }, { startPc := 0, endPc := 11, handlerPc := 17, catchType := 16 }] { startPc := 0, endPc := 11, handlerPc := 22, catchType := 18 } [] (by rw [htab]; rfl) (List.forall_mem_cons.mpr ⟨Or.inr ⟨by decide, eI, (hts _ (List.mem_cons_of_mem _ (List.mem_append_left _ (List.mem_append_left _ (List.mem_append_left _ (List.mem_append_left _ (List.mem_append_left _ (List.mem_append_left _ (List.mem_append_left _ (List.mem_append_left _ (List.mem_append_left _ (List.mem_append_left _ (List.mem_append_left _ (List.mem_of_getElem? (i := 0) rfl)))))))))))))), hNX.2.2.1.2.1⟩, (List.forall_mem_cons.mpr ⟨Or.inr ⟨by decide, eA, (hts _ (List.mem_cons_of_mem _ (List.mem_append_left _ (List.mem_append_left _ (List.mem_append_left _ (List.mem_append_left _ (List.mem_append_left _ (List.mem_append_left _ (List.mem_append_left _ (List.mem_append_left _ (List.mem_append_left _ (List.mem_append_left _ (List.mem_append_left _ (List.mem_of_getElem? (i := 1) rfl)))))))))))))), hNX.2.2.1.2.2⟩, (fun z hz => absurd hz List.not_mem_nil)⟩)⟩) (by decide) (by decide) (hts _ (List.mem_cons_of_mem _ (List.mem_append_left _ (List.mem_append_left _ (List.mem_append_left _ (List.mem_append_left _ (List.mem_append_left _ (List.mem_append_left _ (List.mem_append_left _ (List.mem_append_left _ (List.mem_append_left _ (List.mem_append_left _ (List.mem_append_left _ (List.mem_of_getElem? (i := 2) rfl)))))))))))))) (va_Nw.use rfl hNX.2.1.2.2) hce hcv hcl ?_
  refine lv_astore (lv' := [(6, .ref q9), (0, .ref (ad 0)), (1, .int (nI 0)), (2, .int (nI k)), (3, .int (nI w)), (4, .int e3), (5, .int e4)]) hx hb dL_call_22 hl (by decide) rfl (fun ls hl => ?_)
  refine lv_bipush (v := -113) hx hb dL_call_24 (by decide) ?_
  exact im_ret (w1 := MW g ad gm σ z) (v := -113) hx hb hr hlocks hP hS MW_adr ⟨rfl, z, hz, rfl⟩ dL_call_26
set_option maxRecDepth 100000 in
set_option maxHeartbeats 4000000 in
theorem dx_link_1 (l : Launch) (hst : l.stackTraces = false) (g : GG) (ad : Nat → Nat) (gm : Nat → Option Nat) (hG : GM ad gm) (σ : Stt) (hσ : SOk σ) (k : Nat) (hk4 : k < 4) (a1 b1 d1 : Int32) (hr9 : lkB2 (s_n σ k) a1 b1 d1 = 1) : XW l yL_does wsL_does 12 g ad gm [.ref (ad 0), .int (nI 1), .int (nI k), .int a1, .int b1, .int d1] σ eI := by
  intro z sz
  refine xm_body (cc := cL_does) (maxL := 6) (ret := (some .int)) (by decide) rfl (Nat.le_of_ble_eq_true rfl) ?_ sz
  intro pg ev s0 mi below meth cd A hx hb hr hml hts hown hlocks hK hA hNX hZ ht H hP hD hS ls hl
  have hl : lv_has ls 6 [(0, .ref (ad 0)), (1, .int (nI 1)), (2, .int (nI k)), (3, .int a1), (4, .int b1), (5, .int d1)] := hl
  refine lv_iload_n hx hb dL_does_0 rfl (lv_at hl 1 rfl) ?_
  refine lv_tableIn (off := 86) (tgt := 87) hx hb dL_does_1 (by decide) (by decide) (by decide) (by decide) ?_
  refine lv_aload_n hx hb dL_does_87 rfl (lv_at hl 0 rfl) ?_
  refine lv_iload_n hx hb dL_does_88 rfl (lv_at hl 2 rfl) ?_
  refine lv_iload_n hx hb dL_does_89 rfl (lv_at hl 3 rfl) ?_
  refine lv_iload hx hb dL_does_90 (lv_at hl 4 rfl) ?_
  refine lv_iload hx hb dL_does_92 (lv_at hl 5 rfl) ?_
  exact xm_V (k := 4) hx hb hml hown hts (xw_link_1 l hst g ad gm hG σ hσ k hk4 a1 b1 d1 hr9 z) gL_does_X6_link rfl (by decide +kernel) ⟨Nat.le_of_ble_eq_true rfl, Nat.le_of_ble_eq_true rfl⟩ hK hNX hZ hP hD hS hA (List.range 52) MW_all (by decide) 0 6 rfl rfl rfl hl.1 (rest := []) (As := [.int (nI k), .int a1, .int b1, .int d1]) rfl (Nat.le_of_ble_eq_true rfl) dL_does_94 hlocks ht
set_option maxRecDepth 100000 in
set_option maxHeartbeats 4000000 in
theorem k_link_1 (l : Launch) (hst : l.stackTraces = false) (g : GG) (ad : Nat → Nat) (gm : Nat → Option Nat) (hG : GM ad gm) (σ : Stt) (hσ : SOk σ) (k : Nat) (hk4 : k < 4) (a1 b1 d1 : Int32) (hr9 : lkB2 (s_n σ k) a1 b1 d1 = 1) : MX l yL_call wsL_call 13 g ad gm [.ref (ad 0), .int (nI 1), .int (nI k), .int a1, .int b1, .int d1] σ σ (-111) := by
  intro z hz sz
  refine ix_bodyH (Qc := fun A => va_Qi _ (iB g _) A) (cc := cL_call) (maxL := 7) (ret := (some .int)) (hh := [(0, 11, 12, 14), (0, 11, 17, 16), (0, 11, 22, 18)]) (by decide) rfl (Nat.le_of_ble_eq_true rfl) ?_ sz
  intro pg ev s0 mi below meth cd A hx hb hr hml hts hown hlocks hK hA hNX hZ htab H hP hD hS ls hl
  have hl : lv_has ls 7 [(0, .ref (ad 0)), (1, .int (nI 1)), (2, .int (nI k)), (3, .int a1), (4, .int b1), (5, .int d1)] := hl
  refine lv_aload_n hx hb dL_call_0 rfl (lv_at hl 0 rfl) ?_
  refine lv_iload_n hx hb dL_call_1 rfl (lv_at hl 1 rfl) ?_
  refine lv_iload_n hx hb dL_call_2 rfl (lv_at hl 2 rfl) ?_
  refine lv_iload_n hx hb dL_call_3 rfl (lv_at hl 3 rfl) ?_
  refine lv_iload hx hb dL_call_4 (lv_at hl 4 rfl) ?_
  refine lv_iload hx hb dL_call_6 (lv_at hl 5 rfl) ?_
  refine ix_S0 (E := eI) (k := 6) hx hb hml hown hts (dx_link_1 l hst g ad gm hG σ hσ k hk4 a1 b1 d1 hr9  z) gL_call_L_does rfl (by decide +kernel) ⟨Nat.le_of_ble_eq_true rfl, Nat.le_of_ble_eq_true rfl⟩ hK hNX hZ hP hD hS hA (List.range 52) MW_all (by decide) rfl hl.1 (rest := []) (As := [.ref (ad 0), .int (nI 1), .int (nI k), .int a1, .int b1, .int d1]) rfl (Nat.le_of_ble_eq_true rfl) dL_call_8 (fun ce q9 H locs hP hS hce hcv hcl => ?_)
  refine vx_catch (name := eI) hown [] { startPc := 0, endPc := 11, handlerPc := 12, catchType := 14 } [{ startPc := 0, endPc := 11, handlerPc := 17, catchType := 16 }, { startPc := 0, endPc := 11, handlerPc := 22, catchType := 18 }] (by rw [htab]; rfl) (fun z hz => absurd hz List.not_mem_nil) (by decide) (by decide) (hts _ (List.mem_cons_of_mem _ (List.mem_append_left _ (List.mem_append_left _ (List.mem_append_left _ (List.mem_append_left _ (List.mem_append_left _ (List.mem_append_left _ (List.mem_append_left _ (List.mem_append_left _ (List.mem_append_left _ (List.mem_append_left _ (List.mem_append_left _ (List.mem_of_getElem? (i := 0) rfl)))))))))))))) (va_Nw.use rfl hNX.2.1.1) hce hcv hcl ?_
  refine lv_astore (lv' := [(6, .ref q9), (0, .ref (ad 0)), (1, .int (nI 1)), (2, .int (nI k)), (3, .int a1), (4, .int b1), (5, .int d1)]) hx hb dL_call_12 hl (by decide) rfl (fun ls hl => ?_)
  refine lv_bipush (v := -111) hx hb dL_call_14 (by decide) ?_
  exact im_ret (w1 := MW g ad gm σ z) (v := -111) hx hb hr hlocks hP hS MW_adr ⟨rfl, z, hz, rfl⟩ dL_call_16
set_option maxRecDepth 100000 in
set_option maxHeartbeats 4000000 in
theorem dx_link_2 (l : Launch) (hst : l.stackTraces = false) (g : GG) (ad : Nat → Nat) (gm : Nat → Option Nat) (hG : GM ad gm) (σ : Stt) (hσ : SOk σ) (k : Nat) (hk4 : k < 4) (a1 b1 d1 : Int32) (hr9 : lkB2 (s_n σ k) a1 b1 d1 = 2) : XW l yL_does wsL_does 12 g ad gm [.ref (ad 0), .int (nI 1), .int (nI k), .int a1, .int b1, .int d1] σ eA := by
  intro z sz
  refine xm_body (cc := cL_does) (maxL := 6) (ret := (some .int)) (by decide) rfl (Nat.le_of_ble_eq_true rfl) ?_ sz
  intro pg ev s0 mi below meth cd A hx hb hr hml hts hown hlocks hK hA hNX hZ ht H hP hD hS ls hl
  have hl : lv_has ls 6 [(0, .ref (ad 0)), (1, .int (nI 1)), (2, .int (nI k)), (3, .int a1), (4, .int b1), (5, .int d1)] := hl
  refine lv_iload_n hx hb dL_does_0 rfl (lv_at hl 1 rfl) ?_
  refine lv_tableIn (off := 86) (tgt := 87) hx hb dL_does_1 (by decide) (by decide) (by decide) (by decide) ?_
  refine lv_aload_n hx hb dL_does_87 rfl (lv_at hl 0 rfl) ?_
  refine lv_iload_n hx hb dL_does_88 rfl (lv_at hl 2 rfl) ?_
  refine lv_iload_n hx hb dL_does_89 rfl (lv_at hl 3 rfl) ?_
  refine lv_iload hx hb dL_does_90 (lv_at hl 4 rfl) ?_
  refine lv_iload hx hb dL_does_92 (lv_at hl 5 rfl) ?_
  exact xm_V (k := 4) hx hb hml hown hts (xw_link_2 l hst g ad gm hG σ hσ k hk4 a1 b1 d1 hr9 z) gL_does_X6_link rfl (by decide +kernel) ⟨Nat.le_of_ble_eq_true rfl, Nat.le_of_ble_eq_true rfl⟩ hK hNX hZ hP hD hS hA (List.range 52) MW_all (by decide) 0 6 rfl rfl rfl hl.1 (rest := []) (As := [.int (nI k), .int a1, .int b1, .int d1]) rfl (Nat.le_of_ble_eq_true rfl) dL_does_94 hlocks ht
set_option maxRecDepth 100000 in
set_option maxHeartbeats 4000000 in
theorem k_link_2 (l : Launch) (hst : l.stackTraces = false) (g : GG) (ad : Nat → Nat) (gm : Nat → Option Nat) (hG : GM ad gm) (σ : Stt) (hσ : SOk σ) (k : Nat) (hk4 : k < 4) (a1 b1 d1 : Int32) (hr9 : lkB2 (s_n σ k) a1 b1 d1 = 2) : MX l yL_call wsL_call 13 g ad gm [.ref (ad 0), .int (nI 1), .int (nI k), .int a1, .int b1, .int d1] σ σ (-112) := by
  intro z hz sz
  refine ix_bodyH (Qc := fun A => va_Qi _ (iB g _) A) (cc := cL_call) (maxL := 7) (ret := (some .int)) (hh := [(0, 11, 12, 14), (0, 11, 17, 16), (0, 11, 22, 18)]) (by decide) rfl (Nat.le_of_ble_eq_true rfl) ?_ sz
  intro pg ev s0 mi below meth cd A hx hb hr hml hts hown hlocks hK hA hNX hZ htab H hP hD hS ls hl
  have hl : lv_has ls 7 [(0, .ref (ad 0)), (1, .int (nI 1)), (2, .int (nI k)), (3, .int a1), (4, .int b1), (5, .int d1)] := hl
  refine lv_aload_n hx hb dL_call_0 rfl (lv_at hl 0 rfl) ?_
  refine lv_iload_n hx hb dL_call_1 rfl (lv_at hl 1 rfl) ?_
  refine lv_iload_n hx hb dL_call_2 rfl (lv_at hl 2 rfl) ?_
  refine lv_iload_n hx hb dL_call_3 rfl (lv_at hl 3 rfl) ?_
  refine lv_iload hx hb dL_call_4 (lv_at hl 4 rfl) ?_
  refine lv_iload hx hb dL_call_6 (lv_at hl 5 rfl) ?_
  refine ix_S0 (E := eA) (k := 6) hx hb hml hown hts (dx_link_2 l hst g ad gm hG σ hσ k hk4 a1 b1 d1 hr9  z) gL_call_L_does rfl (by decide +kernel) ⟨Nat.le_of_ble_eq_true rfl, Nat.le_of_ble_eq_true rfl⟩ hK hNX hZ hP hD hS hA (List.range 52) MW_all (by decide) rfl hl.1 (rest := []) (As := [.ref (ad 0), .int (nI 1), .int (nI k), .int a1, .int b1, .int d1]) rfl (Nat.le_of_ble_eq_true rfl) dL_call_8 (fun ce q9 H locs hP hS hce hcv hcl => ?_)
  refine vx_catch (name := eA) hown [{ startPc := 0, endPc := 11, handlerPc := 12, catchType := 14 }] { startPc := 0, endPc := 11, handlerPc := 17, catchType := 16 } [{ startPc := 0, endPc := 11, handlerPc := 22, catchType := 18 }] (by rw [htab]; rfl) (List.forall_mem_cons.mpr ⟨Or.inr ⟨by decide, eI, (hts _ (List.mem_cons_of_mem _ (List.mem_append_left _ (List.mem_append_left _ (List.mem_append_left _ (List.mem_append_left _ (List.mem_append_left _ (List.mem_append_left _ (List.mem_append_left _ (List.mem_append_left _ (List.mem_append_left _ (List.mem_append_left _ (List.mem_append_left _ (List.mem_of_getElem? (i := 0) rfl)))))))))))))), hNX.2.2.1.1⟩, (fun z hz => absurd hz List.not_mem_nil)⟩) (by decide) (by decide) (hts _ (List.mem_cons_of_mem _ (List.mem_append_left _ (List.mem_append_left _ (List.mem_append_left _ (List.mem_append_left _ (List.mem_append_left _ (List.mem_append_left _ (List.mem_append_left _ (List.mem_append_left _ (List.mem_append_left _ (List.mem_append_left _ (List.mem_append_left _ (List.mem_of_getElem? (i := 1) rfl)))))))))))))) (va_Nw.use rfl hNX.2.1.2.1) hce hcv hcl ?_
  refine lv_astore (lv' := [(6, .ref q9), (0, .ref (ad 0)), (1, .int (nI 1)), (2, .int (nI k)), (3, .int a1), (4, .int b1), (5, .int d1)]) hx hb dL_call_17 hl (by decide) rfl (fun ls hl => ?_)
  refine lv_bipush (v := -112) hx hb dL_call_19 (by decide) ?_
  exact im_ret (w1 := MW g ad gm σ z) (v := -112) hx hb hr hlocks hP hS MW_adr ⟨rfl, z, hz, rfl⟩ dL_call_21
set_option maxRecDepth 100000 in
set_option maxHeartbeats 4000000 in
theorem dx_holds_1 (l : Launch) (hst : l.stackTraces = false) (g : GG) (ad : Nat → Nat) (gm : Nat → Option Nat) (hG : GM ad gm) (σ : Stt) (hσ : SOk σ) (k : Nat) (hk4 : k < 4) (a1 b1 d1 : Int32) (hr9 : lkB2 (s_n σ k) a1 b1 d1 = 1) : XW l yL_does wsL_does 12 g ad gm [.ref (ad 0), .int (nI 8), .int (nI k), .int a1, .int b1, .int d1] σ eI := by
  intro z sz
  refine xm_body (cc := cL_does) (maxL := 6) (ret := (some .int)) (by decide) rfl (Nat.le_of_ble_eq_true rfl) ?_ sz
  intro pg ev s0 mi below meth cd A hx hb hr hml hts hown hlocks hK hA hNX hZ ht H hP hD hS ls hl
  have hl : lv_has ls 6 [(0, .ref (ad 0)), (1, .int (nI 8)), (2, .int (nI k)), (3, .int a1), (4, .int b1), (5, .int d1)] := hl
  refine lv_iload_n hx hb dL_does_0 rfl (lv_at hl 1 rfl) ?_
  refine lv_tableIn (off := 153) (tgt := 154) hx hb dL_does_1 (by decide) (by decide) (by decide) (by decide) ?_
  refine lv_aload_n hx hb dL_does_154 rfl (lv_at hl 0 rfl) ?_
  refine lv_iload_n hx hb dL_does_155 rfl (lv_at hl 2 rfl) ?_
  refine lv_iload_n hx hb dL_does_156 rfl (lv_at hl 3 rfl) ?_
  refine lv_iload hx hb dL_does_157 (lv_at hl 4 rfl) ?_
  refine lv_iload hx hb dL_does_159 (lv_at hl 5 rfl) ?_
  exact xm_V (k := 4) hx hb hml hown hts (xw_holds_1 l hst g ad gm hG σ hσ k hk4 a1 b1 d1 hr9 z) gL_does_X6_holds rfl (by decide +kernel) ⟨Nat.le_of_ble_eq_true rfl, Nat.le_of_ble_eq_true rfl⟩ hK hNX hZ hP hD hS hA (List.range 52) MW_all (by decide) 0 6 rfl rfl rfl hl.1 (rest := []) (As := [.int (nI k), .int a1, .int b1, .int d1]) rfl (Nat.le_of_ble_eq_true rfl) dL_does_161 hlocks ht
set_option maxRecDepth 100000 in
set_option maxHeartbeats 4000000 in
theorem k_holds_1 (l : Launch) (hst : l.stackTraces = false) (g : GG) (ad : Nat → Nat) (gm : Nat → Option Nat) (hG : GM ad gm) (σ : Stt) (hσ : SOk σ) (k : Nat) (hk4 : k < 4) (a1 b1 d1 : Int32) (hr9 : lkB2 (s_n σ k) a1 b1 d1 = 1) : MX l yL_call wsL_call 13 g ad gm [.ref (ad 0), .int (nI 8), .int (nI k), .int a1, .int b1, .int d1] σ σ (-111) := by
  intro z hz sz
  refine ix_bodyH (Qc := fun A => va_Qi _ (iB g _) A) (cc := cL_call) (maxL := 7) (ret := (some .int)) (hh := [(0, 11, 12, 14), (0, 11, 17, 16), (0, 11, 22, 18)]) (by decide) rfl (Nat.le_of_ble_eq_true rfl) ?_ sz
  intro pg ev s0 mi below meth cd A hx hb hr hml hts hown hlocks hK hA hNX hZ htab H hP hD hS ls hl
  have hl : lv_has ls 7 [(0, .ref (ad 0)), (1, .int (nI 8)), (2, .int (nI k)), (3, .int a1), (4, .int b1), (5, .int d1)] := hl
  refine lv_aload_n hx hb dL_call_0 rfl (lv_at hl 0 rfl) ?_
  refine lv_iload_n hx hb dL_call_1 rfl (lv_at hl 1 rfl) ?_
  refine lv_iload_n hx hb dL_call_2 rfl (lv_at hl 2 rfl) ?_
  refine lv_iload_n hx hb dL_call_3 rfl (lv_at hl 3 rfl) ?_
  refine lv_iload hx hb dL_call_4 (lv_at hl 4 rfl) ?_
  refine lv_iload hx hb dL_call_6 (lv_at hl 5 rfl) ?_
  refine ix_S0 (E := eI) (k := 6) hx hb hml hown hts (dx_holds_1 l hst g ad gm hG σ hσ k hk4 a1 b1 d1 hr9  z) gL_call_L_does rfl (by decide +kernel) ⟨Nat.le_of_ble_eq_true rfl, Nat.le_of_ble_eq_true rfl⟩ hK hNX hZ hP hD hS hA (List.range 52) MW_all (by decide) rfl hl.1 (rest := []) (As := [.ref (ad 0), .int (nI 8), .int (nI k), .int a1, .int b1, .int d1]) rfl (Nat.le_of_ble_eq_true rfl) dL_call_8 (fun ce q9 H locs hP hS hce hcv hcl => ?_)
  refine vx_catch (name := eI) hown [] { startPc := 0, endPc := 11, handlerPc := 12, catchType := 14 } [{ startPc := 0, endPc := 11, handlerPc := 17, catchType := 16 }, { startPc := 0, endPc := 11, handlerPc := 22, catchType := 18 }] (by rw [htab]; rfl) (fun z hz => absurd hz List.not_mem_nil) (by decide) (by decide) (hts _ (List.mem_cons_of_mem _ (List.mem_append_left _ (List.mem_append_left _ (List.mem_append_left _ (List.mem_append_left _ (List.mem_append_left _ (List.mem_append_left _ (List.mem_append_left _ (List.mem_append_left _ (List.mem_append_left _ (List.mem_append_left _ (List.mem_append_left _ (List.mem_of_getElem? (i := 0) rfl)))))))))))))) (va_Nw.use rfl hNX.2.1.1) hce hcv hcl ?_
  refine lv_astore (lv' := [(6, .ref q9), (0, .ref (ad 0)), (1, .int (nI 8)), (2, .int (nI k)), (3, .int a1), (4, .int b1), (5, .int d1)]) hx hb dL_call_12 hl (by decide) rfl (fun ls hl => ?_)
  refine lv_bipush (v := -111) hx hb dL_call_14 (by decide) ?_
  exact im_ret (w1 := MW g ad gm σ z) (v := -111) hx hb hr hlocks hP hS MW_adr ⟨rfl, z, hz, rfl⟩ dL_call_16
set_option maxRecDepth 100000 in
set_option maxHeartbeats 4000000 in
theorem dx_holds_2 (l : Launch) (hst : l.stackTraces = false) (g : GG) (ad : Nat → Nat) (gm : Nat → Option Nat) (hG : GM ad gm) (σ : Stt) (hσ : SOk σ) (k : Nat) (hk4 : k < 4) (a1 b1 d1 : Int32) (hr9 : lkB2 (s_n σ k) a1 b1 d1 = 2) : XW l yL_does wsL_does 12 g ad gm [.ref (ad 0), .int (nI 8), .int (nI k), .int a1, .int b1, .int d1] σ eA := by
  intro z sz
  refine xm_body (cc := cL_does) (maxL := 6) (ret := (some .int)) (by decide) rfl (Nat.le_of_ble_eq_true rfl) ?_ sz
  intro pg ev s0 mi below meth cd A hx hb hr hml hts hown hlocks hK hA hNX hZ ht H hP hD hS ls hl
  have hl : lv_has ls 6 [(0, .ref (ad 0)), (1, .int (nI 8)), (2, .int (nI k)), (3, .int a1), (4, .int b1), (5, .int d1)] := hl
  refine lv_iload_n hx hb dL_does_0 rfl (lv_at hl 1 rfl) ?_
  refine lv_tableIn (off := 153) (tgt := 154) hx hb dL_does_1 (by decide) (by decide) (by decide) (by decide) ?_
  refine lv_aload_n hx hb dL_does_154 rfl (lv_at hl 0 rfl) ?_
  refine lv_iload_n hx hb dL_does_155 rfl (lv_at hl 2 rfl) ?_
  refine lv_iload_n hx hb dL_does_156 rfl (lv_at hl 3 rfl) ?_
  refine lv_iload hx hb dL_does_157 (lv_at hl 4 rfl) ?_
  refine lv_iload hx hb dL_does_159 (lv_at hl 5 rfl) ?_
  exact xm_V (k := 4) hx hb hml hown hts (xw_holds_2 l hst g ad gm hG σ hσ k hk4 a1 b1 d1 hr9 z) gL_does_X6_holds rfl (by decide +kernel) ⟨Nat.le_of_ble_eq_true rfl, Nat.le_of_ble_eq_true rfl⟩ hK hNX hZ hP hD hS hA (List.range 52) MW_all (by decide) 0 6 rfl rfl rfl hl.1 (rest := []) (As := [.int (nI k), .int a1, .int b1, .int d1]) rfl (Nat.le_of_ble_eq_true rfl) dL_does_161 hlocks ht
set_option maxRecDepth 100000 in
set_option maxHeartbeats 4000000 in
theorem k_holds_2 (l : Launch) (hst : l.stackTraces = false) (g : GG) (ad : Nat → Nat) (gm : Nat → Option Nat) (hG : GM ad gm) (σ : Stt) (hσ : SOk σ) (k : Nat) (hk4 : k < 4) (a1 b1 d1 : Int32) (hr9 : lkB2 (s_n σ k) a1 b1 d1 = 2) : MX l yL_call wsL_call 13 g ad gm [.ref (ad 0), .int (nI 8), .int (nI k), .int a1, .int b1, .int d1] σ σ (-112) := by
  intro z hz sz
  refine ix_bodyH (Qc := fun A => va_Qi _ (iB g _) A) (cc := cL_call) (maxL := 7) (ret := (some .int)) (hh := [(0, 11, 12, 14), (0, 11, 17, 16), (0, 11, 22, 18)]) (by decide) rfl (Nat.le_of_ble_eq_true rfl) ?_ sz
  intro pg ev s0 mi below meth cd A hx hb hr hml hts hown hlocks hK hA hNX hZ htab H hP hD hS ls hl
  have hl : lv_has ls 7 [(0, .ref (ad 0)), (1, .int (nI 8)), (2, .int (nI k)), (3, .int a1), (4, .int b1), (5, .int d1)] := hl
  refine lv_aload_n hx hb dL_call_0 rfl (lv_at hl 0 rfl) ?_
  refine lv_iload_n hx hb dL_call_1 rfl (lv_at hl 1 rfl) ?_
  refine lv_iload_n hx hb dL_call_2 rfl (lv_at hl 2 rfl) ?_
  refine lv_iload_n hx hb dL_call_3 rfl (lv_at hl 3 rfl) ?_
  refine lv_iload hx hb dL_call_4 (lv_at hl 4 rfl) ?_
  refine lv_iload hx hb dL_call_6 (lv_at hl 5 rfl) ?_
  refine ix_S0 (E := eA) (k := 6) hx hb hml hown hts (dx_holds_2 l hst g ad gm hG σ hσ k hk4 a1 b1 d1 hr9  z) gL_call_L_does rfl (by decide +kernel) ⟨Nat.le_of_ble_eq_true rfl, Nat.le_of_ble_eq_true rfl⟩ hK hNX hZ hP hD hS hA (List.range 52) MW_all (by decide) rfl hl.1 (rest := []) (As := [.ref (ad 0), .int (nI 8), .int (nI k), .int a1, .int b1, .int d1]) rfl (Nat.le_of_ble_eq_true rfl) dL_call_8 (fun ce q9 H locs hP hS hce hcv hcl => ?_)
  refine vx_catch (name := eA) hown [{ startPc := 0, endPc := 11, handlerPc := 12, catchType := 14 }] { startPc := 0, endPc := 11, handlerPc := 17, catchType := 16 } [{ startPc := 0, endPc := 11, handlerPc := 22, catchType := 18 }] (by rw [htab]; rfl) (List.forall_mem_cons.mpr ⟨Or.inr ⟨by decide, eI, (hts _ (List.mem_cons_of_mem _ (List.mem_append_left _ (List.mem_append_left _ (List.mem_append_left _ (List.mem_append_left _ (List.mem_append_left _ (List.mem_append_left _ (List.mem_append_left _ (List.mem_append_left _ (List.mem_append_left _ (List.mem_append_left _ (List.mem_append_left _ (List.mem_of_getElem? (i := 0) rfl)))))))))))))), hNX.2.2.1.1⟩, (fun z hz => absurd hz List.not_mem_nil)⟩) (by decide) (by decide) (hts _ (List.mem_cons_of_mem _ (List.mem_append_left _ (List.mem_append_left _ (List.mem_append_left _ (List.mem_append_left _ (List.mem_append_left _ (List.mem_append_left _ (List.mem_append_left _ (List.mem_append_left _ (List.mem_append_left _ (List.mem_append_left _ (List.mem_append_left _ (List.mem_of_getElem? (i := 1) rfl)))))))))))))) (va_Nw.use rfl hNX.2.1.2.1) hce hcv hcl ?_
  refine lv_astore (lv' := [(6, .ref q9), (0, .ref (ad 0)), (1, .int (nI 8)), (2, .int (nI k)), (3, .int a1), (4, .int b1), (5, .int d1)]) hx hb dL_call_17 hl (by decide) rfl (fun ls hl => ?_)
  refine lv_bipush (v := -112) hx hb dL_call_19 (by decide) ?_
  exact im_ret (w1 := MW g ad gm σ z) (v := -112) hx hb hr hlocks hP hS MW_adr ⟨rfl, z, hz, rfl⟩ dL_call_21
set_option maxRecDepth 100000 in
set_option maxHeartbeats 4000000 in
theorem dx_verdict_1 (l : Launch) (hst : l.stackTraces = false) (g : GG) (ad : Nat → Nat) (gm : Nat → Option Nat) (hG : GM ad gm) (σ : Stt) (hσ : SOk σ) (k : Nat) (hk0 : k ≠ 0) (hk4 : k < 4) (a1 b1 d1 : Int32) (hr9 : lkB2 (s_n σ k) a1 b1 d1 = 1) : XW l yL_does wsL_does 12 g ad gm [.ref (ad 0), .int (nI 13), .int (nI k), .int a1, .int b1, .int d1] σ eI := by
  intro z sz
  refine xm_body (cc := cL_does) (maxL := 6) (ret := (some .int)) (by decide) rfl (Nat.le_of_ble_eq_true rfl) ?_ sz
  intro pg ev s0 mi below meth cd A hx hb hr hml hts hown hlocks hK hA hNX hZ ht H hP hD hS ls hl
  have hl : lv_has ls 6 [(0, .ref (ad 0)), (1, .int (nI 13)), (2, .int (nI k)), (3, .int a1), (4, .int b1), (5, .int d1)] := hl
  refine lv_iload_n hx hb dL_does_0 rfl (lv_at hl 1 rfl) ?_
  refine lv_tableIn (off := 197) (tgt := 198) hx hb dL_does_1 (by decide) (by decide) (by decide) (by decide) ?_
  refine lv_aload_n hx hb dL_does_198 rfl (lv_at hl 0 rfl) ?_
  refine lv_iload_n hx hb dL_does_199 rfl (lv_at hl 2 rfl) ?_
  refine lv_iload_n hx hb dL_does_200 rfl (lv_at hl 3 rfl) ?_
  refine lv_iload hx hb dL_does_201 (lv_at hl 4 rfl) ?_
  refine lv_iload hx hb dL_does_203 (lv_at hl 5 rfl) ?_
  exact xm_V (k := 4) hx hb hml hown hts (xw_verdict_1 l hst g ad gm hG σ hσ k hk0 hk4 a1 b1 d1 hr9 z) gL_does_X6_verdict rfl (by decide +kernel) ⟨Nat.le_of_ble_eq_true rfl, Nat.le_of_ble_eq_true rfl⟩ hK hNX hZ hP hD hS hA (List.range 52) MW_all (by decide) 0 6 rfl rfl rfl hl.1 (rest := []) (As := [.int (nI k), .int a1, .int b1, .int d1]) rfl (Nat.le_of_ble_eq_true rfl) dL_does_205 hlocks ht
set_option maxRecDepth 100000 in
set_option maxHeartbeats 4000000 in
theorem k_verdict_1 (l : Launch) (hst : l.stackTraces = false) (g : GG) (ad : Nat → Nat) (gm : Nat → Option Nat) (hG : GM ad gm) (σ : Stt) (hσ : SOk σ) (k : Nat) (hk0 : k ≠ 0) (hk4 : k < 4) (a1 b1 d1 : Int32) (hr9 : lkB2 (s_n σ k) a1 b1 d1 = 1) : MX l yL_call wsL_call 13 g ad gm [.ref (ad 0), .int (nI 13), .int (nI k), .int a1, .int b1, .int d1] σ σ (-111) := by
  intro z hz sz
  refine ix_bodyH (Qc := fun A => va_Qi _ (iB g _) A) (cc := cL_call) (maxL := 7) (ret := (some .int)) (hh := [(0, 11, 12, 14), (0, 11, 17, 16), (0, 11, 22, 18)]) (by decide) rfl (Nat.le_of_ble_eq_true rfl) ?_ sz
  intro pg ev s0 mi below meth cd A hx hb hr hml hts hown hlocks hK hA hNX hZ htab H hP hD hS ls hl
  have hl : lv_has ls 7 [(0, .ref (ad 0)), (1, .int (nI 13)), (2, .int (nI k)), (3, .int a1), (4, .int b1), (5, .int d1)] := hl
  refine lv_aload_n hx hb dL_call_0 rfl (lv_at hl 0 rfl) ?_
  refine lv_iload_n hx hb dL_call_1 rfl (lv_at hl 1 rfl) ?_
  refine lv_iload_n hx hb dL_call_2 rfl (lv_at hl 2 rfl) ?_
  refine lv_iload_n hx hb dL_call_3 rfl (lv_at hl 3 rfl) ?_
  refine lv_iload hx hb dL_call_4 (lv_at hl 4 rfl) ?_
  refine lv_iload hx hb dL_call_6 (lv_at hl 5 rfl) ?_
  refine ix_S0 (E := eI) (k := 6) hx hb hml hown hts (dx_verdict_1 l hst g ad gm hG σ hσ k hk0 hk4 a1 b1 d1 hr9  z) gL_call_L_does rfl (by decide +kernel) ⟨Nat.le_of_ble_eq_true rfl, Nat.le_of_ble_eq_true rfl⟩ hK hNX hZ hP hD hS hA (List.range 52) MW_all (by decide) rfl hl.1 (rest := []) (As := [.ref (ad 0), .int (nI 13), .int (nI k), .int a1, .int b1, .int d1]) rfl (Nat.le_of_ble_eq_true rfl) dL_call_8 (fun ce q9 H locs hP hS hce hcv hcl => ?_)
  refine vx_catch (name := eI) hown [] { startPc := 0, endPc := 11, handlerPc := 12, catchType := 14 } [{ startPc := 0, endPc := 11, handlerPc := 17, catchType := 16 }, { startPc := 0, endPc := 11, handlerPc := 22, catchType := 18 }] (by rw [htab]; rfl) (fun z hz => absurd hz List.not_mem_nil) (by decide) (by decide) (hts _ (List.mem_cons_of_mem _ (List.mem_append_left _ (List.mem_append_left _ (List.mem_append_left _ (List.mem_append_left _ (List.mem_append_left _ (List.mem_append_left _ (List.mem_append_left _ (List.mem_append_left _ (List.mem_append_left _ (List.mem_append_left _ (List.mem_append_left _ (List.mem_of_getElem? (i := 0) rfl)))))))))))))) (va_Nw.use rfl hNX.2.1.1) hce hcv hcl ?_
  refine lv_astore (lv' := [(6, .ref q9), (0, .ref (ad 0)), (1, .int (nI 13)), (2, .int (nI k)), (3, .int a1), (4, .int b1), (5, .int d1)]) hx hb dL_call_12 hl (by decide) rfl (fun ls hl => ?_)
  refine lv_bipush (v := -111) hx hb dL_call_14 (by decide) ?_
  exact im_ret (w1 := MW g ad gm σ z) (v := -111) hx hb hr hlocks hP hS MW_adr ⟨rfl, z, hz, rfl⟩ dL_call_16
set_option maxRecDepth 100000 in
set_option maxHeartbeats 4000000 in
theorem dx_verdict_no (l : Launch) (hst : l.stackTraces = false) (g : GG) (ad : Nat → Nat) (gm : Nat → Option Nat) (hG : GM ad gm) (σ : Stt) (hσ : SOk σ) (k : Nat) (hk0 : k ≠ 0) (hk4 : k < 4) (f t d : Nat) (hf : f < s_n σ k) (ht9 : t < s_n σ k) (hft : f ≠ t) (hd4 : d < 4) (hno : (s_m σ k (f * 5 + t)).testBit d = false) : XW l yL_does wsL_does 12 g ad gm [.ref (ad 0), .int (nI 13), .int (nI k), .int (nI f), .int (nI t), .int (nI d)] σ eS := by
  intro z sz
  refine xm_body (cc := cL_does) (maxL := 6) (ret := (some .int)) (by decide) rfl (Nat.le_of_ble_eq_true rfl) ?_ sz
  intro pg ev s0 mi below meth cd A hx hb hr hml hts hown hlocks hK hA hNX hZ ht H hP hD hS ls hl
  have hl : lv_has ls 6 [(0, .ref (ad 0)), (1, .int (nI 13)), (2, .int (nI k)), (3, .int (nI f)), (4, .int (nI t)), (5, .int (nI d))] := hl
  refine lv_iload_n hx hb dL_does_0 rfl (lv_at hl 1 rfl) ?_
  refine lv_tableIn (off := 197) (tgt := 198) hx hb dL_does_1 (by decide) (by decide) (by decide) (by decide) ?_
  refine lv_aload_n hx hb dL_does_198 rfl (lv_at hl 0 rfl) ?_
  refine lv_iload_n hx hb dL_does_199 rfl (lv_at hl 2 rfl) ?_
  refine lv_iload_n hx hb dL_does_200 rfl (lv_at hl 3 rfl) ?_
  refine lv_iload hx hb dL_does_201 (lv_at hl 4 rfl) ?_
  refine lv_iload hx hb dL_does_203 (lv_at hl 5 rfl) ?_
  exact xm_V (k := 4) hx hb hml hown hts (xw_verdict_no l hst g ad gm hG σ hσ k hk0 hk4 f t d hf ht9 hft hd4 hno z) gL_does_X6_verdict rfl (by decide +kernel) ⟨Nat.le_of_ble_eq_true rfl, Nat.le_of_ble_eq_true rfl⟩ hK hNX hZ hP hD hS hA (List.range 52) MW_all (by decide) 0 6 rfl rfl rfl hl.1 (rest := []) (As := [.int (nI k), .int (nI f), .int (nI t), .int (nI d)]) rfl (Nat.le_of_ble_eq_true rfl) dL_does_205 hlocks ht
set_option maxRecDepth 100000 in
set_option maxHeartbeats 4000000 in
theorem k_verdict_no (l : Launch) (hst : l.stackTraces = false) (g : GG) (ad : Nat → Nat) (gm : Nat → Option Nat) (hG : GM ad gm) (σ : Stt) (hσ : SOk σ) (k : Nat) (hk0 : k ≠ 0) (hk4 : k < 4) (f t d : Nat) (hf : f < s_n σ k) (ht9 : t < s_n σ k) (hft : f ≠ t) (hd4 : d < 4) (hno : (s_m σ k (f * 5 + t)).testBit d = false) : MX l yL_call wsL_call 13 g ad gm [.ref (ad 0), .int (nI 13), .int (nI k), .int (nI f), .int (nI t), .int (nI d)] σ σ (-113) := by
  intro z hz sz
  refine ix_bodyH (Qc := fun A => va_Qi _ (iB g _) A) (cc := cL_call) (maxL := 7) (ret := (some .int)) (hh := [(0, 11, 12, 14), (0, 11, 17, 16), (0, 11, 22, 18)]) (by decide) rfl (Nat.le_of_ble_eq_true rfl) ?_ sz
  intro pg ev s0 mi below meth cd A hx hb hr hml hts hown hlocks hK hA hNX hZ htab H hP hD hS ls hl
  have hl : lv_has ls 7 [(0, .ref (ad 0)), (1, .int (nI 13)), (2, .int (nI k)), (3, .int (nI f)), (4, .int (nI t)), (5, .int (nI d))] := hl
  refine lv_aload_n hx hb dL_call_0 rfl (lv_at hl 0 rfl) ?_
  refine lv_iload_n hx hb dL_call_1 rfl (lv_at hl 1 rfl) ?_
  refine lv_iload_n hx hb dL_call_2 rfl (lv_at hl 2 rfl) ?_
  refine lv_iload_n hx hb dL_call_3 rfl (lv_at hl 3 rfl) ?_
  refine lv_iload hx hb dL_call_4 (lv_at hl 4 rfl) ?_
  refine lv_iload hx hb dL_call_6 (lv_at hl 5 rfl) ?_
  refine ix_S0 (E := eS) (k := 6) hx hb hml hown hts (dx_verdict_no l hst g ad gm hG σ hσ k hk0 hk4 f t d hf ht9 hft hd4 hno  z) gL_call_L_does rfl (by decide +kernel) ⟨Nat.le_of_ble_eq_true rfl, Nat.le_of_ble_eq_true rfl⟩ hK hNX hZ hP hD hS hA (List.range 52) MW_all (by decide) rfl hl.1 (rest := []) (As := [.ref (ad 0), .int (nI 13), .int (nI k), .int (nI f), .int (nI t), .int (nI d)]) rfl (Nat.le_of_ble_eq_true rfl) dL_call_8 (fun ce q9 H locs hP hS hce hcv hcl => ?_)
  refine vx_catch (name := eS) hown [{ startPc := 0, endPc := 11, handlerPc := 12, catchType := 14 }, { startPc := 0, endPc := 11, handlerPc := 17, catchType := 16 }] { startPc := 0, endPc := 11, handlerPc := 22, catchType := 18 } [] (by rw [htab]; rfl) (List.forall_mem_cons.mpr ⟨Or.inr ⟨by decide, eI, (hts _ (List.mem_cons_of_mem _ (List.mem_append_left _ (List.mem_append_left _ (List.mem_append_left _ (List.mem_append_left _ (List.mem_append_left _ (List.mem_append_left _ (List.mem_append_left _ (List.mem_append_left _ (List.mem_append_left _ (List.mem_append_left _ (List.mem_append_left _ (List.mem_of_getElem? (i := 0) rfl)))))))))))))), hNX.2.2.1.2.1⟩, (List.forall_mem_cons.mpr ⟨Or.inr ⟨by decide, eA, (hts _ (List.mem_cons_of_mem _ (List.mem_append_left _ (List.mem_append_left _ (List.mem_append_left _ (List.mem_append_left _ (List.mem_append_left _ (List.mem_append_left _ (List.mem_append_left _ (List.mem_append_left _ (List.mem_append_left _ (List.mem_append_left _ (List.mem_append_left _ (List.mem_of_getElem? (i := 1) rfl)))))))))))))), hNX.2.2.1.2.2⟩, (fun z hz => absurd hz List.not_mem_nil)⟩)⟩) (by decide) (by decide) (hts _ (List.mem_cons_of_mem _ (List.mem_append_left _ (List.mem_append_left _ (List.mem_append_left _ (List.mem_append_left _ (List.mem_append_left _ (List.mem_append_left _ (List.mem_append_left _ (List.mem_append_left _ (List.mem_append_left _ (List.mem_append_left _ (List.mem_append_left _ (List.mem_of_getElem? (i := 2) rfl)))))))))))))) (va_Nw.use rfl hNX.2.1.2.2) hce hcv hcl ?_
  refine lv_astore (lv' := [(6, .ref q9), (0, .ref (ad 0)), (1, .int (nI 13)), (2, .int (nI k)), (3, .int (nI f)), (4, .int (nI t)), (5, .int (nI d))]) hx hb dL_call_22 hl (by decide) rfl (fun ls hl => ?_)
  refine lv_bipush (v := -113) hx hb dL_call_24 (by decide) ?_
  exact im_ret (w1 := MW g ad gm σ z) (v := -113) hx hb hr hlocks hP hS MW_adr ⟨rfl, z, hz, rfl⟩ dL_call_26
set_option maxRecDepth 100000 in
set_option maxHeartbeats 4000000 in
theorem dx_matchOf_i (l : Launch) (hst : l.stackTraces = false) (g : GG) (ad : Nat → Nat) (gm : Nat → Option Nat) (hG : GM ad gm) (σ : Stt) (hσ : SOk σ) (k : Nat) (hk0 : k ≠ 0) (hk4 : k < 4) (v : Int32) (hbd : inR v (s_n σ 0) = false) (e3 e4 : Int32) : XW l yL_does wsL_does 12 g ad gm [.ref (ad 0), .int (nI 12), .int (nI k), .int v, .int e3, .int e4] σ eI := by
  intro z sz
  refine xm_body (cc := cL_does) (maxL := 6) (ret := (some .int)) (by decide) rfl (Nat.le_of_ble_eq_true rfl) ?_ sz
  intro pg ev s0 mi below meth cd A hx hb hr hml hts hown hlocks hK hA hNX hZ ht H hP hD hS ls hl
  have hl : lv_has ls 6 [(0, .ref (ad 0)), (1, .int (nI 12)), (2, .int (nI k)), (3, .int v), (4, .int e3), (5, .int e4)] := hl
  refine lv_iload_n hx hb dL_does_0 rfl (lv_at hl 1 rfl) ?_
  refine lv_tableIn (off := 190) (tgt := 191) hx hb dL_does_1 (by decide) (by decide) (by decide) (by decide) ?_
  refine lv_aload_n hx hb dL_does_191 rfl (lv_at hl 0 rfl) ?_
  refine lv_iload_n hx hb dL_does_192 rfl (lv_at hl 2 rfl) ?_
  refine lv_iload_n hx hb dL_does_193 rfl (lv_at hl 3 rfl) ?_
  exact xm_V (k := 2) hx hb hml hown hts (xw_matchOf_i l hst g ad gm hG σ hσ k hk0 hk4 v hbd z) gL_does_X6_matchOf rfl (by decide +kernel) ⟨Nat.le_of_ble_eq_true rfl, Nat.le_of_ble_eq_true rfl⟩ hK hNX hZ hP hD hS hA (List.range 52) MW_all (by decide) 0 6 rfl rfl rfl hl.1 (rest := []) (As := [.int (nI k), .int v]) rfl (Nat.le_of_ble_eq_true rfl) dL_does_194 hlocks ht
set_option maxRecDepth 100000 in
set_option maxHeartbeats 4000000 in
theorem k_matchOf_i (l : Launch) (hst : l.stackTraces = false) (g : GG) (ad : Nat → Nat) (gm : Nat → Option Nat) (hG : GM ad gm) (σ : Stt) (hσ : SOk σ) (k : Nat) (hk0 : k ≠ 0) (hk4 : k < 4) (v : Int32) (hbd : inR v (s_n σ 0) = false) (e3 e4 : Int32) : MX l yL_call wsL_call 13 g ad gm [.ref (ad 0), .int (nI 12), .int (nI k), .int v, .int e3, .int e4] σ σ (-111) := by
  intro z hz sz
  refine ix_bodyH (Qc := fun A => va_Qi _ (iB g _) A) (cc := cL_call) (maxL := 7) (ret := (some .int)) (hh := [(0, 11, 12, 14), (0, 11, 17, 16), (0, 11, 22, 18)]) (by decide) rfl (Nat.le_of_ble_eq_true rfl) ?_ sz
  intro pg ev s0 mi below meth cd A hx hb hr hml hts hown hlocks hK hA hNX hZ htab H hP hD hS ls hl
  have hl : lv_has ls 7 [(0, .ref (ad 0)), (1, .int (nI 12)), (2, .int (nI k)), (3, .int v), (4, .int e3), (5, .int e4)] := hl
  refine lv_aload_n hx hb dL_call_0 rfl (lv_at hl 0 rfl) ?_
  refine lv_iload_n hx hb dL_call_1 rfl (lv_at hl 1 rfl) ?_
  refine lv_iload_n hx hb dL_call_2 rfl (lv_at hl 2 rfl) ?_
  refine lv_iload_n hx hb dL_call_3 rfl (lv_at hl 3 rfl) ?_
  refine lv_iload hx hb dL_call_4 (lv_at hl 4 rfl) ?_
  refine lv_iload hx hb dL_call_6 (lv_at hl 5 rfl) ?_
  refine ix_S0 (E := eI) (k := 6) hx hb hml hown hts (dx_matchOf_i l hst g ad gm hG σ hσ k hk0 hk4 v hbd e3 e4 z) gL_call_L_does rfl (by decide +kernel) ⟨Nat.le_of_ble_eq_true rfl, Nat.le_of_ble_eq_true rfl⟩ hK hNX hZ hP hD hS hA (List.range 52) MW_all (by decide) rfl hl.1 (rest := []) (As := [.ref (ad 0), .int (nI 12), .int (nI k), .int v, .int e3, .int e4]) rfl (Nat.le_of_ble_eq_true rfl) dL_call_8 (fun ce q9 H locs hP hS hce hcv hcl => ?_)
  refine vx_catch (name := eI) hown [] { startPc := 0, endPc := 11, handlerPc := 12, catchType := 14 } [{ startPc := 0, endPc := 11, handlerPc := 17, catchType := 16 }, { startPc := 0, endPc := 11, handlerPc := 22, catchType := 18 }] (by rw [htab]; rfl) (fun z hz => absurd hz List.not_mem_nil) (by decide) (by decide) (hts _ (List.mem_cons_of_mem _ (List.mem_append_left _ (List.mem_append_left _ (List.mem_append_left _ (List.mem_append_left _ (List.mem_append_left _ (List.mem_append_left _ (List.mem_append_left _ (List.mem_append_left _ (List.mem_append_left _ (List.mem_append_left _ (List.mem_append_left _ (List.mem_of_getElem? (i := 0) rfl)))))))))))))) (va_Nw.use rfl hNX.2.1.1) hce hcv hcl ?_
  refine lv_astore (lv' := [(6, .ref q9), (0, .ref (ad 0)), (1, .int (nI 12)), (2, .int (nI k)), (3, .int v), (4, .int e3), (5, .int e4)]) hx hb dL_call_12 hl (by decide) rfl (fun ls hl => ?_)
  refine lv_bipush (v := -111) hx hb dL_call_14 (by decide) ?_
  exact im_ret (w1 := MW g ad gm σ z) (v := -111) hx hb hr hlocks hP hS MW_adr ⟨rfl, z, hz, rfl⟩ dL_call_16
set_option maxRecDepth 100000 in
set_option maxHeartbeats 4000000 in
theorem c_some (l : Launch) (g : GG) (x : Int32) (n : Nat) (h0 : 0 < n) (hn : n < 2 ^ 31) : MSm l yL_some wsL_some 1 g [.int x, .int (nI n)] n := by
  intro sz
  refine im_body (Qc := fun A => va_Qi _ (iB g _) A) (cc := cL_some) (maxL := 2) (ret := (some .int)) (by decide) rfl (Nat.le_of_ble_eq_true rfl) ?_ sz
  intro pg ev s0 mi below meth cd A hx hb hr hml hts hown hlocks hK hA H hP hD hS ls hl
  have hl : lv_has ls 2 [(0, .int x), (1, .int (nI n))] := hl
  obtain ⟨v, hv, e9⟩ := ush1 x
  refine lv_iload_n hx hb dL_some_0 rfl (lv_at hl 0 rfl) ?_
  refine lv_iconst (v := nI 1) hx hb dL_some_1 (by decide) ?_
  refine lv_iushr hx hb dL_some_2 e9 ?_
  refine lv_iload_n hx hb dL_some_3 rfl (lv_at hl 1 rfl) ?_
  refine nv_irem hx hb hv h0 hn dL_some_4 ?_
  exact im_ret (w1 := []) hx hb hr hlocks hP hS rfl ⟨rfl, v % n, Nat.mod_lt _ h0, rfl⟩ dL_some_5
