set_option maxRecDepth 100000 in
set_option maxHeartbeats 4000000 in
theorem mc_ideas (l : Launch) (g : GG) (ad : Nat → Nat) (gm : Nat → Option Nat) (hG : GM ad gm) (σ : Stt) (hσ : SOk σ) (k : Nat) (hk4 : k < 4) : MC l yX6_ideas wsX6_ideas 2 g ad gm [.ref (ad 0), .int (nI k)] σ σ (nI (s_n σ k)) := by
  intro z hz
  obtain ⟨hd, tlm, thm, al, pp, hp, tr, bs, p, q, bg, bl, bp⟩ := z
  obtain ⟨idn, wF, mF, gr, ch⟩ := σ
  obtain ⟨hn, hw, hg, hc, hm, ho⟩ := hσ
  have hn : ∀ i, idn i ≤ 5 := hn
  have hw : ∀ i, grOk (wF i) := hw
  have hg : grOk gr := hg
  have hc : chOk ch := hc
  have hm : ∀ i, mOk (mF i) := hm
  have hz : LSc tlm thm al pp hp tr bs := hz
  rcases (show k = 0 ∨ k = 1 ∨ k = 2 ∨ k = 3 by omega) with rfl | rfl | rfl | rfl
  · skip
    refine im_frame (c_X6_ideas l g (ad 0) (ad 1) (ad 2) (ad 26) (ad 29) (ad 32) (ad 35) (ad 38) (ad 41) bl bg gm (ad 2) (ad 3) (ad 4) (ad 5) (ad 6) (ad 7) (wF 0) (mF 0) (idn 0) 0 (by decide) hG.1 ) [0, 1, 2, 3, 4, 5, 6, 7] rfl (by decide) ?_
    rintro x w1 ⟨rfl, rfl⟩
    exact ⟨MW g ad gm (idn, wF, mF, gr, ch) (hd, tlm, thm, al, pp, hp, tr, bs, p, q, bg, bl, bp), [8, 9, 10, 11, 12, 13, 14, 15, 16, 17, 18, 19, 20, 21, 22, 23, 24, 25, 26, 27, 28, 29, 30, 31, 32, 33, 34, 35, 36, 37, 38, 39, 40, 41, 42, 43, 44, 45, 46, 47, 48, 49, 50, 51], 52, rfl, rfl, rfl, by decide, by decide, rfl, rfl, _, hz, rfl⟩
  · skip
    refine im_frame (c_X6_ideas l g (ad 0) (ad 1) (ad 2) (ad 26) (ad 29) (ad 32) (ad 35) (ad 38) (ad 41) bl bg gm (ad 8) (ad 9) (ad 10) (ad 11) (ad 12) (ad 13) (wF 1) (mF 1) (idn 1) 1 (by decide) hG.2.1 ) [0, 1, 8, 9, 10, 11, 12, 13] rfl (by decide) ?_
    rintro x w1 ⟨rfl, rfl⟩
    exact ⟨MW g ad gm (idn, wF, mF, gr, ch) (hd, tlm, thm, al, pp, hp, tr, bs, p, q, bg, bl, bp), [2, 3, 4, 5, 6, 7, 14, 15, 16, 17, 18, 19, 20, 21, 22, 23, 24, 25, 26, 27, 28, 29, 30, 31, 32, 33, 34, 35, 36, 37, 38, 39, 40, 41, 42, 43, 44, 45, 46, 47, 48, 49, 50, 51], 52, rfl, rfl, rfl, by decide, by decide, rfl, rfl, _, hz, rfl⟩
  · skip
    refine im_frame (c_X6_ideas l g (ad 0) (ad 1) (ad 2) (ad 26) (ad 29) (ad 32) (ad 35) (ad 38) (ad 41) bl bg gm (ad 14) (ad 15) (ad 16) (ad 17) (ad 18) (ad 19) (wF 2) (mF 2) (idn 2) 2 (by decide) hG.2.2.1 ) [0, 1, 14, 15, 16, 17, 18, 19] rfl (by decide) ?_
    rintro x w1 ⟨rfl, rfl⟩
    exact ⟨MW g ad gm (idn, wF, mF, gr, ch) (hd, tlm, thm, al, pp, hp, tr, bs, p, q, bg, bl, bp), [2, 3, 4, 5, 6, 7, 8, 9, 10, 11, 12, 13, 20, 21, 22, 23, 24, 25, 26, 27, 28, 29, 30, 31, 32, 33, 34, 35, 36, 37, 38, 39, 40, 41, 42, 43, 44, 45, 46, 47, 48, 49, 50, 51], 52, rfl, rfl, rfl, by decide, by decide, rfl, rfl, _, hz, rfl⟩
  · skip
    refine im_frame (c_X6_ideas l g (ad 0) (ad 1) (ad 2) (ad 26) (ad 29) (ad 32) (ad 35) (ad 38) (ad 41) bl bg gm (ad 20) (ad 21) (ad 22) (ad 23) (ad 24) (ad 25) (wF 3) (mF 3) (idn 3) 3 (by decide) hG.2.2.2 ) [0, 1, 20, 21, 22, 23, 24, 25] rfl (by decide) ?_
    rintro x w1 ⟨rfl, rfl⟩
    exact ⟨MW g ad gm (idn, wF, mF, gr, ch) (hd, tlm, thm, al, pp, hp, tr, bs, p, q, bg, bl, bp), [2, 3, 4, 5, 6, 7, 8, 9, 10, 11, 12, 13, 14, 15, 16, 17, 18, 19, 26, 27, 28, 29, 30, 31, 32, 33, 34, 35, 36, 37, 38, 39, 40, 41, 42, 43, 44, 45, 46, 47, 48, 49, 50, 51], 52, rfl, rfl, rfl, by decide, by decide, rfl, rfl, _, hz, rfl⟩
set_option maxRecDepth 100000 in
set_option maxHeartbeats 4000000 in
theorem mc_links (l : Launch) (g : GG) (ad : Nat → Nat) (gm : Nat → Option Nat) (hG : GM ad gm) (σ : Stt) (hσ : SOk σ) (k : Nat) (hk4 : k < 4) : MC l yX6_links wsX6_links 3 g ad gm [.ref (ad 0), .int (nI k)] σ σ (nI (a_ct σ k)) := by
  intro z hz
  obtain ⟨hd, tlm, thm, al, pp, hp, tr, bs, p, q, bg, bl, bp⟩ := z
  obtain ⟨idn, wF, mF, gr, ch⟩ := σ
  obtain ⟨hn, hw, hg, hc, hm, ho⟩ := hσ
  have hn : ∀ i, idn i ≤ 5 := hn
  have hw : ∀ i, grOk (wF i) := hw
  have hg : grOk gr := hg
  have hc : chOk ch := hc
  have hm : ∀ i, mOk (mF i) := hm
  have hz : LSc tlm thm al pp hp tr bs := hz
  rcases (show k = 0 ∨ k = 1 ∨ k = 2 ∨ k = 3 by omega) with rfl | rfl | rfl | rfl
  · skip
    refine im_frame (c_X6_links l g (ad 0) (ad 1) (ad 2) (ad 26) (ad 29) (ad 32) (ad 35) (ad 38) (ad 41) bl bg gm (ad 2) (ad 3) (ad 4) (ad 5) (ad 6) (ad 7) (wF 0) (mF 0) (idn 0) 0 (by decide) hG.1 (hm 0)) [0, 1, 2, 3, 4, 5, 6, 7] rfl (by decide) ?_
    rintro x w1 ⟨rfl, rfl⟩
    exact ⟨MW g ad gm (idn, wF, mF, gr, ch) (hd, tlm, thm, al, pp, hp, tr, bs, p, q, bg, bl, bp), [8, 9, 10, 11, 12, 13, 14, 15, 16, 17, 18, 19, 20, 21, 22, 23, 24, 25, 26, 27, 28, 29, 30, 31, 32, 33, 34, 35, 36, 37, 38, 39, 40, 41, 42, 43, 44, 45, 46, 47, 48, 49, 50, 51], 52, rfl, rfl, rfl, by decide, by decide, rfl, rfl, _, hz, rfl⟩
  · skip
    refine im_frame (c_X6_links l g (ad 0) (ad 1) (ad 2) (ad 26) (ad 29) (ad 32) (ad 35) (ad 38) (ad 41) bl bg gm (ad 8) (ad 9) (ad 10) (ad 11) (ad 12) (ad 13) (wF 1) (mF 1) (idn 1) 1 (by decide) hG.2.1 (hm 1)) [0, 1, 8, 9, 10, 11, 12, 13] rfl (by decide) ?_
    rintro x w1 ⟨rfl, rfl⟩
    exact ⟨MW g ad gm (idn, wF, mF, gr, ch) (hd, tlm, thm, al, pp, hp, tr, bs, p, q, bg, bl, bp), [2, 3, 4, 5, 6, 7, 14, 15, 16, 17, 18, 19, 20, 21, 22, 23, 24, 25, 26, 27, 28, 29, 30, 31, 32, 33, 34, 35, 36, 37, 38, 39, 40, 41, 42, 43, 44, 45, 46, 47, 48, 49, 50, 51], 52, rfl, rfl, rfl, by decide, by decide, rfl, rfl, _, hz, rfl⟩
  · skip
    refine im_frame (c_X6_links l g (ad 0) (ad 1) (ad 2) (ad 26) (ad 29) (ad 32) (ad 35) (ad 38) (ad 41) bl bg gm (ad 14) (ad 15) (ad 16) (ad 17) (ad 18) (ad 19) (wF 2) (mF 2) (idn 2) 2 (by decide) hG.2.2.1 (hm 2)) [0, 1, 14, 15, 16, 17, 18, 19] rfl (by decide) ?_
    rintro x w1 ⟨rfl, rfl⟩
    exact ⟨MW g ad gm (idn, wF, mF, gr, ch) (hd, tlm, thm, al, pp, hp, tr, bs, p, q, bg, bl, bp), [2, 3, 4, 5, 6, 7, 8, 9, 10, 11, 12, 13, 20, 21, 22, 23, 24, 25, 26, 27, 28, 29, 30, 31, 32, 33, 34, 35, 36, 37, 38, 39, 40, 41, 42, 43, 44, 45, 46, 47, 48, 49, 50, 51], 52, rfl, rfl, rfl, by decide, by decide, rfl, rfl, _, hz, rfl⟩
  · skip
    refine im_frame (c_X6_links l g (ad 0) (ad 1) (ad 2) (ad 26) (ad 29) (ad 32) (ad 35) (ad 38) (ad 41) bl bg gm (ad 20) (ad 21) (ad 22) (ad 23) (ad 24) (ad 25) (wF 3) (mF 3) (idn 3) 3 (by decide) hG.2.2.2 (hm 3)) [0, 1, 20, 21, 22, 23, 24, 25] rfl (by decide) ?_
    rintro x w1 ⟨rfl, rfl⟩
    exact ⟨MW g ad gm (idn, wF, mF, gr, ch) (hd, tlm, thm, al, pp, hp, tr, bs, p, q, bg, bl, bp), [2, 3, 4, 5, 6, 7, 8, 9, 10, 11, 12, 13, 14, 15, 16, 17, 18, 19, 26, 27, 28, 29, 30, 31, 32, 33, 34, 35, 36, 37, 38, 39, 40, 41, 42, 43, 44, 45, 46, 47, 48, 49, 50, 51], 52, rfl, rfl, rfl, by decide, by decide, rfl, rfl, _, hz, rfl⟩
set_option maxRecDepth 100000 in
set_option maxHeartbeats 4000000 in
theorem mc_addIdea (l : Launch) (g : GG) (ad : Nat → Nat) (gm : Nat → Option Nat) (hG : GM ad gm) (σ : Stt) (hσ : SOk σ) (k : Nat) (hk4 : k < 4) (w : Nat) (hn5 : s_n σ k < 5) (hw5 : w < 32) : MC l yX6_addIdea wsX6_addIdea 3 g ad gm [.ref (ad 0), .int (nI k), .int (nI w)] σ (u_add σ k w) (nI (s_n σ k)) := by
  intro z hz
  obtain ⟨hd, tlm, thm, al, pp, hp, tr, bs, p, q, bg, bl, bp⟩ := z
  obtain ⟨idn, wF, mF, gr, ch⟩ := σ
  obtain ⟨hn, hw, hg, hc, hm, ho⟩ := hσ
  have hn : ∀ i, idn i ≤ 5 := hn
  have hw : ∀ i, grOk (wF i) := hw
  have hg : grOk gr := hg
  have hc : chOk ch := hc
  have hm : ∀ i, mOk (mF i) := hm
  have hz : LSc tlm thm al pp hp tr bs := hz
  rcases (show k = 0 ∨ k = 1 ∨ k = 2 ∨ k = 3 by omega) with rfl | rfl | rfl | rfl
  · skip
    refine im_frame (c_X6_addIdea l g (ad 0) (ad 1) (ad 2) (ad 26) (ad 29) (ad 32) (ad 35) (ad 38) (ad 41) bl bg gm (ad 2) (ad 3) (ad 4) (ad 5) (ad 6) (ad 7) (wF 0) (mF 0) (idn 0) 0 (by decide) hG.1 w hn5 hw5) [0, 1, 2, 3, 4, 5, 6, 7] rfl (by decide) ?_
    rintro x w1 ⟨rfl, rfl⟩
    exact ⟨MW g ad gm (u_add (idn, wF, mF, gr, ch) 0 w) (hd, tlm, thm, al, pp, hp, tr, bs, p, q, bg, bl, bp), [8, 9, 10, 11, 12, 13, 14, 15, 16, 17, 18, 19, 20, 21, 22, 23, 24, 25, 26, 27, 28, 29, 30, 31, 32, 33, 34, 35, 36, 37, 38, 39, 40, 41, 42, 43, 44, 45, 46, 47, 48, 49, 50, 51], 52, rfl, rfl, rfl, by decide, by decide, rfl, rfl, _, hz, rfl⟩
  · skip
    refine im_frame (c_X6_addIdea l g (ad 0) (ad 1) (ad 2) (ad 26) (ad 29) (ad 32) (ad 35) (ad 38) (ad 41) bl bg gm (ad 8) (ad 9) (ad 10) (ad 11) (ad 12) (ad 13) (wF 1) (mF 1) (idn 1) 1 (by decide) hG.2.1 w hn5 hw5) [0, 1, 8, 9, 10, 11, 12, 13] rfl (by decide) ?_
    rintro x w1 ⟨rfl, rfl⟩
    exact ⟨MW g ad gm (u_add (idn, wF, mF, gr, ch) 1 w) (hd, tlm, thm, al, pp, hp, tr, bs, p, q, bg, bl, bp), [2, 3, 4, 5, 6, 7, 14, 15, 16, 17, 18, 19, 20, 21, 22, 23, 24, 25, 26, 27, 28, 29, 30, 31, 32, 33, 34, 35, 36, 37, 38, 39, 40, 41, 42, 43, 44, 45, 46, 47, 48, 49, 50, 51], 52, rfl, rfl, rfl, by decide, by decide, rfl, rfl, _, hz, rfl⟩
  · skip
    refine im_frame (c_X6_addIdea l g (ad 0) (ad 1) (ad 2) (ad 26) (ad 29) (ad 32) (ad 35) (ad 38) (ad 41) bl bg gm (ad 14) (ad 15) (ad 16) (ad 17) (ad 18) (ad 19) (wF 2) (mF 2) (idn 2) 2 (by decide) hG.2.2.1 w hn5 hw5) [0, 1, 14, 15, 16, 17, 18, 19] rfl (by decide) ?_
    rintro x w1 ⟨rfl, rfl⟩
    exact ⟨MW g ad gm (u_add (idn, wF, mF, gr, ch) 2 w) (hd, tlm, thm, al, pp, hp, tr, bs, p, q, bg, bl, bp), [2, 3, 4, 5, 6, 7, 8, 9, 10, 11, 12, 13, 20, 21, 22, 23, 24, 25, 26, 27, 28, 29, 30, 31, 32, 33, 34, 35, 36, 37, 38, 39, 40, 41, 42, 43, 44, 45, 46, 47, 48, 49, 50, 51], 52, rfl, rfl, rfl, by decide, by decide, rfl, rfl, _, hz, rfl⟩
  · skip
    refine im_frame (c_X6_addIdea l g (ad 0) (ad 1) (ad 2) (ad 26) (ad 29) (ad 32) (ad 35) (ad 38) (ad 41) bl bg gm (ad 20) (ad 21) (ad 22) (ad 23) (ad 24) (ad 25) (wF 3) (mF 3) (idn 3) 3 (by decide) hG.2.2.2 w hn5 hw5) [0, 1, 20, 21, 22, 23, 24, 25] rfl (by decide) ?_
    rintro x w1 ⟨rfl, rfl⟩
    exact ⟨MW g ad gm (u_add (idn, wF, mF, gr, ch) 3 w) (hd, tlm, thm, al, pp, hp, tr, bs, p, q, bg, bl, bp), [2, 3, 4, 5, 6, 7, 8, 9, 10, 11, 12, 13, 14, 15, 16, 17, 18, 19, 26, 27, 28, 29, 30, 31, 32, 33, 34, 35, 36, 37, 38, 39, 40, 41, 42, 43, 44, 45, 46, 47, 48, 49, 50, 51], 52, rfl, rfl, rfl, by decide, by decide, rfl, rfl, _, hz, rfl⟩
set_option maxRecDepth 100000 in
set_option maxHeartbeats 4000000 in
theorem mc_link (l : Launch) (g : GG) (ad : Nat → Nat) (gm : Nat → Option Nat) (hG : GM ad gm) (σ : Stt) (hσ : SOk σ) (k : Nat) (hk4 : k < 4) (f t d : Nat) (hf : f < s_n σ k) (ht : t < s_n σ k) (hft : f ≠ t) (hd4 : d < 4) : MC l yX6_link wsX6_link 5 g ad gm [.ref (ad 0), .int (nI k), .int (nI f), .int (nI t), .int (nI d)] σ (u_lnk σ k f t d) (b2i (!(s_m σ k (f * 5 + t)).testBit d)) := by
  intro z hz
  obtain ⟨hd, tlm, thm, al, pp, hp, tr, bs, p, q, bg, bl, bp⟩ := z
  obtain ⟨idn, wF, mF, gr, ch⟩ := σ
  obtain ⟨hn, hw, hg, hc, hm, ho⟩ := hσ
  have hn : ∀ i, idn i ≤ 5 := hn
  have hw : ∀ i, grOk (wF i) := hw
  have hg : grOk gr := hg
  have hc : chOk ch := hc
  have hm : ∀ i, mOk (mF i) := hm
  have hz : LSc tlm thm al pp hp tr bs := hz
  rcases (show k = 0 ∨ k = 1 ∨ k = 2 ∨ k = 3 by omega) with rfl | rfl | rfl | rfl
  · skip
    refine im_frame (c_X6_link l g (ad 0) (ad 1) (ad 2) (ad 26) (ad 29) (ad 32) (ad 35) (ad 38) (ad 41) bl bg gm (ad 2) (ad 3) (ad 4) (ad 5) (ad 6) (ad 7) (wF 0) (mF 0) (idn 0) 0 (by decide) hG.1 f t d (hn 0) hf ht hft hd4 (hm 0)) [0, 1, 2, 3, 4, 5, 6, 7] rfl (by decide) ?_
    rintro x w1 ⟨rfl, rfl⟩
    exact ⟨MW g ad gm (u_lnk (idn, wF, mF, gr, ch) 0 f t d) (hd, tlm, thm, al, pp, hp, tr, bs, p, q, bg, bl, bp), [8, 9, 10, 11, 12, 13, 14, 15, 16, 17, 18, 19, 20, 21, 22, 23, 24, 25, 26, 27, 28, 29, 30, 31, 32, 33, 34, 35, 36, 37, 38, 39, 40, 41, 42, 43, 44, 45, 46, 47, 48, 49, 50, 51], 52, rfl, rfl, rfl, by decide, by decide, rfl, by rw [← tgM_tb, tgM_at], _, hz, rfl⟩
  · skip
    refine im_frame (c_X6_link l g (ad 0) (ad 1) (ad 2) (ad 26) (ad 29) (ad 32) (ad 35) (ad 38) (ad 41) bl bg gm (ad 8) (ad 9) (ad 10) (ad 11) (ad 12) (ad 13) (wF 1) (mF 1) (idn 1) 1 (by decide) hG.2.1 f t d (hn 1) hf ht hft hd4 (hm 1)) [0, 1, 8, 9, 10, 11, 12, 13] rfl (by decide) ?_
    rintro x w1 ⟨rfl, rfl⟩
    exact ⟨MW g ad gm (u_lnk (idn, wF, mF, gr, ch) 1 f t d) (hd, tlm, thm, al, pp, hp, tr, bs, p, q, bg, bl, bp), [2, 3, 4, 5, 6, 7, 14, 15, 16, 17, 18, 19, 20, 21, 22, 23, 24, 25, 26, 27, 28, 29, 30, 31, 32, 33, 34, 35, 36, 37, 38, 39, 40, 41, 42, 43, 44, 45, 46, 47, 48, 49, 50, 51], 52, rfl, rfl, rfl, by decide, by decide, rfl, by rw [← tgM_tb, tgM_at], _, hz, rfl⟩
  · skip
    refine im_frame (c_X6_link l g (ad 0) (ad 1) (ad 2) (ad 26) (ad 29) (ad 32) (ad 35) (ad 38) (ad 41) bl bg gm (ad 14) (ad 15) (ad 16) (ad 17) (ad 18) (ad 19) (wF 2) (mF 2) (idn 2) 2 (by decide) hG.2.2.1 f t d (hn 2) hf ht hft hd4 (hm 2)) [0, 1, 14, 15, 16, 17, 18, 19] rfl (by decide) ?_
    rintro x w1 ⟨rfl, rfl⟩
    exact ⟨MW g ad gm (u_lnk (idn, wF, mF, gr, ch) 2 f t d) (hd, tlm, thm, al, pp, hp, tr, bs, p, q, bg, bl, bp), [2, 3, 4, 5, 6, 7, 8, 9, 10, 11, 12, 13, 20, 21, 22, 23, 24, 25, 26, 27, 28, 29, 30, 31, 32, 33, 34, 35, 36, 37, 38, 39, 40, 41, 42, 43, 44, 45, 46, 47, 48, 49, 50, 51], 52, rfl, rfl, rfl, by decide, by decide, rfl, by rw [← tgM_tb, tgM_at], _, hz, rfl⟩
  · skip
    refine im_frame (c_X6_link l g (ad 0) (ad 1) (ad 2) (ad 26) (ad 29) (ad 32) (ad 35) (ad 38) (ad 41) bl bg gm (ad 20) (ad 21) (ad 22) (ad 23) (ad 24) (ad 25) (wF 3) (mF 3) (idn 3) 3 (by decide) hG.2.2.2 f t d (hn 3) hf ht hft hd4 (hm 3)) [0, 1, 20, 21, 22, 23, 24, 25] rfl (by decide) ?_
    rintro x w1 ⟨rfl, rfl⟩
    exact ⟨MW g ad gm (u_lnk (idn, wF, mF, gr, ch) 3 f t d) (hd, tlm, thm, al, pp, hp, tr, bs, p, q, bg, bl, bp), [2, 3, 4, 5, 6, 7, 8, 9, 10, 11, 12, 13, 14, 15, 16, 17, 18, 19, 26, 27, 28, 29, 30, 31, 32, 33, 34, 35, 36, 37, 38, 39, 40, 41, 42, 43, 44, 45, 46, 47, 48, 49, 50, 51], 52, rfl, rfl, rfl, by decide, by decide, rfl, by rw [← tgM_tb, tgM_at], _, hz, rfl⟩
set_option maxRecDepth 100000 in
set_option maxHeartbeats 4000000 in
theorem mc_clear (l : Launch) (g : GG) (ad : Nat → Nat) (gm : Nat → Option Nat) (hG : GM ad gm) (σ : Stt) (hσ : SOk σ) (k : Nat) (hk4 : k < 4) : MC l yX6_clear wsX6_clear 4 g ad gm [.ref (ad 0), .int (nI k)] σ (u_clr σ k) (nI (s_n σ k + a_ct σ k)) := by
  intro z hz
  obtain ⟨hd, tlm, thm, al, pp, hp, tr, bs, p, q, bg, bl, bp⟩ := z
  obtain ⟨idn, wF, mF, gr, ch⟩ := σ
  obtain ⟨hn, hw, hg, hc, hm, ho⟩ := hσ
  have hn : ∀ i, idn i ≤ 5 := hn
  have hw : ∀ i, grOk (wF i) := hw
  have hg : grOk gr := hg
  have hc : chOk ch := hc
  have hm : ∀ i, mOk (mF i) := hm
  have hz : LSc tlm thm al pp hp tr bs := hz
  rcases (show k = 0 ∨ k = 1 ∨ k = 2 ∨ k = 3 by omega) with rfl | rfl | rfl | rfl
  · skip
    refine im_frame (c_X6_clear l g (ad 0) (ad 1) (ad 2) (ad 26) (ad 29) (ad 32) (ad 35) (ad 38) (ad 41) bl bg gm (ad 2) (ad 3) (ad 4) (ad 5) (ad 6) (ad 7) (wF 0) (mF 0) (idn 0) 0 (by decide) hG.1 (hm 0)) [0, 1, 2, 3, 4, 5, 6, 7] rfl (by decide) ?_
    rintro x w1 ⟨rfl, rfl⟩
    exact ⟨MW g ad gm (u_clr (idn, wF, mF, gr, ch) 0) (hd, tlm, thm, al, pp, hp, tr, bs, p, q, bg, bl, bp), [8, 9, 10, 11, 12, 13, 14, 15, 16, 17, 18, 19, 20, 21, 22, 23, 24, 25, 26, 27, 28, 29, 30, 31, 32, 33, 34, 35, 36, 37, 38, 39, 40, 41, 42, 43, 44, 45, 46, 47, 48, 49, 50, 51], 52, rfl, rfl, rfl, by decide, by decide, rfl, rfl, _, hz, rfl⟩
  · skip
    refine im_frame (c_X6_clear l g (ad 0) (ad 1) (ad 2) (ad 26) (ad 29) (ad 32) (ad 35) (ad 38) (ad 41) bl bg gm (ad 8) (ad 9) (ad 10) (ad 11) (ad 12) (ad 13) (wF 1) (mF 1) (idn 1) 1 (by decide) hG.2.1 (hm 1)) [0, 1, 8, 9, 10, 11, 12, 13] rfl (by decide) ?_
    rintro x w1 ⟨rfl, rfl⟩
    exact ⟨MW g ad gm (u_clr (idn, wF, mF, gr, ch) 1) (hd, tlm, thm, al, pp, hp, tr, bs, p, q, bg, bl, bp), [2, 3, 4, 5, 6, 7, 14, 15, 16, 17, 18, 19, 20, 21, 22, 23, 24, 25, 26, 27, 28, 29, 30, 31, 32, 33, 34, 35, 36, 37, 38, 39, 40, 41, 42, 43, 44, 45, 46, 47, 48, 49, 50, 51], 52, rfl, rfl, rfl, by decide, by decide, rfl, rfl, _, hz, rfl⟩
  · skip
    refine im_frame (c_X6_clear l g (ad 0) (ad 1) (ad 2) (ad 26) (ad 29) (ad 32) (ad 35) (ad 38) (ad 41) bl bg gm (ad 14) (ad 15) (ad 16) (ad 17) (ad 18) (ad 19) (wF 2) (mF 2) (idn 2) 2 (by decide) hG.2.2.1 (hm 2)) [0, 1, 14, 15, 16, 17, 18, 19] rfl (by decide) ?_
    rintro x w1 ⟨rfl, rfl⟩
    exact ⟨MW g ad gm (u_clr (idn, wF, mF, gr, ch) 2) (hd, tlm, thm, al, pp, hp, tr, bs, p, q, bg, bl, bp), [2, 3, 4, 5, 6, 7, 8, 9, 10, 11, 12, 13, 20, 21, 22, 23, 24, 25, 26, 27, 28, 29, 30, 31, 32, 33, 34, 35, 36, 37, 38, 39, 40, 41, 42, 43, 44, 45, 46, 47, 48, 49, 50, 51], 52, rfl, rfl, rfl, by decide, by decide, rfl, rfl, _, hz, rfl⟩
  · skip
    refine im_frame (c_X6_clear l g (ad 0) (ad 1) (ad 2) (ad 26) (ad 29) (ad 32) (ad 35) (ad 38) (ad 41) bl bg gm (ad 20) (ad 21) (ad 22) (ad 23) (ad 24) (ad 25) (wF 3) (mF 3) (idn 3) 3 (by decide) hG.2.2.2 (hm 3)) [0, 1, 20, 21, 22, 23, 24, 25] rfl (by decide) ?_
    rintro x w1 ⟨rfl, rfl⟩
    exact ⟨MW g ad gm (u_clr (idn, wF, mF, gr, ch) 3) (hd, tlm, thm, al, pp, hp, tr, bs, p, q, bg, bl, bp), [2, 3, 4, 5, 6, 7, 8, 9, 10, 11, 12, 13, 14, 15, 16, 17, 18, 19, 26, 27, 28, 29, 30, 31, 32, 33, 34, 35, 36, 37, 38, 39, 40, 41, 42, 43, 44, 45, 46, 47, 48, 49, 50, 51], 52, rfl, rfl, rfl, by decide, by decide, rfl, rfl, _, hz, rfl⟩
set_option maxRecDepth 100000 in
set_option maxHeartbeats 4000000 in
theorem mc_held (l : Launch) (g : GG) (ad : Nat → Nat) (gm : Nat → Option Nat) (hG : GM ad gm) (σ : Stt) (hσ : SOk σ) (k : Nat) (hk4 : k < 4) : MC l yX6_held wsX6_held 6 g ad gm [.ref (ad 0), .int (nI k)] σ σ (nI (a_hl σ k)) := by
  intro z hz
  obtain ⟨hd, tlm, thm, al, pp, hp, tr, bs, p, q, bg, bl, bp⟩ := z
  obtain ⟨idn, wF, mF, gr, ch⟩ := σ
  obtain ⟨hn, hw, hg, hc, hm, ho⟩ := hσ
  have hn : ∀ i, idn i ≤ 5 := hn
  have hw : ∀ i, grOk (wF i) := hw
  have hg : grOk gr := hg
  have hc : chOk ch := hc
  have hm : ∀ i, mOk (mF i) := hm
  have hz : LSc tlm thm al pp hp tr bs := hz
  rcases (show k = 0 ∨ k = 1 ∨ k = 2 ∨ k = 3 by omega) with rfl | rfl | rfl | rfl
  · skip
    refine im_frame (c_X6_held l g (ad 0) (ad 1) (ad 2) (ad 26) (ad 35) (ad 38) (ad 41) bl bg gm (ad 2) (ad 3) (ad 4) (ad 5) (ad 6) (ad 7) (wF 0) (mF 0) (idn 0) 0 (by decide) hG.1 (ad 29) (ad 30) (ad 31) (ad 32) (ad 33) (ad 34) ch hd hc (hm 0) ) [0, 1, 2, 3, 4, 5, 6, 7, 29, 30, 31, 32, 33, 34] rfl (by decide) ?_
    rintro x w1 ⟨rfl, rfl⟩
    exact ⟨MW g ad gm (idn, wF, mF, gr, ch) (clo ch (mF 0), tlm, thm, al, pp, hp, tr, bs, p, q, bg, bl, bp), [8, 9, 10, 11, 12, 13, 14, 15, 16, 17, 18, 19, 20, 21, 22, 23, 24, 25, 26, 27, 28, 35, 36, 37, 38, 39, 40, 41, 42, 43, 44, 45, 46, 47, 48, 49, 50, 51], 52, rfl, rfl, rfl, by decide, by decide, rfl, rfl, _, hz, rfl⟩
  · skip
    refine im_frame (c_X6_held l g (ad 0) (ad 1) (ad 2) (ad 26) (ad 35) (ad 38) (ad 41) bl bg gm (ad 8) (ad 9) (ad 10) (ad 11) (ad 12) (ad 13) (wF 1) (mF 1) (idn 1) 1 (by decide) hG.2.1 (ad 29) (ad 30) (ad 31) (ad 32) (ad 33) (ad 34) ch hd hc (hm 1) ) [0, 1, 8, 9, 10, 11, 12, 13, 29, 30, 31, 32, 33, 34] rfl (by decide) ?_
    rintro x w1 ⟨rfl, rfl⟩
    exact ⟨MW g ad gm (idn, wF, mF, gr, ch) (clo ch (mF 1), tlm, thm, al, pp, hp, tr, bs, p, q, bg, bl, bp), [2, 3, 4, 5, 6, 7, 14, 15, 16, 17, 18, 19, 20, 21, 22, 23, 24, 25, 26, 27, 28, 35, 36, 37, 38, 39, 40, 41, 42, 43, 44, 45, 46, 47, 48, 49, 50, 51], 52, rfl, rfl, rfl, by decide, by decide, rfl, rfl, _, hz, rfl⟩
  · skip
    refine im_frame (c_X6_held l g (ad 0) (ad 1) (ad 2) (ad 26) (ad 35) (ad 38) (ad 41) bl bg gm (ad 14) (ad 15) (ad 16) (ad 17) (ad 18) (ad 19) (wF 2) (mF 2) (idn 2) 2 (by decide) hG.2.2.1 (ad 29) (ad 30) (ad 31) (ad 32) (ad 33) (ad 34) ch hd hc (hm 2) ) [0, 1, 14, 15, 16, 17, 18, 19, 29, 30, 31, 32, 33, 34] rfl (by decide) ?_
    rintro x w1 ⟨rfl, rfl⟩
    exact ⟨MW g ad gm (idn, wF, mF, gr, ch) (clo ch (mF 2), tlm, thm, al, pp, hp, tr, bs, p, q, bg, bl, bp), [2, 3, 4, 5, 6, 7, 8, 9, 10, 11, 12, 13, 20, 21, 22, 23, 24, 25, 26, 27, 28, 35, 36, 37, 38, 39, 40, 41, 42, 43, 44, 45, 46, 47, 48, 49, 50, 51], 52, rfl, rfl, rfl, by decide, by decide, rfl, rfl, _, hz, rfl⟩
  · skip
    refine im_frame (c_X6_held l g (ad 0) (ad 1) (ad 2) (ad 26) (ad 35) (ad 38) (ad 41) bl bg gm (ad 20) (ad 21) (ad 22) (ad 23) (ad 24) (ad 25) (wF 3) (mF 3) (idn 3) 3 (by decide) hG.2.2.2 (ad 29) (ad 30) (ad 31) (ad 32) (ad 33) (ad 34) ch hd hc (hm 3) ) [0, 1, 20, 21, 22, 23, 24, 25, 29, 30, 31, 32, 33, 34] rfl (by decide) ?_
    rintro x w1 ⟨rfl, rfl⟩
    exact ⟨MW g ad gm (idn, wF, mF, gr, ch) (clo ch (mF 3), tlm, thm, al, pp, hp, tr, bs, p, q, bg, bl, bp), [2, 3, 4, 5, 6, 7, 8, 9, 10, 11, 12, 13, 14, 15, 16, 17, 18, 19, 26, 27, 28, 35, 36, 37, 38, 39, 40, 41, 42, 43, 44, 45, 46, 47, 48, 49, 50, 51], 52, rfl, rfl, rfl, by decide, by decide, rfl, rfl, _, hz, rfl⟩
set_option maxRecDepth 100000 in
set_option maxHeartbeats 4000000 in
theorem mc_holds (l : Launch) (g : GG) (ad : Nat → Nat) (gm : Nat → Option Nat) (hG : GM ad gm) (σ : Stt) (hσ : SOk σ) (k : Nat) (hk4 : k < 4) (f t d : Nat) (hf : f < s_n σ k) (ht : t < s_n σ k) (hft : f ≠ t) (hd4 : d < 4) : MC l yX6_holds wsX6_holds 6 g ad gm [.ref (ad 0), .int (nI k), .int (nI f), .int (nI t), .int (nI d)] σ σ (b2i ((clo (s_c σ) (s_m σ k) (f * 5 + t)).testBit d)) := by
  intro z hz
  obtain ⟨hd, tlm, thm, al, pp, hp, tr, bs, p, q, bg, bl, bp⟩ := z
  obtain ⟨idn, wF, mF, gr, ch⟩ := σ
  obtain ⟨hn, hw, hg, hc, hm, ho⟩ := hσ
  have hn : ∀ i, idn i ≤ 5 := hn
  have hw : ∀ i, grOk (wF i) := hw
  have hg : grOk gr := hg
  have hc : chOk ch := hc
  have hm : ∀ i, mOk (mF i) := hm
  have hz : LSc tlm thm al pp hp tr bs := hz
  rcases (show k = 0 ∨ k = 1 ∨ k = 2 ∨ k = 3 by omega) with rfl | rfl | rfl | rfl
  · skip
    refine im_frame (c_X6_holds l g (ad 0) (ad 1) (ad 2) (ad 26) (ad 35) (ad 38) (ad 41) bl bg gm (ad 2) (ad 3) (ad 4) (ad 5) (ad 6) (ad 7) (wF 0) (mF 0) (idn 0) 0 (by decide) hG.1 (ad 29) (ad 30) (ad 31) (ad 32) (ad 33) (ad 34) ch hd hc (hm 0) f t d (hn 0) hf ht hft hd4) [0, 1, 2, 3, 4, 5, 6, 7, 29, 30, 31, 32, 33, 34] rfl (by decide) ?_
    rintro x w1 ⟨rfl, rfl⟩
    exact ⟨MW g ad gm (idn, wF, mF, gr, ch) (clo ch (mF 0), tlm, thm, al, pp, hp, tr, bs, p, q, bg, bl, bp), [8, 9, 10, 11, 12, 13, 14, 15, 16, 17, 18, 19, 20, 21, 22, 23, 24, 25, 26, 27, 28, 35, 36, 37, 38, 39, 40, 41, 42, 43, 44, 45, 46, 47, 48, 49, 50, 51], 52, rfl, rfl, rfl, by decide, by decide, rfl, rfl, _, hz, rfl⟩
  · skip
    refine im_frame (c_X6_holds l g (ad 0) (ad 1) (ad 2) (ad 26) (ad 35) (ad 38) (ad 41) bl bg gm (ad 8) (ad 9) (ad 10) (ad 11) (ad 12) (ad 13) (wF 1) (mF 1) (idn 1) 1 (by decide) hG.2.1 (ad 29) (ad 30) (ad 31) (ad 32) (ad 33) (ad 34) ch hd hc (hm 1) f t d (hn 1) hf ht hft hd4) [0, 1, 8, 9, 10, 11, 12, 13, 29, 30, 31, 32, 33, 34] rfl (by decide) ?_
    rintro x w1 ⟨rfl, rfl⟩
    exact ⟨MW g ad gm (idn, wF, mF, gr, ch) (clo ch (mF 1), tlm, thm, al, pp, hp, tr, bs, p, q, bg, bl, bp), [2, 3, 4, 5, 6, 7, 14, 15, 16, 17, 18, 19, 20, 21, 22, 23, 24, 25, 26, 27, 28, 35, 36, 37, 38, 39, 40, 41, 42, 43, 44, 45, 46, 47, 48, 49, 50, 51], 52, rfl, rfl, rfl, by decide, by decide, rfl, rfl, _, hz, rfl⟩
  · skip
    refine im_frame (c_X6_holds l g (ad 0) (ad 1) (ad 2) (ad 26) (ad 35) (ad 38) (ad 41) bl bg gm (ad 14) (ad 15) (ad 16) (ad 17) (ad 18) (ad 19) (wF 2) (mF 2) (idn 2) 2 (by decide) hG.2.2.1 (ad 29) (ad 30) (ad 31) (ad 32) (ad 33) (ad 34) ch hd hc (hm 2) f t d (hn 2) hf ht hft hd4) [0, 1, 14, 15, 16, 17, 18, 19, 29, 30, 31, 32, 33, 34] rfl (by decide) ?_
    rintro x w1 ⟨rfl, rfl⟩
    exact ⟨MW g ad gm (idn, wF, mF, gr, ch) (clo ch (mF 2), tlm, thm, al, pp, hp, tr, bs, p, q, bg, bl, bp), [2, 3, 4, 5, 6, 7, 8, 9, 10, 11, 12, 13, 20, 21, 22, 23, 24, 25, 26, 27, 28, 35, 36, 37, 38, 39, 40, 41, 42, 43, 44, 45, 46, 47, 48, 49, 50, 51], 52, rfl, rfl, rfl, by decide, by decide, rfl, rfl, _, hz, rfl⟩
  · skip
    refine im_frame (c_X6_holds l g (ad 0) (ad 1) (ad 2) (ad 26) (ad 35) (ad 38) (ad 41) bl bg gm (ad 20) (ad 21) (ad 22) (ad 23) (ad 24) (ad 25) (wF 3) (mF 3) (idn 3) 3 (by decide) hG.2.2.2 (ad 29) (ad 30) (ad 31) (ad 32) (ad 33) (ad 34) ch hd hc (hm 3) f t d (hn 3) hf ht hft hd4) [0, 1, 20, 21, 22, 23, 24, 25, 29, 30, 31, 32, 33, 34] rfl (by decide) ?_
    rintro x w1 ⟨rfl, rfl⟩
    exact ⟨MW g ad gm (idn, wF, mF, gr, ch) (clo ch (mF 3), tlm, thm, al, pp, hp, tr, bs, p, q, bg, bl, bp), [2, 3, 4, 5, 6, 7, 8, 9, 10, 11, 12, 13, 14, 15, 16, 17, 18, 19, 26, 27, 28, 35, 36, 37, 38, 39, 40, 41, 42, 43, 44, 45, 46, 47, 48, 49, 50, 51], 52, rfl, rfl, rfl, by decide, by decide, rfl, rfl, _, hz, rfl⟩
set_option maxRecDepth 100000 in
set_option maxHeartbeats 4000000 in
theorem mc_synonyms (l : Launch) (g : GG) (ad : Nat → Nat) (gm : Nat → Option Nat) (hG : GM ad gm) (σ : Stt) (hσ : SOk σ) (a b : Nat) (ha : a < 32) (hb : b < 32) : MC l yX6_synonyms wsX6_synonyms 3 g ad gm [.ref (ad 0), .int (nI a), .int (nI b)] σ (u_syn σ a b) (b2i (decide (s_g σ a = s_g σ b))) := by
  intro z hz
  obtain ⟨hd, tlm, thm, al, pp, hp, tr, bs, p, q, bg, bl, bp⟩ := z
  obtain ⟨idn, wF, mF, gr, ch⟩ := σ
  obtain ⟨hn, hw, hg, hc, hm, ho⟩ := hσ
  have hn : ∀ i, idn i ≤ 5 := hn
  have hw : ∀ i, grOk (wF i) := hw
  have hg : grOk gr := hg
  have hc : chOk ch := hc
  have hm : ∀ i, mOk (mF i) := hm
  have hz : LSc tlm thm al pp hp tr bs := hz
  refine im_frame (c_X6_synonyms l g (ad 0) (ad 1) (ad 2) (ad 29) (ad 32) (ad 35) (ad 38) (ad 41) bl bg (ad 26) (ad 27) (ad 28) gr a b hg ha hb) [0, 26, 27, 28] rfl (by decide) ?_
  rintro x w1 ⟨rfl, rfl⟩
  exact ⟨MW g ad gm (u_syn (idn, wF, mF, gr, ch) a b) (hd, tlm, thm, al, pp, hp, tr, bs, p, q, bg, bl, bp), [1, 2, 3, 4, 5, 6, 7, 8, 9, 10, 11, 12, 13, 14, 15, 16, 17, 18, 19, 20, 21, 22, 23, 24, 25, 29, 30, 31, 32, 33, 34, 35, 36, 37, 38, 39, 40, 41, 42, 43, 44, 45, 46, 47, 48, 49, 50, 51], 52, rfl, rfl, rfl, by decide, by decide, rfl, rfl, _, hz, rfl⟩
set_option maxRecDepth 100000 in
set_option maxHeartbeats 4000000 in
theorem mc_chain (l : Launch) (g : GG) (ad : Nat → Nat) (gm : Nat → Option Nat) (hG : GM ad gm) (σ : Stt) (hσ : SOk σ) (f t d : Nat) (hf : f < 4) (ht : t < 4) (hd4 : d < 4) : MC l yX6_chain wsX6_chain 3 g ad gm [.ref (ad 0), .int (nI f), .int (nI t), .int (nI d)] σ (u_chn σ f t (some d)) (oI (s_c σ (f * 4 + t))) := by
  intro z hz
  obtain ⟨hd, tlm, thm, al, pp, hp, tr, bs, p, q, bg, bl, bp⟩ := z
  obtain ⟨idn, wF, mF, gr, ch⟩ := σ
  obtain ⟨hn, hw, hg, hc, hm, ho⟩ := hσ
  have hn : ∀ i, idn i ≤ 5 := hn
  have hw : ∀ i, grOk (wF i) := hw
  have hg : grOk gr := hg
  have hc : chOk ch := hc
  have hm : ∀ i, mOk (mF i) := hm
  have hz : LSc tlm thm al pp hp tr bs := hz
  refine im_frame (c_X6_chain l g (ad 0) (ad 1) (ad 2) (ad 26) (ad 32) (ad 35) (ad 38) (ad 41) bl bg (ad 29) (ad 30) (ad 31) ch f t hf ht d hd4) [0, 29, 30, 31] rfl (by decide) ?_
  rintro x w1 ⟨rfl, rfl⟩
  exact ⟨MW g ad gm (u_chn (idn, wF, mF, gr, ch) f t (some d)) (hd, tlm, thm, al, pp, hp, tr, bs, p, q, bg, bl, bp), [1, 2, 3, 4, 5, 6, 7, 8, 9, 10, 11, 12, 13, 14, 15, 16, 17, 18, 19, 20, 21, 22, 23, 24, 25, 26, 27, 28, 32, 33, 34, 35, 36, 37, 38, 39, 40, 41, 42, 43, 44, 45, 46, 47, 48, 49, 50, 51], 52, rfl, rfl, rfl, by decide, by decide, rfl, rfl, _, hz, rfl⟩
set_option maxRecDepth 100000 in
set_option maxHeartbeats 4000000 in
theorem mc_chain_none (l : Launch) (g : GG) (ad : Nat → Nat) (gm : Nat → Option Nat) (hG : GM ad gm) (σ : Stt) (hσ : SOk σ) (f t : Nat) (hf : f < 4) (ht : t < 4) : MC l yX6_chain wsX6_chain 3 g ad gm [.ref (ad 0), .int (nI f), .int (nI t), .int (oI none)] σ (u_chn σ f t none) (oI (s_c σ (f * 4 + t))) := by
  intro z hz
  obtain ⟨hd, tlm, thm, al, pp, hp, tr, bs, p, q, bg, bl, bp⟩ := z
  obtain ⟨idn, wF, mF, gr, ch⟩ := σ
  obtain ⟨hn, hw, hg, hc, hm, ho⟩ := hσ
  have hn : ∀ i, idn i ≤ 5 := hn
  have hw : ∀ i, grOk (wF i) := hw
  have hg : grOk gr := hg
  have hc : chOk ch := hc
  have hm : ∀ i, mOk (mF i) := hm
  have hz : LSc tlm thm al pp hp tr bs := hz
  refine im_frame (c_X6_chain_none l g (ad 0) (ad 1) (ad 2) (ad 26) (ad 32) (ad 35) (ad 38) (ad 41) bl bg (ad 29) (ad 30) (ad 31) ch f t hf ht) [0, 29, 30, 31] rfl (by decide) ?_
  rintro x w1 ⟨rfl, rfl⟩
  exact ⟨MW g ad gm (u_chn (idn, wF, mF, gr, ch) f t none) (hd, tlm, thm, al, pp, hp, tr, bs, p, q, bg, bl, bp), [1, 2, 3, 4, 5, 6, 7, 8, 9, 10, 11, 12, 13, 14, 15, 16, 17, 18, 19, 20, 21, 22, 23, 24, 25, 26, 27, 28, 32, 33, 34, 35, 36, 37, 38, 39, 40, 41, 42, 43, 44, 45, 46, 47, 48, 49, 50, 51], 52, rfl, rfl, rfl, by decide, by decide, rfl, rfl, _, hz, rfl⟩
set_option maxRecDepth 100000 in
set_option maxHeartbeats 4000000 in
theorem mc_points (l : Launch) (g : GG) (ad : Nat → Nat) (gm : Nat → Option Nat) (hG : GM ad gm) (σ : Stt) (hσ : SOk σ) (k : Nat) (hk0 : k ≠ 0) (hk4 : k < 4) : MC l yX6_points wsX6_points 10 g ad gm [.ref (ad 0), .int (nI k)] σ σ (nI (a_pts σ k)) := by
  intro z hz
  obtain ⟨hd, tlm, thm, al, pp, hp, tr, bs, p, q, bg, bl, bp⟩ := z
  obtain ⟨idn, wF, mF, gr, ch⟩ := σ
  obtain ⟨hn, hw, hg, hc, hm, ho⟩ := hσ
  have hn : ∀ i, idn i ≤ 5 := hn
  have hw : ∀ i, grOk (wF i) := hw
  have hg : grOk gr := hg
  have hc : chOk ch := hc
  have hm : ∀ i, mOk (mF i) := hm
  have hz : LSc tlm thm al pp hp tr bs := hz
  rcases (show k = 1 ∨ k = 2 ∨ k = 3 by omega) with rfl | rfl | rfl
  · skip
    refine im_frame (c_X6_points l g (ad 0) (ad 1) (ad 2) (ad 3) (ad 4) (ad 5) (ad 6) (ad 7) (ad 8) (ad 9) (ad 10) (ad 11) (ad 12) (ad 13) (ad 26) (ad 27) (ad 28) (ad 29) (ad 30) (ad 31) (ad 32) (ad 33) (ad 34) (ad 35) (ad 36) (ad 37) (ad 38) (ad 39) (ad 40) (ad 41) (ad 42) (ad 43) (ad 44) (ad 45) (ad 46) (ad 47) (ad 48) (ad 49) (ad 50) (ad 51) (wF 0) (mF 0) (wF 1) (mF 1) gr hd tlm thm al pp hp ch tr bs (idn 0) (idn 1) p q bg bl bp gm 1 (by decide) (by decide) hG.2.1 (hn 0) (hn 1) (hw 0) (hw 1) hg hc (hm 0) (hm 1) hz.2.2.1 hz.2.2.2.1 hz.2.2.2.2.1 hz.2.2.2.2.2.1 hz.2.2.2.2.2.2 ) [0, 2, 3, 4, 5, 6, 7, 8, 9, 10, 11, 12, 13, 26, 27, 28, 29, 30, 31, 32, 33, 34, 35, 36, 37, 38, 39, 40, 41, 42, 43, 44, 45, 46, 47, 48, 49, 50, 51, 1] rfl (by decide) ?_
    rintro x w1 ⟨rfl, rfl⟩
    exact ⟨MW g ad gm (idn, wF, mF, gr, ch) (clo ch (mF 0), tlm, thm, (alN gr (wF 0) (wF 1) (idn 1) (idn 0) al), (pp1 ch gr (wF 0) (wF 1) (mF 0) (mF 1) al pp hp (idn 0) (idn 1)), (hp1 ch gr (wF 0) (wF 1) (mF 0) (mF 1) al pp hp (idn 0) (idn 1)), (fb1 ch gr (wF 0) (wF 1) (mF 0) (mF 1) al pp hp tr bs (idn 0) (idn 1)).1, (fb1 ch gr (wF 0) (wF 1) (mF 0) (mF 1) al pp hp tr bs (idn 0) (idn 1)).2.2, idn 0, idn 1, bg, bl, (fb1 ch gr (wF 0) (wF 1) (mF 0) (mF 1) al pp hp tr bs (idn 0) (idn 1)).2.1), [14, 15, 16, 17, 18, 19, 20, 21, 22, 23, 24, 25], 52, rfl, rfl, rfl, by decide, by decide, rfl, by rw [(fb1_res (hn 0) (hn 1)).1]; rfl, _, sc_fb hz (hn 0) (hn 1), rfl⟩
  · skip
    refine im_frame (c_X6_points l g (ad 0) (ad 1) (ad 2) (ad 3) (ad 4) (ad 5) (ad 6) (ad 7) (ad 14) (ad 15) (ad 16) (ad 17) (ad 18) (ad 19) (ad 26) (ad 27) (ad 28) (ad 29) (ad 30) (ad 31) (ad 32) (ad 33) (ad 34) (ad 35) (ad 36) (ad 37) (ad 38) (ad 39) (ad 40) (ad 41) (ad 42) (ad 43) (ad 44) (ad 45) (ad 46) (ad 47) (ad 48) (ad 49) (ad 50) (ad 51) (wF 0) (mF 0) (wF 2) (mF 2) gr hd tlm thm al pp hp ch tr bs (idn 0) (idn 2) p q bg bl bp gm 2 (by decide) (by decide) hG.2.2.1 (hn 0) (hn 2) (hw 0) (hw 2) hg hc (hm 0) (hm 2) hz.2.2.1 hz.2.2.2.1 hz.2.2.2.2.1 hz.2.2.2.2.2.1 hz.2.2.2.2.2.2 ) [0, 2, 3, 4, 5, 6, 7, 14, 15, 16, 17, 18, 19, 26, 27, 28, 29, 30, 31, 32, 33, 34, 35, 36, 37, 38, 39, 40, 41, 42, 43, 44, 45, 46, 47, 48, 49, 50, 51, 1] rfl (by decide) ?_
    rintro x w1 ⟨rfl, rfl⟩
    exact ⟨MW g ad gm (idn, wF, mF, gr, ch) (clo ch (mF 0), tlm, thm, (alN gr (wF 0) (wF 2) (idn 2) (idn 0) al), (pp1 ch gr (wF 0) (wF 2) (mF 0) (mF 2) al pp hp (idn 0) (idn 2)), (hp1 ch gr (wF 0) (wF 2) (mF 0) (mF 2) al pp hp (idn 0) (idn 2)), (fb1 ch gr (wF 0) (wF 2) (mF 0) (mF 2) al pp hp tr bs (idn 0) (idn 2)).1, (fb1 ch gr (wF 0) (wF 2) (mF 0) (mF 2) al pp hp tr bs (idn 0) (idn 2)).2.2, idn 0, idn 2, bg, bl, (fb1 ch gr (wF 0) (wF 2) (mF 0) (mF 2) al pp hp tr bs (idn 0) (idn 2)).2.1), [8, 9, 10, 11, 12, 13, 20, 21, 22, 23, 24, 25], 52, rfl, rfl, rfl, by decide, by decide, rfl, by rw [(fb1_res (hn 0) (hn 2)).1]; rfl, _, sc_fb hz (hn 0) (hn 2), rfl⟩
  · skip
    refine im_frame (c_X6_points l g (ad 0) (ad 1) (ad 2) (ad 3) (ad 4) (ad 5) (ad 6) (ad 7) (ad 20) (ad 21) (ad 22) (ad 23) (ad 24) (ad 25) (ad 26) (ad 27) (ad 28) (ad 29) (ad 30) (ad 31) (ad 32) (ad 33) (ad 34) (ad 35) (ad 36) (ad 37) (ad 38) (ad 39) (ad 40) (ad 41) (ad 42) (ad 43) (ad 44) (ad 45) (ad 46) (ad 47) (ad 48) (ad 49) (ad 50) (ad 51) (wF 0) (mF 0) (wF 3) (mF 3) gr hd tlm thm al pp hp ch tr bs (idn 0) (idn 3) p q bg bl bp gm 3 (by decide) (by decide) hG.2.2.2 (hn 0) (hn 3) (hw 0) (hw 3) hg hc (hm 0) (hm 3) hz.2.2.1 hz.2.2.2.1 hz.2.2.2.2.1 hz.2.2.2.2.2.1 hz.2.2.2.2.2.2 ) [0, 2, 3, 4, 5, 6, 7, 20, 21, 22, 23, 24, 25, 26, 27, 28, 29, 30, 31, 32, 33, 34, 35, 36, 37, 38, 39, 40, 41, 42, 43, 44, 45, 46, 47, 48, 49, 50, 51, 1] rfl (by decide) ?_
    rintro x w1 ⟨rfl, rfl⟩
    exact ⟨MW g ad gm (idn, wF, mF, gr, ch) (clo ch (mF 0), tlm, thm, (alN gr (wF 0) (wF 3) (idn 3) (idn 0) al), (pp1 ch gr (wF 0) (wF 3) (mF 0) (mF 3) al pp hp (idn 0) (idn 3)), (hp1 ch gr (wF 0) (wF 3) (mF 0) (mF 3) al pp hp (idn 0) (idn 3)), (fb1 ch gr (wF 0) (wF 3) (mF 0) (mF 3) al pp hp tr bs (idn 0) (idn 3)).1, (fb1 ch gr (wF 0) (wF 3) (mF 0) (mF 3) al pp hp tr bs (idn 0) (idn 3)).2.2, idn 0, idn 3, bg, bl, (fb1 ch gr (wF 0) (wF 3) (mF 0) (mF 3) al pp hp tr bs (idn 0) (idn 3)).2.1), [8, 9, 10, 11, 12, 13, 14, 15, 16, 17, 18, 19], 52, rfl, rfl, rfl, by decide, by decide, rfl, by rw [(fb1_res (hn 0) (hn 3)).1]; rfl, _, sc_fb hz (hn 0) (hn 3), rfl⟩
set_option maxRecDepth 100000 in
set_option maxHeartbeats 4000000 in
theorem mc_pointsByTrying (l : Launch) (g : GG) (ad : Nat → Nat) (gm : Nat → Option Nat) (hG : GM ad gm) (σ : Stt) (hσ : SOk σ) (k : Nat) (hk0 : k ≠ 0) (hk4 : k < 4) : MC l yX6_pointsByTrying wsX6_pointsByTrying 10 g ad gm [.ref (ad 0), .int (nI k)] σ σ (nI (a_pts σ k)) := by
  intro z hz
  obtain ⟨hd, tlm, thm, al, pp, hp, tr, bs, p, q, bg, bl, bp⟩ := z
  obtain ⟨idn, wF, mF, gr, ch⟩ := σ
  obtain ⟨hn, hw, hg, hc, hm, ho⟩ := hσ
  have hn : ∀ i, idn i ≤ 5 := hn
  have hw : ∀ i, grOk (wF i) := hw
  have hg : grOk gr := hg
  have hc : chOk ch := hc
  have hm : ∀ i, mOk (mF i) := hm
  have hz : LSc tlm thm al pp hp tr bs := hz
  rcases (show k = 1 ∨ k = 2 ∨ k = 3 by omega) with rfl | rfl | rfl
  · skip
    refine im_frame (c_X6_pointsByTrying l g (ad 0) (ad 1) (ad 2) (ad 3) (ad 4) (ad 5) (ad 6) (ad 7) (ad 8) (ad 9) (ad 10) (ad 11) (ad 12) (ad 13) (ad 26) (ad 27) (ad 28) (ad 29) (ad 30) (ad 31) (ad 32) (ad 33) (ad 34) (ad 35) (ad 36) (ad 37) (ad 38) (ad 39) (ad 40) (ad 41) (ad 42) (ad 43) (ad 44) (ad 45) (ad 46) (ad 47) (ad 48) (ad 49) (ad 50) (ad 51) (wF 0) (mF 0) (wF 1) (mF 1) gr hd tlm thm al pp hp ch tr bs (idn 0) (idn 1) p q bg bl bp gm 1 (by decide) (by decide) hG.2.1 (hn 0) (hn 1) (hw 0) (hw 1) hg hc (hm 0) (hm 1) hz.2.2.1 hz.2.2.2.1 hz.2.2.2.2.1 hz.2.2.2.2.2.1 hz.2.2.2.2.2.2 ) [0, 2, 3, 4, 5, 6, 7, 8, 9, 10, 11, 12, 13, 26, 27, 28, 29, 30, 31, 32, 33, 34, 35, 36, 37, 38, 39, 40, 41, 42, 43, 44, 45, 46, 47, 48, 49, 50, 51, 1] rfl (by decide) ?_
    rintro x w1 ⟨rfl, rfl⟩
    exact ⟨MW g ad gm (idn, wF, mF, gr, ch) (clo ch (mF 0), tlm, thm, (alN gr (wF 0) (wF 1) (idn 1) (idn 0) al), (pp1 ch gr (wF 0) (wF 1) (mF 0) (mF 1) al pp hp (idn 0) (idn 1)), (hp1 ch gr (wF 0) (wF 1) (mF 0) (mF 1) al pp hp (idn 0) (idn 1)), (mbF (idn 1) (alN gr (wF 0) (wF 1) (idn 1) (idn 0) al) (pp1 ch gr (wF 0) (wF 1) (mF 0) (mF 1) al pp hp (idn 0) (idn 1)) (idn 0) tr).2, bs, idn 0, idn 1, bg, bl, bp), [14, 15, 16, 17, 18, 19, 20, 21, 22, 23, 24, 25], 52, rfl, rfl, rfl, by decide, by decide, rfl, by rw [mb1_res (hn 0) (hn 1)]; rfl, _, sc_mb hz (hn 0) (hn 1), rfl⟩
  · skip
    refine im_frame (c_X6_pointsByTrying l g (ad 0) (ad 1) (ad 2) (ad 3) (ad 4) (ad 5) (ad 6) (ad 7) (ad 14) (ad 15) (ad 16) (ad 17) (ad 18) (ad 19) (ad 26) (ad 27) (ad 28) (ad 29) (ad 30) (ad 31) (ad 32) (ad 33) (ad 34) (ad 35) (ad 36) (ad 37) (ad 38) (ad 39) (ad 40) (ad 41) (ad 42) (ad 43) (ad 44) (ad 45) (ad 46) (ad 47) (ad 48) (ad 49) (ad 50) (ad 51) (wF 0) (mF 0) (wF 2) (mF 2) gr hd tlm thm al pp hp ch tr bs (idn 0) (idn 2) p q bg bl bp gm 2 (by decide) (by decide) hG.2.2.1 (hn 0) (hn 2) (hw 0) (hw 2) hg hc (hm 0) (hm 2) hz.2.2.1 hz.2.2.2.1 hz.2.2.2.2.1 hz.2.2.2.2.2.1 hz.2.2.2.2.2.2 ) [0, 2, 3, 4, 5, 6, 7, 14, 15, 16, 17, 18, 19, 26, 27, 28, 29, 30, 31, 32, 33, 34, 35, 36, 37, 38, 39, 40, 41, 42, 43, 44, 45, 46, 47, 48, 49, 50, 51, 1] rfl (by decide) ?_
    rintro x w1 ⟨rfl, rfl⟩
    exact ⟨MW g ad gm (idn, wF, mF, gr, ch) (clo ch (mF 0), tlm, thm, (alN gr (wF 0) (wF 2) (idn 2) (idn 0) al), (pp1 ch gr (wF 0) (wF 2) (mF 0) (mF 2) al pp hp (idn 0) (idn 2)), (hp1 ch gr (wF 0) (wF 2) (mF 0) (mF 2) al pp hp (idn 0) (idn 2)), (mbF (idn 2) (alN gr (wF 0) (wF 2) (idn 2) (idn 0) al) (pp1 ch gr (wF 0) (wF 2) (mF 0) (mF 2) al pp hp (idn 0) (idn 2)) (idn 0) tr).2, bs, idn 0, idn 2, bg, bl, bp), [8, 9, 10, 11, 12, 13, 20, 21, 22, 23, 24, 25], 52, rfl, rfl, rfl, by decide, by decide, rfl, by rw [mb1_res (hn 0) (hn 2)]; rfl, _, sc_mb hz (hn 0) (hn 2), rfl⟩
  · skip
    refine im_frame (c_X6_pointsByTrying l g (ad 0) (ad 1) (ad 2) (ad 3) (ad 4) (ad 5) (ad 6) (ad 7) (ad 20) (ad 21) (ad 22) (ad 23) (ad 24) (ad 25) (ad 26) (ad 27) (ad 28) (ad 29) (ad 30) (ad 31) (ad 32) (ad 33) (ad 34) (ad 35) (ad 36) (ad 37) (ad 38) (ad 39) (ad 40) (ad 41) (ad 42) (ad 43) (ad 44) (ad 45) (ad 46) (ad 47) (ad 48) (ad 49) (ad 50) (ad 51) (wF 0) (mF 0) (wF 3) (mF 3) gr hd tlm thm al pp hp ch tr bs (idn 0) (idn 3) p q bg bl bp gm 3 (by decide) (by decide) hG.2.2.2 (hn 0) (hn 3) (hw 0) (hw 3) hg hc (hm 0) (hm 3) hz.2.2.1 hz.2.2.2.1 hz.2.2.2.2.1 hz.2.2.2.2.2.1 hz.2.2.2.2.2.2 ) [0, 2, 3, 4, 5, 6, 7, 20, 21, 22, 23, 24, 25, 26, 27, 28, 29, 30, 31, 32, 33, 34, 35, 36, 37, 38, 39, 40, 41, 42, 43, 44, 45, 46, 47, 48, 49, 50, 51, 1] rfl (by decide) ?_
    rintro x w1 ⟨rfl, rfl⟩
    exact ⟨MW g ad gm (idn, wF, mF, gr, ch) (clo ch (mF 0), tlm, thm, (alN gr (wF 0) (wF 3) (idn 3) (idn 0) al), (pp1 ch gr (wF 0) (wF 3) (mF 0) (mF 3) al pp hp (idn 0) (idn 3)), (hp1 ch gr (wF 0) (wF 3) (mF 0) (mF 3) al pp hp (idn 0) (idn 3)), (mbF (idn 3) (alN gr (wF 0) (wF 3) (idn 3) (idn 0) al) (pp1 ch gr (wF 0) (wF 3) (mF 0) (mF 3) al pp hp (idn 0) (idn 3)) (idn 0) tr).2, bs, idn 0, idn 3, bg, bl, bp), [8, 9, 10, 11, 12, 13, 14, 15, 16, 17, 18, 19], 52, rfl, rfl, rfl, by decide, by decide, rfl, by rw [mb1_res (hn 0) (hn 3)]; rfl, _, sc_mb hz (hn 0) (hn 3), rfl⟩
set_option maxRecDepth 100000 in
set_option maxHeartbeats 4000000 in
theorem mc_matchOf (l : Launch) (g : GG) (ad : Nat → Nat) (gm : Nat → Option Nat) (hG : GM ad gm) (σ : Stt) (hσ : SOk σ) (k : Nat) (hk0 : k ≠ 0) (hk4 : k < 4) (i : Nat) (hi : i < s_n σ 0) : MC l yX6_matchOf wsX6_matchOf 10 g ad gm [.ref (ad 0), .int (nI k), .int (nI i)] σ σ (oI (a_re σ k i)) := by
  intro z hz
  obtain ⟨hd, tlm, thm, al, pp, hp, tr, bs, p, q, bg, bl, bp⟩ := z
  obtain ⟨idn, wF, mF, gr, ch⟩ := σ
  obtain ⟨hn, hw, hg, hc, hm, ho⟩ := hσ
  have hn : ∀ i, idn i ≤ 5 := hn
  have hw : ∀ i, grOk (wF i) := hw
  have hg : grOk gr := hg
  have hc : chOk ch := hc
  have hm : ∀ i, mOk (mF i) := hm
  have hz : LSc tlm thm al pp hp tr bs := hz
  rcases (show k = 1 ∨ k = 2 ∨ k = 3 by omega) with rfl | rfl | rfl
  · skip
    refine im_frame (c_X6_matchOf l g (ad 0) (ad 1) (ad 2) (ad 3) (ad 4) (ad 5) (ad 6) (ad 7) (ad 8) (ad 9) (ad 10) (ad 11) (ad 12) (ad 13) (ad 26) (ad 27) (ad 28) (ad 29) (ad 30) (ad 31) (ad 32) (ad 33) (ad 34) (ad 35) (ad 36) (ad 37) (ad 38) (ad 39) (ad 40) (ad 41) (ad 42) (ad 43) (ad 44) (ad 45) (ad 46) (ad 47) (ad 48) (ad 49) (ad 50) (ad 51) (wF 0) (mF 0) (wF 1) (mF 1) gr hd tlm thm al pp hp ch tr bs (idn 0) (idn 1) p q bg bl bp gm 1 (by decide) (by decide) hG.2.1 (hn 0) (hn 1) (hw 0) (hw 1) hg hc (hm 0) (hm 1) hz.2.2.1 hz.2.2.2.1 hz.2.2.2.2.1 hz.2.2.2.2.2.1 hz.2.2.2.2.2.2 i hi) [0, 2, 3, 4, 5, 6, 7, 8, 9, 10, 11, 12, 13, 26, 27, 28, 29, 30, 31, 32, 33, 34, 35, 36, 37, 38, 39, 40, 41, 42, 43, 44, 45, 46, 47, 48, 49, 50, 51, 1] rfl (by decide) ?_
    rintro x w1 ⟨rfl, rfl⟩
    exact ⟨MW g ad gm (idn, wF, mF, gr, ch) (clo ch (mF 0), tlm, thm, (alN gr (wF 0) (wF 1) (idn 1) (idn 0) al), (pp1 ch gr (wF 0) (wF 1) (mF 0) (mF 1) al pp hp (idn 0) (idn 1)), (hp1 ch gr (wF 0) (wF 1) (mF 0) (mF 1) al pp hp (idn 0) (idn 1)), (fb1 ch gr (wF 0) (wF 1) (mF 0) (mF 1) al pp hp tr bs (idn 0) (idn 1)).1, (fb1 ch gr (wF 0) (wF 1) (mF 0) (mF 1) al pp hp tr bs (idn 0) (idn 1)).2.2, idn 0, idn 1, bg, bl, (fb1 ch gr (wF 0) (wF 1) (mF 0) (mF 1) al pp hp tr bs (idn 0) (idn 1)).2.1), [14, 15, 16, 17, 18, 19, 20, 21, 22, 23, 24, 25], 52, rfl, rfl, rfl, by decide, by decide, rfl, by rw [(fb1_res (hn 0) (hn 1)).2 i hi]; rfl, _, sc_fb hz (hn 0) (hn 1), rfl⟩
  · skip
    refine im_frame (c_X6_matchOf l g (ad 0) (ad 1) (ad 2) (ad 3) (ad 4) (ad 5) (ad 6) (ad 7) (ad 14) (ad 15) (ad 16) (ad 17) (ad 18) (ad 19) (ad 26) (ad 27) (ad 28) (ad 29) (ad 30) (ad 31) (ad 32) (ad 33) (ad 34) (ad 35) (ad 36) (ad 37) (ad 38) (ad 39) (ad 40) (ad 41) (ad 42) (ad 43) (ad 44) (ad 45) (ad 46) (ad 47) (ad 48) (ad 49) (ad 50) (ad 51) (wF 0) (mF 0) (wF 2) (mF 2) gr hd tlm thm al pp hp ch tr bs (idn 0) (idn 2) p q bg bl bp gm 2 (by decide) (by decide) hG.2.2.1 (hn 0) (hn 2) (hw 0) (hw 2) hg hc (hm 0) (hm 2) hz.2.2.1 hz.2.2.2.1 hz.2.2.2.2.1 hz.2.2.2.2.2.1 hz.2.2.2.2.2.2 i hi) [0, 2, 3, 4, 5, 6, 7, 14, 15, 16, 17, 18, 19, 26, 27, 28, 29, 30, 31, 32, 33, 34, 35, 36, 37, 38, 39, 40, 41, 42, 43, 44, 45, 46, 47, 48, 49, 50, 51, 1] rfl (by decide) ?_
    rintro x w1 ⟨rfl, rfl⟩
    exact ⟨MW g ad gm (idn, wF, mF, gr, ch) (clo ch (mF 0), tlm, thm, (alN gr (wF 0) (wF 2) (idn 2) (idn 0) al), (pp1 ch gr (wF 0) (wF 2) (mF 0) (mF 2) al pp hp (idn 0) (idn 2)), (hp1 ch gr (wF 0) (wF 2) (mF 0) (mF 2) al pp hp (idn 0) (idn 2)), (fb1 ch gr (wF 0) (wF 2) (mF 0) (mF 2) al pp hp tr bs (idn 0) (idn 2)).1, (fb1 ch gr (wF 0) (wF 2) (mF 0) (mF 2) al pp hp tr bs (idn 0) (idn 2)).2.2, idn 0, idn 2, bg, bl, (fb1 ch gr (wF 0) (wF 2) (mF 0) (mF 2) al pp hp tr bs (idn 0) (idn 2)).2.1), [8, 9, 10, 11, 12, 13, 20, 21, 22, 23, 24, 25], 52, rfl, rfl, rfl, by decide, by decide, rfl, by rw [(fb1_res (hn 0) (hn 2)).2 i hi]; rfl, _, sc_fb hz (hn 0) (hn 2), rfl⟩
  · skip
    refine im_frame (c_X6_matchOf l g (ad 0) (ad 1) (ad 2) (ad 3) (ad 4) (ad 5) (ad 6) (ad 7) (ad 20) (ad 21) (ad 22) (ad 23) (ad 24) (ad 25) (ad 26) (ad 27) (ad 28) (ad 29) (ad 30) (ad 31) (ad 32) (ad 33) (ad 34) (ad 35) (ad 36) (ad 37) (ad 38) (ad 39) (ad 40) (ad 41) (ad 42) (ad 43) (ad 44) (ad 45) (ad 46) (ad 47) (ad 48) (ad 49) (ad 50) (ad 51) (wF 0) (mF 0) (wF 3) (mF 3) gr hd tlm thm al pp hp ch tr bs (idn 0) (idn 3) p q bg bl bp gm 3 (by decide) (by decide) hG.2.2.2 (hn 0) (hn 3) (hw 0) (hw 3) hg hc (hm 0) (hm 3) hz.2.2.1 hz.2.2.2.1 hz.2.2.2.2.1 hz.2.2.2.2.2.1 hz.2.2.2.2.2.2 i hi) [0, 2, 3, 4, 5, 6, 7, 20, 21, 22, 23, 24, 25, 26, 27, 28, 29, 30, 31, 32, 33, 34, 35, 36, 37, 38, 39, 40, 41, 42, 43, 44, 45, 46, 47, 48, 49, 50, 51, 1] rfl (by decide) ?_
    rintro x w1 ⟨rfl, rfl⟩
    exact ⟨MW g ad gm (idn, wF, mF, gr, ch) (clo ch (mF 0), tlm, thm, (alN gr (wF 0) (wF 3) (idn 3) (idn 0) al), (pp1 ch gr (wF 0) (wF 3) (mF 0) (mF 3) al pp hp (idn 0) (idn 3)), (hp1 ch gr (wF 0) (wF 3) (mF 0) (mF 3) al pp hp (idn 0) (idn 3)), (fb1 ch gr (wF 0) (wF 3) (mF 0) (mF 3) al pp hp tr bs (idn 0) (idn 3)).1, (fb1 ch gr (wF 0) (wF 3) (mF 0) (mF 3) al pp hp tr bs (idn 0) (idn 3)).2.2, idn 0, idn 3, bg, bl, (fb1 ch gr (wF 0) (wF 3) (mF 0) (mF 3) al pp hp tr bs (idn 0) (idn 3)).2.1), [8, 9, 10, 11, 12, 13, 14, 15, 16, 17, 18, 19], 52, rfl, rfl, rfl, by decide, by decide, rfl, by rw [(fb1_res (hn 0) (hn 3)).2 i hi]; rfl, _, sc_fb hz (hn 0) (hn 3), rfl⟩
set_option maxRecDepth 100000 in
set_option maxHeartbeats 4000000 in
theorem mc_lacking (l : Launch) (g : GG) (ad : Nat → Nat) (gm : Nat → Option Nat) (hG : GM ad gm) (σ : Stt) (hσ : SOk σ) (k : Nat) (hk0 : k ≠ 0) (hk4 : k < 4) : MC l yX6_lacking wsX6_lacking 10 g ad gm [.ref (ad 0), .int (nI k)] σ σ (nI (a_lk σ k)) := by
  intro z hz
  obtain ⟨hd, tlm, thm, al, pp, hp, tr, bs, p, q, bg, bl, bp⟩ := z
  obtain ⟨idn, wF, mF, gr, ch⟩ := σ
  obtain ⟨hn, hw, hg, hc, hm, ho⟩ := hσ
  have hn : ∀ i, idn i ≤ 5 := hn
  have hw : ∀ i, grOk (wF i) := hw
  have hg : grOk gr := hg
  have hc : chOk ch := hc
  have hm : ∀ i, mOk (mF i) := hm
  have hz : LSc tlm thm al pp hp tr bs := hz
  rcases (show k = 1 ∨ k = 2 ∨ k = 3 by omega) with rfl | rfl | rfl
  · skip
    refine im_frame (c_X6_lacking l g (ad 0) (ad 1) (ad 2) (ad 3) (ad 4) (ad 5) (ad 6) (ad 7) (ad 8) (ad 9) (ad 10) (ad 11) (ad 12) (ad 13) (ad 26) (ad 27) (ad 28) (ad 29) (ad 30) (ad 31) (ad 32) (ad 33) (ad 34) (ad 35) (ad 36) (ad 37) (ad 38) (ad 39) (ad 40) (ad 41) (ad 42) (ad 43) (ad 44) (ad 45) (ad 46) (ad 47) (ad 48) (ad 49) (ad 50) (ad 51) (wF 0) (mF 0) (wF 1) (mF 1) gr hd tlm thm al pp hp ch tr bs (idn 0) (idn 1) p q bg bl bp gm 1 (by decide) (by decide) hG.2.1 (hn 0) (hn 1) (hw 0) (hw 1) hg hc (hm 0) (hm 1) hz.2.2.1 hz.2.2.2.1 hz.2.2.2.2.1 hz.2.2.2.2.2.1 hz.2.2.2.2.2.2 ) [0, 2, 3, 4, 5, 6, 7, 8, 9, 10, 11, 12, 13, 26, 27, 28, 29, 30, 31, 32, 33, 34, 35, 36, 37, 38, 39, 40, 41, 42, 43, 44, 45, 46, 47, 48, 49, 50, 51, 1] rfl (by decide) ?_
    rintro x w1 ⟨rfl, rfl⟩
    exact ⟨MW g ad gm (idn, wF, mF, gr, ch) (clo ch (mF 0), tlm, thm, (alN gr (wF 0) (wF 1) (idn 1) (idn 0) al), (pp1 ch gr (wF 0) (wF 1) (mF 0) (mF 1) al pp hp (idn 0) (idn 1)), (hp1 ch gr (wF 0) (wF 1) (mF 0) (mF 1) al pp hp (idn 0) (idn 1)), (fb1 ch gr (wF 0) (wF 1) (mF 0) (mF 1) al pp hp tr bs (idn 0) (idn 1)).1, (fb1 ch gr (wF 0) (wF 1) (mF 0) (mF 1) al pp hp tr bs (idn 0) (idn 1)).2.2, idn 0, idn 1, bg, bl, (fb1 ch gr (wF 0) (wF 1) (mF 0) (mF 1) al pp hp tr bs (idn 0) (idn 1)).2.1), [14, 15, 16, 17, 18, 19, 20, 21, 22, 23, 24, 25], 52, rfl, rfl, rfl, by decide, by decide, rfl, by rw [fb1_lk (hn 0) (hn 1)]; rfl, _, sc_fb hz (hn 0) (hn 1), rfl⟩
  · skip
    refine im_frame (c_X6_lacking l g (ad 0) (ad 1) (ad 2) (ad 3) (ad 4) (ad 5) (ad 6) (ad 7) (ad 14) (ad 15) (ad 16) (ad 17) (ad 18) (ad 19) (ad 26) (ad 27) (ad 28) (ad 29) (ad 30) (ad 31) (ad 32) (ad 33) (ad 34) (ad 35) (ad 36) (ad 37) (ad 38) (ad 39) (ad 40) (ad 41) (ad 42) (ad 43) (ad 44) (ad 45) (ad 46) (ad 47) (ad 48) (ad 49) (ad 50) (ad 51) (wF 0) (mF 0) (wF 2) (mF 2) gr hd tlm thm al pp hp ch tr bs (idn 0) (idn 2) p q bg bl bp gm 2 (by decide) (by decide) hG.2.2.1 (hn 0) (hn 2) (hw 0) (hw 2) hg hc (hm 0) (hm 2) hz.2.2.1 hz.2.2.2.1 hz.2.2.2.2.1 hz.2.2.2.2.2.1 hz.2.2.2.2.2.2 ) [0, 2, 3, 4, 5, 6, 7, 14, 15, 16, 17, 18, 19, 26, 27, 28, 29, 30, 31, 32, 33, 34, 35, 36, 37, 38, 39, 40, 41, 42, 43, 44, 45, 46, 47, 48, 49, 50, 51, 1] rfl (by decide) ?_
    rintro x w1 ⟨rfl, rfl⟩
    exact ⟨MW g ad gm (idn, wF, mF, gr, ch) (clo ch (mF 0), tlm, thm, (alN gr (wF 0) (wF 2) (idn 2) (idn 0) al), (pp1 ch gr (wF 0) (wF 2) (mF 0) (mF 2) al pp hp (idn 0) (idn 2)), (hp1 ch gr (wF 0) (wF 2) (mF 0) (mF 2) al pp hp (idn 0) (idn 2)), (fb1 ch gr (wF 0) (wF 2) (mF 0) (mF 2) al pp hp tr bs (idn 0) (idn 2)).1, (fb1 ch gr (wF 0) (wF 2) (mF 0) (mF 2) al pp hp tr bs (idn 0) (idn 2)).2.2, idn 0, idn 2, bg, bl, (fb1 ch gr (wF 0) (wF 2) (mF 0) (mF 2) al pp hp tr bs (idn 0) (idn 2)).2.1), [8, 9, 10, 11, 12, 13, 20, 21, 22, 23, 24, 25], 52, rfl, rfl, rfl, by decide, by decide, rfl, by rw [fb1_lk (hn 0) (hn 2)]; rfl, _, sc_fb hz (hn 0) (hn 2), rfl⟩
  · skip
    refine im_frame (c_X6_lacking l g (ad 0) (ad 1) (ad 2) (ad 3) (ad 4) (ad 5) (ad 6) (ad 7) (ad 20) (ad 21) (ad 22) (ad 23) (ad 24) (ad 25) (ad 26) (ad 27) (ad 28) (ad 29) (ad 30) (ad 31) (ad 32) (ad 33) (ad 34) (ad 35) (ad 36) (ad 37) (ad 38) (ad 39) (ad 40) (ad 41) (ad 42) (ad 43) (ad 44) (ad 45) (ad 46) (ad 47) (ad 48) (ad 49) (ad 50) (ad 51) (wF 0) (mF 0) (wF 3) (mF 3) gr hd tlm thm al pp hp ch tr bs (idn 0) (idn 3) p q bg bl bp gm 3 (by decide) (by decide) hG.2.2.2 (hn 0) (hn 3) (hw 0) (hw 3) hg hc (hm 0) (hm 3) hz.2.2.1 hz.2.2.2.1 hz.2.2.2.2.1 hz.2.2.2.2.2.1 hz.2.2.2.2.2.2 ) [0, 2, 3, 4, 5, 6, 7, 20, 21, 22, 23, 24, 25, 26, 27, 28, 29, 30, 31, 32, 33, 34, 35, 36, 37, 38, 39, 40, 41, 42, 43, 44, 45, 46, 47, 48, 49, 50, 51, 1] rfl (by decide) ?_
    rintro x w1 ⟨rfl, rfl⟩
    exact ⟨MW g ad gm (idn, wF, mF, gr, ch) (clo ch (mF 0), tlm, thm, (alN gr (wF 0) (wF 3) (idn 3) (idn 0) al), (pp1 ch gr (wF 0) (wF 3) (mF 0) (mF 3) al pp hp (idn 0) (idn 3)), (hp1 ch gr (wF 0) (wF 3) (mF 0) (mF 3) al pp hp (idn 0) (idn 3)), (fb1 ch gr (wF 0) (wF 3) (mF 0) (mF 3) al pp hp tr bs (idn 0) (idn 3)).1, (fb1 ch gr (wF 0) (wF 3) (mF 0) (mF 3) al pp hp tr bs (idn 0) (idn 3)).2.2, idn 0, idn 3, bg, bl, (fb1 ch gr (wF 0) (wF 3) (mF 0) (mF 3) al pp hp tr bs (idn 0) (idn 3)).2.1), [8, 9, 10, 11, 12, 13, 14, 15, 16, 17, 18, 19], 52, rfl, rfl, rfl, by decide, by decide, rfl, by rw [fb1_lk (hn 0) (hn 3)]; rfl, _, sc_fb hz (hn 0) (hn 3), rfl⟩
set_option maxRecDepth 100000 in
set_option maxHeartbeats 4000000 in
theorem mc_verdict (l : Launch) (g : GG) (ad : Nat → Nat) (gm : Nat → Option Nat) (hG : GM ad gm) (σ : Stt) (hσ : SOk σ) (k : Nat) (hk0 : k ≠ 0) (hk4 : k < 4) (f t d : Nat) (hf : f < s_n σ k) (ht : t < s_n σ k) (hft : f ≠ t) (hd4 : d < 4) (hhas : (s_m σ k (f * 5 + t)).testBit d = true) : MC l yX6_verdict wsX6_verdict 10 g ad gm [.ref (ad 0), .int (nI k), .int (nI f), .int (nI t), .int (nI d)] σ σ (nI (a_vd σ k f t d)) := by
  intro z hz
  obtain ⟨hd, tlm, thm, al, pp, hp, tr, bs, p, q, bg, bl, bp⟩ := z
  obtain ⟨idn, wF, mF, gr, ch⟩ := σ
  obtain ⟨hn, hw, hg, hc, hm, ho⟩ := hσ
  have hn : ∀ i, idn i ≤ 5 := hn
  have hw : ∀ i, grOk (wF i) := hw
  have hg : grOk gr := hg
  have hc : chOk ch := hc
  have hm : ∀ i, mOk (mF i) := hm
  have hz : LSc tlm thm al pp hp tr bs := hz
  rcases (show k = 1 ∨ k = 2 ∨ k = 3 by omega) with rfl | rfl | rfl
  · skip
    refine im_frame (c_X6_verdict l g (ad 0) (ad 1) (ad 2) (ad 3) (ad 4) (ad 5) (ad 6) (ad 7) (ad 8) (ad 9) (ad 10) (ad 11) (ad 12) (ad 13) (ad 26) (ad 27) (ad 28) (ad 29) (ad 30) (ad 31) (ad 32) (ad 33) (ad 34) (ad 35) (ad 36) (ad 37) (ad 38) (ad 39) (ad 40) (ad 41) (ad 42) (ad 43) (ad 44) (ad 45) (ad 46) (ad 47) (ad 48) (ad 49) (ad 50) (ad 51) (wF 0) (mF 0) (wF 1) (mF 1) gr hd tlm thm al pp hp ch tr bs (idn 0) (idn 1) p q bg bl bp gm 1 (by decide) (by decide) hG.2.1 (hn 0) (hn 1) (hw 0) (hw 1) hg hc (hm 0) (hm 1) hz.2.2.1 hz.2.2.2.1 hz.2.2.2.2.1 hz.2.2.2.2.2.1 hz.2.2.2.2.2.2 f t d hf ht hft hd4 hhas) [0, 2, 3, 4, 5, 6, 7, 8, 9, 10, 11, 12, 13, 26, 27, 28, 29, 30, 31, 32, 33, 34, 35, 36, 37, 38, 39, 40, 41, 42, 43, 44, 45, 46, 47, 48, 49, 50, 51, 1] rfl (by decide) ?_
    rintro x w1 ⟨rfl, rfl⟩
    exact ⟨MW g ad gm (idn, wF, mF, gr, ch) (clo ch (mF 0), tlm, thm, (alN gr (wF 0) (wF 1) (idn 1) (idn 0) al), (pp1 ch gr (wF 0) (wF 1) (mF 0) (mF 1) al pp hp (idn 0) (idn 1)), (hp1 ch gr (wF 0) (wF 1) (mF 0) (mF 1) al pp hp (idn 0) (idn 1)), (fb1 ch gr (wF 0) (wF 1) (mF 0) (mF 1) al pp hp tr bs (idn 0) (idn 1)).1, (fb1 ch gr (wF 0) (wF 1) (mF 0) (mF 1) al pp hp tr bs (idn 0) (idn 1)).2.2, idn 0, idn 1, bg, bl, (fb1 ch gr (wF 0) (wF 1) (mF 0) (mF 1) al pp hp tr bs (idn 0) (idn 1)).2.1), [14, 15, 16, 17, 18, 19, 20, 21, 22, 23, 24, 25], 52, rfl, rfl, rfl, by decide, by decide, rfl, by rw [fb1_vd (hn 0) (hn 1)]; rfl, _, sc_fb hz (hn 0) (hn 1), rfl⟩
  · skip
    refine im_frame (c_X6_verdict l g (ad 0) (ad 1) (ad 2) (ad 3) (ad 4) (ad 5) (ad 6) (ad 7) (ad 14) (ad 15) (ad 16) (ad 17) (ad 18) (ad 19) (ad 26) (ad 27) (ad 28) (ad 29) (ad 30) (ad 31) (ad 32) (ad 33) (ad 34) (ad 35) (ad 36) (ad 37) (ad 38) (ad 39) (ad 40) (ad 41) (ad 42) (ad 43) (ad 44) (ad 45) (ad 46) (ad 47) (ad 48) (ad 49) (ad 50) (ad 51) (wF 0) (mF 0) (wF 2) (mF 2) gr hd tlm thm al pp hp ch tr bs (idn 0) (idn 2) p q bg bl bp gm 2 (by decide) (by decide) hG.2.2.1 (hn 0) (hn 2) (hw 0) (hw 2) hg hc (hm 0) (hm 2) hz.2.2.1 hz.2.2.2.1 hz.2.2.2.2.1 hz.2.2.2.2.2.1 hz.2.2.2.2.2.2 f t d hf ht hft hd4 hhas) [0, 2, 3, 4, 5, 6, 7, 14, 15, 16, 17, 18, 19, 26, 27, 28, 29, 30, 31, 32, 33, 34, 35, 36, 37, 38, 39, 40, 41, 42, 43, 44, 45, 46, 47, 48, 49, 50, 51, 1] rfl (by decide) ?_
    rintro x w1 ⟨rfl, rfl⟩
    exact ⟨MW g ad gm (idn, wF, mF, gr, ch) (clo ch (mF 0), tlm, thm, (alN gr (wF 0) (wF 2) (idn 2) (idn 0) al), (pp1 ch gr (wF 0) (wF 2) (mF 0) (mF 2) al pp hp (idn 0) (idn 2)), (hp1 ch gr (wF 0) (wF 2) (mF 0) (mF 2) al pp hp (idn 0) (idn 2)), (fb1 ch gr (wF 0) (wF 2) (mF 0) (mF 2) al pp hp tr bs (idn 0) (idn 2)).1, (fb1 ch gr (wF 0) (wF 2) (mF 0) (mF 2) al pp hp tr bs (idn 0) (idn 2)).2.2, idn 0, idn 2, bg, bl, (fb1 ch gr (wF 0) (wF 2) (mF 0) (mF 2) al pp hp tr bs (idn 0) (idn 2)).2.1), [8, 9, 10, 11, 12, 13, 20, 21, 22, 23, 24, 25], 52, rfl, rfl, rfl, by decide, by decide, rfl, by rw [fb1_vd (hn 0) (hn 2)]; rfl, _, sc_fb hz (hn 0) (hn 2), rfl⟩
  · skip
    refine im_frame (c_X6_verdict l g (ad 0) (ad 1) (ad 2) (ad 3) (ad 4) (ad 5) (ad 6) (ad 7) (ad 20) (ad 21) (ad 22) (ad 23) (ad 24) (ad 25) (ad 26) (ad 27) (ad 28) (ad 29) (ad 30) (ad 31) (ad 32) (ad 33) (ad 34) (ad 35) (ad 36) (ad 37) (ad 38) (ad 39) (ad 40) (ad 41) (ad 42) (ad 43) (ad 44) (ad 45) (ad 46) (ad 47) (ad 48) (ad 49) (ad 50) (ad 51) (wF 0) (mF 0) (wF 3) (mF 3) gr hd tlm thm al pp hp ch tr bs (idn 0) (idn 3) p q bg bl bp gm 3 (by decide) (by decide) hG.2.2.2 (hn 0) (hn 3) (hw 0) (hw 3) hg hc (hm 0) (hm 3) hz.2.2.1 hz.2.2.2.1 hz.2.2.2.2.1 hz.2.2.2.2.2.1 hz.2.2.2.2.2.2 f t d hf ht hft hd4 hhas) [0, 2, 3, 4, 5, 6, 7, 20, 21, 22, 23, 24, 25, 26, 27, 28, 29, 30, 31, 32, 33, 34, 35, 36, 37, 38, 39, 40, 41, 42, 43, 44, 45, 46, 47, 48, 49, 50, 51, 1] rfl (by decide) ?_
    rintro x w1 ⟨rfl, rfl⟩
    exact ⟨MW g ad gm (idn, wF, mF, gr, ch) (clo ch (mF 0), tlm, thm, (alN gr (wF 0) (wF 3) (idn 3) (idn 0) al), (pp1 ch gr (wF 0) (wF 3) (mF 0) (mF 3) al pp hp (idn 0) (idn 3)), (hp1 ch gr (wF 0) (wF 3) (mF 0) (mF 3) al pp hp (idn 0) (idn 3)), (fb1 ch gr (wF 0) (wF 3) (mF 0) (mF 3) al pp hp tr bs (idn 0) (idn 3)).1, (fb1 ch gr (wF 0) (wF 3) (mF 0) (mF 3) al pp hp tr bs (idn 0) (idn 3)).2.2, idn 0, idn 3, bg, bl, (fb1 ch gr (wF 0) (wF 3) (mF 0) (mF 3) al pp hp tr bs (idn 0) (idn 3)).2.1), [8, 9, 10, 11, 12, 13, 14, 15, 16, 17, 18, 19], 52, rfl, rfl, rfl, by decide, by decide, rfl, by rw [fb1_vd (hn 0) (hn 3)]; rfl, _, sc_fb hz (hn 0) (hn 3), rfl⟩
set_option maxRecDepth 100000 in
set_option maxHeartbeats 4000000 in
theorem mc_hint (l : Launch) (g : GG) (ad : Nat → Nat) (gm : Nat → Option Nat) (hG : GM ad gm) (σ : Stt) (hσ : SOk σ) (k : Nat) (hk0 : k ≠ 0) (hk4 : k < 4) : MC l yX6_hint wsX6_hint 11 g ad gm [.ref (ad 0), .int (nI k)] σ σ (oI (a_hn σ k).1) := by
  intro z hz
  obtain ⟨hd, tlm, thm, al, pp, hp, tr, bs, p, q, bg, bl, bp⟩ := z
  obtain ⟨idn, wF, mF, gr, ch⟩ := σ
  obtain ⟨hn, hw, hg, hc, hm, ho⟩ := hσ
  have hn : ∀ i, idn i ≤ 5 := hn
  have hw : ∀ i, grOk (wF i) := hw
  have hg : grOk gr := hg
  have hc : chOk ch := hc
  have hm : ∀ i, mOk (mF i) := hm
  have hz : LSc tlm thm al pp hp tr bs := hz
  rcases (show k = 1 ∨ k = 2 ∨ k = 3 by omega) with rfl | rfl | rfl
  · skip
    refine im_frame (c_X6_hint l g (ad 0) (ad 1) (ad 2) (ad 3) (ad 4) (ad 5) (ad 6) (ad 7) (ad 8) (ad 9) (ad 10) (ad 11) (ad 12) (ad 13) (ad 26) (ad 27) (ad 28) (ad 29) (ad 30) (ad 31) (ad 32) (ad 33) (ad 34) (ad 35) (ad 36) (ad 37) (ad 38) (ad 39) (ad 40) (ad 41) (ad 42) (ad 43) (ad 44) (ad 45) (ad 46) (ad 47) (ad 48) (ad 49) (ad 50) (ad 51) (wF 0) (mF 0) (wF 1) (mF 1) gr hd tlm thm al pp hp ch tr bs (idn 0) (idn 1) p q bg bl bp gm 1 (by decide) (by decide) hG.2.1 (hn 0) (hn 1) (hw 0) (hw 1) hg hc (hm 0) (hm 1) hz.2.2.1 hz.2.2.2.1 hz.2.2.2.2.1 hz.2.2.2.2.2.1 hz.2.2.2.2.2.2 hz.1 hz.2.1) [0, 2, 3, 4, 5, 6, 7, 8, 9, 10, 11, 12, 13, 26, 27, 28, 29, 30, 31, 32, 33, 34, 35, 36, 37, 38, 39, 40, 41, 42, 43, 44, 45, 46, 47, 48, 49, 50, 51, 1] rfl (by decide) ?_
    rintro x w1 ⟨rfl, rfl⟩
    exact ⟨MW g ad gm (idn, wF, mF, gr, ch) (clo ch (mF 0), (fblR ch gr (wF 0) (wF 1) (mF 0) (mF 1) al pp hp tr bs (idn 0) (idn 1) tlm thm).2.2.1, (fblR ch gr (wF 0) (wF 1) (mF 0) (mF 1) al pp hp tr bs (idn 0) (idn 1) tlm thm).2.2.2.1, (alN gr (wF 0) (wF 1) (idn 1) (idn 0) al), (fblR ch gr (wF 0) (wF 1) (mF 0) (mF 1) al pp hp tr bs (idn 0) (idn 1) tlm thm).2.2.2.2.1, (fblR ch gr (wF 0) (wF 1) (mF 0) (mF 1) al pp hp tr bs (idn 0) (idn 1) tlm thm).2.2.2.2.2.1, (fblR ch gr (wF 0) (wF 1) (mF 0) (mF 1) al pp hp tr bs (idn 0) (idn 1) tlm thm).2.2.2.2.2.2.1, (fblR ch gr (wF 0) (wF 1) (mF 0) (mF 1) al pp hp tr bs (idn 0) (idn 1) tlm thm).2.2.2.2.2.2.2.1, idn 0, idn 1, (fblR ch gr (wF 0) (wF 1) (mF 0) (mF 1) al pp hp tr bs (idn 0) (idn 1) tlm thm).2.1, (fblR ch gr (wF 0) (wF 1) (mF 0) (mF 1) al pp hp tr bs (idn 0) (idn 1) tlm thm).1, (fblR ch gr (wF 0) (wF 1) (mF 0) (mF 1) al pp hp tr bs (idn 0) (idn 1) tlm thm).2.2.2.2.2.2.2.2), [14, 15, 16, 17, 18, 19, 20, 21, 22, 23, 24, 25], 52, rfl, rfl, rfl, by decide, by decide, rfl, by rw [← congrArg Prod.fst (fblR_T (hn 0) (hn 1))], _, sc_hn rfl hz hc (hm 0) (hn 0) (hn 1), rfl⟩
  · skip
    refine im_frame (c_X6_hint l g (ad 0) (ad 1) (ad 2) (ad 3) (ad 4) (ad 5) (ad 6) (ad 7) (ad 14) (ad 15) (ad 16) (ad 17) (ad 18) (ad 19) (ad 26) (ad 27) (ad 28) (ad 29) (ad 30) (ad 31) (ad 32) (ad 33) (ad 34) (ad 35) (ad 36) (ad 37) (ad 38) (ad 39) (ad 40) (ad 41) (ad 42) (ad 43) (ad 44) (ad 45) (ad 46) (ad 47) (ad 48) (ad 49) (ad 50) (ad 51) (wF 0) (mF 0) (wF 2) (mF 2) gr hd tlm thm al pp hp ch tr bs (idn 0) (idn 2) p q bg bl bp gm 2 (by decide) (by decide) hG.2.2.1 (hn 0) (hn 2) (hw 0) (hw 2) hg hc (hm 0) (hm 2) hz.2.2.1 hz.2.2.2.1 hz.2.2.2.2.1 hz.2.2.2.2.2.1 hz.2.2.2.2.2.2 hz.1 hz.2.1) [0, 2, 3, 4, 5, 6, 7, 14, 15, 16, 17, 18, 19, 26, 27, 28, 29, 30, 31, 32, 33, 34, 35, 36, 37, 38, 39, 40, 41, 42, 43, 44, 45, 46, 47, 48, 49, 50, 51, 1] rfl (by decide) ?_
    rintro x w1 ⟨rfl, rfl⟩
    exact ⟨MW g ad gm (idn, wF, mF, gr, ch) (clo ch (mF 0), (fblR ch gr (wF 0) (wF 2) (mF 0) (mF 2) al pp hp tr bs (idn 0) (idn 2) tlm thm).2.2.1, (fblR ch gr (wF 0) (wF 2) (mF 0) (mF 2) al pp hp tr bs (idn 0) (idn 2) tlm thm).2.2.2.1, (alN gr (wF 0) (wF 2) (idn 2) (idn 0) al), (fblR ch gr (wF 0) (wF 2) (mF 0) (mF 2) al pp hp tr bs (idn 0) (idn 2) tlm thm).2.2.2.2.1, (fblR ch gr (wF 0) (wF 2) (mF 0) (mF 2) al pp hp tr bs (idn 0) (idn 2) tlm thm).2.2.2.2.2.1, (fblR ch gr (wF 0) (wF 2) (mF 0) (mF 2) al pp hp tr bs (idn 0) (idn 2) tlm thm).2.2.2.2.2.2.1, (fblR ch gr (wF 0) (wF 2) (mF 0) (mF 2) al pp hp tr bs (idn 0) (idn 2) tlm thm).2.2.2.2.2.2.2.1, idn 0, idn 2, (fblR ch gr (wF 0) (wF 2) (mF 0) (mF 2) al pp hp tr bs (idn 0) (idn 2) tlm thm).2.1, (fblR ch gr (wF 0) (wF 2) (mF 0) (mF 2) al pp hp tr bs (idn 0) (idn 2) tlm thm).1, (fblR ch gr (wF 0) (wF 2) (mF 0) (mF 2) al pp hp tr bs (idn 0) (idn 2) tlm thm).2.2.2.2.2.2.2.2), [8, 9, 10, 11, 12, 13, 20, 21, 22, 23, 24, 25], 52, rfl, rfl, rfl, by decide, by decide, rfl, by rw [← congrArg Prod.fst (fblR_T (hn 0) (hn 2))], _, sc_hn rfl hz hc (hm 0) (hn 0) (hn 2), rfl⟩
  · skip
    refine im_frame (c_X6_hint l g (ad 0) (ad 1) (ad 2) (ad 3) (ad 4) (ad 5) (ad 6) (ad 7) (ad 20) (ad 21) (ad 22) (ad 23) (ad 24) (ad 25) (ad 26) (ad 27) (ad 28) (ad 29) (ad 30) (ad 31) (ad 32) (ad 33) (ad 34) (ad 35) (ad 36) (ad 37) (ad 38) (ad 39) (ad 40) (ad 41) (ad 42) (ad 43) (ad 44) (ad 45) (ad 46) (ad 47) (ad 48) (ad 49) (ad 50) (ad 51) (wF 0) (mF 0) (wF 3) (mF 3) gr hd tlm thm al pp hp ch tr bs (idn 0) (idn 3) p q bg bl bp gm 3 (by decide) (by decide) hG.2.2.2 (hn 0) (hn 3) (hw 0) (hw 3) hg hc (hm 0) (hm 3) hz.2.2.1 hz.2.2.2.1 hz.2.2.2.2.1 hz.2.2.2.2.2.1 hz.2.2.2.2.2.2 hz.1 hz.2.1) [0, 2, 3, 4, 5, 6, 7, 20, 21, 22, 23, 24, 25, 26, 27, 28, 29, 30, 31, 32, 33, 34, 35, 36, 37, 38, 39, 40, 41, 42, 43, 44, 45, 46, 47, 48, 49, 50, 51, 1] rfl (by decide) ?_
    rintro x w1 ⟨rfl, rfl⟩
    exact ⟨MW g ad gm (idn, wF, mF, gr, ch) (clo ch (mF 0), (fblR ch gr (wF 0) (wF 3) (mF 0) (mF 3) al pp hp tr bs (idn 0) (idn 3) tlm thm).2.2.1, (fblR ch gr (wF 0) (wF 3) (mF 0) (mF 3) al pp hp tr bs (idn 0) (idn 3) tlm thm).2.2.2.1, (alN gr (wF 0) (wF 3) (idn 3) (idn 0) al), (fblR ch gr (wF 0) (wF 3) (mF 0) (mF 3) al pp hp tr bs (idn 0) (idn 3) tlm thm).2.2.2.2.1, (fblR ch gr (wF 0) (wF 3) (mF 0) (mF 3) al pp hp tr bs (idn 0) (idn 3) tlm thm).2.2.2.2.2.1, (fblR ch gr (wF 0) (wF 3) (mF 0) (mF 3) al pp hp tr bs (idn 0) (idn 3) tlm thm).2.2.2.2.2.2.1, (fblR ch gr (wF 0) (wF 3) (mF 0) (mF 3) al pp hp tr bs (idn 0) (idn 3) tlm thm).2.2.2.2.2.2.2.1, idn 0, idn 3, (fblR ch gr (wF 0) (wF 3) (mF 0) (mF 3) al pp hp tr bs (idn 0) (idn 3) tlm thm).2.1, (fblR ch gr (wF 0) (wF 3) (mF 0) (mF 3) al pp hp tr bs (idn 0) (idn 3) tlm thm).1, (fblR ch gr (wF 0) (wF 3) (mF 0) (mF 3) al pp hp tr bs (idn 0) (idn 3) tlm thm).2.2.2.2.2.2.2.2), [8, 9, 10, 11, 12, 13, 14, 15, 16, 17, 18, 19], 52, rfl, rfl, rfl, by decide, by decide, rfl, by rw [← congrArg Prod.fst (fblR_T (hn 0) (hn 3))], _, sc_hn rfl hz hc (hm 0) (hn 0) (hn 3), rfl⟩
set_option maxRecDepth 100000 in
set_option maxHeartbeats 4000000 in
theorem mc_gain (l : Launch) (g : GG) (ad : Nat → Nat) (gm : Nat → Option Nat) (hG : GM ad gm) (σ : Stt) (hσ : SOk σ) (k : Nat) (hk0 : k ≠ 0) (hk4 : k < 4) : MC l yX6_gain wsX6_gain 11 g ad gm [.ref (ad 0), .int (nI k)] σ σ (nI (a_hn σ k).2) := by
  intro z hz
  obtain ⟨hd, tlm, thm, al, pp, hp, tr, bs, p, q, bg, bl, bp⟩ := z
  obtain ⟨idn, wF, mF, gr, ch⟩ := σ
  obtain ⟨hn, hw, hg, hc, hm, ho⟩ := hσ
  have hn : ∀ i, idn i ≤ 5 := hn
  have hw : ∀ i, grOk (wF i) := hw
  have hg : grOk gr := hg
  have hc : chOk ch := hc
  have hm : ∀ i, mOk (mF i) := hm
  have hz : LSc tlm thm al pp hp tr bs := hz
  rcases (show k = 1 ∨ k = 2 ∨ k = 3 by omega) with rfl | rfl | rfl
  · skip
    refine im_frame (c_X6_gain l g (ad 0) (ad 1) (ad 2) (ad 3) (ad 4) (ad 5) (ad 6) (ad 7) (ad 8) (ad 9) (ad 10) (ad 11) (ad 12) (ad 13) (ad 26) (ad 27) (ad 28) (ad 29) (ad 30) (ad 31) (ad 32) (ad 33) (ad 34) (ad 35) (ad 36) (ad 37) (ad 38) (ad 39) (ad 40) (ad 41) (ad 42) (ad 43) (ad 44) (ad 45) (ad 46) (ad 47) (ad 48) (ad 49) (ad 50) (ad 51) (wF 0) (mF 0) (wF 1) (mF 1) gr hd tlm thm al pp hp ch tr bs (idn 0) (idn 1) p q bg bl bp gm 1 (by decide) (by decide) hG.2.1 (hn 0) (hn 1) (hw 0) (hw 1) hg hc (hm 0) (hm 1) hz.2.2.1 hz.2.2.2.1 hz.2.2.2.2.1 hz.2.2.2.2.2.1 hz.2.2.2.2.2.2 hz.1 hz.2.1) [0, 2, 3, 4, 5, 6, 7, 8, 9, 10, 11, 12, 13, 26, 27, 28, 29, 30, 31, 32, 33, 34, 35, 36, 37, 38, 39, 40, 41, 42, 43, 44, 45, 46, 47, 48, 49, 50, 51, 1] rfl (by decide) ?_
    rintro x w1 ⟨rfl, rfl⟩
    exact ⟨MW g ad gm (idn, wF, mF, gr, ch) (clo ch (mF 0), (fblR ch gr (wF 0) (wF 1) (mF 0) (mF 1) al pp hp tr bs (idn 0) (idn 1) tlm thm).2.2.1, (fblR ch gr (wF 0) (wF 1) (mF 0) (mF 1) al pp hp tr bs (idn 0) (idn 1) tlm thm).2.2.2.1, (alN gr (wF 0) (wF 1) (idn 1) (idn 0) al), (fblR ch gr (wF 0) (wF 1) (mF 0) (mF 1) al pp hp tr bs (idn 0) (idn 1) tlm thm).2.2.2.2.1, (fblR ch gr (wF 0) (wF 1) (mF 0) (mF 1) al pp hp tr bs (idn 0) (idn 1) tlm thm).2.2.2.2.2.1, (fblR ch gr (wF 0) (wF 1) (mF 0) (mF 1) al pp hp tr bs (idn 0) (idn 1) tlm thm).2.2.2.2.2.2.1, (fblR ch gr (wF 0) (wF 1) (mF 0) (mF 1) al pp hp tr bs (idn 0) (idn 1) tlm thm).2.2.2.2.2.2.2.1, idn 0, idn 1, (fblR ch gr (wF 0) (wF 1) (mF 0) (mF 1) al pp hp tr bs (idn 0) (idn 1) tlm thm).2.1, (fblR ch gr (wF 0) (wF 1) (mF 0) (mF 1) al pp hp tr bs (idn 0) (idn 1) tlm thm).1, (fblR ch gr (wF 0) (wF 1) (mF 0) (mF 1) al pp hp tr bs (idn 0) (idn 1) tlm thm).2.2.2.2.2.2.2.2), [14, 15, 16, 17, 18, 19, 20, 21, 22, 23, 24, 25], 52, rfl, rfl, rfl, by decide, by decide, rfl, by rw [← congrArg Prod.snd (fblR_T (hn 0) (hn 1))], _, sc_hn rfl hz hc (hm 0) (hn 0) (hn 1), rfl⟩
  · skip
    refine im_frame (c_X6_gain l g (ad 0) (ad 1) (ad 2) (ad 3) (ad 4) (ad 5) (ad 6) (ad 7) (ad 14) (ad 15) (ad 16) (ad 17) (ad 18) (ad 19) (ad 26) (ad 27) (ad 28) (ad 29) (ad 30) (ad 31) (ad 32) (ad 33) (ad 34) (ad 35) (ad 36) (ad 37) (ad 38) (ad 39) (ad 40) (ad 41) (ad 42) (ad 43) (ad 44) (ad 45) (ad 46) (ad 47) (ad 48) (ad 49) (ad 50) (ad 51) (wF 0) (mF 0) (wF 2) (mF 2) gr hd tlm thm al pp hp ch tr bs (idn 0) (idn 2) p q bg bl bp gm 2 (by decide) (by decide) hG.2.2.1 (hn 0) (hn 2) (hw 0) (hw 2) hg hc (hm 0) (hm 2) hz.2.2.1 hz.2.2.2.1 hz.2.2.2.2.1 hz.2.2.2.2.2.1 hz.2.2.2.2.2.2 hz.1 hz.2.1) [0, 2, 3, 4, 5, 6, 7, 14, 15, 16, 17, 18, 19, 26, 27, 28, 29, 30, 31, 32, 33, 34, 35, 36, 37, 38, 39, 40, 41, 42, 43, 44, 45, 46, 47, 48, 49, 50, 51, 1] rfl (by decide) ?_
    rintro x w1 ⟨rfl, rfl⟩
    exact ⟨MW g ad gm (idn, wF, mF, gr, ch) (clo ch (mF 0), (fblR ch gr (wF 0) (wF 2) (mF 0) (mF 2) al pp hp tr bs (idn 0) (idn 2) tlm thm).2.2.1, (fblR ch gr (wF 0) (wF 2) (mF 0) (mF 2) al pp hp tr bs (idn 0) (idn 2) tlm thm).2.2.2.1, (alN gr (wF 0) (wF 2) (idn 2) (idn 0) al), (fblR ch gr (wF 0) (wF 2) (mF 0) (mF 2) al pp hp tr bs (idn 0) (idn 2) tlm thm).2.2.2.2.1, (fblR ch gr (wF 0) (wF 2) (mF 0) (mF 2) al pp hp tr bs (idn 0) (idn 2) tlm thm).2.2.2.2.2.1, (fblR ch gr (wF 0) (wF 2) (mF 0) (mF 2) al pp hp tr bs (idn 0) (idn 2) tlm thm).2.2.2.2.2.2.1, (fblR ch gr (wF 0) (wF 2) (mF 0) (mF 2) al pp hp tr bs (idn 0) (idn 2) tlm thm).2.2.2.2.2.2.2.1, idn 0, idn 2, (fblR ch gr (wF 0) (wF 2) (mF 0) (mF 2) al pp hp tr bs (idn 0) (idn 2) tlm thm).2.1, (fblR ch gr (wF 0) (wF 2) (mF 0) (mF 2) al pp hp tr bs (idn 0) (idn 2) tlm thm).1, (fblR ch gr (wF 0) (wF 2) (mF 0) (mF 2) al pp hp tr bs (idn 0) (idn 2) tlm thm).2.2.2.2.2.2.2.2), [8, 9, 10, 11, 12, 13, 20, 21, 22, 23, 24, 25], 52, rfl, rfl, rfl, by decide, by decide, rfl, by rw [← congrArg Prod.snd (fblR_T (hn 0) (hn 2))], _, sc_hn rfl hz hc (hm 0) (hn 0) (hn 2), rfl⟩
  · skip
    refine im_frame (c_X6_gain l g (ad 0) (ad 1) (ad 2) (ad 3) (ad 4) (ad 5) (ad 6) (ad 7) (ad 20) (ad 21) (ad 22) (ad 23) (ad 24) (ad 25) (ad 26) (ad 27) (ad 28) (ad 29) (ad 30) (ad 31) (ad 32) (ad 33) (ad 34) (ad 35) (ad 36) (ad 37) (ad 38) (ad 39) (ad 40) (ad 41) (ad 42) (ad 43) (ad 44) (ad 45) (ad 46) (ad 47) (ad 48) (ad 49) (ad 50) (ad 51) (wF 0) (mF 0) (wF 3) (mF 3) gr hd tlm thm al pp hp ch tr bs (idn 0) (idn 3) p q bg bl bp gm 3 (by decide) (by decide) hG.2.2.2 (hn 0) (hn 3) (hw 0) (hw 3) hg hc (hm 0) (hm 3) hz.2.2.1 hz.2.2.2.1 hz.2.2.2.2.1 hz.2.2.2.2.2.1 hz.2.2.2.2.2.2 hz.1 hz.2.1) [0, 2, 3, 4, 5, 6, 7, 20, 21, 22, 23, 24, 25, 26, 27, 28, 29, 30, 31, 32, 33, 34, 35, 36, 37, 38, 39, 40, 41, 42, 43, 44, 45, 46, 47, 48, 49, 50, 51, 1] rfl (by decide) ?_
    rintro x w1 ⟨rfl, rfl⟩
    exact ⟨MW g ad gm (idn, wF, mF, gr, ch) (clo ch (mF 0), (fblR ch gr (wF 0) (wF 3) (mF 0) (mF 3) al pp hp tr bs (idn 0) (idn 3) tlm thm).2.2.1, (fblR ch gr (wF 0) (wF 3) (mF 0) (mF 3) al pp hp tr bs (idn 0) (idn 3) tlm thm).2.2.2.1, (alN gr (wF 0) (wF 3) (idn 3) (idn 0) al), (fblR ch gr (wF 0) (wF 3) (mF 0) (mF 3) al pp hp tr bs (idn 0) (idn 3) tlm thm).2.2.2.2.1, (fblR ch gr (wF 0) (wF 3) (mF 0) (mF 3) al pp hp tr bs (idn 0) (idn 3) tlm thm).2.2.2.2.2.1, (fblR ch gr (wF 0) (wF 3) (mF 0) (mF 3) al pp hp tr bs (idn 0) (idn 3) tlm thm).2.2.2.2.2.2.1, (fblR ch gr (wF 0) (wF 3) (mF 0) (mF 3) al pp hp tr bs (idn 0) (idn 3) tlm thm).2.2.2.2.2.2.2.1, idn 0, idn 3, (fblR ch gr (wF 0) (wF 3) (mF 0) (mF 3) al pp hp tr bs (idn 0) (idn 3) tlm thm).2.1, (fblR ch gr (wF 0) (wF 3) (mF 0) (mF 3) al pp hp tr bs (idn 0) (idn 3) tlm thm).1, (fblR ch gr (wF 0) (wF 3) (mF 0) (mF 3) al pp hp tr bs (idn 0) (idn 3) tlm thm).2.2.2.2.2.2.2.2), [8, 9, 10, 11, 12, 13, 14, 15, 16, 17, 18, 19], 52, rfl, rfl, rfl, by decide, by decide, rfl, by rw [← congrArg Prod.snd (fblR_T (hn 0) (hn 3))], _, sc_hn rfl hz hc (hm 0) (hn 0) (hn 3), rfl⟩
set_option maxRecDepth 100000 in
set_option maxHeartbeats 4000000 in
theorem mc_mark_1 (l : Launch) (g : GG) (ad : Nat → Nat) (gm : Nat → Option Nat) (hG : GM ad gm) (σ : Stt) (hσ : SOk σ) (k : Nat) (hk0 : k ≠ 0) (hk4 : k < 4) (h0 : a_ct σ k ≠ 0) : MC l yX6_mark wsX6_mark 11 g ad gm [.ref (ad 0), .int (nI k)] σ σ (nI (a_mk σ k)) := by
  intro z hz
  obtain ⟨hd, tlm, thm, al, pp, hp, tr, bs, p, q, bg, bl, bp⟩ := z
  obtain ⟨idn, wF, mF, gr, ch⟩ := σ
  obtain ⟨hn, hw, hg, hc, hm, ho⟩ := hσ
  have hn : ∀ i, idn i ≤ 5 := hn
  have hw : ∀ i, grOk (wF i) := hw
  have hg : grOk gr := hg
  have hc : chOk ch := hc
  have hm : ∀ i, mOk (mF i) := hm
  have hz : LSc tlm thm al pp hp tr bs := hz
  rcases (show k = 1 ∨ k = 2 ∨ k = 3 by omega) with rfl | rfl | rfl
  · skip
    refine im_frame (c_X6_mark l g (ad 0) (ad 1) (ad 2) (ad 3) (ad 4) (ad 5) (ad 6) (ad 7) (ad 8) (ad 9) (ad 10) (ad 11) (ad 12) (ad 13) (ad 26) (ad 27) (ad 28) (ad 29) (ad 30) (ad 31) (ad 32) (ad 33) (ad 34) (ad 35) (ad 36) (ad 37) (ad 38) (ad 39) (ad 40) (ad 41) (ad 42) (ad 43) (ad 44) (ad 45) (ad 46) (ad 47) (ad 48) (ad 49) (ad 50) (ad 51) (wF 0) (mF 0) (wF 1) (mF 1) gr hd tlm thm al pp hp ch tr bs (idn 0) (idn 1) p q bg bl bp gm 1 (by decide) (by decide) hG.2.1 (hn 0) (hn 1) (hw 0) (hw 1) hg hc (hm 0) (hm 1) hz.2.2.1 hz.2.2.2.1 hz.2.2.2.2.1 hz.2.2.2.2.2.1 hz.2.2.2.2.2.2 h0) [0, 2, 3, 4, 5, 6, 7, 8, 9, 10, 11, 12, 13, 26, 27, 28, 29, 30, 31, 32, 33, 34, 35, 36, 37, 38, 39, 40, 41, 42, 43, 44, 45, 46, 47, 48, 49, 50, 51, 1] rfl (by decide) ?_
    rintro x w1 ⟨rfl, rfl⟩
    exact ⟨MW g ad gm (idn, wF, mF, gr, ch) (clo ch (mF 0), tlm, thm, (alN gr (wF 0) (wF 1) (idn 1) (idn 0) al), (pp1 ch gr (wF 0) (wF 1) (mF 0) (mF 1) al pp hp (idn 0) (idn 1)), (hp1 ch gr (wF 0) (wF 1) (mF 0) (mF 1) al pp hp (idn 0) (idn 1)), (fb1 ch gr (wF 0) (wF 1) (mF 0) (mF 1) al pp hp tr bs (idn 0) (idn 1)).1, (fb1 ch gr (wF 0) (wF 1) (mF 0) (mF 1) al pp hp tr bs (idn 0) (idn 1)).2.2, idn 0, idn 1, bg, bl, (fb1 ch gr (wF 0) (wF 1) (mF 0) (mF 1) al pp hp tr bs (idn 0) (idn 1)).2.1), [14, 15, 16, 17, 18, 19, 20, 21, 22, 23, 24, 25], 52, rfl, rfl, rfl, by decide, by decide, rfl, by rw [(fb1_res (hn 0) (hn 1)).1]; exact congrArg nI (mkA_1 h0).symm, _, sc_fb hz (hn 0) (hn 1), rfl⟩
  · skip
    refine im_frame (c_X6_mark l g (ad 0) (ad 1) (ad 2) (ad 3) (ad 4) (ad 5) (ad 6) (ad 7) (ad 14) (ad 15) (ad 16) (ad 17) (ad 18) (ad 19) (ad 26) (ad 27) (ad 28) (ad 29) (ad 30) (ad 31) (ad 32) (ad 33) (ad 34) (ad 35) (ad 36) (ad 37) (ad 38) (ad 39) (ad 40) (ad 41) (ad 42) (ad 43) (ad 44) (ad 45) (ad 46) (ad 47) (ad 48) (ad 49) (ad 50) (ad 51) (wF 0) (mF 0) (wF 2) (mF 2) gr hd tlm thm al pp hp ch tr bs (idn 0) (idn 2) p q bg bl bp gm 2 (by decide) (by decide) hG.2.2.1 (hn 0) (hn 2) (hw 0) (hw 2) hg hc (hm 0) (hm 2) hz.2.2.1 hz.2.2.2.1 hz.2.2.2.2.1 hz.2.2.2.2.2.1 hz.2.2.2.2.2.2 h0) [0, 2, 3, 4, 5, 6, 7, 14, 15, 16, 17, 18, 19, 26, 27, 28, 29, 30, 31, 32, 33, 34, 35, 36, 37, 38, 39, 40, 41, 42, 43, 44, 45, 46, 47, 48, 49, 50, 51, 1] rfl (by decide) ?_
    rintro x w1 ⟨rfl, rfl⟩
    exact ⟨MW g ad gm (idn, wF, mF, gr, ch) (clo ch (mF 0), tlm, thm, (alN gr (wF 0) (wF 2) (idn 2) (idn 0) al), (pp1 ch gr (wF 0) (wF 2) (mF 0) (mF 2) al pp hp (idn 0) (idn 2)), (hp1 ch gr (wF 0) (wF 2) (mF 0) (mF 2) al pp hp (idn 0) (idn 2)), (fb1 ch gr (wF 0) (wF 2) (mF 0) (mF 2) al pp hp tr bs (idn 0) (idn 2)).1, (fb1 ch gr (wF 0) (wF 2) (mF 0) (mF 2) al pp hp tr bs (idn 0) (idn 2)).2.2, idn 0, idn 2, bg, bl, (fb1 ch gr (wF 0) (wF 2) (mF 0) (mF 2) al pp hp tr bs (idn 0) (idn 2)).2.1), [8, 9, 10, 11, 12, 13, 20, 21, 22, 23, 24, 25], 52, rfl, rfl, rfl, by decide, by decide, rfl, by rw [(fb1_res (hn 0) (hn 2)).1]; exact congrArg nI (mkA_1 h0).symm, _, sc_fb hz (hn 0) (hn 2), rfl⟩
  · skip
    refine im_frame (c_X6_mark l g (ad 0) (ad 1) (ad 2) (ad 3) (ad 4) (ad 5) (ad 6) (ad 7) (ad 20) (ad 21) (ad 22) (ad 23) (ad 24) (ad 25) (ad 26) (ad 27) (ad 28) (ad 29) (ad 30) (ad 31) (ad 32) (ad 33) (ad 34) (ad 35) (ad 36) (ad 37) (ad 38) (ad 39) (ad 40) (ad 41) (ad 42) (ad 43) (ad 44) (ad 45) (ad 46) (ad 47) (ad 48) (ad 49) (ad 50) (ad 51) (wF 0) (mF 0) (wF 3) (mF 3) gr hd tlm thm al pp hp ch tr bs (idn 0) (idn 3) p q bg bl bp gm 3 (by decide) (by decide) hG.2.2.2 (hn 0) (hn 3) (hw 0) (hw 3) hg hc (hm 0) (hm 3) hz.2.2.1 hz.2.2.2.1 hz.2.2.2.2.1 hz.2.2.2.2.2.1 hz.2.2.2.2.2.2 h0) [0, 2, 3, 4, 5, 6, 7, 20, 21, 22, 23, 24, 25, 26, 27, 28, 29, 30, 31, 32, 33, 34, 35, 36, 37, 38, 39, 40, 41, 42, 43, 44, 45, 46, 47, 48, 49, 50, 51, 1] rfl (by decide) ?_
    rintro x w1 ⟨rfl, rfl⟩
    exact ⟨MW g ad gm (idn, wF, mF, gr, ch) (clo ch (mF 0), tlm, thm, (alN gr (wF 0) (wF 3) (idn 3) (idn 0) al), (pp1 ch gr (wF 0) (wF 3) (mF 0) (mF 3) al pp hp (idn 0) (idn 3)), (hp1 ch gr (wF 0) (wF 3) (mF 0) (mF 3) al pp hp (idn 0) (idn 3)), (fb1 ch gr (wF 0) (wF 3) (mF 0) (mF 3) al pp hp tr bs (idn 0) (idn 3)).1, (fb1 ch gr (wF 0) (wF 3) (mF 0) (mF 3) al pp hp tr bs (idn 0) (idn 3)).2.2, idn 0, idn 3, bg, bl, (fb1 ch gr (wF 0) (wF 3) (mF 0) (mF 3) al pp hp tr bs (idn 0) (idn 3)).2.1), [8, 9, 10, 11, 12, 13, 14, 15, 16, 17, 18, 19], 52, rfl, rfl, rfl, by decide, by decide, rfl, by rw [(fb1_res (hn 0) (hn 3)).1]; exact congrArg nI (mkA_1 h0).symm, _, sc_fb hz (hn 0) (hn 3), rfl⟩
set_option maxRecDepth 100000 in
set_option maxHeartbeats 4000000 in
theorem mc_mark_0 (l : Launch) (g : GG) (ad : Nat → Nat) (gm : Nat → Option Nat) (hG : GM ad gm) (σ : Stt) (hσ : SOk σ) (k : Nat) (hk0 : k ≠ 0) (hk4 : k < 4) (h0 : a_ct σ k = 0) : MC l yX6_mark wsX6_mark 11 g ad gm [.ref (ad 0), .int (nI k)] σ σ (nI (a_mk σ k)) := by
  intro z hz
  obtain ⟨hd, tlm, thm, al, pp, hp, tr, bs, p, q, bg, bl, bp⟩ := z
  obtain ⟨idn, wF, mF, gr, ch⟩ := σ
  obtain ⟨hn, hw, hg, hc, hm, ho⟩ := hσ
  have hn : ∀ i, idn i ≤ 5 := hn
  have hw : ∀ i, grOk (wF i) := hw
  have hg : grOk gr := hg
  have hc : chOk ch := hc
  have hm : ∀ i, mOk (mF i) := hm
  have hz : LSc tlm thm al pp hp tr bs := hz
  rcases (show k = 1 ∨ k = 2 ∨ k = 3 by omega) with rfl | rfl | rfl
  · skip
    refine im_frame (c_X6_mark_0 l g (ad 0) (ad 1) (ad 2) (ad 3) (ad 4) (ad 5) (ad 6) (ad 7) (ad 8) (ad 9) (ad 10) (ad 11) (ad 12) (ad 13) (ad 26) (ad 27) (ad 28) (ad 29) (ad 30) (ad 31) (ad 32) (ad 33) (ad 34) (ad 35) (ad 36) (ad 37) (ad 38) (ad 39) (ad 40) (ad 41) (ad 42) (ad 43) (ad 44) (ad 45) (ad 46) (ad 47) (ad 48) (ad 49) (ad 50) (ad 51) (wF 0) (mF 0) (wF 1) (mF 1) gr hd tlm thm al pp hp ch tr bs (idn 0) (idn 1) p q bg bl bp gm 1 (by decide) (by decide) hG.2.1 (hm 1) h0) [0, 2, 3, 4, 5, 6, 7, 8, 9, 10, 11, 12, 13, 26, 27, 28, 29, 30, 31, 32, 33, 34, 35, 36, 37, 38, 39, 40, 41, 42, 43, 44, 45, 46, 47, 48, 49, 50, 51, 1] rfl (by decide) ?_
    rintro x w1 ⟨rfl, rfl⟩
    exact ⟨MW g ad gm (idn, wF, mF, gr, ch) (hd, tlm, thm, al, pp, hp, tr, bs, p, q, bg, bl, bp), [14, 15, 16, 17, 18, 19, 20, 21, 22, 23, 24, 25], 52, rfl, rfl, rfl, by decide, by decide, rfl, (congrArg nI (mkA_0 h0).symm), _, hz, rfl⟩
  · skip
    refine im_frame (c_X6_mark_0 l g (ad 0) (ad 1) (ad 2) (ad 3) (ad 4) (ad 5) (ad 6) (ad 7) (ad 14) (ad 15) (ad 16) (ad 17) (ad 18) (ad 19) (ad 26) (ad 27) (ad 28) (ad 29) (ad 30) (ad 31) (ad 32) (ad 33) (ad 34) (ad 35) (ad 36) (ad 37) (ad 38) (ad 39) (ad 40) (ad 41) (ad 42) (ad 43) (ad 44) (ad 45) (ad 46) (ad 47) (ad 48) (ad 49) (ad 50) (ad 51) (wF 0) (mF 0) (wF 2) (mF 2) gr hd tlm thm al pp hp ch tr bs (idn 0) (idn 2) p q bg bl bp gm 2 (by decide) (by decide) hG.2.2.1 (hm 2) h0) [0, 2, 3, 4, 5, 6, 7, 14, 15, 16, 17, 18, 19, 26, 27, 28, 29, 30, 31, 32, 33, 34, 35, 36, 37, 38, 39, 40, 41, 42, 43, 44, 45, 46, 47, 48, 49, 50, 51, 1] rfl (by decide) ?_
    rintro x w1 ⟨rfl, rfl⟩
    exact ⟨MW g ad gm (idn, wF, mF, gr, ch) (hd, tlm, thm, al, pp, hp, tr, bs, p, q, bg, bl, bp), [8, 9, 10, 11, 12, 13, 20, 21, 22, 23, 24, 25], 52, rfl, rfl, rfl, by decide, by decide, rfl, (congrArg nI (mkA_0 h0).symm), _, hz, rfl⟩
  · skip
    refine im_frame (c_X6_mark_0 l g (ad 0) (ad 1) (ad 2) (ad 3) (ad 4) (ad 5) (ad 6) (ad 7) (ad 20) (ad 21) (ad 22) (ad 23) (ad 24) (ad 25) (ad 26) (ad 27) (ad 28) (ad 29) (ad 30) (ad 31) (ad 32) (ad 33) (ad 34) (ad 35) (ad 36) (ad 37) (ad 38) (ad 39) (ad 40) (ad 41) (ad 42) (ad 43) (ad 44) (ad 45) (ad 46) (ad 47) (ad 48) (ad 49) (ad 50) (ad 51) (wF 0) (mF 0) (wF 3) (mF 3) gr hd tlm thm al pp hp ch tr bs (idn 0) (idn 3) p q bg bl bp gm 3 (by decide) (by decide) hG.2.2.2 (hm 3) h0) [0, 2, 3, 4, 5, 6, 7, 20, 21, 22, 23, 24, 25, 26, 27, 28, 29, 30, 31, 32, 33, 34, 35, 36, 37, 38, 39, 40, 41, 42, 43, 44, 45, 46, 47, 48, 49, 50, 51, 1] rfl (by decide) ?_
    rintro x w1 ⟨rfl, rfl⟩
    exact ⟨MW g ad gm (idn, wF, mF, gr, ch) (hd, tlm, thm, al, pp, hp, tr, bs, p, q, bg, bl, bp), [8, 9, 10, 11, 12, 13, 14, 15, 16, 17, 18, 19], 52, rfl, rfl, rfl, by decide, by decide, rfl, (congrArg nI (mkA_0 h0).symm), _, hz, rfl⟩
theorem mc_mark (l : Launch) (g : GG) (ad : Nat → Nat) (gm : Nat → Option Nat) (hG : GM ad gm) (σ : Stt) (hσ : SOk σ) (k : Nat) (hk0 : k ≠ 0) (hk4 : k < 4) : MC l yX6_mark wsX6_mark 11 g ad gm [.ref (ad 0), .int (nI k)] σ σ (nI (a_mk σ k)) := by
  by_cases h0 : a_ct σ k = 0
  · exact mc_mark_0 l g ad gm hG σ hσ k hk0 hk4 h0
  · exact mc_mark_1 l g ad gm hG σ hσ k hk0 hk4 h0
set_option maxRecDepth 100000 in
set_option maxHeartbeats 4000000 in
theorem mc_bestModel (l : Launch) (g : GG) (ad : Nat → Nat) (gm : Nat → Option Nat) (hG : GM ad gm) (σ : Stt) (hσ : SOk σ)  : MC l yX6_bestModel wsX6_bestModel 11 g ad gm [.ref (ad 0)] σ σ (oI (a_bm σ)) := by
  intro z hz
  obtain ⟨hd, tlm, thm, al, pp, hp, tr, bs, p, q, bg, bl, bp⟩ := z
  obtain ⟨idn, wF, mF, gr, ch⟩ := σ
  obtain ⟨hn, hw, hg, hc, hm, ho⟩ := hσ
  have hn : ∀ i, idn i ≤ 5 := hn
  have hw : ∀ i, grOk (wF i) := hw
  have hg : grOk gr := hg
  have hc : chOk ch := hc
  have hm : ∀ i, mOk (mF i) := hm
  have hz : LSc tlm thm al pp hp tr bs := hz
  refine im_frame (c_X6_bestModel l g (ad 0) (ad 1) (ad 2) (ad 3) (ad 4) (ad 5) (ad 6) (ad 7) (ad 8) (ad 9) (ad 10) (ad 11) (ad 12) (ad 13) (ad 14) (ad 15) (ad 16) (ad 17) (ad 18) (ad 19) (ad 20) (ad 21) (ad 22) (ad 23) (ad 24) (ad 25) (ad 26) (ad 27) (ad 28) (ad 29) (ad 30) (ad 31) (ad 32) (ad 33) (ad 34) (ad 35) (ad 36) (ad 37) (ad 38) (ad 39) (ad 40) (ad 41) (ad 42) (ad 43) (ad 44) (ad 45) (ad 46) (ad 47) (ad 48) (ad 49) (ad 50) (ad 51) (wF 0) (mF 0) gr hd tlm thm al pp hp wF mF idn ch tr bs (idn 0) p q bg bl bp gm hG.2.1 hG.2.2.1 hG.2.2.2 (hn 0) hn (hw 0) hw hg hc (hm 0) hm hz.2.2.1 hz.2.2.2.1 hz.2.2.2.2.1 hz.2.2.2.2.2.1 hz.2.2.2.2.2.2) [0, 2, 3, 4, 5, 6, 7, 8, 9, 10, 11, 12, 13, 14, 15, 16, 17, 18, 19, 20, 21, 22, 23, 24, 25, 26, 27, 28, 29, 30, 31, 32, 33, 34, 35, 36, 37, 38, 39, 40, 41, 42, 43, 44, 45, 46, 47, 48, 49, 50, 51, 1] rfl (by decide) ?_
  rintro x w1 ⟨rfl, rfl⟩
  exact ⟨MW g ad gm (idn, wF, mF, gr, ch) ((bmB ch gr (wF 0) (mF 0) (idn 0) wF mF idn (none, none, hd, al, pp, hp, tr, bs, p, q, bp) 4).2.2.1, tlm, thm, (bmB ch gr (wF 0) (mF 0) (idn 0) wF mF idn (none, none, hd, al, pp, hp, tr, bs, p, q, bp) 4).2.2.2.1, (bmB ch gr (wF 0) (mF 0) (idn 0) wF mF idn (none, none, hd, al, pp, hp, tr, bs, p, q, bp) 4).2.2.2.2.1, (bmB ch gr (wF 0) (mF 0) (idn 0) wF mF idn (none, none, hd, al, pp, hp, tr, bs, p, q, bp) 4).2.2.2.2.2.1, (bmB ch gr (wF 0) (mF 0) (idn 0) wF mF idn (none, none, hd, al, pp, hp, tr, bs, p, q, bp) 4).2.2.2.2.2.2.1, (bmB ch gr (wF 0) (mF 0) (idn 0) wF mF idn (none, none, hd, al, pp, hp, tr, bs, p, q, bp) 4).2.2.2.2.2.2.2.1, (bmB ch gr (wF 0) (mF 0) (idn 0) wF mF idn (none, none, hd, al, pp, hp, tr, bs, p, q, bp) 4).2.2.2.2.2.2.2.2.1, (bmB ch gr (wF 0) (mF 0) (idn 0) wF mF idn (none, none, hd, al, pp, hp, tr, bs, p, q, bp) 4).2.2.2.2.2.2.2.2.2.1, bg, bl, (bmB ch gr (wF 0) (mF 0) (idn 0) wF mF idn (none, none, hd, al, pp, hp, tr, bs, p, q, bp) 4).2.2.2.2.2.2.2.2.2.2), [], 52, rfl, rfl, rfl, by decide, by decide, rfl, (congrArg oI (congrArg Prod.fst (bmB_T (hn 0) hn 4))), _, sc_bm rfl hz (hn 0) hn, rfl⟩
