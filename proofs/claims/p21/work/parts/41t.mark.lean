theorem mc_mark (l : Launch) (g : GG) (ad : Nat → Nat) (gm : Nat → Option Nat) (hG : GM ad gm) (σ : Stt) (hσ : SOk σ) (k : Nat) (hk0 : k ≠ 0) (hk4 : k < 4) : MC l yX6_mark wsX6_mark 11 g ad gm [.ref (ad 0), .int (nI k)] σ σ (nI (a_mk σ k)) := by
  by_cases h0 : a_ct σ k = 0
  · exact mc_mark_0 l g ad gm hG σ hσ k hk0 hk4 h0
  · exact mc_mark_1 l g ad gm hG σ hσ k hk0 hk4 h0
