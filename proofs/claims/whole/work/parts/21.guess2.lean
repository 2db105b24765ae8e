/-! the guess: the class's is the reference's -/
theorem rq_isIn {U : gs_U} {M : gs_M} {x : Int32} (hx : vp_in x 60) (t4 : ∀ j, j < 8 → U.2.2.2.1 j = mg_targetAt M j) : k_X1_isInTargets U x = true ↔ mg_targetAt M (gq_ix (gq_rem x 8)) = x := by
  have v := mv_rem8 hx
  unfold k_X1_isInTargets
  rw [rg_in v (by decide), t4 _ (mv_ix v)]
  by_cases c : mg_targetAt M (gq_ix (gq_rem x 8)) = x
  · rw [if_pos c]; exact ⟨fun _ => c, fun _ => rfl⟩
  · rw [if_neg c]; exact ⟨fun q => (by cases q), fun q => absurd q c⟩
theorem rq_guess_out {U : gs_U} {M : gs_M} {x w : Int32} (hx : vp_in x 60) (ht : RTg U.1 U.2.1 U.2.2.1 U.2.2.2.1 U.2.2.2.2.1 U.2.2.2.2.2.1 (mg_plain M) (mg_mixed M) (mg_choice M) (mg_targetAt M) (mg_targetKind M) (mg_target M)) (hh : RHg U.2.2.2.2.2.2.2 (mg_history M)) (hr : RRg U.2.2.2.2.2.2.1 (mg_returned M) (mg_returns M)) (c : ¬ mg_targetAt M (gq_ix (gq_rem x 8)) = x) : RGu U M x (k_X1_guess U x w) (k_X7_guess M x) ∧ mg_counts (k_X7_guess M x).2 = mg_counts M := by
  unfold k_X1_guess k_X7_guess
  simp only [gq_lt]
  rw [if_neg (fun q => c ((rq_isIn hx ht.2.2.2.1).mp q)), if_neg c]
  exact ⟨⟨rfl, rfl, rfl, rfl, rfl, rfl, rfl, hh, hr⟩, rfl⟩
theorem rq_kind {k : Int32} : k_X6_isBranch k = true ↔ k = 5 ∨ k = 6 := by
  unfold k_X6_isBranch
  by_cases a : k = 5
  · rw [if_pos a]; exact ⟨fun _ => Or.inl a, fun _ => rfl⟩
  · rw [if_neg a]
    by_cases b : k = 6
    · rw [if_pos b]; exact ⟨fun _ => Or.inr b, fun _ => rfl⟩
    · rw [if_neg b]; exact ⟨fun q => (by cases q), fun q => q.elim (fun z => absurd z a) (fun z => absurd z b)⟩
set_option maxHeartbeats 400000 in
theorem rq_guess_br {U : gs_U} {s : gs_M} {x w g : Int32} (hx : vp_in x 60) (hw : vp_in w 4) (ew : mg_way s = w) (i : Nat) (eg : mg_target s i = g) (ht : RTg U.1 U.2.1 U.2.2.1 U.2.2.2.1 U.2.2.2.2.1 U.2.2.2.2.2.1 (mg_plain s) (mg_mixed s) (mg_choice s) (mg_targetAt s) (mg_targetKind s) (mg_target s)) (hh : RHg U.2.2.2.2.2.2.2 (mg_history s)) (hr : RRg U.2.2.2.2.2.2.1 (mg_returned s) (mg_returns s)) :
    RGu U s x (if k_X1_seemsToTurn U x w = true then (g, k_X1_noteBit U (k_X1_seemsToTurn U x w)) else (x + 1, k_X1_noteBit U (k_X1_seemsToTurn U x w))) (if k_X7_guessesTurn s x = true then (mg_target (k_X7_bit s (k_X7_guessesTurn s x)) i, k_X7_bit s (k_X7_guessesTurn s x)) else (x + 1, k_X7_bit s (k_X7_guessesTurn s x))) ∧ mg_counts (if k_X7_guessesTurn s x = true then (mg_target (k_X7_bit s (k_X7_guessesTurn s x)) i, k_X7_bit s (k_X7_guessesTurn s x)) else (x + 1, k_X7_bit s (k_X7_guessesTurn s x))).2 = mg_counts s := by
  have eb : k_X1_seemsToTurn U x w = k_X7_guessesTurn s x := by
    rw [← ew]
    exact rq_seems hx (by rw [ew]; exact hw) ht hh
  rw [eb]
  generalize k_X7_guessesTurn s x = b
  obtain ⟨n1, n2⟩ := rq_bit (b := b) hh
  have mk := mk_bit s b
  have m1 : mg_target (k_X7_bit s b) = mg_target s := by simp only [mk_bit]
  have m2 : mg_counts (k_X7_bit s b) = mg_counts s := by simp only [mk_bit]
  have m3 : mg_returned (k_X7_bit s b) = mg_returned s := by simp only [mk_bit]
  have m4 : mg_returns (k_X7_bit s b) = mg_returns s := by simp only [mk_bit]
  rw [n1]
  have hr' : RRg U.2.2.2.2.2.2.1 (mg_returned (k_X7_bit s b)) (mg_returns (k_X7_bit s b)) := by rw [m3, m4]; exact hr
  by_cases hb : b = true
  · simp only [if_pos hb]
    exact ⟨⟨by rw [m1]; exact eg.symm, rfl, rfl, rfl, rfl, rfl, rfl, ⟨rfl, n2⟩, hr'⟩, m2⟩
  · simp only [if_neg hb]
    exact ⟨⟨rfl, rfl, rfl, rfl, rfl, rfl, rfl, ⟨rfl, n2⟩, hr'⟩, m2⟩
set_option maxHeartbeats 400000 in
theorem rq_guess_in {U : gs_U} {M : gs_M} {x : Int32} (hx : vp_in x 60) (hw : vp_in (mg_way M) 4) (ht : RTg U.1 U.2.1 U.2.2.1 U.2.2.2.1 U.2.2.2.2.1 U.2.2.2.2.2.1 (mg_plain M) (mg_mixed M) (mg_choice M) (mg_targetAt M) (mg_targetKind M) (mg_target M)) (hh : RHg U.2.2.2.2.2.2.2 (mg_history M)) (hr : RRg U.2.2.2.2.2.2.1 (mg_returned M) (mg_returns M)) (c : mg_targetAt M (gq_ix (gq_rem x 8)) = x) : RGu U M x (k_X1_guess U x (mg_way M)) (k_X7_guess M x) ∧ mg_counts (k_X7_guess M x).2 = upd (mg_counts M) 8 (mg_counts M 8 + 1) := by
  have v := mv_rem8 hx
  have e5 := ht.2.2.2.2.1 _ (mv_ix v)
  have e6 := ht.2.2.2.2.2 _ (mv_ix v)
  unfold k_X1_guess k_X7_guess
  simp only [gq_lt]
  rw [if_pos ((rq_isIn hx ht.2.2.2.1).mpr c), if_pos c, rg_in v (by decide), rg_in v (by decide), e5, e6, rl_i8]
  obtain ⟨s, es⟩ : ∃ s, s = ms_counts M (upd (mg_counts M) 8 (mg_counts M 8 + 1)) := ⟨_, rfl⟩
  rw [← es]
  have f1 : mg_way s = mg_way M := by rw [es]; simp only [mfr_counts]
  have f2 : mg_targetKind s = mg_targetKind M := by rw [es]; simp only [mfr_counts]
  have f3 : mg_target s = mg_target M := by rw [es]; simp only [mfr_counts]
  have f4 : mg_counts s = upd (mg_counts M) 8 (mg_counts M 8 + 1) := by rw [es]; simp only [mfr_counts]
  have ht2 : RTg U.1 U.2.1 U.2.2.1 U.2.2.2.1 U.2.2.2.2.1 U.2.2.2.2.2.1 (mg_plain s) (mg_mixed s) (mg_choice s) (mg_targetAt s) (mg_targetKind s) (mg_target s) := by rw [es]; simp only [mfr_counts]; exact ht
  have hh2 : RHg U.2.2.2.2.2.2.2 (mg_history s) := by rw [es]; simp only [mfr_counts]; exact hh
  have hr2 : RRg U.2.2.2.2.2.2.1 (mg_returned s) (mg_returns s) := by rw [es]; simp only [mfr_counts]; exact hr
  rw [← f4]
  have hb := rq_guess_br (g := mg_target M (gq_ix (gq_rem x 8))) hx hw f1 (gq_ix (gq_rem x 8)) (by rw [f3]) ht2 hh2 hr2
  rw [f2]
  by_cases k5 : mg_targetKind M (gq_ix (gq_rem x 8)) = 5
  · rw [if_pos (rq_kind.mpr (Or.inl k5)), if_pos k5]
    exact hb
  by_cases k6 : mg_targetKind M (gq_ix (gq_rem x 8)) = 6
  · rw [if_pos (rq_kind.mpr (Or.inr k6)), if_neg k5, if_pos k6]
    exact hb
  rw [if_neg (fun q => (rq_kind.mp q).elim k5 k6), if_neg k5, if_neg k6]
  by_cases k8 : mg_targetKind M (gq_ix (gq_rem x 8)) = 8
  · rw [if_neg (by rw [k8]; decide), if_pos k8, if_pos k8]
    have m1 : mg_target (k_X7_push s (x + 1)) = mg_target s := by simp only [mk_push]
    have m2 : mg_counts (k_X7_push s (x + 1)) = mg_counts s := by simp only [mk_push]
    have m3 : mg_history (k_X7_push s (x + 1)) = mg_history s := by simp only [mk_push]
    refine ⟨⟨by rw [m1, f3], rfl, rfl, rfl, rfl, rfl, rfl, ?_, rq_push (rq_place hx) hr2⟩, m2⟩
    show RHg U.2.2.2.2.2.2.2 (mg_history (k_X7_push s (x + 1)))
    rw [m3]; exact hh2
  by_cases k9 : mg_targetKind M (gq_ix (gq_rem x 8)) = 9
  · rw [if_pos k9, if_neg k8, if_pos k9]
    obtain ⟨r, r1, r2, r3, r4⟩ := hr2
    rcases Nat.eq_zero_or_pos r with z | z
    · subst z
      rw [rp2_pop0 r2 (by decide), r3, if_pos (show nI 0 = 0 by decide), if_pos rfl]
      exact ⟨⟨rfl, rfl, rfl, rfl, rfl, rfl, rfl, hh2, ⟨0, by omega, rfl, r3, fun j hj => absurd hj (Nat.not_lt_zero _)⟩⟩, rfl⟩
    · obtain ⟨r', rfl⟩ : ∃ r', r = r' + 1 := ⟨r - 1, by omega⟩
      obtain ⟨g1, g2⟩ := r4 r' (by omega)
      rw [rp2_pop (n := r') r2 (by omega) (by decide), r3, if_neg (show ¬ nI (r' + 1) = 0 from nI_ne0 (by omega) (by omega)), nI_pred, g1, if_neg g2]
      simp only [RGu, mfr_returned, mfr_returns, mfr_history, mfr_counts]
      rw [gq_cl (by omega)]
      exact ⟨⟨rfl, trivial, trivial, trivial, trivial, trivial, trivial, hh2, ⟨r', by omega, rfl, rfl, fun j hj => r4 j (by omega)⟩⟩, trivial⟩
  · rw [if_neg k9, if_neg k8, if_neg k8, if_neg k9]
    exact ⟨⟨by rw [f3], rfl, rfl, rfl, rfl, rfl, rfl, hh2, hr2⟩, rfl⟩
