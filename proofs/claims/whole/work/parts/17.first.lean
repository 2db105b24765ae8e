/-! harm and forget; the start -/
theorem mk_fb2 (S t : gs_M) (i : Nat) : mg_acts (kb_X7_first_2 S i t) = mg_acts t ∧ mg_kinds (kb_X7_first_2 S i t) = mg_kinds t ∧ mg_as (kb_X7_first_2 S i t) = mg_as t ∧ mg_bs (kb_X7_first_2 S i t) = mg_bs t ∧ mg_cs (kb_X7_first_2 S i t) = mg_cs t ∧ mg_registers (kb_X7_first_2 S i t) = mg_registers t ∧ mg_memory (kb_X7_first_2 S i t) = mg_memory t ∧ mg_stack (kb_X7_first_2 S i t) = mg_stack t ∧ mg_deep (kb_X7_first_2 S i t) = mg_deep t ∧ mg_way (kb_X7_first_2 S i t) = mg_way t ∧ mg_depth (kb_X7_first_2 S i t) = mg_depth t ∧ mg_history (kb_X7_first_2 S i t) = mg_history t ∧ mg_targetAt (kb_X7_first_2 S i t) = mg_targetAt t ∧ mg_targetKind (kb_X7_first_2 S i t) = mg_targetKind t ∧ mg_target (kb_X7_first_2 S i t) = mg_target t ∧ mg_returns (kb_X7_first_2 S i t) = mg_returns t ∧ mg_returned (kb_X7_first_2 S i t) = mg_returned t ∧ mg_fetched (kb_X7_first_2 S i t) = mg_fetched t ∧ mg_fetchAt (kb_X7_first_2 S i t) = mg_fetchAt t ∧ mg_fetchCycle (kb_X7_first_2 S i t) = mg_fetchCycle t ∧ mg_fetchGuess (kb_X7_first_2 S i t) = mg_fetchGuess t ∧ mg_fetchHistory (kb_X7_first_2 S i t) = mg_fetchHistory t ∧ mg_fetchReturned (kb_X7_first_2 S i t) = mg_fetchReturned t ∧ mg_fetchReturns (kb_X7_first_2 S i t) = mg_fetchReturns t ∧ mg_runs (kb_X7_first_2 S i t) = mg_runs t ∧ mg_ended (kb_X7_first_2 S i t) = mg_ended t ∧ mg_place (kb_X7_first_2 S i t) = mg_place t ∧ mg_counts (kb_X7_first_2 S i t) = mg_counts t ∧ mg_doneAt (kb_X7_first_2 S i t) = mg_doneAt t ∧ mg_keptReturns (kb_X7_first_2 S i t) = mg_keptReturns t ∧ mg_h (kb_X7_first_2 S i t) = mg_h t := by
  unfold kb_X7_first_2
  simp only [gq_lt, mfr_plain, mfr_mixed, mfr_choice, and_self]
theorem mk_fi2 (S t : gs_M) (i : Nat) : mg_acts (gq_it (kb_X7_first_2 S) 0 t i) = mg_acts t ∧ mg_kinds (gq_it (kb_X7_first_2 S) 0 t i) = mg_kinds t ∧ mg_as (gq_it (kb_X7_first_2 S) 0 t i) = mg_as t ∧ mg_bs (gq_it (kb_X7_first_2 S) 0 t i) = mg_bs t ∧ mg_cs (gq_it (kb_X7_first_2 S) 0 t i) = mg_cs t ∧ mg_registers (gq_it (kb_X7_first_2 S) 0 t i) = mg_registers t ∧ mg_memory (gq_it (kb_X7_first_2 S) 0 t i) = mg_memory t ∧ mg_stack (gq_it (kb_X7_first_2 S) 0 t i) = mg_stack t ∧ mg_deep (gq_it (kb_X7_first_2 S) 0 t i) = mg_deep t ∧ mg_way (gq_it (kb_X7_first_2 S) 0 t i) = mg_way t ∧ mg_depth (gq_it (kb_X7_first_2 S) 0 t i) = mg_depth t ∧ mg_history (gq_it (kb_X7_first_2 S) 0 t i) = mg_history t ∧ mg_targetAt (gq_it (kb_X7_first_2 S) 0 t i) = mg_targetAt t ∧ mg_targetKind (gq_it (kb_X7_first_2 S) 0 t i) = mg_targetKind t ∧ mg_target (gq_it (kb_X7_first_2 S) 0 t i) = mg_target t ∧ mg_returns (gq_it (kb_X7_first_2 S) 0 t i) = mg_returns t ∧ mg_returned (gq_it (kb_X7_first_2 S) 0 t i) = mg_returned t ∧ mg_fetched (gq_it (kb_X7_first_2 S) 0 t i) = mg_fetched t ∧ mg_fetchAt (gq_it (kb_X7_first_2 S) 0 t i) = mg_fetchAt t ∧ mg_fetchCycle (gq_it (kb_X7_first_2 S) 0 t i) = mg_fetchCycle t ∧ mg_fetchGuess (gq_it (kb_X7_first_2 S) 0 t i) = mg_fetchGuess t ∧ mg_fetchHistory (gq_it (kb_X7_first_2 S) 0 t i) = mg_fetchHistory t ∧ mg_fetchReturned (gq_it (kb_X7_first_2 S) 0 t i) = mg_fetchReturned t ∧ mg_fetchReturns (gq_it (kb_X7_first_2 S) 0 t i) = mg_fetchReturns t ∧ mg_runs (gq_it (kb_X7_first_2 S) 0 t i) = mg_runs t ∧ mg_ended (gq_it (kb_X7_first_2 S) 0 t i) = mg_ended t ∧ mg_place (gq_it (kb_X7_first_2 S) 0 t i) = mg_place t ∧ mg_counts (gq_it (kb_X7_first_2 S) 0 t i) = mg_counts t ∧ mg_doneAt (gq_it (kb_X7_first_2 S) 0 t i) = mg_doneAt t ∧ mg_keptReturns (gq_it (kb_X7_first_2 S) 0 t i) = mg_keptReturns t ∧ mg_h (gq_it (kb_X7_first_2 S) 0 t i) = mg_h t := by
  induction i with
  | zero => simp only [gq_it, and_self]
  | succ i ih =>
    rw [gq_it_s _ _ (Nat.zero_le _)]
    simp only [mk_fb2 S, ih, and_self]
theorem ml_fi2_plain (S t : gs_M) (i : Nat) (hi : i ≤ 16) : ∀ j, j < i → mg_plain (gq_it (kb_X7_first_2 S) 0 t i) j = 1 := by
  induction i with
  | zero => exact fun j hj => absurd hj (Nat.not_lt_zero _)
  | succ i ih =>
    intro j hj
    have e : mg_plain (gq_it (kb_X7_first_2 S) 0 t (i + 1)) = upd (mg_plain (gq_it (kb_X7_first_2 S) 0 t i)) (gq_ix (nI i)) 1 := by
      rw [gq_it_s _ _ (Nat.zero_le _)]
      unfold kb_X7_first_2
      simp only [gq_lt, mfr_plain, mfr_mixed, mfr_choice]
    rw [e, gq_cl (by omega)]
    unfold upd
    by_cases c : j = i
    · rw [if_pos c]
    · rw [if_neg c]; exact ih (by omega) j (by omega)
theorem ml_fi2_mixed (S t : gs_M) (i : Nat) (hi : i ≤ 16) : ∀ j, j < i → mg_mixed (gq_it (kb_X7_first_2 S) 0 t i) j = 1 := by
  induction i with
  | zero => exact fun j hj => absurd hj (Nat.not_lt_zero _)
  | succ i ih =>
    intro j hj
    have e : mg_mixed (gq_it (kb_X7_first_2 S) 0 t (i + 1)) = upd (mg_mixed (gq_it (kb_X7_first_2 S) 0 t i)) (gq_ix (nI i)) 1 := by
      rw [gq_it_s _ _ (Nat.zero_le _)]
      unfold kb_X7_first_2
      simp only [gq_lt, mfr_plain, mfr_mixed, mfr_choice]
    rw [e, gq_cl (by omega)]
    unfold upd
    by_cases c : j = i
    · rw [if_pos c]
    · rw [if_neg c]; exact ih (by omega) j (by omega)
theorem ml_fi2_choice (S t : gs_M) (i : Nat) (hi : i ≤ 16) : ∀ j, j < i → mg_choice (gq_it (kb_X7_first_2 S) 0 t i) j = 1 := by
  induction i with
  | zero => exact fun j hj => absurd hj (Nat.not_lt_zero _)
  | succ i ih =>
    intro j hj
    have e : mg_choice (gq_it (kb_X7_first_2 S) 0 t (i + 1)) = upd (mg_choice (gq_it (kb_X7_first_2 S) 0 t i)) (gq_ix (nI i)) 1 := by
      rw [gq_it_s _ _ (Nat.zero_le _)]
      unfold kb_X7_first_2
      simp only [gq_lt, mfr_plain, mfr_mixed, mfr_choice]
    rw [e, gq_cl (by omega)]
    unfold upd
    by_cases c : j = i
    · rw [if_pos c]
    · rw [if_neg c]; exact ih (by omega) j (by omega)
theorem mk_fb37 (S t : gs_M) (i : Nat) : mg_acts (kb_X7_first_37 S i t) = mg_acts t ∧ mg_kinds (kb_X7_first_37 S i t) = mg_kinds t ∧ mg_as (kb_X7_first_37 S i t) = mg_as t ∧ mg_bs (kb_X7_first_37 S i t) = mg_bs t ∧ mg_cs (kb_X7_first_37 S i t) = mg_cs t ∧ mg_registers (kb_X7_first_37 S i t) = mg_registers t ∧ mg_memory (kb_X7_first_37 S i t) = mg_memory t ∧ mg_stack (kb_X7_first_37 S i t) = mg_stack t ∧ mg_deep (kb_X7_first_37 S i t) = mg_deep t ∧ mg_way (kb_X7_first_37 S i t) = mg_way t ∧ mg_depth (kb_X7_first_37 S i t) = mg_depth t ∧ mg_plain (kb_X7_first_37 S i t) = mg_plain t ∧ mg_mixed (kb_X7_first_37 S i t) = mg_mixed t ∧ mg_choice (kb_X7_first_37 S i t) = mg_choice t ∧ mg_history (kb_X7_first_37 S i t) = mg_history t ∧ mg_returns (kb_X7_first_37 S i t) = mg_returns t ∧ mg_returned (kb_X7_first_37 S i t) = mg_returned t ∧ mg_fetched (kb_X7_first_37 S i t) = mg_fetched t ∧ mg_fetchAt (kb_X7_first_37 S i t) = mg_fetchAt t ∧ mg_fetchCycle (kb_X7_first_37 S i t) = mg_fetchCycle t ∧ mg_fetchGuess (kb_X7_first_37 S i t) = mg_fetchGuess t ∧ mg_fetchHistory (kb_X7_first_37 S i t) = mg_fetchHistory t ∧ mg_fetchReturned (kb_X7_first_37 S i t) = mg_fetchReturned t ∧ mg_fetchReturns (kb_X7_first_37 S i t) = mg_fetchReturns t ∧ mg_runs (kb_X7_first_37 S i t) = mg_runs t ∧ mg_ended (kb_X7_first_37 S i t) = mg_ended t ∧ mg_place (kb_X7_first_37 S i t) = mg_place t ∧ mg_counts (kb_X7_first_37 S i t) = mg_counts t ∧ mg_doneAt (kb_X7_first_37 S i t) = mg_doneAt t ∧ mg_keptReturns (kb_X7_first_37 S i t) = mg_keptReturns t ∧ mg_h (kb_X7_first_37 S i t) = mg_h t := by
  unfold kb_X7_first_37
  simp only [gq_lt, mfr_targetAt, mfr_targetKind, mfr_target, and_self]
theorem mk_fi37 (S t : gs_M) (i : Nat) : mg_acts (gq_it (kb_X7_first_37 S) 0 t i) = mg_acts t ∧ mg_kinds (gq_it (kb_X7_first_37 S) 0 t i) = mg_kinds t ∧ mg_as (gq_it (kb_X7_first_37 S) 0 t i) = mg_as t ∧ mg_bs (gq_it (kb_X7_first_37 S) 0 t i) = mg_bs t ∧ mg_cs (gq_it (kb_X7_first_37 S) 0 t i) = mg_cs t ∧ mg_registers (gq_it (kb_X7_first_37 S) 0 t i) = mg_registers t ∧ mg_memory (gq_it (kb_X7_first_37 S) 0 t i) = mg_memory t ∧ mg_stack (gq_it (kb_X7_first_37 S) 0 t i) = mg_stack t ∧ mg_deep (gq_it (kb_X7_first_37 S) 0 t i) = mg_deep t ∧ mg_way (gq_it (kb_X7_first_37 S) 0 t i) = mg_way t ∧ mg_depth (gq_it (kb_X7_first_37 S) 0 t i) = mg_depth t ∧ mg_plain (gq_it (kb_X7_first_37 S) 0 t i) = mg_plain t ∧ mg_mixed (gq_it (kb_X7_first_37 S) 0 t i) = mg_mixed t ∧ mg_choice (gq_it (kb_X7_first_37 S) 0 t i) = mg_choice t ∧ mg_history (gq_it (kb_X7_first_37 S) 0 t i) = mg_history t ∧ mg_returns (gq_it (kb_X7_first_37 S) 0 t i) = mg_returns t ∧ mg_returned (gq_it (kb_X7_first_37 S) 0 t i) = mg_returned t ∧ mg_fetched (gq_it (kb_X7_first_37 S) 0 t i) = mg_fetched t ∧ mg_fetchAt (gq_it (kb_X7_first_37 S) 0 t i) = mg_fetchAt t ∧ mg_fetchCycle (gq_it (kb_X7_first_37 S) 0 t i) = mg_fetchCycle t ∧ mg_fetchGuess (gq_it (kb_X7_first_37 S) 0 t i) = mg_fetchGuess t ∧ mg_fetchHistory (gq_it (kb_X7_first_37 S) 0 t i) = mg_fetchHistory t ∧ mg_fetchReturned (gq_it (kb_X7_first_37 S) 0 t i) = mg_fetchReturned t ∧ mg_fetchReturns (gq_it (kb_X7_first_37 S) 0 t i) = mg_fetchReturns t ∧ mg_runs (gq_it (kb_X7_first_37 S) 0 t i) = mg_runs t ∧ mg_ended (gq_it (kb_X7_first_37 S) 0 t i) = mg_ended t ∧ mg_place (gq_it (kb_X7_first_37 S) 0 t i) = mg_place t ∧ mg_counts (gq_it (kb_X7_first_37 S) 0 t i) = mg_counts t ∧ mg_doneAt (gq_it (kb_X7_first_37 S) 0 t i) = mg_doneAt t ∧ mg_keptReturns (gq_it (kb_X7_first_37 S) 0 t i) = mg_keptReturns t ∧ mg_h (gq_it (kb_X7_first_37 S) 0 t i) = mg_h t := by
  induction i with
  | zero => simp only [gq_it, and_self]
  | succ i ih =>
    rw [gq_it_s _ _ (Nat.zero_le _)]
    simp only [mk_fb37 S, ih, and_self]
theorem ml_fi37_targetAt (S t : gs_M) (i : Nat) (hi : i ≤ 8) : ∀ j, j < i → mg_targetAt (gq_it (kb_X7_first_37 S) 0 t i) j = (-1) := by
  induction i with
  | zero => exact fun j hj => absurd hj (Nat.not_lt_zero _)
  | succ i ih =>
    intro j hj
    have e : mg_targetAt (gq_it (kb_X7_first_37 S) 0 t (i + 1)) = upd (mg_targetAt (gq_it (kb_X7_first_37 S) 0 t i)) (gq_ix (nI i)) (-1) := by
      rw [gq_it_s _ _ (Nat.zero_le _)]
      unfold kb_X7_first_37
      simp only [gq_lt, mfr_targetAt, mfr_targetKind, mfr_target]
    rw [e, gq_cl (by omega)]
    unfold upd
    by_cases c : j = i
    · rw [if_pos c]
    · rw [if_neg c]; exact ih (by omega) j (by omega)
theorem ml_fi37_targetKind (S t : gs_M) (i : Nat) (hi : i ≤ 8) : ∀ j, j < i → mg_targetKind (gq_it (kb_X7_first_37 S) 0 t i) j = 5 := by
  induction i with
  | zero => exact fun j hj => absurd hj (Nat.not_lt_zero _)
  | succ i ih =>
    intro j hj
    have e : mg_targetKind (gq_it (kb_X7_first_37 S) 0 t (i + 1)) = upd (mg_targetKind (gq_it (kb_X7_first_37 S) 0 t i)) (gq_ix (nI i)) 5 := by
      rw [gq_it_s _ _ (Nat.zero_le _)]
      unfold kb_X7_first_37
      simp only [gq_lt, mfr_targetAt, mfr_targetKind, mfr_target]
    rw [e, gq_cl (by omega)]
    unfold upd
    by_cases c : j = i
    · rw [if_pos c]
    · rw [if_neg c]; exact ih (by omega) j (by omega)
theorem ml_fi37_target (S t : gs_M) (i : Nat) (hi : i ≤ 8) : ∀ j, j < i → mg_target (gq_it (kb_X7_first_37 S) 0 t i) j = 0 := by
  induction i with
  | zero => exact fun j hj => absurd hj (Nat.not_lt_zero _)
  | succ i ih =>
    intro j hj
    have e : mg_target (gq_it (kb_X7_first_37 S) 0 t (i + 1)) = upd (mg_target (gq_it (kb_X7_first_37 S) 0 t i)) (gq_ix (nI i)) 0 := by
      rw [gq_it_s _ _ (Nat.zero_le _)]
      unfold kb_X7_first_37
      simp only [gq_lt, mfr_targetAt, mfr_targetKind, mfr_target]
    rw [e, gq_cl (by omega)]
    unfold upd
    by_cases c : j = i
    · rw [if_pos c]
    · rw [if_neg c]; exact ih (by omega) j (by omega)
theorem mk_first (S : gs_M) : mg_acts (k_X7_first S) = mg_acts S ∧ mg_kinds (k_X7_first S) = mg_kinds S ∧ mg_as (k_X7_first S) = mg_as S ∧ mg_bs (k_X7_first S) = mg_bs S ∧ mg_cs (k_X7_first S) = mg_cs S ∧ mg_registers (k_X7_first S) = mg_registers S ∧ mg_memory (k_X7_first S) = mg_memory S ∧ mg_stack (k_X7_first S) = mg_stack S ∧ mg_deep (k_X7_first S) = mg_deep S ∧ mg_way (k_X7_first S) = mg_way S ∧ mg_depth (k_X7_first S) = mg_depth S ∧ mg_returns (k_X7_first S) = mg_returns S ∧ mg_returned (k_X7_first S) = mg_returned S ∧ mg_fetched (k_X7_first S) = mg_fetched S ∧ mg_fetchAt (k_X7_first S) = mg_fetchAt S ∧ mg_fetchCycle (k_X7_first S) = mg_fetchCycle S ∧ mg_fetchGuess (k_X7_first S) = mg_fetchGuess S ∧ mg_fetchHistory (k_X7_first S) = mg_fetchHistory S ∧ mg_fetchReturned (k_X7_first S) = mg_fetchReturned S ∧ mg_fetchReturns (k_X7_first S) = mg_fetchReturns S ∧ mg_runs (k_X7_first S) = mg_runs S ∧ mg_ended (k_X7_first S) = mg_ended S ∧ mg_place (k_X7_first S) = mg_place S ∧ mg_counts (k_X7_first S) = mg_counts S ∧ mg_doneAt (k_X7_first S) = mg_doneAt S ∧ mg_keptReturns (k_X7_first S) = mg_keptReturns S ∧ mg_h (k_X7_first S) = mg_h S := by
  unfold k_X7_first
  simp only [gq_lt, mfr_history, mk_fi37 S, mk_fi2 S, and_self]
theorem ml_first (S : gs_M) : (∀ j, j < 16 → mg_plain (k_X7_first S) j = 1) ∧ (∀ j, j < 16 → mg_mixed (k_X7_first S) j = 1) ∧ (∀ j, j < 16 → mg_choice (k_X7_first S) j = 1) ∧ (∀ j, j < 8 → mg_targetAt (k_X7_first S) j = -1) ∧ (∀ j, j < 8 → mg_targetKind (k_X7_first S) j = 5) ∧ (∀ j, j < 8 → mg_target (k_X7_first S) j = 0) ∧ mg_history (k_X7_first S) = 0 := by
  unfold k_X7_first
  simp only [gq_lt, mfr_history, mk_fi37 S]
  exact ⟨ml_fi2_plain S S 16 (Nat.le_refl _), ml_fi2_mixed S S 16 (Nat.le_refl _), ml_fi2_choice S S 16 (Nat.le_refl _), ml_fi37_targetAt S _ 8 (Nat.le_refl _), ml_fi37_targetKind S _ 8 (Nat.le_refl _), ml_fi37_target S _ 8 (Nat.le_refl _), trivial⟩
theorem rf_fill {f : gs_R} {v : Int32} {n j : Nat} (h : j < n) : gq_fill f v n j = v := if_pos h
set_option maxHeartbeats 100000 in
theorem rf_forget (U : gs_U) : k_X1_forgetTables U = (gq_fill U.1 1 16, gq_fill U.2.1 1 16, gq_fill U.2.2.1 1 16, gq_fill U.2.2.2.1 (-1) 8, gq_fill U.2.2.2.2.1 5 8, gq_fill U.2.2.2.2.2.1 0 8, U.2.2.2.2.2.2.1, 0) := rfl
set_option maxHeartbeats 100000 in
theorem rt_first (U : gs_U) (M : gs_M) : RTg (k_X1_forgetTables U).1 (k_X1_forgetTables U).2.1 (k_X1_forgetTables U).2.2.1 (k_X1_forgetTables U).2.2.2.1 (k_X1_forgetTables U).2.2.2.2.1 (k_X1_forgetTables U).2.2.2.2.2.1 (mg_plain (k_X7_first M)) (mg_mixed (k_X7_first M)) (mg_choice (k_X7_first M)) (mg_targetAt (k_X7_first M)) (mg_targetKind (k_X7_first M)) (mg_target (k_X7_first M)) ∧ RHg (k_X1_forgetTables U).2.2.2.2.2.2.2 (mg_history (k_X7_first M)) ∧ (k_X1_forgetTables U).2.2.2.2.2.2.1 = U.2.2.2.2.2.2.1 := by
  obtain ⟨m1, m2, m3, m4, m5, m6, m7⟩ := ml_first M
  have v1 : vp_in (1 : Int32) 4 := by unfold vp_in; decide
  rw [rf_forget]
  refine ⟨⟨fun j hj => ?_, fun j hj => ?_, fun j hj => ?_, fun j hj => ?_, fun j hj => ?_, fun j hj => ?_⟩, ⟨m7.symm, ?_⟩, rfl⟩
  · rw [m1 j hj]; exact ⟨rf_fill hj, v1⟩
  · rw [m2 j hj]; exact ⟨rf_fill hj, v1⟩
  · rw [m3 j hj]; exact ⟨rf_fill hj, v1⟩
  · rw [m4 j hj]; exact rf_fill hj
  · rw [m5 j hj]; exact rf_fill hj
  · rw [m6 j hj]; exact rf_fill hj
  · rw [m7]; unfold vp_in; decide
set_option maxHeartbeats 100000 in
theorem rh_forget {B : Nat} {F : gs_F} {M : gs_M} (h : RelB B F M) : (k_X6_forget F).1 = (k_X7_forget M).1 ∧ RelB B (k_X6_forget F).2 (k_X7_forget M).2 := by
  unfold k_X6_forget k_X7_forget
  rw [h.runs]
  by_cases hr : mg_runs M = true
  · rw [if_pos hr, if_pos hr]; exact ⟨rfl, h⟩
  · rw [if_neg hr, if_neg hr]
    obtain ⟨h1, h2, h3, h4, h5, h6⟩ := h
    obtain ⟨k1, k2, k3⟩ := rt_first (gF_gues F) M
    refine ⟨rfl, ?_⟩
    simp only [RelB, gq_lt, gfr_gues, mk_first M]
    exact ⟨h1, h2, k1, k2, by rw [k3]; exact h5, h6⟩
