/-! the reference's finishFirst, in its stages -/
def m_s13 (s6 : gs_M) : gs_M :=
  gq_lt (ms_keptReturns s6 (upd (mg_keptReturns s6) (gq_ix 0) ((mg_fetchReturns s6) (gq_ix 0)))) (fun s10 =>
  gq_lt (ms_keptReturns s10 (upd (mg_keptReturns s10) (gq_ix 1) ((mg_fetchReturns s10) (gq_ix 1)))) (fun s11 =>
  gq_lt (ms_keptReturns s11 (upd (mg_keptReturns s11) (gq_ix 2) ((mg_fetchReturns s11) (gq_ix 2)))) (fun s12 =>
  gq_lt (ms_keptReturns s12 (upd (mg_keptReturns s12) (gq_ix 3) ((mg_fetchReturns s12) (gq_ix 3)))) (fun s13 => s13))))
set_option maxHeartbeats 400000 in
theorem mk_s13 (S : gs_M) : mg_acts (m_s13 S) = mg_acts S ∧ mg_kinds (m_s13 S) = mg_kinds S ∧ mg_as (m_s13 S) = mg_as S ∧ mg_bs (m_s13 S) = mg_bs S ∧ mg_cs (m_s13 S) = mg_cs S ∧ mg_registers (m_s13 S) = mg_registers S ∧ mg_memory (m_s13 S) = mg_memory S ∧ mg_stack (m_s13 S) = mg_stack S ∧ mg_deep (m_s13 S) = mg_deep S ∧ mg_way (m_s13 S) = mg_way S ∧ mg_depth (m_s13 S) = mg_depth S ∧ mg_plain (m_s13 S) = mg_plain S ∧ mg_mixed (m_s13 S) = mg_mixed S ∧ mg_choice (m_s13 S) = mg_choice S ∧ mg_history (m_s13 S) = mg_history S ∧ mg_targetAt (m_s13 S) = mg_targetAt S ∧ mg_targetKind (m_s13 S) = mg_targetKind S ∧ mg_target (m_s13 S) = mg_target S ∧ mg_returns (m_s13 S) = mg_returns S ∧ mg_returned (m_s13 S) = mg_returned S ∧ mg_fetched (m_s13 S) = mg_fetched S ∧ mg_fetchAt (m_s13 S) = mg_fetchAt S ∧ mg_fetchCycle (m_s13 S) = mg_fetchCycle S ∧ mg_fetchGuess (m_s13 S) = mg_fetchGuess S ∧ mg_fetchHistory (m_s13 S) = mg_fetchHistory S ∧ mg_fetchReturned (m_s13 S) = mg_fetchReturned S ∧ mg_fetchReturns (m_s13 S) = mg_fetchReturns S ∧ mg_runs (m_s13 S) = mg_runs S ∧ mg_ended (m_s13 S) = mg_ended S ∧ mg_place (m_s13 S) = mg_place S ∧ mg_counts (m_s13 S) = mg_counts S ∧ mg_doneAt (m_s13 S) = mg_doneAt S ∧ mg_h (m_s13 S) = mg_h S := by
  unfold m_s13
  simp only [gq_lt, mfr_keptReturns, and_self]
set_option maxHeartbeats 400000 in
theorem ml_s13 (S : gs_M) : ∀ i, i < 4 → mg_keptReturns (m_s13 S) i = mg_fetchReturns S i := by
  intro i hi
  unfold m_s13
  simp only [gq_lt, mfr_keptReturns, rl_i0, rl_i1, rl_i2, rl_i3]
  rcases (show i = 0 ∨ i = 1 ∨ i = 2 ∨ i = 3 by omega) with rfl | rfl | rfl | rfl <;> rfl
def m_25 (s22 : gs_M) (v1 v2 g v8 : Int32) (b3 b4 : Bool) : gs_M :=
  gq_lt (if b3 = true then k_X7_learn s22 v1 b4 v8 else s22) (fun s24 =>
  gq_lt (if b4 = true then m_noteT s24 v1 v2 g else s24) (fun s25 => s25))
def m_14 (S : gs_M) (v1 : Int32) : gs_M := k_X7_dropFirst (m_s13 (k_X7_does S v1).2)
def m_end (s14 : gs_M) (v1 v2 g v7 v8 v9 : Int32) (b3 b4 : Bool) : gs_M :=
  if g = (-1) then k_X7_finish s14 2
  else if v2 = 11 then k_X7_finish (m_22 s14 v1 v2) 1
  else if g = v7 then m_25 (m_22 s14 v1 v2) v1 v2 g v8 b3 b4
  else m_fin (m_40 (m_25 (m_22 s14 v1 v2) v1 v2 g v8 b3 b4) v2 g v8 v9 b3) v1 v2 b3 b4
theorem lt_E {α β : Type} {a : α} {f : α → β} {P : β → Prop} (h : ∀ y, y = a → P (f y)) : P (gq_lt a f) := h a rfl
theorem lt_K {α β : Type} {a s : α} {f : α → β} {r : β} (e : s = a) (h : f s = r) : gq_lt a f = r := by
  subst e
  exact h
set_option maxHeartbeats 1000000 in
theorem rf_first (S : gs_M) : k_X7_finishFirst S = m_end (m_14 S (mg_fetchAt S (gq_ix 0))) (mg_fetchAt S (gq_ix 0)) (mg_kinds S (gq_ix (mg_fetchAt S (gq_ix 0)))) (k_X7_does S (mg_fetchAt S (gq_ix 0))).1 (mg_fetchGuess (k_X7_does S (mg_fetchAt S (gq_ix 0))).2 (gq_ix 0)) (mg_fetchHistory (k_X7_does S (mg_fetchAt S (gq_ix 0))).2 (gq_ix 0)) (mg_fetchReturned (k_X7_does S (mg_fetchAt S (gq_ix 0))).2 (gq_ix 0)) (m_isB (mg_kinds S (gq_ix (mg_fetchAt S (gq_ix 0))))) (m_and (k_X7_in (mg_kinds S (gq_ix (mg_fetchAt S (gq_ix 0)))) 5 10) (k_X7_turned S (mg_fetchAt S (gq_ix 0)))) := by
  unfold k_X7_finishFirst
  refine lt_E (P := fun R => R = _) (fun v1 e1 => ?_)
  rw [← e1]
  refine lt_E (P := fun R => R = _) (fun v2 e2 => ?_)
  rw [← e2]
  refine lt_E (P := fun R => R = _) (fun b3 e3 => ?_)
  rw [← e3]
  refine lt_E (P := fun R => R = _) (fun b4 e4 => ?_)
  rw [← e4]
  refine lt_E (P := fun R => R = _) (fun r5 e5 => ?_)
  unfold m_14
  rw [← e5]
  refine lt_E (P := fun R => R = _) (fun s6 e6 => ?_)
  rw [← e6]
  refine lt_E (P := fun R => R = _) (fun v7 e7 => ?_)
  rw [← e7]
  refine lt_E (P := fun R => R = _) (fun v8 e8 => ?_)
  rw [← e8]
  refine lt_E (P := fun R => R = _) (fun v9 e9 => ?_)
  rw [← e9]
  refine lt_E (P := fun R => R = _) (fun s10 e10 => ?_)
  refine lt_E (P := fun R => R = _) (fun s11 e11 => ?_)
  refine lt_E (P := fun R => R = _) (fun s12 e12 => ?_)
  refine lt_E (P := fun R => R = _) (fun s13 e13 => ?_)
  have h13 : m_s13 s6 = s13 := by
    unfold m_s13
    refine lt_K e10 ?_
    refine lt_K e11 ?_
    refine lt_K e12 ?_
    refine lt_K e13 ?_
    rfl
  rw [h13]
  refine lt_E (P := fun R => R = _) (fun s14 e14 => ?_)
  rw [← e14]
  unfold m_end
  by_cases c1 : r5.1 = (-1)
  · rw [if_pos c1, if_pos c1]; exact lt_K rfl rfl
  rw [if_neg c1, if_neg c1]
  refine lt_E (P := fun R => R = _) (fun s16 e16 => ?_)
  refine lt_E (P := fun R => R = _) (fun s17 e17 => ?_)
  refine lt_E (P := fun R => R = _) (fun s18 e18 => ?_)
  refine lt_E (P := fun R => R = _) (fun v19 e19 => ?_)
  refine lt_E (P := fun R => R = _) (fun s20 e20 => ?_)
  refine lt_E (P := fun R => R = _) (fun v21 e21 => ?_)
  refine lt_E (P := fun R => R = _) (fun s22 e22 => ?_)
  have h22 : m_22 s14 v1 v2 = s22 := by
    rw [e19] at e20
    rw [e21, e3] at e22
    unfold m_22
    refine lt_K e16 ?_
    refine lt_K e17 ?_
    refine lt_K e18 ?_
    refine lt_K e20 ?_
    refine lt_K e22 ?_
    rfl
  rw [h22]
  by_cases c2 : v2 = 11
  · rw [if_pos c2, if_pos c2]; exact lt_K rfl rfl
  rw [if_neg c2, if_neg c2]
  refine lt_E (P := fun R => R = _) (fun s24 e24 => ?_)
  refine lt_E (P := fun R => R = _) (fun s25 e25 => ?_)
  have h25 : m_25 s22 v1 v2 r5.1 v8 b3 b4 = s25 := by
    unfold m_25
    refine lt_K e24 ?_
    refine lt_K e25 ?_
    rfl
  rw [h25]
  by_cases c3 : r5.1 = v7
  · rw [if_pos c3, if_pos c3]
  rw [if_neg c3, if_neg c3]
  refine lt_E (P := fun R => R = _) (fun s26 e26 => ?_)
  refine lt_E (P := fun R => R = _) (fun s27 e27 => ?_)
  refine lt_E (P := fun R => R = _) (fun v28 e28 => ?_)
  refine lt_E (P := fun R => R = _) (fun s29 e29 => ?_)
  refine lt_E (P := fun R => R = _) (fun v30 e30 => ?_)
  refine lt_E (P := fun R => R = _) (fun s31 e31 => ?_)
  refine lt_E (P := fun R => R = _) (fun s32 e32 => ?_)
  refine lt_E (P := fun R => R = _) (fun s33 e33 => ?_)
  refine lt_E (P := fun R => R = _) (fun s34 e34 => ?_)
  refine lt_E (P := fun R => R = _) (fun s35 e35 => ?_)
  refine lt_E (P := fun R => R = _) (fun s36 e36 => ?_)
  refine lt_E (P := fun R => R = _) (fun s37 e37 => ?_)
  refine lt_E (P := fun R => R = _) (fun s38 e38 => ?_)
  refine lt_E (P := fun R => R = _) (fun s39 e39 => ?_)
  refine lt_E (P := fun R => R = _) (fun s40 e40 => ?_)
  have h40 : m_40 s25 v2 r5.1 v8 v9 b3 = s40 := by
    unfold m_40
    refine lt_K e26 ?_
    refine lt_K e27 ?_
    refine lt_K e28 ?_
    refine lt_K e29 ?_
    refine lt_K e30 ?_
    refine lt_K e31 ?_
    refine lt_K e32 ?_
    refine lt_K e33 ?_
    refine lt_K e34 ?_
    refine lt_K e35 ?_
    refine lt_K e36 ?_
    refine lt_K e37 ?_
    refine lt_K e38 ?_
    refine lt_K e39 ?_
    refine lt_K e40 ?_
    rfl
  rw [h40]
  unfold m_fin
  rfl
set_option maxHeartbeats 400000 in
theorem mk_14 (S : gs_M) (v : Int32) : mg_acts (m_14 S v) = mg_acts S ∧ mg_kinds (m_14 S v) = mg_kinds S ∧ mg_as (m_14 S v) = mg_as S ∧ mg_bs (m_14 S v) = mg_bs S ∧ mg_cs (m_14 S v) = mg_cs S ∧ mg_way (m_14 S v) = mg_way S ∧ mg_depth (m_14 S v) = mg_depth S ∧ mg_plain (m_14 S v) = mg_plain S ∧ mg_mixed (m_14 S v) = mg_mixed S ∧ mg_choice (m_14 S v) = mg_choice S ∧ mg_history (m_14 S v) = mg_history S ∧ mg_targetAt (m_14 S v) = mg_targetAt S ∧ mg_targetKind (m_14 S v) = mg_targetKind S ∧ mg_target (m_14 S v) = mg_target S ∧ mg_returns (m_14 S v) = mg_returns S ∧ mg_returned (m_14 S v) = mg_returned S ∧ mg_runs (m_14 S v) = mg_runs S ∧ mg_ended (m_14 S v) = mg_ended S ∧ mg_place (m_14 S v) = mg_place S ∧ mg_counts (m_14 S v) = mg_counts S ∧ mg_doneAt (m_14 S v) = mg_doneAt S ∧ mg_h (m_14 S v) = mg_h S ∧ mg_registers (m_14 S v) = mg_registers (k_X7_does S v).2 ∧ mg_memory (m_14 S v) = mg_memory (k_X7_does S v).2 ∧ mg_stack (m_14 S v) = mg_stack (k_X7_does S v).2 ∧ mg_deep (m_14 S v) = mg_deep (k_X7_does S v).2 := by
  unfold m_14
  simp only [mk_drop, mk_s13, mk_does, and_self]
set_option maxHeartbeats 400000 in
theorem ml_14k (S : gs_M) (v : Int32) : ∀ i, i < 4 → mg_keptReturns (m_14 S v) i = mg_fetchReturns S i := by
  intro i hi
  unfold m_14
  have e : mg_keptReturns (k_X7_dropFirst (m_s13 (k_X7_does S v).2)) = mg_keptReturns (m_s13 (k_X7_does S v).2) := by simp only [mk_drop]
  rw [e, ml_s13 _ i hi]
  simp only [mk_does]
theorem rsh_in {A0 A : gs_R} {i m : Nat} (h : rshl A0 A i) (hi : i ≤ 8) (h0 : ∀ j, j < 8 → vp_in (A0 j) m) : ∀ j, j < 8 → vp_in (A j) m := by
  intro j hj
  rcases Nat.lt_or_ge (j + 1) i with c | c
  · rw [(h j).1 c]; exact h0 _ (by omega)
  · rw [(h j).2 c]; exact h0 _ hj
set_option maxHeartbeats 400000 in
theorem rd_ra {S : gs_M} {q : Nat} (hq : mg_fetched S = nI (q + 1)) (h8 : q < 8) (h : RAg (mg_fetchAt S) (mg_fetchHistory S) (mg_fetchReturned S)) : RAg (mg_fetchAt (k_X7_dropFirst S)) (mg_fetchHistory (k_X7_dropFirst S)) (mg_fetchReturned (k_X7_dropFirst S)) := by
  obtain ⟨q1, q2, q3, q4, q5, q6⟩ := rdb_it S S (q + 1) (by omega) (by omega)
  unfold k_X7_dropFirst
  simp only [gq_lt, mfr_fetched]
  rw [hq, gq_cl (by omega)]
  exact ⟨rsh_in q1 (by omega) h.1, rsh_in q4 (by omega) h.2.1, rsh_in q5 (by omega) h.2.2⟩
set_option maxHeartbeats 400000 in
theorem ml_14 {S : gs_M} {q : Nat} (v : Int32) (hq : mg_fetched S = nI (q + 1)) (h8 : q < 8) : mg_fetched (m_14 S v) = nI q ∧ ∀ j, j < q → mg_fetchAt (m_14 S v) j = mg_fetchAt S (j + 1) ∧ mg_fetchCycle (m_14 S v) j = mg_fetchCycle S (j + 1) ∧ mg_fetchGuess (m_14 S v) j = mg_fetchGuess S (j + 1) ∧ mg_fetchHistory (m_14 S v) j = mg_fetchHistory S (j + 1) ∧ mg_fetchReturned (m_14 S v) j = mg_fetchReturned S (j + 1) ∧ ∀ i, i < 4 → mg_fetchReturns (m_14 S v) (4 * j + i) = mg_fetchReturns S (4 * (j + 1) + i) := by
  have e : mg_fetched (m_s13 (k_X7_does S v).2) = nI (q + 1) := by simp only [mk_s13, mk_does]; exact hq
  have h := rd_drop e h8
  simp only [mk_s13, mk_does] at h
  exact h
set_option maxHeartbeats 400000 in
theorem ml_14a {S : gs_M} {q : Nat} (v : Int32) (hq : mg_fetched S = nI (q + 1)) (h8 : q < 8) (h : RAg (mg_fetchAt S) (mg_fetchHistory S) (mg_fetchReturned S)) : RAg (mg_fetchAt (m_14 S v)) (mg_fetchHistory (m_14 S v)) (mg_fetchReturned (m_14 S v)) := by
  have e : mg_fetched (m_s13 (k_X7_does S v).2) = nI (q + 1) := by simp only [mk_s13, mk_does]; exact hq
  refine rd_ra e h8 ?_
  simp only [mk_s13, mk_does]
  exact h
