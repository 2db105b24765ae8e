/-! going back -/
def m_40 (s25 : gs_M) (v2 g v8 v9 : Int32) (b3 : Bool) : gs_M :=
        gq_lt (ms_counts s25 (upd (mg_counts s25) (gq_ix 2) (((mg_counts s25) (gq_ix 2)) + 1))) (fun s26 =>
        gq_lt (ms_counts s26 (upd (mg_counts s26) (gq_ix 14) (((mg_counts s26) (gq_ix 14)) + 1))) (fun s27 =>
        gq_lt (gq_b b3) (fun v28 =>
        gq_lt (ms_counts s27 (upd (mg_counts s27) (gq_ix 6) (((mg_counts s27) (gq_ix 6)) + v28))) (fun s29 =>
        gq_lt (if v2 = 9 then 1 else 0) (fun v30 =>
        gq_lt (ms_counts s29 (upd (mg_counts s29) (gq_ix 7) (((mg_counts s29) (gq_ix 7)) + v30))) (fun s31 =>
        gq_lt (ms_counts s31 (upd (mg_counts s31) (gq_ix 3) (((mg_counts s31) (gq_ix 3)) + (mg_fetched s31)))) (fun s32 =>
        gq_lt (ms_fetched s32 0) (fun s33 =>
        gq_lt (ms_place s33 g) (fun s34 =>
        gq_lt (ms_history s34 v8) (fun s35 =>
        gq_lt (ms_returned s35 v9) (fun s36 =>
        gq_lt (ms_returns s36 (upd (mg_returns s36) (gq_ix 0) ((mg_keptReturns s36) (gq_ix 0)))) (fun s37 =>
        gq_lt (ms_returns s37 (upd (mg_returns s37) (gq_ix 1) ((mg_keptReturns s37) (gq_ix 1)))) (fun s38 =>
        gq_lt (ms_returns s38 (upd (mg_returns s38) (gq_ix 2) ((mg_keptReturns s38) (gq_ix 2)))) (fun s39 =>
        gq_lt (ms_returns s39 (upd (mg_returns s39) (gq_ix 3) ((mg_keptReturns s39) (gq_ix 3)))) (fun s40 => s40)))))))))))))))
def m_fin (s40 : gs_M) (v1 v2 : Int32) (b3 b4 : Bool) : gs_M :=
        if b3 = true then
          gq_lt (k_X7_bit s40 b4) (fun s41 =>
          s41)
        else
          if v2 = 8 then
            gq_lt (k_X7_push s40 (v1 + 1)) (fun s42 =>
            s42)
          else
            if v2 = 9 then
              if mg_returned s40 ≤ 0 then
                s40
              else
                gq_lt (ms_returned s40 ((mg_returned s40) - 1)) (fun s43 =>
                s43)
            else
              s40
set_option maxHeartbeats 400000 in
theorem mk_40 (S : gs_M) (v2 g v8 v9 : Int32) (b3 : Bool) : mg_acts (m_40 S v2 g v8 v9 b3) = mg_acts S ∧ mg_kinds (m_40 S v2 g v8 v9 b3) = mg_kinds S ∧ mg_as (m_40 S v2 g v8 v9 b3) = mg_as S ∧ mg_bs (m_40 S v2 g v8 v9 b3) = mg_bs S ∧ mg_cs (m_40 S v2 g v8 v9 b3) = mg_cs S ∧ mg_registers (m_40 S v2 g v8 v9 b3) = mg_registers S ∧ mg_memory (m_40 S v2 g v8 v9 b3) = mg_memory S ∧ mg_stack (m_40 S v2 g v8 v9 b3) = mg_stack S ∧ mg_deep (m_40 S v2 g v8 v9 b3) = mg_deep S ∧ mg_way (m_40 S v2 g v8 v9 b3) = mg_way S ∧ mg_depth (m_40 S v2 g v8 v9 b3) = mg_depth S ∧ mg_plain (m_40 S v2 g v8 v9 b3) = mg_plain S ∧ mg_mixed (m_40 S v2 g v8 v9 b3) = mg_mixed S ∧ mg_choice (m_40 S v2 g v8 v9 b3) = mg_choice S ∧ mg_targetAt (m_40 S v2 g v8 v9 b3) = mg_targetAt S ∧ mg_targetKind (m_40 S v2 g v8 v9 b3) = mg_targetKind S ∧ mg_target (m_40 S v2 g v8 v9 b3) = mg_target S ∧ mg_fetchAt (m_40 S v2 g v8 v9 b3) = mg_fetchAt S ∧ mg_fetchCycle (m_40 S v2 g v8 v9 b3) = mg_fetchCycle S ∧ mg_fetchGuess (m_40 S v2 g v8 v9 b3) = mg_fetchGuess S ∧ mg_fetchHistory (m_40 S v2 g v8 v9 b3) = mg_fetchHistory S ∧ mg_fetchReturned (m_40 S v2 g v8 v9 b3) = mg_fetchReturned S ∧ mg_fetchReturns (m_40 S v2 g v8 v9 b3) = mg_fetchReturns S ∧ mg_runs (m_40 S v2 g v8 v9 b3) = mg_runs S ∧ mg_ended (m_40 S v2 g v8 v9 b3) = mg_ended S ∧ mg_doneAt (m_40 S v2 g v8 v9 b3) = mg_doneAt S ∧ mg_keptReturns (m_40 S v2 g v8 v9 b3) = mg_keptReturns S ∧ mg_h (m_40 S v2 g v8 v9 b3) = mg_h S := by
  unfold m_40
  simp only [gq_lt, mfr_counts, mfr_fetched, mfr_place, mfr_history, mfr_returned, mfr_returns, and_self]
set_option maxHeartbeats 400000 in
theorem ml_40 (S : gs_M) (v2 g v8 v9 : Int32) (b3 : Bool) : mg_counts (m_40 S v2 g v8 v9 b3) = c_ad (c_ad (c_ad (c_ad (c_ad (mg_counts S) 2 1) 14 1) 6 (gq_b b3)) 7 (if v2 = 9 then 1 else 0)) 3 (mg_fetched S) ∧ mg_fetched (m_40 S v2 g v8 v9 b3) = 0 ∧ mg_place (m_40 S v2 g v8 v9 b3) = g ∧ mg_history (m_40 S v2 g v8 v9 b3) = v8 ∧ mg_returned (m_40 S v2 g v8 v9 b3) = v9 ∧ mg_returns (m_40 S v2 g v8 v9 b3) = upd (upd (upd (upd (mg_returns S) 0 (mg_keptReturns S 0)) 1 (mg_keptReturns S 1)) 2 (mg_keptReturns S 2)) 3 (mg_keptReturns S 3) := by
  unfold m_40 c_ad
  simp only [gq_lt, mfr_counts, mfr_fetched, mfr_place, mfr_history, mfr_returned, mfr_returns, rl_i0, rl_i1, rl_i2, rl_i3, rl_i6, rl_i7, rl_i14, and_self]
set_option maxHeartbeats 400000 in
theorem mk_fin (S : gs_M) (v1 v2 : Int32) (b3 b4 : Bool) : mg_acts (m_fin S v1 v2 b3 b4) = mg_acts S ∧ mg_kinds (m_fin S v1 v2 b3 b4) = mg_kinds S ∧ mg_as (m_fin S v1 v2 b3 b4) = mg_as S ∧ mg_bs (m_fin S v1 v2 b3 b4) = mg_bs S ∧ mg_cs (m_fin S v1 v2 b3 b4) = mg_cs S ∧ mg_registers (m_fin S v1 v2 b3 b4) = mg_registers S ∧ mg_memory (m_fin S v1 v2 b3 b4) = mg_memory S ∧ mg_stack (m_fin S v1 v2 b3 b4) = mg_stack S ∧ mg_deep (m_fin S v1 v2 b3 b4) = mg_deep S ∧ mg_way (m_fin S v1 v2 b3 b4) = mg_way S ∧ mg_depth (m_fin S v1 v2 b3 b4) = mg_depth S ∧ mg_plain (m_fin S v1 v2 b3 b4) = mg_plain S ∧ mg_mixed (m_fin S v1 v2 b3 b4) = mg_mixed S ∧ mg_choice (m_fin S v1 v2 b3 b4) = mg_choice S ∧ mg_targetAt (m_fin S v1 v2 b3 b4) = mg_targetAt S ∧ mg_targetKind (m_fin S v1 v2 b3 b4) = mg_targetKind S ∧ mg_target (m_fin S v1 v2 b3 b4) = mg_target S ∧ mg_fetched (m_fin S v1 v2 b3 b4) = mg_fetched S ∧ mg_fetchAt (m_fin S v1 v2 b3 b4) = mg_fetchAt S ∧ mg_fetchCycle (m_fin S v1 v2 b3 b4) = mg_fetchCycle S ∧ mg_fetchGuess (m_fin S v1 v2 b3 b4) = mg_fetchGuess S ∧ mg_fetchHistory (m_fin S v1 v2 b3 b4) = mg_fetchHistory S ∧ mg_fetchReturned (m_fin S v1 v2 b3 b4) = mg_fetchReturned S ∧ mg_fetchReturns (m_fin S v1 v2 b3 b4) = mg_fetchReturns S ∧ mg_runs (m_fin S v1 v2 b3 b4) = mg_runs S ∧ mg_ended (m_fin S v1 v2 b3 b4) = mg_ended S ∧ mg_place (m_fin S v1 v2 b3 b4) = mg_place S ∧ mg_counts (m_fin S v1 v2 b3 b4) = mg_counts S ∧ mg_doneAt (m_fin S v1 v2 b3 b4) = mg_doneAt S ∧ mg_keptReturns (m_fin S v1 v2 b3 b4) = mg_keptReturns S ∧ mg_h (m_fin S v1 v2 b3 b4) = mg_h S := by
  unfold m_fin
  by_cases a : b3 = true
  · simp only [if_pos a, gq_lt, mk_bit, and_self]
  by_cases b : v2 = 8
  · simp only [if_neg a, if_pos b, gq_lt, mk_push, and_self]
  by_cases c : v2 = 9
  · by_cases d : mg_returned S ≤ 0
    · simp only [if_neg a, if_neg b, if_pos c, if_pos d, and_self]
    · simp only [if_neg a, if_neg b, if_pos c, if_neg d, gq_lt, mfr_returned, and_self]
  · simp only [if_neg a, if_neg b, if_neg c, and_self]
set_option maxHeartbeats 400000 in
theorem rq_was {U : gs_U} {M : gs_M} {v1 v2 : Int32} (y : Bool) (hx : vp_in v1 60) (hh : RHg U.2.2.2.2.2.2.2 (mg_history M)) (hr : RRg U.2.2.2.2.2.2.1 (mg_returned M) (mg_returns M)) : (k_X1_noteWhatWasDone U v1 v2 y).1 = U.1 ∧ (k_X1_noteWhatWasDone U v1 v2 y).2.1 = U.2.1 ∧ (k_X1_noteWhatWasDone U v1 v2 y).2.2.1 = U.2.2.1 ∧ (k_X1_noteWhatWasDone U v1 v2 y).2.2.2.1 = U.2.2.2.1 ∧ (k_X1_noteWhatWasDone U v1 v2 y).2.2.2.2.1 = U.2.2.2.2.1 ∧ (k_X1_noteWhatWasDone U v1 v2 y).2.2.2.2.2.1 = U.2.2.2.2.2.1 ∧ RHg (k_X1_noteWhatWasDone U v1 v2 y).2.2.2.2.2.2.2 (mg_history (m_fin M v1 v2 (m_isB v2) y)) ∧ RRg (k_X1_noteWhatWasDone U v1 v2 y).2.2.2.2.2.2.1 (mg_returned (m_fin M v1 v2 (m_isB v2) y)) (mg_returns (m_fin M v1 v2 (m_isB v2) y)) := by
  have eB : k_X6_isBranch v2 = m_isB v2 := rfl
  unfold k_X1_noteWhatWasDone m_fin
  rw [eB]
  by_cases a : m_isB v2 = true
  · rw [if_pos a, if_pos a]
    have a' := rq_kind.mp (eB.trans a)
    have n8 : ¬ v2 = 8 := by rcases a' with z | z <;> rw [z] <;> decide
    have n9 : ¬ v2 = 9 := by rcases a' with z | z <;> rw [z] <;> decide
    simp only [gq_lt, if_neg n8, if_neg n9]
    obtain ⟨b1, b2⟩ := rq_bit (b := y) hh
    rw [b1]
    simp only [mk_bit]
    exact ⟨trivial, trivial, trivial, trivial, trivial, trivial, ⟨rfl, b2⟩, hr⟩
  rw [if_neg a, if_neg a]
  by_cases b : v2 = 8
  · rw [if_pos b, if_pos b]
    have m3 : mg_history (k_X7_push M (v1 + 1)) = mg_history M := by simp only [mk_push]
    simp only [gq_lt, m3]
    exact ⟨trivial, trivial, trivial, trivial, trivial, trivial, hh, rq_push (rq_place hx) hr⟩
  rw [if_neg b, if_neg b]
  by_cases c : v2 = 9
  · rw [if_pos c, if_pos c]
    simp only [gq_lt]
    obtain ⟨r, r1, r2, r3, r4⟩ := hr
    rcases Nat.eq_zero_or_pos r with z | z
    · subst z
      rw [rp2_pop0 r2 (by decide), if_pos (by rw [r3]; decide)]
      exact ⟨trivial, trivial, trivial, trivial, trivial, trivial, hh, 0, by omega, rfl, r3, fun j hj => absurd hj (Nat.not_lt_zero _)⟩
    · obtain ⟨r', rfl⟩ : ∃ r', r = r' + 1 := ⟨r - 1, by omega⟩
      rw [rp2_pop (n := r') r2 (by omega) (by decide), if_neg (by rw [r3]; exact nI_nle (by omega) (by omega))]
      simp only [mfr_returned, r3, nI_pred]
      exact ⟨trivial, trivial, trivial, trivial, trivial, trivial, hh, r', by omega, rfl, rfl, fun j hj => r4 j (by omega)⟩
  · rw [if_neg c, if_neg c]
    exact ⟨rfl, rfl, rfl, rfl, rfl, rfl, hh, hr⟩
