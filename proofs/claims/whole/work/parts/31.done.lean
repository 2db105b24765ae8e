/-! an action noted as done -/
def m_22 (s14 : gs_M) (v1 v2 : Int32) : gs_M :=
    gq_lt (m_noteD s14 v1) (fun s16 =>
    gq_lt (ms_counts s16 (upd (mg_counts s16) (gq_ix 1) (((mg_counts s16) (gq_ix 1)) + 1))) (fun s17 =>
    gq_lt (ms_counts s17 (upd (mg_counts s17) (gq_ix 13) (((mg_counts s17) (gq_ix 13)) + 1))) (fun s18 =>
    gq_lt (ms_counts s18 (upd (mg_counts s18) (gq_ix 4) (((mg_counts s18) (gq_ix 4)) + gq_b (k_X7_in v2 5 10)))) (fun s20 =>
    gq_lt (ms_counts s20 (upd (mg_counts s20) (gq_ix 5) (((mg_counts s20) (gq_ix 5)) + gq_b (m_isB v2)))) (fun s22 => s22)))))
set_option maxHeartbeats 400000 in
theorem mk_22 (S : gs_M) (v k : Int32) : mg_acts (m_22 S v k) = mg_acts S ∧ mg_kinds (m_22 S v k) = mg_kinds S ∧ mg_as (m_22 S v k) = mg_as S ∧ mg_bs (m_22 S v k) = mg_bs S ∧ mg_cs (m_22 S v k) = mg_cs S ∧ mg_registers (m_22 S v k) = mg_registers S ∧ mg_memory (m_22 S v k) = mg_memory S ∧ mg_stack (m_22 S v k) = mg_stack S ∧ mg_deep (m_22 S v k) = mg_deep S ∧ mg_way (m_22 S v k) = mg_way S ∧ mg_depth (m_22 S v k) = mg_depth S ∧ mg_plain (m_22 S v k) = mg_plain S ∧ mg_mixed (m_22 S v k) = mg_mixed S ∧ mg_choice (m_22 S v k) = mg_choice S ∧ mg_history (m_22 S v k) = mg_history S ∧ mg_targetAt (m_22 S v k) = mg_targetAt S ∧ mg_targetKind (m_22 S v k) = mg_targetKind S ∧ mg_target (m_22 S v k) = mg_target S ∧ mg_returns (m_22 S v k) = mg_returns S ∧ mg_returned (m_22 S v k) = mg_returned S ∧ mg_fetched (m_22 S v k) = mg_fetched S ∧ mg_fetchAt (m_22 S v k) = mg_fetchAt S ∧ mg_fetchCycle (m_22 S v k) = mg_fetchCycle S ∧ mg_fetchGuess (m_22 S v k) = mg_fetchGuess S ∧ mg_fetchHistory (m_22 S v k) = mg_fetchHistory S ∧ mg_fetchReturned (m_22 S v k) = mg_fetchReturned S ∧ mg_fetchReturns (m_22 S v k) = mg_fetchReturns S ∧ mg_runs (m_22 S v k) = mg_runs S ∧ mg_ended (m_22 S v k) = mg_ended S ∧ mg_place (m_22 S v k) = mg_place S ∧ mg_keptReturns (m_22 S v k) = mg_keptReturns S ∧ mg_h (m_22 S v k) = mg_h S := by
  unfold m_22 m_noteD
  by_cases c : 300 ≤ mg_counts S (gq_ix 1)
  · simp only [if_pos c, gq_lt, mfr_counts, and_self]
  · simp only [if_neg c, gq_lt, mfr_counts, mfr_doneAt, and_self]
def c_ad (c : gs_R) (k : Nat) (x : Int32) : gs_R := upd c k (c k + x)
theorem RN_ad {cF cM : gs_R} (h : RNg cF cM) (k : Nat) (hk : k < 15) (hs : k < 9 ∨ 12 ≤ k) (x : Int32) : RNg (c_ad cF k x) (c_ad cM k x) := RN_up h k (by rw [h k hk hs])
theorem RN_ad0 {cF cM : gs_R} (h : RNg cF cM) (k : Nat) : RNg cF (c_ad cM k 0) := by
  intro j hj hs
  unfold c_ad upd
  by_cases c : j = k
  · rw [if_pos c, Int32.add_zero, c]; rw [c] at hj hs; exact h k hj hs
  · rw [if_neg c]; exact h j hj hs
set_option maxHeartbeats 400000 in
theorem ml_22 (S : gs_M) (v k : Int32) : mg_counts (m_22 S v k) = c_ad (c_ad (c_ad (c_ad (mg_counts S) 1 1) 13 1) 4 (gq_b (k_X7_in k 5 10))) 5 (gq_b (m_isB k)) ∧ mg_doneAt (m_22 S v k) = if 300 ≤ mg_counts S 1 then mg_doneAt S else upd (mg_doneAt S) (gq_ix (mg_counts S 1)) v := by
  unfold m_22 m_noteD c_ad
  rw [rl_i1]
  by_cases c : 300 ≤ mg_counts S 1
  · simp only [if_pos c, gq_lt, mfr_counts, rl_i13, rl_i4, rl_i5, and_self]
  · simp only [if_neg c, gq_lt, mfr_counts, mfr_doneAt, rl_i13, rl_i4, rl_i5, and_self]
set_option maxHeartbeats 400000 in
theorem rf_done (F : gs_F) (v k : Int32) : gF_prog (k_X6_noteDone F v k) = gF_prog F ∧ gF_core (k_X6_noteDone F v k) = gF_core F ∧ gF_gues (k_X6_noteDone F v k) = gF_gues F ∧ gF_queue (k_X6_noteDone F v k) = gF_queue F ∧ gF_way (k_X6_noteDone F v k) = gF_way F ∧ gF_depth (k_X6_noteDone F v k) = gF_depth F ∧ gF_place (k_X6_noteDone F v k) = gF_place F ∧ gF_run (k_X6_noteDone F v k) = gF_run F := by
  unfold k_X6_noteDone
  by_cases t : k_X6_isTurn k = true
  · by_cases b : k_X6_isBranch k = true
    · simp only [gq_lt, if_pos t, if_pos b, gfr_counts, gfr_done, and_self]
    · simp only [gq_lt, if_pos t, if_neg b, gfr_counts, gfr_done, and_self]
  · by_cases b : k_X6_isBranch k = true
    · simp only [gq_lt, if_neg t, if_pos b, gfr_counts, gfr_done, and_self]
    · simp only [gq_lt, if_neg t, if_neg b, gfr_counts, gfr_done, and_self]
set_option maxHeartbeats 400000 in
theorem rf_done2 {F : gs_F} {C : gs_R} (v k : Int32) (h : RNg (gF_counts F) C) : gF_done (k_X6_noteDone F v k) = (k_X2_push 300 (gF_done F) v).2 ∧ RNg (gF_counts (k_X6_noteDone F v k)) (c_ad (c_ad (c_ad (c_ad C 1 1) 13 1) 4 (gq_b (k_X7_in k 5 10))) 5 (gq_b (m_isB k))) := by
  have h2 : RNg (c_ad (c_ad (gF_counts F) 1 1) 13 1) (c_ad (c_ad C 1 1) 13 1) := RN_ad (RN_ad h 1 (by omega) (by omega) 1) 13 (by omega) (by omega) 1
  have eT : k_X6_isTurn k = k_X7_in k 5 10 := kv_in
  have eB : k_X6_isBranch k = m_isB k := rfl
  unfold k_X6_noteDone
  rw [eT, eB]
  cases t : k_X7_in k 5 10 with
  | true =>
    cases b : m_isB k with
    | true =>
      simp only [gq_lt, if_true, gfr_counts, gfr_done, rk_a1, rk_a13, rk_a4, rk_a5]
      exact ⟨trivial, RN_ad (RN_ad h2 4 (by omega) (by omega) 1) 5 (by omega) (by omega) 1⟩
    | false =>
      simp only [gq_lt, if_true, Bool.false_eq_true, if_false, gfr_counts, gfr_done, rk_a1, rk_a13, rk_a4, rk_a5]
      exact ⟨trivial, RN_ad0 (RN_ad h2 4 (by omega) (by omega) 1) 5⟩
  | false =>
    cases b : m_isB k with
    | true =>
      simp only [gq_lt, if_true, Bool.false_eq_true, if_false, gfr_counts, gfr_done, rk_a1, rk_a13, rk_a4, rk_a5]
      exact ⟨trivial, RN_ad (RN_ad0 h2 4) 5 (by omega) (by omega) 1⟩
    | false =>
      simp only [gq_lt, Bool.false_eq_true, if_false, gfr_counts, gfr_done, rk_a1, rk_a13, rk_a4, rk_a5]
      exact ⟨trivial, RN_ad0 (RN_ad0 h2 4) 5⟩
set_option maxHeartbeats 400000 in
theorem rh_noted {B : Nat} {F : gs_F} {M : gs_M} (v k : Int32) (hB : B + 1 < 1073741824) (h : RelB B F M) : RelB (B + 1) (k_X6_noteDone F v k) (m_22 M v k) := by
  obtain ⟨h1, h2, h3, h4, h5, h6, h7, h8, ⟨n, n1, n2, n3, n4, n5⟩, h10, h11⟩ := h
  obtain ⟨d1, d2⟩ := rf_done2 v k h8
  obtain ⟨e1, e2⟩ := ml_22 M v k
  simp only [RelB, rf_done, mk_22, d1, e1, e2]
  refine ⟨h1, h2, h3, h4, h5, h6, h7, d2, ?_, h10, h11⟩
  rw [n3]
  refine ⟨n + 1, by omega, hB, ?_, ?_⟩
  · show mg_counts M 1 + 1 = nI (n + 1)
    rw [n3, nI_1]
  · by_cases c : 300 ≤ n
    · rw [if_pos (show (300 : Int32) ≤ nI n from nI_le (a := 300) c (by omega)), rp2_full (m := 300) (by rw [n4, show min n 300 = 300 by omega]) (by decide)]
      rw [show min (n + 1) 300 = min n 300 by omega]
      exact ⟨n4, n5⟩
    · rw [if_neg (show ¬ (300 : Int32) ≤ nI n from nI_ge (b := 300) (by omega) (by decide)), rp2_push (m := 300) (n := n) (by rw [n4, show min n 300 = n by omega]) (by omega) (by decide), gq_cl (by omega), show min (n + 1) 300 = n + 1 by omega]
      rw [show min n 300 = n by omega] at n5
      refine ⟨rfl, fun j hj => ?_⟩
      show upd (gF_done F).1 n v j = upd (mg_doneAt M) n v j
      unfold upd
      by_cases e : j = n
      · rw [if_pos e, if_pos e]
      · rw [if_neg e, if_neg e]; exact n5 j (by omega)
