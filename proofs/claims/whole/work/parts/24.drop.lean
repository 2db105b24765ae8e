/-! dropFirst: the arrays moved down by one -/
theorem rdb_e {i : Nat} (h1 : 1 ≤ i) : nI i - 1 = nI (i - 1) := by
  obtain ⟨j, rfl⟩ : ∃ j, i = j + 1 := ⟨i - 1, by omega⟩
  rw [nI_pred]
  rfl
theorem rdb_m (k t : Nat) (x : Int32) (hx : x = nI t) (hk : k < 100) (ht : t < 4) : gq_ix ((4 * nI k) + x) = 4 * k + t := by
  rw [hx, rqq_j4, gq_cl (by omega)]
set_option maxHeartbeats 400000 in
theorem rdb_1 (S u : gs_M) {i : Nat} (h1 : 1 ≤ i) (h8 : i ≤ 8) : mg_fetchAt (kb_X7_dropFirst_2 S i u) = upd (mg_fetchAt u) (i - 1) (mg_fetchAt u i) ∧ mg_fetchCycle (kb_X7_dropFirst_2 S i u) = upd (mg_fetchCycle u) (i - 1) (mg_fetchCycle u i) ∧ mg_fetchGuess (kb_X7_dropFirst_2 S i u) = upd (mg_fetchGuess u) (i - 1) (mg_fetchGuess u i) ∧ mg_fetchHistory (kb_X7_dropFirst_2 S i u) = upd (mg_fetchHistory u) (i - 1) (mg_fetchHistory u i) ∧ mg_fetchReturned (kb_X7_dropFirst_2 S i u) = upd (mg_fetchReturned u) (i - 1) (mg_fetchReturned u i) := by
  have e := rdb_e h1
  have g1 : gq_ix (nI i) = i := gq_cl (by omega)
  have g2 : gq_ix (nI (i - 1)) = i - 1 := gq_cl (by omega)
  unfold kb_X7_dropFirst_2
  simp only [gq_lt, mfr_fetchAt, mfr_fetchCycle, mfr_fetchGuess, mfr_fetchHistory, mfr_fetchReturned, mfr_fetchReturns, e, g1, g2, and_self]
set_option maxHeartbeats 400000 in
theorem rdb_2 (S u : gs_M) {i : Nat} (h1 : 1 ≤ i) (h8 : i ≤ 8) : mg_fetchReturns (kb_X7_dropFirst_2 S i u) = upd (upd (upd (upd (mg_fetchReturns u) (4 * (i - 1)) (mg_fetchReturns u (4 * i))) (4 * (i - 1) + 1) (mg_fetchReturns u (4 * i + 1))) (4 * (i - 1) + 2) (mg_fetchReturns u (4 * i + 2))) (4 * (i - 1) + 3) (mg_fetchReturns u (4 * i + 3)) := by
  have e := rdb_e h1
  have a0 : gq_ix ((4 * nI i) + 0) = 4 * i := rdb_m i 0 0 rfl (by omega) (by omega)
  have a1 : gq_ix ((4 * nI i) + 1) = 4 * i + 1 := rdb_m i 1 1 rfl (by omega) (by omega)
  have a2 : gq_ix ((4 * nI i) + 2) = 4 * i + 2 := rdb_m i 2 2 rfl (by omega) (by omega)
  have a3 : gq_ix ((4 * nI i) + 3) = 4 * i + 3 := rdb_m i 3 3 rfl (by omega) (by omega)
  have b0 : gq_ix ((4 * nI (i - 1)) + 0) = 4 * (i - 1) := rdb_m (i - 1) 0 0 rfl (by omega) (by omega)
  have b1 : gq_ix ((4 * nI (i - 1)) + 1) = 4 * (i - 1) + 1 := rdb_m (i - 1) 1 1 rfl (by omega) (by omega)
  have b2 : gq_ix ((4 * nI (i - 1)) + 2) = 4 * (i - 1) + 2 := rdb_m (i - 1) 2 2 rfl (by omega) (by omega)
  have b3 : gq_ix ((4 * nI (i - 1)) + 3) = 4 * (i - 1) + 3 := rdb_m (i - 1) 3 3 rfl (by omega) (by omega)
  unfold kb_X7_dropFirst_2
  simp only [gq_lt, mfr_fetchAt, mfr_fetchCycle, mfr_fetchGuess, mfr_fetchHistory, mfr_fetchReturned, mfr_fetchReturns, e, a0, a1, a2, a3, b0, b1, b2, b3]
  have u1 : upd (mg_fetchReturns u) (4 * (i - 1)) (mg_fetchReturns u (4 * i)) (4 * i + 1) = mg_fetchReturns u (4 * i + 1) := pk_un (by omega)
  rw [u1]
  have u2 : upd (upd (mg_fetchReturns u) (4 * (i - 1)) (mg_fetchReturns u (4 * i))) (4 * (i - 1) + 1) (mg_fetchReturns u (4 * i + 1)) (4 * i + 2) = mg_fetchReturns u (4 * i + 2) := (pk_un (by omega)).trans (pk_un (by omega))
  rw [u2]
  have u3 : upd (upd (upd (mg_fetchReturns u) (4 * (i - 1)) (mg_fetchReturns u (4 * i))) (4 * (i - 1) + 1) (mg_fetchReturns u (4 * i + 1))) (4 * (i - 1) + 2) (mg_fetchReturns u (4 * i + 2)) (4 * i + 3) = mg_fetchReturns u (4 * i + 3) := (pk_un (by omega)).trans ((pk_un (by omega)).trans (pk_un (by omega)))
  rw [u3]
def rdrop (S T : gs_M) (i : Nat) : Prop := rshl (mg_fetchAt S) (mg_fetchAt T) i ∧ rshl (mg_fetchCycle S) (mg_fetchCycle T) i ∧ rshl (mg_fetchGuess S) (mg_fetchGuess T) i ∧ rshl (mg_fetchHistory S) (mg_fetchHistory T) i ∧ rshl (mg_fetchReturned S) (mg_fetchReturned T) i ∧ rsh4 (mg_fetchReturns S) (mg_fetchReturns T) i
theorem rdb_it (S s : gs_M) : ∀ i, 1 ≤ i → i ≤ 8 → rdrop s (gq_it (kb_X7_dropFirst_2 S) 1 s i) i := by
  intro i
  induction i with
  | zero => exact fun h => absurd h (by omega)
  | succ i ih =>
    intro h1 h8
    rcases Nat.eq_zero_or_pos i with z | z
    · subst z
      rw [show gq_it (kb_X7_dropFirst_2 S) 1 s (0 + 1) = s from gq_it_0 _ _ _]
      exact ⟨rshl_1 _, rshl_1 _, rshl_1 _, rshl_1 _, rshl_1 _, rsh4_1 _⟩
    · rw [gq_it_s _ _ z]
      obtain ⟨q1, q2, q3, q4, q5, q6⟩ := ih z (by omega)
      obtain ⟨r1, r2, r3, r4, r5⟩ := rdb_1 S (gq_it (kb_X7_dropFirst_2 S) 1 s i) z (by omega)
      unfold rdrop
      rw [r1, r2, r3, r4, r5, rdb_2 S _ z (by omega)]
      exact ⟨rshl_s z q1, rshl_s z q2, rshl_s z q3, rshl_s z q4, rshl_s z q5, rsh4_s z q6⟩
theorem rd_drop {S : gs_M} {q : Nat} (hq : mg_fetched S = nI (q + 1)) (h8 : q < 8) : mg_fetched (k_X7_dropFirst S) = nI q ∧ ∀ j, j < q → mg_fetchAt (k_X7_dropFirst S) j = mg_fetchAt S (j + 1) ∧ mg_fetchCycle (k_X7_dropFirst S) j = mg_fetchCycle S (j + 1) ∧ mg_fetchGuess (k_X7_dropFirst S) j = mg_fetchGuess S (j + 1) ∧ mg_fetchHistory (k_X7_dropFirst S) j = mg_fetchHistory S (j + 1) ∧ mg_fetchReturned (k_X7_dropFirst S) j = mg_fetchReturned S (j + 1) ∧ ∀ i, i < 4 → mg_fetchReturns (k_X7_dropFirst S) (4 * j + i) = mg_fetchReturns S (4 * (j + 1) + i) := by
  refine ⟨by rw [ml_drop_fetched, hq, nI_pred], fun j hj => ?_⟩
  obtain ⟨q1, q2, q3, q4, q5, q6⟩ := rdb_it S S (q + 1) (by omega) (by omega)
  unfold k_X7_dropFirst
  simp only [gq_lt, mfr_fetched]
  rw [hq, gq_cl (by omega)]
  refine ⟨(q1 j).1 (by omega), (q2 j).1 (by omega), (q3 j).1 (by omega), (q4 j).1 (by omega), (q5 j).1 (by omega), fun i hi => ?_⟩
  rw [(q6 (4 * j + i)).1 (by omega)]
  congr 1
  omega
