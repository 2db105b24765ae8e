/-! the reference's fetch: what it leaves -/
def m_f8 (S : gs_M) (x1 : Int32) : gs_M :=
  gq_lt (ms_fetchAt S (upd (mg_fetchAt S) (gq_ix (mg_fetched S)) (mg_place S))) (fun s1 =>
  gq_lt (ms_fetchCycle s1 (upd (mg_fetchCycle s1) (gq_ix (mg_fetched s1)) x1)) (fun s2 =>
  gq_lt (ms_fetchHistory s2 (upd (mg_fetchHistory s2) (gq_ix (mg_fetched s2)) (mg_history s2))) (fun s3 =>
  gq_lt (ms_fetchReturned s3 (upd (mg_fetchReturned s3) (gq_ix (mg_fetched s3)) (mg_returned s3))) (fun s4 =>
  gq_lt (ms_fetchReturns s4 (upd (mg_fetchReturns s4) (gq_ix ((4 * (mg_fetched s4)) + 0)) ((mg_returns s4) (gq_ix 0)))) (fun s5 =>
  gq_lt (ms_fetchReturns s5 (upd (mg_fetchReturns s5) (gq_ix ((4 * (mg_fetched s5)) + 1)) ((mg_returns s5) (gq_ix 1)))) (fun s6 =>
  gq_lt (ms_fetchReturns s6 (upd (mg_fetchReturns s6) (gq_ix ((4 * (mg_fetched s6)) + 2)) ((mg_returns s6) (gq_ix 2)))) (fun s7 =>
  gq_lt (ms_fetchReturns s7 (upd (mg_fetchReturns s7) (gq_ix ((4 * (mg_fetched s7)) + 3)) ((mg_returns s7) (gq_ix 3)))) (fun s8 => s8))))))))
set_option maxHeartbeats 200000 in
theorem ml_f8 {S : gs_M} {x1 : Int32} {q : Nat} (hq : mg_fetched S = nI q) (h8 : q < 8) : mg_fetchAt (m_f8 S x1) = upd (mg_fetchAt S) q (mg_place S) ∧ mg_fetchCycle (m_f8 S x1) = upd (mg_fetchCycle S) q x1 ∧ mg_fetchHistory (m_f8 S x1) = upd (mg_fetchHistory S) q (mg_history S) ∧ mg_fetchReturned (m_f8 S x1) = upd (mg_fetchReturned S) q (mg_returned S) ∧ mg_fetchReturns (m_f8 S x1) = rup4 (mg_fetchReturns S) q (mg_returns S 0) (mg_returns S 1) (mg_returns S 2) (mg_returns S 3) := by
  have g : gq_ix (nI q) = q := gq_cl (by omega)
  have b0 : gq_ix ((4 * nI q) + 0) = 4 * q := rdb_m q 0 0 rfl (by omega) (by omega)
  have b1 : gq_ix ((4 * nI q) + 1) = 4 * q + 1 := rdb_m q 1 1 rfl (by omega) (by omega)
  have b2 : gq_ix ((4 * nI q) + 2) = 4 * q + 2 := rdb_m q 2 2 rfl (by omega) (by omega)
  have b3 : gq_ix ((4 * nI q) + 3) = 4 * q + 3 := rdb_m q 3 3 rfl (by omega) (by omega)
  unfold m_f8 rup4
  simp only [gq_lt, mfr_fetchAt, mfr_fetchCycle, mfr_fetchHistory, mfr_fetchReturned, mfr_fetchReturns, hq, g, b0, b1, b2, b3, rl_i0, rl_i1, rl_i2, rl_i3, and_self]
def m_f13 (s8 : gs_M) : gs_M :=
  gq_lt (k_X7_guess s8 (mg_place s8)) (fun r9 =>
  gq_lt (r9.2) (fun s10 =>
  gq_lt (ms_place s10 r9.1) (fun s11 =>
  gq_lt (ms_fetchGuess s11 (upd (mg_fetchGuess s11) (gq_ix (mg_fetched s11)) (mg_place s11))) (fun s12 =>
  gq_lt (ms_fetched s12 ((mg_fetched s12) + 1)) (fun s13 => s13)))))
set_option maxHeartbeats 200000 in
theorem rf_fetch {S : gs_M} {x1 : Int32} (hin : k_X7_in (mg_place S) 0 ((mg_acts S) - 1) = true) : k_X7_fetch S x1 = m_f13 (m_f8 S x1) := by
  unfold k_X7_fetch m_f13 m_f8
  rw [if_pos hin]
  simp only [gq_lt]
