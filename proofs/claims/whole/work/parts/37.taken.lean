/-! the eldest is taken and done -/
def RelX (B : Nat) (F : gs_F) (M : gs_M) : Prop :=
  RPg (gF_prog F) (mg_acts M) (mg_kinds M) (mg_as M) (mg_bs M) (mg_cs M) ∧
  RCg (gF_core F) (mg_registers M) (mg_memory M) (mg_stack M) (mg_deep M) ∧
  RTg (gF_gues F).1 (gF_gues F).2.1 (gF_gues F).2.2.1 (gF_gues F).2.2.2.1 (gF_gues F).2.2.2.2.1 (gF_gues F).2.2.2.2.2.1 (mg_plain M) (mg_mixed M) (mg_choice M) (mg_targetAt M) (mg_targetKind M) (mg_target M) ∧
  RHg (gF_gues F).2.2.2.2.2.2.2 (mg_history M) ∧
  RRg (gF_gues F).2.2.2.2.2.2.1 (mg_returned M) (mg_returns M) ∧
  RAg (mg_fetchAt M) (mg_fetchHistory M) (mg_fetchReturned M) ∧
  RNg (gF_counts F) (mg_counts M) ∧
  RDg B (gF_done F) (mg_counts M 1) (mg_doneAt M) ∧
  RWg (gF_way F) (mg_way M) (gF_depth F) (mg_depth M) (gF_place F) (mg_place M) ∧
  RSg (gF_run F) (mg_ended M) (mg_runs M) (mg_fetched M)
def RQgF (F : gs_F) (M : gs_M) : Prop := RQg (gF_queue F) (mg_fetched M) (mg_fetchAt M) (mg_fetchGuess M) (mg_fetchCycle M) (mg_fetchHistory M) (mg_fetchReturned M) (mg_fetchReturns M) (mg_acts M) (mg_depth M) (mg_counts M 0)
def RQtF (F : gs_F) (M : gs_M) : Prop := RQt (gF_queue F) (mg_fetched M) (mg_fetchAt M) (mg_fetchGuess M) (mg_fetchCycle M) (mg_fetchHistory M) (mg_fetchReturned M) (mg_fetchReturns M) (mg_acts M) (mg_depth M) (mg_counts M 0)
def RQpF (F : gs_F) (M : gs_M) : Prop := RQp (gF_queue F) (mg_fetched M) (mg_fetchAt M) (mg_fetchGuess M) (mg_fetchCycle M) (mg_fetchHistory M) (mg_fetchReturned M) (mg_fetchReturns M) (mg_acts M) (mg_depth M) (mg_counts M 0)
theorem RelB.x {B : Nat} {F : gs_F} {M : gs_M} (h : RelB B F M) : RelX B F M ∧ RQgF F M := by
  obtain ⟨h1, h2, h3, h4, h5, h6, h7, h8, h9, h10, h11⟩ := h
  exact ⟨⟨h1, h2, h3, h4, h5, h7, h8, h9, h10, h11⟩, h6⟩
theorem RelX.b {B : Nat} {F : gs_F} {M : gs_M} (h : RelX B F M) (h6 : RQgF F M) : RelB B F M := by
  obtain ⟨h1, h2, h3, h4, h5, h7, h8, h9, h10, h11⟩ := h
  exact ⟨h1, h2, h3, h4, h5, h6, h7, h8, h9, h10, h11⟩
def f_c1 (F : gs_F) : gs_F := sF_counts F (k_X5_add 18 (gF_counts F) 0 1)
theorem rx_c1 {B : Nat} {F : gs_F} {M : gs_M} (h : RelX B F M) : RelX B (f_c1 F) (m_c1 M) := by
  obtain ⟨h1, h2, h3, h4, h5, h7, h8, ⟨n, n1, n2, n3, n4⟩, h10, h11⟩ := h
  simp only [RelX, f_c1, m_c1, rk_a0, gfr_counts, mfr_counts, rl_i0]
  refine ⟨h1, h2, h3, h4, h5, h7, RN_up h8 0 (by rw [h8 0 (by omega) (by omega)]), ⟨n, n1, n2, ?_, n4⟩, h10, h11⟩
  rw [rup_ne (by omega)]; exact n3
theorem rt_c1 {F : gs_F} {M : gs_M} (h : RQgF F M) : RQtF (f_c1 F) (m_c1 M) := by
  simp only [RQtF, f_c1, m_c1, gfr_counts, mfr_counts, rl_i0, rup_eq]
  exact rqt_of h
set_option maxHeartbeats 400000 in
theorem rh_taken {B : Nat} {F : gs_F} {M : gs_M} (h : RelX B F M) (hq : RQtF F M) (hne : ¬ mg_fetched M = 0) :
    ∃ (Q' : gs_Q) (k r v n : Nat), k_X4_takeEldest (gF_queue F) = (nI k, Q') ∧ k < 6 ∧ r ≤ 4 ∧ v < n ∧ n ≤ 60 ∧ mg_acts M = nI n ∧ mg_fetchAt M 0 = nI v ∧ Q'.1 k = nI v ∧ Q'.2.1 k = mg_fetchGuess M 0 ∧ Q'.2.2.2.1 k = mg_fetchHistory M 0 ∧ vp_in (mg_fetchHistory M 0) 16 ∧ Q'.2.2.2.2.1 k = nI r ∧ mg_fetchReturned M 0 = nI r ∧ (∀ i, i < r → Q'.2.2.2.2.2.1 (4 * k + i) = mg_fetchReturns M i ∧ ¬ mg_fetchReturns M i = -1) ∧ ∀ v' : Int32, RQp Q' (mg_fetched (m_14 M v')) (mg_fetchAt (m_14 M v')) (mg_fetchGuess (m_14 M v')) (mg_fetchCycle (m_14 M v')) (mg_fetchHistory (m_14 M v')) (mg_fetchReturned (m_14 M v')) (mg_fetchReturns (m_14 M v')) (mg_acts M) (mg_depth M) (mg_counts M 0) ∧ RAg (mg_fetchAt (m_14 M v')) (mg_fetchHistory (m_14 M v')) (mg_fetchReturned (m_14 M v')) := by
  obtain ⟨f, q0, n, d, age, q1, q2, q3, q4, q5, q6, q7, q8, q9, q10, q11⟩ := hq
  have hq0 : 1 ≤ q0 := by
    rcases Nat.eq_zero_or_pos q0 with z | z
    · subst z; exact absurd (q8.trans (show nI 0 = 0 by decide)) hne
    · exact z
  obtain ⟨q, rfl⟩ : ∃ q, q0 = q + 1 := ⟨q0 - 1, by omega⟩
  have tk := rqq_take q1 q6 q7 (show q < 6 by omega)
  obtain ⟨⟨b1, b2, b3, b4, b5, r, r1, r2, r3, r4⟩, ⟨v, hv, ev⟩, -, -, -, -⟩ := q11 0 (by omega)
  have ef : (f + 0) % 6 = f := by omega
  rw [ef] at b1 b2 b4 r2 r4
  refine ⟨_, f, r, v, n, tk, q1, r1, hv, q5, q9, ev, b1.trans ev, b2, b4, b5, r2, r3, fun i hi => ?_, fun v' => ⟨?_, ml_14a v' q8 (by omega) h.2.2.2.2.2.1⟩⟩
  · have w := r4 i hi
    rw [show 4 * 0 + i = i by omega] at w
    exact w
  · obtain ⟨e1, e2⟩ := ml_14 v' q8 (show q < 8 by omega)
    obtain ⟨age', hage⟩ : ∃ age' : Nat → Nat, ∀ j, age' j = age (j + 1) := ⟨fun j => age (j + 1), fun _ => rfl⟩
    refine ⟨(f + 1) % 6, q, n, d, age', Nat.mod_lt _ (by decide), q2, q3, q5, rfl, rfl, e1, q9, q10, fun j hj => ?_⟩
    obtain ⟨c1, c2, c3, c4, c5, c6⟩ := q11 (j + 1) (by omega)
    obtain ⟨d1, d2, d3, d4, d5, d6⟩ := e2 j hj
    obtain ⟨s1, s2, s3, s4, s5, t, t1, t2, t3, t4⟩ := c1
    have es : ((f + 1) % 6 + j) % 6 = (f + (j + 1)) % 6 := by omega
    have w := c6 0 (by omega)
    obtain ⟨_, _, _, g4, _, _⟩ := q11 0 (by omega)
    rw [es]
    refine ⟨⟨s1.trans d1.symm, s2.trans d3.symm, s3.trans d2.symm, s4.trans d4.symm, by rw [d4]; exact s5, t, t1, t2, d5.trans t3, fun i hi => ?_⟩, ?_, by rw [d2, hage]; exact c3, by rw [hage]; omega, by rw [hage]; exact c5, fun i hi => ?_⟩
    · rw [d6 i (by omega)]; exact t4 i hi
    · obtain ⟨a, ha, ea⟩ := c2
      exact ⟨a, ha, d1.trans ea⟩
    · have := c6 (i + 1) (by omega)
      rw [hage, hage]; omega
def f_9 (F : gs_F) (v : Int32) (Q' : gs_Q) : gs_F := sF_prog (sF_core (sF_queue F Q') (k_X0_perform (gF_core F, gF_prog F) v).2.1) (k_X0_perform (gF_core F, gF_prog F) v).2.2
set_option maxHeartbeats 400000 in
theorem rh_did {B : Nat} {F : gs_F} {M : gs_M} {Q' : gs_Q} {v n : Nat} {v' : Int32} (h : RelX B F M) (hv : v < n) (hn : n ≤ 60) (ha : mg_acts M = nI n) (hrun : mg_runs M = true) (ev : v' = nI v) (hp : RQp Q' (mg_fetched (m_14 M v')) (mg_fetchAt (m_14 M v')) (mg_fetchGuess (m_14 M v')) (mg_fetchCycle (m_14 M v')) (mg_fetchHistory (m_14 M v')) (mg_fetchReturned (m_14 M v')) (mg_fetchReturns (m_14 M v')) (mg_acts M) (mg_depth M) (mg_counts M 0)) (hra : RAg (mg_fetchAt (m_14 M v')) (mg_fetchHistory (m_14 M v')) (mg_fetchReturned (m_14 M v'))) :
    (k_X0_perform (gF_core F, gF_prog F) v').1 = (k_X7_does M v').1 ∧ RelX B (f_9 F v' Q') (m_14 M v') ∧ RQpF (f_9 F v' Q') (m_14 M v') ∧ k_X0_turns (gF_core F, gF_prog F) v' = m_and (k_X7_in (mg_kinds M v) 5 10) (k_X7_turned M v') ∧ k_X3_part (gF_prog F) v' 0 = mg_kinds M v := by
  obtain ⟨⟨⟨n', n1, n2, n3, n4⟩, n5, n6⟩, h2, h3, h4, h5, h7, h8, h9, h10, h11⟩ := h
  have en : n' = n := (nI_eq (by omega) (by omega)).mp (n3.symm.trans ha)
  subst en
  subst ev
  obtain ⟨u1, u2, u3⟩ := rd_does hv hn n2 n3 n4 (n5 v (by omega)) (n6 v (by omega)) h2
  have ut := rd_turns hv hn n4 (n5 v (by omega)) (n6 v (by omega)) h2.1
  have up := (rd_part (acts := 0) hv hn n4).1
  refine ⟨u1, ?_, ?_, ut, up⟩
  · simp only [RelX, f_9, gfr_prog, gfr_core, gfr_queue, mk_14]
    rw [u2]
    exact ⟨⟨⟨n', n1, n2, n3, n4⟩, n5, n6⟩, u3, h3, h4, h5, hra, h8, h9, h10, h11.1, h11.2.1, fun z => absurd (z.symm.trans hrun) (by decide)⟩
  · simp only [RQpF, f_9, gfr_prog, gfr_core, gfr_queue, mk_14]
    exact hp
theorem rd_halt {C : gs_C} {P : gs_P} {x : Int32} (h : k_X3_part P x 0 = 11) : k_X0_perform (C, P) x = (x + 1, (C, P)) := by
  unfold k_X0_perform
  simp only [gq_lt]
  rw [h, if_neg (by decide), if_neg (by decide), if_neg (by decide), if_neg (by decide), if_neg (by decide), if_neg (by decide), if_neg (by decide), if_neg (by decide), if_neg (by decide), if_neg (by decide), if_neg (by decide)]
def f_lrn (s11 : gs_F) (v3 v4 k : Int32) (b5 : Bool) : gs_F := if k_X6_isBranch v4 = true then sF_gues s11 (k_X1_learn (gF_gues s11) v3 (k_X4_historyOf (gF_queue s11) k) b5) else s11
def f_tgt (s12 : gs_F) (v3 v4 g : Int32) (b5 : Bool) : gs_F := if b5 = true then sF_gues s12 (k_X1_noteTarget (gF_gues s12) v3 v4 g) else s12
def f_bck (s13 : gs_F) (k v4 g : Int32) (b5 : Bool) : gs_F := if g = k_X4_guessOf (gF_queue s13) k then s13 else k_X6_goBack s13 k v4 b5 g
theorem bck_tail (s : gs_F) (k v4 g : Int32) (b5 : Bool) : (if g = k_X4_guessOf (gF_queue s) k then s else gq_lt (k_X6_goBack s k v4 b5 g) (fun s14 => s14)) = f_bck s k v4 g b5 := by
  unfold f_bck
  by_cases c : g = k_X4_guessOf (gF_queue s) k
  · rw [if_pos c, if_pos c]
  · rw [if_neg c, if_neg c]; exact lt_K rfl rfl
set_option maxHeartbeats 1000000 in
theorem rf_eldest {F : gs_F} {Q' : gs_Q} {x v3 v4 : Int32} {b5 : Bool} (ht : k_X4_takeEldest (gF_queue F) = (x, Q')) (hv3 : k_X4_addressOf Q' x = v3) (hv4 : k_X3_part (gF_prog F) v3 0 = v4) (hb5 : k_X0_turns (gF_core F, gF_prog F) v3 = b5) :
    k_X6_finishEldest F = if v4 = 11 then k_X6_endRun (k_X6_noteDone (sF_queue F Q') v3 v4) 1 else if (k_X0_perform (gF_core F, gF_prog F) v3).1 = (-1) then k_X6_endRun (f_9 F v3 Q') 2 else f_bck (f_tgt (f_lrn (k_X6_noteDone (f_9 F v3 Q') v3 v4) v3 v4 x b5) v3 v4 (k_X0_perform (gF_core F, gF_prog F) v3).1 b5) x v4 (k_X0_perform (gF_core F, gF_prog F) v3).1 b5 := by
  unfold k_X6_finishEldest
  rw [ht]
  refine lt_E (P := fun R => R = _) (fun r1 e1 => ?_)
  have x1 : r1.1 = x := by rw [e1]
  have q1 : r1.2 = Q' := by rw [e1]
  rw [x1, q1]
  refine lt_E (P := fun R => R = _) (fun s2 e2 => ?_)
  refine lt_E (P := fun R => R = _) (fun w3 e3 => ?_)
  have f3 : w3 = v3 := by rw [e3, e2]; simp only [gfr_queue]; exact hv3
  rw [f3]
  refine lt_E (P := fun R => R = _) (fun w4 e4 => ?_)
  have f4 : w4 = v4 := by rw [e4, e2]; simp only [gfr_queue]; exact hv4
  rw [f4]
  refine lt_E (P := fun R => R = _) (fun w5 e5 => ?_)
  have f5 : w5 = b5 := by rw [e5, e2]; simp only [gfr_queue]; exact hb5
  rw [f5]
  by_cases c1 : v4 = 11
  · rw [if_pos c1, if_pos c1]
    refine lt_E (P := fun R => R = _) (fun s6 e6 => ?_)
    refine lt_E (P := fun R => R = _) (fun s7 e7 => ?_)
    rw [e7, e6, e2]
  rw [if_neg c1, if_neg c1]
  refine lt_E (P := fun R => R = _) (fun r8 e8 => ?_)
  have f8 : k_X0_perform (gF_core F, gF_prog F) v3 = r8 := by rw [e8, e2]; simp only [gfr_queue]
  refine lt_E (P := fun R => R = _) (fun s9 e9 => ?_)
  have f9 : f_9 F v3 Q' = s9 := by unfold f_9; rw [f8, e9, e2]
  rw [f8, f9]
  by_cases c2 : r8.1 = (-1)
  · rw [if_pos c2, if_pos c2]; exact lt_K rfl rfl
  rw [if_neg c2, if_neg c2]
  refine lt_E (P := fun R => R = _) (fun s11 e11 => ?_)
  rw [← e11]
  by_cases hB : k_X6_isBranch v4 = true
  · rw [if_pos hB]
    refine lt_E (P := fun R => R = _) (fun s12 e12 => ?_)
    have h12 : f_lrn s11 v3 v4 x b5 = s12 := by unfold f_lrn; rw [if_pos hB, e12]
    rw [h12]
    by_cases hb : b5 = true
    · rw [if_pos hb]
      refine lt_E (P := fun R => R = _) (fun s13 e13 => ?_)
      have h13 : f_tgt s12 v3 v4 r8.1 b5 = s13 := by unfold f_tgt; rw [if_pos hb, e13]
      rw [h13]; exact bck_tail s13 x v4 r8.1 b5
    · rw [if_neg hb]
      have h13 : f_tgt s12 v3 v4 r8.1 b5 = s12 := by unfold f_tgt; rw [if_neg hb]
      rw [h13]; exact bck_tail s12 x v4 r8.1 b5
  · rw [if_neg hB]
    have h12 : f_lrn s11 v3 v4 x b5 = s11 := by unfold f_lrn; rw [if_neg hB]
    rw [h12]
    by_cases hb : b5 = true
    · rw [if_pos hb]
      refine lt_E (P := fun R => R = _) (fun s13 e13 => ?_)
      have h13 : f_tgt s11 v3 v4 r8.1 b5 = s13 := by unfold f_tgt; rw [if_pos hb, e13]
      rw [h13]; exact bck_tail s13 x v4 r8.1 b5
    · rw [if_neg hb]
      have h13 : f_tgt s11 v3 v4 r8.1 b5 = s11 := by unfold f_tgt; rw [if_neg hb]
      rw [h13]; exact bck_tail s11 x v4 r8.1 b5
