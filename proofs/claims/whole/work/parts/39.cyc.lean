/-! a cycle, a run -/
def f_step (F : gs_F) : gs_F := if k_X6_isUnderWay F = true then (if k_X3_has (gF_prog F) (gF_place F) = true then k_X6_fetchAtPlace F else F) else F
def m_step (M : gs_M) : gs_M := if mg_runs M = true then k_X7_fetch M (mg_counts M (gq_ix 0)) else M
set_option maxHeartbeats 400000 in
theorem rf_pass (F : gs_F) : k_X6_passCycle F = if k_X4_size (gF_queue (f_c1 F)) = 0 then (if k_X3_has (gF_prog (f_c1 F)) (gF_place (f_c1 F)) = true then (if k_X4_isEldestOf (gF_queue (f_c1 F)) ((k_X5_get 18 (gF_counts (f_c1 F)) 0) - (gF_depth (f_c1 F))) = true then f_step (k_X6_finishEldest (f_c1 F)) else (if k_X6_isUnderWay (f_c1 F) = true then k_X6_fetchAtPlace (f_c1 F) else f_c1 F)) else k_X6_endRun (f_c1 F) 2) else (if k_X4_isEldestOf (gF_queue (f_c1 F)) ((k_X5_get 18 (gF_counts (f_c1 F)) 0) - (gF_depth (f_c1 F))) = true then f_step (k_X6_finishEldest (f_c1 F)) else f_step (f_c1 F)) := by
  unfold k_X6_passCycle f_step
  refine lt_E (P := fun R => R = _) (fun s1 e1 => ?_)
  have h1 : f_c1 F = s1 := e1.symm
  rw [h1]
  simp only [gq_lt]
theorem stp_tail (s : gs_M) : (if mg_runs s = true then gq_lt (k_X7_fetch s (mg_counts s (gq_ix 0))) (fun s2 => s2) else s) = m_step s := by
  unfold m_step
  by_cases c : mg_runs s = true
  · rw [if_pos c, if_pos c]; exact lt_K rfl rfl
  · rw [if_neg c, if_neg c]
set_option maxHeartbeats 400000 in
theorem rf_cyc (M : gs_M) : k_X7_cycle M = if mg_fetched (m_c1 M) = 0 then (if k_X7_in (mg_place (m_c1 M)) 0 ((mg_acts (m_c1 M)) - 1) = true then m_step (m_c1 M) else k_X7_finish (m_c1 M) 2) else (if mg_fetched (m_c1 M) ≤ 0 then m_step (m_c1 M) else (if ((mg_fetchCycle (m_c1 M)) (gq_ix 0)) + (mg_depth (m_c1 M)) = (mg_counts (m_c1 M)) (gq_ix 0) then m_step (k_X7_finishFirst (m_c1 M)) else m_step (m_c1 M))) := by
  unfold k_X7_cycle
  refine lt_E (P := fun R => R = _) (fun s1 e1 => ?_)
  have h1 : m_c1 M = s1 := e1.symm
  rw [h1]
  by_cases c0 : mg_fetched s1 = 0
  · rw [if_pos c0, if_pos c0]
    by_cases ci : k_X7_in (mg_place s1) 0 ((mg_acts s1) - 1) = true
    · rw [if_pos ci, if_pos ci]; exact stp_tail s1
    · rw [if_neg ci, if_neg ci]; exact lt_K rfl rfl
  rw [if_neg c0, if_neg c0]
  by_cases c1 : mg_fetched s1 ≤ 0
  · rw [if_pos c1, if_pos c1]; exact stp_tail s1
  rw [if_neg c1, if_neg c1]
  by_cases c2 : ((mg_fetchCycle s1) (gq_ix 0)) + (mg_depth s1) = (mg_counts s1) (gq_ix 0)
  · rw [if_pos c2, if_pos c2]
    refine lt_E (P := fun R => R = _) (fun s5 e5 => ?_)
    rw [← e5]; exact stp_tail s5
  · rw [if_neg c2, if_neg c2]; exact stp_tail s1
theorem rh_step {B : Nat} {F : gs_F} {M : gs_M} (h : RelB B F M) (hp : RQpF F M) : RelB B (f_step F) (m_step M) := by
  have hr0 := h.runs
  unfold f_step m_step
  rw [hr0]
  by_cases hr : mg_runs M = true
  · rw [if_pos hr, if_pos hr]
    have hh := h
    obtain ⟨⟨⟨n, n1, n2, n3, n4⟩, -⟩, -, -, -, -, -, -, -, -, ⟨-, -, -, w4⟩, -⟩ := hh
    rw [w4, rl_i0]
    by_cases hx : vp_in (mg_place M) n
    · rw [if_pos ((rp_has n2 (by omega)).mpr hx)]
      exact rh_fetch h hp hr (by rw [n3]; exact (rl_in (by omega)).mpr hx)
    · have n0 : ¬ k_X3_has (gF_prog F) (mg_place M) = true := fun z => hx ((rp_has n2 (by omega)).mp z)
      have ni : ¬ k_X7_in (mg_place M) 0 ((mg_acts M) - 1) = true := fun z => hx ((rl_in (by omega)).mp (by rw [n3] at z; exact z))
      rw [if_neg n0]
      have e : k_X7_fetch M (mg_counts M 0) = M := by
        unfold k_X7_fetch
        rw [if_neg ni]
      rw [e]; exact h
  · rw [if_neg hr, if_neg hr]; exact h
theorem ml_c1 (M : gs_M) : mg_runs (m_c1 M) = mg_runs M ∧ mg_fetched (m_c1 M) = mg_fetched M := by
  unfold m_c1
  simp only [mfr_counts, and_self]
set_option maxHeartbeats 1000000 in
theorem rh_cycle {B : Nat} {F : gs_F} {M : gs_M} (h : RelB B F M) (hrun : mg_runs M = true) (hB : B + 1 < 1073741824) : RelB (B + 1) (k_X6_passCycle F) (k_X7_cycle M) ∧ mC M := by
  obtain ⟨hx0, hq0⟩ := h.x
  have hx := rx_c1 hx0
  have ht := rt_c1 hq0
  have hr1 : mg_runs (m_c1 M) = true := (ml_c1 M).1.trans hrun
  have hmC : mC M := by
    refine ⟨h.lp.1, fun T eT hf hc => ?_⟩
    subst eT
    have hne : ¬ mg_fetched (m_c1 M) = 0 := fun z => hf (by rw [z]; decide)
    exact (rh_eldest hx ht hne hr1 hB).1.lp.1.1
  refine ⟨?_, hmC⟩
  rw [rf_pass, rf_cyc, rk_g0, rl_i0]
  generalize f_c1 F = s at *
  generalize m_c1 M = t at *
  have el := rqt_eldest ht
  have hsz : k_X4_size (gF_queue s) = mg_fetched t := by
    obtain ⟨f, q, n, d, age, q1, q2, q3, q4, q5, q6, q7, q8, q9, q10, q11⟩ := ht
    exact q7.trans q8.symm
  have hle : ¬ mg_fetched t = 0 → ¬ mg_fetched t ≤ 0 := by
    obtain ⟨f, q, n, d, age, q1, q2, q3, q4, q5, q6, q7, q8, q9, q10, q11⟩ := ht
    intro w
    rw [q8] at w ⊢
    rcases Nat.eq_zero_or_pos q with z | z
    · subst z; exact absurd (show nI 0 = 0 by decide) w
    · exact nI_nle (by omega) (by omega)
  have hyoung : mg_fetched t = 0 ∨ ¬ mg_fetchCycle t 0 + mg_depth t = mg_counts t 0 → RelB B s t ∧ RQpF s t := fun w => ⟨hx.b (rqt_young ht w).1, (rqt_young ht w).2⟩
  obtain ⟨⟨⟨n, n1, n2, n3, n4⟩, -⟩, -, -, -, -, -, h8, -, ⟨-, -, w3, w4⟩, -⟩ := id hx
  rw [h8 0 (by omega) (by omega), w3, hsz]
  by_cases c0 : mg_fetched t = 0
  · rw [if_pos c0, if_pos c0]
    obtain ⟨y1, y2⟩ := hyoung (Or.inl c0)
    have hst := rh_step y1 y2
    rw [w4]
    by_cases hin : vp_in (mg_place t) n
    · have i1 : k_X3_has (gF_prog s) (mg_place t) = true := (rp_has n2 (by omega)).mpr hin
      have i2 : k_X7_in (mg_place t) 0 ((mg_acts t) - 1) = true := by rw [n3]; exact (rl_in (by omega)).mpr hin
      rw [if_pos i1, if_pos i2, if_neg (fun w => (el.mp w).1 c0)]
      have e : f_step s = if k_X6_isUnderWay s = true then k_X6_fetchAtPlace s else s := by
        unfold f_step
        rw [w4, if_pos i1]
      rw [← e]
      exact hst.up (by omega) hB
    · have i1 : ¬ k_X3_has (gF_prog s) (mg_place t) = true := fun z => hin ((rp_has n2 (by omega)).mp z)
      have i2 : ¬ k_X7_in (mg_place t) 0 ((mg_acts t) - 1) = true := fun z => hin ((rl_in (by omega)).mp (by rw [n3] at z; exact z))
      rw [if_neg i1, if_neg i2]
      exact (rh_finish (by decide) y1).up (by omega) hB
  · rw [if_neg c0, if_neg c0, if_neg (hle c0)]
    by_cases c1 : mg_fetchCycle t 0 + mg_depth t = mg_counts t 0
    · rw [if_pos (el.mpr ⟨c0, c1⟩), if_pos c1]
      obtain ⟨y1, y2⟩ := rh_eldest hx ht c0 hr1 hB
      exact rh_step y1 y2
    · rw [if_neg (fun w => c1 (el.mp w).2), if_neg c1]
      obtain ⟨y1, y2⟩ := hyoung (Or.inr c1)
      exact (rh_step y1 y2).up (by omega) hB
theorem rh_wh : ∀ {i B : Nat} {F : gs_F} {M : gs_M}, RelB B F M → B + i < 1073741824 → RelB (B + i) (gq_wh k_X6_isUnderWay k_X6_passCycle i F) (gq_wh mg_runs k_X7_cycle i M)
  | 0, B, F, M, h, _ => h
  | i + 1, B, F, M, h, hB => by
    cases hr : mg_runs M with
    | true =>
      rw [gq_wh_t (R := mg_runs) hr, gq_wh_t (R := k_X6_isUnderWay) (h.runs.trans hr)]
      have y := rh_wh (i := i) (rh_cycle h hr (by omega)).1 (by omega)
      rw [show B + 1 + i = B + (i + 1) by omega] at y
      exact y
    | false =>
      rw [gq_wh_f (R := mg_runs) hr, gq_wh_f (R := k_X6_isUnderWay) (h.runs.trans hr)]
      exact h.up (by omega) hB
