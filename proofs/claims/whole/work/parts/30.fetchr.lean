/-! a fetch keeps the relation -/
theorem rup_eqv {f g : gs_R} {n k m : Nat} {x : Int32} (h : ∀ j, j < n → vp_in (f j) m) (hx : vp_in x m) : ∀ j, j < n → vp_in (upd f k x j) m := up_in h hx
set_option maxHeartbeats 1000000 in
theorem rh_fetch {B : Nat} {F : gs_F} {M : gs_M} (h : RelB B F M) (hp : RQp (gF_queue F) (mg_fetched M) (mg_fetchAt M) (mg_fetchGuess M) (mg_fetchCycle M) (mg_fetchHistory M) (mg_fetchReturned M) (mg_fetchReturns M) (mg_acts M) (mg_depth M) (mg_counts M 0)) (hr : mg_runs M = true) (hin : k_X7_in (mg_place M) 0 ((mg_acts M) - 1) = true) : RelB B (k_X6_fetchAtPlace F) (k_X7_fetch M (mg_counts M 0)) := by
  obtain ⟨h1, h2, h3, h4, h5, -, ⟨a1, a2, a3⟩, h8, h9, ⟨w1, w2, w3, w4⟩, ⟨z1, z2, z3⟩⟩ := h
  obtain ⟨f, q, n, d, age, q1, q2, q3, q4, q5, q6, q7, q8, q9, old⟩ := hp
  have hx : vp_in (mg_place M) n := by
    rw [q8] at hin
    exact (rl_in (by omega)).mp hin
  have hx60 : vp_in (mg_place M) 60 := mv_le hx q4
  obtain ⟨c1, c2, c3, c4, c5, c6, c7, c8, c9, c10⟩ := rf_class q1 (by omega) q5 q6 rfl
  rw [rf_fetch hin]
  obtain ⟨g1, g2, g3, g4, g5⟩ := ml_f8 (x1 := mg_counts M 0) q7 (show q < 8 by omega)
  have k8 := mk_f8 M (mg_counts M 0)
  generalize m_f8 M (mg_counts M 0) = s at *
  have e1 : mg_place s = mg_place M := by simp only [k8]
  have e2 : mg_fetched s = nI q := by simp only [k8]; exact q7
  obtain ⟨l1, l2, l3, l4, l5, l6, l7⟩ := ml_f13 e2 (show q < 8 by omega)
  have k13 := mk_f13 s
  generalize m_f13 s = t at *
  rw [e1] at l1 l2 l4 l5 l6 l7
  have ht : RTg (gF_gues F).1 (gF_gues F).2.1 (gF_gues F).2.2.1 (gF_gues F).2.2.2.1 (gF_gues F).2.2.2.2.1 (gF_gues F).2.2.2.2.2.1 (mg_plain s) (mg_mixed s) (mg_choice s) (mg_targetAt s) (mg_targetKind s) (mg_target s) := by simp only [k8]; exact h3
  have hh : RHg (gF_gues F).2.2.2.2.2.2.2 (mg_history s) := by simp only [k8]; exact h4
  have hrr : RRg (gF_gues F).2.2.2.2.2.2.1 (mg_returned s) (mg_returns s) := by simp only [k8]; exact h5
  have ew : mg_way s = mg_way M := by simp only [k8]
  have ec : mg_counts s = mg_counts M := by simp only [k8]
  obtain ⟨⟨v1, v2, v3, v4, v5, v6, v7, v8, v9⟩, vc⟩ : RGu (gF_gues F) s (mg_place M) (k_X1_guess (gF_gues F) (mg_place M) (mg_way M)) (k_X7_guess s (mg_place M)) ∧ RNg (if k_X1_isInTargets (gF_gues F) (mg_place M) = true then upd (gF_counts F) 8 (gF_counts F 8 + 1) else gF_counts F) (mg_counts (k_X7_guess s (mg_place M)).2) ∧ mg_counts (k_X7_guess s (mg_place M)).2 0 = mg_counts M 0 ∧ mg_counts (k_X7_guess s (mg_place M)).2 1 = mg_counts M 1 := by
    by_cases c : mg_targetAt s (gq_ix (gq_rem (mg_place M) 8)) = mg_place M
    · obtain ⟨u1, u2⟩ := rq_guess_in hx60 (by rw [ew]; exact w2) ht hh hrr c
      rw [ew] at u1
      rw [if_pos ((rq_isIn hx60 ht.2.2.2.1).mpr c), u2, ec]
      exact ⟨u1, RN_up h8 8 (by rw [h8 8 (by omega) (by omega)]), rfl, rfl⟩
    · obtain ⟨u1, u2⟩ := rq_guess_out (w := mg_way M) hx60 ht hh hrr c
      rw [if_neg (fun z => c ((rq_isIn hx60 ht.2.2.2.1).mp z)), u2, ec]
      exact ⟨u1, h8, rfl, rfl⟩
  rw [w4, w1] at c1 c2 c3
  rw [w4] at c4
  have hQ := rqq_fetched (g := (k_X1_guess (gF_gues F) (mg_place M) (mg_way M)).1) q1 q2 q3 q4 q8 q9 rfl h5 h4.2 hx old
  rw [h4.1, h8 0 (by omega) (by omega), v1] at c1
  rw [v1] at hQ
  simp only [RelB, c1, c2, c3, c4, c5, c6, c7, c8, c9, c10, k13, l1, l2, l3, l4, l5, l6, l7, k8, g1, g2, g3, g4, g5, vc.2.1, vc.2.2, v1, v2, v3, v4, v5, v6, v7]
  refine ⟨h1, h2, h3, v8, v9, hQ, ⟨up_in a1 hx60, up_in a2 h4.2, up_in a3 ?_⟩, vc.1, h9, ⟨w1, w2, w3, rfl⟩, z1, z2, fun z => absurd (z.symm.trans hr) (by decide)⟩
  obtain ⟨r, r1, r2, r3, r4⟩ := h5
  rw [r3]; exact vp_in_nI (by omega) (by omega)
