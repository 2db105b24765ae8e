/-! the class's goBack, field by field -/
set_option maxHeartbeats 1000000 in
theorem rf_back {F : gs_F} {C : gs_R} {k r : Nat} {x2 x4 fetched : Int32} (y : Bool) (hk : k < 6) (hr : r ≤ 4) (h : (gF_queue F).2.2.2.2.1 k = nI r) (hN : RNg (gF_counts F) C) (hs : (gF_queue F).2.2.2.2.2.2.2 = fetched) : ∃ P' : gs_P, P'.2 = nI r ∧ (∀ i, i < r → P'.1 i = (gF_queue F).2.2.2.2.2.1 (4 * k + i)) ∧
    gF_gues (k_X6_goBack F (nI k) x2 y x4) = k_X1_noteWhatWasDone ((gF_gues F).1, (gF_gues F).2.1, (gF_gues F).2.2.1, (gF_gues F).2.2.2.1, (gF_gues F).2.2.2.2.1, (gF_gues F).2.2.2.2.2.1, P', (gF_queue F).2.2.2.1 k) ((gF_queue F).1 k) x2 y ∧
    gF_queue (k_X6_goBack F (nI k) x2 y x4) = ((gF_queue F).1, (gF_queue F).2.1, (gF_queue F).2.2.1, (gF_queue F).2.2.2.1, (gF_queue F).2.2.2.2.1, (gF_queue F).2.2.2.2.2.1, (gF_queue F).2.2.2.2.2.2.1, 0) ∧
    gF_place (k_X6_goBack F (nI k) x2 y x4) = x4 ∧
    RNg (gF_counts (k_X6_goBack F (nI k) x2 y x4)) (c_ad (c_ad (c_ad (c_ad (c_ad C 2 1) 14 1) 6 (gq_b (m_isB x2))) 7 (if x2 = 9 then 1 else 0)) 3 fetched) ∧
    gF_prog (k_X6_goBack F (nI k) x2 y x4) = gF_prog F ∧ gF_core (k_X6_goBack F (nI k) x2 y x4) = gF_core F ∧ gF_done (k_X6_goBack F (nI k) x2 y x4) = gF_done F ∧ gF_way (k_X6_goBack F (nI k) x2 y x4) = gF_way F ∧ gF_depth (k_X6_goBack F (nI k) x2 y x4) = gF_depth F ∧ gF_run (k_X6_goBack F (nI k) x2 y x4) = gF_run F := by
  have eB : k_X6_isBranch x2 = m_isB x2 := rfl
  obtain ⟨b1, b2, b3⟩ := rqq_back (Q := ((gF_queue F).1, (gF_queue F).2.1, (gF_queue F).2.2.1, (gF_queue F).2.2.2.1, (gF_queue F).2.2.2.2.1, (gF_queue F).2.2.2.2.2.1, (gF_queue F).2.2.2.2.2.2.1, 0)) (P := (gF_gues F).2.2.2.2.2.2.1) hk hr h
  obtain ⟨W, eW⟩ : ∃ W, W = k_X4_giveReturnsBack (((gF_queue F).1, (gF_queue F).2.1, (gF_queue F).2.2.1, (gF_queue F).2.2.2.1, (gF_queue F).2.2.2.2.1, (gF_queue F).2.2.2.2.2.1, (gF_queue F).2.2.2.2.2.2.1, (0 : Int32)), (gF_gues F).2.2.2.2.2.2.1) (nI k) := ⟨_, rfl⟩
  rw [← eW] at b1 b2 b3
  have a1 : k_X5_get 6 (gF_queue F).1 (nI k) = (gF_queue F).1 k := by rw [rg_in (vp_in_nI hk (by decide)) (by decide), gq_cl (by omega)]
  have a4 : k_X5_get 6 (gF_queue F).2.2.2.1 (nI k) = (gF_queue F).2.2.2.1 k := by rw [rg_in (vp_in_nI hk (by decide)) (by decide), gq_cl (by omega)]
  have h2 : RNg (c_ad (c_ad (gF_counts F) 2 1) 14 1) (c_ad (c_ad C 2 1) 14 1) := RN_ad (RN_ad hN 2 (by omega) (by omega) 1) 14 (by omega) (by omega) 1
  refine ⟨W.2, b2, b3, ?_⟩
  unfold k_X6_goBack
  rw [eB]
  cases b : m_isB x2 with
  | true =>
    have a' := rq_kind.mp (eB.trans b)
    have n9 : ¬ x2 = 9 := by rcases a' with z | z <;> rw [z] <;> decide
    simp only [gq_lt, if_true, if_neg n9, k_X6_dropFetched, k_X4_clear, k_X4_size, k_X1_setHistory, k_X4_historyOf, k_X4_addressOf, gfr_counts, gfr_queue, gfr_place, gfr_gues, rk_a2, rk_a14, rk_a6, rk_a3, ← eW, b1, a1, a4, hs]
    exact ⟨trivial, trivial, trivial, RN_ad (RN_ad0 (RN_ad h2 6 (by omega) (by omega) 1) 7) 3 (by omega) (by omega) fetched, trivial, trivial, trivial, trivial, trivial, trivial⟩
  | false =>
    by_cases n9 : x2 = 9
    · simp only [gq_lt, Bool.false_eq_true, if_false, if_pos n9, k_X6_dropFetched, k_X4_clear, k_X4_size, k_X1_setHistory, k_X4_historyOf, k_X4_addressOf, gfr_counts, gfr_queue, gfr_place, gfr_gues, rk_a2, rk_a14, rk_a7, rk_a3, ← eW, b1, a1, a4, hs]
      exact ⟨trivial, trivial, trivial, RN_ad (RN_ad (RN_ad0 h2 6) 7 (by omega) (by omega) 1) 3 (by omega) (by omega) fetched, trivial, trivial, trivial, trivial, trivial, trivial⟩
    · simp only [gq_lt, Bool.false_eq_true, if_false, if_neg n9, k_X6_dropFetched, k_X4_clear, k_X4_size, k_X1_setHistory, k_X4_historyOf, k_X4_addressOf, gfr_counts, gfr_queue, gfr_place, gfr_gues, rk_a2, rk_a14, rk_a3, ← eW, b1, a1, a4, hs]
      exact ⟨trivial, trivial, trivial, RN_ad (RN_ad0 (RN_ad0 h2 6) 7) 3 (by omega) (by omega) fetched, trivial, trivial, trivial, trivial, trivial, trivial⟩
