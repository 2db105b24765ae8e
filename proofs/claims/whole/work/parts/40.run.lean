/-! run -/
set_option maxHeartbeats 400000 in
theorem rh_run {B : Nat} {F : gs_F} {M : gs_M} (x1 : Int32) (h : RelB B F M) (hB : B + 5000 < 1073741824) : (k_X7_in x1 1 5000 = true → ∀ i, i < gq_ix x1 → mg_runs (gq_wh mg_runs k_X7_cycle i M) = true → mC (gq_wh mg_runs k_X7_cycle i M)) ∧ (k_X6_run F x1).1 = (k_X7_run M x1).1 ∧ RelB (B + 5000) (k_X6_run F x1).2 (k_X7_run M x1).2 := by
  refine ⟨fun hi i hlt hr => ?_, ?_⟩
  · have hn := mv_ix (mv_run hi)
    have y := rh_wh (i := i) h (by omega)
    exact (rh_cycle y hr (by omega)).2
  · unfold k_X6_run k_X7_run
    rw [kv_in, h.runs]
    by_cases hi : k_X7_in x1 1 5000 = true
    · rw [if_pos hi, if_pos hi]
      by_cases hr : mg_runs M = true
      · rw [if_pos hr, if_pos hr]
        have hn := mv_ix (mv_run hi)
        have y := rh_wh (i := gq_ix x1) h (by omega)
        have n1 : gF_counts F 1 = mg_counts M 1 := h.2.2.2.2.2.2.2.1 1 (by omega) (by omega)
        have n2 : gF_counts (gq_wh k_X6_isUnderWay k_X6_passCycle (gq_ix x1) F) 1 = mg_counts (gq_wh mg_runs k_X7_cycle (gq_ix x1) M) 1 := y.2.2.2.2.2.2.2.1 1 (by omega) (by omega)
        refine ⟨?_, y.up (by omega) hB⟩
        show k_X5_get 18 (gF_counts (gq_wh k_X6_isUnderWay k_X6_passCycle (gq_ix x1) F)) 1 - k_X5_get 18 (gF_counts F) 1 = mg_counts (gq_wh mg_runs k_X7_cycle (gq_ix x1) M) (gq_ix 1) - mg_counts M (gq_ix 1)
        rw [rk_g1, rk_g1, rl_i1, n1, n2]
      · rw [if_neg hr, if_neg hr]; exact ⟨rfl, h.up (by omega) hB⟩
    · rw [if_neg hi, if_neg hi]; exact ⟨rfl, h.up (by omega) hB⟩
