/-! the class's fetchAtPlace, field by field -/
theorem rpe {α β : Type} (p : α × β) : (p.1, p.2) = p := rfl
set_option maxHeartbeats 400000 in
theorem rf_class {F : gs_F} {f q k : Nat} (hf : f < 6) (hq : q < 6) (h1 : (gF_queue F).2.2.2.2.2.2.1 = nI f) (h2 : (gF_queue F).2.2.2.2.2.2.2 = nI q) (hk : k = (f + q) % 6) :
    gF_queue (k_X6_fetchAtPlace F) = (upd (gF_queue F).1 k (gF_place F), upd (gF_queue F).2.1 k (k_X1_guess (gF_gues F) (gF_place F) (gF_way F)).1, upd (gF_queue F).2.2.1 k (gF_counts F 0), upd (gF_queue F).2.2.2.1 k (gF_gues F).2.2.2.2.2.2.2, upd (gF_queue F).2.2.2.2.1 k (gF_gues F).2.2.2.2.2.2.1.2, rup4 (gF_queue F).2.2.2.2.2.1 k (k_X2_get 4 (gF_gues F).2.2.2.2.2.2.1 0) (k_X2_get 4 (gF_gues F).2.2.2.2.2.2.1 1) (k_X2_get 4 (gF_gues F).2.2.2.2.2.2.1 2) (k_X2_get 4 (gF_gues F).2.2.2.2.2.2.1 3), nI f, nI (q + 1)) ∧
    gF_gues (k_X6_fetchAtPlace F) = (k_X1_guess (gF_gues F) (gF_place F) (gF_way F)).2 ∧ gF_place (k_X6_fetchAtPlace F) = (k_X1_guess (gF_gues F) (gF_place F) (gF_way F)).1 ∧ gF_counts (k_X6_fetchAtPlace F) = (if k_X1_isInTargets (gF_gues F) (gF_place F) = true then upd (gF_counts F) 8 (gF_counts F 8 + 1) else gF_counts F) ∧ gF_prog (k_X6_fetchAtPlace F) = gF_prog F ∧ gF_core (k_X6_fetchAtPlace F) = gF_core F ∧ gF_done (k_X6_fetchAtPlace F) = gF_done F ∧ gF_way (k_X6_fetchAtPlace F) = gF_way F ∧ gF_depth (k_X6_fetchAtPlace F) = gF_depth F ∧ gF_run (k_X6_fetchAtPlace F) = gF_run F := by
  have hk6 : k < 6 := by omega
  unfold k_X6_fetchAtPlace
  rw [rk_g0, rqq_add hf h1 h2 hq, ← hk]
  simp only [gq_lt, gfr_queue, gfr_gues, gfr_counts, gfr_place, k_X1_history, rqq_keep hk6, rqq_guess hk6, rk_a8, rpe]
  by_cases c : k_X1_isInTargets (gF_gues F) (gF_place F) = true
  · simp only [if_pos c, gfr_queue, gfr_gues, gfr_counts, gfr_place, rqq_guess hk6, rup4, and_self]
  · simp only [if_neg c, gfr_queue, gfr_gues, gfr_counts, gfr_place, rqq_guess hk6, rup4, and_self]
