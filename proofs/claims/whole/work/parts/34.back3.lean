/-! going back keeps the relation -/
set_option maxHeartbeats 1000000 in
theorem rh_back {B : Nat} {F : gs_F} {M : gs_M} {k r : Nat} {v1 v2 g v8 v9 : Int32} (y : Bool) (h : RelB B F M) (hk : k < 6) (hr : r ≤ 4) (q1 : (gF_queue F).1 k = v1) (hv1 : vp_in v1 60) (q4 : (gF_queue F).2.2.2.1 k = v8) (hv8 : vp_in v8 16) (q5 : (gF_queue F).2.2.2.2.1 k = nI r) (ev9 : v9 = nI r) (q6 : ∀ i, i < r → (gF_queue F).2.2.2.2.2.1 (4 * k + i) = mg_keptReturns M i ∧ ¬ mg_keptReturns M i = -1) (hrun : mg_runs M = true) :
    RelB B (k_X6_goBack F (nI k) v2 y g) (m_fin (m_40 M v2 g v8 v9 (m_isB v2)) v1 v2 (m_isB v2) y) := by
  obtain ⟨h1, h2, h3, h4, h5, ⟨f, q, n, d, age, p1, p2, p3, p4, p5, p6, p7, p8, p9, p10, p11⟩, h7, h8, h9, ⟨w1, w2, w3, w4⟩, ⟨z1, z2, z3⟩⟩ := h
  obtain ⟨P', b1, b2, c1, c2, c3, c4, c5, c6, c7, c8, c9, c10⟩ := rf_back (F := F) (C := mg_counts M) (x2 := v2) (x4 := g) (fetched := mg_fetched M) y hk hr q5 h8 (p7.trans p8.symm)
  obtain ⟨m1, m2, m3, m4, m5, m6⟩ := ml_40 M v2 g v8 v9 (m_isB v2)
  have k40 := mk_40 M v2 g v8 v9 (m_isB v2)
  generalize m_40 M v2 g v8 v9 (m_isB v2) = s at *
  have hh : RHg ((gF_queue F).2.2.2.1 k) (mg_history s) := by rw [m4, q4]; exact ⟨rfl, hv8⟩
  have hR : RRg P' (mg_returned s) (mg_returns s) := by
    refine ⟨r, hr, b1, by rw [m5]; exact ev9, fun j hj => ?_⟩
    rw [b2 j hj, (q6 j hj).1, m6]
    have q6' := (q6 j hj).2
    rcases (show j = 0 ∨ j = 1 ∨ j = 2 ∨ j = 3 by omega) with rfl | rfl | rfl | rfl
    · exact ⟨rfl, q6'⟩
    · exact ⟨rfl, q6'⟩
    · exact ⟨rfl, q6'⟩
    · exact ⟨rfl, q6'⟩
  rw [q1] at c1
  obtain ⟨u1, u2, u3, u4, u5, u6, u7, u8⟩ := rq_was (U := ((gF_gues F).1, (gF_gues F).2.1, (gF_gues F).2.2.1, (gF_gues F).2.2.2.1, (gF_gues F).2.2.2.2.1, (gF_gues F).2.2.2.2.2.1, P', (gF_queue F).2.2.2.1 k)) (M := s) (v1 := v1) (v2 := v2) y hv1 hh hR
  have kf := mk_fin s v1 v2 (m_isB v2) y
  generalize m_fin s v1 v2 (m_isB v2) y = t at *
  simp only [RelB, c1, c2, c3, c5, c6, c7, c8, c9, c10, kf, k40, m2, m3, u1, u2, u3, u4, u5, u6]
  rw [m1]
  exact ⟨h1, h2, h3, u7, u8, RQ_mk0 p1 p5 p4 p3 p6 rfl p9 p10 rfl, h7, c4, h9, ⟨w1, w2, w3, rfl⟩, z1, z2, fun z => absurd (z.symm.trans hrun) (by decide)⟩
