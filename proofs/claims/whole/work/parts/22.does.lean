/-! what an action does: turns and perform against turned and does -/
theorem rd_part {P : gs_P} {acts : Int32} {ks as bs cs : gs_R} {n v : Nat} (hv : v < n) (hn : n ≤ 60) (h : ∀ j, j < n → P.1 (4 * j) = ks j ∧ P.1 (4 * j + 1) = as j ∧ P.1 (4 * j + 2) = bs j ∧ P.1 (4 * j + 3) = cs j) : k_X3_part P (nI v) 0 = ks v ∧ k_X3_part P (nI v) 1 = as v ∧ k_X3_part P (nI v) 2 = bs v ∧ k_X3_part P (nI v) 3 = cs v := by
  obtain ⟨b0, b1, b2, b3⟩ := h v hv
  have hp : ∀ i, i < 4 → k_X3_part P (nI v) (nI i) = P.1 (4 * v + i) := by
    intro i hi
    unfold k_X3_part
    have e : nI v * 4 + nI i = nI (4 * v + i) := by
      rw [show (4 : Int32) = nI 4 by decide, show nI v * nI 4 = nI (v * 4) from (Int32.ofNat_mul v 4).symm, nI_add, Nat.mul_comm]
    rw [e, rg_in (vp_in_nI (by omega) (by omega)) (by decide), gq_cl (by omega)]
  exact ⟨(hp 0 (by omega)).trans b0, (hp 1 (by omega)).trans b1, (hp 2 (by omega)).trans b2, (hp 3 (by omega)).trans b3⟩
theorem rd_ge (a b : Int32) : (if a ≤ b then false else true) = (if a ≤ b then false else true) := rfl
set_option maxHeartbeats 400000 in
theorem rd_turns {P : gs_P} {C : gs_C} {M : gs_M} {n v : Nat} (hv : v < n) (hn : n ≤ 60) (h : ∀ j, j < n → P.1 (4 * j) = mg_kinds M j ∧ P.1 (4 * j + 1) = mg_as M j ∧ P.1 (4 * j + 2) = mg_bs M j ∧ P.1 (4 * j + 3) = mg_cs M j) (ha : vp_in (mg_as M v) 8) (hb : vp_in (mg_bs M v) 8) (hc : ∀ j, j < 8 → C.1 j = mg_registers M j) : k_X0_turns (C, P) (nI v) = m_and (k_X7_in (mg_kinds M v) 5 10) (k_X7_turned M (nI v)) := by
  obtain ⟨p0, p1, p2, -⟩ := rd_part (acts := 0) hv hn h
  unfold k_X0_turns k_X7_turned
  simp only [gq_lt]
  rw [p0, p1, p2, rg_in ha (by decide), rg_in hb (by decide), hc _ (mv_ix ha), hc _ (mv_ix hb), gq_cl (by omega)]
  have i5 : k_X7_in 5 5 10 = true := by decide
  have i6 : k_X7_in 6 5 10 = true := by decide
  by_cases k5 : mg_kinds M v = 5
  · rw [if_pos k5, if_pos k5, k5, i5]
    rfl
  · rw [if_neg k5, if_neg k5]
    by_cases k6 : mg_kinds M v = 6
    · rw [if_pos k6, if_pos k6, k6, i6]
      rfl
    · rw [if_neg k6, if_neg k6]
      unfold k_X6_isTurn m_and
      rw [kv_in, rb_self]
set_option maxHeartbeats 1000000 in
theorem rd_does {P : gs_P} {C : gs_C} {M : gs_M} {n v : Nat} (hv : v < n) (hn : n ≤ 60) (hP : P.2 = nI n) (hM : mg_acts M = nI n) (h : ∀ j, j < n → P.1 (4 * j) = mg_kinds M j ∧ P.1 (4 * j + 1) = mg_as M j ∧ P.1 (4 * j + 2) = mg_bs M j ∧ P.1 (4 * j + 3) = mg_cs M j) (ha : vp_in (mg_as M v) 8) (hb : vp_in (mg_bs M v) 8) (hC : RCg C (mg_registers M) (mg_memory M) (mg_stack M) (mg_deep M)) :
    (k_X0_perform (C, P) (nI v)).1 = (k_X7_does M (nI v)).1 ∧ (k_X0_perform (C, P) (nI v)).2.2 = P ∧ RCg (k_X0_perform (C, P) (nI v)).2.1 (mg_registers (k_X7_does M (nI v)).2) (mg_memory (k_X7_does M (nI v)).2) (mg_stack (k_X7_does M (nI v)).2) (mg_deep (k_X7_does M (nI v)).2) := by
  obtain ⟨p0, p1, p2, p3⟩ := rd_part (acts := 0) hv hn h
  have hCC := hC
  obtain ⟨c1, c2, d, d1, d2, d3, d4⟩ := hC
  unfold k_X0_perform k_X7_does
  simp only [gq_lt]
  rw [p0, p1, p2, p3, gq_cl (show v < 2147483648 by omega), rg_in ha (by decide), rg_in hb (by decide), c1 _ (mv_ix ha), c1 _ (mv_ix hb)]
  have vm := mv_and15 (mg_registers M (gq_ix (mg_bs M v)))
  by_cases k0 : mg_kinds M v = 0
  · rw [if_pos k0, if_pos k0, rs_in ha (by decide)]
    simp only [mfr_registers]
    exact ⟨trivial, trivial, up_eq c1, c2, d, d1, d2, d3, d4⟩
  rw [if_neg k0, if_neg k0]
  by_cases k1 : mg_kinds M v = 1
  · rw [if_pos k1, if_pos k1, rs_in ha (by decide)]
    simp only [mfr_registers]
    exact ⟨trivial, trivial, up_eq c1, c2, d, d1, d2, d3, d4⟩
  rw [if_neg k1, if_neg k1]
  by_cases k2 : mg_kinds M v = 2
  · rw [if_pos k2, if_pos k2, rs_in ha (by decide)]
    simp only [mfr_registers]
    exact ⟨trivial, trivial, up_eq c1, c2, d, d1, d2, d3, d4⟩
  rw [if_neg k2, if_neg k2]
  by_cases k3 : mg_kinds M v = 3
  · rw [if_pos k3, if_pos k3, rs_in ha (by decide), rg_in vm (by decide), c2 _ (mv_ix vm)]
    simp only [mfr_registers]
    exact ⟨trivial, trivial, up_eq c1, c2, d, d1, d2, d3, d4⟩
  rw [if_neg k3, if_neg k3]
  by_cases k4 : mg_kinds M v = 4
  · rw [if_pos k4, if_pos k4, rs_in vm (by decide)]
    simp only [mfr_memory]
    exact ⟨trivial, trivial, c1, up_eq c2, d, d1, d2, d3, d4⟩
  rw [if_neg k4, if_neg k4]
  by_cases k5 : mg_kinds M v = 5
  · rw [if_pos k5, if_pos k5]
    by_cases q : mg_registers M (gq_ix (mg_bs M v)) ≤ mg_registers M (gq_ix (mg_as M v))
    · rw [if_pos q, if_pos q]; exact ⟨rfl, rfl, hCC⟩
    · rw [if_neg q, if_neg q]; exact ⟨rfl, rfl, hCC⟩
  rw [if_neg k5, if_neg k5]
  by_cases k6 : mg_kinds M v = 6
  · rw [if_pos k6, if_pos k6]
    by_cases q : mg_registers M (gq_ix (mg_as M v)) = mg_registers M (gq_ix (mg_bs M v))
    · rw [if_pos q, if_pos q]; exact ⟨rfl, rfl, hCC⟩
    · rw [if_neg q, if_neg q]; exact ⟨rfl, rfl, hCC⟩
  rw [if_neg k6, if_neg k6]
  by_cases k7 : mg_kinds M v = 7
  · rw [if_pos k7, if_pos k7]; exact ⟨rfl, rfl, hCC⟩
  rw [if_neg k7, if_neg k7]
  by_cases k8 : mg_kinds M v = 8
  · rw [if_pos k8, if_pos k8]
    by_cases e : d = 16
    · subst e
      rw [rp2_full (m := 16) d2 (by decide), if_pos (show mg_deep M = 16 from d3), if_neg (show ¬ (false = true) by decide)]
      exact ⟨rfl, rfl, hCC⟩
    · rw [rp2_push (m := 16) (n := d) d2 (by omega) (by decide), if_neg (show ¬ mg_deep M = 16 from fun q => e ((nI_eq (b := 16) (by omega) (by decide)).mp (d3.symm.trans q))), if_pos (show true = true from rfl)]
      simp only [mfr_stack, mfr_deep]
      rw [d3, gq_cl (by omega), nI_1]
      refine ⟨trivial, trivial, c1, c2, d + 1, by omega, rfl, nI_1 d, fun j hj => ?_⟩
      show upd C.2.2.1 d (nI (v + 1)) j = upd (mg_stack M) d (nI (v + 1)) j
      unfold upd
      by_cases ej : j = d
      · rw [if_pos ej, if_pos ej]
      · rw [if_neg ej, if_neg ej]; exact d4 j (by omega)
  rw [if_neg k8, if_neg k8]
  by_cases k9 : mg_kinds M v = 9
  · rw [if_pos k9, if_pos k9]
    rcases Nat.eq_zero_or_pos d with z | z
    · subst z
      rw [rp2_pop0 d2 (by decide), if_pos (show mg_deep M = 0 from d3)]
      exact ⟨rfl, rfl, c1, c2, 0, by omega, rfl, d3, fun j hj => absurd hj (Nat.not_lt_zero _)⟩
    · obtain ⟨d', rfl⟩ : ∃ d', d = d' + 1 := ⟨d - 1, by omega⟩
      rw [rp2_pop (n := d') d2 (by omega) (by decide), if_neg (show ¬ mg_deep M = 0 by rw [d3]; exact nI_ne0 (by omega) (by omega))]
      simp only [mfr_deep]
      rw [d3, nI_pred, gq_cl (by omega)]
      exact ⟨d4 d' (by omega), trivial, c1, c2, d', by omega, rfl, rfl, fun j hj => d4 j (by omega)⟩
  rw [if_neg k9, if_neg k9]
  by_cases k10 : mg_kinds M v = 10
  · rw [if_pos k10, if_pos k10, show k_X3_size P = nI n from hP, hM, if_neg (show ¬ nI n ≤ 0 from nI_nle (by omega) (by omega))]
    exact ⟨rfl, rfl, hCC⟩
  rw [if_neg k10, if_neg k10]
  exact ⟨rfl, rfl, hCC⟩
