/-! counts at their places; the end of a run; stop, begin, act, harm, forget -/
theorem rk_v0 : vp_in 0 18 := by unfold vp_in; decide
theorem rk_g0 {S : gs_R} : k_X5_get 18 S 0 = S 0 := (rg_in rk_v0 (by decide)).trans (by rw [rl_i0])
theorem rk_s0 {S : gs_R} {y : Int32} : k_X5_set 18 S 0 y = (S 0, upd S 0 y) := (rs_in rk_v0 (by decide)).trans (by rw [rl_i0])
theorem rk_a0 {S : gs_R} {y : Int32} : k_X5_add 18 S 0 y = upd S 0 (S 0 + y) := (ra_in rk_v0 (by decide)).trans (by rw [rl_i0])
theorem rk_v1 : vp_in 1 18 := by unfold vp_in; decide
theorem rk_g1 {S : gs_R} : k_X5_get 18 S 1 = S 1 := (rg_in rk_v1 (by decide)).trans (by rw [rl_i1])
theorem rk_s1 {S : gs_R} {y : Int32} : k_X5_set 18 S 1 y = (S 1, upd S 1 y) := (rs_in rk_v1 (by decide)).trans (by rw [rl_i1])
theorem rk_a1 {S : gs_R} {y : Int32} : k_X5_add 18 S 1 y = upd S 1 (S 1 + y) := (ra_in rk_v1 (by decide)).trans (by rw [rl_i1])
theorem rk_v2 : vp_in 2 18 := by unfold vp_in; decide
theorem rk_g2 {S : gs_R} : k_X5_get 18 S 2 = S 2 := (rg_in rk_v2 (by decide)).trans (by rw [rl_i2])
theorem rk_s2 {S : gs_R} {y : Int32} : k_X5_set 18 S 2 y = (S 2, upd S 2 y) := (rs_in rk_v2 (by decide)).trans (by rw [rl_i2])
theorem rk_a2 {S : gs_R} {y : Int32} : k_X5_add 18 S 2 y = upd S 2 (S 2 + y) := (ra_in rk_v2 (by decide)).trans (by rw [rl_i2])
theorem rk_v3 : vp_in 3 18 := by unfold vp_in; decide
theorem rk_g3 {S : gs_R} : k_X5_get 18 S 3 = S 3 := (rg_in rk_v3 (by decide)).trans (by rw [rl_i3])
theorem rk_s3 {S : gs_R} {y : Int32} : k_X5_set 18 S 3 y = (S 3, upd S 3 y) := (rs_in rk_v3 (by decide)).trans (by rw [rl_i3])
theorem rk_a3 {S : gs_R} {y : Int32} : k_X5_add 18 S 3 y = upd S 3 (S 3 + y) := (ra_in rk_v3 (by decide)).trans (by rw [rl_i3])
theorem rk_v4 : vp_in 4 18 := by unfold vp_in; decide
theorem rk_g4 {S : gs_R} : k_X5_get 18 S 4 = S 4 := (rg_in rk_v4 (by decide)).trans (by rw [rl_i4])
theorem rk_s4 {S : gs_R} {y : Int32} : k_X5_set 18 S 4 y = (S 4, upd S 4 y) := (rs_in rk_v4 (by decide)).trans (by rw [rl_i4])
theorem rk_a4 {S : gs_R} {y : Int32} : k_X5_add 18 S 4 y = upd S 4 (S 4 + y) := (ra_in rk_v4 (by decide)).trans (by rw [rl_i4])
theorem rk_v5 : vp_in 5 18 := by unfold vp_in; decide
theorem rk_g5 {S : gs_R} : k_X5_get 18 S 5 = S 5 := (rg_in rk_v5 (by decide)).trans (by rw [rl_i5])
theorem rk_s5 {S : gs_R} {y : Int32} : k_X5_set 18 S 5 y = (S 5, upd S 5 y) := (rs_in rk_v5 (by decide)).trans (by rw [rl_i5])
theorem rk_a5 {S : gs_R} {y : Int32} : k_X5_add 18 S 5 y = upd S 5 (S 5 + y) := (ra_in rk_v5 (by decide)).trans (by rw [rl_i5])
theorem rk_v6 : vp_in 6 18 := by unfold vp_in; decide
theorem rk_g6 {S : gs_R} : k_X5_get 18 S 6 = S 6 := (rg_in rk_v6 (by decide)).trans (by rw [rl_i6])
theorem rk_s6 {S : gs_R} {y : Int32} : k_X5_set 18 S 6 y = (S 6, upd S 6 y) := (rs_in rk_v6 (by decide)).trans (by rw [rl_i6])
theorem rk_a6 {S : gs_R} {y : Int32} : k_X5_add 18 S 6 y = upd S 6 (S 6 + y) := (ra_in rk_v6 (by decide)).trans (by rw [rl_i6])
theorem rk_v7 : vp_in 7 18 := by unfold vp_in; decide
theorem rk_g7 {S : gs_R} : k_X5_get 18 S 7 = S 7 := (rg_in rk_v7 (by decide)).trans (by rw [rl_i7])
theorem rk_s7 {S : gs_R} {y : Int32} : k_X5_set 18 S 7 y = (S 7, upd S 7 y) := (rs_in rk_v7 (by decide)).trans (by rw [rl_i7])
theorem rk_a7 {S : gs_R} {y : Int32} : k_X5_add 18 S 7 y = upd S 7 (S 7 + y) := (ra_in rk_v7 (by decide)).trans (by rw [rl_i7])
theorem rk_v8 : vp_in 8 18 := by unfold vp_in; decide
theorem rk_g8 {S : gs_R} : k_X5_get 18 S 8 = S 8 := (rg_in rk_v8 (by decide)).trans (by rw [rl_i8])
theorem rk_s8 {S : gs_R} {y : Int32} : k_X5_set 18 S 8 y = (S 8, upd S 8 y) := (rs_in rk_v8 (by decide)).trans (by rw [rl_i8])
theorem rk_a8 {S : gs_R} {y : Int32} : k_X5_add 18 S 8 y = upd S 8 (S 8 + y) := (ra_in rk_v8 (by decide)).trans (by rw [rl_i8])
theorem rk_v12 : vp_in 12 18 := by unfold vp_in; decide
theorem rk_g12 {S : gs_R} : k_X5_get 18 S 12 = S 12 := (rg_in rk_v12 (by decide)).trans (by rw [rl_i12])
theorem rk_s12 {S : gs_R} {y : Int32} : k_X5_set 18 S 12 y = (S 12, upd S 12 y) := (rs_in rk_v12 (by decide)).trans (by rw [rl_i12])
theorem rk_a12 {S : gs_R} {y : Int32} : k_X5_add 18 S 12 y = upd S 12 (S 12 + y) := (ra_in rk_v12 (by decide)).trans (by rw [rl_i12])
theorem rk_v13 : vp_in 13 18 := by unfold vp_in; decide
theorem rk_g13 {S : gs_R} : k_X5_get 18 S 13 = S 13 := (rg_in rk_v13 (by decide)).trans (by rw [rl_i13])
theorem rk_s13 {S : gs_R} {y : Int32} : k_X5_set 18 S 13 y = (S 13, upd S 13 y) := (rs_in rk_v13 (by decide)).trans (by rw [rl_i13])
theorem rk_a13 {S : gs_R} {y : Int32} : k_X5_add 18 S 13 y = upd S 13 (S 13 + y) := (ra_in rk_v13 (by decide)).trans (by rw [rl_i13])
theorem rk_v14 : vp_in 14 18 := by unfold vp_in; decide
theorem rk_g14 {S : gs_R} : k_X5_get 18 S 14 = S 14 := (rg_in rk_v14 (by decide)).trans (by rw [rl_i14])
theorem rk_s14 {S : gs_R} {y : Int32} : k_X5_set 18 S 14 y = (S 14, upd S 14 y) := (rs_in rk_v14 (by decide)).trans (by rw [rl_i14])
theorem rk_a14 {S : gs_R} {y : Int32} : k_X5_add 18 S 14 y = upd S 14 (S 14 + y) := (ra_in rk_v14 (by decide)).trans (by rw [rl_i14])
theorem RN_up {cF cM : gs_R} (h : RNg cF cM) (k : Nat) {a b : Int32} (e : a = b) : RNg (upd cF k a) (upd cM k b) := by
  intro j hj hs
  unfold upd
  by_cases c : j = k
  · rw [if_pos c, if_pos c]; exact e
  · rw [if_neg c, if_neg c]; exact h j hj hs
theorem rh_finish {B : Nat} {F : gs_F} {M : gs_M} {x : Int32} (hx : ¬ x = 0) (h : RelB B F M) : RelB B (k_X6_endRun F x) (k_X7_finish M x) := by
  obtain ⟨h1, h2, h3, h4, h5, ⟨f, q, n, d, age, q1, q2, q3, q4, q5, q6, q7, q8, q9, q10, q11⟩, h7, h8, h9, h10, -⟩ := h
  simp only [RelB, k_X6_endRun, k_X6_dropFetched, k_X7_finish, k_X4_clear, k_X4_size, gq_lt, gfr_counts, gfr_queue, gfr_run, mfr_runs, mfr_ended, mfr_counts, mfr_fetched, rk_a3, rl_i3]
  refine ⟨h1, h2, h3, h4, h5, RQ_mk0 q1 q5 q4 q3 q6 rfl q9 q10 rfl, h7, RN_up h8 3 ?_, h9, h10, rfl, ⟨fun q => (by cases q), fun q => absurd q hx⟩, fun _ => rfl⟩
  rw [q7, q8, h8 3 (by omega) (by omega)]
theorem rh_stop {B : Nat} {F : gs_F} {M : gs_M} (h : RelB B F M) : (k_X6_stop F).1 = (k_X7_stop M).1 ∧ RelB B (k_X6_stop F).2 (k_X7_stop M).2 := by
  have hr0 := h.runs
  have hf : RelB B (k_X6_endRun F 3) (k_X7_finish M 3) := rh_finish (by decide) h
  unfold k_X6_stop k_X7_stop
  rw [hr0]
  by_cases hr : mg_runs M = true
  · rw [if_pos hr, if_pos hr]
    refine ⟨?_, hf⟩
    show k_X5_get 18 (gF_counts (k_X6_endRun F 3)) 1 = mg_counts (k_X7_finish M 3) (gq_ix 1)
    rw [rk_g1, rl_i1]
    exact hf.2.2.2.2.2.2.2.1 1 (by omega) (by omega)
  · rw [if_neg hr, if_neg hr]; exact ⟨rfl, h⟩
set_option maxHeartbeats 2000000 in
theorem rh_begin {B : Nat} {F : gs_F} {M : gs_M} (h : RelB B F M) : (k_X6_begin F).1 = (k_X7_begin M).1 ∧ RelB B (k_X6_begin F).2 (k_X7_begin M).2 := by
  have hr0 := h.runs
  unfold k_X6_begin k_X7_begin
  rw [hr0]
  by_cases hr : mg_runs M = true
  · rw [if_pos hr, if_pos hr]; exact ⟨rfl, h⟩
  · rw [if_neg hr, if_neg hr]
    have h0 := h.rest hr
    obtain ⟨h1, ⟨c1, c2, d, d1, d2, d3, d4⟩, h3, h4, ⟨r, r1, r2, r3, r4⟩, h6, h7, h8, ⟨n, n1, n2, n3, n4, n5⟩, ⟨w1, w2, w3, w4⟩, h11⟩ := h
    obtain ⟨f, n', dd, q1, q2, q3, q4, q5, q6, q7, q8⟩ := RQ_0 h6 h0
    refine ⟨rfl, ?_⟩
    simp only [RelB, k_X2_clear, k_X0_emptyStack, gq_lt, rk_s0, rk_s1, rk_s2, rk_s3, rk_s4, rk_s5, rk_s6, rk_s7, rk_s8, rk_a12, gfr_counts, gfr_done, gfr_core, gfr_gues, gfr_place, gfr_run, mfr_runs, mfr_ended, mfr_deep, mfr_fetched, mfr_returned, mfr_place, mfr_counts, rl_i0, rl_i1, rl_i2, rl_i3, rl_i4, rl_i5, rl_i6, rl_i7, rl_i8, rl_i12]
    refine ⟨h1, ⟨c1, c2, 0, by omega, rfl, rfl, fun j hj => absurd hj (Nat.not_lt_zero _)⟩, h3, h4, ⟨0, by omega, rfl, rfl, fun j hj => absurd hj (Nat.not_lt_zero _)⟩, RQ_mk0 q1 q2 q3 q4 q5 q6 q7 q8 rfl, h7, RN_up (RN_up (RN_up (RN_up (RN_up (RN_up (RN_up (RN_up (RN_up (RN_up h8 0 rfl) 1 rfl) 2 rfl) 3 rfl) 4 rfl) 5 rfl) 6 rfl) 7 rfl) 8 rfl) 12 ?_, ⟨0, by omega, n2, rfl, rfl, fun j hj => absurd hj (by simp)⟩, ⟨w1, w2, w3, rfl⟩, rfl, ⟨fun _ => rfl, fun _ => rfl⟩, fun _ => rfl⟩
    show gF_counts F 12 + 1 = mg_counts M 12 + 1
    rw [h8 12 (by omega) (by omega)]
theorem rp3_add {S : gs_P} {n : Nat} {x1 x2 x3 x4 : Int32} (h : S.2 = nI n) (hn : n < 60) : k_X3_add S x1 x2 x3 x4 = (true, (upd (upd (upd (upd S.1 (4 * n) x1) (4 * n + 1) x2) (4 * n + 2) x3) (4 * n + 3) x4, nI (n + 1))) := by
  have e : ∀ i : Nat, i < 4 → nI n * 4 + nI i = nI (4 * n + i) := by
    intro i _
    rw [show (4 : Int32) = nI 4 by decide, show nI n * nI 4 = nI (n * 4) from (Int32.ofNat_mul n 4).symm, nI_add, Nat.mul_comm]
  have e0 : nI n * 4 + 0 = nI (4 * n) := e 0 (by omega)
  have e1 : nI n * 4 + 1 = nI (4 * n + 1) := e 1 (by omega)
  have e2 : nI n * 4 + 2 = nI (4 * n + 2) := e 2 (by omega)
  have e3 : nI n * 4 + 3 = nI (4 * n + 3) := e 3 (by omega)
  unfold k_X3_add
  rw [h, if_pos (show nI n < 60 from nI_lt (b := 60) hn (by decide))]
  simp only [gq_lt, e0, e1, e2, e3]
  rw [rs_in (vp_in_nI (by omega) (by omega)) (by decide), rs_in (vp_in_nI (by omega) (by omega)) (by decide), rs_in (vp_in_nI (by omega) (by omega)) (by decide), rs_in (vp_in_nI (by omega) (by omega)) (by decide), gq_cl (by omega), gq_cl (by omega), gq_cl (by omega), gq_cl (by omega), nI_1]
theorem rp3_full {S : gs_P} {x1 x2 x3 x4 : Int32} (h : S.2 = nI 60) : k_X3_add S x1 x2 x3 x4 = (false, S) := by
  unfold k_X3_add
  rw [h, if_neg (by decide)]
theorem rh_add {B : Nat} {F : gs_F} {M : gs_M} (x1 x2 x3 x4 : Int32) (hr : ¬ mg_runs M = true) (hx2 : vp_in x2 8) (hx3 : vp_in x3 8) (h : RelB B F M) :
    (gq_lt (k_X3_add (gF_prog F) x1 x2 x3 x4) (fun r1 => gq_lt (sF_prog F r1.2) (fun s2 => if r1.1 = true then ((k_X3_size (gF_prog s2)) - 1, s2) else ((-104), s2)))).1 = (if mg_acts M = 60 then ((-104), M) else gq_lt (ms_kinds M (upd (mg_kinds M) (gq_ix (mg_acts M)) x1)) (fun s1 => gq_lt (ms_as s1 (upd (mg_as s1) (gq_ix (mg_acts s1)) x2)) (fun s2 => gq_lt (ms_bs s2 (upd (mg_bs s2) (gq_ix (mg_acts s2)) x3)) (fun s3 => gq_lt (ms_cs s3 (upd (mg_cs s3) (gq_ix (mg_acts s3)) x4)) (fun s4 => gq_lt (ms_acts s4 ((mg_acts s4) + 1)) (fun s5 => ((mg_acts s5) - 1, s5))))))).1 ∧
    RelB B (gq_lt (k_X3_add (gF_prog F) x1 x2 x3 x4) (fun r1 => gq_lt (sF_prog F r1.2) (fun s2 => if r1.1 = true then ((k_X3_size (gF_prog s2)) - 1, s2) else ((-104), s2)))).2 (if mg_acts M = 60 then ((-104), M) else gq_lt (ms_kinds M (upd (mg_kinds M) (gq_ix (mg_acts M)) x1)) (fun s1 => gq_lt (ms_as s1 (upd (mg_as s1) (gq_ix (mg_acts s1)) x2)) (fun s2 => gq_lt (ms_bs s2 (upd (mg_bs s2) (gq_ix (mg_acts s2)) x3)) (fun s3 => gq_lt (ms_cs s3 (upd (mg_cs s3) (gq_ix (mg_acts s3)) x4)) (fun s4 => gq_lt (ms_acts s4 ((mg_acts s4) + 1)) (fun s5 => ((mg_acts s5) - 1, s5))))))).2 := by
  have h0 := h.rest hr
  have hh := h
  obtain ⟨⟨⟨n, n1, n2, n3, n4⟩, n5, n6⟩, h2, h3, h4, h5, h6, h7, h8, h9, h10, h11⟩ := h
  obtain ⟨f, n', dd, q1, q2, q3, q4, q5, q6, q7, q8⟩ := RQ_0 h6 h0
  by_cases e : n = 60
  · subst e
    rw [rp3_full n2, if_pos (show mg_acts M = 60 from n3)]
    simp only [gq_lt]
    rw [if_neg (by decide)]
    refine ⟨rfl, ?_⟩
    simp only [RelB, gfr_prog]
    exact hh
  · have hn : n < 60 := by omega
    have h60 : ¬ mg_acts M = 60 := by
      rw [n3]
      intro q
      exact e ((nI_eq (b := 60) (by omega) (by decide)).mp q)
    rw [rp3_add n2 hn, if_neg h60]
    simp only [gq_lt, RelB, gfr_prog, mfr_kinds, mfr_as, mfr_bs, mfr_cs, mfr_acts, if_pos, k_X3_size]
    rw [n3, gq_cl (by omega), nI_1]
    refine ⟨rfl, ⟨⟨n + 1, by omega, rfl, rfl, fun j hj => ?_⟩, up_in n5 hx2, up_in n6 hx3⟩, h2, h3, h4, h5, RQ_mk0 (n := n + 1) q1 (by omega) q3 q4 q5 q6 rfl q8 h0, h7, h8, h9, h10, h11⟩
    unfold upd
    by_cases ej : j = n
    · subst ej
      simp
    · obtain ⟨b0, b1, b2, b3⟩ := n4 j (by omega)
      simp only [if_neg ej]
      rw [if_neg (by omega), if_neg (by omega), if_neg (by omega), if_neg (by omega), if_neg (by omega), if_neg (by omega), if_neg (by omega), if_neg (by omega), if_neg (by omega), if_neg (by omega), if_neg (by omega), if_neg (by omega), if_neg (by omega), if_neg (by omega), if_neg (by omega), if_neg (by omega)]
      exact ⟨b0, b1, b2, b3⟩
theorem rh_act {B : Nat} {F : gs_F} {M : gs_M} (x1 x2 x3 x4 : Int32) (h : RelB B F M) : (k_X6_act F x1 x2 x3 x4).1 = (k_X7_act M x1 x2 x3 x4).1 ∧ RelB B (k_X6_act F x1 x2 x3 x4).2 (k_X7_act M x1 x2 x3 x4).2 := by
  unfold k_X6_act k_X7_act
  simp only [kv_in, h.runs]
  have t5 : (5 : Int32).toInt = 5 := by decide
  have t8 : (8 : Int32).toInt = 8 := by decide
  by_cases a1 : k_X7_in x1 0 11 = true
  · by_cases a2 : k_X7_in x2 0 7 = true
    · by_cases a3 : k_X7_in x3 0 7 = true
      · have v2 : vp_in x2 8 := (rl_inN (n := 8) (by decide) (by decide)).mp a2
        have v3 : vp_in x3 8 := (rl_inN (n := 8) (by decide) (by decide)).mp a3
        by_cases a5 : k_X7_in x1 5 8 = true
        · have z := rl_inb.mp a5
          rw [if_neg (show ¬ x1 < 5 by rw [Int32.lt_iff_toInt_lt]; omega), if_neg (show ¬ 8 < x1 by rw [Int32.lt_iff_toInt_lt]; omega)]
          rw [if_pos a1, if_pos a1, if_pos a2, if_pos a2, if_pos a3, if_pos a3, if_pos a5]
          by_cases a4 : k_X7_in x4 0 60 = true
          · rw [if_pos a4, if_pos a4]
            by_cases hr : mg_runs M = true
            · rw [if_pos hr, if_pos hr]; exact ⟨rfl, h⟩
            · rw [if_neg hr, if_neg hr]
              exact rh_add x1 x2 x3 x4 hr v2 v3 h
          · rw [if_neg a4, if_neg a4]; exact ⟨rfl, h⟩
        · have hz : x1 < 5 ∨ 8 < x1 := by
            rcases Int.lt_or_le x1.toInt 5 with q | q
            · left; rw [Int32.lt_iff_toInt_lt]; omega
            · rcases Int.lt_or_le 8 x1.toInt with q2 | q2
              · right; rw [Int32.lt_iff_toInt_lt]; omega
              · exact absurd (rl_inb.mpr (by omega)) a5
          by_cases b5 : x1 < 5
          · rw [if_pos b5, if_pos a1, if_pos a1, if_pos a2, if_pos a2, if_pos a3, if_pos a3, if_neg a5]
            by_cases hr : mg_runs M = true
            · rw [if_pos hr, if_pos hr]; exact ⟨rfl, h⟩
            · rw [if_neg hr, if_neg hr]
              exact rh_add x1 x2 x3 x4 hr v2 v3 h
          · rw [if_neg b5, if_pos (hz.resolve_left b5), if_pos a1, if_pos a1, if_pos a2, if_pos a2, if_pos a3, if_pos a3, if_neg a5]
            by_cases hr : mg_runs M = true
            · rw [if_pos hr, if_pos hr]; exact ⟨rfl, h⟩
            · rw [if_neg hr, if_neg hr]
              exact rh_add x1 x2 x3 x4 hr v2 v3 h
      · simp only [if_pos a1, if_pos a2, if_neg a3, ite_self]; exact ⟨trivial, h⟩
    · simp only [if_pos a1, if_neg a2, ite_self]; exact ⟨trivial, h⟩
  · simp only [if_neg a1, ite_self]; exact ⟨trivial, h⟩
