/-! learn, and the guess -/
theorem rb_ff : (gq_b false = gq_b true) = False := eq_false (by decide)
theorem rb_tf : (gq_b true = gq_b false) = False := eq_false (by decide)
theorem rb_1t : ((1 : Int32) = gq_b true) = True := eq_true (by decide)
theorem rb_1f : ((1 : Int32) = gq_b false) = False := eq_false (by decide)
theorem rb_0t : ((0 : Int32) = gq_b true) = False := eq_false (by decide)
theorem rb_0f : ((0 : Int32) = gq_b false) = True := eq_true (by decide)
theorem rq_stepR {u p : gs_R} {i : Int32} (h : ∀ j, j < 16 → u j = p j ∧ vp_in (p j) 4) (hi : vp_in i 16) (y : Bool) : ∀ j, j < 16 → k_X1_step 16 u i y j = upd p (gq_ix i) (k_X7_more (p (gq_ix i)) y) j ∧ vp_in (upd p (gq_ix i) (k_X7_more (p (gq_ix i)) y) j) 4 := by
  obtain ⟨e, v⟩ := h _ (mv_ix hi)
  obtain ⟨s1, s2⟩ := rq_step (S := u) (y := y) hi (by rw [e]; exact v)
  rw [e] at s1 s2
  rw [s1]
  exact up_both h s2
set_option maxHeartbeats 400000 in
theorem rq_learn {U : gs_U} {M : gs_M} {x hs : Int32} (y : Bool) (hx : vp_in x 60) (hhs : vp_in hs 16) (ht : RTg U.1 U.2.1 U.2.2.1 U.2.2.2.1 U.2.2.2.2.1 U.2.2.2.2.2.1 (mg_plain M) (mg_mixed M) (mg_choice M) (mg_targetAt M) (mg_targetKind M) (mg_target M)) :
    RTg (k_X1_learn U x hs y).1 (k_X1_learn U x hs y).2.1 (k_X1_learn U x hs y).2.2.1 (k_X1_learn U x hs y).2.2.2.1 (k_X1_learn U x hs y).2.2.2.2.1 (k_X1_learn U x hs y).2.2.2.2.2.1 (mg_plain (k_X7_learn M x y hs)) (mg_mixed (k_X7_learn M x y hs)) (mg_choice (k_X7_learn M x y hs)) (mg_targetAt (k_X7_learn M x y hs)) (mg_targetKind (k_X7_learn M x y hs)) (mg_target (k_X7_learn M x y hs)) ∧ (k_X1_learn U x hs y).2.2.2.2.2.2.1 = U.2.2.2.2.2.2.1 ∧ (k_X1_learn U x hs y).2.2.2.2.2.2.2 = U.2.2.2.2.2.2.2 := by
  obtain ⟨t1, t2, t3, t4⟩ := ht
  have v1 := mv_rem16 hx
  have v2 : vp_in (k_X7_mixedAt M x hs) 16 := mv_xor v1 hhs
  have em : k_X1_mixedPlace x hs = k_X7_mixedAt M x hs := rfl
  have s1 := rq_stepR t1 v1 y
  have s2 := rq_stepR t2 v2 y
  have s3t := rq_stepR t3 v1 true
  have s3f := rq_stepR t3 v1 false
  unfold k_X1_learn k_X7_learn
  simp only [gq_lt]
  rw [em, rq_tells t1 v1, rq_tells t2 v2]
  cases y with
  | true =>
    by_cases a : mg_plain M (gq_ix (gq_rem x 16)) ≤ 1
    · by_cases b : mg_mixed M (gq_ix (k_X7_mixedAt M x hs)) ≤ 1
      · simp only [if_pos a, if_pos b, if_true, mfr_plain, mfr_mixed]
        exact ⟨⟨s1, s2, t3, t4⟩, trivial, trivial⟩
      · simp only [if_pos a, if_neg b, rb_ff, rb_1t, if_true, if_false, mfr_plain, mfr_mixed, mfr_choice]
        exact ⟨⟨s1, s2, s3t, t4⟩, trivial, trivial⟩
    · by_cases b : mg_mixed M (gq_ix (k_X7_mixedAt M x hs)) ≤ 1
      · simp only [if_neg a, if_pos b, rb_tf, rb_ff, rb_0t, if_true, if_false, mfr_plain, mfr_mixed, mfr_choice]
        exact ⟨⟨s1, s2, s3f, t4⟩, trivial, trivial⟩
      · simp only [if_neg a, if_neg b, if_true, mfr_plain, mfr_mixed]
        exact ⟨⟨s1, s2, t3, t4⟩, trivial, trivial⟩
  | false =>
    by_cases a : mg_plain M (gq_ix (gq_rem x 16)) ≤ 1
    · by_cases b : mg_mixed M (gq_ix (k_X7_mixedAt M x hs)) ≤ 1
      · simp only [if_pos a, if_pos b, if_true, mfr_plain, mfr_mixed]
        exact ⟨⟨s1, s2, t3, t4⟩, trivial, trivial⟩
      · simp only [if_pos a, if_neg b, rb_ff, rb_tf, rb_1f, if_true, if_false, mfr_plain, mfr_mixed, mfr_choice]
        exact ⟨⟨s1, s2, s3f, t4⟩, trivial, trivial⟩
    · by_cases b : mg_mixed M (gq_ix (k_X7_mixedAt M x hs)) ≤ 1
      · simp only [if_neg a, if_pos b, rb_tf, rb_0f, if_true, if_false, mfr_plain, mfr_mixed, mfr_choice]
        exact ⟨⟨s1, s2, s3t, t4⟩, trivial, trivial⟩
      · simp only [if_neg a, if_neg b, if_true, mfr_plain, mfr_mixed]
        exact ⟨⟨s1, s2, t3, t4⟩, trivial, trivial⟩
set_option maxHeartbeats 400000 in
theorem rq_place {x : Int32} (hx : vp_in x 60) : ¬ x + 1 = -1 := by
  obtain ⟨j, hj, rfl⟩ := vp_in_of hx (by decide)
  have h : ∀ j, j < 60 → ¬ nI j + 1 = -1 := by decide
  exact h j hj
/-- the guess of the class is the reference's -/
def RGu (U : gs_U) (M : gs_M) (x : Int32) (V : Int32 × gs_U) (N : Int32 × gs_M) : Prop := V.1 = N.1 ∧ V.2.1 = U.1 ∧ V.2.2.1 = U.2.1 ∧ V.2.2.2.1 = U.2.2.1 ∧ V.2.2.2.2.1 = U.2.2.2.1 ∧ V.2.2.2.2.2.1 = U.2.2.2.2.1 ∧ V.2.2.2.2.2.2.1 = U.2.2.2.2.2.1 ∧ RHg V.2.2.2.2.2.2.2.2 (mg_history N.2) ∧ RRg V.2.2.2.2.2.2.2.1 (mg_returned N.2) (mg_returns N.2)
