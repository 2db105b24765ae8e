/-! harm -/
theorem rl_neg {x : Int32} (h : k_X7_in x 0 200 = true) : ¬ x = -1 := by
  intro q
  subst q
  revert h
  decide
theorem rt_9 {x : Int32} (h : x = 0 ∨ x = 1 ∨ x = 2 ∨ x = 3 ∨ x = 4 ∨ x = 5 ∨ x = 6 ∨ x = 7) : x = 0 ∨ x = 1 ∨ x = 2 ∨ x = 3 ∨ x = 4 ∨ x = 5 ∨ x = 6 ∨ x = 7 ∨ x = 8 := by
  rcases h with h | h | h | h | h | h | h | h
  · exact Or.inl h
  · exact Or.inr (Or.inl h)
  · exact Or.inr (Or.inr (Or.inl h))
  · exact Or.inr (Or.inr (Or.inr (Or.inl h)))
  · exact Or.inr (Or.inr (Or.inr (Or.inr (Or.inl h))))
  · exact Or.inr (Or.inr (Or.inr (Or.inr (Or.inr (Or.inl h)))))
  · exact Or.inr (Or.inr (Or.inr (Or.inr (Or.inr (Or.inr (Or.inl h))))))
  · exact Or.inr (Or.inr (Or.inr (Or.inr (Or.inr (Or.inr (Or.inr (Or.inl h)))))))
theorem rp2_set {S : gs_P} {m n : Nat} {x y : Int32} (h : S.2 = nI n) (hm : n ≤ m) (hn : m < 2147483648) (hx : vp_in x n) : k_X2_set m S x y = (S.1 (gq_ix x), (upd S.1 (gq_ix x) y, S.2)) := by
  unfold k_X2_set
  rw [if_pos ((rp2_has h hm hn).mpr hx)]
  rfl
theorem rh_harm0 {B : Nat} {F : gs_F} {M : gs_M} (x2 x3 : Int32) (hp : k_X7_isPlace M 0 x2 = true) (h : RelB B F M) :
    (if k_X7_in x3 0 3 = true then gq_lt (k_X1_setCell (gF_gues F) 0 x2 x3) (fun r3 => gq_lt (sF_gues F r3.2) (fun s4 => (r3.1, s4))) else ((-102), F)).1 = (if k_X7_in x3 0 3 = true then (mg_plain M (gq_ix x2), ms_plain M (upd (mg_plain M) (gq_ix x2) x3)) else ((-102), M)).1 ∧
    RelB B (if k_X7_in x3 0 3 = true then gq_lt (k_X1_setCell (gF_gues F) 0 x2 x3) (fun r3 => gq_lt (sF_gues F r3.2) (fun s4 => (r3.1, s4))) else ((-102), F)).2 (if k_X7_in x3 0 3 = true then (mg_plain M (gq_ix x2), ms_plain M (upd (mg_plain M) (gq_ix x2) x3)) else ((-102), M)).2 := by
  have v := rt_p16 (Or.inl rfl) hp
  by_cases a3 : k_X7_in x3 0 3 = true
  · rw [if_pos a3, if_pos a3]
    have e : k_X1_setCell (gF_gues F) 0 x2 x3 = ((gF_gues F).1 (gq_ix x2), (upd (gF_gues F).1 (gq_ix x2) x3, (gF_gues F).2.1, (gF_gues F).2.2.1, (gF_gues F).2.2.2.1, (gF_gues F).2.2.2.2.1, (gF_gues F).2.2.2.2.2.1, (gF_gues F).2.2.2.2.2.2.1, (gF_gues F).2.2.2.2.2.2.2)) := by
      refine (show k_X1_setCell (gF_gues F) 0 x2 x3 = gq_lt (k_X5_set 16 (gF_gues F).1 x2 x3) (fun r => (r.1, (r.2, (gF_gues F).2.1, (gF_gues F).2.2.1, (gF_gues F).2.2.2.1, (gF_gues F).2.2.2.2.1, (gF_gues F).2.2.2.2.2.1, (gF_gues F).2.2.2.2.2.2.1, (gF_gues F).2.2.2.2.2.2.2))) from rfl).trans ?_
      rw [rs_in v (by decide)]
      rfl
    rw [e]
    obtain ⟨h1, h2, ⟨t1, t2, t3, t4, t5, t6⟩, h4, h5⟩ := h
    simp only [RelB, gq_lt, gfr_gues, mfr_plain]
    exact ⟨(t1 _ (mv_ix v)).1, h1, h2, ⟨up_both t1 ((rl_inN (n := 4) (by decide) (by decide)).mp a3), t2, t3, t4, t5, t6⟩, h4, h5⟩
  · rw [if_neg a3, if_neg a3]; exact ⟨rfl, h⟩
theorem rh_harm1 {B : Nat} {F : gs_F} {M : gs_M} (x2 x3 : Int32) (hp : k_X7_isPlace M 1 x2 = true) (h : RelB B F M) :
    (if k_X7_in x3 0 3 = true then gq_lt (k_X1_setCell (gF_gues F) 1 x2 x3) (fun r3 => gq_lt (sF_gues F r3.2) (fun s4 => (r3.1, s4))) else ((-102), F)).1 = (if k_X7_in x3 0 3 = true then (mg_mixed M (gq_ix x2), ms_mixed M (upd (mg_mixed M) (gq_ix x2) x3)) else ((-102), M)).1 ∧
    RelB B (if k_X7_in x3 0 3 = true then gq_lt (k_X1_setCell (gF_gues F) 1 x2 x3) (fun r3 => gq_lt (sF_gues F r3.2) (fun s4 => (r3.1, s4))) else ((-102), F)).2 (if k_X7_in x3 0 3 = true then (mg_mixed M (gq_ix x2), ms_mixed M (upd (mg_mixed M) (gq_ix x2) x3)) else ((-102), M)).2 := by
  have v := rt_p16 (Or.inr (Or.inl rfl)) hp
  by_cases a3 : k_X7_in x3 0 3 = true
  · rw [if_pos a3, if_pos a3]
    have e : k_X1_setCell (gF_gues F) 1 x2 x3 = ((gF_gues F).2.1 (gq_ix x2), ((gF_gues F).1, upd (gF_gues F).2.1 (gq_ix x2) x3, (gF_gues F).2.2.1, (gF_gues F).2.2.2.1, (gF_gues F).2.2.2.2.1, (gF_gues F).2.2.2.2.2.1, (gF_gues F).2.2.2.2.2.2.1, (gF_gues F).2.2.2.2.2.2.2)) := by
      refine (show k_X1_setCell (gF_gues F) 1 x2 x3 = gq_lt (k_X5_set 16 (gF_gues F).2.1 x2 x3) (fun r => (r.1, ((gF_gues F).1, r.2, (gF_gues F).2.2.1, (gF_gues F).2.2.2.1, (gF_gues F).2.2.2.2.1, (gF_gues F).2.2.2.2.2.1, (gF_gues F).2.2.2.2.2.2.1, (gF_gues F).2.2.2.2.2.2.2))) from rfl).trans ?_
      rw [rs_in v (by decide)]
      rfl
    rw [e]
    obtain ⟨h1, h2, ⟨t1, t2, t3, t4, t5, t6⟩, h4, h5⟩ := h
    simp only [RelB, gq_lt, gfr_gues, mfr_mixed]
    exact ⟨(t2 _ (mv_ix v)).1, h1, h2, ⟨t1, up_both t2 ((rl_inN (n := 4) (by decide) (by decide)).mp a3), t3, t4, t5, t6⟩, h4, h5⟩
  · rw [if_neg a3, if_neg a3]; exact ⟨rfl, h⟩
theorem rh_harm2 {B : Nat} {F : gs_F} {M : gs_M} (x2 x3 : Int32) (hp : k_X7_isPlace M 2 x2 = true) (h : RelB B F M) :
    (if k_X7_in x3 0 3 = true then gq_lt (k_X1_setCell (gF_gues F) 2 x2 x3) (fun r3 => gq_lt (sF_gues F r3.2) (fun s4 => (r3.1, s4))) else ((-102), F)).1 = (if k_X7_in x3 0 3 = true then (mg_choice M (gq_ix x2), ms_choice M (upd (mg_choice M) (gq_ix x2) x3)) else ((-102), M)).1 ∧
    RelB B (if k_X7_in x3 0 3 = true then gq_lt (k_X1_setCell (gF_gues F) 2 x2 x3) (fun r3 => gq_lt (sF_gues F r3.2) (fun s4 => (r3.1, s4))) else ((-102), F)).2 (if k_X7_in x3 0 3 = true then (mg_choice M (gq_ix x2), ms_choice M (upd (mg_choice M) (gq_ix x2) x3)) else ((-102), M)).2 := by
  have v := rt_p16 (Or.inr (Or.inr rfl)) hp
  by_cases a3 : k_X7_in x3 0 3 = true
  · rw [if_pos a3, if_pos a3]
    have e : k_X1_setCell (gF_gues F) 2 x2 x3 = ((gF_gues F).2.2.1 (gq_ix x2), ((gF_gues F).1, (gF_gues F).2.1, upd (gF_gues F).2.2.1 (gq_ix x2) x3, (gF_gues F).2.2.2.1, (gF_gues F).2.2.2.2.1, (gF_gues F).2.2.2.2.2.1, (gF_gues F).2.2.2.2.2.2.1, (gF_gues F).2.2.2.2.2.2.2)) := by
      refine (show k_X1_setCell (gF_gues F) 2 x2 x3 = gq_lt (k_X5_set 16 (gF_gues F).2.2.1 x2 x3) (fun r => (r.1, ((gF_gues F).1, (gF_gues F).2.1, r.2, (gF_gues F).2.2.2.1, (gF_gues F).2.2.2.2.1, (gF_gues F).2.2.2.2.2.1, (gF_gues F).2.2.2.2.2.2.1, (gF_gues F).2.2.2.2.2.2.2))) from rfl).trans ?_
      rw [rs_in v (by decide)]
      rfl
    rw [e]
    obtain ⟨h1, h2, ⟨t1, t2, t3, t4, t5, t6⟩, h4, h5⟩ := h
    simp only [RelB, gq_lt, gfr_gues, mfr_choice]
    exact ⟨(t3 _ (mv_ix v)).1, h1, h2, ⟨t1, t2, up_both t3 ((rl_inN (n := 4) (by decide) (by decide)).mp a3), t4, t5, t6⟩, h4, h5⟩
  · rw [if_neg a3, if_neg a3]; exact ⟨rfl, h⟩
theorem rh_harm3 {B : Nat} {F : gs_F} {M : gs_M} (x2 x3 : Int32) (hp : k_X7_isPlace M 3 x2 = true) (h : RelB B F M) :
    (if k_X7_in x3 (-1) 200 = true then gq_lt (k_X1_setCell (gF_gues F) 3 x2 x3) (fun r3 => gq_lt (sF_gues F r3.2) (fun s4 => (r3.1, s4))) else ((-102), F)).1 = (if k_X7_in x3 (-1) 200 = true then (mg_targetAt M (gq_ix x2), ms_targetAt M (upd (mg_targetAt M) (gq_ix x2) x3)) else ((-102), M)).1 ∧
    RelB B (if k_X7_in x3 (-1) 200 = true then gq_lt (k_X1_setCell (gF_gues F) 3 x2 x3) (fun r3 => gq_lt (sF_gues F r3.2) (fun s4 => (r3.1, s4))) else ((-102), F)).2 (if k_X7_in x3 (-1) 200 = true then (mg_targetAt M (gq_ix x2), ms_targetAt M (upd (mg_targetAt M) (gq_ix x2) x3)) else ((-102), M)).2 := by
  have v := rt_p8 (Or.inl rfl) hp
  by_cases a3 : k_X7_in x3 (-1) 200 = true
  · rw [if_pos a3, if_pos a3]
    have e : k_X1_setCell (gF_gues F) 3 x2 x3 = ((gF_gues F).2.2.2.1 (gq_ix x2), ((gF_gues F).1, (gF_gues F).2.1, (gF_gues F).2.2.1, upd (gF_gues F).2.2.2.1 (gq_ix x2) x3, (gF_gues F).2.2.2.2.1, (gF_gues F).2.2.2.2.2.1, (gF_gues F).2.2.2.2.2.2.1, (gF_gues F).2.2.2.2.2.2.2)) := by
      refine (show k_X1_setCell (gF_gues F) 3 x2 x3 = gq_lt (k_X5_set 8 (gF_gues F).2.2.2.1 x2 x3) (fun r => (r.1, ((gF_gues F).1, (gF_gues F).2.1, (gF_gues F).2.2.1, r.2, (gF_gues F).2.2.2.2.1, (gF_gues F).2.2.2.2.2.1, (gF_gues F).2.2.2.2.2.2.1, (gF_gues F).2.2.2.2.2.2.2))) from rfl).trans ?_
      rw [rs_in v (by decide)]
      rfl
    rw [e]
    obtain ⟨h1, h2, ⟨t1, t2, t3, t4, t5, t6⟩, h4, h5⟩ := h
    simp only [RelB, gq_lt, gfr_gues, mfr_targetAt]
    exact ⟨t4 _ (mv_ix v), h1, h2, ⟨t1, t2, t3, up_eq t4, t5, t6⟩, h4, h5⟩
  · rw [if_neg a3, if_neg a3]; exact ⟨rfl, h⟩
theorem rh_harm4 {B : Nat} {F : gs_F} {M : gs_M} (x2 x3 : Int32) (hp : k_X7_isPlace M 4 x2 = true) (h : RelB B F M) :
    (if k_X7_in x3 5 10 = true then gq_lt (k_X1_setCell (gF_gues F) 4 x2 x3) (fun r3 => gq_lt (sF_gues F r3.2) (fun s4 => (r3.1, s4))) else ((-102), F)).1 = (if k_X7_in x3 5 10 = true then (mg_targetKind M (gq_ix x2), ms_targetKind M (upd (mg_targetKind M) (gq_ix x2) x3)) else ((-102), M)).1 ∧
    RelB B (if k_X7_in x3 5 10 = true then gq_lt (k_X1_setCell (gF_gues F) 4 x2 x3) (fun r3 => gq_lt (sF_gues F r3.2) (fun s4 => (r3.1, s4))) else ((-102), F)).2 (if k_X7_in x3 5 10 = true then (mg_targetKind M (gq_ix x2), ms_targetKind M (upd (mg_targetKind M) (gq_ix x2) x3)) else ((-102), M)).2 := by
  have v := rt_p8 (Or.inr (Or.inl rfl)) hp
  by_cases a3 : k_X7_in x3 5 10 = true
  · rw [if_pos a3, if_pos a3]
    have e : k_X1_setCell (gF_gues F) 4 x2 x3 = ((gF_gues F).2.2.2.2.1 (gq_ix x2), ((gF_gues F).1, (gF_gues F).2.1, (gF_gues F).2.2.1, (gF_gues F).2.2.2.1, upd (gF_gues F).2.2.2.2.1 (gq_ix x2) x3, (gF_gues F).2.2.2.2.2.1, (gF_gues F).2.2.2.2.2.2.1, (gF_gues F).2.2.2.2.2.2.2)) := by
      refine (show k_X1_setCell (gF_gues F) 4 x2 x3 = gq_lt (k_X5_set 8 (gF_gues F).2.2.2.2.1 x2 x3) (fun r => (r.1, ((gF_gues F).1, (gF_gues F).2.1, (gF_gues F).2.2.1, (gF_gues F).2.2.2.1, r.2, (gF_gues F).2.2.2.2.2.1, (gF_gues F).2.2.2.2.2.2.1, (gF_gues F).2.2.2.2.2.2.2))) from rfl).trans ?_
      rw [rs_in v (by decide)]
      rfl
    rw [e]
    obtain ⟨h1, h2, ⟨t1, t2, t3, t4, t5, t6⟩, h4, h5⟩ := h
    simp only [RelB, gq_lt, gfr_gues, mfr_targetKind]
    exact ⟨t5 _ (mv_ix v), h1, h2, ⟨t1, t2, t3, t4, up_eq t5, t6⟩, h4, h5⟩
  · rw [if_neg a3, if_neg a3]; exact ⟨rfl, h⟩
theorem rh_harm5 {B : Nat} {F : gs_F} {M : gs_M} (x2 x3 : Int32) (hp : k_X7_isPlace M 5 x2 = true) (h : RelB B F M) :
    (if k_X7_in x3 0 200 = true then gq_lt (k_X1_setCell (gF_gues F) 5 x2 x3) (fun r3 => gq_lt (sF_gues F r3.2) (fun s4 => (r3.1, s4))) else ((-102), F)).1 = (if k_X7_in x3 0 200 = true then (mg_target M (gq_ix x2), ms_target M (upd (mg_target M) (gq_ix x2) x3)) else ((-102), M)).1 ∧
    RelB B (if k_X7_in x3 0 200 = true then gq_lt (k_X1_setCell (gF_gues F) 5 x2 x3) (fun r3 => gq_lt (sF_gues F r3.2) (fun s4 => (r3.1, s4))) else ((-102), F)).2 (if k_X7_in x3 0 200 = true then (mg_target M (gq_ix x2), ms_target M (upd (mg_target M) (gq_ix x2) x3)) else ((-102), M)).2 := by
  have v := rt_p8 (Or.inr (Or.inr rfl)) hp
  by_cases a3 : k_X7_in x3 0 200 = true
  · rw [if_pos a3, if_pos a3]
    have e : k_X1_setCell (gF_gues F) 5 x2 x3 = ((gF_gues F).2.2.2.2.2.1 (gq_ix x2), ((gF_gues F).1, (gF_gues F).2.1, (gF_gues F).2.2.1, (gF_gues F).2.2.2.1, (gF_gues F).2.2.2.2.1, upd (gF_gues F).2.2.2.2.2.1 (gq_ix x2) x3, (gF_gues F).2.2.2.2.2.2.1, (gF_gues F).2.2.2.2.2.2.2)) := by
      refine (show k_X1_setCell (gF_gues F) 5 x2 x3 = gq_lt (k_X5_set 8 (gF_gues F).2.2.2.2.2.1 x2 x3) (fun r => (r.1, ((gF_gues F).1, (gF_gues F).2.1, (gF_gues F).2.2.1, (gF_gues F).2.2.2.1, (gF_gues F).2.2.2.2.1, r.2, (gF_gues F).2.2.2.2.2.2.1, (gF_gues F).2.2.2.2.2.2.2))) from rfl).trans ?_
      rw [rs_in v (by decide)]
      rfl
    rw [e]
    obtain ⟨h1, h2, ⟨t1, t2, t3, t4, t5, t6⟩, h4, h5⟩ := h
    simp only [RelB, gq_lt, gfr_gues, mfr_target]
    exact ⟨t6 _ (mv_ix v), h1, h2, ⟨t1, t2, t3, t4, t5, up_eq t6⟩, h4, h5⟩
  · rw [if_neg a3, if_neg a3]; exact ⟨rfl, h⟩
theorem rz_0_0 : ((0 : Int32) = 0) = True := eq_self _
theorem rz_0_1 : ((0 : Int32) = 1) = False := eq_false (by decide)
theorem rz_0_2 : ((0 : Int32) = 2) = False := eq_false (by decide)
theorem rz_0_3 : ((0 : Int32) = 3) = False := eq_false (by decide)
theorem rz_0_4 : ((0 : Int32) = 4) = False := eq_false (by decide)
theorem rz_0_5 : ((0 : Int32) = 5) = False := eq_false (by decide)
theorem rz_0_6 : ((0 : Int32) = 6) = False := eq_false (by decide)
theorem rz_0_7 : ((0 : Int32) = 7) = False := eq_false (by decide)
theorem rz_1_0 : ((1 : Int32) = 0) = False := eq_false (by decide)
theorem rz_1_1 : ((1 : Int32) = 1) = True := eq_self _
theorem rz_1_2 : ((1 : Int32) = 2) = False := eq_false (by decide)
theorem rz_1_3 : ((1 : Int32) = 3) = False := eq_false (by decide)
theorem rz_1_4 : ((1 : Int32) = 4) = False := eq_false (by decide)
theorem rz_1_5 : ((1 : Int32) = 5) = False := eq_false (by decide)
theorem rz_1_6 : ((1 : Int32) = 6) = False := eq_false (by decide)
theorem rz_1_7 : ((1 : Int32) = 7) = False := eq_false (by decide)
theorem rz_2_0 : ((2 : Int32) = 0) = False := eq_false (by decide)
theorem rz_2_1 : ((2 : Int32) = 1) = False := eq_false (by decide)
theorem rz_2_2 : ((2 : Int32) = 2) = True := eq_self _
theorem rz_2_3 : ((2 : Int32) = 3) = False := eq_false (by decide)
theorem rz_2_4 : ((2 : Int32) = 4) = False := eq_false (by decide)
theorem rz_2_5 : ((2 : Int32) = 5) = False := eq_false (by decide)
theorem rz_2_6 : ((2 : Int32) = 6) = False := eq_false (by decide)
theorem rz_2_7 : ((2 : Int32) = 7) = False := eq_false (by decide)
theorem rz_3_0 : ((3 : Int32) = 0) = False := eq_false (by decide)
theorem rz_3_1 : ((3 : Int32) = 1) = False := eq_false (by decide)
theorem rz_3_2 : ((3 : Int32) = 2) = False := eq_false (by decide)
theorem rz_3_3 : ((3 : Int32) = 3) = True := eq_self _
theorem rz_3_4 : ((3 : Int32) = 4) = False := eq_false (by decide)
theorem rz_3_5 : ((3 : Int32) = 5) = False := eq_false (by decide)
theorem rz_3_6 : ((3 : Int32) = 6) = False := eq_false (by decide)
theorem rz_3_7 : ((3 : Int32) = 7) = False := eq_false (by decide)
theorem rz_4_0 : ((4 : Int32) = 0) = False := eq_false (by decide)
theorem rz_4_1 : ((4 : Int32) = 1) = False := eq_false (by decide)
theorem rz_4_2 : ((4 : Int32) = 2) = False := eq_false (by decide)
theorem rz_4_3 : ((4 : Int32) = 3) = False := eq_false (by decide)
theorem rz_4_4 : ((4 : Int32) = 4) = True := eq_self _
theorem rz_4_5 : ((4 : Int32) = 5) = False := eq_false (by decide)
theorem rz_4_6 : ((4 : Int32) = 6) = False := eq_false (by decide)
theorem rz_4_7 : ((4 : Int32) = 7) = False := eq_false (by decide)
theorem rz_5_0 : ((5 : Int32) = 0) = False := eq_false (by decide)
theorem rz_5_1 : ((5 : Int32) = 1) = False := eq_false (by decide)
theorem rz_5_2 : ((5 : Int32) = 2) = False := eq_false (by decide)
theorem rz_5_3 : ((5 : Int32) = 3) = False := eq_false (by decide)
theorem rz_5_4 : ((5 : Int32) = 4) = False := eq_false (by decide)
theorem rz_5_5 : ((5 : Int32) = 5) = True := eq_self _
theorem rz_5_6 : ((5 : Int32) = 6) = False := eq_false (by decide)
theorem rz_5_7 : ((5 : Int32) = 7) = False := eq_false (by decide)
theorem rz_6_0 : ((6 : Int32) = 0) = False := eq_false (by decide)
theorem rz_6_1 : ((6 : Int32) = 1) = False := eq_false (by decide)
theorem rz_6_2 : ((6 : Int32) = 2) = False := eq_false (by decide)
theorem rz_6_3 : ((6 : Int32) = 3) = False := eq_false (by decide)
theorem rz_6_4 : ((6 : Int32) = 4) = False := eq_false (by decide)
theorem rz_6_5 : ((6 : Int32) = 5) = False := eq_false (by decide)
theorem rz_6_6 : ((6 : Int32) = 6) = True := eq_self _
theorem rz_6_7 : ((6 : Int32) = 7) = False := eq_false (by decide)
theorem rz_7_0 : ((7 : Int32) = 0) = False := eq_false (by decide)
theorem rz_7_1 : ((7 : Int32) = 1) = False := eq_false (by decide)
theorem rz_7_2 : ((7 : Int32) = 2) = False := eq_false (by decide)
theorem rz_7_3 : ((7 : Int32) = 3) = False := eq_false (by decide)
theorem rz_7_4 : ((7 : Int32) = 4) = False := eq_false (by decide)
theorem rz_7_5 : ((7 : Int32) = 5) = False := eq_false (by decide)
theorem rz_7_6 : ((7 : Int32) = 6) = False := eq_false (by decide)
theorem rz_7_7 : ((7 : Int32) = 7) = True := eq_self _
theorem rz3_0 : ((3 : Int32) ≤ 0) = False := eq_false (by decide)
theorem rz3_1 : ((3 : Int32) ≤ 1) = False := eq_false (by decide)
theorem rz3_2 : ((3 : Int32) ≤ 2) = False := eq_false (by decide)
theorem rz3_3 : ((3 : Int32) ≤ 3) = True := eq_true (by decide)
theorem rz3_4 : ((3 : Int32) ≤ 4) = True := eq_true (by decide)
theorem rz3_5 : ((3 : Int32) ≤ 5) = True := eq_true (by decide)
theorem rz3_6 : ((3 : Int32) ≤ 6) = True := eq_true (by decide)
theorem rz3_7 : ((3 : Int32) ≤ 7) = True := eq_true (by decide)
theorem rzv_0 (x : Int32) : k_X6_isTableValue 0 x = k_X7_in x 0 3 := (show k_X6_isTableValue 0 x = k_X6_isWithin x 0 3 from rfl).trans kv_in
theorem rzt_0 (M : gs_M) (x : Int32) : k_X7_tableOf M 0 x = mg_plain M (gq_ix x) := rfl
theorem rzv_1 (x : Int32) : k_X6_isTableValue 1 x = k_X7_in x 0 3 := (show k_X6_isTableValue 1 x = k_X6_isWithin x 0 3 from rfl).trans kv_in
theorem rzt_1 (M : gs_M) (x : Int32) : k_X7_tableOf M 1 x = mg_mixed M (gq_ix x) := rfl
theorem rzv_2 (x : Int32) : k_X6_isTableValue 2 x = k_X7_in x 0 3 := (show k_X6_isTableValue 2 x = k_X6_isWithin x 0 3 from rfl).trans kv_in
theorem rzt_2 (M : gs_M) (x : Int32) : k_X7_tableOf M 2 x = mg_choice M (gq_ix x) := rfl
theorem rzv_3 (x : Int32) : k_X6_isTableValue 3 x = k_X7_in x (-1) 200 := (show k_X6_isTableValue 3 x = k_X6_isWithin x (-1) 200 from rfl).trans kv_in
theorem rzt_3 (M : gs_M) (x : Int32) : k_X7_tableOf M 3 x = mg_targetAt M (gq_ix x) := rfl
theorem rzv_4 (x : Int32) : k_X6_isTableValue 4 x = k_X7_in x 5 10 := (show k_X6_isTableValue 4 x = k_X6_isWithin x 5 10 from rfl).trans kv_in
theorem rzt_4 (M : gs_M) (x : Int32) : k_X7_tableOf M 4 x = mg_targetKind M (gq_ix x) := rfl
theorem rzv_5 (x : Int32) : k_X6_isTableValue 5 x = k_X7_in x 0 200 := (show k_X6_isTableValue 5 x = k_X6_isWithin x 0 200 from rfl).trans kv_in
theorem rzt_5 (M : gs_M) (x : Int32) : k_X7_tableOf M 5 x = mg_target M (gq_ix x) := rfl
theorem rzv_6 (x : Int32) : k_X6_isTableValue 6 x = k_X7_in x 0 15 := (show k_X6_isTableValue 6 x = k_X6_isWithin x 0 15 from rfl).trans kv_in
theorem rzt_6 (M : gs_M) (x : Int32) : k_X7_tableOf M 6 x = mg_history M := rfl
theorem rzc_6 (U : gs_U) (x2 x3 : Int32) : k_X1_setCell U 6 x2 x3 = (U.2.2.2.2.2.2.2, (U.1, U.2.1, U.2.2.1, U.2.2.2.1, U.2.2.2.2.1, U.2.2.2.2.2.1, U.2.2.2.2.2.2.1, x3)) := rfl
set_option maxHeartbeats 400000 in
theorem rh_harm {B : Nat} {F : gs_F} {M : gs_M} (x1 x2 x3 : Int32) (h : RelB B F M) : (k_X6_harm F x1 x2 x3).1 = (k_X7_harm M x1 x2 x3).1 ∧ RelB B (k_X6_harm F x1 x2 x3).2 (k_X7_harm M x1 x2 x3).2 := by
  unfold k_X6_harm k_X7_harm
  rw [kv_in]
  by_cases a1 : k_X7_in x1 0 7 = true
  · rw [if_pos a1, if_pos a1, rt_place (M := M) (rt_9 (rl_8 a1))]
    by_cases hp : k_X7_isPlace M x1 x2 = true
    · rw [if_pos hp, if_pos hp]
      rcases rl_8 a1 with rfl | rfl | rfl | rfl | rfl | rfl | rfl | rfl
      · have e := rh_harm0 x2 x3 hp h
        simp only [gq_lt] at e
        simp only [gq_lt, rz_0_0, rz_0_1, rz_0_2, rz_0_3, rz_0_4, rz_0_5, rz_0_6, rz_0_7, rz3_0, rzv_0, rzt_0, if_true, if_false]
        exact e
      · have e := rh_harm1 x2 x3 hp h
        simp only [gq_lt] at e
        simp only [gq_lt, rz_1_0, rz_1_1, rz_1_2, rz_1_3, rz_1_4, rz_1_5, rz_1_6, rz_1_7, rz3_1, rzv_1, rzt_1, if_true, if_false]
        exact e
      · have e := rh_harm2 x2 x3 hp h
        simp only [gq_lt] at e
        simp only [gq_lt, rz_2_0, rz_2_1, rz_2_2, rz_2_3, rz_2_4, rz_2_5, rz_2_6, rz_2_7, rz3_2, rzv_2, rzt_2, if_true, if_false]
        exact e
      · have e := rh_harm3 x2 x3 hp h
        simp only [gq_lt] at e
        simp only [gq_lt, rz_3_0, rz_3_1, rz_3_2, rz_3_3, rz_3_4, rz_3_5, rz_3_6, rz_3_7, rz3_3, rzv_3, rzt_3, if_true, if_false]
        exact e
      · have e := rh_harm4 x2 x3 hp h
        simp only [gq_lt] at e
        simp only [gq_lt, rz_4_0, rz_4_1, rz_4_2, rz_4_3, rz_4_4, rz_4_5, rz_4_6, rz_4_7, rz3_4, rzv_4, rzt_4, if_true, if_false]
        exact e
      · have e := rh_harm5 x2 x3 hp h
        simp only [gq_lt] at e
        simp only [gq_lt, rz_5_0, rz_5_1, rz_5_2, rz_5_3, rz_5_4, rz_5_5, rz_5_6, rz_5_7, rz3_5, rzv_5, rzt_5, if_true, if_false]
        exact e
      · simp only [gq_lt, rz_6_0, rz_6_1, rz_6_2, rz_6_3, rz_6_4, rz_6_5, rz_6_6, rz_6_7, rz3_6, rzv_6, rzt_6, rzc_6, if_true, if_false]
        by_cases a3 : k_X7_in x3 0 15 = true
        · rw [if_pos a3, if_pos a3]
          obtain ⟨h1, h2, h3, ⟨h4, -⟩, h5⟩ := h
          simp only [RelB, gfr_gues, mfr_history]
          exact ⟨h4, h1, h2, h3, ⟨rfl, (rl_inN (n := 16) (by decide) (by decide)).mp a3⟩, h5⟩
        · rw [if_neg a3, if_neg a3]; exact ⟨rfl, h⟩
      · have v : vp_in x2 4 := (mv_place hp).2.2 rfl
        have hh := h
        obtain ⟨h1, h2, h3, h4, ⟨r, r1, r2, r3, r4⟩, h6⟩ := h
        rw [if_pos rfl, if_pos rfl]
        have hs : k_X2_size 4 (gF_gues F).2.2.2.2.2.2.1 = nI r := r2
        rw [hs, r3]
        by_cases b : vp_in x2 r
        · rw [if_pos ((rl_in (by omega)).mpr b)]
          have hb : x2 < nI r := by
            obtain ⟨j, hj, rfl⟩ := vp_in_of b (by omega)
            exact nI_lt hj (by omega)
          rw [if_pos hb]
          have ev : k_X6_isTableValue 7 x3 = k_X7_in x3 0 200 := (show k_X6_isTableValue 7 x3 = k_X6_isWithin x3 0 200 from rfl).trans kv_in
          rw [ev]
          simp only [gq_lt]
          by_cases a3 : k_X7_in x3 0 200 = true
          · rw [if_pos a3, if_pos a3]
            have e : k_X1_setCell (gF_gues F) 7 x2 x3 = ((gF_gues F).2.2.2.2.2.2.1.1 (gq_ix x2), ((gF_gues F).1, (gF_gues F).2.1, (gF_gues F).2.2.1, (gF_gues F).2.2.2.1, (gF_gues F).2.2.2.2.1, (gF_gues F).2.2.2.2.2.1, (upd (gF_gues F).2.2.2.2.2.2.1.1 (gq_ix x2) x3, (gF_gues F).2.2.2.2.2.2.1.2), (gF_gues F).2.2.2.2.2.2.2)) := by
              refine (show k_X1_setCell (gF_gues F) 7 x2 x3 = gq_lt (k_X2_set 4 (gF_gues F).2.2.2.2.2.2.1 x2 x3) (fun q => (q.1, ((gF_gues F).1, (gF_gues F).2.1, (gF_gues F).2.2.1, (gF_gues F).2.2.2.1, (gF_gues F).2.2.2.2.1, (gF_gues F).2.2.2.2.2.1, q.2, (gF_gues F).2.2.2.2.2.2.2))) from rfl).trans ?_
              rw [rp2_set r2 r1 (by decide) b]
              rfl
            have et : k_X7_tableOf M 7 x2 = mg_returns M (gq_ix x2) := by
              refine (show k_X7_tableOf M 7 x2 = (if k_X7_in x2 0 ((mg_returned M) - 1) = true then (mg_returns M) (gq_ix x2) else -1) from rfl).trans ?_
              rw [r3, if_pos ((rl_in (by omega)).mpr b)]
            rw [e, et]
            simp only [RelB, gfr_gues, mfr_returns]
            refine ⟨(r4 _ (mv_ix b)).1, h1, h2, h3, h4, ⟨r, r1, r2, r3, fun j hj => ?_⟩, h6⟩
            show upd (gF_gues F).2.2.2.2.2.2.1.1 (gq_ix x2) x3 j = upd (mg_returns M) (gq_ix x2) x3 j ∧ ¬ upd (mg_returns M) (gq_ix x2) x3 j = -1
            unfold upd
            by_cases ej : j = gq_ix x2
            · rw [if_pos ej, if_pos ej]; exact ⟨rfl, rl_neg a3⟩
            · rw [if_neg ej, if_neg ej]; exact r4 j hj
          · rw [if_neg a3, if_neg a3]; exact ⟨rfl, hh⟩
        · rw [if_neg (fun q => b ((rl_in (by omega)).mp q))]
          have hb : ¬ x2 < nI r := by
            obtain ⟨j, hj, rfl⟩ := vp_in_of v (by decide)
            exact nI_nlt (Nat.not_lt.mp fun q => b (vp_in_nI q (by omega))) (by omega)
          rw [if_neg hb]; exact ⟨rfl, hh⟩
    · rw [if_neg hp, if_neg hp]; exact ⟨rfl, h⟩
  · rw [if_neg a1, if_neg a1]; exact ⟨rfl, h⟩
set_option maxHeartbeats 100000 in
theorem rel_start : RelB 0 gi_F gi_M := by
  obtain ⟨k1, k2, k3⟩ := rt_first gi_U0 gi_M0
  have n0 : ∀ {P : Nat → Prop}, ∀ j, j < 0 → P j := fun j hj => absurd hj (Nat.not_lt_zero _)
  have z8 : ∀ n, 0 < n → n < 1000 → vp_in (0 : Int32) n := fun n h h2 => vp_in_nI (n := 0) h (by omega)
  unfold RelB gi_M
  simp only [mk_first gi_M0]
  refine ⟨⟨⟨0, by omega, rfl, rfl, n0⟩, fun j _ => z8 8 (by omega) (by omega), fun j _ => z8 8 (by omega) (by omega)⟩, ⟨fun j _ => rfl, fun j _ => rfl, 0, by omega, rfl, rfl, n0⟩, k1, k2, ⟨0, by omega, rfl, rfl, n0⟩, RQ_mk0 (f := 0) (n := 0) (d := 3) (by omega) (by omega) (by omega) (by omega) rfl rfl rfl rfl rfl, ⟨fun j _ => z8 60 (by omega) (by omega), fun j _ => z8 16 (by omega) (by omega), fun j _ => z8 5 (by omega) (by omega)⟩, fun j _ _ => rfl, ⟨0, by omega, by omega, rfl, rfl, fun j hj => absurd hj (by simp)⟩, ⟨rfl, z8 4 (by omega) (by omega), rfl, rfl⟩, rfl, ⟨fun q => (by cases q), fun q => absurd q (by decide)⟩, fun _ => rfl⟩