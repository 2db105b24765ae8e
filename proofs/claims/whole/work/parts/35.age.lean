/-! a cycle: how old the fetched actions are -/
theorem ri_inv (c x : Int32) : c - (c - x) = x := by
  have h : c - x + x = c := Int32.sub_add_cancel c x
  have e : c - (c - x) = (c - x + x) - (c - x) := by rw [h]
  rw [e, Int32.add_comm (c - x) x, Int32.add_sub_cancel]
theorem ri_step (c y : Int32) : c - y = c + 1 - (y + 1) := by
  have h : c - y + y = c := Int32.sub_add_cancel c y
  have e : c + 1 = (c - y) + (y + 1) := by rw [← Int32.add_assoc, h]
  rw [e, Int32.add_sub_cancel]
theorem ri_old {c : Int32} {a d : Nat} (ha : a < 100) (hd : d < 100) : c - nI a + nI d = c ↔ a = d := by
  constructor
  · intro h
    have h2 : c - nI a + nI d - nI d = c - nI a := Int32.add_sub_cancel (c - nI a) (nI d)
    rw [h] at h2
    have h3 : c - (c - nI d) = c - (c - nI a) := by rw [h2]
    rw [ri_inv, ri_inv] at h3
    exact ((nI_eq (by omega) (by omega)).mp h3).symm
  · rintro rfl
    exact Int32.sub_add_cancel c (nI a)
/-- as RQg, in a cycle: before the eldest is looked at -/
def RQt (Q : gs_Q) (fetched : Int32) (fA fG fC fH fR fS : gs_R) (acts depth c : Int32) : Prop := ∃ (f q n d : Nat) (age : Nat → Nat), f < 6 ∧ q ≤ d ∧ d ≤ 6 ∧ 1 ≤ d ∧ n ≤ 60 ∧ Q.2.2.2.2.2.2.1 = nI f ∧ Q.2.2.2.2.2.2.2 = nI q ∧ fetched = nI q ∧ acts = nI n ∧ depth = nI d ∧ (∀ j, j < q → RQs Q ((f + j) % 6) j fA fG fC fH fR fS ∧ (∃ a : Nat, a < n ∧ fA j = nI a) ∧ fC j = c - nI (age j) ∧ age j ≤ d ∧ 1 ≤ age j ∧ ∀ i, i ≤ j → age j + j ≤ age i + i)
theorem rqt_of {Q : gs_Q} {fe acts depth c : Int32} {fA fG fC fH fR fS : gs_R} (h : RQg Q fe fA fG fC fH fR fS acts depth c) : RQt Q fe fA fG fC fH fR fS acts depth (c + 1) := by
  obtain ⟨f, q, n, d, age, q1, q2, q3, q4, q5, q6, q7, q8, q9, q10, q11⟩ := h
  obtain ⟨age', ha⟩ : ∃ age' : Nat → Nat, ∀ j, age' j = age j + 1 := ⟨fun j => age j + 1, fun _ => rfl⟩
  refine ⟨f, q, n, d, age', q1, q2, q3, q4, q5, q6, q7, q8, q9, q10, fun j hj => ?_⟩
  obtain ⟨a1, a2, a3, a4, a5⟩ := q11 j hj
  refine ⟨a1, a2, ?_, by rw [ha]; omega, by rw [ha]; omega, fun i hi => ?_⟩
  · rw [a3, ha, ← nI_1]; exact ri_step c (nI (age j))
  · have := a5 i hi
    rw [ha, ha]; omega
theorem rqt_young {Q : gs_Q} {fe acts depth c : Int32} {fA fG fC fH fR fS : gs_R} (h : RQt Q fe fA fG fC fH fR fS acts depth c) (hn : fe = 0 ∨ ¬ fC 0 + depth = c) : RQg Q fe fA fG fC fH fR fS acts depth c ∧ RQp Q fe fA fG fC fH fR fS acts depth c := by
  obtain ⟨f, q, n, d, age, q1, q2, q3, q4, q5, q6, q7, q8, q9, q10, q11⟩ := h
  have hy : q = 0 ∨ age 0 < d := by
    rcases Nat.eq_zero_or_pos q with z | z
    · exact Or.inl z
    · right
      obtain ⟨-, -, a3, a4, -⟩ := q11 0 z
      rcases hn with e | e
      · rw [q8] at e; exact absurd e (nI_ne0 (by omega) (by omega))
      · rcases Nat.lt_or_ge (age 0) d with w | w
        · exact w
        · exfalso
          apply e
          rw [a3, q10]
          exact (ri_old (by omega) (by omega)).mpr (by omega)
  have hq1 : q + 1 ≤ d := by
    rcases Nat.eq_zero_or_pos q with w | w
    · omega
    · obtain ⟨-, -, -, -, b5, b6⟩ := q11 (q - 1) (by omega)
      have := b6 0 (by omega)
      omega
  have hl : ∀ j, j < q → age j < d := fun j hj => by
    obtain ⟨-, -, -, -, -, b6⟩ := q11 j hj
    have := b6 0 (by omega)
    omega
  refine ⟨⟨f, q, n, d, age, q1, q2, q3, q4, q5, q6, q7, q8, q9, q10, fun j hj => ?_⟩, f, q, n, d, age, q1, hq1, q3, q5, q6, q7, q8, q9, q10, fun j hj => ?_⟩
  · obtain ⟨a1, a2, a3, a4, a5, a6⟩ := q11 j hj
    exact ⟨a1, a2, a3, hl j hj, a6⟩
  · obtain ⟨a1, a2, a3, a4, a5, a6⟩ := q11 j hj
    exact ⟨a1, a2, a3, hl j hj, a5, a6⟩
theorem rqp_0 {Q : gs_Q} {fe acts depth c : Int32} {fA fG fC fH fR fS : gs_R} (h : RQg Q fe fA fG fC fH fR fS acts depth c) (h0 : fe = 0) : RQp Q fe fA fG fC fH fR fS acts depth c := by
  obtain ⟨f, q, n, d, age, q1, q2, q3, q4, q5, q6, q7, q8, q9, q10, q11⟩ := h
  have z : q = 0 := by
    rcases Nat.eq_zero_or_pos q with z | z
    · exact z
    · rw [q8] at h0; exact absurd h0 (nI_ne0 (by omega) (by omega))
  subst z
  exact ⟨f, 0, n, d, age, q1, by omega, q3, q5, q6, q7, q8, q9, q10, fun j hj => absurd hj (Nat.not_lt_zero _)⟩
theorem rqp_g {Q : gs_Q} {fe acts depth c : Int32} {fA fG fC fH fR fS : gs_R} (h : RQp Q fe fA fG fC fH fR fS acts depth c) : RQg Q fe fA fG fC fH fR fS acts depth c := by
  obtain ⟨f, q, n, d, age, q1, q2, q3, q5, q6, q7, q8, q9, q10, q11⟩ := h
  refine ⟨f, q, n, d, age, q1, by omega, q3, by omega, q5, q6, q7, q8, q9, q10, fun j hj => ?_⟩
  obtain ⟨a1, a2, a3, a4, a5, a6⟩ := q11 j hj
  exact ⟨a1, a2, a3, a4, a6⟩
set_option maxHeartbeats 400000 in
theorem rqt_eldest {Q : gs_Q} {fe acts depth c : Int32} {fA fG fC fH fR fS : gs_R} (h : RQt Q fe fA fG fC fH fR fS acts depth c) : k_X4_isEldestOf Q (c - depth) = true ↔ (¬ fe = 0 ∧ fC 0 + depth = c) := by
  obtain ⟨f, q, n, d, age, q1, q2, q3, q4, q5, q6, q7, q8, q9, q10, q11⟩ := h
  unfold k_X4_isEldestOf
  rw [q7]
  rcases Nat.eq_zero_or_pos q with z | z
  · subst z
    rw [if_pos (show nI 0 ≤ 0 by decide)]
    constructor
    · intro h; cases h
    · rintro ⟨h, -⟩; exact absurd (q8.trans (show nI 0 = 0 by decide)) h
  · rw [if_neg (show ¬ nI q ≤ 0 from nI_nle (by omega) (by omega)), q6, rg_in (vp_in_nI q1 (by decide)) (by decide), gq_cl (by omega)]
    obtain ⟨⟨-, -, b3, -⟩, -, a3, a4, a5, -⟩ := q11 0 z
    have ef : (f + 0) % 6 = f := by omega
    rw [ef] at b3
    rw [b3, q8, q10]
    have n0 : ¬ nI q = 0 := nI_ne0 (by omega) (by omega)
    by_cases e : age 0 = d
    · rw [if_pos (show fC 0 = c - nI d by rw [a3, e])]
      exact ⟨fun _ => ⟨n0, by rw [a3]; exact (ri_old (by omega) (by omega)).mpr e⟩, fun _ => rfl⟩
    · have ne : ¬ fC 0 = c - nI d := fun w => by
        have w2 : c - (c - nI (age 0)) = c - (c - nI d) := by rw [← a3, w]
        rw [ri_inv, ri_inv] at w2
        exact e ((nI_eq (by omega) (by omega)).mp w2)
      rw [if_neg ne]
      exact ⟨fun w => (by cases w), fun w => absurd ((ri_old (by omega) (by omega)).mp (by rw [← a3]; exact w.2)) e⟩
