/-! the other calls that only ask: value, table, count -/
theorem rl_inN {n : Nat} {x hi : Int32} (hh : hi = nI n - 1) (hn : n < 2 ^ 30) : k_X7_in x 0 hi = true ↔ vp_in x n := by rw [hh]; exact rl_in hn
theorem rc_has {S : gs_C} {x : Int32} : k_X0_hasCell S x = true ↔ vp_in x 24 := by
  unfold k_X0_hasCell
  rw [vp_in_iff]
  by_cases h1 : x < 0
  · rw [if_pos h1]
    rw [rl_lt0] at h1
    constructor
    · intro h; cases h
    · intro h; omega
  · rw [if_neg h1]
    rw [rl_lt0] at h1
    by_cases h2 : 24 ≤ x
    · rw [if_pos h2]
      have h2 : nI 24 ≤ x := h2
      rw [rl_le (by decide)] at h2
      constructor
      · intro h; cases h
      · intro h; omega
    · rw [if_neg h2]
      have h2 : ¬ nI 24 ≤ x := h2
      rw [rl_le (by decide)] at h2
      constructor
      · intro _; omega
      · intro _; rfl
theorem rc_cell {C : gs_C} {M : gs_M} {x : Int32} (hC : RCg C (mg_registers M) (mg_memory M) (mg_stack M) (mg_deep M)) (hx : vp_in x 24) : (k_X0_cell C x).toInt64 = k_X7_valueOf M x := by
  obtain ⟨c1, c2, -⟩ := hC
  unfold k_X0_cell k_X7_valueOf
  by_cases h8 : 8 ≤ x
  · rw [if_pos h8, if_pos h8, rg_in (mv_hi hx h8) (by decide), c2 _ (mv_ix (mv_hi hx h8))]
  · rw [if_neg h8, if_neg h8, rg_in (mv_lo hx h8) (by decide), c1 _ (mv_ix (mv_lo hx h8))]
theorem rh_value {B : Nat} {F : gs_F} {M : gs_M} (x : Int32) (h : RelB B F M) : k_X6_value F x = k_X7_value M x := by
  unfold k_X6_value k_X7_value
  by_cases hx : vp_in x 24
  · rw [if_pos (rc_has.mpr hx), if_pos ((rl_inN (n := 24) (by decide) (by decide)).mpr hx)]
    exact rc_cell h.2.1 hx
  · rw [if_neg (fun q => hx (rc_has.mp q)), if_neg (fun q => hx ((rl_inN (n := 24) (by decide) (by decide)).mp q))]
theorem rl_9 {x : Int32} (h : k_X7_in x 0 8 = true) : x = 0 ∨ x = 1 ∨ x = 2 ∨ x = 3 ∨ x = 4 ∨ x = 5 ∨ x = 6 ∨ x = 7 ∨ x = 8 := by
  obtain ⟨i, hi, rfl⟩ := vp_in_of ((rl_inN (n := 9) (by decide) (by decide)).mp h) (by decide)
  have : ∀ i, i < 9 → nI i = 0 ∨ nI i = 1 ∨ nI i = 2 ∨ nI i = 3 ∨ nI i = 4 ∨ nI i = 5 ∨ nI i = 6 ∨ nI i = 7 ∨ nI i = 8 := by decide
  exact this i hi
theorem rl_8 {x : Int32} (h : k_X7_in x 0 7 = true) : x = 0 ∨ x = 1 ∨ x = 2 ∨ x = 3 ∨ x = 4 ∨ x = 5 ∨ x = 6 ∨ x = 7 := by
  obtain ⟨i, hi, rfl⟩ := vp_in_of ((rl_inN (n := 8) (by decide) (by decide)).mp h) (by decide)
  have : ∀ i, i < 8 → nI i = 0 ∨ nI i = 1 ∨ nI i = 2 ∨ nI i = 3 ∨ nI i = 4 ∨ nI i = 5 ∨ nI i = 6 ∨ nI i = 7 := by decide
  exact this i hi
theorem rb_self {b : Bool} : (if b = true then true else false) = b := by cases b <;> rfl
theorem rt_place {M : gs_M} {x y : Int32} (h : x = 0 ∨ x = 1 ∨ x = 2 ∨ x = 3 ∨ x = 4 ∨ x = 5 ∨ x = 6 ∨ x = 7 ∨ x = 8) : k_X6_isTablePlace x y = k_X7_isPlace M x y := by
  rcases h with rfl | rfl | rfl | rfl | rfl | rfl | rfl | rfl | rfl
  · exact (show k_X6_isTablePlace 0 y = k_X6_isWithin y 0 15 from rfl).trans (kv_in.trans (show k_X7_in y 0 15 = k_X7_isPlace M 0 y from rfl))
  · exact (show k_X6_isTablePlace 1 y = k_X6_isWithin y 0 15 from rfl).trans (kv_in.trans (show k_X7_in y 0 15 = k_X7_isPlace M 1 y from rfl))
  · exact (show k_X6_isTablePlace 2 y = k_X6_isWithin y 0 15 from rfl).trans (kv_in.trans (show k_X7_in y 0 15 = k_X7_isPlace M 2 y from rfl))
  · exact (show k_X6_isTablePlace 3 y = k_X6_isWithin y 0 7 from rfl).trans (kv_in.trans (show k_X7_in y 0 7 = k_X7_isPlace M 3 y from rfl))
  · exact (show k_X6_isTablePlace 4 y = k_X6_isWithin y 0 7 from rfl).trans (kv_in.trans (show k_X7_in y 0 7 = k_X7_isPlace M 4 y from rfl))
  · exact (show k_X6_isTablePlace 5 y = k_X6_isWithin y 0 7 from rfl).trans (kv_in.trans (show k_X7_in y 0 7 = k_X7_isPlace M 5 y from rfl))
  · rfl
  · exact (show k_X6_isTablePlace 7 y = k_X6_isWithin y 0 3 from rfl).trans (kv_in.trans (rb_self.symm.trans (show (if k_X7_in y 0 3 = true then true else false) = k_X7_isPlace M 7 y from rfl)))
  · rfl
theorem rt_p16 {M : gs_M} {x y : Int32} (h : x = 0 ∨ x = 1 ∨ x = 2) (hp : k_X7_isPlace M x y = true) : vp_in y 16 := (mv_place hp).1 h
theorem rt_p8 {M : gs_M} {x y : Int32} (h : x = 3 ∨ x = 4 ∨ x = 5) (hp : k_X7_isPlace M x y = true) : vp_in y 8 := (mv_place hp).2.1 h
theorem rt_cell {B : Nat} {F : gs_F} {M : gs_M} {x y : Int32} (h : RelB B F M) (hx : x = 0 ∨ x = 1 ∨ x = 2 ∨ x = 3 ∨ x = 4 ∨ x = 5 ∨ x = 6 ∨ x = 7 ∨ x = 8) (hp : k_X7_isPlace M x y = true) : k_X1_cell (gF_gues F) x y = k_X7_tableOf M x y := by
  obtain ⟨-, -, ⟨t1, t2, t3, t4, t5, t6⟩, ⟨hh, -⟩, ⟨r, r1, r2, r3, r4⟩, -⟩ := h
  rcases hx with rfl | rfl | rfl | rfl | rfl | rfl | rfl | rfl | rfl
  · have v := rt_p16 (Or.inl rfl) hp
    refine (show k_X1_cell (gF_gues F) 0 y = k_X5_get 16 (gF_gues F).1 y from rfl).trans ?_
    rw [rg_in v (by decide)]
    exact (t1 _ (mv_ix v)).1
  · have v := rt_p16 (Or.inr (Or.inl rfl)) hp
    refine (show k_X1_cell (gF_gues F) 1 y = k_X5_get 16 (gF_gues F).2.1 y from rfl).trans ?_
    rw [rg_in v (by decide)]
    exact (t2 _ (mv_ix v)).1
  · have v := rt_p16 (Or.inr (Or.inr rfl)) hp
    refine (show k_X1_cell (gF_gues F) 2 y = k_X5_get 16 (gF_gues F).2.2.1 y from rfl).trans ?_
    rw [rg_in v (by decide)]
    exact (t3 _ (mv_ix v)).1
  · have v := rt_p8 (Or.inl rfl) hp
    refine (show k_X1_cell (gF_gues F) 3 y = k_X5_get 8 (gF_gues F).2.2.2.1 y from rfl).trans ?_
    rw [rg_in v (by decide)]
    exact t4 _ (mv_ix v)
  · have v := rt_p8 (Or.inr (Or.inl rfl)) hp
    refine (show k_X1_cell (gF_gues F) 4 y = k_X5_get 8 (gF_gues F).2.2.2.2.1 y from rfl).trans ?_
    rw [rg_in v (by decide)]
    exact t5 _ (mv_ix v)
  · have v := rt_p8 (Or.inr (Or.inr rfl)) hp
    refine (show k_X1_cell (gF_gues F) 5 y = k_X5_get 8 (gF_gues F).2.2.2.2.2.1 y from rfl).trans ?_
    rw [rg_in v (by decide)]
    exact t6 _ (mv_ix v)
  · exact hh
  · refine (show k_X1_cell (gF_gues F) 7 y = k_X2_get 4 (gF_gues F).2.2.2.2.2.2.1 y from rfl).trans (Eq.trans ?_ (show (if k_X7_in y 0 ((mg_returned M) - 1) = true then (mg_returns M) (gq_ix y) else -1) = k_X7_tableOf M 7 y from rfl))
    rw [r3]
    by_cases hv : vp_in y r
    · rw [if_pos ((rl_in (by omega)).mpr hv), rp2_in r2 r1 (by decide) hv]
      exact (r4 _ (mv_ix hv)).1
    · rw [if_neg (fun q => hv ((rl_in (by omega)).mp q)), rp2_out r2 r1 (by decide) hv]
  · exact r2.trans r3.symm
theorem rh_table {B : Nat} {F : gs_F} {M : gs_M} (x y : Int32) (h : RelB B F M) : k_X6_table F x y = k_X7_table M x y := by
  unfold k_X6_table k_X7_table
  rw [kv_in]
  by_cases hx : k_X7_in x 0 8 = true
  · rw [if_pos hx, if_pos hx, rt_place (M := M) (rl_9 hx)]
    by_cases hp : k_X7_isPlace M x y = true
    · rw [if_pos hp, if_pos hp]
      exact rt_cell h (rl_9 hx) hp
    · rw [if_neg hp, if_neg hp]
  · rw [if_neg hx, if_neg hx]
theorem rn_get {cF cM : gs_R} (h : RNg cF cM) {x : Int32} (hx : vp_in x 15) (h9 : ¬ x = 9) (h10 : ¬ x = 10) (h11 : ¬ x = 11) : k_X5_get 18 cF x = cM (gq_ix x) := by
  rw [rg_in (mv_le (n := 15) (k := 18) hx (by decide)) (by decide)]
  refine h _ (mv_ix hx) ?_
  obtain ⟨j, hj, rfl⟩ := vp_in_of hx (by decide)
  rw [gq_cl (by omega)]
  by_cases a : j = 9
  · subst a; exact absurd rfl h9
  by_cases b : j = 10
  · subst b; exact absurd rfl h10
  by_cases c : j = 11
  · subst c; exact absurd rfl h11
  omega
theorem rh_count {B : Nat} {F : gs_F} {M : gs_M} (x : Int32) (h : RelB B F M) : k_X6_count F x = k_X7_count M x := by
  obtain ⟨⟨⟨n, n1, n2, n3, n4⟩, -⟩, ⟨-, -, d, d1, d2, d3, d4⟩, -, -, -, ⟨f, q, n', dd, age, q1, q2, q3, q4, q5, q6, q7, q8, q9, q10, q11⟩, -, hN, -, ⟨w1, w2, w3, w4⟩, -⟩ := h
  unfold k_X6_count k_X7_count
  have key : ¬ x = 9 → ¬ x = 10 → ¬ x = 11 → (if k_X6_isWithin x 0 14 = true then k_X5_get 18 (gF_counts F) x else (-102)) = (if k_X7_in x 0 14 = true then (mg_counts M) (gq_ix x) else (-102)) := by
    intro h9 h10 h11
    rw [kv_in]
    by_cases hx : k_X7_in x 0 14 = true
    · rw [if_pos hx, if_pos hx]
      exact rn_get hN ((rl_inN (n := 15) (by decide) (by decide)).mp hx) h9 h10 h11
    · rw [if_neg hx, if_neg hx]
  by_cases h9 : x = 9
  · rw [if_pos h9, if_pos h9]; exact d2.trans d3.symm
  rw [if_neg h9, if_neg h9]
  by_cases h10 : x = 10
  · rw [if_pos h10, if_pos h10]; exact q7.trans q8.symm
  rw [if_neg h10, if_neg h10]
  by_cases h11 : x = 11
  · rw [if_pos h11, if_pos h11]; exact w4
  rw [if_neg h11, if_neg h11]
  have key := key h9 h10 h11
  by_cases h12 : x = 12
  · rw [if_pos h12, if_pos h12]; exact key
  rw [if_neg h12, if_neg h12]
  by_cases h13 : x = 13
  · rw [if_pos h13, if_pos h13]; exact key
  rw [if_neg h13, if_neg h13]
  by_cases h14 : x = 14
  · rw [if_pos h14, if_pos h14]; exact key
  rw [if_neg h14, if_neg h14]
  by_cases h15 : x = 15
  · rw [if_pos h15, if_pos h15]; exact n2.trans n3.symm
  rw [if_neg h15, if_neg h15]
  by_cases h16 : x = 16
  · rw [if_pos h16, if_pos h16]; exact w1
  rw [if_neg h16, if_neg h16]
  by_cases h17 : x = 17
  · rw [if_pos h17, if_pos h17]; exact w3
  rw [if_neg h17, if_neg h17]
  exact key
/-! calls that change little: way, wipe, put, stop -/
theorem RQ_0 {Q : gs_Q} {fetched : Int32} {fA fG fC fH fR fS : gs_R} {acts depth c : Int32} (h : RQg Q fetched fA fG fC fH fR fS acts depth c) (h0 : fetched = 0) : ∃ f n d : Nat, f < 6 ∧ n ≤ 60 ∧ 1 ≤ d ∧ d ≤ 6 ∧ Q.2.2.2.2.2.2.1 = nI f ∧ Q.2.2.2.2.2.2.2 = nI 0 ∧ acts = nI n ∧ depth = nI d := by
  obtain ⟨f, q, n, d, age, q1, q2, q3, q4, q5, q6, q7, q8, q9, q10, q11⟩ := h
  have hq : q = 0 := by
    rw [q8] at h0
    exact (nI_eq (b := 0) (by omega) (by omega)).mp h0
  subst hq
  exact ⟨f, n, d, q1, q5, q4, q3, q6, q7, q9, q10⟩
theorem RQ_mk0 {Q : gs_Q} {fetched : Int32} {fA fG fC fH fR fS : gs_R} {acts depth c : Int32} {f n d : Nat} (h1 : f < 6) (h2 : n ≤ 60) (h3 : 1 ≤ d) (h4 : d ≤ 6) (h5 : Q.2.2.2.2.2.2.1 = nI f) (h6 : Q.2.2.2.2.2.2.2 = nI 0) (h7 : acts = nI n) (h8 : depth = nI d) (h9 : fetched = nI 0) : RQg Q fetched fA fG fC fH fR fS acts depth c :=
  ⟨f, 0, n, d, fun _ => 0, h1, Nat.zero_le _, h4, h3, h2, h5, h6, h9, h7, h8, fun j hj => absurd hj (Nat.not_lt_zero _)⟩
theorem RelB.rest {B : Nat} {F : gs_F} {M : gs_M} (h : RelB B F M) (hr : ¬ mg_runs M = true) : mg_fetched M = 0 := by
  obtain ⟨-, -, -, -, -, -, -, -, -, -, -, -, h3⟩ := h
  exact h3 (by cases hm : mg_runs M with
    | true => exact absurd hm hr
    | false => rfl)
theorem rh_way {B : Nat} {F : gs_F} {M : gs_M} (x y : Int32) (h : RelB B F M) : (k_X6_way F x y).1 = (k_X7_way M x y).1 ∧ RelB B (k_X6_way F x y).2 (k_X7_way M x y).2 := by
  unfold k_X6_way k_X7_way
  rw [kv_in, kv_in, h.runs]
  by_cases hx : k_X7_in x 0 3 = true
  · rw [if_pos hx, if_pos hx]
    by_cases hy : k_X7_in y 1 6 = true
    · rw [if_pos hy, if_pos hy]
      by_cases hr : mg_runs M = true
      · rw [if_pos hr, if_pos hr]; exact ⟨rfl, h⟩
      · rw [if_neg hr, if_neg hr]
        have h0 := h.rest hr
        obtain ⟨h1, h2, h3, h4, h5, h6, h7, h8, h9, ⟨w1, w2, w3, w4⟩, h11⟩ := h
        obtain ⟨f, n, d, q1, q2, q3, q4, q5, q6, q7, q8⟩ := RQ_0 h6 h0
        have hv : vp_in x 4 := (rl_inN (n := 4) (by decide) (by decide)).mp hx
        obtain ⟨d', e1, e2, e3⟩ : ∃ d' : Nat, 1 ≤ d' ∧ d' ≤ 6 ∧ y = nI d' := by
          have hy' := rl_inb.mp hy
          have a1 : (1 : Int32).toInt = 1 := by decide
          have a6 : (6 : Int32).toInt = 6 := by decide
          obtain ⟨j, hj, rfl⟩ := vp_in_of (x := y) (n := 7) (vp_in_iff.mpr (by omega)) (by decide)
          rw [nI_toInt (by omega)] at hy'
          exact ⟨j, by omega, by omega, rfl⟩
        refine ⟨rfl, ?_⟩
        simp only [RelB, gq_lt, gfr_way, gfr_depth, mfr_way, mfr_depth]
        exact ⟨h1, h2, h3, h4, h5, RQ_mk0 q1 q2 e1 e2 q5 q6 q7 e3 h0, h7, h8, h9, ⟨rfl, hv, rfl, w4⟩, h11⟩
    · rw [if_neg hy, if_neg hy]; exact ⟨rfl, h⟩
  · rw [if_neg hx, if_neg hx]; exact ⟨rfl, h⟩
theorem rh_wipe {B : Nat} {F : gs_F} {M : gs_M} (h : RelB B F M) : (k_X6_wipe F).1 = (k_X7_wipe M).1 ∧ RelB B (k_X6_wipe F).2 (k_X7_wipe M).2 := by
  unfold k_X6_wipe k_X7_wipe
  rw [h.runs]
  by_cases hr : mg_runs M = true
  · rw [if_pos hr, if_pos hr]; exact ⟨rfl, h⟩
  · rw [if_neg hr, if_neg hr]
    have h0 := h.rest hr
    obtain ⟨⟨⟨n, n1, n2, n3, n4⟩, n5⟩, h2, h3, h4, h5, h6, h7, h8, h9, h10, h11⟩ := h
    obtain ⟨f, n', d, q1, q2, q3, q4, q5, q6, q7, q8⟩ := RQ_0 h6 h0
    refine ⟨n2.trans n3.symm, ?_⟩
    simp only [RelB, k_X3_clear, gq_lt, gfr_prog, mfr_acts]
    exact ⟨⟨⟨0, by omega, rfl, rfl, fun j hj => absurd hj (Nat.not_lt_zero _)⟩, n5⟩, h2, h3, h4, h5, RQ_mk0 (n := 0) q1 (by omega) q3 q4 q5 q6 rfl q8 h0, h7, h8, h9, h10, h11⟩
theorem up_eq {f g : gs_R} {n k : Nat} {x : Int32} (h : ∀ j, j < n → f j = g j) : ∀ j, j < n → upd f k x j = upd g k x j := by
  intro j hj
  unfold upd
  by_cases e : j = k
  · rw [if_pos e, if_pos e]
  · rw [if_neg e, if_neg e]; exact h j hj
theorem up_in {f : gs_R} {n k m : Nat} {x : Int32} (h : ∀ j, j < n → vp_in (f j) m) (hx : vp_in x m) : ∀ j, j < n → vp_in (upd f k x j) m := by
  intro j hj
  unfold upd
  by_cases e : j = k
  · rw [if_pos e]; exact hx
  · rw [if_neg e]; exact h j hj
theorem up_both {f g : gs_R} {n k m : Nat} {x : Int32} (h : ∀ j, j < n → f j = g j ∧ vp_in (g j) m) (hx : vp_in x m) : ∀ j, j < n → upd f k x j = upd g k x j ∧ vp_in (upd g k x j) m := fun j hj => ⟨up_eq (fun i hi => (h i hi).1) j hj, up_in (fun i hi => (h i hi).2) hx j hj⟩
theorem rh_put {B : Nat} {F : gs_F} {M : gs_M} (x y : Int32) (h : RelB B F M) : (k_X6_put F x y).1 = (k_X7_put M x y).1 ∧ RelB B (k_X6_put F x y).2 (k_X7_put M x y).2 := by
  unfold k_X6_put k_X7_put
  rw [h.runs]
  by_cases hx : vp_in x 24
  · rw [if_pos (rc_has.mpr hx), if_pos ((rl_inN (n := 24) (by decide) (by decide)).mpr hx)]
    by_cases hr : mg_runs M = true
    · rw [if_pos hr, if_pos hr]; exact ⟨rfl, h⟩
    · rw [if_neg hr, if_neg hr]
      obtain ⟨h1, ⟨c1, c2, c3⟩, h3⟩ := h
      by_cases h8 : 8 ≤ x
      · have v := mv_hi hx h8
        simp only [RelB, k_X0_setCell, k_X7_valueOf, gq_lt, if_pos h8, rs_in v (by decide), gfr_core, mfr_memory]
        exact ⟨by rw [c2 _ (mv_ix v)], h1, ⟨c1, up_eq c2, c3⟩, h3⟩
      · have v := mv_lo hx h8
        simp only [RelB, k_X0_setCell, k_X7_valueOf, gq_lt, if_neg h8, rs_in v (by decide), gfr_core, mfr_registers]
        exact ⟨by rw [c1 _ (mv_ix v)], h1, ⟨up_eq c1, c2, c3⟩, h3⟩
  · rw [if_neg (fun q => hx (rc_has.mp q)), if_neg (fun q => hx ((rl_inN (n := 24) (by decide) (by decide)).mp q))]
    exact ⟨rfl, h⟩
