/-! digest -/
def RM (B : Nat) (F : gs_F) (s : gs_M) (g : Int64) : Prop := RelB B F s ∧ mg_h s = g
set_option maxHeartbeats 400000 in
theorem rm_mix {B : Nat} {F : gs_F} {s : gs_M} {g v w : Int64} (h : RM B F s g) (e : v = w) : RM B F (k_X7_mix s v) (31 * g + w) := by
  obtain ⟨h1, h2⟩ := h
  refine ⟨?_, ?_⟩
  · simp only [RelB, mk_mix]; exact h1
  · unfold k_X7_mix
    simp only [gq_lt, mfr_h]
    rw [h2, e]
theorem rm_it {B N : Nat} {F : gs_F} {f : Nat → Int64 → Int64} {m : Nat → gs_M → gs_M} (st : ∀ i s g, i < N → RM B F s g → RM B F (m i s) (f i g)) {s : gs_M} {g : Int64} (h : RM B F s g) : RM B F (gq_it m 0 s N) (gq_it f 0 g N) := by
  have key : ∀ i, i ≤ N → RM B F (gq_it m 0 s i) (gq_it f 0 g i) := by
    intro i
    induction i with
    | zero => intro _; exact h
    | succ i ih =>
      intro hi
      rw [gq_it_s m s (Nat.zero_le i), gq_it_s f g (Nat.zero_le i)]
      exact st i _ _ (by omega) (ih (by omega))
  exact key N (Nat.le_refl _)
theorem rm_told {B : Nat} {F : gs_F} {s : gs_M} {g : Int64} (h : RM B F s g) (x y : Int32) : RM B F (k_X7_mix s ((k_X7_told s x y).toInt64)) (31 * g + (k_X6_told F x y).toInt64) := rm_mix h (by rw [rh_told x y h.1])
theorem rm_1 {B : Nat} {F : gs_F} (M : gs_M) (i : Nat) {s : gs_M} {g : Int64} (h : RM B F s g) : RM B F (kb_X7_digest_9 M i s) (kb_X6_digest_6 F i g) := by
  have a := rm_told (rm_told (rm_told (rm_told h (nI i) 0) (nI i) 1) (nI i) 2) (nI i) 3
  unfold kb_X7_digest_9 kb_X6_digest_6
  simp only [gq_lt]
  exact a
theorem rm_2 {B : Nat} {F : gs_F} (M : gs_M) (i : Nat) (hi : i < 24) {s : gs_M} {g : Int64} (h : RM B F s g) : RM B F (kb_X7_digest_49 M i s) (kb_X6_digest_55 F i g) := by
  have e : k_X7_valueOf s (nI i) = k_X6_value F (nI i) := by
    rw [rh_value (nI i) h.1]
    unfold k_X7_value
    rw [if_pos ((rl_inN (n := 24) (by decide) (by decide)).mpr (vp_in_nI hi (by decide)))]
  unfold kb_X7_digest_49 kb_X6_digest_55
  simp only [gq_lt]
  exact rm_mix h e
theorem rm_3 {B : Nat} {F : gs_F} (M : gs_M) (i : Nat) (hi : i < gq_ix (k_X0_stackSize (gF_core F))) {s : gs_M} {g : Int64} (h : RM B F s g) : RM B F (kb_X7_digest_72 M i s) (kb_X6_digest_81 F i g) := by
  have e : mg_stack s (gq_ix (nI i)) = k_X6_stack F (nI i) := by
    rw [rh_stack (nI i) h.1]
    obtain ⟨-, ⟨-, -, d, d1, d2, d3, d4⟩, -⟩ := h.1
    rw [show k_X0_stackSize (gF_core F) = nI d from d2, gq_cl (by omega)] at hi
    unfold k_X7_stack
    rw [d3, if_pos ((rl_in (by omega)).mpr (vp_in_nI hi (by omega)))]
  unfold kb_X7_digest_72 kb_X6_digest_81
  simp only [gq_lt]
  exact rm_mix h (by rw [e])
theorem rm_tab {B : Nat} {F : gs_F} {s : gs_M} {w y : Int32} (h : RelB B F s) (hw : k_X7_in w 0 8 = true) (hp : k_X7_isPlace s w y = true) : k_X7_tableOf s w y = k_X6_table F w y := by
  rw [rh_table w y h]
  unfold k_X7_table
  rw [if_pos hw, if_pos hp]
theorem rm_p16 {i : Nat} (hi : i < 16) : k_X7_in (nI i) 0 15 = true := (rl_inN (n := 16) (by decide) (by decide)).mpr (vp_in_nI hi (by decide))
theorem rm_p8 {i : Nat} (hi : i < 8) : k_X7_in (nI i) 0 7 = true := (rl_inN (n := 8) (by decide) (by decide)).mpr (vp_in_nI hi (by decide))
theorem rm_p4 {i : Nat} (hi : i < 4) : k_X7_in (nI i) 0 3 = true := (rl_inN (n := 4) (by decide) (by decide)).mpr (vp_in_nI hi (by decide))
theorem rm_40 {B : Nat} {F : gs_F} (M : gs_M) (w1 : Int64) (i : Nat) (hi : i < 16) {s : gs_M} {g : Int64} (h : RM B F s g) : RM B F (kb_X7_digest_107 M i s) (kb_X6_digestOfTables_29 F w1 i g) := by
  have e := rm_tab (w := 0) (y := nI i) h.1 (by decide) (rm_p16 hi)
  unfold kb_X7_digest_107 kb_X6_digestOfTables_29
  simp only [gq_lt]
  exact rm_mix h (by rw [e])
theorem rm_41 {B : Nat} {F : gs_F} (M : gs_M) (w1 : Int64) (i : Nat) (hi : i < 16) {s : gs_M} {g : Int64} (h : RM B F s g) : RM B F (kb_X7_digest_107_1 M i s) (kb_X6_digestOfTables_29_1 F w1 i g) := by
  have e := rm_tab (w := 1) (y := nI i) h.1 (by decide) (rm_p16 hi)
  unfold kb_X7_digest_107_1 kb_X6_digestOfTables_29_1
  simp only [gq_lt]
  exact rm_mix h (by rw [e])
theorem rm_42 {B : Nat} {F : gs_F} (M : gs_M) (w1 : Int64) (i : Nat) (hi : i < 16) {s : gs_M} {g : Int64} (h : RM B F s g) : RM B F (kb_X7_digest_107_2 M i s) (kb_X6_digestOfTables_29_2 F w1 i g) := by
  have e := rm_tab (w := 2) (y := nI i) h.1 (by decide) (rm_p16 hi)
  unfold kb_X7_digest_107_2 kb_X6_digestOfTables_29_2
  simp only [gq_lt]
  exact rm_mix h (by rw [e])
theorem rm_43 {B : Nat} {F : gs_F} (M : gs_M) (w1 : Int64) (i : Nat) (hi : i < 8) {s : gs_M} {g : Int64} (h : RM B F s g) : RM B F (kb_X7_digest_107_3 M i s) (kb_X6_digestOfTables_29_3 F w1 i g) := by
  have e := rm_tab (w := 3) (y := nI i) h.1 (by decide) (rm_p8 hi)
  unfold kb_X7_digest_107_3 kb_X6_digestOfTables_29_3
  simp only [gq_lt]
  exact rm_mix h (by rw [e])
theorem rm_44 {B : Nat} {F : gs_F} (M : gs_M) (w1 : Int64) (i : Nat) (hi : i < 8) {s : gs_M} {g : Int64} (h : RM B F s g) : RM B F (kb_X7_digest_107_4 M i s) (kb_X6_digestOfTables_29_4 F w1 i g) := by
  have e := rm_tab (w := 4) (y := nI i) h.1 (by decide) (rm_p8 hi)
  unfold kb_X7_digest_107_4 kb_X6_digestOfTables_29_4
  simp only [gq_lt]
  exact rm_mix h (by rw [e])
theorem rm_45 {B : Nat} {F : gs_F} (M : gs_M) (w1 : Int64) (i : Nat) (hi : i < 8) {s : gs_M} {g : Int64} (h : RM B F s g) : RM B F (kb_X7_digest_107_5 M i s) (kb_X6_digestOfTables_29_5 F w1 i g) := by
  have e := rm_tab (w := 5) (y := nI i) h.1 (by decide) (rm_p8 hi)
  unfold kb_X7_digest_107_5 kb_X6_digestOfTables_29_5
  simp only [gq_lt]
  exact rm_mix h (by rw [e])
theorem rm_t6 {s : gs_M} {y : Int32} : k_X7_tableOf s 6 y = mg_history s := by
  unfold k_X7_tableOf
  rw [if_neg (by decide), if_neg (by decide), if_neg (by decide), if_neg (by decide), if_neg (by decide), if_neg (by decide), if_pos rfl]
theorem rm_t7 {s : gs_M} {y : Int32} : k_X7_tableOf s 7 y = if k_X7_in y 0 ((mg_returned s) - 1) = true then (mg_returns s) (gq_ix y) else (-1) := by
  unfold k_X7_tableOf
  rw [if_neg (by decide), if_neg (by decide), if_neg (by decide), if_neg (by decide), if_neg (by decide), if_neg (by decide), if_neg (by decide), if_pos rfl]
theorem rm_t8 {s : gs_M} {y : Int32} : k_X7_tableOf s 8 y = mg_returned s := by
  unfold k_X7_tableOf
  rw [if_neg (by decide), if_neg (by decide), if_neg (by decide), if_neg (by decide), if_neg (by decide), if_neg (by decide), if_neg (by decide), if_neg (by decide)]
theorem rm_6 {B : Nat} {F : gs_F} {s : gs_M} {g : Int64} (h : RM B F s g) : RM B F (k_X7_mix s ((mg_history s).toInt64)) (31 * g + (k_X6_table F 6 0).toInt64) := by
  have e := rm_tab (w := 6) (y := 0) h.1 (by decide) rfl
  rw [rm_t6] at e
  exact rm_mix h (by rw [e])
theorem rm_8 {B : Nat} {F : gs_F} {s : gs_M} {g : Int64} (h : RM B F s g) : RM B F (k_X7_mix s ((mg_returned s).toInt64)) (31 * g + (k_X6_table F 8 0).toInt64) := by
  have e := rm_tab (w := 8) (y := 0) h.1 (by decide) rfl
  rw [rm_t8] at e
  exact rm_mix h (by rw [e])
theorem rm_7 {B : Nat} {F : gs_F} (M : gs_M) (w1 : Int64) (i : Nat) (hi : i < gq_ix (k_X2_size 4 (gF_gues F).2.2.2.2.2.2.1)) {s : gs_M} {g : Int64} (h : RM B F s g) : RM B F (kb_X7_digest_166 M i s) (kb_X6_digestOfTables_97 F w1 i g) := by
  have e : mg_returns s (gq_ix (nI i)) = k_X6_table F 7 (nI i) := by
    obtain ⟨-, -, -, -, ⟨r, r1, r2, r3, r4⟩, -⟩ := h.1
    rw [show k_X2_size 4 (gF_gues F).2.2.2.2.2.2.1 = nI r from r2, gq_cl (by omega)] at hi
    have hp : k_X7_isPlace s 7 (nI i) = true := by
      show (if k_X7_in (nI i) 0 3 = true then true else false) = true
      rw [if_pos (rm_p4 (show i < 4 by omega))]
    have e0 := rm_tab (w := 7) (y := nI i) h.1 (by decide) hp
    rw [rm_t7, r3, if_pos ((rl_in (by omega)).mpr (vp_in_nI hi (by omega)))] at e0
    exact e0
  unfold kb_X7_digest_166 kb_X6_digestOfTables_97
  simp only [gq_lt]
  exact rm_mix h (by rw [e])
theorem rm_9 {B : Nat} {F : gs_F} (M : gs_M) (i : Nat) (hi : i < gq_ix (k_X4_size (gF_queue F))) {s : gs_M} {g : Int64} (h : RM B F s g) : RM B F (kb_X7_digest_193 M i s) (kb_X6_digest_119 F i g) := by
  have e : mg_fetchAt s (gq_ix (nI i)) = k_X6_fetched F (nI i) := by
    rw [rh_fetched (nI i) h.1]
    obtain ⟨-, -, -, -, -, ⟨f, q, n', dd, age, q1, q2, q3, q4, q5, q6, q7, q8, q9, q10, q11⟩, -⟩ := h.1
    rw [show k_X4_size (gF_queue F) = nI q from q7, gq_cl (by omega)] at hi
    unfold k_X7_fetched
    rw [q8, if_pos ((rl_in (by omega)).mpr (vp_in_nI hi (by omega)))]
  unfold kb_X7_digest_193 kb_X6_digest_119
  simp only [gq_lt]
  exact rm_mix h (by rw [e])
theorem rm_10 {B : Nat} {F : gs_F} (M : gs_M) (i : Nat) {s : gs_M} {g : Int64} (h : RM B F s g) : RM B F (kb_X7_digest_220 M i s) (kb_X6_digest_151 F i g) := by
  have e := rh_count (nI i) h.1
  unfold kb_X7_digest_220 kb_X6_digest_151
  simp only [gq_lt]
  exact rm_mix h (by rw [e])
def m_37 (M s : gs_M) : gs_M := gq_it (kb_X7_digest_107_5 M) 0 (gq_it (kb_X7_digest_107_4 M) 0 (gq_it (kb_X7_digest_107_3 M) 0 (gq_it (kb_X7_digest_107_2 M) 0 (gq_it (kb_X7_digest_107_1 M) 0 (gq_it (kb_X7_digest_107 M) 0 s 16) 16) 16) 8) 8) 8
def m_41 (s37 : gs_M) : gs_M := k_X7_mix s37 ((mg_history s37).toInt64)
def m_42 (s41 : gs_M) : gs_M := k_X7_mix s41 ((mg_returned s41).toInt64)
set_option maxHeartbeats 1000000 in
theorem rm_tabs {B : Nat} {F : gs_F} (M : gs_M) {s : gs_M} {g : Int64} (h : RM B F s g) : RM B F (gq_it (kb_X7_digest_166 M) 0 (m_42 (m_41 (m_37 M s))) (gq_ix (k_X2_size 4 (gF_gues F).2.2.2.2.2.2.1))) (k_X6_digestOfTables F g) := by
  have m1 := rm_it (N := 16) (f := kb_X6_digestOfTables_29 F g) (m := kb_X7_digest_107 M) (fun i s g' hi hs => rm_40 M g i hi hs) h
  have m2 := rm_it (N := 16) (f := kb_X6_digestOfTables_29_1 F g) (m := kb_X7_digest_107_1 M) (fun i s g' hi hs => rm_41 M g i hi hs) m1
  have m3 := rm_it (N := 16) (f := kb_X6_digestOfTables_29_2 F g) (m := kb_X7_digest_107_2 M) (fun i s g' hi hs => rm_42 M g i hi hs) m2
  have m4 := rm_it (N := 8) (f := kb_X6_digestOfTables_29_3 F g) (m := kb_X7_digest_107_3 M) (fun i s g' hi hs => rm_43 M g i hi hs) m3
  have m5 := rm_it (N := 8) (f := kb_X6_digestOfTables_29_4 F g) (m := kb_X7_digest_107_4 M) (fun i s g' hi hs => rm_44 M g i hi hs) m4
  have m6 := rm_it (N := 8) (f := kb_X6_digestOfTables_29_5 F g) (m := kb_X7_digest_107_5 M) (fun i s g' hi hs => rm_45 M g i hi hs) m5
  have m9 := rm_it (N := gq_ix (k_X2_size 4 (gF_gues F).2.2.2.2.2.2.1)) (f := kb_X6_digestOfTables_97 F g) (m := kb_X7_digest_166 M) (fun i s g' hi hs => rm_7 M g i hi hs) (rm_8 (rm_6 m6))
  unfold k_X6_digestOfTables m_42 m_41 m_37
  simp only [gq_lt]
  exact m9
set_option maxHeartbeats 1000000 in
theorem rh_digest {B : Nat} {F : gs_F} {M : gs_M} (h : RelB B F M) : k_X6_digest F = (k_X7_digest M).1 ∧ RelB B F (k_X7_digest M).2 := by
  have e1 : mg_acts M = k_X3_size (gF_prog F) := by
    obtain ⟨⟨⟨n, n1, n2, n3, n4⟩, -⟩, -⟩ := h
    exact n3.trans n2.symm
  have e2 : mg_deep M = k_X0_stackSize (gF_core F) := by
    obtain ⟨-, ⟨-, -, d, d1, d2, d3, d4⟩, -⟩ := h
    exact d3.trans d2.symm
  have e3 : mg_returned M = k_X2_size 4 (gF_gues F).2.2.2.2.2.2.1 := by
    obtain ⟨-, -, -, -, ⟨r, r1, r2, r3, r4⟩, -⟩ := h
    exact r3.trans r2.symm
  have e4 : mg_fetched M = k_X4_size (gF_queue F) := by
    obtain ⟨-, -, -, -, -, ⟨f, q, n', dd, age, q1, q2, q3, q4, q5, q6, q7, q8, q9, q10, q11⟩, -⟩ := h
    exact q8.trans q7.symm
  have m0 : RM B F (ms_h M 73) 73 := ⟨by simp only [RelB, mfr_h]; exact h, by simp only [mfr_h]⟩
  have m1 := rm_it (N := gq_ix (k_X3_size (gF_prog F))) (f := kb_X6_digest_6 F) (m := kb_X7_digest_9 M) (fun i s g _ hs => rm_1 M i hs) m0
  have m2 := rm_it (N := 24) (f := kb_X6_digest_55 F) (m := kb_X7_digest_49 M) (fun i s g hi hs => rm_2 M i hi hs) m1
  have m3 := rm_it (N := gq_ix (k_X0_stackSize (gF_core F))) (f := kb_X6_digest_81 F) (m := kb_X7_digest_72 M) (fun i s g hi hs => rm_3 M i hi hs) m2
  have m4 := rm_tabs M m3
  have m5 := rm_it (N := gq_ix (k_X4_size (gF_queue F))) (f := kb_X6_digest_119 F) (m := kb_X7_digest_193 M) (fun i s g hi hs => rm_9 M i hi hs) m4
  have m6 := rm_it (N := 18) (f := kb_X6_digest_151 F) (m := kb_X7_digest_220 M) (fun i s g _ hs => rm_10 M i hs) m5
  unfold k_X6_digest k_X7_digest
  rw [e1, e2, e3, e4]
  unfold m_42 m_41 m_37 at m6
  simp only [gq_lt]
  exact ⟨m6.2.symm, m6.1⟩
