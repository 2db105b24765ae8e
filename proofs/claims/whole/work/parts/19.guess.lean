/-! the guesser's parts -/
theorem rq_lt2 {x : Int32} : x < 2 ↔ x ≤ 1 := by
  rw [Int32.lt_iff_toInt_lt, Int32.le_iff_toInt_le]
  have a : (2 : Int32).toInt = 2 := by decide
  have b : (1 : Int32).toInt = 1 := by decide
  omega
set_option maxHeartbeats 200000 in
theorem rq_tells {u p : gs_R} {i : Int32} {m : Nat} (h : ∀ j, j < 16 → u j = p j ∧ vp_in (p j) m) (hi : vp_in i 16) : k_X1_tellsTurn 16 u i = if p (gq_ix i) ≤ 1 then false else true := by
  unfold k_X1_tellsTurn
  rw [rg_in hi (by decide), (h _ (mv_ix hi)).1]
  by_cases c : p (gq_ix i) ≤ 1
  · rw [if_pos c, if_pos (rq_lt2.mpr c)]
  · rw [if_neg c, if_neg (fun q => c (rq_lt2.mp q))]
set_option maxHeartbeats 200000 in
theorem rq_seems {U : gs_U} {M : gs_M} {x : Int32} (hx : vp_in x 60) (hw : vp_in (mg_way M) 4) (ht : RTg U.1 U.2.1 U.2.2.1 U.2.2.2.1 U.2.2.2.2.1 U.2.2.2.2.2.1 (mg_plain M) (mg_mixed M) (mg_choice M) (mg_targetAt M) (mg_targetKind M) (mg_target M)) (hh : RHg U.2.2.2.2.2.2.2 (mg_history M)) : k_X1_seemsToTurn U x (mg_way M) = k_X7_guessesTurn M x := by
  obtain ⟨t1, t2, t3, -⟩ := ht
  obtain ⟨h1, h2⟩ := hh
  have v1 := mv_rem16 hx
  have v2 : vp_in (k_X7_mixedAt M x (mg_history M)) 16 := mv_xor v1 h2
  have em : k_X1_mixedPlace x (mg_history M) = k_X7_mixedAt M x (mg_history M) := rfl
  unfold k_X1_seemsToTurn k_X7_guessesTurn
  rw [h1, em, rq_tells t1 v1, rq_tells t2 v2, rq_tells t3 v1]
  obtain ⟨j, hj, ej⟩ := vp_in_of hw (by decide)
  have hc : ∀ j, j < 4 → nI j = 0 ∨ nI j = 1 ∨ nI j = 2 ∨ nI j = 3 := by decide
  rcases hc j hj with c | c | c | c
  · simp only [ej, c, rz_0_0, rz_0_1, rz_0_2, rz_0_3, if_true, if_false]
  · simp only [ej, c, rz_1_0, rz_1_1, rz_1_2, rz_1_3, if_true, if_false]
  · simp only [ej, c, rz_2_0, rz_2_1, rz_2_2, rz_2_3, if_true, if_false]
  · simp only [ej, c, rz_3_0, rz_3_1, rz_3_2, rz_3_3, if_true, if_false]
    by_cases d : mg_choice M (gq_ix (gq_rem x 16)) ≤ 1
    · rw [if_pos d, if_pos d, if_neg (show ¬ (false = true) by decide)]
    · rw [if_neg d, if_neg d, if_pos (show true = true from rfl)]
set_option maxHeartbeats 200000 in
theorem rq_bits : ∀ j, j < 16 → (((nI j <<< ((1 : Int32) &&& 31)) ||| 1) &&& 15 = gq_rem (2 * nI j) 16 + 1) ∧ (((nI j <<< ((1 : Int32) &&& 31)) ||| 0) &&& 15 = gq_rem (2 * nI j) 16 + 0) := by decide +kernel
set_option maxHeartbeats 200000 in
theorem rq_bit {U : gs_U} {M : gs_M} {b : Bool} (hh : RHg U.2.2.2.2.2.2.2 (mg_history M)) : k_X1_noteBit U b = (U.1, U.2.1, U.2.2.1, U.2.2.2.1, U.2.2.2.2.1, U.2.2.2.2.2.1, U.2.2.2.2.2.2.1, mg_history (k_X7_bit M b)) ∧ vp_in (mg_history (k_X7_bit M b)) 16 := by
  obtain ⟨h1, h2⟩ := hh
  obtain ⟨j, hj, ej⟩ := vp_in_of h2 (by decide)
  obtain ⟨b1, b0⟩ := rq_bits j hj
  unfold k_X1_noteBit k_X7_bit
  cases b with
  | true =>
    rw [if_pos rfl, if_pos rfl]
    simp only [gq_lt, mfr_history]
    rw [h1, ej, b1]
    refine ⟨rfl, ?_⟩
    rw [← b1]
    exact mv_and15 _
  | false =>
    rw [if_neg (by decide), if_neg (by decide)]
    simp only [gq_lt, mfr_history]
    rw [h1, ej, b0]
    refine ⟨rfl, ?_⟩
    rw [← b0]
    exact mv_and15 _
set_option maxHeartbeats 200000 in
theorem rq_more : ∀ j, j < 4 → (gq_max 0 (gq_min 3 (nI j + 1)) = k_X7_more (nI j) true ∧ gq_max 0 (gq_min 3 (nI j + (-1))) = k_X7_more (nI j) false) ∧ (∃ i, i < 4 ∧ k_X7_more (nI j) true = nI i) ∧ ∃ i, i < 4 ∧ k_X7_more (nI j) false = nI i := by decide +kernel
set_option maxHeartbeats 200000 in
theorem rq_step {S : gs_R} {i : Int32} {y : Bool} (hi : vp_in i 16) (hv : vp_in (S (gq_ix i)) 4) : k_X1_step 16 S i y = upd S (gq_ix i) (k_X7_more (S (gq_ix i)) y) ∧ vp_in (k_X7_more (S (gq_ix i)) y) 4 := by
  obtain ⟨j, hj, ej⟩ := vp_in_of hv (by decide)
  obtain ⟨⟨m1, m0⟩, ⟨a, ha, ea⟩, b, hb, eb⟩ := rq_more j hj
  unfold k_X1_step
  rw [rg_in hi (by decide), ej]
  cases y with
  | true =>
    rw [if_pos rfl]
    simp only [gq_lt]
    rw [m1, rs_in hi (by decide)]
    exact ⟨rfl, by rw [ea]; exact vp_in_nI ha (by decide)⟩
  | false =>
    rw [if_neg (by decide)]
    simp only [gq_lt]
    rw [m0, rs_in hi (by decide)]
    exact ⟨rfl, by rw [eb]; exact vp_in_nI hb (by decide)⟩
set_option maxHeartbeats 200000 in
theorem rq_push {P : gs_P} {M : gs_M} {x : Int32} (hx : ¬ x = -1) (h : RRg P (mg_returned M) (mg_returns M)) : RRg (k_X2_pushEldestOut 4 P x) (mg_returned (k_X7_push M x)) (mg_returns (k_X7_push M x)) := by
  obtain ⟨r, r1, r2, r3, r4⟩ := h
  unfold k_X2_pushEldestOut k_X7_push
  by_cases h4 : r = 4
  · subst h4
    rw [r2, r3, if_neg (by decide), if_pos (by decide)]
    simp only [gq_lt, mfr_returns, mfr_returned]
    rw [r3, show gq_max 0 (nI 4 - 1) = nI 3 by decide, rp2_push (m := 4) (n := 3) rfl (by decide) (by decide), show gq_ix (nI 4 - 1) = 3 by decide, show gq_ix (0 + 1) = 1 by decide, show gq_ix (1 + 1) = 2 by decide, show gq_ix (2 + 1) = 3 by decide, rl_i0, rl_i1, rl_i2]
    refine ⟨4, by omega, rfl, by decide, fun j hj => ?_⟩
    have a1 := r4 1 (by omega)
    have a2 := r4 2 (by omega)
    have a3 := r4 3 (by omega)
    rcases (show j = 0 ∨ j = 1 ∨ j = 2 ∨ j = 3 by omega) with rfl | rfl | rfl | rfl
    · exact a1
    · exact a2
    · exact a3
    · exact ⟨rfl, hx⟩
  · rw [r2, r3, if_pos (show nI r < nI 4 from nI_lt (by omega) (by decide)), if_neg (show ¬ nI r = 4 from fun q => h4 ((nI_eq (b := 4) (by omega) (by decide)).mp q))]
    simp only [gq_lt, mfr_returns, mfr_returned]
    rw [r3, rp2_push (m := 4) (n := r) r2 (by omega) (by decide), gq_cl (by omega), nI_1]
    refine ⟨r + 1, by omega, rfl, rfl, fun j hj => ?_⟩
    show upd P.1 r x j = upd (mg_returns M) r x j ∧ ¬ upd (mg_returns M) r x j = -1
    unfold upd
    by_cases e : j = r
    · rw [if_pos e, if_pos e]; exact ⟨rfl, hx⟩
    · rw [if_neg e, if_neg e]; exact r4 j (by omega)
set_option maxHeartbeats 200000 in
theorem rq_note {U : gs_U} {M : gs_M} {p k g : Int32} (hp : vp_in p 60) : k_X1_noteTarget U p k g = (U.1, U.2.1, U.2.2.1, upd U.2.2.2.1 (gq_ix (gq_rem p 8)) p, upd U.2.2.2.2.1 (gq_ix (gq_rem p 8)) k, upd U.2.2.2.2.2.1 (gq_ix (gq_rem p 8)) g, U.2.2.2.2.2.2.1, U.2.2.2.2.2.2.2) := by
  unfold k_X1_noteTarget
  simp only [gq_lt]
  rw [rs_in (mv_rem8 hp) (by decide), rs_in (mv_rem8 hp) (by decide), rs_in (mv_rem8 hp) (by decide)]
