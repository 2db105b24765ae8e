/-! finishEldest against finishFirst -/
theorem ml_fin0 (S : gs_M) (x : Int32) : mg_fetched (k_X7_finish S x) = 0 := by
  unfold k_X7_finish
  simp only [gq_lt, mfr_fetched]
theorem ml_fin00 (S : gs_M) (x : Int32) : mg_acts (k_X7_finish S x) = mg_acts S := by
  unfold k_X7_finish
  simp only [gq_lt, mfr_runs, mfr_ended, mfr_counts, mfr_fetched]
def RB (B : Nat) (Q : gs_Q) (R : gs_R) (F : gs_F) (M : gs_M) : Prop := RelB B F M ∧ RQpF F M ∧ gF_queue F = Q ∧ mg_runs M = true ∧ ∀ i, i < 4 → mg_keptReturns M i = R i
theorem ml_220 (M : gs_M) (v k : Int32) : mg_counts (m_22 M v k) 0 = mg_counts M 0 := by
  rw [(ml_22 M v k).1]
  unfold c_ad
  rw [rup_ne (by omega), rup_ne (by omega), rup_ne (by omega), rup_ne (by omega)]
set_option maxHeartbeats 400000 in
theorem rb_22 {B : Nat} {Q : gs_Q} {R : gs_R} {F : gs_F} {M : gs_M} (v k : Int32) (hB : B + 1 < 1073741824) (h : RB B Q R F M) : RB (B + 1) Q R (k_X6_noteDone F v k) (m_22 M v k) := by
  obtain ⟨h1, h2, h3, h4, h5⟩ := h
  refine ⟨rh_noted v k hB h1, ?_, ?_, ?_, fun i hi => ?_⟩
  · have e := ml_220 M v k
    simp only [RQpF, rf_done, mk_22, e]
    exact h2
  · simp only [rf_done]; exact h3
  · simp only [mk_22]; exact h4
  · simp only [mk_22]; exact h5 i hi
set_option maxHeartbeats 400000 in
theorem rh_lrn {B : Nat} {F : gs_F} {M : gs_M} {v hs : Int32} (b : Bool) (h : RelB B F M) (hx : vp_in v 60) (hhs : vp_in hs 16) : RelB B (sF_gues F (k_X1_learn (gF_gues F) v hs b)) (k_X7_learn M v b hs) := by
  obtain ⟨h1, h2, h3, h4, h5, h6, h7, h8, h9, h10, h11⟩ := h
  obtain ⟨t, e1, e2⟩ := rq_learn b hx hhs h3
  simp only [mk_learn] at t
  simp only [RelB, gfr_gues, mk_learn, e1, e2]
  exact ⟨h1, h2, t, h4, h5, h6, h7, h8, h9, h10, h11⟩
set_option maxHeartbeats 400000 in
theorem ml_noteT (S : gs_M) (p k g : Int32) : mg_targetAt (m_noteT S p k g) = upd (mg_targetAt S) (gq_ix (gq_rem p 8)) p ∧ mg_targetKind (m_noteT S p k g) = upd (mg_targetKind S) (gq_ix (gq_rem p 8)) k ∧ mg_target (m_noteT S p k g) = upd (mg_target S) (gq_ix (gq_rem p 8)) g := by
  unfold m_noteT
  simp only [mfr_targetAt, mfr_targetKind, mfr_target, and_self]
set_option maxHeartbeats 400000 in
theorem rh_tgt {B : Nat} {F : gs_F} {M : gs_M} {v k g : Int32} (h : RelB B F M) (hx : vp_in v 60) : RelB B (sF_gues F (k_X1_noteTarget (gF_gues F) v k g)) (m_noteT M v k g) := by
  obtain ⟨h1, h2, ⟨t1, t2, t3, t4, t5, t6⟩, h4, h5, h6, h7, h8, h9, h10, h11⟩ := h
  have e := rq_note (U := gF_gues F) (M := M) (k := k) (g := g) hx
  simp only [RelB, gfr_gues, e, mk_noteT, ml_noteT]
  exact ⟨h1, h2, ⟨t1, t2, t3, up_eq t4, up_eq t5, up_eq t6⟩, h4, h5, h6, h7, h8, h9, h10, h11⟩
set_option maxHeartbeats 400000 in
theorem rb_lrn {B : Nat} {Q : gs_Q} {R : gs_R} {F : gs_F} {M : gs_M} {v k x hs : Int32} (b : Bool) (hx : vp_in v 60) (hhs : vp_in hs 16) (eh : k_X4_historyOf Q x = hs) (h : RB B Q R F M) : RB B Q R (f_lrn F v k x b) (if m_isB k = true then k_X7_learn M v b hs else M) := by
  have eB : k_X6_isBranch k = m_isB k := rfl
  unfold f_lrn
  rw [eB]
  by_cases c : m_isB k = true
  · rw [if_pos c, if_pos c]
    obtain ⟨h1, h2, h3, h4, h5⟩ := h
    rw [h3, eh]
    refine ⟨rh_lrn b h1 hx hhs, ?_, ?_, ?_, fun i hi => ?_⟩
    · simp only [RQpF, gfr_gues, mk_learn]; exact h2
    · simp only [gfr_gues]; exact h3
    · simp only [mk_learn]; exact h4
    · simp only [mk_learn]; exact h5 i hi
  · rw [if_neg c, if_neg c]; exact h
set_option maxHeartbeats 400000 in
theorem rb_tgt {B : Nat} {Q : gs_Q} {R : gs_R} {F : gs_F} {M : gs_M} {v k g : Int32} (b : Bool) (hx : vp_in v 60) (h : RB B Q R F M) : RB B Q R (f_tgt F v k g b) (if b = true then m_noteT M v k g else M) := by
  unfold f_tgt
  by_cases c : b = true
  · rw [if_pos c, if_pos c]
    obtain ⟨h1, h2, h3, h4, h5⟩ := h
    refine ⟨rh_tgt h1 hx, ?_, ?_, ?_, fun i hi => ?_⟩
    · simp only [RQpF, gfr_gues, mk_noteT]; exact h2
    · simp only [gfr_gues]; exact h3
    · simp only [mk_noteT]; exact h4
    · simp only [mk_noteT]; exact h5 i hi
  · rw [if_neg c, if_neg c]; exact h
theorem rb_25 {B : Nat} {Q : gs_Q} {R : gs_R} {F : gs_F} {M : gs_M} {v k x g hs : Int32} (b : Bool) (hx : vp_in v 60) (hhs : vp_in hs 16) (eh : k_X4_historyOf Q x = hs) (h : RB B Q R F M) : RB B Q R (f_tgt (f_lrn F v k x b) v k g b) (m_25 M v k g hs (m_isB k) b) :=
  rb_tgt b hx (rb_lrn b hx hhs eh h)
set_option maxHeartbeats 400000 in
theorem rb_bck {B : Nat} {Q : gs_Q} {R : gs_R} {F : gs_F} {M : gs_M} {k r : Nat} {v v2 g v7 v8 v9 : Int32} (b : Bool) (hk : k < 6) (hr : r ≤ 4) (b1 : Q.1 k = v) (hv : vp_in v 60) (b2 : Q.2.1 k = v7) (b4 : Q.2.2.2.1 k = v8) (hv8 : vp_in v8 16) (r2 : Q.2.2.2.2.1 k = nI r) (r3 : v9 = nI r) (r4 : ∀ i, i < r → Q.2.2.2.2.2.1 (4 * k + i) = R i ∧ ¬ R i = -1) (h : RB B Q R F M) :
    RelB B (f_bck F (nI k) v2 g b) (if g = v7 then M else m_fin (m_40 M v2 g v8 v9 (m_isB v2)) v v2 (m_isB v2) b) ∧ RQpF (f_bck F (nI k) v2 g b) (if g = v7 then M else m_fin (m_40 M v2 g v8 v9 (m_isB v2)) v v2 (m_isB v2) b) := by
  obtain ⟨h1, h2, h3, h4, h5⟩ := h
  have eg : k_X4_guessOf (gF_queue F) (nI k) = v7 := by
    unfold k_X4_guessOf
    rw [h3, rg_in (vp_in_nI hk (by decide)) (by decide), gq_cl (by omega)]
    exact b2
  unfold f_bck
  rw [eg]
  by_cases c : g = v7
  · rw [if_pos c, if_pos c]; exact ⟨h1, h2⟩
  · rw [if_neg c, if_neg c]
    have y : RelB B (k_X6_goBack F (nI k) v2 b g) (m_fin (m_40 M v2 g v8 v9 (m_isB v2)) v v2 (m_isB v2) b) := rh_back b h1 hk hr (by rw [h3]; exact b1) hv (by rw [h3]; exact b4) hv8 (by rw [h3]; exact r2) r3 (fun i hi => by rw [h3, h5 i (by omega)]; exact r4 i hi) h4
    refine ⟨y, rqp_0 y.2.2.2.2.2.1 ?_⟩
    simp only [mk_fin, ml_40]
set_option maxHeartbeats 1000000 in
theorem rh_eldest {B : Nat} {F : gs_F} {M : gs_M} (h : RelX B F M) (hq : RQtF F M) (hne : ¬ mg_fetched M = 0) (hrun : mg_runs M = true) (hB : B + 1 < 1073741824) : RelB (B + 1) (k_X6_finishEldest F) (k_X7_finishFirst M) ∧ RQpF (k_X6_finishEldest F) (k_X7_finishFirst M) := by
  obtain ⟨Q', k, r, v, n, ht, hk, hr, hv, hn, ha, ev, b1, b2, b4, hv8, r2, r3, r4, hp⟩ := rh_taken h hq hne
  obtain ⟨p1, p2⟩ := hp (nI v)
  obtain ⟨u1, x1, x2, ut, up⟩ := rh_did h hv hn ha hrun rfl p1 p2
  have hv60 : vp_in (nI v) 60 := vp_in_nI (by omega) (by omega)
  have adr : k_X4_addressOf Q' (nI k) = nI v := by
    unfold k_X4_addressOf
    rw [rg_in (vp_in_nI hk (by decide)) (by decide), gq_cl (by omega)]
    exact b1
  have hst : k_X4_historyOf Q' (nI k) = mg_fetchHistory M 0 := by
    unfold k_X4_historyOf
    rw [rg_in (vp_in_nI hk (by decide)) (by decide), gq_cl (by omega)]
    exact b4
  have x3 : RelB B (f_9 F (nI v) Q') (m_14 M (nI v)) := x1.b (rqp_g x2)
  have g0 : mg_fetchGuess (k_X7_does M (nI v)).2 0 = mg_fetchGuess M 0 := by simp only [mk_does]
  have g1 : mg_fetchHistory (k_X7_does M (nI v)).2 0 = mg_fetchHistory M 0 := by simp only [mk_does]
  have g2 : mg_fetchReturned (k_X7_does M (nI v)).2 0 = mg_fetchReturned M 0 := by simp only [mk_does]
  rw [rf_eldest ht adr up ut, rf_first, rl_i0, ev, gq_cl (show v < 2147483648 by omega), g0, g1, g2, u1]
  unfold m_end
  by_cases c11 : mg_kinds M v = 11
  · have hh := rd_halt (C := gF_core F) (P := gF_prog F) (x := nI v) (up.trans c11)
    have e9 : f_9 F (nI v) Q' = sF_queue F Q' := by unfold f_9; rw [hh]; rfl
    have ng : ¬ (k_X7_does M (nI v)).1 = (-1) := by rw [← u1, hh]; exact rq_place hv60
    rw [if_pos c11, if_neg ng, if_pos c11, ← e9]
    have y := rh_finish (x := 1) (by decide) (rh_noted (nI v) (mg_kinds M v) hB x3)
    exact ⟨y, rqp_0 y.2.2.2.2.2.1 (ml_fin0 _ _)⟩
  · rw [if_neg c11]
    by_cases cg : (k_X7_does M (nI v)).1 = (-1)
    · rw [if_pos cg, if_pos cg]
      have y := (rh_finish (x := 2) (by decide) x3).up (B' := B + 1) (by omega) hB
      exact ⟨y, rqp_0 y.2.2.2.2.2.1 (ml_fin0 _ _)⟩
    · rw [if_neg cg, if_neg cg, if_neg c11]
      have y0 : RB B Q' (mg_fetchReturns M) (f_9 F (nI v) Q') (m_14 M (nI v)) := ⟨x3, x2, rfl, by simp only [mk_14]; exact hrun, ml_14k M (nI v)⟩
      have y1 := rb_25 (k := mg_kinds M v) (g := (k_X7_does M (nI v)).1) (m_and (k_X7_in (mg_kinds M v) 5 10) (k_X7_turned M (nI v))) hv60 hv8 hst (rb_22 (nI v) (mg_kinds M v) hB y0)
      exact rb_bck _ hk hr b1 hv60 b2 b4 hv8 r2 r3 r4 y1
