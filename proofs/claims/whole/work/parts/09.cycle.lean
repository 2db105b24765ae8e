def mIf (S : gs_M) : Prop := vp_in (mg_acts S) 61 ∧ vp_in (mg_history S) 16 ∧ vp_in (mg_returned S) 5 ∧ vp_in (mg_fetched S) 8
/-- what the reference's walks want of its state -/
def mI (S : gs_M) : Prop := mIf S ∧ (∀ j, j < 8 → vp_in (mg_fetchAt S j) 60) ∧ (∀ j, j < 8 → vp_in (mg_fetchHistory S j) 16) ∧ (∀ j, j < 8 → vp_in (mg_fetchReturned S j) 5) ∧ (∀ j, j < 60 → vp_in (mg_as S j) 8) ∧ (∀ j, j < 60 → vp_in (mg_bs S j) 8) ∧ vp_in (mg_deep S) 17 ∧ (mg_fetched S ≤ 0 ∨ ¬ mg_acts S = 0) ∧ ¬ mg_counts S (gq_ix 1) < 0
def m_c1 (S : gs_M) : gs_M := ms_counts S (upd (mg_counts S) (gq_ix 0) (((mg_counts S) (gq_ix 0)) + 1))
def mC (S : gs_M) : Prop := mI S ∧ ∀ T, T = m_c1 S → ¬ mg_fetched T ≤ 0 → ((mg_fetchCycle T) (gq_ix 0)) + (mg_depth T) = (mg_counts T) (gq_ix 0) → mIf (k_X7_finishFirst T)
theorem mv_pos {x : Int32} {n : Nat} (h : vp_in x n) (hn : n < 2147483648) (h0 : ¬ x ≤ 0) : 1 ≤ gq_ix x := by
  obtain ⟨j, hj, rfl⟩ := vp_in_of h hn
  rw [gq_cl (by omega)]
  cases j with
  | zero => exact absurd (by decide) h0
  | succ j => omega
theorem mv_c1 {f : gs_R} {x : Int32} : upd f (gq_ix 0) x (gq_ix 1) = f (gq_ix 1) := pk_un (by decide)
theorem iX7_cycle_X7 : ∀ w ∈ u_ws RX7 TX7 34, w ∈ wsX7_cycle := by decide +kernel
theorem fX7_cycle_X7_0 : Cond.fieldLink RX7 100 (TX7 0).1 (TX7 0).2.1 (TX7 0).2.2.1 ∈ wsX7_cycle := by decide +kernel
theorem fX7_cycle_X7_10 : Cond.fieldLink RX7 31 (TX7 10).1 (TX7 10).2.1 (TX7 10).2.2.1 ∈ wsX7_cycle := by decide +kernel
theorem fX7_cycle_X7_20 : Cond.fieldLink RX7 117 (TX7 20).1 (TX7 20).2.1 (TX7 20).2.2.1 ∈ wsX7_cycle := by decide +kernel
theorem fX7_cycle_X7_22 : Cond.fieldLink RX7 59 (TX7 22).1 (TX7 22).2.1 (TX7 22).2.2.1 ∈ wsX7_cycle := by decide +kernel
theorem fX7_cycle_X7_27 : Cond.fieldLink RX7 96 (TX7 27).1 (TX7 27).2.1 (TX7 27).2.2.1 ∈ wsX7_cycle := by decide +kernel
theorem fX7_cycle_X7_29 : Cond.fieldLink RX7 123 (TX7 29).1 (TX7 29).2.1 (TX7 29).2.2.1 ∈ wsX7_cycle := by decide +kernel
theorem fX7_cycle_X7_30 : Cond.fieldLink RX7 77 (TX7 30).1 (TX7 30).2.1 (TX7 30).2.2.1 ∈ wsX7_cycle := by decide +kernel
theorem hv_X7_cycle : yX7_cycle.cls = RX7 ∧ yX7_cycle.cls ≠ "java/lang/invoke/MethodHandle" ∧ yX7_cycle.cls ≠ "java/lang/invoke/VarHandle" ∧ (parseMethodDescriptor yX7_cycle.desc).map (fun d => d.parameters.length) = some 0 := by decide +kernel
def k_X7_cycle (S : gs_M) : gs_M :=
  gq_lt (ms_counts S (upd (mg_counts S) (gq_ix 0) (((mg_counts S) (gq_ix 0)) + 1))) (fun s1 =>
  if mg_fetched s1 = 0 then
    if k_X7_in (mg_place s1) 0 ((mg_acts s1) - 1) = true then
      if mg_runs s1 = true then
        gq_lt (k_X7_fetch s1 ((mg_counts s1) (gq_ix 0))) (fun s2 =>
        s2)
      else
        s1
    else
      gq_lt (k_X7_finish s1 2) (fun s3 =>
      s3)
  else
    if mg_fetched s1 ≤ 0 then
      if mg_runs s1 = true then
        gq_lt (k_X7_fetch s1 ((mg_counts s1) (gq_ix 0))) (fun s4 =>
        s4)
      else
        s1
    else
      if ((mg_fetchCycle s1) (gq_ix 0)) + (mg_depth s1) = (mg_counts s1) (gq_ix 0) then
        gq_lt (k_X7_finishFirst s1) (fun s5 =>
        if mg_runs s5 = true then
          gq_lt (k_X7_fetch s5 ((mg_counts s5) (gq_ix 0))) (fun s6 =>
          s6)
        else
          s5)
      else
        if mg_runs s1 = true then
          gq_lt (k_X7_fetch s1 ((mg_counts s1) (gq_ix 0))) (fun s7 =>
          s7)
        else
          s1)
set_option maxHeartbeats 4000000 in
set_option maxRecDepth 100000 in
theorem c_X7_cycle (l : Launch) (D : va_G) (cA : ClassId) (a : Nat → Nat) (S : gs_M)  (hC : mC S) : gq_C l yX7_cycle wsX7_cycle ({ frames := 4, cells := 0, slots := 0, locals := 89 } : Room) D cA [.ref (a 0)] (gw_M cA a S) (none) (gw_M cA a (k_X7_cycle S)) := by
  refine gq_openf (own := RX7) (lv := [(0, .ref (a 0))]) (fun r : gs_M => (none, gw_M cA a r)) (k_X7_cycle S) (by decide) rfl rfl (Nat.le_of_ble_eq_true rfl) rfl rfl rfl (fun p e s m args below meth c A X => ?_)
  unfold k_X7_cycle
  refine gq_aload_n X dX7_cycle_0 0 rfl ?_
  refine gq_get (C := RX7) (T := TX7) (N := 34) X iX7_cycle_X7 0 gl_M_c0 rfl 30 (by decide) fX7_cycle_X7_30 rfl dX7_cycle_1 ?_
  refine gq_iconst (v := 0) X dX7_cycle_4 gq_i0 ?_
  refine gq_dup2 X dX7_cycle_5 rfl rfl ?_
  refine gq_ald X 21 gl_M_c21 (by unfold vp_in; decide) dX7_cycle_6 ?_
  refine gq_iconst (v := 1) X dX7_cycle_7 gq_i1 ?_
  refine gq_iadd X dX7_cycle_8 ?_
  refine gq_letr (fun s1 es1 => ?_)
  refine gq_ast (ws' := gw_M cA a s1) X 21 gl_M_c21 (by unfold vp_in; decide) (by rw [es1]; exact gl_M_a21) dX7_cycle_9 ?_
  have ts1_mg_fetched : mg_fetched s1 = mg_fetched S := by rw [es1]; exact (mfr_counts _ _).2.2.2.2.2.2.2.2.2.2.2.2.2.2.2.2.2.2.2.2.1.trans rfl
  have ts1_mg_acts : mg_acts s1 = mg_acts S := by rw [es1]; exact (mfr_counts _ _).1.trans rfl
  have ts1_mg_history : mg_history s1 = mg_history S := by rw [es1]; exact (mfr_counts _ _).2.2.2.2.2.2.2.2.2.2.2.2.2.2.1.trans rfl
  have ts1_mg_returned : mg_returned s1 = mg_returned S := by rw [es1]; exact (mfr_counts _ _).2.2.2.2.2.2.2.2.2.2.2.2.2.2.2.2.2.2.2.1.trans rfl
  have ts1_mg_fetchAt : mg_fetchAt s1 = mg_fetchAt S := by rw [es1]; exact (mfr_counts _ _).2.2.2.2.2.2.2.2.2.2.2.2.2.2.2.2.2.2.2.2.2.1.trans rfl
  have ts1_mg_fetchHistory : mg_fetchHistory s1 = mg_fetchHistory S := by rw [es1]; exact (mfr_counts _ _).2.2.2.2.2.2.2.2.2.2.2.2.2.2.2.2.2.2.2.2.2.2.2.2.1.trans rfl
  have ts1_mg_fetchReturned : mg_fetchReturned s1 = mg_fetchReturned S := by rw [es1]; exact (mfr_counts _ _).2.2.2.2.2.2.2.2.2.2.2.2.2.2.2.2.2.2.2.2.2.2.2.2.2.1.trans rfl
  have ts1_mg_as : mg_as s1 = mg_as S := by rw [es1]; exact (mfr_counts _ _).2.2.1.trans rfl
  have ts1_mg_bs : mg_bs s1 = mg_bs S := by rw [es1]; exact (mfr_counts _ _).2.2.2.1.trans rfl
  have ts1_mg_deep : mg_deep s1 = mg_deep S := by rw [es1]; exact (mfr_counts _ _).2.2.2.2.2.2.2.2.1.trans rfl
  refine gq_aload_n X dX7_cycle_10 0 rfl ?_
  refine gq_get (C := RX7) (T := TX7) (N := 34) X iX7_cycle_X7 0 gl_M_c0 rfl 20 (by decide) fX7_cycle_X7_20 rfl dX7_cycle_11 ?_
  refine gq_fif_ne (tgt := 40) X dX7_cycle_14 (by decide) (fun h14 => ?_) (fun h14 => ?_)
  · refine gq_aload_n X dX7_cycle_17 0 rfl ?_
    refine gq_get (C := RX7) (T := TX7) (N := 34) X iX7_cycle_X7 0 gl_M_c0 rfl 29 (by decide) fX7_cycle_X7_29 rfl dX7_cycle_18 ?_
    refine gq_iconst (v := 0) X dX7_cycle_21 gq_i0 ?_
    refine gq_aload_n X dX7_cycle_22 0 rfl ?_
    refine gq_get (C := RX7) (T := TX7) (N := 34) X iX7_cycle_X7 0 gl_M_c0 rfl 0 (by decide) fX7_cycle_X7_0 rfl dX7_cycle_23 ?_
    refine gq_iconst (v := 1) X dX7_cycle_26 gq_i1 ?_
    refine gq_isub X dX7_cycle_27 ?_
    refine gq_callSr (ws' := gw_M cA a s1) X (c_X7_in l D cA (mg_place s1) 0 ((mg_acts s1) - 1)) rfl ⟨rfl, rfl⟩ ⟨Nat.le_of_ble_eq_true rfl, Nat.le_of_ble_eq_true rfl⟩ gX7_cycle_X7_in hd_X7_in [] rfl (by decide) rfl rfl rfl rfl (Nat.le_of_ble_eq_true rfl) ⟨Nat.zero_le _, Nat.zero_le _⟩ dX7_cycle_28 ?_
    refine gq_fbif_ne (tgt := 40) X dX7_cycle_31 (by decide) (fun h31 => ?_) (fun h31 => ?_)
    · refine gq_aload_n X dX7_cycle_40 0 rfl ?_
      refine gq_get (C := RX7) (T := TX7) (N := 34) X iX7_cycle_X7 0 gl_M_c0 rfl 20 (by decide) fX7_cycle_X7_20 rfl dX7_cycle_41 ?_
      refine gq_if_le (tgt := 71) X dX7_cycle_44 (by decide) (fun _ => ?_) (fun h => absurd (by rw [h14]; decide) h)
      refine gq_aload_n X dX7_cycle_71 0 rfl ?_
      refine gq_get (C := RX7) (T := TX7) (N := 34) X iX7_cycle_X7 0 gl_M_c0 rfl 27 (by decide) fX7_cycle_X7_27 rfl dX7_cycle_72 ?_
      refine gq_fbif_eq (tgt := 88) X dX7_cycle_75 (by decide) (fun h75 => ?_) (fun h75 => ?_)
      · refine gq_aload_n X dX7_cycle_78 0 rfl ?_
        refine gq_aload_n X dX7_cycle_79 0 rfl ?_
        refine gq_get (C := RX7) (T := TX7) (N := 34) X iX7_cycle_X7 0 gl_M_c0 rfl 30 (by decide) fX7_cycle_X7_30 rfl dX7_cycle_80 ?_
        refine gq_iconst (v := 0) X dX7_cycle_83 gq_i0 ?_
        refine gq_ald X 21 gl_M_c21 (by unfold vp_in; decide) dX7_cycle_84 ?_
        refine gq_letr (fun s2 es2 => ?_)
        refine gq_callVv (ws' := gw_M cA a s2) X (c_X7_fetch l D cA a s1 ((mg_counts s1) (gq_ix 0)) (by rw [ts1_mg_fetched]; exact hC.1.1.2.2.2) (by rw [ts1_mg_acts]; exact hC.1.1.1) (by rw [ts1_mg_history]; exact hC.1.1.2.1) (by rw [ts1_mg_returned]; exact hC.1.1.2.2.1)) rfl ⟨rfl, rfl⟩ ⟨Nat.le_of_ble_eq_true rfl, Nat.le_of_ble_eq_true rfl⟩ gX7_cycle_X7_fetch hv_X7_fetch 0 gl_M_c0 rfl [0, 1, 2, 3, 4, 5, 6, 7, 8, 9, 10, 11, 12, 13, 14, 15, 16, 17, 18, 19, 20, 21, 22, 23] gl_M_self_at gl_M_self_nd gl_M_fst (by rw [es2]; exact gl_M_self_set) rfl rfl (Nat.le_of_ble_eq_true rfl) ⟨Nat.zero_le _, Nat.zero_le _⟩ dX7_cycle_85 ?_
        exact gq_vretf X dX7_cycle_88 rfl rfl
      · exact gq_vretf X dX7_cycle_88 rfl rfl
    · refine gq_aload_n X dX7_cycle_34 0 rfl ?_
      refine gq_iconst (v := 2) X dX7_cycle_35 gq_i2 ?_
      refine gq_letr (fun s3 es3 => ?_)
      refine gq_callVv (ws' := gw_M cA a s3) X (c_X7_finish l D cA a s1 2) rfl ⟨rfl, rfl⟩ ⟨Nat.le_of_ble_eq_true rfl, Nat.le_of_ble_eq_true rfl⟩ gX7_cycle_X7_finish hv_X7_finish 0 gl_M_c0 rfl [0, 1, 2, 3, 4, 5, 6, 7, 8, 9, 10, 11, 12, 13, 14, 15, 16, 17, 18, 19, 20, 21, 22, 23] gl_M_self_at gl_M_self_nd gl_M_fst (by rw [es3]; exact gl_M_self_set) rfl rfl (Nat.le_of_ble_eq_true rfl) ⟨Nat.zero_le _, Nat.zero_le _⟩ dX7_cycle_36 ?_
      exact gq_vretf X dX7_cycle_39 rfl rfl
  · refine gq_aload_n X dX7_cycle_40 0 rfl ?_
    refine gq_get (C := RX7) (T := TX7) (N := 34) X iX7_cycle_X7 0 gl_M_c0 rfl 20 (by decide) fX7_cycle_X7_20 rfl dX7_cycle_41 ?_
    refine gq_fif_le (tgt := 71) X dX7_cycle_44 (by decide) (fun h44 => ?_) (fun h44 => ?_)
    · refine gq_aload_n X dX7_cycle_71 0 rfl ?_
      refine gq_get (C := RX7) (T := TX7) (N := 34) X iX7_cycle_X7 0 gl_M_c0 rfl 27 (by decide) fX7_cycle_X7_27 rfl dX7_cycle_72 ?_
      refine gq_fbif_eq (tgt := 88) X dX7_cycle_75 (by decide) (fun h75 => ?_) (fun h75 => ?_)
      · refine gq_aload_n X dX7_cycle_78 0 rfl ?_
        refine gq_aload_n X dX7_cycle_79 0 rfl ?_
        refine gq_get (C := RX7) (T := TX7) (N := 34) X iX7_cycle_X7 0 gl_M_c0 rfl 30 (by decide) fX7_cycle_X7_30 rfl dX7_cycle_80 ?_
        refine gq_iconst (v := 0) X dX7_cycle_83 gq_i0 ?_
        refine gq_ald X 21 gl_M_c21 (by unfold vp_in; decide) dX7_cycle_84 ?_
        refine gq_letr (fun s4 es4 => ?_)
        refine gq_callVv (ws' := gw_M cA a s4) X (c_X7_fetch l D cA a s1 ((mg_counts s1) (gq_ix 0)) (by rw [ts1_mg_fetched]; exact hC.1.1.2.2.2) (by rw [ts1_mg_acts]; exact hC.1.1.1) (by rw [ts1_mg_history]; exact hC.1.1.2.1) (by rw [ts1_mg_returned]; exact hC.1.1.2.2.1)) rfl ⟨rfl, rfl⟩ ⟨Nat.le_of_ble_eq_true rfl, Nat.le_of_ble_eq_true rfl⟩ gX7_cycle_X7_fetch hv_X7_fetch 0 gl_M_c0 rfl [0, 1, 2, 3, 4, 5, 6, 7, 8, 9, 10, 11, 12, 13, 14, 15, 16, 17, 18, 19, 20, 21, 22, 23] gl_M_self_at gl_M_self_nd gl_M_fst (by rw [es4]; exact gl_M_self_set) rfl rfl (Nat.le_of_ble_eq_true rfl) ⟨Nat.zero_le _, Nat.zero_le _⟩ dX7_cycle_85 ?_
        exact gq_vretf X dX7_cycle_88 rfl rfl
      · exact gq_vretf X dX7_cycle_88 rfl rfl
    · refine gq_aload_n X dX7_cycle_47 0 rfl ?_
      refine gq_get (C := RX7) (T := TX7) (N := 34) X iX7_cycle_X7 0 gl_M_c0 rfl 22 (by decide) fX7_cycle_X7_22 rfl dX7_cycle_48 ?_
      refine gq_iconst (v := 0) X dX7_cycle_51 gq_i0 ?_
      refine gq_ald X 16 gl_M_c16 (by unfold vp_in; decide) dX7_cycle_52 ?_
      refine gq_aload_n X dX7_cycle_53 0 rfl ?_
      refine gq_get (C := RX7) (T := TX7) (N := 34) X iX7_cycle_X7 0 gl_M_c0 rfl 10 (by decide) fX7_cycle_X7_10 rfl dX7_cycle_54 ?_
      refine gq_iadd X dX7_cycle_57 ?_
      refine gq_aload_n X dX7_cycle_58 0 rfl ?_
      refine gq_get (C := RX7) (T := TX7) (N := 34) X iX7_cycle_X7 0 gl_M_c0 rfl 30 (by decide) fX7_cycle_X7_30 rfl dX7_cycle_59 ?_
      refine gq_iconst (v := 0) X dX7_cycle_62 gq_i0 ?_
      refine gq_ald X 21 gl_M_c21 (by unfold vp_in; decide) dX7_cycle_63 ?_
      refine gq_ficmp_ne (tgt := 71) X dX7_cycle_64 (by decide) (fun h64 => ?_) (fun h64 => ?_)
      · refine gq_aload_n X dX7_cycle_67 0 rfl ?_
        refine gq_letr (fun s5 es5 => ?_)
        refine gq_callVv (ws' := gw_M cA a s5) X (c_X7_finishFirst l D cA a s1 (mv_le (show vp_in (mg_fetched s1) 8 from (by rw [ts1_mg_fetched]; exact hC.1.1.2.2.2)) (by decide)) (mv_pos (show vp_in (mg_fetched s1) 8 from (by rw [ts1_mg_fetched]; exact hC.1.1.2.2.2)) (by decide) h44) (by rw [ts1_mg_fetchAt]; exact hC.1.2.1) (by rw [ts1_mg_fetchHistory]; exact hC.1.2.2.1) (by rw [ts1_mg_fetchReturned]; exact hC.1.2.2.2.1) (by rw [ts1_mg_as]; exact hC.1.2.2.2.2.1) (by rw [ts1_mg_bs]; exact hC.1.2.2.2.2.2.1) (by rw [ts1_mg_deep]; exact hC.1.2.2.2.2.2.2.1) (by rw [ts1_mg_acts]; exact hC.1.2.2.2.2.2.2.2.1.resolve_left (by rw [← ts1_mg_fetched]; exact h44)) (by rw [es1, (mfr_counts _ _).2.2.2.2.2.2.2.2.2.2.2.2.2.2.2.2.2.2.2.2.2.2.2.2.2.2.2.2.2.2.1, mv_c1]; exact hC.1.2.2.2.2.2.2.2.2)) rfl ⟨rfl, rfl⟩ ⟨Nat.le_of_ble_eq_true rfl, Nat.le_of_ble_eq_true rfl⟩ gX7_cycle_X7_finishFirst hv_X7_finishFirst 0 gl_M_c0 rfl [0, 1, 2, 3, 4, 5, 6, 7, 8, 9, 10, 11, 12, 13, 14, 15, 16, 17, 18, 19, 20, 21, 22, 23] gl_M_self_at gl_M_self_nd gl_M_fst (by rw [es5]; exact gl_M_self_set) rfl rfl (Nat.le_of_ble_eq_true rfl) ⟨Nat.zero_le _, Nat.zero_le _⟩ dX7_cycle_68 ?_
        refine gq_aload_n X dX7_cycle_71 0 rfl ?_
        refine gq_get (C := RX7) (T := TX7) (N := 34) X iX7_cycle_X7 0 gl_M_c0 rfl 27 (by decide) fX7_cycle_X7_27 rfl dX7_cycle_72 ?_
        refine gq_fbif_eq (tgt := 88) X dX7_cycle_75 (by decide) (fun h75 => ?_) (fun h75 => ?_)
        · refine gq_aload_n X dX7_cycle_78 0 rfl ?_
          refine gq_aload_n X dX7_cycle_79 0 rfl ?_
          refine gq_get (C := RX7) (T := TX7) (N := 34) X iX7_cycle_X7 0 gl_M_c0 rfl 30 (by decide) fX7_cycle_X7_30 rfl dX7_cycle_80 ?_
          refine gq_iconst (v := 0) X dX7_cycle_83 gq_i0 ?_
          refine gq_ald X 21 gl_M_c21 (by unfold vp_in; decide) dX7_cycle_84 ?_
          refine gq_letr (fun s6 es6 => ?_)
          refine gq_callVv (ws' := gw_M cA a s6) X (c_X7_fetch l D cA a s5 ((mg_counts s5) (gq_ix 0)) (by rw [es5]; exact (hC.2 s1 es1 h44 h64).2.2.2) (by rw [es5]; exact (hC.2 s1 es1 h44 h64).1) (by rw [es5]; exact (hC.2 s1 es1 h44 h64).2.1) (by rw [es5]; exact (hC.2 s1 es1 h44 h64).2.2.1)) rfl ⟨rfl, rfl⟩ ⟨Nat.le_of_ble_eq_true rfl, Nat.le_of_ble_eq_true rfl⟩ gX7_cycle_X7_fetch hv_X7_fetch 0 gl_M_c0 rfl [0, 1, 2, 3, 4, 5, 6, 7, 8, 9, 10, 11, 12, 13, 14, 15, 16, 17, 18, 19, 20, 21, 22, 23] gl_M_self_at gl_M_self_nd gl_M_fst (by rw [es6]; exact gl_M_self_set) rfl rfl (Nat.le_of_ble_eq_true rfl) ⟨Nat.zero_le _, Nat.zero_le _⟩ dX7_cycle_85 ?_
          exact gq_vretf X dX7_cycle_88 rfl rfl
        · exact gq_vretf X dX7_cycle_88 rfl rfl
      · refine gq_aload_n X dX7_cycle_71 0 rfl ?_
        refine gq_get (C := RX7) (T := TX7) (N := 34) X iX7_cycle_X7 0 gl_M_c0 rfl 27 (by decide) fX7_cycle_X7_27 rfl dX7_cycle_72 ?_
        refine gq_fbif_eq (tgt := 88) X dX7_cycle_75 (by decide) (fun h75 => ?_) (fun h75 => ?_)
        · refine gq_aload_n X dX7_cycle_78 0 rfl ?_
          refine gq_aload_n X dX7_cycle_79 0 rfl ?_
          refine gq_get (C := RX7) (T := TX7) (N := 34) X iX7_cycle_X7 0 gl_M_c0 rfl 30 (by decide) fX7_cycle_X7_30 rfl dX7_cycle_80 ?_
          refine gq_iconst (v := 0) X dX7_cycle_83 gq_i0 ?_
          refine gq_ald X 21 gl_M_c21 (by unfold vp_in; decide) dX7_cycle_84 ?_
          refine gq_letr (fun s7 es7 => ?_)
          refine gq_callVv (ws' := gw_M cA a s7) X (c_X7_fetch l D cA a s1 ((mg_counts s1) (gq_ix 0)) (by rw [ts1_mg_fetched]; exact hC.1.1.2.2.2) (by rw [ts1_mg_acts]; exact hC.1.1.1) (by rw [ts1_mg_history]; exact hC.1.1.2.1) (by rw [ts1_mg_returned]; exact hC.1.1.2.2.1)) rfl ⟨rfl, rfl⟩ ⟨Nat.le_of_ble_eq_true rfl, Nat.le_of_ble_eq_true rfl⟩ gX7_cycle_X7_fetch hv_X7_fetch 0 gl_M_c0 rfl [0, 1, 2, 3, 4, 5, 6, 7, 8, 9, 10, 11, 12, 13, 14, 15, 16, 17, 18, 19, 20, 21, 22, 23] gl_M_self_at gl_M_self_nd gl_M_fst (by rw [es7]; exact gl_M_self_set) rfl rfl (Nat.le_of_ble_eq_true rfl) ⟨Nat.zero_le _, Nat.zero_le _⟩ dX7_cycle_85 ?_
          exact gq_vretf X dX7_cycle_88 rfl rfl
        · exact gq_vretf X dX7_cycle_88 rfl rfl
theorem mv_run {x : Int32} (h : k_X7_in x 1 5000 = true) : vp_in x 5001 := by
  unfold k_X7_in at h
  by_cases h1 : x < 1
  · rw [if_pos h1] at h; cases h
  · by_cases h2 : 5000 < x
    · rw [if_neg h1, if_pos h2] at h; cases h
    · rw [Int32.lt_iff_toInt_lt] at h1 h2
      rw [show (1 : Int32).toInt = 1 by decide] at h1
      rw [show (5000 : Int32).toInt = 5000 by decide] at h2
      rw [vp_in_iff]
      omega
theorem kv_in {x lo hi : Int32} : k_X6_isWithin x lo hi = k_X7_in x lo hi := by
  unfold k_X6_isWithin k_X7_in
  rfl
theorem iX7_run_X7 : ∀ w ∈ u_ws RX7 TX7 34, w ∈ wsX7_run := by decide +kernel
theorem fX7_run_X7_27 : Cond.fieldLink RX7 96 (TX7 27).1 (TX7 27).2.1 (TX7 27).2.2.1 ∈ wsX7_run := by decide +kernel
theorem fX7_run_X7_30 : Cond.fieldLink RX7 77 (TX7 30).1 (TX7 30).2.1 (TX7 30).2.2.1 ∈ wsX7_run := by decide +kernel
theorem hv_X7_run : yX7_run.cls = RX7 ∧ yX7_run.cls ≠ "java/lang/invoke/MethodHandle" ∧ yX7_run.cls ≠ "java/lang/invoke/VarHandle" ∧ (parseMethodDescriptor yX7_run.desc).map (fun d => d.parameters.length) = some 1 := by decide +kernel
def k_X7_run (S : gs_M) (x1 : Int32) : Int32 × gs_M :=
  if k_X7_in x1 1 5000 = true then
    if mg_runs S = true then
      gq_lt ((mg_counts S) (gq_ix 1)) (fun v1 =>
      gq_lt (gq_wh mg_runs k_X7_cycle (gq_ix x1) S) (fun s2 =>
      (((mg_counts s2) (gq_ix 1)) - v1, s2)))
    else
      ((-103), S)
  else
    ((-102), S)
set_option maxHeartbeats 4000000 in
set_option maxRecDepth 100000 in
theorem c_X7_run (l : Launch) (D : va_G) (cA : ClassId) (a : Nat → Nat) (S : gs_M) (x1 : Int32) (hR : ∀ i, i < gq_ix x1 → mg_runs (gq_wh mg_runs k_X7_cycle i S) = true → mC (gq_wh mg_runs k_X7_cycle i S)) : gq_C l yX7_run wsX7_run ({ frames := 5, cells := 0, slots := 0, locals := 109 } : Room) D cA [.ref (a 0), .int x1] (gw_M cA a S) (some (.int (k_X7_run S x1).1)) (gw_M cA a ((k_X7_run S x1).2)) := by
  refine gq_openf (own := RX7) (lv := [(0, .ref (a 0)), (1, .int x1)]) (fun r : Int32 × gs_M => (some (.int r.1), gw_M cA a r.2)) (k_X7_run S x1) (by decide) rfl rfl (Nat.le_of_ble_eq_true rfl) rfl rfl rfl (fun p e s m args below meth c A X => ?_)
  unfold k_X7_run
  refine gq_iload_n X dX7_run_0 1 rfl ?_
  refine gq_iconst (v := 1) X dX7_run_1 gq_i1 ?_
  refine gq_sipush (v := 5000) X dX7_run_2 (by decide) ?_
  refine gq_callSr (ws' := gw_M cA a S) X (c_X7_in l D cA x1 1 5000) rfl ⟨rfl, rfl⟩ ⟨Nat.le_of_ble_eq_true rfl, Nat.le_of_ble_eq_true rfl⟩ gX7_run_X7_in hd_X7_in [] rfl (by decide) rfl rfl rfl rfl (Nat.le_of_ble_eq_true rfl) ⟨Nat.zero_le _, Nat.zero_le _⟩ dX7_run_5 ?_
  refine gq_fbif_ne (tgt := 14) X dX7_run_8 (by decide) (fun h8 => ?_) (fun h8 => ?_)
  · refine gq_aload_n X dX7_run_14 0 rfl ?_
    refine gq_get (C := RX7) (T := TX7) (N := 34) X iX7_run_X7 0 gl_M_c0 rfl 27 (by decide) fX7_run_X7_27 rfl dX7_run_15 ?_
    refine gq_fbif_ne (tgt := 24) X dX7_run_18 (by decide) (fun h18 => ?_) (fun h18 => ?_)
    · refine gq_aload_n X dX7_run_24 0 rfl ?_
      refine gq_get (C := RX7) (T := TX7) (N := 34) X iX7_run_X7 0 gl_M_c0 rfl 30 (by decide) fX7_run_X7_30 rfl dX7_run_25 ?_
      refine gq_iconst (v := 1) X dX7_run_28 gq_i1 ?_
      refine gq_ald X 21 gl_M_c21 (by unfold vp_in; decide) dX7_run_29 ?_
      refine gq_letr (fun v1 ev1 => ?_)
      refine gq_eqst (st' := .int v1 :: _) (by rw [ev1]) ?_
      refine gq_istore_n (lv' := [(2, .int v1), (0, .ref (a 0)), (1, .int x1)]) X dX7_run_30 (by decide) rfl ?_
      refine gq_iconst (v := 0) X dX7_run_31 gq_i0 ?_
      refine gq_istore_n (lv' := [(3, .int 0), (2, .int v1), (0, .ref (a 0)), (1, .int x1)]) X dX7_run_32 (by decide) rfl ?_
      refine gq_letr (fun s2 es2 => ?_)
      have hxN : x1 = nI (gq_ix x1) := mv_self (mv_run h8) (by decide)
      have hNb : (gq_ix x1) < 2147483648 := (by have := mv_ix (mv_run h8); omega)
      refine gq_loopS (N := (gq_ix x1)) (i0 := 0) (fun i t => gq_wh mg_runs k_X7_cycle ((gq_ix x1) - i) t = s2 ∧ t = gq_wh mg_runs k_X7_cycle i S) (fun t => gw_M cA a t) (fun i => [(3, .int (nI i)), (2, .int v1), (0, .ref (a 0)), (1, .int x1)]) (Nat.zero_le _) S ⟨es2.symm, rfl⟩ (fun i t hi h0 hI ih => ?_)
      refine gq_iload_n X dX7_run_33 0 rfl ?_
      refine gq_iload_n X dX7_run_34 3 rfl ?_
      rcases Nat.lt_or_ge i (gq_ix x1) with hlt | hge
      · refine gq_icmp_ge (tgt := 55) X dX7_run_35 (by decide) (fun h => absurd h (by rw [hxN]; exact nI_ge hlt hNb)) (fun _ => ?_)
        refine gq_aload_n X dX7_run_38 2 rfl ?_
        refine gq_get (C := RX7) (T := TX7) (N := 34) X iX7_run_X7 0 gl_M_c0 rfl 27 (by decide) fX7_run_X7_27 rfl dX7_run_39 ?_
        refine gq_bif_eq (tgt := 55) X dX7_run_42 (by decide) (fun h42 => ?_) (fun h42 => ?_)
        · refine gq_eqw (ws' := gw_M cA a s2) (by rw [← hI.1, gq_wh_f h42]) ?_
          refine gq_aload_n X dX7_run_55 2 rfl ?_
          refine gq_get (C := RX7) (T := TX7) (N := 34) X iX7_run_X7 0 gl_M_c0 rfl 30 (by decide) fX7_run_X7_30 rfl dX7_run_56 ?_
          refine gq_iconst (v := 1) X dX7_run_59 gq_i1 ?_
          refine gq_ald X 21 gl_M_c21 (by unfold vp_in; decide) dX7_run_60 ?_
          refine gq_iload_n X dX7_run_61 1 rfl ?_
          refine gq_isub X dX7_run_62 ?_
          exact gq_iretf X dX7_run_63 rfl rfl
        · refine gq_aload_n X dX7_run_45 2 rfl ?_
          obtain ⟨s3, es3⟩ : ∃ y, y = k_X7_cycle t := ⟨_, rfl⟩
          refine gq_callVv (ws' := gw_M cA a s3) X (c_X7_cycle l D cA a t (by rw [hI.2]; exact hR i hlt (by rw [← hI.2]; exact h42))) rfl ⟨rfl, rfl⟩ ⟨Nat.le_of_ble_eq_true rfl, Nat.le_of_ble_eq_true rfl⟩ gX7_run_X7_cycle hv_X7_cycle 0 gl_M_c0 rfl [0, 1, 2, 3, 4, 5, 6, 7, 8, 9, 10, 11, 12, 13, 14, 15, 16, 17, 18, 19, 20, 21, 22, 23] gl_M_self_at gl_M_self_nd gl_M_fst (by rw [es3]; exact gl_M_self_set) rfl rfl (Nat.le_of_ble_eq_true rfl) ⟨Nat.zero_le _, Nat.zero_le _⟩ dX7_run_46 ?_
          refine gq_iinc (lv' := [(3, .int (nI (i + 1))), (2, .int v1), (0, .ref (a 0)), (1, .int x1)]) X dX7_run_49 0 rfl (nI_1 i) (by decide) rfl ?_
          refine gq_goto (tgt := 33) X dX7_run_52 (by decide) ?_
          exact ih s3 hlt ⟨(by rw [es3, ← gq_wh_s h42 hlt]; exact hI.1), by rw [es3, gq_wh_r (hI.2 ▸ h42), ← hI.2]⟩
      · refine gq_icmp_ge (tgt := 55) X dX7_run_35 (by decide) (fun _ => ?_) (fun h => absurd (by rw [hxN]; exact nI_le hge (by omega)) h)
        refine gq_eqw (ws' := gw_M cA a s2) (by rw [← hI.1, show (gq_ix x1) - i = 0 by omega]; rfl) ?_
        refine gq_aload_n X dX7_run_55 2 rfl ?_
        refine gq_get (C := RX7) (T := TX7) (N := 34) X iX7_run_X7 0 gl_M_c0 rfl 30 (by decide) fX7_run_X7_30 rfl dX7_run_56 ?_
        refine gq_iconst (v := 1) X dX7_run_59 gq_i1 ?_
        refine gq_ald X 21 gl_M_c21 (by unfold vp_in; decide) dX7_run_60 ?_
        refine gq_iload_n X dX7_run_61 1 rfl ?_
        refine gq_isub X dX7_run_62 ?_
        exact gq_iretf X dX7_run_63 rfl rfl
    · refine gq_bipush (v := (-103)) X dX7_run_21 (by decide) ?_
      exact gq_iretf X dX7_run_23 rfl rfl
  · refine gq_bipush (v := (-102)) X dX7_run_11 (by decide) ?_
    exact gq_iretf X dX7_run_13 rfl rfl
theorem iX6_run_X6 : ∀ w ∈ u_ws RX6 TX6 10, w ∈ wsX6_run := by decide +kernel
theorem fX6_run_X6_4 : Cond.fieldLink RX6 42 (TX6 4).1 (TX6 4).2.1 (TX6 4).2.2.1 ∈ wsX6_run := by decide +kernel
theorem hv_X6_run : yX6_run.cls = RX6 ∧ yX6_run.cls ≠ "java/lang/invoke/MethodHandle" ∧ yX6_run.cls ≠ "java/lang/invoke/VarHandle" ∧ (parseMethodDescriptor yX6_run.desc).map (fun d => d.parameters.length) = some 1 := by decide +kernel
def k_X6_run (S : gs_F) (x1 : Int32) : Int32 × gs_F :=
  if k_X6_isWithin x1 1 5000 = true then
    if k_X6_isUnderWay S = true then
      gq_lt (k_X5_get 18 (gF_counts S) 1) (fun v1 =>
      gq_lt (gq_wh k_X6_isUnderWay k_X6_passCycle (gq_ix x1) S) (fun s2 =>
      ((k_X5_get 18 (gF_counts s2) 1) - v1, s2)))
    else
      ((-103), S)
  else
    ((-102), S)
set_option maxHeartbeats 4000000 in
set_option maxRecDepth 100000 in
theorem c_X6_run (l : Launch) (D : va_G) (cA : ClassId) (a : Nat → Nat) (S : gs_F) (x1 : Int32) : gq_C l yX6_run wsX6_run ({ frames := 7, cells := 0, slots := 0, locals := 155 } : Room) D cA [.ref (a 0), .int x1] (gw_GF cA a S) (some (.int (k_X6_run S x1).1)) (gw_GF cA a ((k_X6_run S x1).2)) := by
  refine gq_openf (own := RX6) (lv := [(0, .ref (a 0)), (1, .int x1)]) (fun r : Int32 × gs_F => (some (.int r.1), gw_GF cA a r.2)) (k_X6_run S x1) (by decide) rfl rfl (Nat.le_of_ble_eq_true rfl) rfl rfl rfl (fun p e s m args below meth c A X => ?_)
  unfold k_X6_run
  refine gq_iload_n X dX6_run_0 1 rfl ?_
  refine gq_iconst (v := 1) X dX6_run_1 gq_i1 ?_
  refine gq_sipush (v := 5000) X dX6_run_2 (by decide) ?_
  refine gq_callSr (ws' := gw_GF cA a S) X (c_X6_isWithin l D cA x1 1 5000) rfl ⟨rfl, rfl⟩ ⟨Nat.le_of_ble_eq_true rfl, Nat.le_of_ble_eq_true rfl⟩ gX6_run_X6_isWithin hd_X6_isWithin [] rfl (by decide) rfl rfl rfl rfl (Nat.le_of_ble_eq_true rfl) ⟨Nat.zero_le _, Nat.zero_le _⟩ dX6_run_5 ?_
  refine gq_fbif_ne (tgt := 14) X dX6_run_8 (by decide) (fun h8 => ?_) (fun h8 => ?_)
  · refine gq_aload_n X dX6_run_14 0 rfl ?_
    refine gq_callVr (ws' := gw_GF cA a S) X (c_X6_isUnderWay l D cA a S) rfl ⟨rfl, rfl⟩ ⟨Nat.le_of_ble_eq_true rfl, Nat.le_of_ble_eq_true rfl⟩ gX6_run_X6_isUnderWay hv_X6_isUnderWay 0 gl_GF_c0 rfl [0, 1, 2, 3, 4, 5, 6, 7, 8, 9, 10, 11, 12, 13, 14, 15, 16, 17, 18, 19, 20, 21, 22, 23, 24, 25, 26, 27, 28, 29, 30, 31, 32, 33, 34, 35, 36, 37, 38, 39, 40, 41, 42] gl_GF_self_at gl_GF_self_nd gl_GF_fst gl_GF_self_same rfl rfl (Nat.le_of_ble_eq_true rfl) ⟨Nat.zero_le _, Nat.zero_le _⟩ dX6_run_15 ?_
    refine gq_fbif_ne (tgt := 24) X dX6_run_18 (by decide) (fun h18 => ?_) (fun h18 => ?_)
    · refine gq_aload_n X dX6_run_24 0 rfl ?_
      refine gq_get (C := RX6) (T := TX6) (N := 10) X iX6_run_X6 0 gl_GF_c0 rfl 4 (by decide) fX6_run_X6_4 rfl dX6_run_25 ?_
      refine gq_iconst (v := 1) X dX6_run_28 gq_i1 ?_
      refine gq_callVr (ws' := gw_GF cA a S) X (c_X5_get l D cA (a 39) (a 40) 18 (by decide) (gF_counts S) 1) rfl ⟨rfl, rfl⟩ ⟨Nat.le_of_ble_eq_true rfl, Nat.le_of_ble_eq_true rfl⟩ gX6_run_X5_get hv_X5_get 39 rfl rfl [39, 40] gl_GF_39_at gl_GF_39_nd gl_Row_fst gl_GF_39_same rfl rfl (Nat.le_of_ble_eq_true rfl) ⟨Nat.zero_le _, Nat.zero_le _⟩ dX6_run_29 ?_
      refine gq_letr (fun v1 ev1 => ?_)
      refine gq_eqst (st' := .int v1 :: _) (by rw [ev1]) ?_
      refine gq_istore_n (lv' := [(2, .int v1), (0, .ref (a 0)), (1, .int x1)]) X dX6_run_32 (by decide) rfl ?_
      refine gq_iconst (v := 0) X dX6_run_33 gq_i0 ?_
      refine gq_istore_n (lv' := [(3, .int 0), (2, .int v1), (0, .ref (a 0)), (1, .int x1)]) X dX6_run_34 (by decide) rfl ?_
      refine gq_letr (fun s2 es2 => ?_)
      have hxN : x1 = nI (gq_ix x1) := mv_self (mv_run (kv_in ▸ h8)) (by decide)
      have hNb : (gq_ix x1) < 2147483648 := (by have := mv_ix (mv_run (kv_in ▸ h8)); omega)
      refine gq_loopS (N := (gq_ix x1)) (i0 := 0) (fun i t => gq_wh k_X6_isUnderWay k_X6_passCycle ((gq_ix x1) - i) t = s2) (fun t => gw_GF cA a t) (fun i => [(3, .int (nI i)), (2, .int v1), (0, .ref (a 0)), (1, .int x1)]) (Nat.zero_le _) S es2.symm (fun i t hi h0 hI ih => ?_)
      refine gq_iload_n X dX6_run_35 0 rfl ?_
      refine gq_iload_n X dX6_run_36 3 rfl ?_
      rcases Nat.lt_or_ge i (gq_ix x1) with hlt | hge
      · refine gq_icmp_ge (tgt := 57) X dX6_run_37 (by decide) (fun h => absurd h (by rw [hxN]; exact nI_ge hlt hNb)) (fun _ => ?_)
        refine gq_aload_n X dX6_run_40 2 rfl ?_
        refine gq_callVr (ws' := gw_GF cA a t) X (c_X6_isUnderWay l D cA a t) rfl ⟨rfl, rfl⟩ ⟨Nat.le_of_ble_eq_true rfl, Nat.le_of_ble_eq_true rfl⟩ gX6_run_X6_isUnderWay hv_X6_isUnderWay 0 gl_GF_c0 rfl [0, 1, 2, 3, 4, 5, 6, 7, 8, 9, 10, 11, 12, 13, 14, 15, 16, 17, 18, 19, 20, 21, 22, 23, 24, 25, 26, 27, 28, 29, 30, 31, 32, 33, 34, 35, 36, 37, 38, 39, 40, 41, 42] gl_GF_self_at gl_GF_self_nd gl_GF_fst gl_GF_self_same rfl rfl (Nat.le_of_ble_eq_true rfl) ⟨Nat.zero_le _, Nat.zero_le _⟩ dX6_run_41 ?_
        refine gq_bif_eq (tgt := 57) X dX6_run_44 (by decide) (fun h44 => ?_) (fun h44 => ?_)
        · refine gq_eqw (ws' := gw_GF cA a s2) (by rw [← hI, gq_wh_f h44]) ?_
          refine gq_aload_n X dX6_run_57 2 rfl ?_
          refine gq_get (C := RX6) (T := TX6) (N := 10) X iX6_run_X6 0 gl_GF_c0 rfl 4 (by decide) fX6_run_X6_4 rfl dX6_run_58 ?_
          refine gq_iconst (v := 1) X dX6_run_61 gq_i1 ?_
          refine gq_callVr (ws' := gw_GF cA a s2) X (c_X5_get l D cA (a 39) (a 40) 18 (by decide) (gF_counts s2) 1) rfl ⟨rfl, rfl⟩ ⟨Nat.le_of_ble_eq_true rfl, Nat.le_of_ble_eq_true rfl⟩ gX6_run_X5_get hv_X5_get 39 rfl rfl [39, 40] gl_GF_39_at gl_GF_39_nd gl_Row_fst gl_GF_39_same rfl rfl (Nat.le_of_ble_eq_true rfl) ⟨Nat.zero_le _, Nat.zero_le _⟩ dX6_run_62 ?_
          refine gq_iload_n X dX6_run_65 1 rfl ?_
          refine gq_isub X dX6_run_66 ?_
          exact gq_iretf X dX6_run_67 rfl rfl
        · refine gq_aload_n X dX6_run_47 2 rfl ?_
          obtain ⟨s3, es3⟩ : ∃ y, y = k_X6_passCycle t := ⟨_, rfl⟩
          refine gq_callVv (ws' := gw_GF cA a s3) X (c_X6_passCycle l D cA a t) rfl ⟨rfl, rfl⟩ ⟨Nat.le_of_ble_eq_true rfl, Nat.le_of_ble_eq_true rfl⟩ gX6_run_X6_passCycle hv_X6_passCycle 0 gl_GF_c0 rfl [0, 1, 2, 3, 4, 5, 6, 7, 8, 9, 10, 11, 12, 13, 14, 15, 16, 17, 18, 19, 20, 21, 22, 23, 24, 25, 26, 27, 28, 29, 30, 31, 32, 33, 34, 35, 36, 37, 38, 39, 40, 41, 42] gl_GF_self_at gl_GF_self_nd gl_GF_fst (by rw [es3]; exact gl_GF_self_set) rfl rfl (Nat.le_of_ble_eq_true rfl) ⟨Nat.zero_le _, Nat.zero_le _⟩ dX6_run_48 ?_
          refine gq_iinc (lv' := [(3, .int (nI (i + 1))), (2, .int v1), (0, .ref (a 0)), (1, .int x1)]) X dX6_run_51 0 rfl (nI_1 i) (by decide) rfl ?_
          refine gq_goto (tgt := 35) X dX6_run_54 (by decide) ?_
          exact ih s3 hlt (by rw [es3, ← gq_wh_s h44 hlt]; exact hI)
      · refine gq_icmp_ge (tgt := 57) X dX6_run_37 (by decide) (fun _ => ?_) (fun h => absurd (by rw [hxN]; exact nI_le hge (by omega)) h)
        refine gq_eqw (ws' := gw_GF cA a s2) (by rw [← hI, show (gq_ix x1) - i = 0 by omega]; rfl) ?_
        refine gq_aload_n X dX6_run_57 2 rfl ?_
        refine gq_get (C := RX6) (T := TX6) (N := 10) X iX6_run_X6 0 gl_GF_c0 rfl 4 (by decide) fX6_run_X6_4 rfl dX6_run_58 ?_
        refine gq_iconst (v := 1) X dX6_run_61 gq_i1 ?_
        refine gq_callVr (ws' := gw_GF cA a s2) X (c_X5_get l D cA (a 39) (a 40) 18 (by decide) (gF_counts s2) 1) rfl ⟨rfl, rfl⟩ ⟨Nat.le_of_ble_eq_true rfl, Nat.le_of_ble_eq_true rfl⟩ gX6_run_X5_get hv_X5_get 39 rfl rfl [39, 40] gl_GF_39_at gl_GF_39_nd gl_Row_fst gl_GF_39_same rfl rfl (Nat.le_of_ble_eq_true rfl) ⟨Nat.zero_le _, Nat.zero_le _⟩ dX6_run_62 ?_
        refine gq_iload_n X dX6_run_65 1 rfl ?_
        refine gq_isub X dX6_run_66 ?_
        exact gq_iretf X dX6_run_67 rfl rfl
    · refine gq_bipush (v := (-103)) X dX6_run_21 (by decide) ?_
      exact gq_iretf X dX6_run_23 rfl rfl
  · refine gq_bipush (v := (-102)) X dX6_run_11 (by decide) ?_
    exact gq_iretf X dX6_run_13 rfl rfl
theorem iX6_digestOfTables_X6 : ∀ w ∈ u_ws RX6 TX6 10, w ∈ wsX6_digestOfTables := by decide +kernel
theorem fX6_digestOfTables_X6_2 : Cond.fieldLink RX6 26 (TX6 2).1 (TX6 2).2.1 (TX6 2).2.2.1 ∈ wsX6_digestOfTables := by decide +kernel
theorem kX6_digestOfTables_160 : Cond.constantLong RX6 160 31 ∈ wsX6_digestOfTables := by decide +kernel
theorem hv_X6_digestOfTables : yX6_digestOfTables.cls = RX6 ∧ yX6_digestOfTables.cls ≠ "java/lang/invoke/MethodHandle" ∧ yX6_digestOfTables.cls ≠ "java/lang/invoke/VarHandle" ∧ (parseMethodDescriptor yX6_digestOfTables.desc).map (fun d => d.parameters.length) = some 1 := by decide +kernel
def kb_X6_digestOfTables_29 (S : gs_F) (w1 : Int64) (i : Nat) (t3 : Int64) : Int64 :=
  gq_lt ((31 * t3) + ((k_X6_table S 0 (nI i)).toInt64)) (fun g4 =>
  g4)
def kb_X6_digestOfTables_29_1 (S : gs_F) (w1 : Int64) (i : Nat) (t7 : Int64) : Int64 :=
  gq_lt ((31 * t7) + ((k_X6_table S 1 (nI i)).toInt64)) (fun g8 =>
  g8)
def kb_X6_digestOfTables_29_2 (S : gs_F) (w1 : Int64) (i : Nat) (t11 : Int64) : Int64 :=
  gq_lt ((31 * t11) + ((k_X6_table S 2 (nI i)).toInt64)) (fun g12 =>
  g12)
def kb_X6_digestOfTables_29_3 (S : gs_F) (w1 : Int64) (i : Nat) (t15 : Int64) : Int64 :=
  gq_lt ((31 * t15) + ((k_X6_table S 3 (nI i)).toInt64)) (fun g16 =>
  g16)
def kb_X6_digestOfTables_29_4 (S : gs_F) (w1 : Int64) (i : Nat) (t19 : Int64) : Int64 :=
  gq_lt ((31 * t19) + ((k_X6_table S 4 (nI i)).toInt64)) (fun g20 =>
  g20)
def kb_X6_digestOfTables_29_5 (S : gs_F) (w1 : Int64) (i : Nat) (t23 : Int64) : Int64 :=
  gq_lt ((31 * t23) + ((k_X6_table S 5 (nI i)).toInt64)) (fun g24 =>
  g24)
def kb_X6_digestOfTables_97 (S : gs_F) (w1 : Int64) (i : Nat) (t29 : Int64) : Int64 :=
  gq_lt ((31 * t29) + ((k_X6_table S 7 (nI i)).toInt64)) (fun g30 =>
  g30)
def k_X6_digestOfTables (S : gs_F) (w1 : Int64) : Int64 :=
  gq_lt (gq_it (kb_X6_digestOfTables_29 S w1) 0 w1 16) (fun g1 =>
  gq_lt (gq_it (kb_X6_digestOfTables_29_1 S w1) 0 g1 16) (fun g5 =>
  gq_lt (gq_it (kb_X6_digestOfTables_29_2 S w1) 0 g5 16) (fun g9 =>
  gq_lt (gq_it (kb_X6_digestOfTables_29_3 S w1) 0 g9 8) (fun g13 =>
  gq_lt (gq_it (kb_X6_digestOfTables_29_4 S w1) 0 g13 8) (fun g17 =>
  gq_lt (gq_it (kb_X6_digestOfTables_29_5 S w1) 0 g17 8) (fun g21 =>
  gq_lt ((31 * g21) + ((k_X6_table S 6 0).toInt64)) (fun g25 =>
  gq_lt ((31 * g25) + ((k_X6_table S 8 0).toInt64)) (fun g26 =>
  gq_lt (gq_it (kb_X6_digestOfTables_97 S w1) 0 g26 (gq_ix (k_X2_size 4 (gF_gues S).2.2.2.2.2.2.1))) (fun g27 =>
  g27)))))))))
set_option maxHeartbeats 4000000 in
set_option maxRecDepth 100000 in
theorem c_X6_digestOfTables (l : Launch) (D : va_G) (cA : ClassId) (a : Nat → Nat) (S : gs_F) (w1 : Int64) (hrs : vp_in (k_X2_size 4 (gF_gues S).2.2.2.2.2.2.1) 5) : gq_C l yX6_digestOfTables wsX6_digestOfTables ({ frames := 4, cells := 0, slots := 0, locals := 86 } : Room) D cA [.ref (a 0), .long w1] (gw_GF cA a S) (some (.long (k_X6_digestOfTables S w1))) (gw_GF cA a S) := by
  refine gq_openf (own := RX6) (lv := [(0, .ref (a 0)), (1, .long w1)]) (fun r : Int64 => (some (.long r), gw_GF cA a S)) (k_X6_digestOfTables S w1) (by decide) rfl rfl (Nat.le_of_ble_eq_true rfl) rfl rfl rfl (fun p e s m args below meth c A X => ?_)
  unfold k_X6_digestOfTables
  refine gq_lload_n X dX6_digestOfTables_0 1 rfl ?_
  refine gq_lstore_n (lv' := [(3, .long w1), (0, .ref (a 0)), (1, .long w1)]) X dX6_digestOfTables_1 (by decide) rfl ?_
  refine gq_iconst (v := 0) X dX6_digestOfTables_2 gq_i0 ?_
  refine gq_istore (lv' := [(5, .int 0), (3, .long w1), (0, .ref (a 0)), (1, .long w1)]) X dX6_digestOfTables_3 (by decide) rfl ?_
  refine gq_iload X dX6_digestOfTables_5 0 rfl ?_
  refine gq_iconst (v := 5) X dX6_digestOfTables_7 gq_i5 ?_
  refine gq_icmp_gt (tgt := 64) X dX6_digestOfTables_8 (by decide) (fun h => absurd h (by decide)) (fun _ => ?_)
  refine gq_iload X dX6_digestOfTables_11 0 rfl ?_
  refine gq_iconst (v := 2) X dX6_digestOfTables_13 gq_i2 ?_
  refine gq_icmp_gt (tgt := 22) X dX6_digestOfTables_14 (by decide) (fun h => absurd h (by decide)) (fun _ => ?_)
  refine gq_bipush (v := 16) X dX6_digestOfTables_17 (by decide) ?_
  refine gq_goto (tgt := 24) X dX6_digestOfTables_19 (by decide) ?_
  refine gq_istore (lv' := [(6, .int 16), (5, .int 0), (3, .long w1), (0, .ref (a 0)), (1, .long w1)]) X dX6_digestOfTables_24 (by decide) rfl ?_
  refine gq_iconst (v := 0) X dX6_digestOfTables_26 gq_i0 ?_
  refine gq_istore (lv' := [(7, .int 0), (6, .int 16), (5, .int 0), (3, .long w1), (0, .ref (a 0)), (1, .long w1)]) X dX6_digestOfTables_27 (by decide) rfl ?_
  refine gq_letr (fun g1 eg1 => ?_)
  refine gq_eqlv2 (lv' := [(7, .int 0), (6, .int 16), (5, .int 0), (3, .long (gq_it (kb_X6_digestOfTables_29 S w1) 0 w1 0)), (0, .ref (a 0)), (1, .long w1)]) (by rw [gq_it_0]) ?_
  refine gq_loop (N := 16) (i0 := 0) (fun i => gw_GF cA a S) (fun i => [(7, .int (nI i)), (6, .int 16), (5, .int 0), (3, .long (gq_it (kb_X6_digestOfTables_29 S w1) 0 w1 i)), (0, .ref (a 0)), (1, .long w1)]) (Nat.zero_le _) (fun i hi h0 ih => ?_)
  obtain ⟨t3, et3⟩ : ∃ y, y = gq_it (kb_X6_digestOfTables_29 S w1) 0 w1 i := ⟨_, rfl⟩
  refine gq_eqlv2 (lv' := [(7, .int (nI i)), (6, .int 16), (5, .int 0), (3, .long t3), (0, .ref (a 0)), (1, .long w1)]) (by rw [et3]) ?_
  refine gq_iload X dX6_digestOfTables_29 0 rfl ?_
  refine gq_iload X dX6_digestOfTables_31 1 rfl ?_
  rcases Nat.lt_or_ge i 16 with hlt | hge
  · refine gq_icmp_ge (tgt := 58) X dX6_digestOfTables_33 (by decide) (fun h => absurd h (nI_ge hlt (by decide))) (fun _ => ?_)
    refine gq_ldc2 (v := 31) X kX6_digestOfTables_160 dX6_digestOfTables_36 ?_
    refine gq_lload_n X dX6_digestOfTables_39 3 rfl ?_
    refine gq_lmul X dX6_digestOfTables_40 ?_
    refine gq_aload_n X dX6_digestOfTables_41 4 rfl ?_
    refine gq_iload X dX6_digestOfTables_42 2 rfl ?_
    refine gq_iload X dX6_digestOfTables_44 0 rfl ?_
    refine gq_callVr (ws' := gw_GF cA a S) X (c_X6_table l D cA a S 0 (nI i)) rfl ⟨rfl, rfl⟩ ⟨Nat.le_of_ble_eq_true rfl, Nat.le_of_ble_eq_true rfl⟩ gX6_digestOfTables_X6_table hv_X6_table 0 gl_GF_c0 rfl [0, 1, 2, 3, 4, 5, 6, 7, 8, 9, 10, 11, 12, 13, 14, 15, 16, 17, 18, 19, 20, 21, 22, 23, 24, 25, 26, 27, 28, 29, 30, 31, 32, 33, 34, 35, 36, 37, 38, 39, 40, 41, 42] gl_GF_self_at gl_GF_self_nd gl_GF_fst gl_GF_self_same rfl rfl (Nat.le_of_ble_eq_true rfl) ⟨Nat.zero_le _, Nat.zero_le _⟩ dX6_digestOfTables_46 ?_
    refine gq_i2l X dX6_digestOfTables_49 ?_
    refine gq_ladd X dX6_digestOfTables_50 ?_
    obtain ⟨g4, eg4⟩ : ∃ y, y = (31 * t3) + ((k_X6_table S 0 (nI i)).toInt64) := ⟨_, rfl⟩
    refine gq_eqst (st' := .long g4 :: _) (by rw [eg4]) ?_
    refine gq_lstore_n (lv' := [(3, .long g4), (7, .int (nI i)), (6, .int 16), (5, .int 0), (0, .ref (a 0)), (1, .long w1)]) X dX6_digestOfTables_51 (by decide) rfl ?_
    refine gq_iinc (lv' := [(7, .int (nI (i + 1))), (3, .long g4), (6, .int 16), (5, .int 0), (0, .ref (a 0)), (1, .long w1)]) X dX6_digestOfTables_52 1 rfl (nI_1 i) (by decide) rfl ?_
    refine gq_goto (tgt := 29) X dX6_digestOfTables_55 (by decide) ?_
    refine gq_eqlv (lv' := [(7, .int (nI (i + 1))), (6, .int 16), (5, .int 0), (3, .long g4), (0, .ref (a 0)), (1, .long w1)]) [0, 2, 3, 1, 4, 5] rfl ?_
    refine gq_eqlv2 (lv' := [(7, .int (nI (i + 1))), (6, .int 16), (5, .int 0), (3, .long (gq_it (kb_X6_digestOfTables_29 S w1) 0 w1 (i + 1))), (0, .ref (a 0)), (1, .long w1)]) (by rw [gq_it_s _ _ h0, ← et3]; rw [eg4]; rfl) ?_
    exact ih hlt
  · obtain rfl : i = 16 := by omega
    refine gq_icmp_ge (tgt := 58) X dX6_digestOfTables_33 (by decide) (fun _ => ?_) (fun h => absurd (nI_le (Nat.le_refl _) (by decide)) h)
    refine gq_eqlv2 (lv' := [(7, .int (nI 16)), (6, .int 16), (5, .int 0), (3, .long g1), (0, .ref (a 0)), (1, .long w1)]) (by rw [et3, eg1]) ?_
    refine gq_iinc (lv' := [(5, .int 1), (7, .int (nI 16)), (6, .int 16), (3, .long g1), (0, .ref (a 0)), (1, .long w1)]) X dX6_digestOfTables_58 2 rfl (by decide) (by decide) rfl ?_
    refine gq_goto (tgt := 5) X dX6_digestOfTables_61 (by decide) ?_
    refine gq_iload X dX6_digestOfTables_5 0 rfl ?_
    refine gq_iconst (v := 5) X dX6_digestOfTables_7 gq_i5 ?_
    refine gq_icmp_gt (tgt := 64) X dX6_digestOfTables_8 (by decide) (fun h => absurd h (by decide)) (fun _ => ?_)
    refine gq_iload X dX6_digestOfTables_11 0 rfl ?_
    refine gq_iconst (v := 2) X dX6_digestOfTables_13 gq_i2 ?_
    refine gq_icmp_gt (tgt := 22) X dX6_digestOfTables_14 (by decide) (fun h => absurd h (by decide)) (fun _ => ?_)
    refine gq_bipush (v := 16) X dX6_digestOfTables_17 (by decide) ?_
    refine gq_goto (tgt := 24) X dX6_digestOfTables_19 (by decide) ?_
    refine gq_istore (lv' := [(6, .int 16), (5, .int 1), (7, .int (nI 16)), (3, .long g1), (0, .ref (a 0)), (1, .long w1)]) X dX6_digestOfTables_24 (by decide) rfl ?_
    refine gq_iconst (v := 0) X dX6_digestOfTables_26 gq_i0 ?_
    refine gq_istore (lv' := [(7, .int 0), (6, .int 16), (5, .int 1), (3, .long g1), (0, .ref (a 0)), (1, .long w1)]) X dX6_digestOfTables_27 (by decide) rfl ?_
    refine gq_letr (fun g5 eg5 => ?_)
    refine gq_eqlv2 (lv' := [(7, .int 0), (6, .int 16), (5, .int 1), (3, .long (gq_it (kb_X6_digestOfTables_29_1 S w1) 0 g1 0)), (0, .ref (a 0)), (1, .long w1)]) (by rw [gq_it_0]) ?_
    refine gq_loop (N := 16) (i0 := 0) (fun i => gw_GF cA a S) (fun i => [(7, .int (nI i)), (6, .int 16), (5, .int 1), (3, .long (gq_it (kb_X6_digestOfTables_29_1 S w1) 0 g1 i)), (0, .ref (a 0)), (1, .long w1)]) (Nat.zero_le _) (fun i hi h0 ih => ?_)
    obtain ⟨t7, et7⟩ : ∃ y, y = gq_it (kb_X6_digestOfTables_29_1 S w1) 0 g1 i := ⟨_, rfl⟩
    refine gq_eqlv2 (lv' := [(7, .int (nI i)), (6, .int 16), (5, .int 1), (3, .long t7), (0, .ref (a 0)), (1, .long w1)]) (by rw [et7]) ?_
    refine gq_iload X dX6_digestOfTables_29 0 rfl ?_
    refine gq_iload X dX6_digestOfTables_31 1 rfl ?_
    rcases Nat.lt_or_ge i 16 with hlt | hge
    · refine gq_icmp_ge (tgt := 58) X dX6_digestOfTables_33 (by decide) (fun h => absurd h (nI_ge hlt (by decide))) (fun _ => ?_)
      refine gq_ldc2 (v := 31) X kX6_digestOfTables_160 dX6_digestOfTables_36 ?_
      refine gq_lload_n X dX6_digestOfTables_39 3 rfl ?_
      refine gq_lmul X dX6_digestOfTables_40 ?_
      refine gq_aload_n X dX6_digestOfTables_41 4 rfl ?_
      refine gq_iload X dX6_digestOfTables_42 2 rfl ?_
      refine gq_iload X dX6_digestOfTables_44 0 rfl ?_
      refine gq_callVr (ws' := gw_GF cA a S) X (c_X6_table l D cA a S 1 (nI i)) rfl ⟨rfl, rfl⟩ ⟨Nat.le_of_ble_eq_true rfl, Nat.le_of_ble_eq_true rfl⟩ gX6_digestOfTables_X6_table hv_X6_table 0 gl_GF_c0 rfl [0, 1, 2, 3, 4, 5, 6, 7, 8, 9, 10, 11, 12, 13, 14, 15, 16, 17, 18, 19, 20, 21, 22, 23, 24, 25, 26, 27, 28, 29, 30, 31, 32, 33, 34, 35, 36, 37, 38, 39, 40, 41, 42] gl_GF_self_at gl_GF_self_nd gl_GF_fst gl_GF_self_same rfl rfl (Nat.le_of_ble_eq_true rfl) ⟨Nat.zero_le _, Nat.zero_le _⟩ dX6_digestOfTables_46 ?_
      refine gq_i2l X dX6_digestOfTables_49 ?_
      refine gq_ladd X dX6_digestOfTables_50 ?_
      obtain ⟨g8, eg8⟩ : ∃ y, y = (31 * t7) + ((k_X6_table S 1 (nI i)).toInt64) := ⟨_, rfl⟩
      refine gq_eqst (st' := .long g8 :: _) (by rw [eg8]) ?_
      refine gq_lstore_n (lv' := [(3, .long g8), (7, .int (nI i)), (6, .int 16), (5, .int 1), (0, .ref (a 0)), (1, .long w1)]) X dX6_digestOfTables_51 (by decide) rfl ?_
      refine gq_iinc (lv' := [(7, .int (nI (i + 1))), (3, .long g8), (6, .int 16), (5, .int 1), (0, .ref (a 0)), (1, .long w1)]) X dX6_digestOfTables_52 1 rfl (nI_1 i) (by decide) rfl ?_
      refine gq_goto (tgt := 29) X dX6_digestOfTables_55 (by decide) ?_
      refine gq_eqlv (lv' := [(7, .int (nI (i + 1))), (6, .int 16), (5, .int 1), (3, .long g8), (0, .ref (a 0)), (1, .long w1)]) [0, 2, 3, 1, 4, 5] rfl ?_
      refine gq_eqlv2 (lv' := [(7, .int (nI (i + 1))), (6, .int 16), (5, .int 1), (3, .long (gq_it (kb_X6_digestOfTables_29_1 S w1) 0 g1 (i + 1))), (0, .ref (a 0)), (1, .long w1)]) (by rw [gq_it_s _ _ h0, ← et7]; rw [eg8]; rfl) ?_
      exact ih hlt
    · obtain rfl : i = 16 := by omega
      refine gq_icmp_ge (tgt := 58) X dX6_digestOfTables_33 (by decide) (fun _ => ?_) (fun h => absurd (nI_le (Nat.le_refl _) (by decide)) h)
      refine gq_eqlv2 (lv' := [(7, .int (nI 16)), (6, .int 16), (5, .int 1), (3, .long g5), (0, .ref (a 0)), (1, .long w1)]) (by rw [et7, eg5]) ?_
      refine gq_iinc (lv' := [(5, .int 2), (7, .int (nI 16)), (6, .int 16), (3, .long g5), (0, .ref (a 0)), (1, .long w1)]) X dX6_digestOfTables_58 2 rfl (by decide) (by decide) rfl ?_
      refine gq_goto (tgt := 5) X dX6_digestOfTables_61 (by decide) ?_
      refine gq_iload X dX6_digestOfTables_5 0 rfl ?_
      refine gq_iconst (v := 5) X dX6_digestOfTables_7 gq_i5 ?_
      refine gq_icmp_gt (tgt := 64) X dX6_digestOfTables_8 (by decide) (fun h => absurd h (by decide)) (fun _ => ?_)
      refine gq_iload X dX6_digestOfTables_11 0 rfl ?_
      refine gq_iconst (v := 2) X dX6_digestOfTables_13 gq_i2 ?_
      refine gq_icmp_gt (tgt := 22) X dX6_digestOfTables_14 (by decide) (fun h => absurd h (by decide)) (fun _ => ?_)
      refine gq_bipush (v := 16) X dX6_digestOfTables_17 (by decide) ?_
      refine gq_goto (tgt := 24) X dX6_digestOfTables_19 (by decide) ?_
      refine gq_istore (lv' := [(6, .int 16), (5, .int 2), (7, .int (nI 16)), (3, .long g5), (0, .ref (a 0)), (1, .long w1)]) X dX6_digestOfTables_24 (by decide) rfl ?_
      refine gq_iconst (v := 0) X dX6_digestOfTables_26 gq_i0 ?_
      refine gq_istore (lv' := [(7, .int 0), (6, .int 16), (5, .int 2), (3, .long g5), (0, .ref (a 0)), (1, .long w1)]) X dX6_digestOfTables_27 (by decide) rfl ?_
      refine gq_letr (fun g9 eg9 => ?_)
      refine gq_eqlv2 (lv' := [(7, .int 0), (6, .int 16), (5, .int 2), (3, .long (gq_it (kb_X6_digestOfTables_29_2 S w1) 0 g5 0)), (0, .ref (a 0)), (1, .long w1)]) (by rw [gq_it_0]) ?_
      refine gq_loop (N := 16) (i0 := 0) (fun i => gw_GF cA a S) (fun i => [(7, .int (nI i)), (6, .int 16), (5, .int 2), (3, .long (gq_it (kb_X6_digestOfTables_29_2 S w1) 0 g5 i)), (0, .ref (a 0)), (1, .long w1)]) (Nat.zero_le _) (fun i hi h0 ih => ?_)
      obtain ⟨t11, et11⟩ : ∃ y, y = gq_it (kb_X6_digestOfTables_29_2 S w1) 0 g5 i := ⟨_, rfl⟩
      refine gq_eqlv2 (lv' := [(7, .int (nI i)), (6, .int 16), (5, .int 2), (3, .long t11), (0, .ref (a 0)), (1, .long w1)]) (by rw [et11]) ?_
      refine gq_iload X dX6_digestOfTables_29 0 rfl ?_
      refine gq_iload X dX6_digestOfTables_31 1 rfl ?_
      rcases Nat.lt_or_ge i 16 with hlt | hge
      · refine gq_icmp_ge (tgt := 58) X dX6_digestOfTables_33 (by decide) (fun h => absurd h (nI_ge hlt (by decide))) (fun _ => ?_)
        refine gq_ldc2 (v := 31) X kX6_digestOfTables_160 dX6_digestOfTables_36 ?_
        refine gq_lload_n X dX6_digestOfTables_39 3 rfl ?_
        refine gq_lmul X dX6_digestOfTables_40 ?_
        refine gq_aload_n X dX6_digestOfTables_41 4 rfl ?_
        refine gq_iload X dX6_digestOfTables_42 2 rfl ?_
        refine gq_iload X dX6_digestOfTables_44 0 rfl ?_
        refine gq_callVr (ws' := gw_GF cA a S) X (c_X6_table l D cA a S 2 (nI i)) rfl ⟨rfl, rfl⟩ ⟨Nat.le_of_ble_eq_true rfl, Nat.le_of_ble_eq_true rfl⟩ gX6_digestOfTables_X6_table hv_X6_table 0 gl_GF_c0 rfl [0, 1, 2, 3, 4, 5, 6, 7, 8, 9, 10, 11, 12, 13, 14, 15, 16, 17, 18, 19, 20, 21, 22, 23, 24, 25, 26, 27, 28, 29, 30, 31, 32, 33, 34, 35, 36, 37, 38, 39, 40, 41, 42] gl_GF_self_at gl_GF_self_nd gl_GF_fst gl_GF_self_same rfl rfl (Nat.le_of_ble_eq_true rfl) ⟨Nat.zero_le _, Nat.zero_le _⟩ dX6_digestOfTables_46 ?_
        refine gq_i2l X dX6_digestOfTables_49 ?_
        refine gq_ladd X dX6_digestOfTables_50 ?_
        obtain ⟨g12, eg12⟩ : ∃ y, y = (31 * t11) + ((k_X6_table S 2 (nI i)).toInt64) := ⟨_, rfl⟩
        refine gq_eqst (st' := .long g12 :: _) (by rw [eg12]) ?_
        refine gq_lstore_n (lv' := [(3, .long g12), (7, .int (nI i)), (6, .int 16), (5, .int 2), (0, .ref (a 0)), (1, .long w1)]) X dX6_digestOfTables_51 (by decide) rfl ?_
        refine gq_iinc (lv' := [(7, .int (nI (i + 1))), (3, .long g12), (6, .int 16), (5, .int 2), (0, .ref (a 0)), (1, .long w1)]) X dX6_digestOfTables_52 1 rfl (nI_1 i) (by decide) rfl ?_
        refine gq_goto (tgt := 29) X dX6_digestOfTables_55 (by decide) ?_
        refine gq_eqlv (lv' := [(7, .int (nI (i + 1))), (6, .int 16), (5, .int 2), (3, .long g12), (0, .ref (a 0)), (1, .long w1)]) [0, 2, 3, 1, 4, 5] rfl ?_
        refine gq_eqlv2 (lv' := [(7, .int (nI (i + 1))), (6, .int 16), (5, .int 2), (3, .long (gq_it (kb_X6_digestOfTables_29_2 S w1) 0 g5 (i + 1))), (0, .ref (a 0)), (1, .long w1)]) (by rw [gq_it_s _ _ h0, ← et11]; rw [eg12]; rfl) ?_
        exact ih hlt
      · obtain rfl : i = 16 := by omega
        refine gq_icmp_ge (tgt := 58) X dX6_digestOfTables_33 (by decide) (fun _ => ?_) (fun h => absurd (nI_le (Nat.le_refl _) (by decide)) h)
        refine gq_eqlv2 (lv' := [(7, .int (nI 16)), (6, .int 16), (5, .int 2), (3, .long g9), (0, .ref (a 0)), (1, .long w1)]) (by rw [et11, eg9]) ?_
        refine gq_iinc (lv' := [(5, .int 3), (7, .int (nI 16)), (6, .int 16), (3, .long g9), (0, .ref (a 0)), (1, .long w1)]) X dX6_digestOfTables_58 2 rfl (by decide) (by decide) rfl ?_
        refine gq_goto (tgt := 5) X dX6_digestOfTables_61 (by decide) ?_
        refine gq_iload X dX6_digestOfTables_5 0 rfl ?_
        refine gq_iconst (v := 5) X dX6_digestOfTables_7 gq_i5 ?_
        refine gq_icmp_gt (tgt := 64) X dX6_digestOfTables_8 (by decide) (fun h => absurd h (by decide)) (fun _ => ?_)
        refine gq_iload X dX6_digestOfTables_11 0 rfl ?_
        refine gq_iconst (v := 2) X dX6_digestOfTables_13 gq_i2 ?_
        refine gq_icmp_gt (tgt := 22) X dX6_digestOfTables_14 (by decide) (fun _ => ?_) (fun h => absurd (by decide) h)
        refine gq_bipush (v := 8) X dX6_digestOfTables_22 (by decide) ?_
        refine gq_istore (lv' := [(6, .int 8), (5, .int 3), (7, .int (nI 16)), (3, .long g9), (0, .ref (a 0)), (1, .long w1)]) X dX6_digestOfTables_24 (by decide) rfl ?_
        refine gq_iconst (v := 0) X dX6_digestOfTables_26 gq_i0 ?_
        refine gq_istore (lv' := [(7, .int 0), (6, .int 8), (5, .int 3), (3, .long g9), (0, .ref (a 0)), (1, .long w1)]) X dX6_digestOfTables_27 (by decide) rfl ?_
        refine gq_letr (fun g13 eg13 => ?_)
        refine gq_eqlv2 (lv' := [(7, .int 0), (6, .int 8), (5, .int 3), (3, .long (gq_it (kb_X6_digestOfTables_29_3 S w1) 0 g9 0)), (0, .ref (a 0)), (1, .long w1)]) (by rw [gq_it_0]) ?_
        refine gq_loop (N := 8) (i0 := 0) (fun i => gw_GF cA a S) (fun i => [(7, .int (nI i)), (6, .int 8), (5, .int 3), (3, .long (gq_it (kb_X6_digestOfTables_29_3 S w1) 0 g9 i)), (0, .ref (a 0)), (1, .long w1)]) (Nat.zero_le _) (fun i hi h0 ih => ?_)
        obtain ⟨t15, et15⟩ : ∃ y, y = gq_it (kb_X6_digestOfTables_29_3 S w1) 0 g9 i := ⟨_, rfl⟩
        refine gq_eqlv2 (lv' := [(7, .int (nI i)), (6, .int 8), (5, .int 3), (3, .long t15), (0, .ref (a 0)), (1, .long w1)]) (by rw [et15]) ?_
        refine gq_iload X dX6_digestOfTables_29 0 rfl ?_
        refine gq_iload X dX6_digestOfTables_31 1 rfl ?_
        rcases Nat.lt_or_ge i 8 with hlt | hge
        · refine gq_icmp_ge (tgt := 58) X dX6_digestOfTables_33 (by decide) (fun h => absurd h (nI_ge hlt (by decide))) (fun _ => ?_)
          refine gq_ldc2 (v := 31) X kX6_digestOfTables_160 dX6_digestOfTables_36 ?_
          refine gq_lload_n X dX6_digestOfTables_39 3 rfl ?_
          refine gq_lmul X dX6_digestOfTables_40 ?_
          refine gq_aload_n X dX6_digestOfTables_41 4 rfl ?_
          refine gq_iload X dX6_digestOfTables_42 2 rfl ?_
          refine gq_iload X dX6_digestOfTables_44 0 rfl ?_
          refine gq_callVr (ws' := gw_GF cA a S) X (c_X6_table l D cA a S 3 (nI i)) rfl ⟨rfl, rfl⟩ ⟨Nat.le_of_ble_eq_true rfl, Nat.le_of_ble_eq_true rfl⟩ gX6_digestOfTables_X6_table hv_X6_table 0 gl_GF_c0 rfl [0, 1, 2, 3, 4, 5, 6, 7, 8, 9, 10, 11, 12, 13, 14, 15, 16, 17, 18, 19, 20, 21, 22, 23, 24, 25, 26, 27, 28, 29, 30, 31, 32, 33, 34, 35, 36, 37, 38, 39, 40, 41, 42] gl_GF_self_at gl_GF_self_nd gl_GF_fst gl_GF_self_same rfl rfl (Nat.le_of_ble_eq_true rfl) ⟨Nat.zero_le _, Nat.zero_le _⟩ dX6_digestOfTables_46 ?_
          refine gq_i2l X dX6_digestOfTables_49 ?_
          refine gq_ladd X dX6_digestOfTables_50 ?_
          obtain ⟨g16, eg16⟩ : ∃ y, y = (31 * t15) + ((k_X6_table S 3 (nI i)).toInt64) := ⟨_, rfl⟩
          refine gq_eqst (st' := .long g16 :: _) (by rw [eg16]) ?_
          refine gq_lstore_n (lv' := [(3, .long g16), (7, .int (nI i)), (6, .int 8), (5, .int 3), (0, .ref (a 0)), (1, .long w1)]) X dX6_digestOfTables_51 (by decide) rfl ?_
          refine gq_iinc (lv' := [(7, .int (nI (i + 1))), (3, .long g16), (6, .int 8), (5, .int 3), (0, .ref (a 0)), (1, .long w1)]) X dX6_digestOfTables_52 1 rfl (nI_1 i) (by decide) rfl ?_
          refine gq_goto (tgt := 29) X dX6_digestOfTables_55 (by decide) ?_
          refine gq_eqlv (lv' := [(7, .int (nI (i + 1))), (6, .int 8), (5, .int 3), (3, .long g16), (0, .ref (a 0)), (1, .long w1)]) [0, 2, 3, 1, 4, 5] rfl ?_
          refine gq_eqlv2 (lv' := [(7, .int (nI (i + 1))), (6, .int 8), (5, .int 3), (3, .long (gq_it (kb_X6_digestOfTables_29_3 S w1) 0 g9 (i + 1))), (0, .ref (a 0)), (1, .long w1)]) (by rw [gq_it_s _ _ h0, ← et15]; rw [eg16]; rfl) ?_
          exact ih hlt
        · obtain rfl : i = 8 := by omega
          refine gq_icmp_ge (tgt := 58) X dX6_digestOfTables_33 (by decide) (fun _ => ?_) (fun h => absurd (nI_le (Nat.le_refl _) (by decide)) h)
          refine gq_eqlv2 (lv' := [(7, .int (nI 8)), (6, .int 8), (5, .int 3), (3, .long g13), (0, .ref (a 0)), (1, .long w1)]) (by rw [et15, eg13]) ?_
          refine gq_iinc (lv' := [(5, .int 4), (7, .int (nI 8)), (6, .int 8), (3, .long g13), (0, .ref (a 0)), (1, .long w1)]) X dX6_digestOfTables_58 2 rfl (by decide) (by decide) rfl ?_
          refine gq_goto (tgt := 5) X dX6_digestOfTables_61 (by decide) ?_
          refine gq_iload X dX6_digestOfTables_5 0 rfl ?_
          refine gq_iconst (v := 5) X dX6_digestOfTables_7 gq_i5 ?_
          refine gq_icmp_gt (tgt := 64) X dX6_digestOfTables_8 (by decide) (fun h => absurd h (by decide)) (fun _ => ?_)
          refine gq_iload X dX6_digestOfTables_11 0 rfl ?_
          refine gq_iconst (v := 2) X dX6_digestOfTables_13 gq_i2 ?_
          refine gq_icmp_gt (tgt := 22) X dX6_digestOfTables_14 (by decide) (fun _ => ?_) (fun h => absurd (by decide) h)
          refine gq_bipush (v := 8) X dX6_digestOfTables_22 (by decide) ?_
          refine gq_istore (lv' := [(6, .int 8), (5, .int 4), (7, .int (nI 8)), (3, .long g13), (0, .ref (a 0)), (1, .long w1)]) X dX6_digestOfTables_24 (by decide) rfl ?_
          refine gq_iconst (v := 0) X dX6_digestOfTables_26 gq_i0 ?_
          refine gq_istore (lv' := [(7, .int 0), (6, .int 8), (5, .int 4), (3, .long g13), (0, .ref (a 0)), (1, .long w1)]) X dX6_digestOfTables_27 (by decide) rfl ?_
          refine gq_letr (fun g17 eg17 => ?_)
          refine gq_eqlv2 (lv' := [(7, .int 0), (6, .int 8), (5, .int 4), (3, .long (gq_it (kb_X6_digestOfTables_29_4 S w1) 0 g13 0)), (0, .ref (a 0)), (1, .long w1)]) (by rw [gq_it_0]) ?_
          refine gq_loop (N := 8) (i0 := 0) (fun i => gw_GF cA a S) (fun i => [(7, .int (nI i)), (6, .int 8), (5, .int 4), (3, .long (gq_it (kb_X6_digestOfTables_29_4 S w1) 0 g13 i)), (0, .ref (a 0)), (1, .long w1)]) (Nat.zero_le _) (fun i hi h0 ih => ?_)
          obtain ⟨t19, et19⟩ : ∃ y, y = gq_it (kb_X6_digestOfTables_29_4 S w1) 0 g13 i := ⟨_, rfl⟩
          refine gq_eqlv2 (lv' := [(7, .int (nI i)), (6, .int 8), (5, .int 4), (3, .long t19), (0, .ref (a 0)), (1, .long w1)]) (by rw [et19]) ?_
          refine gq_iload X dX6_digestOfTables_29 0 rfl ?_
          refine gq_iload X dX6_digestOfTables_31 1 rfl ?_
          rcases Nat.lt_or_ge i 8 with hlt | hge
          · refine gq_icmp_ge (tgt := 58) X dX6_digestOfTables_33 (by decide) (fun h => absurd h (nI_ge hlt (by decide))) (fun _ => ?_)
            refine gq_ldc2 (v := 31) X kX6_digestOfTables_160 dX6_digestOfTables_36 ?_
            refine gq_lload_n X dX6_digestOfTables_39 3 rfl ?_
            refine gq_lmul X dX6_digestOfTables_40 ?_
            refine gq_aload_n X dX6_digestOfTables_41 4 rfl ?_
            refine gq_iload X dX6_digestOfTables_42 2 rfl ?_
            refine gq_iload X dX6_digestOfTables_44 0 rfl ?_
            refine gq_callVr (ws' := gw_GF cA a S) X (c_X6_table l D cA a S 4 (nI i)) rfl ⟨rfl, rfl⟩ ⟨Nat.le_of_ble_eq_true rfl, Nat.le_of_ble_eq_true rfl⟩ gX6_digestOfTables_X6_table hv_X6_table 0 gl_GF_c0 rfl [0, 1, 2, 3, 4, 5, 6, 7, 8, 9, 10, 11, 12, 13, 14, 15, 16, 17, 18, 19, 20, 21, 22, 23, 24, 25, 26, 27, 28, 29, 30, 31, 32, 33, 34, 35, 36, 37, 38, 39, 40, 41, 42] gl_GF_self_at gl_GF_self_nd gl_GF_fst gl_GF_self_same rfl rfl (Nat.le_of_ble_eq_true rfl) ⟨Nat.zero_le _, Nat.zero_le _⟩ dX6_digestOfTables_46 ?_
            refine gq_i2l X dX6_digestOfTables_49 ?_
            refine gq_ladd X dX6_digestOfTables_50 ?_
            obtain ⟨g20, eg20⟩ : ∃ y, y = (31 * t19) + ((k_X6_table S 4 (nI i)).toInt64) := ⟨_, rfl⟩
            refine gq_eqst (st' := .long g20 :: _) (by rw [eg20]) ?_
            refine gq_lstore_n (lv' := [(3, .long g20), (7, .int (nI i)), (6, .int 8), (5, .int 4), (0, .ref (a 0)), (1, .long w1)]) X dX6_digestOfTables_51 (by decide) rfl ?_
            refine gq_iinc (lv' := [(7, .int (nI (i + 1))), (3, .long g20), (6, .int 8), (5, .int 4), (0, .ref (a 0)), (1, .long w1)]) X dX6_digestOfTables_52 1 rfl (nI_1 i) (by decide) rfl ?_
            refine gq_goto (tgt := 29) X dX6_digestOfTables_55 (by decide) ?_
            refine gq_eqlv (lv' := [(7, .int (nI (i + 1))), (6, .int 8), (5, .int 4), (3, .long g20), (0, .ref (a 0)), (1, .long w1)]) [0, 2, 3, 1, 4, 5] rfl ?_
            refine gq_eqlv2 (lv' := [(7, .int (nI (i + 1))), (6, .int 8), (5, .int 4), (3, .long (gq_it (kb_X6_digestOfTables_29_4 S w1) 0 g13 (i + 1))), (0, .ref (a 0)), (1, .long w1)]) (by rw [gq_it_s _ _ h0, ← et19]; rw [eg20]; rfl) ?_
            exact ih hlt
          · obtain rfl : i = 8 := by omega
            refine gq_icmp_ge (tgt := 58) X dX6_digestOfTables_33 (by decide) (fun _ => ?_) (fun h => absurd (nI_le (Nat.le_refl _) (by decide)) h)
            refine gq_eqlv2 (lv' := [(7, .int (nI 8)), (6, .int 8), (5, .int 4), (3, .long g17), (0, .ref (a 0)), (1, .long w1)]) (by rw [et19, eg17]) ?_
            refine gq_iinc (lv' := [(5, .int 5), (7, .int (nI 8)), (6, .int 8), (3, .long g17), (0, .ref (a 0)), (1, .long w1)]) X dX6_digestOfTables_58 2 rfl (by decide) (by decide) rfl ?_
            refine gq_goto (tgt := 5) X dX6_digestOfTables_61 (by decide) ?_
            refine gq_iload X dX6_digestOfTables_5 0 rfl ?_
            refine gq_iconst (v := 5) X dX6_digestOfTables_7 gq_i5 ?_
            refine gq_icmp_gt (tgt := 64) X dX6_digestOfTables_8 (by decide) (fun h => absurd h (by decide)) (fun _ => ?_)
            refine gq_iload X dX6_digestOfTables_11 0 rfl ?_
            refine gq_iconst (v := 2) X dX6_digestOfTables_13 gq_i2 ?_
            refine gq_icmp_gt (tgt := 22) X dX6_digestOfTables_14 (by decide) (fun _ => ?_) (fun h => absurd (by decide) h)
            refine gq_bipush (v := 8) X dX6_digestOfTables_22 (by decide) ?_
            refine gq_istore (lv' := [(6, .int 8), (5, .int 5), (7, .int (nI 8)), (3, .long g17), (0, .ref (a 0)), (1, .long w1)]) X dX6_digestOfTables_24 (by decide) rfl ?_
            refine gq_iconst (v := 0) X dX6_digestOfTables_26 gq_i0 ?_
            refine gq_istore (lv' := [(7, .int 0), (6, .int 8), (5, .int 5), (3, .long g17), (0, .ref (a 0)), (1, .long w1)]) X dX6_digestOfTables_27 (by decide) rfl ?_
            refine gq_letr (fun g21 eg21 => ?_)
            refine gq_eqlv2 (lv' := [(7, .int 0), (6, .int 8), (5, .int 5), (3, .long (gq_it (kb_X6_digestOfTables_29_5 S w1) 0 g17 0)), (0, .ref (a 0)), (1, .long w1)]) (by rw [gq_it_0]) ?_
            refine gq_loop (N := 8) (i0 := 0) (fun i => gw_GF cA a S) (fun i => [(7, .int (nI i)), (6, .int 8), (5, .int 5), (3, .long (gq_it (kb_X6_digestOfTables_29_5 S w1) 0 g17 i)), (0, .ref (a 0)), (1, .long w1)]) (Nat.zero_le _) (fun i hi h0 ih => ?_)
            obtain ⟨t23, et23⟩ : ∃ y, y = gq_it (kb_X6_digestOfTables_29_5 S w1) 0 g17 i := ⟨_, rfl⟩
            refine gq_eqlv2 (lv' := [(7, .int (nI i)), (6, .int 8), (5, .int 5), (3, .long t23), (0, .ref (a 0)), (1, .long w1)]) (by rw [et23]) ?_
            refine gq_iload X dX6_digestOfTables_29 0 rfl ?_
            refine gq_iload X dX6_digestOfTables_31 1 rfl ?_
            rcases Nat.lt_or_ge i 8 with hlt | hge
            · refine gq_icmp_ge (tgt := 58) X dX6_digestOfTables_33 (by decide) (fun h => absurd h (nI_ge hlt (by decide))) (fun _ => ?_)
              refine gq_ldc2 (v := 31) X kX6_digestOfTables_160 dX6_digestOfTables_36 ?_
              refine gq_lload_n X dX6_digestOfTables_39 3 rfl ?_
              refine gq_lmul X dX6_digestOfTables_40 ?_
              refine gq_aload_n X dX6_digestOfTables_41 4 rfl ?_
              refine gq_iload X dX6_digestOfTables_42 2 rfl ?_
              refine gq_iload X dX6_digestOfTables_44 0 rfl ?_
              refine gq_callVr (ws' := gw_GF cA a S) X (c_X6_table l D cA a S 5 (nI i)) rfl ⟨rfl, rfl⟩ ⟨Nat.le_of_ble_eq_true rfl, Nat.le_of_ble_eq_true rfl⟩ gX6_digestOfTables_X6_table hv_X6_table 0 gl_GF_c0 rfl [0, 1, 2, 3, 4, 5, 6, 7, 8, 9, 10, 11, 12, 13, 14, 15, 16, 17, 18, 19, 20, 21, 22, 23, 24, 25, 26, 27, 28, 29, 30, 31, 32, 33, 34, 35, 36, 37, 38, 39, 40, 41, 42] gl_GF_self_at gl_GF_self_nd gl_GF_fst gl_GF_self_same rfl rfl (Nat.le_of_ble_eq_true rfl) ⟨Nat.zero_le _, Nat.zero_le _⟩ dX6_digestOfTables_46 ?_
              refine gq_i2l X dX6_digestOfTables_49 ?_
              refine gq_ladd X dX6_digestOfTables_50 ?_
              obtain ⟨g24, eg24⟩ : ∃ y, y = (31 * t23) + ((k_X6_table S 5 (nI i)).toInt64) := ⟨_, rfl⟩
              refine gq_eqst (st' := .long g24 :: _) (by rw [eg24]) ?_
              refine gq_lstore_n (lv' := [(3, .long g24), (7, .int (nI i)), (6, .int 8), (5, .int 5), (0, .ref (a 0)), (1, .long w1)]) X dX6_digestOfTables_51 (by decide) rfl ?_
              refine gq_iinc (lv' := [(7, .int (nI (i + 1))), (3, .long g24), (6, .int 8), (5, .int 5), (0, .ref (a 0)), (1, .long w1)]) X dX6_digestOfTables_52 1 rfl (nI_1 i) (by decide) rfl ?_
              refine gq_goto (tgt := 29) X dX6_digestOfTables_55 (by decide) ?_
              refine gq_eqlv (lv' := [(7, .int (nI (i + 1))), (6, .int 8), (5, .int 5), (3, .long g24), (0, .ref (a 0)), (1, .long w1)]) [0, 2, 3, 1, 4, 5] rfl ?_
              refine gq_eqlv2 (lv' := [(7, .int (nI (i + 1))), (6, .int 8), (5, .int 5), (3, .long (gq_it (kb_X6_digestOfTables_29_5 S w1) 0 g17 (i + 1))), (0, .ref (a 0)), (1, .long w1)]) (by rw [gq_it_s _ _ h0, ← et23]; rw [eg24]; rfl) ?_
              exact ih hlt
            · obtain rfl : i = 8 := by omega
              refine gq_icmp_ge (tgt := 58) X dX6_digestOfTables_33 (by decide) (fun _ => ?_) (fun h => absurd (nI_le (Nat.le_refl _) (by decide)) h)
              refine gq_eqlv2 (lv' := [(7, .int (nI 8)), (6, .int 8), (5, .int 5), (3, .long g21), (0, .ref (a 0)), (1, .long w1)]) (by rw [et23, eg21]) ?_
              refine gq_iinc (lv' := [(5, .int 6), (7, .int (nI 8)), (6, .int 8), (3, .long g21), (0, .ref (a 0)), (1, .long w1)]) X dX6_digestOfTables_58 2 rfl (by decide) (by decide) rfl ?_
              refine gq_goto (tgt := 5) X dX6_digestOfTables_61 (by decide) ?_
              refine gq_iload X dX6_digestOfTables_5 0 rfl ?_
              refine gq_iconst (v := 5) X dX6_digestOfTables_7 gq_i5 ?_
              refine gq_icmp_gt (tgt := 64) X dX6_digestOfTables_8 (by decide) (fun _ => ?_) (fun h => absurd (by decide) h)
              refine gq_ldc2 (v := 31) X kX6_digestOfTables_160 dX6_digestOfTables_64 ?_
              refine gq_lload_n X dX6_digestOfTables_67 3 rfl ?_
              refine gq_lmul X dX6_digestOfTables_68 ?_
              refine gq_aload_n X dX6_digestOfTables_69 4 rfl ?_
              refine gq_bipush (v := 6) X dX6_digestOfTables_70 (by decide) ?_
              refine gq_iconst (v := 0) X dX6_digestOfTables_72 gq_i0 ?_
              refine gq_callVr (ws' := gw_GF cA a S) X (c_X6_table l D cA a S 6 0) rfl ⟨rfl, rfl⟩ ⟨Nat.le_of_ble_eq_true rfl, Nat.le_of_ble_eq_true rfl⟩ gX6_digestOfTables_X6_table hv_X6_table 0 gl_GF_c0 rfl [0, 1, 2, 3, 4, 5, 6, 7, 8, 9, 10, 11, 12, 13, 14, 15, 16, 17, 18, 19, 20, 21, 22, 23, 24, 25, 26, 27, 28, 29, 30, 31, 32, 33, 34, 35, 36, 37, 38, 39, 40, 41, 42] gl_GF_self_at gl_GF_self_nd gl_GF_fst gl_GF_self_same rfl rfl (Nat.le_of_ble_eq_true rfl) ⟨Nat.zero_le _, Nat.zero_le _⟩ dX6_digestOfTables_73 ?_
              refine gq_i2l X dX6_digestOfTables_76 ?_
              refine gq_ladd X dX6_digestOfTables_77 ?_
              refine gq_letr (fun g25 eg25 => ?_)
              refine gq_eqst (st' := .long g25 :: _) (by rw [eg25]) ?_
              refine gq_lstore_n (lv' := [(3, .long g25), (5, .int 6), (7, .int (nI 8)), (6, .int 8), (0, .ref (a 0)), (1, .long w1)]) X dX6_digestOfTables_78 (by decide) rfl ?_
              refine gq_ldc2 (v := 31) X kX6_digestOfTables_160 dX6_digestOfTables_79 ?_
              refine gq_lload_n X dX6_digestOfTables_82 0 rfl ?_
              refine gq_lmul X dX6_digestOfTables_83 ?_
              refine gq_aload_n X dX6_digestOfTables_84 4 rfl ?_
              refine gq_bipush (v := 8) X dX6_digestOfTables_85 (by decide) ?_
              refine gq_iconst (v := 0) X dX6_digestOfTables_87 gq_i0 ?_
              refine gq_callVr (ws' := gw_GF cA a S) X (c_X6_table l D cA a S 8 0) rfl ⟨rfl, rfl⟩ ⟨Nat.le_of_ble_eq_true rfl, Nat.le_of_ble_eq_true rfl⟩ gX6_digestOfTables_X6_table hv_X6_table 0 gl_GF_c0 rfl [0, 1, 2, 3, 4, 5, 6, 7, 8, 9, 10, 11, 12, 13, 14, 15, 16, 17, 18, 19, 20, 21, 22, 23, 24, 25, 26, 27, 28, 29, 30, 31, 32, 33, 34, 35, 36, 37, 38, 39, 40, 41, 42] gl_GF_self_at gl_GF_self_nd gl_GF_fst gl_GF_self_same rfl rfl (Nat.le_of_ble_eq_true rfl) ⟨Nat.zero_le _, Nat.zero_le _⟩ dX6_digestOfTables_88 ?_
              refine gq_i2l X dX6_digestOfTables_91 ?_
              refine gq_ladd X dX6_digestOfTables_92 ?_
              refine gq_letr (fun g26 eg26 => ?_)
              refine gq_eqst (st' := .long g26 :: _) (by rw [eg26]) ?_
              refine gq_lstore_n (lv' := [(3, .long g26), (5, .int 6), (7, .int (nI 8)), (6, .int 8), (0, .ref (a 0)), (1, .long w1)]) X dX6_digestOfTables_93 (by decide) rfl ?_
              refine gq_iconst (v := 0) X dX6_digestOfTables_94 gq_i0 ?_
              refine gq_istore (lv' := [(5, .int 0), (3, .long g26), (7, .int (nI 8)), (6, .int 8), (0, .ref (a 0)), (1, .long w1)]) X dX6_digestOfTables_95 (by decide) rfl ?_
              refine gq_letr (fun g27 eg27 => ?_)
              refine gq_eqlv2 (lv' := [(5, .int 0), (3, .long (gq_it (kb_X6_digestOfTables_97 S w1) 0 g26 0)), (7, .int (nI 8)), (6, .int 8), (0, .ref (a 0)), (1, .long w1)]) (by rw [gq_it_0]) ?_
              refine gq_loop (N := (gq_ix (k_X2_size 4 (gF_gues S).2.2.2.2.2.2.1))) (i0 := 0) (fun i => gw_GF cA a S) (fun i => [(5, .int (nI i)), (3, .long (gq_it (kb_X6_digestOfTables_97 S w1) 0 g26 i)), (7, .int (nI 8)), (6, .int 8), (0, .ref (a 0)), (1, .long w1)]) (Nat.zero_le _) (fun i hi h0 ih => ?_)
              obtain ⟨t29, et29⟩ : ∃ y, y = gq_it (kb_X6_digestOfTables_97 S w1) 0 g26 i := ⟨_, rfl⟩
              refine gq_eqlv2 (lv' := [(5, .int (nI i)), (3, .long t29), (7, .int (nI 8)), (6, .int 8), (0, .ref (a 0)), (1, .long w1)]) (by rw [et29]) ?_
              refine gq_iload X dX6_digestOfTables_97 0 rfl ?_
              refine gq_aload_n X dX6_digestOfTables_99 4 rfl ?_
              refine gq_get (C := RX6) (T := TX6) (N := 10) X iX6_digestOfTables_X6 0 gl_GF_c0 rfl 2 (by decide) fX6_digestOfTables_X6_2 rfl dX6_digestOfTables_100 ?_
              refine gq_callVr (ws' := gw_GF cA a S) X (gq_Ceq (res2 := some (Value.ref (a 24))) (c_X1_returns l D cA (a 11) (a 12) (a 13) (a 14) (a 15) (a 16) (a 17) (a 18) (a 19) (a 20) (a 21) (a 22) (a 23) (a 24) (a 25) (gF_gues S)) rfl rfl) rfl ⟨rfl, rfl⟩ ⟨Nat.le_of_ble_eq_true rfl, Nat.le_of_ble_eq_true rfl⟩ gX6_digestOfTables_X1_returns hv_X1_returns 11 rfl rfl [11, 12, 13, 14, 15, 16, 17, 18, 19, 20, 21, 22, 23, 24, 25] gl_GF_11_at gl_GF_11_nd gl_Gues_fst gl_GF_11_same rfl rfl (Nat.le_of_ble_eq_true rfl) ⟨Nat.zero_le _, Nat.zero_le _⟩ dX6_digestOfTables_103 ?_
              refine gq_callVr (ws' := gw_GF cA a S) X (c_X2_size l D cA (a 24) (a 25) 4 (by decide) ((gF_gues S).2.2.2.2.2.2.1)) rfl ⟨rfl, rfl⟩ ⟨Nat.le_of_ble_eq_true rfl, Nat.le_of_ble_eq_true rfl⟩ gX6_digestOfTables_X2_size hv_X2_size 24 rfl rfl [24, 25] gl_GF_24_at gl_GF_24_nd gl_Pile_fst gl_GF_24_same rfl rfl (Nat.le_of_ble_eq_true rfl) ⟨Nat.zero_le _, Nat.zero_le _⟩ dX6_digestOfTables_106 ?_
              rcases Nat.lt_or_ge i (gq_ix (k_X2_size 4 (gF_gues S).2.2.2.2.2.2.1)) with hlt | hge
              · refine gq_icmp_ge (tgt := 134) X dX6_digestOfTables_109 (by decide) (fun h => absurd h (by rw [mv_self hrs (by decide)]; exact nI_ge hlt (by have := mv_ix hrs; omega))) (fun _ => ?_)
                refine gq_ldc2 (v := 31) X kX6_digestOfTables_160 dX6_digestOfTables_112 ?_
                refine gq_lload_n X dX6_digestOfTables_115 1 rfl ?_
                refine gq_lmul X dX6_digestOfTables_116 ?_
                refine gq_aload_n X dX6_digestOfTables_117 4 rfl ?_
                refine gq_bipush (v := 7) X dX6_digestOfTables_118 (by decide) ?_
                refine gq_iload X dX6_digestOfTables_120 0 rfl ?_
                refine gq_callVr (ws' := gw_GF cA a S) X (c_X6_table l D cA a S 7 (nI i)) rfl ⟨rfl, rfl⟩ ⟨Nat.le_of_ble_eq_true rfl, Nat.le_of_ble_eq_true rfl⟩ gX6_digestOfTables_X6_table hv_X6_table 0 gl_GF_c0 rfl [0, 1, 2, 3, 4, 5, 6, 7, 8, 9, 10, 11, 12, 13, 14, 15, 16, 17, 18, 19, 20, 21, 22, 23, 24, 25, 26, 27, 28, 29, 30, 31, 32, 33, 34, 35, 36, 37, 38, 39, 40, 41, 42] gl_GF_self_at gl_GF_self_nd gl_GF_fst gl_GF_self_same rfl rfl (Nat.le_of_ble_eq_true rfl) ⟨Nat.zero_le _, Nat.zero_le _⟩ dX6_digestOfTables_122 ?_
                refine gq_i2l X dX6_digestOfTables_125 ?_
                refine gq_ladd X dX6_digestOfTables_126 ?_
                obtain ⟨g30, eg30⟩ : ∃ y, y = (31 * t29) + ((k_X6_table S 7 (nI i)).toInt64) := ⟨_, rfl⟩
                refine gq_eqst (st' := .long g30 :: _) (by rw [eg30]) ?_
                refine gq_lstore_n (lv' := [(3, .long g30), (5, .int (nI i)), (7, .int (nI 8)), (6, .int 8), (0, .ref (a 0)), (1, .long w1)]) X dX6_digestOfTables_127 (by decide) rfl ?_
                refine gq_iinc (lv' := [(5, .int (nI (i + 1))), (3, .long g30), (7, .int (nI 8)), (6, .int 8), (0, .ref (a 0)), (1, .long w1)]) X dX6_digestOfTables_128 1 rfl (nI_1 i) (by decide) rfl ?_
                refine gq_goto (tgt := 97) X dX6_digestOfTables_131 (by decide) ?_
                refine gq_eqlv2 (lv' := [(5, .int (nI (i + 1))), (3, .long (gq_it (kb_X6_digestOfTables_97 S w1) 0 g26 (i + 1))), (7, .int (nI 8)), (6, .int 8), (0, .ref (a 0)), (1, .long w1)]) (by rw [gq_it_s _ _ h0, ← et29]; rw [eg30]; rfl) ?_
                exact ih hlt
              · have hiN : (gq_ix (k_X2_size 4 (gF_gues S).2.2.2.2.2.2.1)) = i := by omega
                subst hiN
                refine gq_icmp_ge (tgt := 134) X dX6_digestOfTables_109 (by decide) (fun _ => ?_) (fun h => absurd (by rw [mv_self hrs (by decide), gq_cl (by have := mv_ix hrs; omega)]; exact nI_le (Nat.le_refl _) (by have := mv_ix hrs; omega)) h)
                refine gq_eqlv2 (lv' := [(5, .int (nI (gq_ix (k_X2_size 4 (gF_gues S).2.2.2.2.2.2.1)))), (3, .long g27), (7, .int (nI 8)), (6, .int 8), (0, .ref (a 0)), (1, .long w1)]) (by rw [et29, eg27]) ?_
                refine gq_lload_n X dX6_digestOfTables_134 1 rfl ?_
                exact gq_lretf X dX6_digestOfTables_135 rfl rfl
theorem iX6_digest_X6 : ∀ w ∈ u_ws RX6 TX6 10, w ∈ wsX6_digest := by decide +kernel
theorem fX6_digest_X6_0 : Cond.fieldLink RX6 10 (TX6 0).1 (TX6 0).2.1 (TX6 0).2.2.1 ∈ wsX6_digest := by decide +kernel
theorem fX6_digest_X6_1 : Cond.fieldLink RX6 19 (TX6 1).1 (TX6 1).2.1 (TX6 1).2.2.1 ∈ wsX6_digest := by decide +kernel
theorem fX6_digest_X6_3 : Cond.fieldLink RX6 33 (TX6 3).1 (TX6 3).2.1 (TX6 3).2.2.1 ∈ wsX6_digest := by decide +kernel
theorem kX6_digest_158 : Cond.constantLong RX6 158 73 ∈ wsX6_digest := by decide +kernel
theorem kX6_digest_160 : Cond.constantLong RX6 160 31 ∈ wsX6_digest := by decide +kernel
theorem hv_X6_digest : yX6_digest.cls = RX6 ∧ yX6_digest.cls ≠ "java/lang/invoke/MethodHandle" ∧ yX6_digest.cls ≠ "java/lang/invoke/VarHandle" ∧ (parseMethodDescriptor yX6_digest.desc).map (fun d => d.parameters.length) = some 0 := by decide +kernel
def kb_X6_digest_6 (S : gs_F) (i : Nat) (t3 : Int64) : Int64 :=
  gq_lt ((31 * t3) + ((k_X6_told S (nI i) 0).toInt64)) (fun g4 =>
  gq_lt ((31 * g4) + ((k_X6_told S (nI i) 1).toInt64)) (fun g5 =>
  gq_lt ((31 * g5) + ((k_X6_told S (nI i) 2).toInt64)) (fun g6 =>
  gq_lt ((31 * g6) + ((k_X6_told S (nI i) 3).toInt64)) (fun g7 =>
  g7))))
def kb_X6_digest_55 (S : gs_F) (i : Nat) (t10 : Int64) : Int64 :=
  gq_lt ((31 * t10) + (k_X6_value S (nI i))) (fun g11 =>
  g11)
def kb_X6_digest_81 (S : gs_F) (i : Nat) (t14 : Int64) : Int64 :=
  gq_lt ((31 * t14) + ((k_X6_stack S (nI i)).toInt64)) (fun g15 =>
  g15)
def kb_X6_digest_119 (S : gs_F) (i : Nat) (t19 : Int64) : Int64 :=
  gq_lt ((31 * t19) + ((k_X6_fetched S (nI i)).toInt64)) (fun g20 =>
  g20)
def kb_X6_digest_151 (S : gs_F) (i : Nat) (t23 : Int64) : Int64 :=
  gq_lt ((31 * t23) + ((k_X6_count S (nI i)).toInt64)) (fun g24 =>
  g24)
def k_X6_digest (S : gs_F) : Int64 :=
  gq_lt (gq_it (kb_X6_digest_6 S) 0 73 (gq_ix (k_X3_size (gF_prog S)))) (fun g1 =>
  gq_lt (gq_it (kb_X6_digest_55 S) 0 g1 24) (fun g8 =>
  gq_lt (gq_it (kb_X6_digest_81 S) 0 g8 (gq_ix (k_X0_stackSize (gF_core S)))) (fun g12 =>
  gq_lt (k_X6_digestOfTables S g12) (fun g16 =>
  gq_lt (gq_it (kb_X6_digest_119 S) 0 g16 (gq_ix (k_X4_size (gF_queue S)))) (fun g17 =>
  gq_lt (gq_it (kb_X6_digest_151 S) 0 g17 18) (fun g21 =>
  g21))))))
set_option maxHeartbeats 4000000 in
set_option maxRecDepth 100000 in
theorem c_X6_digest (l : Launch) (D : va_G) (cA : ClassId) (a : Nat → Nat) (S : gs_F)  (hps : vp_in (k_X3_size (gF_prog S)) 61) (hss : vp_in (k_X0_stackSize (gF_core S)) 17) (hqs : vp_in (k_X4_size (gF_queue S)) 9) (hrs : vp_in (k_X2_size 4 (gF_gues S).2.2.2.2.2.2.1) 5) : gq_C l yX6_digest wsX6_digest ({ frames := 5, cells := 0, slots := 0, locals := 113 } : Room) D cA [.ref (a 0)] (gw_GF cA a S) (some (.long (k_X6_digest S))) (gw_GF cA a S) := by
  refine gq_openf (own := RX6) (lv := [(0, .ref (a 0))]) (fun r : Int64 => (some (.long r), gw_GF cA a S)) (k_X6_digest S) (by decide) rfl rfl (Nat.le_of_ble_eq_true rfl) rfl rfl rfl (fun p e s m args below meth c A X => ?_)
  unfold k_X6_digest
  refine gq_ldc2 (v := 73) X kX6_digest_158 dX6_digest_0 ?_
  refine gq_lstore_n (lv' := [(1, .long 73), (0, .ref (a 0))]) X dX6_digest_3 (by decide) rfl ?_
  refine gq_iconst (v := 0) X dX6_digest_4 gq_i0 ?_
  refine gq_istore_n (lv' := [(3, .int 0), (1, .long 73), (0, .ref (a 0))]) X dX6_digest_5 (by decide) rfl ?_
  refine gq_letr (fun g1 eg1 => ?_)
  refine gq_eqlv2 (lv' := [(3, .int 0), (1, .long (gq_it (kb_X6_digest_6 S) 0 73 0)), (0, .ref (a 0))]) (by rw [gq_it_0]) ?_
  refine gq_loop (N := (gq_ix (k_X3_size (gF_prog S)))) (i0 := 0) (fun i => gw_GF cA a S) (fun i => [(3, .int (nI i)), (1, .long (gq_it (kb_X6_digest_6 S) 0 73 i)), (0, .ref (a 0))]) (Nat.zero_le _) (fun i hi h0 ih => ?_)
  obtain ⟨t3, et3⟩ : ∃ y, y = gq_it (kb_X6_digest_6 S) 0 73 i := ⟨_, rfl⟩
  refine gq_eqlv2 (lv' := [(3, .int (nI i)), (1, .long t3), (0, .ref (a 0))]) (by rw [et3]) ?_
  refine gq_iload_n X dX6_digest_6 0 rfl ?_
  refine gq_aload_n X dX6_digest_7 2 rfl ?_
  refine gq_get (C := RX6) (T := TX6) (N := 10) X iX6_digest_X6 0 gl_GF_c0 rfl 0 (by decide) fX6_digest_X6_0 rfl dX6_digest_8 ?_
  refine gq_callVr (ws' := gw_GF cA a S) X (c_X3_size l D cA (a 1) (a 2) (a 3) (gF_prog S)) rfl ⟨rfl, rfl⟩ ⟨Nat.le_of_ble_eq_true rfl, Nat.le_of_ble_eq_true rfl⟩ gX6_digest_X3_size hv_X3_size 1 rfl rfl [1, 2, 3] gl_GF_1_at gl_GF_1_nd gl_Prog_fst gl_GF_1_same rfl rfl (Nat.le_of_ble_eq_true rfl) ⟨Nat.zero_le _, Nat.zero_le _⟩ dX6_digest_11 ?_
  rcases Nat.lt_or_ge i (gq_ix (k_X3_size (gF_prog S))) with hlt | hge
  · refine gq_icmp_ge (tgt := 53) X dX6_digest_14 (by decide) (fun h => absurd h (by rw [mv_self hps (by decide)]; exact nI_ge hlt (by have := mv_ix hps; omega))) (fun _ => ?_)
    refine gq_iconst (v := 0) X dX6_digest_17 gq_i0 ?_
    refine gq_istore (lv' := [(4, .int 0), (3, .int (nI i)), (1, .long t3), (0, .ref (a 0))]) X dX6_digest_18 (by decide) rfl ?_
    refine gq_iload X dX6_digest_20 0 rfl ?_
    refine gq_iconst (v := 3) X dX6_digest_22 gq_i3 ?_
    refine gq_icmp_gt (tgt := 47) X dX6_digest_23 (by decide) (fun h => absurd h (by decide)) (fun _ => ?_)
    refine gq_ldc2 (v := 31) X kX6_digest_160 dX6_digest_26 ?_
    refine gq_lload_n X dX6_digest_29 2 rfl ?_
    refine gq_lmul X dX6_digest_30 ?_
    refine gq_aload_n X dX6_digest_31 3 rfl ?_
    refine gq_iload_n X dX6_digest_32 1 rfl ?_
    refine gq_iload X dX6_digest_33 0 rfl ?_
    refine gq_callVr (ws' := gw_GF cA a S) X (c_X6_told l D cA a S (nI i) 0) rfl ⟨rfl, rfl⟩ ⟨Nat.le_of_ble_eq_true rfl, Nat.le_of_ble_eq_true rfl⟩ gX6_digest_X6_told hv_X6_told 0 gl_GF_c0 rfl [0, 1, 2, 3, 4, 5, 6, 7, 8, 9, 10, 11, 12, 13, 14, 15, 16, 17, 18, 19, 20, 21, 22, 23, 24, 25, 26, 27, 28, 29, 30, 31, 32, 33, 34, 35, 36, 37, 38, 39, 40, 41, 42] gl_GF_self_at gl_GF_self_nd gl_GF_fst gl_GF_self_same rfl rfl (Nat.le_of_ble_eq_true rfl) ⟨Nat.zero_le _, Nat.zero_le _⟩ dX6_digest_35 ?_
    refine gq_i2l X dX6_digest_38 ?_
    refine gq_ladd X dX6_digest_39 ?_
    obtain ⟨g4, eg4⟩ : ∃ y, y = (31 * t3) + ((k_X6_told S (nI i) 0).toInt64) := ⟨_, rfl⟩
    refine gq_eqst (st' := .long g4 :: _) (by rw [eg4]) ?_
    refine gq_lstore_n (lv' := [(1, .long g4), (4, .int 0), (3, .int (nI i)), (0, .ref (a 0))]) X dX6_digest_40 (by decide) rfl ?_
    refine gq_iinc (lv' := [(4, .int 1), (1, .long g4), (3, .int (nI i)), (0, .ref (a 0))]) X dX6_digest_41 1 rfl (by decide) (by decide) rfl ?_
    refine gq_goto (tgt := 20) X dX6_digest_44 (by decide) ?_
    refine gq_iload X dX6_digest_20 0 rfl ?_
    refine gq_iconst (v := 3) X dX6_digest_22 gq_i3 ?_
    refine gq_icmp_gt (tgt := 47) X dX6_digest_23 (by decide) (fun h => absurd h (by decide)) (fun _ => ?_)
    refine gq_ldc2 (v := 31) X kX6_digest_160 dX6_digest_26 ?_
    refine gq_lload_n X dX6_digest_29 1 rfl ?_
    refine gq_lmul X dX6_digest_30 ?_
    refine gq_aload_n X dX6_digest_31 3 rfl ?_
    refine gq_iload_n X dX6_digest_32 2 rfl ?_
    refine gq_iload X dX6_digest_33 0 rfl ?_
    refine gq_callVr (ws' := gw_GF cA a S) X (c_X6_told l D cA a S (nI i) 1) rfl ⟨rfl, rfl⟩ ⟨Nat.le_of_ble_eq_true rfl, Nat.le_of_ble_eq_true rfl⟩ gX6_digest_X6_told hv_X6_told 0 gl_GF_c0 rfl [0, 1, 2, 3, 4, 5, 6, 7, 8, 9, 10, 11, 12, 13, 14, 15, 16, 17, 18, 19, 20, 21, 22, 23, 24, 25, 26, 27, 28, 29, 30, 31, 32, 33, 34, 35, 36, 37, 38, 39, 40, 41, 42] gl_GF_self_at gl_GF_self_nd gl_GF_fst gl_GF_self_same rfl rfl (Nat.le_of_ble_eq_true rfl) ⟨Nat.zero_le _, Nat.zero_le _⟩ dX6_digest_35 ?_
    refine gq_i2l X dX6_digest_38 ?_
    refine gq_ladd X dX6_digest_39 ?_
    obtain ⟨g5, eg5⟩ : ∃ y, y = (31 * g4) + ((k_X6_told S (nI i) 1).toInt64) := ⟨_, rfl⟩
    refine gq_eqst (st' := .long g5 :: _) (by rw [eg5]) ?_
    refine gq_lstore_n (lv' := [(1, .long g5), (4, .int 1), (3, .int (nI i)), (0, .ref (a 0))]) X dX6_digest_40 (by decide) rfl ?_
    refine gq_iinc (lv' := [(4, .int 2), (1, .long g5), (3, .int (nI i)), (0, .ref (a 0))]) X dX6_digest_41 1 rfl (by decide) (by decide) rfl ?_
    refine gq_goto (tgt := 20) X dX6_digest_44 (by decide) ?_
    refine gq_iload X dX6_digest_20 0 rfl ?_
    refine gq_iconst (v := 3) X dX6_digest_22 gq_i3 ?_
    refine gq_icmp_gt (tgt := 47) X dX6_digest_23 (by decide) (fun h => absurd h (by decide)) (fun _ => ?_)
    refine gq_ldc2 (v := 31) X kX6_digest_160 dX6_digest_26 ?_
    refine gq_lload_n X dX6_digest_29 1 rfl ?_
    refine gq_lmul X dX6_digest_30 ?_
    refine gq_aload_n X dX6_digest_31 3 rfl ?_
    refine gq_iload_n X dX6_digest_32 2 rfl ?_
    refine gq_iload X dX6_digest_33 0 rfl ?_
    refine gq_callVr (ws' := gw_GF cA a S) X (c_X6_told l D cA a S (nI i) 2) rfl ⟨rfl, rfl⟩ ⟨Nat.le_of_ble_eq_true rfl, Nat.le_of_ble_eq_true rfl⟩ gX6_digest_X6_told hv_X6_told 0 gl_GF_c0 rfl [0, 1, 2, 3, 4, 5, 6, 7, 8, 9, 10, 11, 12, 13, 14, 15, 16, 17, 18, 19, 20, 21, 22, 23, 24, 25, 26, 27, 28, 29, 30, 31, 32, 33, 34, 35, 36, 37, 38, 39, 40, 41, 42] gl_GF_self_at gl_GF_self_nd gl_GF_fst gl_GF_self_same rfl rfl (Nat.le_of_ble_eq_true rfl) ⟨Nat.zero_le _, Nat.zero_le _⟩ dX6_digest_35 ?_
    refine gq_i2l X dX6_digest_38 ?_
    refine gq_ladd X dX6_digest_39 ?_
    obtain ⟨g6, eg6⟩ : ∃ y, y = (31 * g5) + ((k_X6_told S (nI i) 2).toInt64) := ⟨_, rfl⟩
    refine gq_eqst (st' := .long g6 :: _) (by rw [eg6]) ?_
    refine gq_lstore_n (lv' := [(1, .long g6), (4, .int 2), (3, .int (nI i)), (0, .ref (a 0))]) X dX6_digest_40 (by decide) rfl ?_
    refine gq_iinc (lv' := [(4, .int 3), (1, .long g6), (3, .int (nI i)), (0, .ref (a 0))]) X dX6_digest_41 1 rfl (by decide) (by decide) rfl ?_
    refine gq_goto (tgt := 20) X dX6_digest_44 (by decide) ?_
    refine gq_iload X dX6_digest_20 0 rfl ?_
    refine gq_iconst (v := 3) X dX6_digest_22 gq_i3 ?_
    refine gq_icmp_gt (tgt := 47) X dX6_digest_23 (by decide) (fun h => absurd h (by decide)) (fun _ => ?_)
    refine gq_ldc2 (v := 31) X kX6_digest_160 dX6_digest_26 ?_
    refine gq_lload_n X dX6_digest_29 1 rfl ?_
    refine gq_lmul X dX6_digest_30 ?_
    refine gq_aload_n X dX6_digest_31 3 rfl ?_
    refine gq_iload_n X dX6_digest_32 2 rfl ?_
    refine gq_iload X dX6_digest_33 0 rfl ?_
    refine gq_callVr (ws' := gw_GF cA a S) X (c_X6_told l D cA a S (nI i) 3) rfl ⟨rfl, rfl⟩ ⟨Nat.le_of_ble_eq_true rfl, Nat.le_of_ble_eq_true rfl⟩ gX6_digest_X6_told hv_X6_told 0 gl_GF_c0 rfl [0, 1, 2, 3, 4, 5, 6, 7, 8, 9, 10, 11, 12, 13, 14, 15, 16, 17, 18, 19, 20, 21, 22, 23, 24, 25, 26, 27, 28, 29, 30, 31, 32, 33, 34, 35, 36, 37, 38, 39, 40, 41, 42] gl_GF_self_at gl_GF_self_nd gl_GF_fst gl_GF_self_same rfl rfl (Nat.le_of_ble_eq_true rfl) ⟨Nat.zero_le _, Nat.zero_le _⟩ dX6_digest_35 ?_
    refine gq_i2l X dX6_digest_38 ?_
    refine gq_ladd X dX6_digest_39 ?_
    obtain ⟨g7, eg7⟩ : ∃ y, y = (31 * g6) + ((k_X6_told S (nI i) 3).toInt64) := ⟨_, rfl⟩
    refine gq_eqst (st' := .long g7 :: _) (by rw [eg7]) ?_
    refine gq_lstore_n (lv' := [(1, .long g7), (4, .int 3), (3, .int (nI i)), (0, .ref (a 0))]) X dX6_digest_40 (by decide) rfl ?_
    refine gq_iinc (lv' := [(4, .int 4), (1, .long g7), (3, .int (nI i)), (0, .ref (a 0))]) X dX6_digest_41 1 rfl (by decide) (by decide) rfl ?_
    refine gq_goto (tgt := 20) X dX6_digest_44 (by decide) ?_
    refine gq_iload X dX6_digest_20 0 rfl ?_
    refine gq_iconst (v := 3) X dX6_digest_22 gq_i3 ?_
    refine gq_icmp_gt (tgt := 47) X dX6_digest_23 (by decide) (fun _ => ?_) (fun h => absurd (by decide) h)
    refine gq_iinc (lv' := [(3, .int (nI (i + 1))), (4, .int 4), (1, .long g7), (0, .ref (a 0))]) X dX6_digest_47 2 rfl (nI_1 i) (by decide) rfl ?_
    refine gq_goto (tgt := 6) X dX6_digest_50 (by decide) ?_
    refine gq_eqlv (lv' := [(3, .int (nI (i + 1))), (1, .long g7), (0, .ref (a 0))]) [0, 2, 3] rfl ?_
    refine gq_eqlv2 (lv' := [(3, .int (nI (i + 1))), (1, .long (gq_it (kb_X6_digest_6 S) 0 73 (i + 1))), (0, .ref (a 0))]) (by rw [gq_it_s _ _ h0, ← et3]; rw [eg7, eg6, eg5, eg4]; rfl) ?_
    exact ih hlt
  · have hiN : (gq_ix (k_X3_size (gF_prog S))) = i := by omega
    subst hiN
    refine gq_icmp_ge (tgt := 53) X dX6_digest_14 (by decide) (fun _ => ?_) (fun h => absurd (by rw [mv_self hps (by decide), gq_cl (by have := mv_ix hps; omega)]; exact nI_le (Nat.le_refl _) (by have := mv_ix hps; omega)) h)
    refine gq_eqlv2 (lv' := [(3, .int (nI (gq_ix (k_X3_size (gF_prog S))))), (1, .long g1), (0, .ref (a 0))]) (by rw [et3, eg1]) ?_
    refine gq_iconst (v := 0) X dX6_digest_53 gq_i0 ?_
    refine gq_istore_n (lv' := [(3, .int 0), (1, .long g1), (0, .ref (a 0))]) X dX6_digest_54 (by decide) rfl ?_
    refine gq_letr (fun g8 eg8 => ?_)
    refine gq_eqlv2 (lv' := [(3, .int 0), (1, .long (gq_it (kb_X6_digest_55 S) 0 g1 0)), (0, .ref (a 0))]) (by rw [gq_it_0]) ?_
    refine gq_loop (N := 24) (i0 := 0) (fun i => gw_GF cA a S) (fun i => [(3, .int (nI i)), (1, .long (gq_it (kb_X6_digest_55 S) 0 g1 i)), (0, .ref (a 0))]) (Nat.zero_le _) (fun i hi h0 ih => ?_)
    obtain ⟨t10, et10⟩ : ∃ y, y = gq_it (kb_X6_digest_55 S) 0 g1 i := ⟨_, rfl⟩
    refine gq_eqlv2 (lv' := [(3, .int (nI i)), (1, .long t10), (0, .ref (a 0))]) (by rw [et10]) ?_
    refine gq_iload_n X dX6_digest_55 0 rfl ?_
    refine gq_bipush (v := 24) X dX6_digest_56 (by decide) ?_
    rcases Nat.lt_or_ge i 24 with hlt | hge
    · refine gq_icmp_ge (tgt := 79) X dX6_digest_58 (by decide) (fun h => absurd h (nI_ge hlt (by decide))) (fun _ => ?_)
      refine gq_ldc2 (v := 31) X kX6_digest_160 dX6_digest_61 ?_
      refine gq_lload_n X dX6_digest_64 1 rfl ?_
      refine gq_lmul X dX6_digest_65 ?_
      refine gq_aload_n X dX6_digest_66 2 rfl ?_
      refine gq_iload_n X dX6_digest_67 0 rfl ?_
      refine gq_callVr (ws' := gw_GF cA a S) X (c_X6_value l D cA a S (nI i)) rfl ⟨rfl, rfl⟩ ⟨Nat.le_of_ble_eq_true rfl, Nat.le_of_ble_eq_true rfl⟩ gX6_digest_X6_value hv_X6_value 0 gl_GF_c0 rfl [0, 1, 2, 3, 4, 5, 6, 7, 8, 9, 10, 11, 12, 13, 14, 15, 16, 17, 18, 19, 20, 21, 22, 23, 24, 25, 26, 27, 28, 29, 30, 31, 32, 33, 34, 35, 36, 37, 38, 39, 40, 41, 42] gl_GF_self_at gl_GF_self_nd gl_GF_fst gl_GF_self_same rfl rfl (Nat.le_of_ble_eq_true rfl) ⟨Nat.zero_le _, Nat.zero_le _⟩ dX6_digest_68 ?_
      refine gq_ladd X dX6_digest_71 ?_
      obtain ⟨g11, eg11⟩ : ∃ y, y = (31 * t10) + (k_X6_value S (nI i)) := ⟨_, rfl⟩
      refine gq_eqst (st' := .long g11 :: _) (by rw [eg11]) ?_
      refine gq_lstore_n (lv' := [(1, .long g11), (3, .int (nI i)), (0, .ref (a 0))]) X dX6_digest_72 (by decide) rfl ?_
      refine gq_iinc (lv' := [(3, .int (nI (i + 1))), (1, .long g11), (0, .ref (a 0))]) X dX6_digest_73 1 rfl (nI_1 i) (by decide) rfl ?_
      refine gq_goto (tgt := 55) X dX6_digest_76 (by decide) ?_
      refine gq_eqlv2 (lv' := [(3, .int (nI (i + 1))), (1, .long (gq_it (kb_X6_digest_55 S) 0 g1 (i + 1))), (0, .ref (a 0))]) (by rw [gq_it_s _ _ h0, ← et10]; rw [eg11]; rfl) ?_
      exact ih hlt
    · obtain rfl : i = 24 := by omega
      refine gq_icmp_ge (tgt := 79) X dX6_digest_58 (by decide) (fun _ => ?_) (fun h => absurd (nI_le (Nat.le_refl _) (by decide)) h)
      refine gq_eqlv2 (lv' := [(3, .int (nI 24)), (1, .long g8), (0, .ref (a 0))]) (by rw [et10, eg8]) ?_
      refine gq_iconst (v := 0) X dX6_digest_79 gq_i0 ?_
      refine gq_istore_n (lv' := [(3, .int 0), (1, .long g8), (0, .ref (a 0))]) X dX6_digest_80 (by decide) rfl ?_
      refine gq_letr (fun g12 eg12 => ?_)
      refine gq_eqlv2 (lv' := [(3, .int 0), (1, .long (gq_it (kb_X6_digest_81 S) 0 g8 0)), (0, .ref (a 0))]) (by rw [gq_it_0]) ?_
      refine gq_loop (N := (gq_ix (k_X0_stackSize (gF_core S)))) (i0 := 0) (fun i => gw_GF cA a S) (fun i => [(3, .int (nI i)), (1, .long (gq_it (kb_X6_digest_81 S) 0 g8 i)), (0, .ref (a 0))]) (Nat.zero_le _) (fun i hi h0 ih => ?_)
      obtain ⟨t14, et14⟩ : ∃ y, y = gq_it (kb_X6_digest_81 S) 0 g8 i := ⟨_, rfl⟩
      refine gq_eqlv2 (lv' := [(3, .int (nI i)), (1, .long t14), (0, .ref (a 0))]) (by rw [et14]) ?_
      refine gq_iload_n X dX6_digest_81 0 rfl ?_
      refine gq_aload_n X dX6_digest_82 2 rfl ?_
      refine gq_get (C := RX6) (T := TX6) (N := 10) X iX6_digest_X6 0 gl_GF_c0 rfl 1 (by decide) fX6_digest_X6_1 rfl dX6_digest_83 ?_
      refine gq_callVr (ws' := gw_GF cA a S) X (c_X0_stackSize l D cA (a 4) (a 5) (a 6) (a 7) (a 8) (a 9) (a 10) (gF_core S)) rfl ⟨rfl, rfl⟩ ⟨Nat.le_of_ble_eq_true rfl, Nat.le_of_ble_eq_true rfl⟩ gX6_digest_X0_stackSize hv_X0_stackSize 4 rfl rfl [4, 5, 6, 7, 8, 9, 10] gl_GF_4_at gl_GF_4_nd gl_Core_fst gl_GF_4_same rfl rfl (Nat.le_of_ble_eq_true rfl) ⟨Nat.zero_le _, Nat.zero_le _⟩ dX6_digest_86 ?_
      rcases Nat.lt_or_ge i (gq_ix (k_X0_stackSize (gF_core S))) with hlt | hge
      · refine gq_icmp_ge (tgt := 111) X dX6_digest_89 (by decide) (fun h => absurd h (by rw [mv_self hss (by decide)]; exact nI_ge hlt (by have := mv_ix hss; omega))) (fun _ => ?_)
        refine gq_ldc2 (v := 31) X kX6_digest_160 dX6_digest_92 ?_
        refine gq_lload_n X dX6_digest_95 1 rfl ?_
        refine gq_lmul X dX6_digest_96 ?_
        refine gq_aload_n X dX6_digest_97 2 rfl ?_
        refine gq_iload_n X dX6_digest_98 0 rfl ?_
        refine gq_callVr (ws' := gw_GF cA a S) X (c_X6_stack l D cA a S (nI i)) rfl ⟨rfl, rfl⟩ ⟨Nat.le_of_ble_eq_true rfl, Nat.le_of_ble_eq_true rfl⟩ gX6_digest_X6_stack hv_X6_stack 0 gl_GF_c0 rfl [0, 1, 2, 3, 4, 5, 6, 7, 8, 9, 10, 11, 12, 13, 14, 15, 16, 17, 18, 19, 20, 21, 22, 23, 24, 25, 26, 27, 28, 29, 30, 31, 32, 33, 34, 35, 36, 37, 38, 39, 40, 41, 42] gl_GF_self_at gl_GF_self_nd gl_GF_fst gl_GF_self_same rfl rfl (Nat.le_of_ble_eq_true rfl) ⟨Nat.zero_le _, Nat.zero_le _⟩ dX6_digest_99 ?_
        refine gq_i2l X dX6_digest_102 ?_
        refine gq_ladd X dX6_digest_103 ?_
        obtain ⟨g15, eg15⟩ : ∃ y, y = (31 * t14) + ((k_X6_stack S (nI i)).toInt64) := ⟨_, rfl⟩
        refine gq_eqst (st' := .long g15 :: _) (by rw [eg15]) ?_
        refine gq_lstore_n (lv' := [(1, .long g15), (3, .int (nI i)), (0, .ref (a 0))]) X dX6_digest_104 (by decide) rfl ?_
        refine gq_iinc (lv' := [(3, .int (nI (i + 1))), (1, .long g15), (0, .ref (a 0))]) X dX6_digest_105 1 rfl (nI_1 i) (by decide) rfl ?_
        refine gq_goto (tgt := 81) X dX6_digest_108 (by decide) ?_
        refine gq_eqlv2 (lv' := [(3, .int (nI (i + 1))), (1, .long (gq_it (kb_X6_digest_81 S) 0 g8 (i + 1))), (0, .ref (a 0))]) (by rw [gq_it_s _ _ h0, ← et14]; rw [eg15]; rfl) ?_
        exact ih hlt
      · have hiN : (gq_ix (k_X0_stackSize (gF_core S))) = i := by omega
        subst hiN
        refine gq_icmp_ge (tgt := 111) X dX6_digest_89 (by decide) (fun _ => ?_) (fun h => absurd (by rw [mv_self hss (by decide), gq_cl (by have := mv_ix hss; omega)]; exact nI_le (Nat.le_refl _) (by have := mv_ix hss; omega)) h)
        refine gq_eqlv2 (lv' := [(3, .int (nI (gq_ix (k_X0_stackSize (gF_core S))))), (1, .long g12), (0, .ref (a 0))]) (by rw [et14, eg12]) ?_
        refine gq_aload_n X dX6_digest_111 2 rfl ?_
        refine gq_lload_n X dX6_digest_112 1 rfl ?_
        refine gq_callVr (ws' := gw_GF cA a S) X (c_X6_digestOfTables l D cA a S g12 hrs) rfl ⟨rfl, rfl⟩ ⟨Nat.le_of_ble_eq_true rfl, Nat.le_of_ble_eq_true rfl⟩ gX6_digest_X6_digestOfTables hv_X6_digestOfTables 0 gl_GF_c0 rfl [0, 1, 2, 3, 4, 5, 6, 7, 8, 9, 10, 11, 12, 13, 14, 15, 16, 17, 18, 19, 20, 21, 22, 23, 24, 25, 26, 27, 28, 29, 30, 31, 32, 33, 34, 35, 36, 37, 38, 39, 40, 41, 42] gl_GF_self_at gl_GF_self_nd gl_GF_fst gl_GF_self_same rfl rfl (Nat.le_of_ble_eq_true rfl) ⟨Nat.zero_le _, Nat.zero_le _⟩ dX6_digest_113 ?_
        refine gq_letr (fun g16 eg16 => ?_)
        refine gq_eqst (st' := .long g16 :: _) (by rw [eg16]) ?_
        refine gq_lstore_n (lv' := [(1, .long g16), (3, .int (nI (gq_ix (k_X0_stackSize (gF_core S))))), (0, .ref (a 0))]) X dX6_digest_116 (by decide) rfl ?_
        refine gq_iconst (v := 0) X dX6_digest_117 gq_i0 ?_
        refine gq_istore_n (lv' := [(3, .int 0), (1, .long g16), (0, .ref (a 0))]) X dX6_digest_118 (by decide) rfl ?_
        refine gq_letr (fun g17 eg17 => ?_)
        refine gq_eqlv2 (lv' := [(3, .int 0), (1, .long (gq_it (kb_X6_digest_119 S) 0 g16 0)), (0, .ref (a 0))]) (by rw [gq_it_0]) ?_
        refine gq_loop (N := (gq_ix (k_X4_size (gF_queue S)))) (i0 := 0) (fun i => gw_GF cA a S) (fun i => [(3, .int (nI i)), (1, .long (gq_it (kb_X6_digest_119 S) 0 g16 i)), (0, .ref (a 0))]) (Nat.zero_le _) (fun i hi h0 ih => ?_)
        obtain ⟨t19, et19⟩ : ∃ y, y = gq_it (kb_X6_digest_119 S) 0 g16 i := ⟨_, rfl⟩
        refine gq_eqlv2 (lv' := [(3, .int (nI i)), (1, .long t19), (0, .ref (a 0))]) (by rw [et19]) ?_
        refine gq_iload_n X dX6_digest_119 0 rfl ?_
        refine gq_aload_n X dX6_digest_120 2 rfl ?_
        refine gq_get (C := RX6) (T := TX6) (N := 10) X iX6_digest_X6 0 gl_GF_c0 rfl 3 (by decide) fX6_digest_X6_3 rfl dX6_digest_121 ?_
        refine gq_callVr (ws' := gw_GF cA a S) X (c_X4_size l D cA (a 26) (a 27) (a 28) (a 29) (a 30) (a 31) (a 32) (a 33) (a 34) (a 35) (a 36) (a 37) (a 38) (gF_queue S)) rfl ⟨rfl, rfl⟩ ⟨Nat.le_of_ble_eq_true rfl, Nat.le_of_ble_eq_true rfl⟩ gX6_digest_X4_size hv_X4_size 26 rfl rfl [26, 27, 28, 29, 30, 31, 32, 33, 34, 35, 36, 37, 38] gl_GF_26_at gl_GF_26_nd gl_Que_fst gl_GF_26_same rfl rfl (Nat.le_of_ble_eq_true rfl) ⟨Nat.zero_le _, Nat.zero_le _⟩ dX6_digest_124 ?_
        rcases Nat.lt_or_ge i (gq_ix (k_X4_size (gF_queue S))) with hlt | hge
        · refine gq_icmp_ge (tgt := 149) X dX6_digest_127 (by decide) (fun h => absurd h (by rw [mv_self hqs (by decide)]; exact nI_ge hlt (by have := mv_ix hqs; omega))) (fun _ => ?_)
          refine gq_ldc2 (v := 31) X kX6_digest_160 dX6_digest_130 ?_
          refine gq_lload_n X dX6_digest_133 1 rfl ?_
          refine gq_lmul X dX6_digest_134 ?_
          refine gq_aload_n X dX6_digest_135 2 rfl ?_
          refine gq_iload_n X dX6_digest_136 0 rfl ?_
          refine gq_callVr (ws' := gw_GF cA a S) X (c_X6_fetched l D cA a S (nI i)) rfl ⟨rfl, rfl⟩ ⟨Nat.le_of_ble_eq_true rfl, Nat.le_of_ble_eq_true rfl⟩ gX6_digest_X6_fetched hv_X6_fetched 0 gl_GF_c0 rfl [0, 1, 2, 3, 4, 5, 6, 7, 8, 9, 10, 11, 12, 13, 14, 15, 16, 17, 18, 19, 20, 21, 22, 23, 24, 25, 26, 27, 28, 29, 30, 31, 32, 33, 34, 35, 36, 37, 38, 39, 40, 41, 42] gl_GF_self_at gl_GF_self_nd gl_GF_fst gl_GF_self_same rfl rfl (Nat.le_of_ble_eq_true rfl) ⟨Nat.zero_le _, Nat.zero_le _⟩ dX6_digest_137 ?_
          refine gq_i2l X dX6_digest_140 ?_
          refine gq_ladd X dX6_digest_141 ?_
          obtain ⟨g20, eg20⟩ : ∃ y, y = (31 * t19) + ((k_X6_fetched S (nI i)).toInt64) := ⟨_, rfl⟩
          refine gq_eqst (st' := .long g20 :: _) (by rw [eg20]) ?_
          refine gq_lstore_n (lv' := [(1, .long g20), (3, .int (nI i)), (0, .ref (a 0))]) X dX6_digest_142 (by decide) rfl ?_
          refine gq_iinc (lv' := [(3, .int (nI (i + 1))), (1, .long g20), (0, .ref (a 0))]) X dX6_digest_143 1 rfl (nI_1 i) (by decide) rfl ?_
          refine gq_goto (tgt := 119) X dX6_digest_146 (by decide) ?_
          refine gq_eqlv2 (lv' := [(3, .int (nI (i + 1))), (1, .long (gq_it (kb_X6_digest_119 S) 0 g16 (i + 1))), (0, .ref (a 0))]) (by rw [gq_it_s _ _ h0, ← et19]; rw [eg20]; rfl) ?_
          exact ih hlt
        · have hiN : (gq_ix (k_X4_size (gF_queue S))) = i := by omega
          subst hiN
          refine gq_icmp_ge (tgt := 149) X dX6_digest_127 (by decide) (fun _ => ?_) (fun h => absurd (by rw [mv_self hqs (by decide), gq_cl (by have := mv_ix hqs; omega)]; exact nI_le (Nat.le_refl _) (by have := mv_ix hqs; omega)) h)
          refine gq_eqlv2 (lv' := [(3, .int (nI (gq_ix (k_X4_size (gF_queue S))))), (1, .long g17), (0, .ref (a 0))]) (by rw [et19, eg17]) ?_
          refine gq_iconst (v := 0) X dX6_digest_149 gq_i0 ?_
          refine gq_istore_n (lv' := [(3, .int 0), (1, .long g17), (0, .ref (a 0))]) X dX6_digest_150 (by decide) rfl ?_
          refine gq_letr (fun g21 eg21 => ?_)
          refine gq_eqlv2 (lv' := [(3, .int 0), (1, .long (gq_it (kb_X6_digest_151 S) 0 g17 0)), (0, .ref (a 0))]) (by rw [gq_it_0]) ?_
          refine gq_loop (N := 18) (i0 := 0) (fun i => gw_GF cA a S) (fun i => [(3, .int (nI i)), (1, .long (gq_it (kb_X6_digest_151 S) 0 g17 i)), (0, .ref (a 0))]) (Nat.zero_le _) (fun i hi h0 ih => ?_)
          obtain ⟨t23, et23⟩ : ∃ y, y = gq_it (kb_X6_digest_151 S) 0 g17 i := ⟨_, rfl⟩
          refine gq_eqlv2 (lv' := [(3, .int (nI i)), (1, .long t23), (0, .ref (a 0))]) (by rw [et23]) ?_
          refine gq_iload_n X dX6_digest_151 0 rfl ?_
          refine gq_bipush (v := 18) X dX6_digest_152 (by decide) ?_
          rcases Nat.lt_or_ge i 18 with hlt | hge
          · refine gq_icmp_ge (tgt := 176) X dX6_digest_154 (by decide) (fun h => absurd h (nI_ge hlt (by decide))) (fun _ => ?_)
            refine gq_ldc2 (v := 31) X kX6_digest_160 dX6_digest_157 ?_
            refine gq_lload_n X dX6_digest_160 1 rfl ?_
            refine gq_lmul X dX6_digest_161 ?_
            refine gq_aload_n X dX6_digest_162 2 rfl ?_
            refine gq_iload_n X dX6_digest_163 0 rfl ?_
            refine gq_callVr (ws' := gw_GF cA a S) X (c_X6_count l D cA a S (nI i)) rfl ⟨rfl, rfl⟩ ⟨Nat.le_of_ble_eq_true rfl, Nat.le_of_ble_eq_true rfl⟩ gX6_digest_X6_count hv_X6_count 0 gl_GF_c0 rfl [0, 1, 2, 3, 4, 5, 6, 7, 8, 9, 10, 11, 12, 13, 14, 15, 16, 17, 18, 19, 20, 21, 22, 23, 24, 25, 26, 27, 28, 29, 30, 31, 32, 33, 34, 35, 36, 37, 38, 39, 40, 41, 42] gl_GF_self_at gl_GF_self_nd gl_GF_fst gl_GF_self_same rfl rfl (Nat.le_of_ble_eq_true rfl) ⟨Nat.zero_le _, Nat.zero_le _⟩ dX6_digest_164 ?_
            refine gq_i2l X dX6_digest_167 ?_
            refine gq_ladd X dX6_digest_168 ?_
            obtain ⟨g24, eg24⟩ : ∃ y, y = (31 * t23) + ((k_X6_count S (nI i)).toInt64) := ⟨_, rfl⟩
            refine gq_eqst (st' := .long g24 :: _) (by rw [eg24]) ?_
            refine gq_lstore_n (lv' := [(1, .long g24), (3, .int (nI i)), (0, .ref (a 0))]) X dX6_digest_169 (by decide) rfl ?_
            refine gq_iinc (lv' := [(3, .int (nI (i + 1))), (1, .long g24), (0, .ref (a 0))]) X dX6_digest_170 1 rfl (nI_1 i) (by decide) rfl ?_
            refine gq_goto (tgt := 151) X dX6_digest_173 (by decide) ?_
            refine gq_eqlv2 (lv' := [(3, .int (nI (i + 1))), (1, .long (gq_it (kb_X6_digest_151 S) 0 g17 (i + 1))), (0, .ref (a 0))]) (by rw [gq_it_s _ _ h0, ← et23]; rw [eg24]; rfl) ?_
            exact ih hlt
          · obtain rfl : i = 18 := by omega
            refine gq_icmp_ge (tgt := 176) X dX6_digest_154 (by decide) (fun _ => ?_) (fun h => absurd (nI_le (Nat.le_refl _) (by decide)) h)
            refine gq_eqlv2 (lv' := [(3, .int (nI 18)), (1, .long g21), (0, .ref (a 0))]) (by rw [et23, eg21]) ?_
            refine gq_lload_n X dX6_digest_176 1 rfl ?_
            exact gq_lretf X dX6_digest_177 rfl rfl
theorem mk_mix (S : gs_M) (g : Int64) : mg_acts (k_X7_mix S g) = mg_acts S ∧ mg_kinds (k_X7_mix S g) = mg_kinds S ∧ mg_as (k_X7_mix S g) = mg_as S ∧ mg_bs (k_X7_mix S g) = mg_bs S ∧ mg_cs (k_X7_mix S g) = mg_cs S ∧ mg_registers (k_X7_mix S g) = mg_registers S ∧ mg_memory (k_X7_mix S g) = mg_memory S ∧ mg_stack (k_X7_mix S g) = mg_stack S ∧ mg_deep (k_X7_mix S g) = mg_deep S ∧ mg_way (k_X7_mix S g) = mg_way S ∧ mg_depth (k_X7_mix S g) = mg_depth S ∧ mg_plain (k_X7_mix S g) = mg_plain S ∧ mg_mixed (k_X7_mix S g) = mg_mixed S ∧ mg_choice (k_X7_mix S g) = mg_choice S ∧ mg_history (k_X7_mix S g) = mg_history S ∧ mg_targetAt (k_X7_mix S g) = mg_targetAt S ∧ mg_targetKind (k_X7_mix S g) = mg_targetKind S ∧ mg_target (k_X7_mix S g) = mg_target S ∧ mg_returns (k_X7_mix S g) = mg_returns S ∧ mg_returned (k_X7_mix S g) = mg_returned S ∧ mg_fetched (k_X7_mix S g) = mg_fetched S ∧ mg_fetchAt (k_X7_mix S g) = mg_fetchAt S ∧ mg_fetchCycle (k_X7_mix S g) = mg_fetchCycle S ∧ mg_fetchGuess (k_X7_mix S g) = mg_fetchGuess S ∧ mg_fetchHistory (k_X7_mix S g) = mg_fetchHistory S ∧ mg_fetchReturned (k_X7_mix S g) = mg_fetchReturned S ∧ mg_fetchReturns (k_X7_mix S g) = mg_fetchReturns S ∧ mg_runs (k_X7_mix S g) = mg_runs S ∧ mg_ended (k_X7_mix S g) = mg_ended S ∧ mg_place (k_X7_mix S g) = mg_place S ∧ mg_counts (k_X7_mix S g) = mg_counts S ∧ mg_doneAt (k_X7_mix S g) = mg_doneAt S ∧ mg_keptReturns (k_X7_mix S g) = mg_keptReturns S := by
  unfold k_X7_mix
  simp only [gq_lt, mfr_h, and_self]
theorem iX7_digest_X7 : ∀ w ∈ u_ws RX7 TX7 34, w ∈ wsX7_digest := by decide +kernel
theorem fX7_digest_X7_0 : Cond.fieldLink RX7 100 (TX7 0).1 (TX7 0).2.1 (TX7 0).2.2.1 ∈ wsX7_digest := by decide +kernel
theorem fX7_digest_X7_7 : Cond.fieldLink RX7 28 (TX7 7).1 (TX7 7).2.1 (TX7 7).2.2.1 ∈ wsX7_digest := by decide +kernel
theorem fX7_digest_X7_8 : Cond.fieldLink RX7 114 (TX7 8).1 (TX7 8).2.1 (TX7 8).2.2.1 ∈ wsX7_digest := by decide +kernel
theorem fX7_digest_X7_14 : Cond.fieldLink RX7 89 (TX7 14).1 (TX7 14).2.1 (TX7 14).2.2.1 ∈ wsX7_digest := by decide +kernel
theorem fX7_digest_X7_18 : Cond.fieldLink RX7 53 (TX7 18).1 (TX7 18).2.1 (TX7 18).2.2.1 ∈ wsX7_digest := by decide +kernel
theorem fX7_digest_X7_19 : Cond.fieldLink RX7 120 (TX7 19).1 (TX7 19).2.1 (TX7 19).2.2.1 ∈ wsX7_digest := by decide +kernel
theorem fX7_digest_X7_20 : Cond.fieldLink RX7 117 (TX7 20).1 (TX7 20).2.1 (TX7 20).2.2.1 ∈ wsX7_digest := by decide +kernel
theorem fX7_digest_X7_21 : Cond.fieldLink RX7 56 (TX7 21).1 (TX7 21).2.1 (TX7 21).2.2.1 ∈ wsX7_digest := by decide +kernel
theorem fX7_digest_X7_33 : Cond.fieldLink RX7 185 (TX7 33).1 (TX7 33).2.1 (TX7 33).2.2.1 ∈ wsX7_digest := by decide +kernel
theorem kX7_digest_189 : Cond.constantLong RX7 189 73 ∈ wsX7_digest := by decide +kernel
theorem hv_X7_digest : yX7_digest.cls = RX7 ∧ yX7_digest.cls ≠ "java/lang/invoke/MethodHandle" ∧ yX7_digest.cls ≠ "java/lang/invoke/VarHandle" ∧ (parseMethodDescriptor yX7_digest.desc).map (fun d => d.parameters.length) = some 0 := by decide +kernel
def kb_X7_digest_9 (S : gs_M) (i : Nat) (t4 : gs_M) : gs_M :=
  gq_lt (k_X7_mix t4 ((k_X7_told t4 (nI i) 0).toInt64)) (fun s5 =>
  gq_lt (k_X7_mix s5 ((k_X7_told s5 (nI i) 1).toInt64)) (fun s6 =>
  gq_lt (k_X7_mix s6 ((k_X7_told s6 (nI i) 2).toInt64)) (fun s7 =>
  gq_lt (k_X7_mix s7 ((k_X7_told s7 (nI i) 3).toInt64)) (fun s8 =>
  s8))))
theorem mb_kb_X7_digest_9 (S : gs_M) (i : Nat) (t : gs_M) : mg_acts (kb_X7_digest_9 S i t) = mg_acts t ∧ mg_kinds (kb_X7_digest_9 S i t) = mg_kinds t ∧ mg_as (kb_X7_digest_9 S i t) = mg_as t ∧ mg_bs (kb_X7_digest_9 S i t) = mg_bs t ∧ mg_cs (kb_X7_digest_9 S i t) = mg_cs t ∧ mg_registers (kb_X7_digest_9 S i t) = mg_registers t ∧ mg_memory (kb_X7_digest_9 S i t) = mg_memory t ∧ mg_stack (kb_X7_digest_9 S i t) = mg_stack t ∧ mg_deep (kb_X7_digest_9 S i t) = mg_deep t ∧ mg_way (kb_X7_digest_9 S i t) = mg_way t ∧ mg_depth (kb_X7_digest_9 S i t) = mg_depth t ∧ mg_plain (kb_X7_digest_9 S i t) = mg_plain t ∧ mg_mixed (kb_X7_digest_9 S i t) = mg_mixed t ∧ mg_choice (kb_X7_digest_9 S i t) = mg_choice t ∧ mg_history (kb_X7_digest_9 S i t) = mg_history t ∧ mg_targetAt (kb_X7_digest_9 S i t) = mg_targetAt t ∧ mg_targetKind (kb_X7_digest_9 S i t) = mg_targetKind t ∧ mg_target (kb_X7_digest_9 S i t) = mg_target t ∧ mg_returns (kb_X7_digest_9 S i t) = mg_returns t ∧ mg_returned (kb_X7_digest_9 S i t) = mg_returned t ∧ mg_fetched (kb_X7_digest_9 S i t) = mg_fetched t ∧ mg_fetchAt (kb_X7_digest_9 S i t) = mg_fetchAt t ∧ mg_fetchCycle (kb_X7_digest_9 S i t) = mg_fetchCycle t ∧ mg_fetchGuess (kb_X7_digest_9 S i t) = mg_fetchGuess t ∧ mg_fetchHistory (kb_X7_digest_9 S i t) = mg_fetchHistory t ∧ mg_fetchReturned (kb_X7_digest_9 S i t) = mg_fetchReturned t ∧ mg_fetchReturns (kb_X7_digest_9 S i t) = mg_fetchReturns t ∧ mg_runs (kb_X7_digest_9 S i t) = mg_runs t ∧ mg_ended (kb_X7_digest_9 S i t) = mg_ended t ∧ mg_place (kb_X7_digest_9 S i t) = mg_place t ∧ mg_counts (kb_X7_digest_9 S i t) = mg_counts t ∧ mg_doneAt (kb_X7_digest_9 S i t) = mg_doneAt t ∧ mg_keptReturns (kb_X7_digest_9 S i t) = mg_keptReturns t := by
  unfold kb_X7_digest_9
  simp only [gq_lt, mk_mix, and_self]
theorem mi_kb_X7_digest_9 (S : gs_M) (s : gs_M) (i : Nat) : mg_acts (gq_it (kb_X7_digest_9 S) 0 s i) = mg_acts s ∧ mg_kinds (gq_it (kb_X7_digest_9 S) 0 s i) = mg_kinds s ∧ mg_as (gq_it (kb_X7_digest_9 S) 0 s i) = mg_as s ∧ mg_bs (gq_it (kb_X7_digest_9 S) 0 s i) = mg_bs s ∧ mg_cs (gq_it (kb_X7_digest_9 S) 0 s i) = mg_cs s ∧ mg_registers (gq_it (kb_X7_digest_9 S) 0 s i) = mg_registers s ∧ mg_memory (gq_it (kb_X7_digest_9 S) 0 s i) = mg_memory s ∧ mg_stack (gq_it (kb_X7_digest_9 S) 0 s i) = mg_stack s ∧ mg_deep (gq_it (kb_X7_digest_9 S) 0 s i) = mg_deep s ∧ mg_way (gq_it (kb_X7_digest_9 S) 0 s i) = mg_way s ∧ mg_depth (gq_it (kb_X7_digest_9 S) 0 s i) = mg_depth s ∧ mg_plain (gq_it (kb_X7_digest_9 S) 0 s i) = mg_plain s ∧ mg_mixed (gq_it (kb_X7_digest_9 S) 0 s i) = mg_mixed s ∧ mg_choice (gq_it (kb_X7_digest_9 S) 0 s i) = mg_choice s ∧ mg_history (gq_it (kb_X7_digest_9 S) 0 s i) = mg_history s ∧ mg_targetAt (gq_it (kb_X7_digest_9 S) 0 s i) = mg_targetAt s ∧ mg_targetKind (gq_it (kb_X7_digest_9 S) 0 s i) = mg_targetKind s ∧ mg_target (gq_it (kb_X7_digest_9 S) 0 s i) = mg_target s ∧ mg_returns (gq_it (kb_X7_digest_9 S) 0 s i) = mg_returns s ∧ mg_returned (gq_it (kb_X7_digest_9 S) 0 s i) = mg_returned s ∧ mg_fetched (gq_it (kb_X7_digest_9 S) 0 s i) = mg_fetched s ∧ mg_fetchAt (gq_it (kb_X7_digest_9 S) 0 s i) = mg_fetchAt s ∧ mg_fetchCycle (gq_it (kb_X7_digest_9 S) 0 s i) = mg_fetchCycle s ∧ mg_fetchGuess (gq_it (kb_X7_digest_9 S) 0 s i) = mg_fetchGuess s ∧ mg_fetchHistory (gq_it (kb_X7_digest_9 S) 0 s i) = mg_fetchHistory s ∧ mg_fetchReturned (gq_it (kb_X7_digest_9 S) 0 s i) = mg_fetchReturned s ∧ mg_fetchReturns (gq_it (kb_X7_digest_9 S) 0 s i) = mg_fetchReturns s ∧ mg_runs (gq_it (kb_X7_digest_9 S) 0 s i) = mg_runs s ∧ mg_ended (gq_it (kb_X7_digest_9 S) 0 s i) = mg_ended s ∧ mg_place (gq_it (kb_X7_digest_9 S) 0 s i) = mg_place s ∧ mg_counts (gq_it (kb_X7_digest_9 S) 0 s i) = mg_counts s ∧ mg_doneAt (gq_it (kb_X7_digest_9 S) 0 s i) = mg_doneAt s ∧ mg_keptReturns (gq_it (kb_X7_digest_9 S) 0 s i) = mg_keptReturns s := by
  induction i with
  | zero => simp only [gq_it, and_self]
  | succ i ih => simp only [gq_it, Nat.not_lt_zero, if_false, mb_kb_X7_digest_9, ih, and_self]
def kb_X7_digest_49 (S : gs_M) (i : Nat) (t11 : gs_M) : gs_M :=
  gq_lt (k_X7_mix t11 (k_X7_valueOf t11 (nI i))) (fun s12 =>
  s12)
theorem mb_kb_X7_digest_49 (S : gs_M) (i : Nat) (t : gs_M) : mg_acts (kb_X7_digest_49 S i t) = mg_acts t ∧ mg_kinds (kb_X7_digest_49 S i t) = mg_kinds t ∧ mg_as (kb_X7_digest_49 S i t) = mg_as t ∧ mg_bs (kb_X7_digest_49 S i t) = mg_bs t ∧ mg_cs (kb_X7_digest_49 S i t) = mg_cs t ∧ mg_registers (kb_X7_digest_49 S i t) = mg_registers t ∧ mg_memory (kb_X7_digest_49 S i t) = mg_memory t ∧ mg_stack (kb_X7_digest_49 S i t) = mg_stack t ∧ mg_deep (kb_X7_digest_49 S i t) = mg_deep t ∧ mg_way (kb_X7_digest_49 S i t) = mg_way t ∧ mg_depth (kb_X7_digest_49 S i t) = mg_depth t ∧ mg_plain (kb_X7_digest_49 S i t) = mg_plain t ∧ mg_mixed (kb_X7_digest_49 S i t) = mg_mixed t ∧ mg_choice (kb_X7_digest_49 S i t) = mg_choice t ∧ mg_history (kb_X7_digest_49 S i t) = mg_history t ∧ mg_targetAt (kb_X7_digest_49 S i t) = mg_targetAt t ∧ mg_targetKind (kb_X7_digest_49 S i t) = mg_targetKind t ∧ mg_target (kb_X7_digest_49 S i t) = mg_target t ∧ mg_returns (kb_X7_digest_49 S i t) = mg_returns t ∧ mg_returned (kb_X7_digest_49 S i t) = mg_returned t ∧ mg_fetched (kb_X7_digest_49 S i t) = mg_fetched t ∧ mg_fetchAt (kb_X7_digest_49 S i t) = mg_fetchAt t ∧ mg_fetchCycle (kb_X7_digest_49 S i t) = mg_fetchCycle t ∧ mg_fetchGuess (kb_X7_digest_49 S i t) = mg_fetchGuess t ∧ mg_fetchHistory (kb_X7_digest_49 S i t) = mg_fetchHistory t ∧ mg_fetchReturned (kb_X7_digest_49 S i t) = mg_fetchReturned t ∧ mg_fetchReturns (kb_X7_digest_49 S i t) = mg_fetchReturns t ∧ mg_runs (kb_X7_digest_49 S i t) = mg_runs t ∧ mg_ended (kb_X7_digest_49 S i t) = mg_ended t ∧ mg_place (kb_X7_digest_49 S i t) = mg_place t ∧ mg_counts (kb_X7_digest_49 S i t) = mg_counts t ∧ mg_doneAt (kb_X7_digest_49 S i t) = mg_doneAt t ∧ mg_keptReturns (kb_X7_digest_49 S i t) = mg_keptReturns t := by
  unfold kb_X7_digest_49
  simp only [gq_lt, mk_mix, and_self]
theorem mi_kb_X7_digest_49 (S : gs_M) (s : gs_M) (i : Nat) : mg_acts (gq_it (kb_X7_digest_49 S) 0 s i) = mg_acts s ∧ mg_kinds (gq_it (kb_X7_digest_49 S) 0 s i) = mg_kinds s ∧ mg_as (gq_it (kb_X7_digest_49 S) 0 s i) = mg_as s ∧ mg_bs (gq_it (kb_X7_digest_49 S) 0 s i) = mg_bs s ∧ mg_cs (gq_it (kb_X7_digest_49 S) 0 s i) = mg_cs s ∧ mg_registers (gq_it (kb_X7_digest_49 S) 0 s i) = mg_registers s ∧ mg_memory (gq_it (kb_X7_digest_49 S) 0 s i) = mg_memory s ∧ mg_stack (gq_it (kb_X7_digest_49 S) 0 s i) = mg_stack s ∧ mg_deep (gq_it (kb_X7_digest_49 S) 0 s i) = mg_deep s ∧ mg_way (gq_it (kb_X7_digest_49 S) 0 s i) = mg_way s ∧ mg_depth (gq_it (kb_X7_digest_49 S) 0 s i) = mg_depth s ∧ mg_plain (gq_it (kb_X7_digest_49 S) 0 s i) = mg_plain s ∧ mg_mixed (gq_it (kb_X7_digest_49 S) 0 s i) = mg_mixed s ∧ mg_choice (gq_it (kb_X7_digest_49 S) 0 s i) = mg_choice s ∧ mg_history (gq_it (kb_X7_digest_49 S) 0 s i) = mg_history s ∧ mg_targetAt (gq_it (kb_X7_digest_49 S) 0 s i) = mg_targetAt s ∧ mg_targetKind (gq_it (kb_X7_digest_49 S) 0 s i) = mg_targetKind s ∧ mg_target (gq_it (kb_X7_digest_49 S) 0 s i) = mg_target s ∧ mg_returns (gq_it (kb_X7_digest_49 S) 0 s i) = mg_returns s ∧ mg_returned (gq_it (kb_X7_digest_49 S) 0 s i) = mg_returned s ∧ mg_fetched (gq_it (kb_X7_digest_49 S) 0 s i) = mg_fetched s ∧ mg_fetchAt (gq_it (kb_X7_digest_49 S) 0 s i) = mg_fetchAt s ∧ mg_fetchCycle (gq_it (kb_X7_digest_49 S) 0 s i) = mg_fetchCycle s ∧ mg_fetchGuess (gq_it (kb_X7_digest_49 S) 0 s i) = mg_fetchGuess s ∧ mg_fetchHistory (gq_it (kb_X7_digest_49 S) 0 s i) = mg_fetchHistory s ∧ mg_fetchReturned (gq_it (kb_X7_digest_49 S) 0 s i) = mg_fetchReturned s ∧ mg_fetchReturns (gq_it (kb_X7_digest_49 S) 0 s i) = mg_fetchReturns s ∧ mg_runs (gq_it (kb_X7_digest_49 S) 0 s i) = mg_runs s ∧ mg_ended (gq_it (kb_X7_digest_49 S) 0 s i) = mg_ended s ∧ mg_place (gq_it (kb_X7_digest_49 S) 0 s i) = mg_place s ∧ mg_counts (gq_it (kb_X7_digest_49 S) 0 s i) = mg_counts s ∧ mg_doneAt (gq_it (kb_X7_digest_49 S) 0 s i) = mg_doneAt s ∧ mg_keptReturns (gq_it (kb_X7_digest_49 S) 0 s i) = mg_keptReturns s := by
  induction i with
  | zero => simp only [gq_it, and_self]
  | succ i ih => simp only [gq_it, Nat.not_lt_zero, if_false, mb_kb_X7_digest_49, ih, and_self]
def kb_X7_digest_72 (S : gs_M) (i : Nat) (t15 : gs_M) : gs_M :=
  gq_lt (k_X7_mix t15 (((mg_stack t15) (gq_ix (nI i))).toInt64)) (fun s16 =>
  s16)
theorem mb_kb_X7_digest_72 (S : gs_M) (i : Nat) (t : gs_M) : mg_acts (kb_X7_digest_72 S i t) = mg_acts t ∧ mg_kinds (kb_X7_digest_72 S i t) = mg_kinds t ∧ mg_as (kb_X7_digest_72 S i t) = mg_as t ∧ mg_bs (kb_X7_digest_72 S i t) = mg_bs t ∧ mg_cs (kb_X7_digest_72 S i t) = mg_cs t ∧ mg_registers (kb_X7_digest_72 S i t) = mg_registers t ∧ mg_memory (kb_X7_digest_72 S i t) = mg_memory t ∧ mg_stack (kb_X7_digest_72 S i t) = mg_stack t ∧ mg_deep (kb_X7_digest_72 S i t) = mg_deep t ∧ mg_way (kb_X7_digest_72 S i t) = mg_way t ∧ mg_depth (kb_X7_digest_72 S i t) = mg_depth t ∧ mg_plain (kb_X7_digest_72 S i t) = mg_plain t ∧ mg_mixed (kb_X7_digest_72 S i t) = mg_mixed t ∧ mg_choice (kb_X7_digest_72 S i t) = mg_choice t ∧ mg_history (kb_X7_digest_72 S i t) = mg_history t ∧ mg_targetAt (kb_X7_digest_72 S i t) = mg_targetAt t ∧ mg_targetKind (kb_X7_digest_72 S i t) = mg_targetKind t ∧ mg_target (kb_X7_digest_72 S i t) = mg_target t ∧ mg_returns (kb_X7_digest_72 S i t) = mg_returns t ∧ mg_returned (kb_X7_digest_72 S i t) = mg_returned t ∧ mg_fetched (kb_X7_digest_72 S i t) = mg_fetched t ∧ mg_fetchAt (kb_X7_digest_72 S i t) = mg_fetchAt t ∧ mg_fetchCycle (kb_X7_digest_72 S i t) = mg_fetchCycle t ∧ mg_fetchGuess (kb_X7_digest_72 S i t) = mg_fetchGuess t ∧ mg_fetchHistory (kb_X7_digest_72 S i t) = mg_fetchHistory t ∧ mg_fetchReturned (kb_X7_digest_72 S i t) = mg_fetchReturned t ∧ mg_fetchReturns (kb_X7_digest_72 S i t) = mg_fetchReturns t ∧ mg_runs (kb_X7_digest_72 S i t) = mg_runs t ∧ mg_ended (kb_X7_digest_72 S i t) = mg_ended t ∧ mg_place (kb_X7_digest_72 S i t) = mg_place t ∧ mg_counts (kb_X7_digest_72 S i t) = mg_counts t ∧ mg_doneAt (kb_X7_digest_72 S i t) = mg_doneAt t ∧ mg_keptReturns (kb_X7_digest_72 S i t) = mg_keptReturns t := by
  unfold kb_X7_digest_72
  simp only [gq_lt, mk_mix, and_self]
theorem mi_kb_X7_digest_72 (S : gs_M) (s : gs_M) (i : Nat) : mg_acts (gq_it (kb_X7_digest_72 S) 0 s i) = mg_acts s ∧ mg_kinds (gq_it (kb_X7_digest_72 S) 0 s i) = mg_kinds s ∧ mg_as (gq_it (kb_X7_digest_72 S) 0 s i) = mg_as s ∧ mg_bs (gq_it (kb_X7_digest_72 S) 0 s i) = mg_bs s ∧ mg_cs (gq_it (kb_X7_digest_72 S) 0 s i) = mg_cs s ∧ mg_registers (gq_it (kb_X7_digest_72 S) 0 s i) = mg_registers s ∧ mg_memory (gq_it (kb_X7_digest_72 S) 0 s i) = mg_memory s ∧ mg_stack (gq_it (kb_X7_digest_72 S) 0 s i) = mg_stack s ∧ mg_deep (gq_it (kb_X7_digest_72 S) 0 s i) = mg_deep s ∧ mg_way (gq_it (kb_X7_digest_72 S) 0 s i) = mg_way s ∧ mg_depth (gq_it (kb_X7_digest_72 S) 0 s i) = mg_depth s ∧ mg_plain (gq_it (kb_X7_digest_72 S) 0 s i) = mg_plain s ∧ mg_mixed (gq_it (kb_X7_digest_72 S) 0 s i) = mg_mixed s ∧ mg_choice (gq_it (kb_X7_digest_72 S) 0 s i) = mg_choice s ∧ mg_history (gq_it (kb_X7_digest_72 S) 0 s i) = mg_history s ∧ mg_targetAt (gq_it (kb_X7_digest_72 S) 0 s i) = mg_targetAt s ∧ mg_targetKind (gq_it (kb_X7_digest_72 S) 0 s i) = mg_targetKind s ∧ mg_target (gq_it (kb_X7_digest_72 S) 0 s i) = mg_target s ∧ mg_returns (gq_it (kb_X7_digest_72 S) 0 s i) = mg_returns s ∧ mg_returned (gq_it (kb_X7_digest_72 S) 0 s i) = mg_returned s ∧ mg_fetched (gq_it (kb_X7_digest_72 S) 0 s i) = mg_fetched s ∧ mg_fetchAt (gq_it (kb_X7_digest_72 S) 0 s i) = mg_fetchAt s ∧ mg_fetchCycle (gq_it (kb_X7_digest_72 S) 0 s i) = mg_fetchCycle s ∧ mg_fetchGuess (gq_it (kb_X7_digest_72 S) 0 s i) = mg_fetchGuess s ∧ mg_fetchHistory (gq_it (kb_X7_digest_72 S) 0 s i) = mg_fetchHistory s ∧ mg_fetchReturned (gq_it (kb_X7_digest_72 S) 0 s i) = mg_fetchReturned s ∧ mg_fetchReturns (gq_it (kb_X7_digest_72 S) 0 s i) = mg_fetchReturns s ∧ mg_runs (gq_it (kb_X7_digest_72 S) 0 s i) = mg_runs s ∧ mg_ended (gq_it (kb_X7_digest_72 S) 0 s i) = mg_ended s ∧ mg_place (gq_it (kb_X7_digest_72 S) 0 s i) = mg_place s ∧ mg_counts (gq_it (kb_X7_digest_72 S) 0 s i) = mg_counts s ∧ mg_doneAt (gq_it (kb_X7_digest_72 S) 0 s i) = mg_doneAt s ∧ mg_keptReturns (gq_it (kb_X7_digest_72 S) 0 s i) = mg_keptReturns s := by
  induction i with
  | zero => simp only [gq_it, and_self]
  | succ i ih => simp only [gq_it, Nat.not_lt_zero, if_false, mb_kb_X7_digest_72, ih, and_self]
def kb_X7_digest_107 (S : gs_M) (i : Nat) (t19 : gs_M) : gs_M :=
  gq_lt (k_X7_mix t19 ((k_X7_tableOf t19 0 (nI i)).toInt64)) (fun s20 =>
  s20)
theorem mb_kb_X7_digest_107 (S : gs_M) (i : Nat) (t : gs_M) : mg_acts (kb_X7_digest_107 S i t) = mg_acts t ∧ mg_kinds (kb_X7_digest_107 S i t) = mg_kinds t ∧ mg_as (kb_X7_digest_107 S i t) = mg_as t ∧ mg_bs (kb_X7_digest_107 S i t) = mg_bs t ∧ mg_cs (kb_X7_digest_107 S i t) = mg_cs t ∧ mg_registers (kb_X7_digest_107 S i t) = mg_registers t ∧ mg_memory (kb_X7_digest_107 S i t) = mg_memory t ∧ mg_stack (kb_X7_digest_107 S i t) = mg_stack t ∧ mg_deep (kb_X7_digest_107 S i t) = mg_deep t ∧ mg_way (kb_X7_digest_107 S i t) = mg_way t ∧ mg_depth (kb_X7_digest_107 S i t) = mg_depth t ∧ mg_plain (kb_X7_digest_107 S i t) = mg_plain t ∧ mg_mixed (kb_X7_digest_107 S i t) = mg_mixed t ∧ mg_choice (kb_X7_digest_107 S i t) = mg_choice t ∧ mg_history (kb_X7_digest_107 S i t) = mg_history t ∧ mg_targetAt (kb_X7_digest_107 S i t) = mg_targetAt t ∧ mg_targetKind (kb_X7_digest_107 S i t) = mg_targetKind t ∧ mg_target (kb_X7_digest_107 S i t) = mg_target t ∧ mg_returns (kb_X7_digest_107 S i t) = mg_returns t ∧ mg_returned (kb_X7_digest_107 S i t) = mg_returned t ∧ mg_fetched (kb_X7_digest_107 S i t) = mg_fetched t ∧ mg_fetchAt (kb_X7_digest_107 S i t) = mg_fetchAt t ∧ mg_fetchCycle (kb_X7_digest_107 S i t) = mg_fetchCycle t ∧ mg_fetchGuess (kb_X7_digest_107 S i t) = mg_fetchGuess t ∧ mg_fetchHistory (kb_X7_digest_107 S i t) = mg_fetchHistory t ∧ mg_fetchReturned (kb_X7_digest_107 S i t) = mg_fetchReturned t ∧ mg_fetchReturns (kb_X7_digest_107 S i t) = mg_fetchReturns t ∧ mg_runs (kb_X7_digest_107 S i t) = mg_runs t ∧ mg_ended (kb_X7_digest_107 S i t) = mg_ended t ∧ mg_place (kb_X7_digest_107 S i t) = mg_place t ∧ mg_counts (kb_X7_digest_107 S i t) = mg_counts t ∧ mg_doneAt (kb_X7_digest_107 S i t) = mg_doneAt t ∧ mg_keptReturns (kb_X7_digest_107 S i t) = mg_keptReturns t := by
  unfold kb_X7_digest_107
  simp only [gq_lt, mk_mix, and_self]
theorem mi_kb_X7_digest_107 (S : gs_M) (s : gs_M) (i : Nat) : mg_acts (gq_it (kb_X7_digest_107 S) 0 s i) = mg_acts s ∧ mg_kinds (gq_it (kb_X7_digest_107 S) 0 s i) = mg_kinds s ∧ mg_as (gq_it (kb_X7_digest_107 S) 0 s i) = mg_as s ∧ mg_bs (gq_it (kb_X7_digest_107 S) 0 s i) = mg_bs s ∧ mg_cs (gq_it (kb_X7_digest_107 S) 0 s i) = mg_cs s ∧ mg_registers (gq_it (kb_X7_digest_107 S) 0 s i) = mg_registers s ∧ mg_memory (gq_it (kb_X7_digest_107 S) 0 s i) = mg_memory s ∧ mg_stack (gq_it (kb_X7_digest_107 S) 0 s i) = mg_stack s ∧ mg_deep (gq_it (kb_X7_digest_107 S) 0 s i) = mg_deep s ∧ mg_way (gq_it (kb_X7_digest_107 S) 0 s i) = mg_way s ∧ mg_depth (gq_it (kb_X7_digest_107 S) 0 s i) = mg_depth s ∧ mg_plain (gq_it (kb_X7_digest_107 S) 0 s i) = mg_plain s ∧ mg_mixed (gq_it (kb_X7_digest_107 S) 0 s i) = mg_mixed s ∧ mg_choice (gq_it (kb_X7_digest_107 S) 0 s i) = mg_choice s ∧ mg_history (gq_it (kb_X7_digest_107 S) 0 s i) = mg_history s ∧ mg_targetAt (gq_it (kb_X7_digest_107 S) 0 s i) = mg_targetAt s ∧ mg_targetKind (gq_it (kb_X7_digest_107 S) 0 s i) = mg_targetKind s ∧ mg_target (gq_it (kb_X7_digest_107 S) 0 s i) = mg_target s ∧ mg_returns (gq_it (kb_X7_digest_107 S) 0 s i) = mg_returns s ∧ mg_returned (gq_it (kb_X7_digest_107 S) 0 s i) = mg_returned s ∧ mg_fetched (gq_it (kb_X7_digest_107 S) 0 s i) = mg_fetched s ∧ mg_fetchAt (gq_it (kb_X7_digest_107 S) 0 s i) = mg_fetchAt s ∧ mg_fetchCycle (gq_it (kb_X7_digest_107 S) 0 s i) = mg_fetchCycle s ∧ mg_fetchGuess (gq_it (kb_X7_digest_107 S) 0 s i) = mg_fetchGuess s ∧ mg_fetchHistory (gq_it (kb_X7_digest_107 S) 0 s i) = mg_fetchHistory s ∧ mg_fetchReturned (gq_it (kb_X7_digest_107 S) 0 s i) = mg_fetchReturned s ∧ mg_fetchReturns (gq_it (kb_X7_digest_107 S) 0 s i) = mg_fetchReturns s ∧ mg_runs (gq_it (kb_X7_digest_107 S) 0 s i) = mg_runs s ∧ mg_ended (gq_it (kb_X7_digest_107 S) 0 s i) = mg_ended s ∧ mg_place (gq_it (kb_X7_digest_107 S) 0 s i) = mg_place s ∧ mg_counts (gq_it (kb_X7_digest_107 S) 0 s i) = mg_counts s ∧ mg_doneAt (gq_it (kb_X7_digest_107 S) 0 s i) = mg_doneAt s ∧ mg_keptReturns (gq_it (kb_X7_digest_107 S) 0 s i) = mg_keptReturns s := by
  induction i with
  | zero => simp only [gq_it, and_self]
  | succ i ih => simp only [gq_it, Nat.not_lt_zero, if_false, mb_kb_X7_digest_107, ih, and_self]
def kb_X7_digest_107_1 (S : gs_M) (i : Nat) (t23 : gs_M) : gs_M :=
  gq_lt (k_X7_mix t23 ((k_X7_tableOf t23 1 (nI i)).toInt64)) (fun s24 =>
  s24)
theorem mb_kb_X7_digest_107_1 (S : gs_M) (i : Nat) (t : gs_M) : mg_acts (kb_X7_digest_107_1 S i t) = mg_acts t ∧ mg_kinds (kb_X7_digest_107_1 S i t) = mg_kinds t ∧ mg_as (kb_X7_digest_107_1 S i t) = mg_as t ∧ mg_bs (kb_X7_digest_107_1 S i t) = mg_bs t ∧ mg_cs (kb_X7_digest_107_1 S i t) = mg_cs t ∧ mg_registers (kb_X7_digest_107_1 S i t) = mg_registers t ∧ mg_memory (kb_X7_digest_107_1 S i t) = mg_memory t ∧ mg_stack (kb_X7_digest_107_1 S i t) = mg_stack t ∧ mg_deep (kb_X7_digest_107_1 S i t) = mg_deep t ∧ mg_way (kb_X7_digest_107_1 S i t) = mg_way t ∧ mg_depth (kb_X7_digest_107_1 S i t) = mg_depth t ∧ mg_plain (kb_X7_digest_107_1 S i t) = mg_plain t ∧ mg_mixed (kb_X7_digest_107_1 S i t) = mg_mixed t ∧ mg_choice (kb_X7_digest_107_1 S i t) = mg_choice t ∧ mg_history (kb_X7_digest_107_1 S i t) = mg_history t ∧ mg_targetAt (kb_X7_digest_107_1 S i t) = mg_targetAt t ∧ mg_targetKind (kb_X7_digest_107_1 S i t) = mg_targetKind t ∧ mg_target (kb_X7_digest_107_1 S i t) = mg_target t ∧ mg_returns (kb_X7_digest_107_1 S i t) = mg_returns t ∧ mg_returned (kb_X7_digest_107_1 S i t) = mg_returned t ∧ mg_fetched (kb_X7_digest_107_1 S i t) = mg_fetched t ∧ mg_fetchAt (kb_X7_digest_107_1 S i t) = mg_fetchAt t ∧ mg_fetchCycle (kb_X7_digest_107_1 S i t) = mg_fetchCycle t ∧ mg_fetchGuess (kb_X7_digest_107_1 S i t) = mg_fetchGuess t ∧ mg_fetchHistory (kb_X7_digest_107_1 S i t) = mg_fetchHistory t ∧ mg_fetchReturned (kb_X7_digest_107_1 S i t) = mg_fetchReturned t ∧ mg_fetchReturns (kb_X7_digest_107_1 S i t) = mg_fetchReturns t ∧ mg_runs (kb_X7_digest_107_1 S i t) = mg_runs t ∧ mg_ended (kb_X7_digest_107_1 S i t) = mg_ended t ∧ mg_place (kb_X7_digest_107_1 S i t) = mg_place t ∧ mg_counts (kb_X7_digest_107_1 S i t) = mg_counts t ∧ mg_doneAt (kb_X7_digest_107_1 S i t) = mg_doneAt t ∧ mg_keptReturns (kb_X7_digest_107_1 S i t) = mg_keptReturns t := by
  unfold kb_X7_digest_107_1
  simp only [gq_lt, mk_mix, and_self]
theorem mi_kb_X7_digest_107_1 (S : gs_M) (s : gs_M) (i : Nat) : mg_acts (gq_it (kb_X7_digest_107_1 S) 0 s i) = mg_acts s ∧ mg_kinds (gq_it (kb_X7_digest_107_1 S) 0 s i) = mg_kinds s ∧ mg_as (gq_it (kb_X7_digest_107_1 S) 0 s i) = mg_as s ∧ mg_bs (gq_it (kb_X7_digest_107_1 S) 0 s i) = mg_bs s ∧ mg_cs (gq_it (kb_X7_digest_107_1 S) 0 s i) = mg_cs s ∧ mg_registers (gq_it (kb_X7_digest_107_1 S) 0 s i) = mg_registers s ∧ mg_memory (gq_it (kb_X7_digest_107_1 S) 0 s i) = mg_memory s ∧ mg_stack (gq_it (kb_X7_digest_107_1 S) 0 s i) = mg_stack s ∧ mg_deep (gq_it (kb_X7_digest_107_1 S) 0 s i) = mg_deep s ∧ mg_way (gq_it (kb_X7_digest_107_1 S) 0 s i) = mg_way s ∧ mg_depth (gq_it (kb_X7_digest_107_1 S) 0 s i) = mg_depth s ∧ mg_plain (gq_it (kb_X7_digest_107_1 S) 0 s i) = mg_plain s ∧ mg_mixed (gq_it (kb_X7_digest_107_1 S) 0 s i) = mg_mixed s ∧ mg_choice (gq_it (kb_X7_digest_107_1 S) 0 s i) = mg_choice s ∧ mg_history (gq_it (kb_X7_digest_107_1 S) 0 s i) = mg_history s ∧ mg_targetAt (gq_it (kb_X7_digest_107_1 S) 0 s i) = mg_targetAt s ∧ mg_targetKind (gq_it (kb_X7_digest_107_1 S) 0 s i) = mg_targetKind s ∧ mg_target (gq_it (kb_X7_digest_107_1 S) 0 s i) = mg_target s ∧ mg_returns (gq_it (kb_X7_digest_107_1 S) 0 s i) = mg_returns s ∧ mg_returned (gq_it (kb_X7_digest_107_1 S) 0 s i) = mg_returned s ∧ mg_fetched (gq_it (kb_X7_digest_107_1 S) 0 s i) = mg_fetched s ∧ mg_fetchAt (gq_it (kb_X7_digest_107_1 S) 0 s i) = mg_fetchAt s ∧ mg_fetchCycle (gq_it (kb_X7_digest_107_1 S) 0 s i) = mg_fetchCycle s ∧ mg_fetchGuess (gq_it (kb_X7_digest_107_1 S) 0 s i) = mg_fetchGuess s ∧ mg_fetchHistory (gq_it (kb_X7_digest_107_1 S) 0 s i) = mg_fetchHistory s ∧ mg_fetchReturned (gq_it (kb_X7_digest_107_1 S) 0 s i) = mg_fetchReturned s ∧ mg_fetchReturns (gq_it (kb_X7_digest_107_1 S) 0 s i) = mg_fetchReturns s ∧ mg_runs (gq_it (kb_X7_digest_107_1 S) 0 s i) = mg_runs s ∧ mg_ended (gq_it (kb_X7_digest_107_1 S) 0 s i) = mg_ended s ∧ mg_place (gq_it (kb_X7_digest_107_1 S) 0 s i) = mg_place s ∧ mg_counts (gq_it (kb_X7_digest_107_1 S) 0 s i) = mg_counts s ∧ mg_doneAt (gq_it (kb_X7_digest_107_1 S) 0 s i) = mg_doneAt s ∧ mg_keptReturns (gq_it (kb_X7_digest_107_1 S) 0 s i) = mg_keptReturns s := by
  induction i with
  | zero => simp only [gq_it, and_self]
  | succ i ih => simp only [gq_it, Nat.not_lt_zero, if_false, mb_kb_X7_digest_107_1, ih, and_self]
def kb_X7_digest_107_2 (S : gs_M) (i : Nat) (t27 : gs_M) : gs_M :=
  gq_lt (k_X7_mix t27 ((k_X7_tableOf t27 2 (nI i)).toInt64)) (fun s28 =>
  s28)
theorem mb_kb_X7_digest_107_2 (S : gs_M) (i : Nat) (t : gs_M) : mg_acts (kb_X7_digest_107_2 S i t) = mg_acts t ∧ mg_kinds (kb_X7_digest_107_2 S i t) = mg_kinds t ∧ mg_as (kb_X7_digest_107_2 S i t) = mg_as t ∧ mg_bs (kb_X7_digest_107_2 S i t) = mg_bs t ∧ mg_cs (kb_X7_digest_107_2 S i t) = mg_cs t ∧ mg_registers (kb_X7_digest_107_2 S i t) = mg_registers t ∧ mg_memory (kb_X7_digest_107_2 S i t) = mg_memory t ∧ mg_stack (kb_X7_digest_107_2 S i t) = mg_stack t ∧ mg_deep (kb_X7_digest_107_2 S i t) = mg_deep t ∧ mg_way (kb_X7_digest_107_2 S i t) = mg_way t ∧ mg_depth (kb_X7_digest_107_2 S i t) = mg_depth t ∧ mg_plain (kb_X7_digest_107_2 S i t) = mg_plain t ∧ mg_mixed (kb_X7_digest_107_2 S i t) = mg_mixed t ∧ mg_choice (kb_X7_digest_107_2 S i t) = mg_choice t ∧ mg_history (kb_X7_digest_107_2 S i t) = mg_history t ∧ mg_targetAt (kb_X7_digest_107_2 S i t) = mg_targetAt t ∧ mg_targetKind (kb_X7_digest_107_2 S i t) = mg_targetKind t ∧ mg_target (kb_X7_digest_107_2 S i t) = mg_target t ∧ mg_returns (kb_X7_digest_107_2 S i t) = mg_returns t ∧ mg_returned (kb_X7_digest_107_2 S i t) = mg_returned t ∧ mg_fetched (kb_X7_digest_107_2 S i t) = mg_fetched t ∧ mg_fetchAt (kb_X7_digest_107_2 S i t) = mg_fetchAt t ∧ mg_fetchCycle (kb_X7_digest_107_2 S i t) = mg_fetchCycle t ∧ mg_fetchGuess (kb_X7_digest_107_2 S i t) = mg_fetchGuess t ∧ mg_fetchHistory (kb_X7_digest_107_2 S i t) = mg_fetchHistory t ∧ mg_fetchReturned (kb_X7_digest_107_2 S i t) = mg_fetchReturned t ∧ mg_fetchReturns (kb_X7_digest_107_2 S i t) = mg_fetchReturns t ∧ mg_runs (kb_X7_digest_107_2 S i t) = mg_runs t ∧ mg_ended (kb_X7_digest_107_2 S i t) = mg_ended t ∧ mg_place (kb_X7_digest_107_2 S i t) = mg_place t ∧ mg_counts (kb_X7_digest_107_2 S i t) = mg_counts t ∧ mg_doneAt (kb_X7_digest_107_2 S i t) = mg_doneAt t ∧ mg_keptReturns (kb_X7_digest_107_2 S i t) = mg_keptReturns t := by
  unfold kb_X7_digest_107_2
  simp only [gq_lt, mk_mix, and_self]
theorem mi_kb_X7_digest_107_2 (S : gs_M) (s : gs_M) (i : Nat) : mg_acts (gq_it (kb_X7_digest_107_2 S) 0 s i) = mg_acts s ∧ mg_kinds (gq_it (kb_X7_digest_107_2 S) 0 s i) = mg_kinds s ∧ mg_as (gq_it (kb_X7_digest_107_2 S) 0 s i) = mg_as s ∧ mg_bs (gq_it (kb_X7_digest_107_2 S) 0 s i) = mg_bs s ∧ mg_cs (gq_it (kb_X7_digest_107_2 S) 0 s i) = mg_cs s ∧ mg_registers (gq_it (kb_X7_digest_107_2 S) 0 s i) = mg_registers s ∧ mg_memory (gq_it (kb_X7_digest_107_2 S) 0 s i) = mg_memory s ∧ mg_stack (gq_it (kb_X7_digest_107_2 S) 0 s i) = mg_stack s ∧ mg_deep (gq_it (kb_X7_digest_107_2 S) 0 s i) = mg_deep s ∧ mg_way (gq_it (kb_X7_digest_107_2 S) 0 s i) = mg_way s ∧ mg_depth (gq_it (kb_X7_digest_107_2 S) 0 s i) = mg_depth s ∧ mg_plain (gq_it (kb_X7_digest_107_2 S) 0 s i) = mg_plain s ∧ mg_mixed (gq_it (kb_X7_digest_107_2 S) 0 s i) = mg_mixed s ∧ mg_choice (gq_it (kb_X7_digest_107_2 S) 0 s i) = mg_choice s ∧ mg_history (gq_it (kb_X7_digest_107_2 S) 0 s i) = mg_history s ∧ mg_targetAt (gq_it (kb_X7_digest_107_2 S) 0 s i) = mg_targetAt s ∧ mg_targetKind (gq_it (kb_X7_digest_107_2 S) 0 s i) = mg_targetKind s ∧ mg_target (gq_it (kb_X7_digest_107_2 S) 0 s i) = mg_target s ∧ mg_returns (gq_it (kb_X7_digest_107_2 S) 0 s i) = mg_returns s ∧ mg_returned (gq_it (kb_X7_digest_107_2 S) 0 s i) = mg_returned s ∧ mg_fetched (gq_it (kb_X7_digest_107_2 S) 0 s i) = mg_fetched s ∧ mg_fetchAt (gq_it (kb_X7_digest_107_2 S) 0 s i) = mg_fetchAt s ∧ mg_fetchCycle (gq_it (kb_X7_digest_107_2 S) 0 s i) = mg_fetchCycle s ∧ mg_fetchGuess (gq_it (kb_X7_digest_107_2 S) 0 s i) = mg_fetchGuess s ∧ mg_fetchHistory (gq_it (kb_X7_digest_107_2 S) 0 s i) = mg_fetchHistory s ∧ mg_fetchReturned (gq_it (kb_X7_digest_107_2 S) 0 s i) = mg_fetchReturned s ∧ mg_fetchReturns (gq_it (kb_X7_digest_107_2 S) 0 s i) = mg_fetchReturns s ∧ mg_runs (gq_it (kb_X7_digest_107_2 S) 0 s i) = mg_runs s ∧ mg_ended (gq_it (kb_X7_digest_107_2 S) 0 s i) = mg_ended s ∧ mg_place (gq_it (kb_X7_digest_107_2 S) 0 s i) = mg_place s ∧ mg_counts (gq_it (kb_X7_digest_107_2 S) 0 s i) = mg_counts s ∧ mg_doneAt (gq_it (kb_X7_digest_107_2 S) 0 s i) = mg_doneAt s ∧ mg_keptReturns (gq_it (kb_X7_digest_107_2 S) 0 s i) = mg_keptReturns s := by
  induction i with
  | zero => simp only [gq_it, and_self]
  | succ i ih => simp only [gq_it, Nat.not_lt_zero, if_false, mb_kb_X7_digest_107_2, ih, and_self]
def kb_X7_digest_107_3 (S : gs_M) (i : Nat) (t31 : gs_M) : gs_M :=
  gq_lt (k_X7_mix t31 ((k_X7_tableOf t31 3 (nI i)).toInt64)) (fun s32 =>
  s32)
theorem mb_kb_X7_digest_107_3 (S : gs_M) (i : Nat) (t : gs_M) : mg_acts (kb_X7_digest_107_3 S i t) = mg_acts t ∧ mg_kinds (kb_X7_digest_107_3 S i t) = mg_kinds t ∧ mg_as (kb_X7_digest_107_3 S i t) = mg_as t ∧ mg_bs (kb_X7_digest_107_3 S i t) = mg_bs t ∧ mg_cs (kb_X7_digest_107_3 S i t) = mg_cs t ∧ mg_registers (kb_X7_digest_107_3 S i t) = mg_registers t ∧ mg_memory (kb_X7_digest_107_3 S i t) = mg_memory t ∧ mg_stack (kb_X7_digest_107_3 S i t) = mg_stack t ∧ mg_deep (kb_X7_digest_107_3 S i t) = mg_deep t ∧ mg_way (kb_X7_digest_107_3 S i t) = mg_way t ∧ mg_depth (kb_X7_digest_107_3 S i t) = mg_depth t ∧ mg_plain (kb_X7_digest_107_3 S i t) = mg_plain t ∧ mg_mixed (kb_X7_digest_107_3 S i t) = mg_mixed t ∧ mg_choice (kb_X7_digest_107_3 S i t) = mg_choice t ∧ mg_history (kb_X7_digest_107_3 S i t) = mg_history t ∧ mg_targetAt (kb_X7_digest_107_3 S i t) = mg_targetAt t ∧ mg_targetKind (kb_X7_digest_107_3 S i t) = mg_targetKind t ∧ mg_target (kb_X7_digest_107_3 S i t) = mg_target t ∧ mg_returns (kb_X7_digest_107_3 S i t) = mg_returns t ∧ mg_returned (kb_X7_digest_107_3 S i t) = mg_returned t ∧ mg_fetched (kb_X7_digest_107_3 S i t) = mg_fetched t ∧ mg_fetchAt (kb_X7_digest_107_3 S i t) = mg_fetchAt t ∧ mg_fetchCycle (kb_X7_digest_107_3 S i t) = mg_fetchCycle t ∧ mg_fetchGuess (kb_X7_digest_107_3 S i t) = mg_fetchGuess t ∧ mg_fetchHistory (kb_X7_digest_107_3 S i t) = mg_fetchHistory t ∧ mg_fetchReturned (kb_X7_digest_107_3 S i t) = mg_fetchReturned t ∧ mg_fetchReturns (kb_X7_digest_107_3 S i t) = mg_fetchReturns t ∧ mg_runs (kb_X7_digest_107_3 S i t) = mg_runs t ∧ mg_ended (kb_X7_digest_107_3 S i t) = mg_ended t ∧ mg_place (kb_X7_digest_107_3 S i t) = mg_place t ∧ mg_counts (kb_X7_digest_107_3 S i t) = mg_counts t ∧ mg_doneAt (kb_X7_digest_107_3 S i t) = mg_doneAt t ∧ mg_keptReturns (kb_X7_digest_107_3 S i t) = mg_keptReturns t := by
  unfold kb_X7_digest_107_3
  simp only [gq_lt, mk_mix, and_self]
theorem mi_kb_X7_digest_107_3 (S : gs_M) (s : gs_M) (i : Nat) : mg_acts (gq_it (kb_X7_digest_107_3 S) 0 s i) = mg_acts s ∧ mg_kinds (gq_it (kb_X7_digest_107_3 S) 0 s i) = mg_kinds s ∧ mg_as (gq_it (kb_X7_digest_107_3 S) 0 s i) = mg_as s ∧ mg_bs (gq_it (kb_X7_digest_107_3 S) 0 s i) = mg_bs s ∧ mg_cs (gq_it (kb_X7_digest_107_3 S) 0 s i) = mg_cs s ∧ mg_registers (gq_it (kb_X7_digest_107_3 S) 0 s i) = mg_registers s ∧ mg_memory (gq_it (kb_X7_digest_107_3 S) 0 s i) = mg_memory s ∧ mg_stack (gq_it (kb_X7_digest_107_3 S) 0 s i) = mg_stack s ∧ mg_deep (gq_it (kb_X7_digest_107_3 S) 0 s i) = mg_deep s ∧ mg_way (gq_it (kb_X7_digest_107_3 S) 0 s i) = mg_way s ∧ mg_depth (gq_it (kb_X7_digest_107_3 S) 0 s i) = mg_depth s ∧ mg_plain (gq_it (kb_X7_digest_107_3 S) 0 s i) = mg_plain s ∧ mg_mixed (gq_it (kb_X7_digest_107_3 S) 0 s i) = mg_mixed s ∧ mg_choice (gq_it (kb_X7_digest_107_3 S) 0 s i) = mg_choice s ∧ mg_history (gq_it (kb_X7_digest_107_3 S) 0 s i) = mg_history s ∧ mg_targetAt (gq_it (kb_X7_digest_107_3 S) 0 s i) = mg_targetAt s ∧ mg_targetKind (gq_it (kb_X7_digest_107_3 S) 0 s i) = mg_targetKind s ∧ mg_target (gq_it (kb_X7_digest_107_3 S) 0 s i) = mg_target s ∧ mg_returns (gq_it (kb_X7_digest_107_3 S) 0 s i) = mg_returns s ∧ mg_returned (gq_it (kb_X7_digest_107_3 S) 0 s i) = mg_returned s ∧ mg_fetched (gq_it (kb_X7_digest_107_3 S) 0 s i) = mg_fetched s ∧ mg_fetchAt (gq_it (kb_X7_digest_107_3 S) 0 s i) = mg_fetchAt s ∧ mg_fetchCycle (gq_it (kb_X7_digest_107_3 S) 0 s i) = mg_fetchCycle s ∧ mg_fetchGuess (gq_it (kb_X7_digest_107_3 S) 0 s i) = mg_fetchGuess s ∧ mg_fetchHistory (gq_it (kb_X7_digest_107_3 S) 0 s i) = mg_fetchHistory s ∧ mg_fetchReturned (gq_it (kb_X7_digest_107_3 S) 0 s i) = mg_fetchReturned s ∧ mg_fetchReturns (gq_it (kb_X7_digest_107_3 S) 0 s i) = mg_fetchReturns s ∧ mg_runs (gq_it (kb_X7_digest_107_3 S) 0 s i) = mg_runs s ∧ mg_ended (gq_it (kb_X7_digest_107_3 S) 0 s i) = mg_ended s ∧ mg_place (gq_it (kb_X7_digest_107_3 S) 0 s i) = mg_place s ∧ mg_counts (gq_it (kb_X7_digest_107_3 S) 0 s i) = mg_counts s ∧ mg_doneAt (gq_it (kb_X7_digest_107_3 S) 0 s i) = mg_doneAt s ∧ mg_keptReturns (gq_it (kb_X7_digest_107_3 S) 0 s i) = mg_keptReturns s := by
  induction i with
  | zero => simp only [gq_it, and_self]
  | succ i ih => simp only [gq_it, Nat.not_lt_zero, if_false, mb_kb_X7_digest_107_3, ih, and_self]
def kb_X7_digest_107_4 (S : gs_M) (i : Nat) (t35 : gs_M) : gs_M :=
  gq_lt (k_X7_mix t35 ((k_X7_tableOf t35 4 (nI i)).toInt64)) (fun s36 =>
  s36)
theorem mb_kb_X7_digest_107_4 (S : gs_M) (i : Nat) (t : gs_M) : mg_acts (kb_X7_digest_107_4 S i t) = mg_acts t ∧ mg_kinds (kb_X7_digest_107_4 S i t) = mg_kinds t ∧ mg_as (kb_X7_digest_107_4 S i t) = mg_as t ∧ mg_bs (kb_X7_digest_107_4 S i t) = mg_bs t ∧ mg_cs (kb_X7_digest_107_4 S i t) = mg_cs t ∧ mg_registers (kb_X7_digest_107_4 S i t) = mg_registers t ∧ mg_memory (kb_X7_digest_107_4 S i t) = mg_memory t ∧ mg_stack (kb_X7_digest_107_4 S i t) = mg_stack t ∧ mg_deep (kb_X7_digest_107_4 S i t) = mg_deep t ∧ mg_way (kb_X7_digest_107_4 S i t) = mg_way t ∧ mg_depth (kb_X7_digest_107_4 S i t) = mg_depth t ∧ mg_plain (kb_X7_digest_107_4 S i t) = mg_plain t ∧ mg_mixed (kb_X7_digest_107_4 S i t) = mg_mixed t ∧ mg_choice (kb_X7_digest_107_4 S i t) = mg_choice t ∧ mg_history (kb_X7_digest_107_4 S i t) = mg_history t ∧ mg_targetAt (kb_X7_digest_107_4 S i t) = mg_targetAt t ∧ mg_targetKind (kb_X7_digest_107_4 S i t) = mg_targetKind t ∧ mg_target (kb_X7_digest_107_4 S i t) = mg_target t ∧ mg_returns (kb_X7_digest_107_4 S i t) = mg_returns t ∧ mg_returned (kb_X7_digest_107_4 S i t) = mg_returned t ∧ mg_fetched (kb_X7_digest_107_4 S i t) = mg_fetched t ∧ mg_fetchAt (kb_X7_digest_107_4 S i t) = mg_fetchAt t ∧ mg_fetchCycle (kb_X7_digest_107_4 S i t) = mg_fetchCycle t ∧ mg_fetchGuess (kb_X7_digest_107_4 S i t) = mg_fetchGuess t ∧ mg_fetchHistory (kb_X7_digest_107_4 S i t) = mg_fetchHistory t ∧ mg_fetchReturned (kb_X7_digest_107_4 S i t) = mg_fetchReturned t ∧ mg_fetchReturns (kb_X7_digest_107_4 S i t) = mg_fetchReturns t ∧ mg_runs (kb_X7_digest_107_4 S i t) = mg_runs t ∧ mg_ended (kb_X7_digest_107_4 S i t) = mg_ended t ∧ mg_place (kb_X7_digest_107_4 S i t) = mg_place t ∧ mg_counts (kb_X7_digest_107_4 S i t) = mg_counts t ∧ mg_doneAt (kb_X7_digest_107_4 S i t) = mg_doneAt t ∧ mg_keptReturns (kb_X7_digest_107_4 S i t) = mg_keptReturns t := by
  unfold kb_X7_digest_107_4
  simp only [gq_lt, mk_mix, and_self]
theorem mi_kb_X7_digest_107_4 (S : gs_M) (s : gs_M) (i : Nat) : mg_acts (gq_it (kb_X7_digest_107_4 S) 0 s i) = mg_acts s ∧ mg_kinds (gq_it (kb_X7_digest_107_4 S) 0 s i) = mg_kinds s ∧ mg_as (gq_it (kb_X7_digest_107_4 S) 0 s i) = mg_as s ∧ mg_bs (gq_it (kb_X7_digest_107_4 S) 0 s i) = mg_bs s ∧ mg_cs (gq_it (kb_X7_digest_107_4 S) 0 s i) = mg_cs s ∧ mg_registers (gq_it (kb_X7_digest_107_4 S) 0 s i) = mg_registers s ∧ mg_memory (gq_it (kb_X7_digest_107_4 S) 0 s i) = mg_memory s ∧ mg_stack (gq_it (kb_X7_digest_107_4 S) 0 s i) = mg_stack s ∧ mg_deep (gq_it (kb_X7_digest_107_4 S) 0 s i) = mg_deep s ∧ mg_way (gq_it (kb_X7_digest_107_4 S) 0 s i) = mg_way s ∧ mg_depth (gq_it (kb_X7_digest_107_4 S) 0 s i) = mg_depth s ∧ mg_plain (gq_it (kb_X7_digest_107_4 S) 0 s i) = mg_plain s ∧ mg_mixed (gq_it (kb_X7_digest_107_4 S) 0 s i) = mg_mixed s ∧ mg_choice (gq_it (kb_X7_digest_107_4 S) 0 s i) = mg_choice s ∧ mg_history (gq_it (kb_X7_digest_107_4 S) 0 s i) = mg_history s ∧ mg_targetAt (gq_it (kb_X7_digest_107_4 S) 0 s i) = mg_targetAt s ∧ mg_targetKind (gq_it (kb_X7_digest_107_4 S) 0 s i) = mg_targetKind s ∧ mg_target (gq_it (kb_X7_digest_107_4 S) 0 s i) = mg_target s ∧ mg_returns (gq_it (kb_X7_digest_107_4 S) 0 s i) = mg_returns s ∧ mg_returned (gq_it (kb_X7_digest_107_4 S) 0 s i) = mg_returned s ∧ mg_fetched (gq_it (kb_X7_digest_107_4 S) 0 s i) = mg_fetched s ∧ mg_fetchAt (gq_it (kb_X7_digest_107_4 S) 0 s i) = mg_fetchAt s ∧ mg_fetchCycle (gq_it (kb_X7_digest_107_4 S) 0 s i) = mg_fetchCycle s ∧ mg_fetchGuess (gq_it (kb_X7_digest_107_4 S) 0 s i) = mg_fetchGuess s ∧ mg_fetchHistory (gq_it (kb_X7_digest_107_4 S) 0 s i) = mg_fetchHistory s ∧ mg_fetchReturned (gq_it (kb_X7_digest_107_4 S) 0 s i) = mg_fetchReturned s ∧ mg_fetchReturns (gq_it (kb_X7_digest_107_4 S) 0 s i) = mg_fetchReturns s ∧ mg_runs (gq_it (kb_X7_digest_107_4 S) 0 s i) = mg_runs s ∧ mg_ended (gq_it (kb_X7_digest_107_4 S) 0 s i) = mg_ended s ∧ mg_place (gq_it (kb_X7_digest_107_4 S) 0 s i) = mg_place s ∧ mg_counts (gq_it (kb_X7_digest_107_4 S) 0 s i) = mg_counts s ∧ mg_doneAt (gq_it (kb_X7_digest_107_4 S) 0 s i) = mg_doneAt s ∧ mg_keptReturns (gq_it (kb_X7_digest_107_4 S) 0 s i) = mg_keptReturns s := by
  induction i with
  | zero => simp only [gq_it, and_self]
  | succ i ih => simp only [gq_it, Nat.not_lt_zero, if_false, mb_kb_X7_digest_107_4, ih, and_self]
def kb_X7_digest_107_5 (S : gs_M) (i : Nat) (t39 : gs_M) : gs_M :=
  gq_lt (k_X7_mix t39 ((k_X7_tableOf t39 5 (nI i)).toInt64)) (fun s40 =>
  s40)
theorem mb_kb_X7_digest_107_5 (S : gs_M) (i : Nat) (t : gs_M) : mg_acts (kb_X7_digest_107_5 S i t) = mg_acts t ∧ mg_kinds (kb_X7_digest_107_5 S i t) = mg_kinds t ∧ mg_as (kb_X7_digest_107_5 S i t) = mg_as t ∧ mg_bs (kb_X7_digest_107_5 S i t) = mg_bs t ∧ mg_cs (kb_X7_digest_107_5 S i t) = mg_cs t ∧ mg_registers (kb_X7_digest_107_5 S i t) = mg_registers t ∧ mg_memory (kb_X7_digest_107_5 S i t) = mg_memory t ∧ mg_stack (kb_X7_digest_107_5 S i t) = mg_stack t ∧ mg_deep (kb_X7_digest_107_5 S i t) = mg_deep t ∧ mg_way (kb_X7_digest_107_5 S i t) = mg_way t ∧ mg_depth (kb_X7_digest_107_5 S i t) = mg_depth t ∧ mg_plain (kb_X7_digest_107_5 S i t) = mg_plain t ∧ mg_mixed (kb_X7_digest_107_5 S i t) = mg_mixed t ∧ mg_choice (kb_X7_digest_107_5 S i t) = mg_choice t ∧ mg_history (kb_X7_digest_107_5 S i t) = mg_history t ∧ mg_targetAt (kb_X7_digest_107_5 S i t) = mg_targetAt t ∧ mg_targetKind (kb_X7_digest_107_5 S i t) = mg_targetKind t ∧ mg_target (kb_X7_digest_107_5 S i t) = mg_target t ∧ mg_returns (kb_X7_digest_107_5 S i t) = mg_returns t ∧ mg_returned (kb_X7_digest_107_5 S i t) = mg_returned t ∧ mg_fetched (kb_X7_digest_107_5 S i t) = mg_fetched t ∧ mg_fetchAt (kb_X7_digest_107_5 S i t) = mg_fetchAt t ∧ mg_fetchCycle (kb_X7_digest_107_5 S i t) = mg_fetchCycle t ∧ mg_fetchGuess (kb_X7_digest_107_5 S i t) = mg_fetchGuess t ∧ mg_fetchHistory (kb_X7_digest_107_5 S i t) = mg_fetchHistory t ∧ mg_fetchReturned (kb_X7_digest_107_5 S i t) = mg_fetchReturned t ∧ mg_fetchReturns (kb_X7_digest_107_5 S i t) = mg_fetchReturns t ∧ mg_runs (kb_X7_digest_107_5 S i t) = mg_runs t ∧ mg_ended (kb_X7_digest_107_5 S i t) = mg_ended t ∧ mg_place (kb_X7_digest_107_5 S i t) = mg_place t ∧ mg_counts (kb_X7_digest_107_5 S i t) = mg_counts t ∧ mg_doneAt (kb_X7_digest_107_5 S i t) = mg_doneAt t ∧ mg_keptReturns (kb_X7_digest_107_5 S i t) = mg_keptReturns t := by
  unfold kb_X7_digest_107_5
  simp only [gq_lt, mk_mix, and_self]
theorem mi_kb_X7_digest_107_5 (S : gs_M) (s : gs_M) (i : Nat) : mg_acts (gq_it (kb_X7_digest_107_5 S) 0 s i) = mg_acts s ∧ mg_kinds (gq_it (kb_X7_digest_107_5 S) 0 s i) = mg_kinds s ∧ mg_as (gq_it (kb_X7_digest_107_5 S) 0 s i) = mg_as s ∧ mg_bs (gq_it (kb_X7_digest_107_5 S) 0 s i) = mg_bs s ∧ mg_cs (gq_it (kb_X7_digest_107_5 S) 0 s i) = mg_cs s ∧ mg_registers (gq_it (kb_X7_digest_107_5 S) 0 s i) = mg_registers s ∧ mg_memory (gq_it (kb_X7_digest_107_5 S) 0 s i) = mg_memory s ∧ mg_stack (gq_it (kb_X7_digest_107_5 S) 0 s i) = mg_stack s ∧ mg_deep (gq_it (kb_X7_digest_107_5 S) 0 s i) = mg_deep s ∧ mg_way (gq_it (kb_X7_digest_107_5 S) 0 s i) = mg_way s ∧ mg_depth (gq_it (kb_X7_digest_107_5 S) 0 s i) = mg_depth s ∧ mg_plain (gq_it (kb_X7_digest_107_5 S) 0 s i) = mg_plain s ∧ mg_mixed (gq_it (kb_X7_digest_107_5 S) 0 s i) = mg_mixed s ∧ mg_choice (gq_it (kb_X7_digest_107_5 S) 0 s i) = mg_choice s ∧ mg_history (gq_it (kb_X7_digest_107_5 S) 0 s i) = mg_history s ∧ mg_targetAt (gq_it (kb_X7_digest_107_5 S) 0 s i) = mg_targetAt s ∧ mg_targetKind (gq_it (kb_X7_digest_107_5 S) 0 s i) = mg_targetKind s ∧ mg_target (gq_it (kb_X7_digest_107_5 S) 0 s i) = mg_target s ∧ mg_returns (gq_it (kb_X7_digest_107_5 S) 0 s i) = mg_returns s ∧ mg_returned (gq_it (kb_X7_digest_107_5 S) 0 s i) = mg_returned s ∧ mg_fetched (gq_it (kb_X7_digest_107_5 S) 0 s i) = mg_fetched s ∧ mg_fetchAt (gq_it (kb_X7_digest_107_5 S) 0 s i) = mg_fetchAt s ∧ mg_fetchCycle (gq_it (kb_X7_digest_107_5 S) 0 s i) = mg_fetchCycle s ∧ mg_fetchGuess (gq_it (kb_X7_digest_107_5 S) 0 s i) = mg_fetchGuess s ∧ mg_fetchHistory (gq_it (kb_X7_digest_107_5 S) 0 s i) = mg_fetchHistory s ∧ mg_fetchReturned (gq_it (kb_X7_digest_107_5 S) 0 s i) = mg_fetchReturned s ∧ mg_fetchReturns (gq_it (kb_X7_digest_107_5 S) 0 s i) = mg_fetchReturns s ∧ mg_runs (gq_it (kb_X7_digest_107_5 S) 0 s i) = mg_runs s ∧ mg_ended (gq_it (kb_X7_digest_107_5 S) 0 s i) = mg_ended s ∧ mg_place (gq_it (kb_X7_digest_107_5 S) 0 s i) = mg_place s ∧ mg_counts (gq_it (kb_X7_digest_107_5 S) 0 s i) = mg_counts s ∧ mg_doneAt (gq_it (kb_X7_digest_107_5 S) 0 s i) = mg_doneAt s ∧ mg_keptReturns (gq_it (kb_X7_digest_107_5 S) 0 s i) = mg_keptReturns s := by
  induction i with
  | zero => simp only [gq_it, and_self]
  | succ i ih => simp only [gq_it, Nat.not_lt_zero, if_false, mb_kb_X7_digest_107_5, ih, and_self]
def kb_X7_digest_166 (S : gs_M) (i : Nat) (t45 : gs_M) : gs_M :=
  gq_lt (k_X7_mix t45 (((mg_returns t45) (gq_ix (nI i))).toInt64)) (fun s46 =>
  s46)
theorem mb_kb_X7_digest_166 (S : gs_M) (i : Nat) (t : gs_M) : mg_acts (kb_X7_digest_166 S i t) = mg_acts t ∧ mg_kinds (kb_X7_digest_166 S i t) = mg_kinds t ∧ mg_as (kb_X7_digest_166 S i t) = mg_as t ∧ mg_bs (kb_X7_digest_166 S i t) = mg_bs t ∧ mg_cs (kb_X7_digest_166 S i t) = mg_cs t ∧ mg_registers (kb_X7_digest_166 S i t) = mg_registers t ∧ mg_memory (kb_X7_digest_166 S i t) = mg_memory t ∧ mg_stack (kb_X7_digest_166 S i t) = mg_stack t ∧ mg_deep (kb_X7_digest_166 S i t) = mg_deep t ∧ mg_way (kb_X7_digest_166 S i t) = mg_way t ∧ mg_depth (kb_X7_digest_166 S i t) = mg_depth t ∧ mg_plain (kb_X7_digest_166 S i t) = mg_plain t ∧ mg_mixed (kb_X7_digest_166 S i t) = mg_mixed t ∧ mg_choice (kb_X7_digest_166 S i t) = mg_choice t ∧ mg_history (kb_X7_digest_166 S i t) = mg_history t ∧ mg_targetAt (kb_X7_digest_166 S i t) = mg_targetAt t ∧ mg_targetKind (kb_X7_digest_166 S i t) = mg_targetKind t ∧ mg_target (kb_X7_digest_166 S i t) = mg_target t ∧ mg_returns (kb_X7_digest_166 S i t) = mg_returns t ∧ mg_returned (kb_X7_digest_166 S i t) = mg_returned t ∧ mg_fetched (kb_X7_digest_166 S i t) = mg_fetched t ∧ mg_fetchAt (kb_X7_digest_166 S i t) = mg_fetchAt t ∧ mg_fetchCycle (kb_X7_digest_166 S i t) = mg_fetchCycle t ∧ mg_fetchGuess (kb_X7_digest_166 S i t) = mg_fetchGuess t ∧ mg_fetchHistory (kb_X7_digest_166 S i t) = mg_fetchHistory t ∧ mg_fetchReturned (kb_X7_digest_166 S i t) = mg_fetchReturned t ∧ mg_fetchReturns (kb_X7_digest_166 S i t) = mg_fetchReturns t ∧ mg_runs (kb_X7_digest_166 S i t) = mg_runs t ∧ mg_ended (kb_X7_digest_166 S i t) = mg_ended t ∧ mg_place (kb_X7_digest_166 S i t) = mg_place t ∧ mg_counts (kb_X7_digest_166 S i t) = mg_counts t ∧ mg_doneAt (kb_X7_digest_166 S i t) = mg_doneAt t ∧ mg_keptReturns (kb_X7_digest_166 S i t) = mg_keptReturns t := by
  unfold kb_X7_digest_166
  simp only [gq_lt, mk_mix, and_self]
theorem mi_kb_X7_digest_166 (S : gs_M) (s : gs_M) (i : Nat) : mg_acts (gq_it (kb_X7_digest_166 S) 0 s i) = mg_acts s ∧ mg_kinds (gq_it (kb_X7_digest_166 S) 0 s i) = mg_kinds s ∧ mg_as (gq_it (kb_X7_digest_166 S) 0 s i) = mg_as s ∧ mg_bs (gq_it (kb_X7_digest_166 S) 0 s i) = mg_bs s ∧ mg_cs (gq_it (kb_X7_digest_166 S) 0 s i) = mg_cs s ∧ mg_registers (gq_it (kb_X7_digest_166 S) 0 s i) = mg_registers s ∧ mg_memory (gq_it (kb_X7_digest_166 S) 0 s i) = mg_memory s ∧ mg_stack (gq_it (kb_X7_digest_166 S) 0 s i) = mg_stack s ∧ mg_deep (gq_it (kb_X7_digest_166 S) 0 s i) = mg_deep s ∧ mg_way (gq_it (kb_X7_digest_166 S) 0 s i) = mg_way s ∧ mg_depth (gq_it (kb_X7_digest_166 S) 0 s i) = mg_depth s ∧ mg_plain (gq_it (kb_X7_digest_166 S) 0 s i) = mg_plain s ∧ mg_mixed (gq_it (kb_X7_digest_166 S) 0 s i) = mg_mixed s ∧ mg_choice (gq_it (kb_X7_digest_166 S) 0 s i) = mg_choice s ∧ mg_history (gq_it (kb_X7_digest_166 S) 0 s i) = mg_history s ∧ mg_targetAt (gq_it (kb_X7_digest_166 S) 0 s i) = mg_targetAt s ∧ mg_targetKind (gq_it (kb_X7_digest_166 S) 0 s i) = mg_targetKind s ∧ mg_target (gq_it (kb_X7_digest_166 S) 0 s i) = mg_target s ∧ mg_returns (gq_it (kb_X7_digest_166 S) 0 s i) = mg_returns s ∧ mg_returned (gq_it (kb_X7_digest_166 S) 0 s i) = mg_returned s ∧ mg_fetched (gq_it (kb_X7_digest_166 S) 0 s i) = mg_fetched s ∧ mg_fetchAt (gq_it (kb_X7_digest_166 S) 0 s i) = mg_fetchAt s ∧ mg_fetchCycle (gq_it (kb_X7_digest_166 S) 0 s i) = mg_fetchCycle s ∧ mg_fetchGuess (gq_it (kb_X7_digest_166 S) 0 s i) = mg_fetchGuess s ∧ mg_fetchHistory (gq_it (kb_X7_digest_166 S) 0 s i) = mg_fetchHistory s ∧ mg_fetchReturned (gq_it (kb_X7_digest_166 S) 0 s i) = mg_fetchReturned s ∧ mg_fetchReturns (gq_it (kb_X7_digest_166 S) 0 s i) = mg_fetchReturns s ∧ mg_runs (gq_it (kb_X7_digest_166 S) 0 s i) = mg_runs s ∧ mg_ended (gq_it (kb_X7_digest_166 S) 0 s i) = mg_ended s ∧ mg_place (gq_it (kb_X7_digest_166 S) 0 s i) = mg_place s ∧ mg_counts (gq_it (kb_X7_digest_166 S) 0 s i) = mg_counts s ∧ mg_doneAt (gq_it (kb_X7_digest_166 S) 0 s i) = mg_doneAt s ∧ mg_keptReturns (gq_it (kb_X7_digest_166 S) 0 s i) = mg_keptReturns s := by
  induction i with
  | zero => simp only [gq_it, and_self]
  | succ i ih => simp only [gq_it, Nat.not_lt_zero, if_false, mb_kb_X7_digest_166, ih, and_self]
def kb_X7_digest_193 (S : gs_M) (i : Nat) (t49 : gs_M) : gs_M :=
  gq_lt (k_X7_mix t49 (((mg_fetchAt t49) (gq_ix (nI i))).toInt64)) (fun s50 =>
  s50)
theorem mb_kb_X7_digest_193 (S : gs_M) (i : Nat) (t : gs_M) : mg_acts (kb_X7_digest_193 S i t) = mg_acts t ∧ mg_kinds (kb_X7_digest_193 S i t) = mg_kinds t ∧ mg_as (kb_X7_digest_193 S i t) = mg_as t ∧ mg_bs (kb_X7_digest_193 S i t) = mg_bs t ∧ mg_cs (kb_X7_digest_193 S i t) = mg_cs t ∧ mg_registers (kb_X7_digest_193 S i t) = mg_registers t ∧ mg_memory (kb_X7_digest_193 S i t) = mg_memory t ∧ mg_stack (kb_X7_digest_193 S i t) = mg_stack t ∧ mg_deep (kb_X7_digest_193 S i t) = mg_deep t ∧ mg_way (kb_X7_digest_193 S i t) = mg_way t ∧ mg_depth (kb_X7_digest_193 S i t) = mg_depth t ∧ mg_plain (kb_X7_digest_193 S i t) = mg_plain t ∧ mg_mixed (kb_X7_digest_193 S i t) = mg_mixed t ∧ mg_choice (kb_X7_digest_193 S i t) = mg_choice t ∧ mg_history (kb_X7_digest_193 S i t) = mg_history t ∧ mg_targetAt (kb_X7_digest_193 S i t) = mg_targetAt t ∧ mg_targetKind (kb_X7_digest_193 S i t) = mg_targetKind t ∧ mg_target (kb_X7_digest_193 S i t) = mg_target t ∧ mg_returns (kb_X7_digest_193 S i t) = mg_returns t ∧ mg_returned (kb_X7_digest_193 S i t) = mg_returned t ∧ mg_fetched (kb_X7_digest_193 S i t) = mg_fetched t ∧ mg_fetchAt (kb_X7_digest_193 S i t) = mg_fetchAt t ∧ mg_fetchCycle (kb_X7_digest_193 S i t) = mg_fetchCycle t ∧ mg_fetchGuess (kb_X7_digest_193 S i t) = mg_fetchGuess t ∧ mg_fetchHistory (kb_X7_digest_193 S i t) = mg_fetchHistory t ∧ mg_fetchReturned (kb_X7_digest_193 S i t) = mg_fetchReturned t ∧ mg_fetchReturns (kb_X7_digest_193 S i t) = mg_fetchReturns t ∧ mg_runs (kb_X7_digest_193 S i t) = mg_runs t ∧ mg_ended (kb_X7_digest_193 S i t) = mg_ended t ∧ mg_place (kb_X7_digest_193 S i t) = mg_place t ∧ mg_counts (kb_X7_digest_193 S i t) = mg_counts t ∧ mg_doneAt (kb_X7_digest_193 S i t) = mg_doneAt t ∧ mg_keptReturns (kb_X7_digest_193 S i t) = mg_keptReturns t := by
  unfold kb_X7_digest_193
  simp only [gq_lt, mk_mix, and_self]
theorem mi_kb_X7_digest_193 (S : gs_M) (s : gs_M) (i : Nat) : mg_acts (gq_it (kb_X7_digest_193 S) 0 s i) = mg_acts s ∧ mg_kinds (gq_it (kb_X7_digest_193 S) 0 s i) = mg_kinds s ∧ mg_as (gq_it (kb_X7_digest_193 S) 0 s i) = mg_as s ∧ mg_bs (gq_it (kb_X7_digest_193 S) 0 s i) = mg_bs s ∧ mg_cs (gq_it (kb_X7_digest_193 S) 0 s i) = mg_cs s ∧ mg_registers (gq_it (kb_X7_digest_193 S) 0 s i) = mg_registers s ∧ mg_memory (gq_it (kb_X7_digest_193 S) 0 s i) = mg_memory s ∧ mg_stack (gq_it (kb_X7_digest_193 S) 0 s i) = mg_stack s ∧ mg_deep (gq_it (kb_X7_digest_193 S) 0 s i) = mg_deep s ∧ mg_way (gq_it (kb_X7_digest_193 S) 0 s i) = mg_way s ∧ mg_depth (gq_it (kb_X7_digest_193 S) 0 s i) = mg_depth s ∧ mg_plain (gq_it (kb_X7_digest_193 S) 0 s i) = mg_plain s ∧ mg_mixed (gq_it (kb_X7_digest_193 S) 0 s i) = mg_mixed s ∧ mg_choice (gq_it (kb_X7_digest_193 S) 0 s i) = mg_choice s ∧ mg_history (gq_it (kb_X7_digest_193 S) 0 s i) = mg_history s ∧ mg_targetAt (gq_it (kb_X7_digest_193 S) 0 s i) = mg_targetAt s ∧ mg_targetKind (gq_it (kb_X7_digest_193 S) 0 s i) = mg_targetKind s ∧ mg_target (gq_it (kb_X7_digest_193 S) 0 s i) = mg_target s ∧ mg_returns (gq_it (kb_X7_digest_193 S) 0 s i) = mg_returns s ∧ mg_returned (gq_it (kb_X7_digest_193 S) 0 s i) = mg_returned s ∧ mg_fetched (gq_it (kb_X7_digest_193 S) 0 s i) = mg_fetched s ∧ mg_fetchAt (gq_it (kb_X7_digest_193 S) 0 s i) = mg_fetchAt s ∧ mg_fetchCycle (gq_it (kb_X7_digest_193 S) 0 s i) = mg_fetchCycle s ∧ mg_fetchGuess (gq_it (kb_X7_digest_193 S) 0 s i) = mg_fetchGuess s ∧ mg_fetchHistory (gq_it (kb_X7_digest_193 S) 0 s i) = mg_fetchHistory s ∧ mg_fetchReturned (gq_it (kb_X7_digest_193 S) 0 s i) = mg_fetchReturned s ∧ mg_fetchReturns (gq_it (kb_X7_digest_193 S) 0 s i) = mg_fetchReturns s ∧ mg_runs (gq_it (kb_X7_digest_193 S) 0 s i) = mg_runs s ∧ mg_ended (gq_it (kb_X7_digest_193 S) 0 s i) = mg_ended s ∧ mg_place (gq_it (kb_X7_digest_193 S) 0 s i) = mg_place s ∧ mg_counts (gq_it (kb_X7_digest_193 S) 0 s i) = mg_counts s ∧ mg_doneAt (gq_it (kb_X7_digest_193 S) 0 s i) = mg_doneAt s ∧ mg_keptReturns (gq_it (kb_X7_digest_193 S) 0 s i) = mg_keptReturns s := by
  induction i with
  | zero => simp only [gq_it, and_self]
  | succ i ih => simp only [gq_it, Nat.not_lt_zero, if_false, mb_kb_X7_digest_193, ih, and_self]
def kb_X7_digest_220 (S : gs_M) (i : Nat) (t53 : gs_M) : gs_M :=
  gq_lt (k_X7_mix t53 ((k_X7_count t53 (nI i)).toInt64)) (fun s54 =>
  s54)
theorem mb_kb_X7_digest_220 (S : gs_M) (i : Nat) (t : gs_M) : mg_acts (kb_X7_digest_220 S i t) = mg_acts t ∧ mg_kinds (kb_X7_digest_220 S i t) = mg_kinds t ∧ mg_as (kb_X7_digest_220 S i t) = mg_as t ∧ mg_bs (kb_X7_digest_220 S i t) = mg_bs t ∧ mg_cs (kb_X7_digest_220 S i t) = mg_cs t ∧ mg_registers (kb_X7_digest_220 S i t) = mg_registers t ∧ mg_memory (kb_X7_digest_220 S i t) = mg_memory t ∧ mg_stack (kb_X7_digest_220 S i t) = mg_stack t ∧ mg_deep (kb_X7_digest_220 S i t) = mg_deep t ∧ mg_way (kb_X7_digest_220 S i t) = mg_way t ∧ mg_depth (kb_X7_digest_220 S i t) = mg_depth t ∧ mg_plain (kb_X7_digest_220 S i t) = mg_plain t ∧ mg_mixed (kb_X7_digest_220 S i t) = mg_mixed t ∧ mg_choice (kb_X7_digest_220 S i t) = mg_choice t ∧ mg_history (kb_X7_digest_220 S i t) = mg_history t ∧ mg_targetAt (kb_X7_digest_220 S i t) = mg_targetAt t ∧ mg_targetKind (kb_X7_digest_220 S i t) = mg_targetKind t ∧ mg_target (kb_X7_digest_220 S i t) = mg_target t ∧ mg_returns (kb_X7_digest_220 S i t) = mg_returns t ∧ mg_returned (kb_X7_digest_220 S i t) = mg_returned t ∧ mg_fetched (kb_X7_digest_220 S i t) = mg_fetched t ∧ mg_fetchAt (kb_X7_digest_220 S i t) = mg_fetchAt t ∧ mg_fetchCycle (kb_X7_digest_220 S i t) = mg_fetchCycle t ∧ mg_fetchGuess (kb_X7_digest_220 S i t) = mg_fetchGuess t ∧ mg_fetchHistory (kb_X7_digest_220 S i t) = mg_fetchHistory t ∧ mg_fetchReturned (kb_X7_digest_220 S i t) = mg_fetchReturned t ∧ mg_fetchReturns (kb_X7_digest_220 S i t) = mg_fetchReturns t ∧ mg_runs (kb_X7_digest_220 S i t) = mg_runs t ∧ mg_ended (kb_X7_digest_220 S i t) = mg_ended t ∧ mg_place (kb_X7_digest_220 S i t) = mg_place t ∧ mg_counts (kb_X7_digest_220 S i t) = mg_counts t ∧ mg_doneAt (kb_X7_digest_220 S i t) = mg_doneAt t ∧ mg_keptReturns (kb_X7_digest_220 S i t) = mg_keptReturns t := by
  unfold kb_X7_digest_220
  simp only [gq_lt, mk_mix, and_self]
theorem mi_kb_X7_digest_220 (S : gs_M) (s : gs_M) (i : Nat) : mg_acts (gq_it (kb_X7_digest_220 S) 0 s i) = mg_acts s ∧ mg_kinds (gq_it (kb_X7_digest_220 S) 0 s i) = mg_kinds s ∧ mg_as (gq_it (kb_X7_digest_220 S) 0 s i) = mg_as s ∧ mg_bs (gq_it (kb_X7_digest_220 S) 0 s i) = mg_bs s ∧ mg_cs (gq_it (kb_X7_digest_220 S) 0 s i) = mg_cs s ∧ mg_registers (gq_it (kb_X7_digest_220 S) 0 s i) = mg_registers s ∧ mg_memory (gq_it (kb_X7_digest_220 S) 0 s i) = mg_memory s ∧ mg_stack (gq_it (kb_X7_digest_220 S) 0 s i) = mg_stack s ∧ mg_deep (gq_it (kb_X7_digest_220 S) 0 s i) = mg_deep s ∧ mg_way (gq_it (kb_X7_digest_220 S) 0 s i) = mg_way s ∧ mg_depth (gq_it (kb_X7_digest_220 S) 0 s i) = mg_depth s ∧ mg_plain (gq_it (kb_X7_digest_220 S) 0 s i) = mg_plain s ∧ mg_mixed (gq_it (kb_X7_digest_220 S) 0 s i) = mg_mixed s ∧ mg_choice (gq_it (kb_X7_digest_220 S) 0 s i) = mg_choice s ∧ mg_history (gq_it (kb_X7_digest_220 S) 0 s i) = mg_history s ∧ mg_targetAt (gq_it (kb_X7_digest_220 S) 0 s i) = mg_targetAt s ∧ mg_targetKind (gq_it (kb_X7_digest_220 S) 0 s i) = mg_targetKind s ∧ mg_target (gq_it (kb_X7_digest_220 S) 0 s i) = mg_target s ∧ mg_returns (gq_it (kb_X7_digest_220 S) 0 s i) = mg_returns s ∧ mg_returned (gq_it (kb_X7_digest_220 S) 0 s i) = mg_returned s ∧ mg_fetched (gq_it (kb_X7_digest_220 S) 0 s i) = mg_fetched s ∧ mg_fetchAt (gq_it (kb_X7_digest_220 S) 0 s i) = mg_fetchAt s ∧ mg_fetchCycle (gq_it (kb_X7_digest_220 S) 0 s i) = mg_fetchCycle s ∧ mg_fetchGuess (gq_it (kb_X7_digest_220 S) 0 s i) = mg_fetchGuess s ∧ mg_fetchHistory (gq_it (kb_X7_digest_220 S) 0 s i) = mg_fetchHistory s ∧ mg_fetchReturned (gq_it (kb_X7_digest_220 S) 0 s i) = mg_fetchReturned s ∧ mg_fetchReturns (gq_it (kb_X7_digest_220 S) 0 s i) = mg_fetchReturns s ∧ mg_runs (gq_it (kb_X7_digest_220 S) 0 s i) = mg_runs s ∧ mg_ended (gq_it (kb_X7_digest_220 S) 0 s i) = mg_ended s ∧ mg_place (gq_it (kb_X7_digest_220 S) 0 s i) = mg_place s ∧ mg_counts (gq_it (kb_X7_digest_220 S) 0 s i) = mg_counts s ∧ mg_doneAt (gq_it (kb_X7_digest_220 S) 0 s i) = mg_doneAt s ∧ mg_keptReturns (gq_it (kb_X7_digest_220 S) 0 s i) = mg_keptReturns s := by
  induction i with
  | zero => simp only [gq_it, and_self]
  | succ i ih => simp only [gq_it, Nat.not_lt_zero, if_false, mb_kb_X7_digest_220, ih, and_self]
def k_X7_digest (S : gs_M) : Int64 × gs_M :=
  gq_lt (ms_h S 73) (fun s1 =>
  gq_lt (gq_it (kb_X7_digest_9 S) 0 s1 (gq_ix (mg_acts S))) (fun s2 =>
  gq_lt (gq_it (kb_X7_digest_49 S) 0 s2 24) (fun s9 =>
  gq_lt (gq_it (kb_X7_digest_72 S) 0 s9 (gq_ix (mg_deep S))) (fun s13 =>
  gq_lt (gq_it (kb_X7_digest_107 S) 0 s13 16) (fun s17 =>
  gq_lt (gq_it (kb_X7_digest_107_1 S) 0 s17 16) (fun s21 =>
  gq_lt (gq_it (kb_X7_digest_107_2 S) 0 s21 16) (fun s25 =>
  gq_lt (gq_it (kb_X7_digest_107_3 S) 0 s25 8) (fun s29 =>
  gq_lt (gq_it (kb_X7_digest_107_4 S) 0 s29 8) (fun s33 =>
  gq_lt (gq_it (kb_X7_digest_107_5 S) 0 s33 8) (fun s37 =>
  gq_lt (k_X7_mix s37 ((mg_history s37).toInt64)) (fun s41 =>
  gq_lt (k_X7_mix s41 ((mg_returned s41).toInt64)) (fun s42 =>
  gq_lt (gq_it (kb_X7_digest_166 S) 0 s42 (gq_ix (mg_returned S))) (fun s43 =>
  gq_lt (gq_it (kb_X7_digest_193 S) 0 s43 (gq_ix (mg_fetched S))) (fun s47 =>
  gq_lt (gq_it (kb_X7_digest_220 S) 0 s47 18) (fun s51 =>
  (mg_h s51, s51))))))))))))))))
set_option maxHeartbeats 4000000 in
set_option maxRecDepth 100000 in
theorem c_X7_digest (l : Launch) (D : va_G) (cA : ClassId) (a : Nat → Nat) (S : gs_M)  (ha : vp_in (mg_acts S) 61) (hd : vp_in (mg_deep S) 17) (hr : vp_in (mg_returned S) 5) (hf : vp_in (mg_fetched S) 9) : gq_C l yX7_digest wsX7_digest ({ frames := 2, cells := 0, slots := 0, locals := 44 } : Room) D cA [.ref (a 0)] (gw_M cA a S) (some (.long (k_X7_digest S).1)) (gw_M cA a ((k_X7_digest S).2)) := by
  refine gq_openf (own := RX7) (lv := [(0, .ref (a 0))]) (fun r : Int64 × gs_M => (some (.long r.1), gw_M cA a r.2)) (k_X7_digest S) (by decide) rfl rfl (Nat.le_of_ble_eq_true rfl) rfl rfl rfl (fun p e s m args below meth c A X => ?_)
  unfold k_X7_digest
  refine gq_aload_n X dX7_digest_0 0 rfl ?_
  refine gq_ldc2 (v := 73) X kX7_digest_189 dX7_digest_1 ?_
  refine gq_letr (fun s1 es1 => ?_)
  refine gq_put (C := RX7) (T := TX7) (N := 34) (ws' := gw_M cA a s1) X iX7_digest_X7 tyX7 tyX7_ok nmX7 0 gl_M_c0 rfl 33 (by decide) fX7_digest_X7_33 rfl rfl rfl (Nat.le_of_ble_eq_true rfl) (by rw [es1]; exact gl_M_f33) dX7_digest_4 ?_
  have ts1_mg_acts : mg_acts s1 = mg_acts S := by rw [es1]; exact (mfr_h _ _).1.trans rfl
  have ts1_mg_deep : mg_deep s1 = mg_deep S := by rw [es1]; exact (mfr_h _ _).2.2.2.2.2.2.2.2.1.trans rfl
  have ts1_mg_returned : mg_returned s1 = mg_returned S := by rw [es1]; exact (mfr_h _ _).2.2.2.2.2.2.2.2.2.2.2.2.2.2.2.2.2.2.2.1.trans rfl
  have ts1_mg_fetched : mg_fetched s1 = mg_fetched S := by rw [es1]; exact (mfr_h _ _).2.2.2.2.2.2.2.2.2.2.2.2.2.2.2.2.2.2.2.2.1.trans rfl
  have ts1_mg_counts : mg_counts s1 = mg_counts S := by rw [es1]; exact (mfr_h _ _).2.2.2.2.2.2.2.2.2.2.2.2.2.2.2.2.2.2.2.2.2.2.2.2.2.2.2.2.2.2.1.trans rfl
  refine gq_iconst (v := 0) X dX7_digest_7 gq_i0 ?_
  refine gq_istore_n (lv' := [(1, .int 0), (0, .ref (a 0))]) X dX7_digest_8 (by decide) rfl ?_
  refine gq_letr (fun s2 es2 => ?_)
  have ts2_mg_acts : mg_acts s2 = mg_acts S := by rw [es2]; exact ((mi_kb_X7_digest_9 S s1 _).1).trans ts1_mg_acts
  have ts2_mg_deep : mg_deep s2 = mg_deep S := by rw [es2]; exact ((mi_kb_X7_digest_9 S s1 _).2.2.2.2.2.2.2.2.1).trans ts1_mg_deep
  have ts2_mg_returned : mg_returned s2 = mg_returned S := by rw [es2]; exact ((mi_kb_X7_digest_9 S s1 _).2.2.2.2.2.2.2.2.2.2.2.2.2.2.2.2.2.2.2.1).trans ts1_mg_returned
  have ts2_mg_fetched : mg_fetched s2 = mg_fetched S := by rw [es2]; exact ((mi_kb_X7_digest_9 S s1 _).2.2.2.2.2.2.2.2.2.2.2.2.2.2.2.2.2.2.2.2.1).trans ts1_mg_fetched
  have ts2_mg_counts : mg_counts s2 = mg_counts S := by rw [es2]; exact ((mi_kb_X7_digest_9 S s1 _).2.2.2.2.2.2.2.2.2.2.2.2.2.2.2.2.2.2.2.2.2.2.2.2.2.2.2.2.2.2.1).trans ts1_mg_counts
  refine gq_eqw (ws' := gw_M cA a (gq_it (kb_X7_digest_9 S) 0 s1 0)) (by rw [gq_it_0]) ?_
  refine gq_loop (N := (gq_ix (mg_acts S))) (i0 := 0) (fun i => gw_M cA a (gq_it (kb_X7_digest_9 S) 0 s1 i)) (fun i => [(1, .int (nI i)), (0, .ref (a 0))]) (Nat.zero_le _) (fun i hi h0 ih => ?_)
  obtain ⟨t4, et4⟩ : ∃ y, y = gq_it (kb_X7_digest_9 S) 0 s1 i := ⟨_, rfl⟩
  have tt4_mg_acts : mg_acts t4 = mg_acts S := by rw [et4]; exact ((mi_kb_X7_digest_9 S s1 _).1).trans ts1_mg_acts
  have tt4_mg_deep : mg_deep t4 = mg_deep S := by rw [et4]; exact ((mi_kb_X7_digest_9 S s1 _).2.2.2.2.2.2.2.2.1).trans ts1_mg_deep
  have tt4_mg_returned : mg_returned t4 = mg_returned S := by rw [et4]; exact ((mi_kb_X7_digest_9 S s1 _).2.2.2.2.2.2.2.2.2.2.2.2.2.2.2.2.2.2.2.1).trans ts1_mg_returned
  have tt4_mg_fetched : mg_fetched t4 = mg_fetched S := by rw [et4]; exact ((mi_kb_X7_digest_9 S s1 _).2.2.2.2.2.2.2.2.2.2.2.2.2.2.2.2.2.2.2.2.1).trans ts1_mg_fetched
  have tt4_mg_counts : mg_counts t4 = mg_counts S := by rw [et4]; exact ((mi_kb_X7_digest_9 S s1 _).2.2.2.2.2.2.2.2.2.2.2.2.2.2.2.2.2.2.2.2.2.2.2.2.2.2.2.2.2.2.1).trans ts1_mg_counts
  refine gq_eqw (ws' := gw_M cA a t4) (by rw [et4]) ?_
  refine gq_iload_n X dX7_digest_9 0 rfl ?_
  refine gq_aload_n X dX7_digest_10 1 rfl ?_
  refine gq_get (C := RX7) (T := TX7) (N := 34) X iX7_digest_X7 0 gl_M_c0 rfl 0 (by decide) fX7_digest_X7_0 rfl dX7_digest_11 ?_
  rcases Nat.lt_or_ge i (gq_ix (mg_acts S)) with hlt | hge
  · refine gq_icmp_ge (tgt := 47) X dX7_digest_14 (by decide) (fun h => absurd h (by rw [tt4_mg_acts, mv_self ha (by decide)]; exact nI_ge hlt (by have := mv_ix ha; omega))) (fun _ => ?_)
    refine gq_iconst (v := 0) X dX7_digest_17 gq_i0 ?_
    refine gq_istore_n (lv' := [(2, .int 0), (1, .int (nI i)), (0, .ref (a 0))]) X dX7_digest_18 (by decide) rfl ?_
    refine gq_iload_n X dX7_digest_19 0 rfl ?_
    refine gq_iconst (v := 4) X dX7_digest_20 gq_i4 ?_
    refine gq_icmp_ge (tgt := 41) X dX7_digest_21 (by decide) (fun h => absurd h (by decide)) (fun _ => ?_)
    refine gq_aload_n X dX7_digest_24 2 rfl ?_
    refine gq_aload_n X dX7_digest_25 2 rfl ?_
    refine gq_iload_n X dX7_digest_26 1 rfl ?_
    refine gq_iload_n X dX7_digest_27 0 rfl ?_
    refine gq_callVr (ws' := gw_M cA a t4) X (c_X7_told l D cA a t4 (nI i) 0 (by rw [tt4_mg_acts]; exact ha)) rfl ⟨rfl, rfl⟩ ⟨Nat.le_of_ble_eq_true rfl, Nat.le_of_ble_eq_true rfl⟩ gX7_digest_X7_told hv_X7_told 0 gl_M_c0 rfl [0, 1, 2, 3, 4, 5, 6, 7, 8, 9, 10, 11, 12, 13, 14, 15, 16, 17, 18, 19, 20, 21, 22, 23] gl_M_self_at gl_M_self_nd gl_M_fst gl_M_self_same rfl rfl (Nat.le_of_ble_eq_true rfl) ⟨Nat.zero_le _, Nat.zero_le _⟩ dX7_digest_28 ?_
    refine gq_i2l X dX7_digest_31 ?_
    obtain ⟨s5, es5⟩ : ∃ y, y = k_X7_mix t4 ((k_X7_told t4 (nI i) 0).toInt64) := ⟨_, rfl⟩
    refine gq_callVv (ws' := gw_M cA a s5) X (c_X7_mix l D cA a t4 ((k_X7_told t4 (nI i) 0).toInt64)) rfl ⟨rfl, rfl⟩ ⟨Nat.le_of_ble_eq_true rfl, Nat.le_of_ble_eq_true rfl⟩ gX7_digest_X7_mix hv_X7_mix 0 gl_M_c0 rfl [0, 1, 2, 3, 4, 5, 6, 7, 8, 9, 10, 11, 12, 13, 14, 15, 16, 17, 18, 19, 20, 21, 22, 23] gl_M_self_at gl_M_self_nd gl_M_fst (by rw [es5]; exact gl_M_self_set) rfl rfl (Nat.le_of_ble_eq_true rfl) ⟨Nat.zero_le _, Nat.zero_le _⟩ dX7_digest_32 ?_
    have ts5_mg_acts : mg_acts s5 = mg_acts S := by rw [es5]; exact ((mk_mix _ _).1).trans tt4_mg_acts
    have ts5_mg_deep : mg_deep s5 = mg_deep S := by rw [es5]; exact ((mk_mix _ _).2.2.2.2.2.2.2.2.1).trans tt4_mg_deep
    have ts5_mg_returned : mg_returned s5 = mg_returned S := by rw [es5]; exact ((mk_mix _ _).2.2.2.2.2.2.2.2.2.2.2.2.2.2.2.2.2.2.2.1).trans tt4_mg_returned
    have ts5_mg_fetched : mg_fetched s5 = mg_fetched S := by rw [es5]; exact ((mk_mix _ _).2.2.2.2.2.2.2.2.2.2.2.2.2.2.2.2.2.2.2.2.1).trans tt4_mg_fetched
    have ts5_mg_counts : mg_counts s5 = mg_counts S := by rw [es5]; exact ((mk_mix _ _).2.2.2.2.2.2.2.2.2.2.2.2.2.2.2.2.2.2.2.2.2.2.2.2.2.2.2.2.2.2.1).trans tt4_mg_counts
    refine gq_iinc (lv' := [(2, .int 1), (1, .int (nI i)), (0, .ref (a 0))]) X dX7_digest_35 0 rfl (by decide) (by decide) rfl ?_
    refine gq_goto (tgt := 19) X dX7_digest_38 (by decide) ?_
    refine gq_iload_n X dX7_digest_19 0 rfl ?_
    refine gq_iconst (v := 4) X dX7_digest_20 gq_i4 ?_
    refine gq_icmp_ge (tgt := 41) X dX7_digest_21 (by decide) (fun h => absurd h (by decide)) (fun _ => ?_)
    refine gq_aload_n X dX7_digest_24 2 rfl ?_
    refine gq_aload_n X dX7_digest_25 2 rfl ?_
    refine gq_iload_n X dX7_digest_26 1 rfl ?_
    refine gq_iload_n X dX7_digest_27 0 rfl ?_
    refine gq_callVr (ws' := gw_M cA a s5) X (c_X7_told l D cA a s5 (nI i) 1 (by rw [ts5_mg_acts]; exact ha)) rfl ⟨rfl, rfl⟩ ⟨Nat.le_of_ble_eq_true rfl, Nat.le_of_ble_eq_true rfl⟩ gX7_digest_X7_told hv_X7_told 0 gl_M_c0 rfl [0, 1, 2, 3, 4, 5, 6, 7, 8, 9, 10, 11, 12, 13, 14, 15, 16, 17, 18, 19, 20, 21, 22, 23] gl_M_self_at gl_M_self_nd gl_M_fst gl_M_self_same rfl rfl (Nat.le_of_ble_eq_true rfl) ⟨Nat.zero_le _, Nat.zero_le _⟩ dX7_digest_28 ?_
    refine gq_i2l X dX7_digest_31 ?_
    obtain ⟨s6, es6⟩ : ∃ y, y = k_X7_mix s5 ((k_X7_told s5 (nI i) 1).toInt64) := ⟨_, rfl⟩
    refine gq_callVv (ws' := gw_M cA a s6) X (c_X7_mix l D cA a s5 ((k_X7_told s5 (nI i) 1).toInt64)) rfl ⟨rfl, rfl⟩ ⟨Nat.le_of_ble_eq_true rfl, Nat.le_of_ble_eq_true rfl⟩ gX7_digest_X7_mix hv_X7_mix 0 gl_M_c0 rfl [0, 1, 2, 3, 4, 5, 6, 7, 8, 9, 10, 11, 12, 13, 14, 15, 16, 17, 18, 19, 20, 21, 22, 23] gl_M_self_at gl_M_self_nd gl_M_fst (by rw [es6]; exact gl_M_self_set) rfl rfl (Nat.le_of_ble_eq_true rfl) ⟨Nat.zero_le _, Nat.zero_le _⟩ dX7_digest_32 ?_
    have ts6_mg_acts : mg_acts s6 = mg_acts S := by rw [es6]; exact ((mk_mix _ _).1).trans ts5_mg_acts
    have ts6_mg_deep : mg_deep s6 = mg_deep S := by rw [es6]; exact ((mk_mix _ _).2.2.2.2.2.2.2.2.1).trans ts5_mg_deep
    have ts6_mg_returned : mg_returned s6 = mg_returned S := by rw [es6]; exact ((mk_mix _ _).2.2.2.2.2.2.2.2.2.2.2.2.2.2.2.2.2.2.2.1).trans ts5_mg_returned
    have ts6_mg_fetched : mg_fetched s6 = mg_fetched S := by rw [es6]; exact ((mk_mix _ _).2.2.2.2.2.2.2.2.2.2.2.2.2.2.2.2.2.2.2.2.1).trans ts5_mg_fetched
    have ts6_mg_counts : mg_counts s6 = mg_counts S := by rw [es6]; exact ((mk_mix _ _).2.2.2.2.2.2.2.2.2.2.2.2.2.2.2.2.2.2.2.2.2.2.2.2.2.2.2.2.2.2.1).trans ts5_mg_counts
    refine gq_iinc (lv' := [(2, .int 2), (1, .int (nI i)), (0, .ref (a 0))]) X dX7_digest_35 0 rfl (by decide) (by decide) rfl ?_
    refine gq_goto (tgt := 19) X dX7_digest_38 (by decide) ?_
    refine gq_iload_n X dX7_digest_19 0 rfl ?_
    refine gq_iconst (v := 4) X dX7_digest_20 gq_i4 ?_
    refine gq_icmp_ge (tgt := 41) X dX7_digest_21 (by decide) (fun h => absurd h (by decide)) (fun _ => ?_)
    refine gq_aload_n X dX7_digest_24 2 rfl ?_
    refine gq_aload_n X dX7_digest_25 2 rfl ?_
    refine gq_iload_n X dX7_digest_26 1 rfl ?_
    refine gq_iload_n X dX7_digest_27 0 rfl ?_
    refine gq_callVr (ws' := gw_M cA a s6) X (c_X7_told l D cA a s6 (nI i) 2 (by rw [ts6_mg_acts]; exact ha)) rfl ⟨rfl, rfl⟩ ⟨Nat.le_of_ble_eq_true rfl, Nat.le_of_ble_eq_true rfl⟩ gX7_digest_X7_told hv_X7_told 0 gl_M_c0 rfl [0, 1, 2, 3, 4, 5, 6, 7, 8, 9, 10, 11, 12, 13, 14, 15, 16, 17, 18, 19, 20, 21, 22, 23] gl_M_self_at gl_M_self_nd gl_M_fst gl_M_self_same rfl rfl (Nat.le_of_ble_eq_true rfl) ⟨Nat.zero_le _, Nat.zero_le _⟩ dX7_digest_28 ?_
    refine gq_i2l X dX7_digest_31 ?_
    obtain ⟨s7, es7⟩ : ∃ y, y = k_X7_mix s6 ((k_X7_told s6 (nI i) 2).toInt64) := ⟨_, rfl⟩
    refine gq_callVv (ws' := gw_M cA a s7) X (c_X7_mix l D cA a s6 ((k_X7_told s6 (nI i) 2).toInt64)) rfl ⟨rfl, rfl⟩ ⟨Nat.le_of_ble_eq_true rfl, Nat.le_of_ble_eq_true rfl⟩ gX7_digest_X7_mix hv_X7_mix 0 gl_M_c0 rfl [0, 1, 2, 3, 4, 5, 6, 7, 8, 9, 10, 11, 12, 13, 14, 15, 16, 17, 18, 19, 20, 21, 22, 23] gl_M_self_at gl_M_self_nd gl_M_fst (by rw [es7]; exact gl_M_self_set) rfl rfl (Nat.le_of_ble_eq_true rfl) ⟨Nat.zero_le _, Nat.zero_le _⟩ dX7_digest_32 ?_
    have ts7_mg_acts : mg_acts s7 = mg_acts S := by rw [es7]; exact ((mk_mix _ _).1).trans ts6_mg_acts
    have ts7_mg_deep : mg_deep s7 = mg_deep S := by rw [es7]; exact ((mk_mix _ _).2.2.2.2.2.2.2.2.1).trans ts6_mg_deep
    have ts7_mg_returned : mg_returned s7 = mg_returned S := by rw [es7]; exact ((mk_mix _ _).2.2.2.2.2.2.2.2.2.2.2.2.2.2.2.2.2.2.2.1).trans ts6_mg_returned
    have ts7_mg_fetched : mg_fetched s7 = mg_fetched S := by rw [es7]; exact ((mk_mix _ _).2.2.2.2.2.2.2.2.2.2.2.2.2.2.2.2.2.2.2.2.1).trans ts6_mg_fetched
    have ts7_mg_counts : mg_counts s7 = mg_counts S := by rw [es7]; exact ((mk_mix _ _).2.2.2.2.2.2.2.2.2.2.2.2.2.2.2.2.2.2.2.2.2.2.2.2.2.2.2.2.2.2.1).trans ts6_mg_counts
    refine gq_iinc (lv' := [(2, .int 3), (1, .int (nI i)), (0, .ref (a 0))]) X dX7_digest_35 0 rfl (by decide) (by decide) rfl ?_
    refine gq_goto (tgt := 19) X dX7_digest_38 (by decide) ?_
    refine gq_iload_n X dX7_digest_19 0 rfl ?_
    refine gq_iconst (v := 4) X dX7_digest_20 gq_i4 ?_
    refine gq_icmp_ge (tgt := 41) X dX7_digest_21 (by decide) (fun h => absurd h (by decide)) (fun _ => ?_)
    refine gq_aload_n X dX7_digest_24 2 rfl ?_
    refine gq_aload_n X dX7_digest_25 2 rfl ?_
    refine gq_iload_n X dX7_digest_26 1 rfl ?_
    refine gq_iload_n X dX7_digest_27 0 rfl ?_
    refine gq_callVr (ws' := gw_M cA a s7) X (c_X7_told l D cA a s7 (nI i) 3 (by rw [ts7_mg_acts]; exact ha)) rfl ⟨rfl, rfl⟩ ⟨Nat.le_of_ble_eq_true rfl, Nat.le_of_ble_eq_true rfl⟩ gX7_digest_X7_told hv_X7_told 0 gl_M_c0 rfl [0, 1, 2, 3, 4, 5, 6, 7, 8, 9, 10, 11, 12, 13, 14, 15, 16, 17, 18, 19, 20, 21, 22, 23] gl_M_self_at gl_M_self_nd gl_M_fst gl_M_self_same rfl rfl (Nat.le_of_ble_eq_true rfl) ⟨Nat.zero_le _, Nat.zero_le _⟩ dX7_digest_28 ?_
    refine gq_i2l X dX7_digest_31 ?_
    obtain ⟨s8, es8⟩ : ∃ y, y = k_X7_mix s7 ((k_X7_told s7 (nI i) 3).toInt64) := ⟨_, rfl⟩
    refine gq_callVv (ws' := gw_M cA a s8) X (c_X7_mix l D cA a s7 ((k_X7_told s7 (nI i) 3).toInt64)) rfl ⟨rfl, rfl⟩ ⟨Nat.le_of_ble_eq_true rfl, Nat.le_of_ble_eq_true rfl⟩ gX7_digest_X7_mix hv_X7_mix 0 gl_M_c0 rfl [0, 1, 2, 3, 4, 5, 6, 7, 8, 9, 10, 11, 12, 13, 14, 15, 16, 17, 18, 19, 20, 21, 22, 23] gl_M_self_at gl_M_self_nd gl_M_fst (by rw [es8]; exact gl_M_self_set) rfl rfl (Nat.le_of_ble_eq_true rfl) ⟨Nat.zero_le _, Nat.zero_le _⟩ dX7_digest_32 ?_
    have ts8_mg_acts : mg_acts s8 = mg_acts S := by rw [es8]; exact ((mk_mix _ _).1).trans ts7_mg_acts
    have ts8_mg_deep : mg_deep s8 = mg_deep S := by rw [es8]; exact ((mk_mix _ _).2.2.2.2.2.2.2.2.1).trans ts7_mg_deep
    have ts8_mg_returned : mg_returned s8 = mg_returned S := by rw [es8]; exact ((mk_mix _ _).2.2.2.2.2.2.2.2.2.2.2.2.2.2.2.2.2.2.2.1).trans ts7_mg_returned
    have ts8_mg_fetched : mg_fetched s8 = mg_fetched S := by rw [es8]; exact ((mk_mix _ _).2.2.2.2.2.2.2.2.2.2.2.2.2.2.2.2.2.2.2.2.1).trans ts7_mg_fetched
    have ts8_mg_counts : mg_counts s8 = mg_counts S := by rw [es8]; exact ((mk_mix _ _).2.2.2.2.2.2.2.2.2.2.2.2.2.2.2.2.2.2.2.2.2.2.2.2.2.2.2.2.2.2.1).trans ts7_mg_counts
    refine gq_iinc (lv' := [(2, .int 4), (1, .int (nI i)), (0, .ref (a 0))]) X dX7_digest_35 0 rfl (by decide) (by decide) rfl ?_
    refine gq_goto (tgt := 19) X dX7_digest_38 (by decide) ?_
    refine gq_iload_n X dX7_digest_19 0 rfl ?_
    refine gq_iconst (v := 4) X dX7_digest_20 gq_i4 ?_
    refine gq_icmp_ge (tgt := 41) X dX7_digest_21 (by decide) (fun _ => ?_) (fun h => absurd (by decide) h)
    refine gq_iinc (lv' := [(1, .int (nI (i + 1))), (2, .int 4), (0, .ref (a 0))]) X dX7_digest_41 1 rfl (nI_1 i) (by decide) rfl ?_
    refine gq_goto (tgt := 9) X dX7_digest_44 (by decide) ?_
    refine gq_eqlv (lv' := [(1, .int (nI (i + 1))), (0, .ref (a 0))]) [0, 2] rfl ?_
    refine gq_eqw (ws' := gw_M cA a (gq_it (kb_X7_digest_9 S) 0 s1 (i + 1))) (by rw [gq_it_s _ _ h0, ← et4]; rw [es8, es7, es6, es5]; rfl) ?_
    exact ih hlt
  · have hiN : (gq_ix (mg_acts S)) = i := by omega
    subst hiN
    refine gq_icmp_ge (tgt := 47) X dX7_digest_14 (by decide) (fun _ => ?_) (fun h => absurd (by rw [tt4_mg_acts, mv_self ha (by decide), gq_cl (by have := mv_ix ha; omega)]; exact nI_le (Nat.le_refl _) (by have := mv_ix ha; omega)) h)
    refine gq_eqw (ws' := gw_M cA a s2) (by rw [et4, es2]) ?_
    refine gq_iconst (v := 0) X dX7_digest_47 gq_i0 ?_
    refine gq_istore_n (lv' := [(1, .int 0), (0, .ref (a 0))]) X dX7_digest_48 (by decide) rfl ?_
    refine gq_letr (fun s9 es9 => ?_)
    have ts9_mg_acts : mg_acts s9 = mg_acts S := by rw [es9]; exact ((mi_kb_X7_digest_49 S s2 _).1).trans ts2_mg_acts
    have ts9_mg_deep : mg_deep s9 = mg_deep S := by rw [es9]; exact ((mi_kb_X7_digest_49 S s2 _).2.2.2.2.2.2.2.2.1).trans ts2_mg_deep
    have ts9_mg_returned : mg_returned s9 = mg_returned S := by rw [es9]; exact ((mi_kb_X7_digest_49 S s2 _).2.2.2.2.2.2.2.2.2.2.2.2.2.2.2.2.2.2.2.1).trans ts2_mg_returned
    have ts9_mg_fetched : mg_fetched s9 = mg_fetched S := by rw [es9]; exact ((mi_kb_X7_digest_49 S s2 _).2.2.2.2.2.2.2.2.2.2.2.2.2.2.2.2.2.2.2.2.1).trans ts2_mg_fetched
    have ts9_mg_counts : mg_counts s9 = mg_counts S := by rw [es9]; exact ((mi_kb_X7_digest_49 S s2 _).2.2.2.2.2.2.2.2.2.2.2.2.2.2.2.2.2.2.2.2.2.2.2.2.2.2.2.2.2.2.1).trans ts2_mg_counts
    refine gq_eqw (ws' := gw_M cA a (gq_it (kb_X7_digest_49 S) 0 s2 0)) (by rw [gq_it_0]) ?_
    refine gq_loop (N := 24) (i0 := 0) (fun i => gw_M cA a (gq_it (kb_X7_digest_49 S) 0 s2 i)) (fun i => [(1, .int (nI i)), (0, .ref (a 0))]) (Nat.zero_le _) (fun i hi h0 ih => ?_)
    obtain ⟨t11, et11⟩ : ∃ y, y = gq_it (kb_X7_digest_49 S) 0 s2 i := ⟨_, rfl⟩
    have tt11_mg_acts : mg_acts t11 = mg_acts S := by rw [et11]; exact ((mi_kb_X7_digest_49 S s2 _).1).trans ts2_mg_acts
    have tt11_mg_deep : mg_deep t11 = mg_deep S := by rw [et11]; exact ((mi_kb_X7_digest_49 S s2 _).2.2.2.2.2.2.2.2.1).trans ts2_mg_deep
    have tt11_mg_returned : mg_returned t11 = mg_returned S := by rw [et11]; exact ((mi_kb_X7_digest_49 S s2 _).2.2.2.2.2.2.2.2.2.2.2.2.2.2.2.2.2.2.2.1).trans ts2_mg_returned
    have tt11_mg_fetched : mg_fetched t11 = mg_fetched S := by rw [et11]; exact ((mi_kb_X7_digest_49 S s2 _).2.2.2.2.2.2.2.2.2.2.2.2.2.2.2.2.2.2.2.2.1).trans ts2_mg_fetched
    have tt11_mg_counts : mg_counts t11 = mg_counts S := by rw [et11]; exact ((mi_kb_X7_digest_49 S s2 _).2.2.2.2.2.2.2.2.2.2.2.2.2.2.2.2.2.2.2.2.2.2.2.2.2.2.2.2.2.2.1).trans ts2_mg_counts
    refine gq_eqw (ws' := gw_M cA a t11) (by rw [et11]) ?_
    refine gq_iload_n X dX7_digest_49 0 rfl ?_
    refine gq_bipush (v := 24) X dX7_digest_50 (by decide) ?_
    rcases Nat.lt_or_ge i 24 with hlt | hge
    · refine gq_icmp_ge (tgt := 70) X dX7_digest_52 (by decide) (fun h => absurd h (nI_ge hlt (by decide))) (fun _ => ?_)
      refine gq_aload_n X dX7_digest_55 1 rfl ?_
      refine gq_aload_n X dX7_digest_56 1 rfl ?_
      refine gq_iload_n X dX7_digest_57 0 rfl ?_
      refine gq_callVr (ws' := gw_M cA a t11) X (c_X7_valueOf l D cA a t11 (nI i) (vp_in_nI hlt (by decide))) rfl ⟨rfl, rfl⟩ ⟨Nat.le_of_ble_eq_true rfl, Nat.le_of_ble_eq_true rfl⟩ gX7_digest_X7_valueOf hv_X7_valueOf 0 gl_M_c0 rfl [0, 1, 2, 3, 4, 5, 6, 7, 8, 9, 10, 11, 12, 13, 14, 15, 16, 17, 18, 19, 20, 21, 22, 23] gl_M_self_at gl_M_self_nd gl_M_fst gl_M_self_same rfl rfl (Nat.le_of_ble_eq_true rfl) ⟨Nat.zero_le _, Nat.zero_le _⟩ dX7_digest_58 ?_
      obtain ⟨s12, es12⟩ : ∃ y, y = k_X7_mix t11 (k_X7_valueOf t11 (nI i)) := ⟨_, rfl⟩
      refine gq_callVv (ws' := gw_M cA a s12) X (c_X7_mix l D cA a t11 (k_X7_valueOf t11 (nI i))) rfl ⟨rfl, rfl⟩ ⟨Nat.le_of_ble_eq_true rfl, Nat.le_of_ble_eq_true rfl⟩ gX7_digest_X7_mix hv_X7_mix 0 gl_M_c0 rfl [0, 1, 2, 3, 4, 5, 6, 7, 8, 9, 10, 11, 12, 13, 14, 15, 16, 17, 18, 19, 20, 21, 22, 23] gl_M_self_at gl_M_self_nd gl_M_fst (by rw [es12]; exact gl_M_self_set) rfl rfl (Nat.le_of_ble_eq_true rfl) ⟨Nat.zero_le _, Nat.zero_le _⟩ dX7_digest_61 ?_
      have ts12_mg_acts : mg_acts s12 = mg_acts S := by rw [es12]; exact ((mk_mix _ _).1).trans tt11_mg_acts
      have ts12_mg_deep : mg_deep s12 = mg_deep S := by rw [es12]; exact ((mk_mix _ _).2.2.2.2.2.2.2.2.1).trans tt11_mg_deep
      have ts12_mg_returned : mg_returned s12 = mg_returned S := by rw [es12]; exact ((mk_mix _ _).2.2.2.2.2.2.2.2.2.2.2.2.2.2.2.2.2.2.2.1).trans tt11_mg_returned
      have ts12_mg_fetched : mg_fetched s12 = mg_fetched S := by rw [es12]; exact ((mk_mix _ _).2.2.2.2.2.2.2.2.2.2.2.2.2.2.2.2.2.2.2.2.1).trans tt11_mg_fetched
      have ts12_mg_counts : mg_counts s12 = mg_counts S := by rw [es12]; exact ((mk_mix _ _).2.2.2.2.2.2.2.2.2.2.2.2.2.2.2.2.2.2.2.2.2.2.2.2.2.2.2.2.2.2.1).trans tt11_mg_counts
      refine gq_iinc (lv' := [(1, .int (nI (i + 1))), (0, .ref (a 0))]) X dX7_digest_64 0 rfl (nI_1 i) (by decide) rfl ?_
      refine gq_goto (tgt := 49) X dX7_digest_67 (by decide) ?_
      refine gq_eqw (ws' := gw_M cA a (gq_it (kb_X7_digest_49 S) 0 s2 (i + 1))) (by rw [gq_it_s _ _ h0, ← et11]; rw [es12]; rfl) ?_
      exact ih hlt
    · obtain rfl : i = 24 := by omega
      refine gq_icmp_ge (tgt := 70) X dX7_digest_52 (by decide) (fun _ => ?_) (fun h => absurd (nI_le (Nat.le_refl _) (by decide)) h)
      refine gq_eqw (ws' := gw_M cA a s9) (by rw [et11, es9]) ?_
      refine gq_iconst (v := 0) X dX7_digest_70 gq_i0 ?_
      refine gq_istore_n (lv' := [(1, .int 0), (0, .ref (a 0))]) X dX7_digest_71 (by decide) rfl ?_
      refine gq_letr (fun s13 es13 => ?_)
      have ts13_mg_acts : mg_acts s13 = mg_acts S := by rw [es13]; exact ((mi_kb_X7_digest_72 S s9 _).1).trans ts9_mg_acts
      have ts13_mg_deep : mg_deep s13 = mg_deep S := by rw [es13]; exact ((mi_kb_X7_digest_72 S s9 _).2.2.2.2.2.2.2.2.1).trans ts9_mg_deep
      have ts13_mg_returned : mg_returned s13 = mg_returned S := by rw [es13]; exact ((mi_kb_X7_digest_72 S s9 _).2.2.2.2.2.2.2.2.2.2.2.2.2.2.2.2.2.2.2.1).trans ts9_mg_returned
      have ts13_mg_fetched : mg_fetched s13 = mg_fetched S := by rw [es13]; exact ((mi_kb_X7_digest_72 S s9 _).2.2.2.2.2.2.2.2.2.2.2.2.2.2.2.2.2.2.2.2.1).trans ts9_mg_fetched
      have ts13_mg_counts : mg_counts s13 = mg_counts S := by rw [es13]; exact ((mi_kb_X7_digest_72 S s9 _).2.2.2.2.2.2.2.2.2.2.2.2.2.2.2.2.2.2.2.2.2.2.2.2.2.2.2.2.2.2.1).trans ts9_mg_counts
      refine gq_eqw (ws' := gw_M cA a (gq_it (kb_X7_digest_72 S) 0 s9 0)) (by rw [gq_it_0]) ?_
      refine gq_loop (N := (gq_ix (mg_deep S))) (i0 := 0) (fun i => gw_M cA a (gq_it (kb_X7_digest_72 S) 0 s9 i)) (fun i => [(1, .int (nI i)), (0, .ref (a 0))]) (Nat.zero_le _) (fun i hi h0 ih => ?_)
      obtain ⟨t15, et15⟩ : ∃ y, y = gq_it (kb_X7_digest_72 S) 0 s9 i := ⟨_, rfl⟩
      have tt15_mg_acts : mg_acts t15 = mg_acts S := by rw [et15]; exact ((mi_kb_X7_digest_72 S s9 _).1).trans ts9_mg_acts
      have tt15_mg_deep : mg_deep t15 = mg_deep S := by rw [et15]; exact ((mi_kb_X7_digest_72 S s9 _).2.2.2.2.2.2.2.2.1).trans ts9_mg_deep
      have tt15_mg_returned : mg_returned t15 = mg_returned S := by rw [et15]; exact ((mi_kb_X7_digest_72 S s9 _).2.2.2.2.2.2.2.2.2.2.2.2.2.2.2.2.2.2.2.1).trans ts9_mg_returned
      have tt15_mg_fetched : mg_fetched t15 = mg_fetched S := by rw [et15]; exact ((mi_kb_X7_digest_72 S s9 _).2.2.2.2.2.2.2.2.2.2.2.2.2.2.2.2.2.2.2.2.1).trans ts9_mg_fetched
      have tt15_mg_counts : mg_counts t15 = mg_counts S := by rw [et15]; exact ((mi_kb_X7_digest_72 S s9 _).2.2.2.2.2.2.2.2.2.2.2.2.2.2.2.2.2.2.2.2.2.2.2.2.2.2.2.2.2.2.1).trans ts9_mg_counts
      refine gq_eqw (ws' := gw_M cA a t15) (by rw [et15]) ?_
      refine gq_iload_n X dX7_digest_72 0 rfl ?_
      refine gq_aload_n X dX7_digest_73 1 rfl ?_
      refine gq_get (C := RX7) (T := TX7) (N := 34) X iX7_digest_X7 0 gl_M_c0 rfl 8 (by decide) fX7_digest_X7_8 rfl dX7_digest_74 ?_
      rcases Nat.lt_or_ge i (gq_ix (mg_deep S)) with hlt | hge
      · refine gq_icmp_ge (tgt := 97) X dX7_digest_77 (by decide) (fun h => absurd h (by rw [tt15_mg_deep, mv_self hd (by decide)]; exact nI_ge hlt (by have := mv_ix hd; omega))) (fun _ => ?_)
        refine gq_aload_n X dX7_digest_80 1 rfl ?_
        refine gq_aload_n X dX7_digest_81 1 rfl ?_
        refine gq_get (C := RX7) (T := TX7) (N := 34) X iX7_digest_X7 0 gl_M_c0 rfl 7 (by decide) fX7_digest_X7_7 rfl dX7_digest_82 ?_
        refine gq_iload_n X dX7_digest_85 0 rfl ?_
        refine gq_ald X 7 gl_M_c7 (vp_in_nI (by have := mv_ix hd; omega) (by decide)) dX7_digest_86 ?_
        refine gq_i2l X dX7_digest_87 ?_
        obtain ⟨s16, es16⟩ : ∃ y, y = k_X7_mix t15 (((mg_stack t15) (gq_ix (nI i))).toInt64) := ⟨_, rfl⟩
        refine gq_callVv (ws' := gw_M cA a s16) X (c_X7_mix l D cA a t15 (((mg_stack t15) (gq_ix (nI i))).toInt64)) rfl ⟨rfl, rfl⟩ ⟨Nat.le_of_ble_eq_true rfl, Nat.le_of_ble_eq_true rfl⟩ gX7_digest_X7_mix hv_X7_mix 0 gl_M_c0 rfl [0, 1, 2, 3, 4, 5, 6, 7, 8, 9, 10, 11, 12, 13, 14, 15, 16, 17, 18, 19, 20, 21, 22, 23] gl_M_self_at gl_M_self_nd gl_M_fst (by rw [es16]; exact gl_M_self_set) rfl rfl (Nat.le_of_ble_eq_true rfl) ⟨Nat.zero_le _, Nat.zero_le _⟩ dX7_digest_88 ?_
        have ts16_mg_acts : mg_acts s16 = mg_acts S := by rw [es16]; exact ((mk_mix _ _).1).trans tt15_mg_acts
        have ts16_mg_deep : mg_deep s16 = mg_deep S := by rw [es16]; exact ((mk_mix _ _).2.2.2.2.2.2.2.2.1).trans tt15_mg_deep
        have ts16_mg_returned : mg_returned s16 = mg_returned S := by rw [es16]; exact ((mk_mix _ _).2.2.2.2.2.2.2.2.2.2.2.2.2.2.2.2.2.2.2.1).trans tt15_mg_returned
        have ts16_mg_fetched : mg_fetched s16 = mg_fetched S := by rw [es16]; exact ((mk_mix _ _).2.2.2.2.2.2.2.2.2.2.2.2.2.2.2.2.2.2.2.2.1).trans tt15_mg_fetched
        have ts16_mg_counts : mg_counts s16 = mg_counts S := by rw [es16]; exact ((mk_mix _ _).2.2.2.2.2.2.2.2.2.2.2.2.2.2.2.2.2.2.2.2.2.2.2.2.2.2.2.2.2.2.1).trans tt15_mg_counts
        refine gq_iinc (lv' := [(1, .int (nI (i + 1))), (0, .ref (a 0))]) X dX7_digest_91 0 rfl (nI_1 i) (by decide) rfl ?_
        refine gq_goto (tgt := 72) X dX7_digest_94 (by decide) ?_
        refine gq_eqw (ws' := gw_M cA a (gq_it (kb_X7_digest_72 S) 0 s9 (i + 1))) (by rw [gq_it_s _ _ h0, ← et15]; rw [es16]; rfl) ?_
        exact ih hlt
      · have hiN : (gq_ix (mg_deep S)) = i := by omega
        subst hiN
        refine gq_icmp_ge (tgt := 97) X dX7_digest_77 (by decide) (fun _ => ?_) (fun h => absurd (by rw [tt15_mg_deep, mv_self hd (by decide), gq_cl (by have := mv_ix hd; omega)]; exact nI_le (Nat.le_refl _) (by have := mv_ix hd; omega)) h)
        refine gq_eqw (ws' := gw_M cA a s13) (by rw [et15, es13]) ?_
        refine gq_iconst (v := 0) X dX7_digest_97 gq_i0 ?_
        refine gq_istore_n (lv' := [(1, .int 0), (0, .ref (a 0))]) X dX7_digest_98 (by decide) rfl ?_
        refine gq_iload_n X dX7_digest_99 0 rfl ?_
        refine gq_bipush (v := 6) X dX7_digest_100 (by decide) ?_
        refine gq_icmp_ge (tgt := 146) X dX7_digest_102 (by decide) (fun h => absurd h (by decide)) (fun _ => ?_)
        refine gq_iconst (v := 0) X dX7_digest_105 gq_i0 ?_
        refine gq_istore_n (lv' := [(2, .int 0), (1, .int 0), (0, .ref (a 0))]) X dX7_digest_106 (by decide) rfl ?_
        refine gq_letr (fun s17 es17 => ?_)
        have ts17_mg_acts : mg_acts s17 = mg_acts S := by rw [es17]; exact ((mi_kb_X7_digest_107 S s13 _).1).trans ts13_mg_acts
        have ts17_mg_deep : mg_deep s17 = mg_deep S := by rw [es17]; exact ((mi_kb_X7_digest_107 S s13 _).2.2.2.2.2.2.2.2.1).trans ts13_mg_deep
        have ts17_mg_returned : mg_returned s17 = mg_returned S := by rw [es17]; exact ((mi_kb_X7_digest_107 S s13 _).2.2.2.2.2.2.2.2.2.2.2.2.2.2.2.2.2.2.2.1).trans ts13_mg_returned
        have ts17_mg_fetched : mg_fetched s17 = mg_fetched S := by rw [es17]; exact ((mi_kb_X7_digest_107 S s13 _).2.2.2.2.2.2.2.2.2.2.2.2.2.2.2.2.2.2.2.2.1).trans ts13_mg_fetched
        have ts17_mg_counts : mg_counts s17 = mg_counts S := by rw [es17]; exact ((mi_kb_X7_digest_107 S s13 _).2.2.2.2.2.2.2.2.2.2.2.2.2.2.2.2.2.2.2.2.2.2.2.2.2.2.2.2.2.2.1).trans ts13_mg_counts
        refine gq_eqw (ws' := gw_M cA a (gq_it (kb_X7_digest_107 S) 0 s13 0)) (by rw [gq_it_0]) ?_
        refine gq_loop (N := 16) (i0 := 0) (fun i => gw_M cA a (gq_it (kb_X7_digest_107 S) 0 s13 i)) (fun i => [(2, .int (nI i)), (1, .int 0), (0, .ref (a 0))]) (Nat.zero_le _) (fun i hi h0 ih => ?_)
        obtain ⟨t19, et19⟩ : ∃ y, y = gq_it (kb_X7_digest_107 S) 0 s13 i := ⟨_, rfl⟩
        have tt19_mg_acts : mg_acts t19 = mg_acts S := by rw [et19]; exact ((mi_kb_X7_digest_107 S s13 _).1).trans ts13_mg_acts
        have tt19_mg_deep : mg_deep t19 = mg_deep S := by rw [et19]; exact ((mi_kb_X7_digest_107 S s13 _).2.2.2.2.2.2.2.2.1).trans ts13_mg_deep
        have tt19_mg_returned : mg_returned t19 = mg_returned S := by rw [et19]; exact ((mi_kb_X7_digest_107 S s13 _).2.2.2.2.2.2.2.2.2.2.2.2.2.2.2.2.2.2.2.1).trans ts13_mg_returned
        have tt19_mg_fetched : mg_fetched t19 = mg_fetched S := by rw [et19]; exact ((mi_kb_X7_digest_107 S s13 _).2.2.2.2.2.2.2.2.2.2.2.2.2.2.2.2.2.2.2.2.1).trans ts13_mg_fetched
        have tt19_mg_counts : mg_counts t19 = mg_counts S := by rw [et19]; exact ((mi_kb_X7_digest_107 S s13 _).2.2.2.2.2.2.2.2.2.2.2.2.2.2.2.2.2.2.2.2.2.2.2.2.2.2.2.2.2.2.1).trans ts13_mg_counts
        refine gq_eqw (ws' := gw_M cA a t19) (by rw [et19]) ?_
        refine gq_iload_n X dX7_digest_107 0 rfl ?_
        refine gq_iload_n X dX7_digest_108 1 rfl ?_
        refine gq_iconst (v := 3) X dX7_digest_109 gq_i3 ?_
        refine gq_icmp_ge (tgt := 118) X dX7_digest_110 (by decide) (fun h => absurd h (by decide)) (fun _ => ?_)
        refine gq_bipush (v := 16) X dX7_digest_113 (by decide) ?_
        refine gq_goto (tgt := 120) X dX7_digest_115 (by decide) ?_
        rcases Nat.lt_or_ge i 16 with hlt | hge
        · refine gq_icmp_ge (tgt := 140) X dX7_digest_120 (by decide) (fun h => absurd h (nI_ge hlt (by decide))) (fun _ => ?_)
          refine gq_aload_n X dX7_digest_123 2 rfl ?_
          refine gq_aload_n X dX7_digest_124 2 rfl ?_
          refine gq_iload_n X dX7_digest_125 1 rfl ?_
          refine gq_iload_n X dX7_digest_126 0 rfl ?_
          refine gq_callVr (ws' := gw_M cA a t19) X (c_X7_tableOf l D cA a t19 0 (nI i) (fun _ => vp_in_nI hlt (by decide)) (fun q => absurd q (by decide)) (by rw [tt19_mg_returned]; exact hr)) rfl ⟨rfl, rfl⟩ ⟨Nat.le_of_ble_eq_true rfl, Nat.le_of_ble_eq_true rfl⟩ gX7_digest_X7_tableOf hv_X7_tableOf 0 gl_M_c0 rfl [0, 1, 2, 3, 4, 5, 6, 7, 8, 9, 10, 11, 12, 13, 14, 15, 16, 17, 18, 19, 20, 21, 22, 23] gl_M_self_at gl_M_self_nd gl_M_fst gl_M_self_same rfl rfl (Nat.le_of_ble_eq_true rfl) ⟨Nat.zero_le _, Nat.zero_le _⟩ dX7_digest_127 ?_
          refine gq_i2l X dX7_digest_130 ?_
          obtain ⟨s20, es20⟩ : ∃ y, y = k_X7_mix t19 ((k_X7_tableOf t19 0 (nI i)).toInt64) := ⟨_, rfl⟩
          refine gq_callVv (ws' := gw_M cA a s20) X (c_X7_mix l D cA a t19 ((k_X7_tableOf t19 0 (nI i)).toInt64)) rfl ⟨rfl, rfl⟩ ⟨Nat.le_of_ble_eq_true rfl, Nat.le_of_ble_eq_true rfl⟩ gX7_digest_X7_mix hv_X7_mix 0 gl_M_c0 rfl [0, 1, 2, 3, 4, 5, 6, 7, 8, 9, 10, 11, 12, 13, 14, 15, 16, 17, 18, 19, 20, 21, 22, 23] gl_M_self_at gl_M_self_nd gl_M_fst (by rw [es20]; exact gl_M_self_set) rfl rfl (Nat.le_of_ble_eq_true rfl) ⟨Nat.zero_le _, Nat.zero_le _⟩ dX7_digest_131 ?_
          have ts20_mg_acts : mg_acts s20 = mg_acts S := by rw [es20]; exact ((mk_mix _ _).1).trans tt19_mg_acts
          have ts20_mg_deep : mg_deep s20 = mg_deep S := by rw [es20]; exact ((mk_mix _ _).2.2.2.2.2.2.2.2.1).trans tt19_mg_deep
          have ts20_mg_returned : mg_returned s20 = mg_returned S := by rw [es20]; exact ((mk_mix _ _).2.2.2.2.2.2.2.2.2.2.2.2.2.2.2.2.2.2.2.1).trans tt19_mg_returned
          have ts20_mg_fetched : mg_fetched s20 = mg_fetched S := by rw [es20]; exact ((mk_mix _ _).2.2.2.2.2.2.2.2.2.2.2.2.2.2.2.2.2.2.2.2.1).trans tt19_mg_fetched
          have ts20_mg_counts : mg_counts s20 = mg_counts S := by rw [es20]; exact ((mk_mix _ _).2.2.2.2.2.2.2.2.2.2.2.2.2.2.2.2.2.2.2.2.2.2.2.2.2.2.2.2.2.2.1).trans tt19_mg_counts
          refine gq_iinc (lv' := [(2, .int (nI (i + 1))), (1, .int 0), (0, .ref (a 0))]) X dX7_digest_134 0 rfl (nI_1 i) (by decide) rfl ?_
          refine gq_goto (tgt := 107) X dX7_digest_137 (by decide) ?_
          refine gq_eqw (ws' := gw_M cA a (gq_it (kb_X7_digest_107 S) 0 s13 (i + 1))) (by rw [gq_it_s _ _ h0, ← et19]; rw [es20]; rfl) ?_
          exact ih hlt
        · obtain rfl : i = 16 := by omega
          refine gq_icmp_ge (tgt := 140) X dX7_digest_120 (by decide) (fun _ => ?_) (fun h => absurd (nI_le (Nat.le_refl _) (by decide)) h)
          refine gq_eqw (ws' := gw_M cA a s17) (by rw [et19, es17]) ?_
          refine gq_iinc (lv' := [(1, .int 1), (2, .int (nI 16)), (0, .ref (a 0))]) X dX7_digest_140 1 rfl (by decide) (by decide) rfl ?_
          refine gq_goto (tgt := 99) X dX7_digest_143 (by decide) ?_
          refine gq_iload_n X dX7_digest_99 0 rfl ?_
          refine gq_bipush (v := 6) X dX7_digest_100 (by decide) ?_
          refine gq_icmp_ge (tgt := 146) X dX7_digest_102 (by decide) (fun h => absurd h (by decide)) (fun _ => ?_)
          refine gq_iconst (v := 0) X dX7_digest_105 gq_i0 ?_
          refine gq_istore_n (lv' := [(2, .int 0), (1, .int 1), (0, .ref (a 0))]) X dX7_digest_106 (by decide) rfl ?_
          refine gq_letr (fun s21 es21 => ?_)
          have ts21_mg_acts : mg_acts s21 = mg_acts S := by rw [es21]; exact ((mi_kb_X7_digest_107_1 S s17 _).1).trans ts17_mg_acts
          have ts21_mg_deep : mg_deep s21 = mg_deep S := by rw [es21]; exact ((mi_kb_X7_digest_107_1 S s17 _).2.2.2.2.2.2.2.2.1).trans ts17_mg_deep
          have ts21_mg_returned : mg_returned s21 = mg_returned S := by rw [es21]; exact ((mi_kb_X7_digest_107_1 S s17 _).2.2.2.2.2.2.2.2.2.2.2.2.2.2.2.2.2.2.2.1).trans ts17_mg_returned
          have ts21_mg_fetched : mg_fetched s21 = mg_fetched S := by rw [es21]; exact ((mi_kb_X7_digest_107_1 S s17 _).2.2.2.2.2.2.2.2.2.2.2.2.2.2.2.2.2.2.2.2.1).trans ts17_mg_fetched
          have ts21_mg_counts : mg_counts s21 = mg_counts S := by rw [es21]; exact ((mi_kb_X7_digest_107_1 S s17 _).2.2.2.2.2.2.2.2.2.2.2.2.2.2.2.2.2.2.2.2.2.2.2.2.2.2.2.2.2.2.1).trans ts17_mg_counts
          refine gq_eqw (ws' := gw_M cA a (gq_it (kb_X7_digest_107_1 S) 0 s17 0)) (by rw [gq_it_0]) ?_
          refine gq_loop (N := 16) (i0 := 0) (fun i => gw_M cA a (gq_it (kb_X7_digest_107_1 S) 0 s17 i)) (fun i => [(2, .int (nI i)), (1, .int 1), (0, .ref (a 0))]) (Nat.zero_le _) (fun i hi h0 ih => ?_)
          obtain ⟨t23, et23⟩ : ∃ y, y = gq_it (kb_X7_digest_107_1 S) 0 s17 i := ⟨_, rfl⟩
          have tt23_mg_acts : mg_acts t23 = mg_acts S := by rw [et23]; exact ((mi_kb_X7_digest_107_1 S s17 _).1).trans ts17_mg_acts
          have tt23_mg_deep : mg_deep t23 = mg_deep S := by rw [et23]; exact ((mi_kb_X7_digest_107_1 S s17 _).2.2.2.2.2.2.2.2.1).trans ts17_mg_deep
          have tt23_mg_returned : mg_returned t23 = mg_returned S := by rw [et23]; exact ((mi_kb_X7_digest_107_1 S s17 _).2.2.2.2.2.2.2.2.2.2.2.2.2.2.2.2.2.2.2.1).trans ts17_mg_returned
          have tt23_mg_fetched : mg_fetched t23 = mg_fetched S := by rw [et23]; exact ((mi_kb_X7_digest_107_1 S s17 _).2.2.2.2.2.2.2.2.2.2.2.2.2.2.2.2.2.2.2.2.1).trans ts17_mg_fetched
          have tt23_mg_counts : mg_counts t23 = mg_counts S := by rw [et23]; exact ((mi_kb_X7_digest_107_1 S s17 _).2.2.2.2.2.2.2.2.2.2.2.2.2.2.2.2.2.2.2.2.2.2.2.2.2.2.2.2.2.2.1).trans ts17_mg_counts
          refine gq_eqw (ws' := gw_M cA a t23) (by rw [et23]) ?_
          refine gq_iload_n X dX7_digest_107 0 rfl ?_
          refine gq_iload_n X dX7_digest_108 1 rfl ?_
          refine gq_iconst (v := 3) X dX7_digest_109 gq_i3 ?_
          refine gq_icmp_ge (tgt := 118) X dX7_digest_110 (by decide) (fun h => absurd h (by decide)) (fun _ => ?_)
          refine gq_bipush (v := 16) X dX7_digest_113 (by decide) ?_
          refine gq_goto (tgt := 120) X dX7_digest_115 (by decide) ?_
          rcases Nat.lt_or_ge i 16 with hlt | hge
          · refine gq_icmp_ge (tgt := 140) X dX7_digest_120 (by decide) (fun h => absurd h (nI_ge hlt (by decide))) (fun _ => ?_)
            refine gq_aload_n X dX7_digest_123 2 rfl ?_
            refine gq_aload_n X dX7_digest_124 2 rfl ?_
            refine gq_iload_n X dX7_digest_125 1 rfl ?_
            refine gq_iload_n X dX7_digest_126 0 rfl ?_
            refine gq_callVr (ws' := gw_M cA a t23) X (c_X7_tableOf l D cA a t23 1 (nI i) (fun _ => vp_in_nI hlt (by decide)) (fun q => absurd q (by decide)) (by rw [tt23_mg_returned]; exact hr)) rfl ⟨rfl, rfl⟩ ⟨Nat.le_of_ble_eq_true rfl, Nat.le_of_ble_eq_true rfl⟩ gX7_digest_X7_tableOf hv_X7_tableOf 0 gl_M_c0 rfl [0, 1, 2, 3, 4, 5, 6, 7, 8, 9, 10, 11, 12, 13, 14, 15, 16, 17, 18, 19, 20, 21, 22, 23] gl_M_self_at gl_M_self_nd gl_M_fst gl_M_self_same rfl rfl (Nat.le_of_ble_eq_true rfl) ⟨Nat.zero_le _, Nat.zero_le _⟩ dX7_digest_127 ?_
            refine gq_i2l X dX7_digest_130 ?_
            obtain ⟨s24, es24⟩ : ∃ y, y = k_X7_mix t23 ((k_X7_tableOf t23 1 (nI i)).toInt64) := ⟨_, rfl⟩
            refine gq_callVv (ws' := gw_M cA a s24) X (c_X7_mix l D cA a t23 ((k_X7_tableOf t23 1 (nI i)).toInt64)) rfl ⟨rfl, rfl⟩ ⟨Nat.le_of_ble_eq_true rfl, Nat.le_of_ble_eq_true rfl⟩ gX7_digest_X7_mix hv_X7_mix 0 gl_M_c0 rfl [0, 1, 2, 3, 4, 5, 6, 7, 8, 9, 10, 11, 12, 13, 14, 15, 16, 17, 18, 19, 20, 21, 22, 23] gl_M_self_at gl_M_self_nd gl_M_fst (by rw [es24]; exact gl_M_self_set) rfl rfl (Nat.le_of_ble_eq_true rfl) ⟨Nat.zero_le _, Nat.zero_le _⟩ dX7_digest_131 ?_
            have ts24_mg_acts : mg_acts s24 = mg_acts S := by rw [es24]; exact ((mk_mix _ _).1).trans tt23_mg_acts
            have ts24_mg_deep : mg_deep s24 = mg_deep S := by rw [es24]; exact ((mk_mix _ _).2.2.2.2.2.2.2.2.1).trans tt23_mg_deep
            have ts24_mg_returned : mg_returned s24 = mg_returned S := by rw [es24]; exact ((mk_mix _ _).2.2.2.2.2.2.2.2.2.2.2.2.2.2.2.2.2.2.2.1).trans tt23_mg_returned
            have ts24_mg_fetched : mg_fetched s24 = mg_fetched S := by rw [es24]; exact ((mk_mix _ _).2.2.2.2.2.2.2.2.2.2.2.2.2.2.2.2.2.2.2.2.1).trans tt23_mg_fetched
            have ts24_mg_counts : mg_counts s24 = mg_counts S := by rw [es24]; exact ((mk_mix _ _).2.2.2.2.2.2.2.2.2.2.2.2.2.2.2.2.2.2.2.2.2.2.2.2.2.2.2.2.2.2.1).trans tt23_mg_counts
            refine gq_iinc (lv' := [(2, .int (nI (i + 1))), (1, .int 1), (0, .ref (a 0))]) X dX7_digest_134 0 rfl (nI_1 i) (by decide) rfl ?_
            refine gq_goto (tgt := 107) X dX7_digest_137 (by decide) ?_
            refine gq_eqw (ws' := gw_M cA a (gq_it (kb_X7_digest_107_1 S) 0 s17 (i + 1))) (by rw [gq_it_s _ _ h0, ← et23]; rw [es24]; rfl) ?_
            exact ih hlt
          · obtain rfl : i = 16 := by omega
            refine gq_icmp_ge (tgt := 140) X dX7_digest_120 (by decide) (fun _ => ?_) (fun h => absurd (nI_le (Nat.le_refl _) (by decide)) h)
            refine gq_eqw (ws' := gw_M cA a s21) (by rw [et23, es21]) ?_
            refine gq_iinc (lv' := [(1, .int 2), (2, .int (nI 16)), (0, .ref (a 0))]) X dX7_digest_140 1 rfl (by decide) (by decide) rfl ?_
            refine gq_goto (tgt := 99) X dX7_digest_143 (by decide) ?_
            refine gq_iload_n X dX7_digest_99 0 rfl ?_
            refine gq_bipush (v := 6) X dX7_digest_100 (by decide) ?_
            refine gq_icmp_ge (tgt := 146) X dX7_digest_102 (by decide) (fun h => absurd h (by decide)) (fun _ => ?_)
            refine gq_iconst (v := 0) X dX7_digest_105 gq_i0 ?_
            refine gq_istore_n (lv' := [(2, .int 0), (1, .int 2), (0, .ref (a 0))]) X dX7_digest_106 (by decide) rfl ?_
            refine gq_letr (fun s25 es25 => ?_)
            have ts25_mg_acts : mg_acts s25 = mg_acts S := by rw [es25]; exact ((mi_kb_X7_digest_107_2 S s21 _).1).trans ts21_mg_acts
            have ts25_mg_deep : mg_deep s25 = mg_deep S := by rw [es25]; exact ((mi_kb_X7_digest_107_2 S s21 _).2.2.2.2.2.2.2.2.1).trans ts21_mg_deep
            have ts25_mg_returned : mg_returned s25 = mg_returned S := by rw [es25]; exact ((mi_kb_X7_digest_107_2 S s21 _).2.2.2.2.2.2.2.2.2.2.2.2.2.2.2.2.2.2.2.1).trans ts21_mg_returned
            have ts25_mg_fetched : mg_fetched s25 = mg_fetched S := by rw [es25]; exact ((mi_kb_X7_digest_107_2 S s21 _).2.2.2.2.2.2.2.2.2.2.2.2.2.2.2.2.2.2.2.2.1).trans ts21_mg_fetched
            have ts25_mg_counts : mg_counts s25 = mg_counts S := by rw [es25]; exact ((mi_kb_X7_digest_107_2 S s21 _).2.2.2.2.2.2.2.2.2.2.2.2.2.2.2.2.2.2.2.2.2.2.2.2.2.2.2.2.2.2.1).trans ts21_mg_counts
            refine gq_eqw (ws' := gw_M cA a (gq_it (kb_X7_digest_107_2 S) 0 s21 0)) (by rw [gq_it_0]) ?_
            refine gq_loop (N := 16) (i0 := 0) (fun i => gw_M cA a (gq_it (kb_X7_digest_107_2 S) 0 s21 i)) (fun i => [(2, .int (nI i)), (1, .int 2), (0, .ref (a 0))]) (Nat.zero_le _) (fun i hi h0 ih => ?_)
            obtain ⟨t27, et27⟩ : ∃ y, y = gq_it (kb_X7_digest_107_2 S) 0 s21 i := ⟨_, rfl⟩
            have tt27_mg_acts : mg_acts t27 = mg_acts S := by rw [et27]; exact ((mi_kb_X7_digest_107_2 S s21 _).1).trans ts21_mg_acts
            have tt27_mg_deep : mg_deep t27 = mg_deep S := by rw [et27]; exact ((mi_kb_X7_digest_107_2 S s21 _).2.2.2.2.2.2.2.2.1).trans ts21_mg_deep
            have tt27_mg_returned : mg_returned t27 = mg_returned S := by rw [et27]; exact ((mi_kb_X7_digest_107_2 S s21 _).2.2.2.2.2.2.2.2.2.2.2.2.2.2.2.2.2.2.2.1).trans ts21_mg_returned
            have tt27_mg_fetched : mg_fetched t27 = mg_fetched S := by rw [et27]; exact ((mi_kb_X7_digest_107_2 S s21 _).2.2.2.2.2.2.2.2.2.2.2.2.2.2.2.2.2.2.2.2.1).trans ts21_mg_fetched
            have tt27_mg_counts : mg_counts t27 = mg_counts S := by rw [et27]; exact ((mi_kb_X7_digest_107_2 S s21 _).2.2.2.2.2.2.2.2.2.2.2.2.2.2.2.2.2.2.2.2.2.2.2.2.2.2.2.2.2.2.1).trans ts21_mg_counts
            refine gq_eqw (ws' := gw_M cA a t27) (by rw [et27]) ?_
            refine gq_iload_n X dX7_digest_107 0 rfl ?_
            refine gq_iload_n X dX7_digest_108 1 rfl ?_
            refine gq_iconst (v := 3) X dX7_digest_109 gq_i3 ?_
            refine gq_icmp_ge (tgt := 118) X dX7_digest_110 (by decide) (fun h => absurd h (by decide)) (fun _ => ?_)
            refine gq_bipush (v := 16) X dX7_digest_113 (by decide) ?_
            refine gq_goto (tgt := 120) X dX7_digest_115 (by decide) ?_
            rcases Nat.lt_or_ge i 16 with hlt | hge
            · refine gq_icmp_ge (tgt := 140) X dX7_digest_120 (by decide) (fun h => absurd h (nI_ge hlt (by decide))) (fun _ => ?_)
              refine gq_aload_n X dX7_digest_123 2 rfl ?_
              refine gq_aload_n X dX7_digest_124 2 rfl ?_
              refine gq_iload_n X dX7_digest_125 1 rfl ?_
              refine gq_iload_n X dX7_digest_126 0 rfl ?_
              refine gq_callVr (ws' := gw_M cA a t27) X (c_X7_tableOf l D cA a t27 2 (nI i) (fun _ => vp_in_nI hlt (by decide)) (fun q => absurd q (by decide)) (by rw [tt27_mg_returned]; exact hr)) rfl ⟨rfl, rfl⟩ ⟨Nat.le_of_ble_eq_true rfl, Nat.le_of_ble_eq_true rfl⟩ gX7_digest_X7_tableOf hv_X7_tableOf 0 gl_M_c0 rfl [0, 1, 2, 3, 4, 5, 6, 7, 8, 9, 10, 11, 12, 13, 14, 15, 16, 17, 18, 19, 20, 21, 22, 23] gl_M_self_at gl_M_self_nd gl_M_fst gl_M_self_same rfl rfl (Nat.le_of_ble_eq_true rfl) ⟨Nat.zero_le _, Nat.zero_le _⟩ dX7_digest_127 ?_
              refine gq_i2l X dX7_digest_130 ?_
              obtain ⟨s28, es28⟩ : ∃ y, y = k_X7_mix t27 ((k_X7_tableOf t27 2 (nI i)).toInt64) := ⟨_, rfl⟩
              refine gq_callVv (ws' := gw_M cA a s28) X (c_X7_mix l D cA a t27 ((k_X7_tableOf t27 2 (nI i)).toInt64)) rfl ⟨rfl, rfl⟩ ⟨Nat.le_of_ble_eq_true rfl, Nat.le_of_ble_eq_true rfl⟩ gX7_digest_X7_mix hv_X7_mix 0 gl_M_c0 rfl [0, 1, 2, 3, 4, 5, 6, 7, 8, 9, 10, 11, 12, 13, 14, 15, 16, 17, 18, 19, 20, 21, 22, 23] gl_M_self_at gl_M_self_nd gl_M_fst (by rw [es28]; exact gl_M_self_set) rfl rfl (Nat.le_of_ble_eq_true rfl) ⟨Nat.zero_le _, Nat.zero_le _⟩ dX7_digest_131 ?_
              have ts28_mg_acts : mg_acts s28 = mg_acts S := by rw [es28]; exact ((mk_mix _ _).1).trans tt27_mg_acts
              have ts28_mg_deep : mg_deep s28 = mg_deep S := by rw [es28]; exact ((mk_mix _ _).2.2.2.2.2.2.2.2.1).trans tt27_mg_deep
              have ts28_mg_returned : mg_returned s28 = mg_returned S := by rw [es28]; exact ((mk_mix _ _).2.2.2.2.2.2.2.2.2.2.2.2.2.2.2.2.2.2.2.1).trans tt27_mg_returned
              have ts28_mg_fetched : mg_fetched s28 = mg_fetched S := by rw [es28]; exact ((mk_mix _ _).2.2.2.2.2.2.2.2.2.2.2.2.2.2.2.2.2.2.2.2.1).trans tt27_mg_fetched
              have ts28_mg_counts : mg_counts s28 = mg_counts S := by rw [es28]; exact ((mk_mix _ _).2.2.2.2.2.2.2.2.2.2.2.2.2.2.2.2.2.2.2.2.2.2.2.2.2.2.2.2.2.2.1).trans tt27_mg_counts
              refine gq_iinc (lv' := [(2, .int (nI (i + 1))), (1, .int 2), (0, .ref (a 0))]) X dX7_digest_134 0 rfl (nI_1 i) (by decide) rfl ?_
              refine gq_goto (tgt := 107) X dX7_digest_137 (by decide) ?_
              refine gq_eqw (ws' := gw_M cA a (gq_it (kb_X7_digest_107_2 S) 0 s21 (i + 1))) (by rw [gq_it_s _ _ h0, ← et27]; rw [es28]; rfl) ?_
              exact ih hlt
            · obtain rfl : i = 16 := by omega
              refine gq_icmp_ge (tgt := 140) X dX7_digest_120 (by decide) (fun _ => ?_) (fun h => absurd (nI_le (Nat.le_refl _) (by decide)) h)
              refine gq_eqw (ws' := gw_M cA a s25) (by rw [et27, es25]) ?_
              refine gq_iinc (lv' := [(1, .int 3), (2, .int (nI 16)), (0, .ref (a 0))]) X dX7_digest_140 1 rfl (by decide) (by decide) rfl ?_
              refine gq_goto (tgt := 99) X dX7_digest_143 (by decide) ?_
              refine gq_iload_n X dX7_digest_99 0 rfl ?_
              refine gq_bipush (v := 6) X dX7_digest_100 (by decide) ?_
              refine gq_icmp_ge (tgt := 146) X dX7_digest_102 (by decide) (fun h => absurd h (by decide)) (fun _ => ?_)
              refine gq_iconst (v := 0) X dX7_digest_105 gq_i0 ?_
              refine gq_istore_n (lv' := [(2, .int 0), (1, .int 3), (0, .ref (a 0))]) X dX7_digest_106 (by decide) rfl ?_
              refine gq_letr (fun s29 es29 => ?_)
              have ts29_mg_acts : mg_acts s29 = mg_acts S := by rw [es29]; exact ((mi_kb_X7_digest_107_3 S s25 _).1).trans ts25_mg_acts
              have ts29_mg_deep : mg_deep s29 = mg_deep S := by rw [es29]; exact ((mi_kb_X7_digest_107_3 S s25 _).2.2.2.2.2.2.2.2.1).trans ts25_mg_deep
              have ts29_mg_returned : mg_returned s29 = mg_returned S := by rw [es29]; exact ((mi_kb_X7_digest_107_3 S s25 _).2.2.2.2.2.2.2.2.2.2.2.2.2.2.2.2.2.2.2.1).trans ts25_mg_returned
              have ts29_mg_fetched : mg_fetched s29 = mg_fetched S := by rw [es29]; exact ((mi_kb_X7_digest_107_3 S s25 _).2.2.2.2.2.2.2.2.2.2.2.2.2.2.2.2.2.2.2.2.1).trans ts25_mg_fetched
              have ts29_mg_counts : mg_counts s29 = mg_counts S := by rw [es29]; exact ((mi_kb_X7_digest_107_3 S s25 _).2.2.2.2.2.2.2.2.2.2.2.2.2.2.2.2.2.2.2.2.2.2.2.2.2.2.2.2.2.2.1).trans ts25_mg_counts
              refine gq_eqw (ws' := gw_M cA a (gq_it (kb_X7_digest_107_3 S) 0 s25 0)) (by rw [gq_it_0]) ?_
              refine gq_loop (N := 8) (i0 := 0) (fun i => gw_M cA a (gq_it (kb_X7_digest_107_3 S) 0 s25 i)) (fun i => [(2, .int (nI i)), (1, .int 3), (0, .ref (a 0))]) (Nat.zero_le _) (fun i hi h0 ih => ?_)
              obtain ⟨t31, et31⟩ : ∃ y, y = gq_it (kb_X7_digest_107_3 S) 0 s25 i := ⟨_, rfl⟩
              have tt31_mg_acts : mg_acts t31 = mg_acts S := by rw [et31]; exact ((mi_kb_X7_digest_107_3 S s25 _).1).trans ts25_mg_acts
              have tt31_mg_deep : mg_deep t31 = mg_deep S := by rw [et31]; exact ((mi_kb_X7_digest_107_3 S s25 _).2.2.2.2.2.2.2.2.1).trans ts25_mg_deep
              have tt31_mg_returned : mg_returned t31 = mg_returned S := by rw [et31]; exact ((mi_kb_X7_digest_107_3 S s25 _).2.2.2.2.2.2.2.2.2.2.2.2.2.2.2.2.2.2.2.1).trans ts25_mg_returned
              have tt31_mg_fetched : mg_fetched t31 = mg_fetched S := by rw [et31]; exact ((mi_kb_X7_digest_107_3 S s25 _).2.2.2.2.2.2.2.2.2.2.2.2.2.2.2.2.2.2.2.2.1).trans ts25_mg_fetched
              have tt31_mg_counts : mg_counts t31 = mg_counts S := by rw [et31]; exact ((mi_kb_X7_digest_107_3 S s25 _).2.2.2.2.2.2.2.2.2.2.2.2.2.2.2.2.2.2.2.2.2.2.2.2.2.2.2.2.2.2.1).trans ts25_mg_counts
              refine gq_eqw (ws' := gw_M cA a t31) (by rw [et31]) ?_
              refine gq_iload_n X dX7_digest_107 0 rfl ?_
              refine gq_iload_n X dX7_digest_108 1 rfl ?_
              refine gq_iconst (v := 3) X dX7_digest_109 gq_i3 ?_
              refine gq_icmp_ge (tgt := 118) X dX7_digest_110 (by decide) (fun _ => ?_) (fun h => absurd (by decide) h)
              refine gq_bipush (v := 8) X dX7_digest_118 (by decide) ?_
              rcases Nat.lt_or_ge i 8 with hlt | hge
              · refine gq_icmp_ge (tgt := 140) X dX7_digest_120 (by decide) (fun h => absurd h (nI_ge hlt (by decide))) (fun _ => ?_)
                refine gq_aload_n X dX7_digest_123 2 rfl ?_
                refine gq_aload_n X dX7_digest_124 2 rfl ?_
                refine gq_iload_n X dX7_digest_125 1 rfl ?_
                refine gq_iload_n X dX7_digest_126 0 rfl ?_
                refine gq_callVr (ws' := gw_M cA a t31) X (c_X7_tableOf l D cA a t31 3 (nI i) (fun q => absurd q (by decide)) (fun _ => vp_in_nI hlt (by decide)) (by rw [tt31_mg_returned]; exact hr)) rfl ⟨rfl, rfl⟩ ⟨Nat.le_of_ble_eq_true rfl, Nat.le_of_ble_eq_true rfl⟩ gX7_digest_X7_tableOf hv_X7_tableOf 0 gl_M_c0 rfl [0, 1, 2, 3, 4, 5, 6, 7, 8, 9, 10, 11, 12, 13, 14, 15, 16, 17, 18, 19, 20, 21, 22, 23] gl_M_self_at gl_M_self_nd gl_M_fst gl_M_self_same rfl rfl (Nat.le_of_ble_eq_true rfl) ⟨Nat.zero_le _, Nat.zero_le _⟩ dX7_digest_127 ?_
                refine gq_i2l X dX7_digest_130 ?_
                obtain ⟨s32, es32⟩ : ∃ y, y = k_X7_mix t31 ((k_X7_tableOf t31 3 (nI i)).toInt64) := ⟨_, rfl⟩
                refine gq_callVv (ws' := gw_M cA a s32) X (c_X7_mix l D cA a t31 ((k_X7_tableOf t31 3 (nI i)).toInt64)) rfl ⟨rfl, rfl⟩ ⟨Nat.le_of_ble_eq_true rfl, Nat.le_of_ble_eq_true rfl⟩ gX7_digest_X7_mix hv_X7_mix 0 gl_M_c0 rfl [0, 1, 2, 3, 4, 5, 6, 7, 8, 9, 10, 11, 12, 13, 14, 15, 16, 17, 18, 19, 20, 21, 22, 23] gl_M_self_at gl_M_self_nd gl_M_fst (by rw [es32]; exact gl_M_self_set) rfl rfl (Nat.le_of_ble_eq_true rfl) ⟨Nat.zero_le _, Nat.zero_le _⟩ dX7_digest_131 ?_
                have ts32_mg_acts : mg_acts s32 = mg_acts S := by rw [es32]; exact ((mk_mix _ _).1).trans tt31_mg_acts
                have ts32_mg_deep : mg_deep s32 = mg_deep S := by rw [es32]; exact ((mk_mix _ _).2.2.2.2.2.2.2.2.1).trans tt31_mg_deep
                have ts32_mg_returned : mg_returned s32 = mg_returned S := by rw [es32]; exact ((mk_mix _ _).2.2.2.2.2.2.2.2.2.2.2.2.2.2.2.2.2.2.2.1).trans tt31_mg_returned
                have ts32_mg_fetched : mg_fetched s32 = mg_fetched S := by rw [es32]; exact ((mk_mix _ _).2.2.2.2.2.2.2.2.2.2.2.2.2.2.2.2.2.2.2.2.1).trans tt31_mg_fetched
                have ts32_mg_counts : mg_counts s32 = mg_counts S := by rw [es32]; exact ((mk_mix _ _).2.2.2.2.2.2.2.2.2.2.2.2.2.2.2.2.2.2.2.2.2.2.2.2.2.2.2.2.2.2.1).trans tt31_mg_counts
                refine gq_iinc (lv' := [(2, .int (nI (i + 1))), (1, .int 3), (0, .ref (a 0))]) X dX7_digest_134 0 rfl (nI_1 i) (by decide) rfl ?_
                refine gq_goto (tgt := 107) X dX7_digest_137 (by decide) ?_
                refine gq_eqw (ws' := gw_M cA a (gq_it (kb_X7_digest_107_3 S) 0 s25 (i + 1))) (by rw [gq_it_s _ _ h0, ← et31]; rw [es32]; rfl) ?_
                exact ih hlt
              · obtain rfl : i = 8 := by omega
                refine gq_icmp_ge (tgt := 140) X dX7_digest_120 (by decide) (fun _ => ?_) (fun h => absurd (nI_le (Nat.le_refl _) (by decide)) h)
                refine gq_eqw (ws' := gw_M cA a s29) (by rw [et31, es29]) ?_
                refine gq_iinc (lv' := [(1, .int 4), (2, .int (nI 8)), (0, .ref (a 0))]) X dX7_digest_140 1 rfl (by decide) (by decide) rfl ?_
                refine gq_goto (tgt := 99) X dX7_digest_143 (by decide) ?_
                refine gq_iload_n X dX7_digest_99 0 rfl ?_
                refine gq_bipush (v := 6) X dX7_digest_100 (by decide) ?_
                refine gq_icmp_ge (tgt := 146) X dX7_digest_102 (by decide) (fun h => absurd h (by decide)) (fun _ => ?_)
                refine gq_iconst (v := 0) X dX7_digest_105 gq_i0 ?_
                refine gq_istore_n (lv' := [(2, .int 0), (1, .int 4), (0, .ref (a 0))]) X dX7_digest_106 (by decide) rfl ?_
                refine gq_letr (fun s33 es33 => ?_)
                have ts33_mg_acts : mg_acts s33 = mg_acts S := by rw [es33]; exact ((mi_kb_X7_digest_107_4 S s29 _).1).trans ts29_mg_acts
                have ts33_mg_deep : mg_deep s33 = mg_deep S := by rw [es33]; exact ((mi_kb_X7_digest_107_4 S s29 _).2.2.2.2.2.2.2.2.1).trans ts29_mg_deep
                have ts33_mg_returned : mg_returned s33 = mg_returned S := by rw [es33]; exact ((mi_kb_X7_digest_107_4 S s29 _).2.2.2.2.2.2.2.2.2.2.2.2.2.2.2.2.2.2.2.1).trans ts29_mg_returned
                have ts33_mg_fetched : mg_fetched s33 = mg_fetched S := by rw [es33]; exact ((mi_kb_X7_digest_107_4 S s29 _).2.2.2.2.2.2.2.2.2.2.2.2.2.2.2.2.2.2.2.2.1).trans ts29_mg_fetched
                have ts33_mg_counts : mg_counts s33 = mg_counts S := by rw [es33]; exact ((mi_kb_X7_digest_107_4 S s29 _).2.2.2.2.2.2.2.2.2.2.2.2.2.2.2.2.2.2.2.2.2.2.2.2.2.2.2.2.2.2.1).trans ts29_mg_counts
                refine gq_eqw (ws' := gw_M cA a (gq_it (kb_X7_digest_107_4 S) 0 s29 0)) (by rw [gq_it_0]) ?_
                refine gq_loop (N := 8) (i0 := 0) (fun i => gw_M cA a (gq_it (kb_X7_digest_107_4 S) 0 s29 i)) (fun i => [(2, .int (nI i)), (1, .int 4), (0, .ref (a 0))]) (Nat.zero_le _) (fun i hi h0 ih => ?_)
                obtain ⟨t35, et35⟩ : ∃ y, y = gq_it (kb_X7_digest_107_4 S) 0 s29 i := ⟨_, rfl⟩
                have tt35_mg_acts : mg_acts t35 = mg_acts S := by rw [et35]; exact ((mi_kb_X7_digest_107_4 S s29 _).1).trans ts29_mg_acts
                have tt35_mg_deep : mg_deep t35 = mg_deep S := by rw [et35]; exact ((mi_kb_X7_digest_107_4 S s29 _).2.2.2.2.2.2.2.2.1).trans ts29_mg_deep
                have tt35_mg_returned : mg_returned t35 = mg_returned S := by rw [et35]; exact ((mi_kb_X7_digest_107_4 S s29 _).2.2.2.2.2.2.2.2.2.2.2.2.2.2.2.2.2.2.2.1).trans ts29_mg_returned
                have tt35_mg_fetched : mg_fetched t35 = mg_fetched S := by rw [et35]; exact ((mi_kb_X7_digest_107_4 S s29 _).2.2.2.2.2.2.2.2.2.2.2.2.2.2.2.2.2.2.2.2.1).trans ts29_mg_fetched
                have tt35_mg_counts : mg_counts t35 = mg_counts S := by rw [et35]; exact ((mi_kb_X7_digest_107_4 S s29 _).2.2.2.2.2.2.2.2.2.2.2.2.2.2.2.2.2.2.2.2.2.2.2.2.2.2.2.2.2.2.1).trans ts29_mg_counts
                refine gq_eqw (ws' := gw_M cA a t35) (by rw [et35]) ?_
                refine gq_iload_n X dX7_digest_107 0 rfl ?_
                refine gq_iload_n X dX7_digest_108 1 rfl ?_
                refine gq_iconst (v := 3) X dX7_digest_109 gq_i3 ?_
                refine gq_icmp_ge (tgt := 118) X dX7_digest_110 (by decide) (fun _ => ?_) (fun h => absurd (by decide) h)
                refine gq_bipush (v := 8) X dX7_digest_118 (by decide) ?_
                rcases Nat.lt_or_ge i 8 with hlt | hge
                · refine gq_icmp_ge (tgt := 140) X dX7_digest_120 (by decide) (fun h => absurd h (nI_ge hlt (by decide))) (fun _ => ?_)
                  refine gq_aload_n X dX7_digest_123 2 rfl ?_
                  refine gq_aload_n X dX7_digest_124 2 rfl ?_
                  refine gq_iload_n X dX7_digest_125 1 rfl ?_
                  refine gq_iload_n X dX7_digest_126 0 rfl ?_
                  refine gq_callVr (ws' := gw_M cA a t35) X (c_X7_tableOf l D cA a t35 4 (nI i) (fun q => absurd q (by decide)) (fun _ => vp_in_nI hlt (by decide)) (by rw [tt35_mg_returned]; exact hr)) rfl ⟨rfl, rfl⟩ ⟨Nat.le_of_ble_eq_true rfl, Nat.le_of_ble_eq_true rfl⟩ gX7_digest_X7_tableOf hv_X7_tableOf 0 gl_M_c0 rfl [0, 1, 2, 3, 4, 5, 6, 7, 8, 9, 10, 11, 12, 13, 14, 15, 16, 17, 18, 19, 20, 21, 22, 23] gl_M_self_at gl_M_self_nd gl_M_fst gl_M_self_same rfl rfl (Nat.le_of_ble_eq_true rfl) ⟨Nat.zero_le _, Nat.zero_le _⟩ dX7_digest_127 ?_
                  refine gq_i2l X dX7_digest_130 ?_
                  obtain ⟨s36, es36⟩ : ∃ y, y = k_X7_mix t35 ((k_X7_tableOf t35 4 (nI i)).toInt64) := ⟨_, rfl⟩
                  refine gq_callVv (ws' := gw_M cA a s36) X (c_X7_mix l D cA a t35 ((k_X7_tableOf t35 4 (nI i)).toInt64)) rfl ⟨rfl, rfl⟩ ⟨Nat.le_of_ble_eq_true rfl, Nat.le_of_ble_eq_true rfl⟩ gX7_digest_X7_mix hv_X7_mix 0 gl_M_c0 rfl [0, 1, 2, 3, 4, 5, 6, 7, 8, 9, 10, 11, 12, 13, 14, 15, 16, 17, 18, 19, 20, 21, 22, 23] gl_M_self_at gl_M_self_nd gl_M_fst (by rw [es36]; exact gl_M_self_set) rfl rfl (Nat.le_of_ble_eq_true rfl) ⟨Nat.zero_le _, Nat.zero_le _⟩ dX7_digest_131 ?_
                  have ts36_mg_acts : mg_acts s36 = mg_acts S := by rw [es36]; exact ((mk_mix _ _).1).trans tt35_mg_acts
                  have ts36_mg_deep : mg_deep s36 = mg_deep S := by rw [es36]; exact ((mk_mix _ _).2.2.2.2.2.2.2.2.1).trans tt35_mg_deep
                  have ts36_mg_returned : mg_returned s36 = mg_returned S := by rw [es36]; exact ((mk_mix _ _).2.2.2.2.2.2.2.2.2.2.2.2.2.2.2.2.2.2.2.1).trans tt35_mg_returned
                  have ts36_mg_fetched : mg_fetched s36 = mg_fetched S := by rw [es36]; exact ((mk_mix _ _).2.2.2.2.2.2.2.2.2.2.2.2.2.2.2.2.2.2.2.2.1).trans tt35_mg_fetched
                  have ts36_mg_counts : mg_counts s36 = mg_counts S := by rw [es36]; exact ((mk_mix _ _).2.2.2.2.2.2.2.2.2.2.2.2.2.2.2.2.2.2.2.2.2.2.2.2.2.2.2.2.2.2.1).trans tt35_mg_counts
                  refine gq_iinc (lv' := [(2, .int (nI (i + 1))), (1, .int 4), (0, .ref (a 0))]) X dX7_digest_134 0 rfl (nI_1 i) (by decide) rfl ?_
                  refine gq_goto (tgt := 107) X dX7_digest_137 (by decide) ?_
                  refine gq_eqw (ws' := gw_M cA a (gq_it (kb_X7_digest_107_4 S) 0 s29 (i + 1))) (by rw [gq_it_s _ _ h0, ← et35]; rw [es36]; rfl) ?_
                  exact ih hlt
                · obtain rfl : i = 8 := by omega
                  refine gq_icmp_ge (tgt := 140) X dX7_digest_120 (by decide) (fun _ => ?_) (fun h => absurd (nI_le (Nat.le_refl _) (by decide)) h)
                  refine gq_eqw (ws' := gw_M cA a s33) (by rw [et35, es33]) ?_
                  refine gq_iinc (lv' := [(1, .int 5), (2, .int (nI 8)), (0, .ref (a 0))]) X dX7_digest_140 1 rfl (by decide) (by decide) rfl ?_
                  refine gq_goto (tgt := 99) X dX7_digest_143 (by decide) ?_
                  refine gq_iload_n X dX7_digest_99 0 rfl ?_
                  refine gq_bipush (v := 6) X dX7_digest_100 (by decide) ?_
                  refine gq_icmp_ge (tgt := 146) X dX7_digest_102 (by decide) (fun h => absurd h (by decide)) (fun _ => ?_)
                  refine gq_iconst (v := 0) X dX7_digest_105 gq_i0 ?_
                  refine gq_istore_n (lv' := [(2, .int 0), (1, .int 5), (0, .ref (a 0))]) X dX7_digest_106 (by decide) rfl ?_
                  refine gq_letr (fun s37 es37 => ?_)
                  have ts37_mg_acts : mg_acts s37 = mg_acts S := by rw [es37]; exact ((mi_kb_X7_digest_107_5 S s33 _).1).trans ts33_mg_acts
                  have ts37_mg_deep : mg_deep s37 = mg_deep S := by rw [es37]; exact ((mi_kb_X7_digest_107_5 S s33 _).2.2.2.2.2.2.2.2.1).trans ts33_mg_deep
                  have ts37_mg_returned : mg_returned s37 = mg_returned S := by rw [es37]; exact ((mi_kb_X7_digest_107_5 S s33 _).2.2.2.2.2.2.2.2.2.2.2.2.2.2.2.2.2.2.2.1).trans ts33_mg_returned
                  have ts37_mg_fetched : mg_fetched s37 = mg_fetched S := by rw [es37]; exact ((mi_kb_X7_digest_107_5 S s33 _).2.2.2.2.2.2.2.2.2.2.2.2.2.2.2.2.2.2.2.2.1).trans ts33_mg_fetched
                  have ts37_mg_counts : mg_counts s37 = mg_counts S := by rw [es37]; exact ((mi_kb_X7_digest_107_5 S s33 _).2.2.2.2.2.2.2.2.2.2.2.2.2.2.2.2.2.2.2.2.2.2.2.2.2.2.2.2.2.2.1).trans ts33_mg_counts
                  refine gq_eqw (ws' := gw_M cA a (gq_it (kb_X7_digest_107_5 S) 0 s33 0)) (by rw [gq_it_0]) ?_
                  refine gq_loop (N := 8) (i0 := 0) (fun i => gw_M cA a (gq_it (kb_X7_digest_107_5 S) 0 s33 i)) (fun i => [(2, .int (nI i)), (1, .int 5), (0, .ref (a 0))]) (Nat.zero_le _) (fun i hi h0 ih => ?_)
                  obtain ⟨t39, et39⟩ : ∃ y, y = gq_it (kb_X7_digest_107_5 S) 0 s33 i := ⟨_, rfl⟩
                  have tt39_mg_acts : mg_acts t39 = mg_acts S := by rw [et39]; exact ((mi_kb_X7_digest_107_5 S s33 _).1).trans ts33_mg_acts
                  have tt39_mg_deep : mg_deep t39 = mg_deep S := by rw [et39]; exact ((mi_kb_X7_digest_107_5 S s33 _).2.2.2.2.2.2.2.2.1).trans ts33_mg_deep
                  have tt39_mg_returned : mg_returned t39 = mg_returned S := by rw [et39]; exact ((mi_kb_X7_digest_107_5 S s33 _).2.2.2.2.2.2.2.2.2.2.2.2.2.2.2.2.2.2.2.1).trans ts33_mg_returned
                  have tt39_mg_fetched : mg_fetched t39 = mg_fetched S := by rw [et39]; exact ((mi_kb_X7_digest_107_5 S s33 _).2.2.2.2.2.2.2.2.2.2.2.2.2.2.2.2.2.2.2.2.1).trans ts33_mg_fetched
                  have tt39_mg_counts : mg_counts t39 = mg_counts S := by rw [et39]; exact ((mi_kb_X7_digest_107_5 S s33 _).2.2.2.2.2.2.2.2.2.2.2.2.2.2.2.2.2.2.2.2.2.2.2.2.2.2.2.2.2.2.1).trans ts33_mg_counts
                  refine gq_eqw (ws' := gw_M cA a t39) (by rw [et39]) ?_
                  refine gq_iload_n X dX7_digest_107 0 rfl ?_
                  refine gq_iload_n X dX7_digest_108 1 rfl ?_
                  refine gq_iconst (v := 3) X dX7_digest_109 gq_i3 ?_
                  refine gq_icmp_ge (tgt := 118) X dX7_digest_110 (by decide) (fun _ => ?_) (fun h => absurd (by decide) h)
                  refine gq_bipush (v := 8) X dX7_digest_118 (by decide) ?_
                  rcases Nat.lt_or_ge i 8 with hlt | hge
                  · refine gq_icmp_ge (tgt := 140) X dX7_digest_120 (by decide) (fun h => absurd h (nI_ge hlt (by decide))) (fun _ => ?_)
                    refine gq_aload_n X dX7_digest_123 2 rfl ?_
                    refine gq_aload_n X dX7_digest_124 2 rfl ?_
                    refine gq_iload_n X dX7_digest_125 1 rfl ?_
                    refine gq_iload_n X dX7_digest_126 0 rfl ?_
                    refine gq_callVr (ws' := gw_M cA a t39) X (c_X7_tableOf l D cA a t39 5 (nI i) (fun q => absurd q (by decide)) (fun _ => vp_in_nI hlt (by decide)) (by rw [tt39_mg_returned]; exact hr)) rfl ⟨rfl, rfl⟩ ⟨Nat.le_of_ble_eq_true rfl, Nat.le_of_ble_eq_true rfl⟩ gX7_digest_X7_tableOf hv_X7_tableOf 0 gl_M_c0 rfl [0, 1, 2, 3, 4, 5, 6, 7, 8, 9, 10, 11, 12, 13, 14, 15, 16, 17, 18, 19, 20, 21, 22, 23] gl_M_self_at gl_M_self_nd gl_M_fst gl_M_self_same rfl rfl (Nat.le_of_ble_eq_true rfl) ⟨Nat.zero_le _, Nat.zero_le _⟩ dX7_digest_127 ?_
                    refine gq_i2l X dX7_digest_130 ?_
                    obtain ⟨s40, es40⟩ : ∃ y, y = k_X7_mix t39 ((k_X7_tableOf t39 5 (nI i)).toInt64) := ⟨_, rfl⟩
                    refine gq_callVv (ws' := gw_M cA a s40) X (c_X7_mix l D cA a t39 ((k_X7_tableOf t39 5 (nI i)).toInt64)) rfl ⟨rfl, rfl⟩ ⟨Nat.le_of_ble_eq_true rfl, Nat.le_of_ble_eq_true rfl⟩ gX7_digest_X7_mix hv_X7_mix 0 gl_M_c0 rfl [0, 1, 2, 3, 4, 5, 6, 7, 8, 9, 10, 11, 12, 13, 14, 15, 16, 17, 18, 19, 20, 21, 22, 23] gl_M_self_at gl_M_self_nd gl_M_fst (by rw [es40]; exact gl_M_self_set) rfl rfl (Nat.le_of_ble_eq_true rfl) ⟨Nat.zero_le _, Nat.zero_le _⟩ dX7_digest_131 ?_
                    have ts40_mg_acts : mg_acts s40 = mg_acts S := by rw [es40]; exact ((mk_mix _ _).1).trans tt39_mg_acts
                    have ts40_mg_deep : mg_deep s40 = mg_deep S := by rw [es40]; exact ((mk_mix _ _).2.2.2.2.2.2.2.2.1).trans tt39_mg_deep
                    have ts40_mg_returned : mg_returned s40 = mg_returned S := by rw [es40]; exact ((mk_mix _ _).2.2.2.2.2.2.2.2.2.2.2.2.2.2.2.2.2.2.2.1).trans tt39_mg_returned
                    have ts40_mg_fetched : mg_fetched s40 = mg_fetched S := by rw [es40]; exact ((mk_mix _ _).2.2.2.2.2.2.2.2.2.2.2.2.2.2.2.2.2.2.2.2.1).trans tt39_mg_fetched
                    have ts40_mg_counts : mg_counts s40 = mg_counts S := by rw [es40]; exact ((mk_mix _ _).2.2.2.2.2.2.2.2.2.2.2.2.2.2.2.2.2.2.2.2.2.2.2.2.2.2.2.2.2.2.1).trans tt39_mg_counts
                    refine gq_iinc (lv' := [(2, .int (nI (i + 1))), (1, .int 5), (0, .ref (a 0))]) X dX7_digest_134 0 rfl (nI_1 i) (by decide) rfl ?_
                    refine gq_goto (tgt := 107) X dX7_digest_137 (by decide) ?_
                    refine gq_eqw (ws' := gw_M cA a (gq_it (kb_X7_digest_107_5 S) 0 s33 (i + 1))) (by rw [gq_it_s _ _ h0, ← et39]; rw [es40]; rfl) ?_
                    exact ih hlt
                  · obtain rfl : i = 8 := by omega
                    refine gq_icmp_ge (tgt := 140) X dX7_digest_120 (by decide) (fun _ => ?_) (fun h => absurd (nI_le (Nat.le_refl _) (by decide)) h)
                    refine gq_eqw (ws' := gw_M cA a s37) (by rw [et39, es37]) ?_
                    refine gq_iinc (lv' := [(1, .int 6), (2, .int (nI 8)), (0, .ref (a 0))]) X dX7_digest_140 1 rfl (by decide) (by decide) rfl ?_
                    refine gq_goto (tgt := 99) X dX7_digest_143 (by decide) ?_
                    refine gq_iload_n X dX7_digest_99 0 rfl ?_
                    refine gq_bipush (v := 6) X dX7_digest_100 (by decide) ?_
                    refine gq_icmp_ge (tgt := 146) X dX7_digest_102 (by decide) (fun _ => ?_) (fun h => absurd (by decide) h)
                    refine gq_aload_n X dX7_digest_146 2 rfl ?_
                    refine gq_aload_n X dX7_digest_147 2 rfl ?_
                    refine gq_get (C := RX7) (T := TX7) (N := 34) X iX7_digest_X7 0 gl_M_c0 rfl 14 (by decide) fX7_digest_X7_14 rfl dX7_digest_148 ?_
                    refine gq_i2l X dX7_digest_151 ?_
                    refine gq_letr (fun s41 es41 => ?_)
                    refine gq_callVv (ws' := gw_M cA a s41) X (c_X7_mix l D cA a s37 ((mg_history s37).toInt64)) rfl ⟨rfl, rfl⟩ ⟨Nat.le_of_ble_eq_true rfl, Nat.le_of_ble_eq_true rfl⟩ gX7_digest_X7_mix hv_X7_mix 0 gl_M_c0 rfl [0, 1, 2, 3, 4, 5, 6, 7, 8, 9, 10, 11, 12, 13, 14, 15, 16, 17, 18, 19, 20, 21, 22, 23] gl_M_self_at gl_M_self_nd gl_M_fst (by rw [es41]; exact gl_M_self_set) rfl rfl (Nat.le_of_ble_eq_true rfl) ⟨Nat.zero_le _, Nat.zero_le _⟩ dX7_digest_152 ?_
                    have ts41_mg_acts : mg_acts s41 = mg_acts S := by rw [es41]; exact ((mk_mix _ _).1).trans ts37_mg_acts
                    have ts41_mg_deep : mg_deep s41 = mg_deep S := by rw [es41]; exact ((mk_mix _ _).2.2.2.2.2.2.2.2.1).trans ts37_mg_deep
                    have ts41_mg_returned : mg_returned s41 = mg_returned S := by rw [es41]; exact ((mk_mix _ _).2.2.2.2.2.2.2.2.2.2.2.2.2.2.2.2.2.2.2.1).trans ts37_mg_returned
                    have ts41_mg_fetched : mg_fetched s41 = mg_fetched S := by rw [es41]; exact ((mk_mix _ _).2.2.2.2.2.2.2.2.2.2.2.2.2.2.2.2.2.2.2.2.1).trans ts37_mg_fetched
                    have ts41_mg_counts : mg_counts s41 = mg_counts S := by rw [es41]; exact ((mk_mix _ _).2.2.2.2.2.2.2.2.2.2.2.2.2.2.2.2.2.2.2.2.2.2.2.2.2.2.2.2.2.2.1).trans ts37_mg_counts
                    refine gq_aload_n X dX7_digest_155 2 rfl ?_
                    refine gq_aload_n X dX7_digest_156 2 rfl ?_
                    refine gq_get (C := RX7) (T := TX7) (N := 34) X iX7_digest_X7 0 gl_M_c0 rfl 19 (by decide) fX7_digest_X7_19 rfl dX7_digest_157 ?_
                    refine gq_i2l X dX7_digest_160 ?_
                    refine gq_letr (fun s42 es42 => ?_)
                    refine gq_callVv (ws' := gw_M cA a s42) X (c_X7_mix l D cA a s41 ((mg_returned s41).toInt64)) rfl ⟨rfl, rfl⟩ ⟨Nat.le_of_ble_eq_true rfl, Nat.le_of_ble_eq_true rfl⟩ gX7_digest_X7_mix hv_X7_mix 0 gl_M_c0 rfl [0, 1, 2, 3, 4, 5, 6, 7, 8, 9, 10, 11, 12, 13, 14, 15, 16, 17, 18, 19, 20, 21, 22, 23] gl_M_self_at gl_M_self_nd gl_M_fst (by rw [es42]; exact gl_M_self_set) rfl rfl (Nat.le_of_ble_eq_true rfl) ⟨Nat.zero_le _, Nat.zero_le _⟩ dX7_digest_161 ?_
                    have ts42_mg_acts : mg_acts s42 = mg_acts S := by rw [es42]; exact ((mk_mix _ _).1).trans ts41_mg_acts
                    have ts42_mg_deep : mg_deep s42 = mg_deep S := by rw [es42]; exact ((mk_mix _ _).2.2.2.2.2.2.2.2.1).trans ts41_mg_deep
                    have ts42_mg_returned : mg_returned s42 = mg_returned S := by rw [es42]; exact ((mk_mix _ _).2.2.2.2.2.2.2.2.2.2.2.2.2.2.2.2.2.2.2.1).trans ts41_mg_returned
                    have ts42_mg_fetched : mg_fetched s42 = mg_fetched S := by rw [es42]; exact ((mk_mix _ _).2.2.2.2.2.2.2.2.2.2.2.2.2.2.2.2.2.2.2.2.1).trans ts41_mg_fetched
                    have ts42_mg_counts : mg_counts s42 = mg_counts S := by rw [es42]; exact ((mk_mix _ _).2.2.2.2.2.2.2.2.2.2.2.2.2.2.2.2.2.2.2.2.2.2.2.2.2.2.2.2.2.2.1).trans ts41_mg_counts
                    refine gq_iconst (v := 0) X dX7_digest_164 gq_i0 ?_
                    refine gq_istore_n (lv' := [(1, .int 0), (2, .int (nI 8)), (0, .ref (a 0))]) X dX7_digest_165 (by decide) rfl ?_
                    refine gq_letr (fun s43 es43 => ?_)
                    have ts43_mg_acts : mg_acts s43 = mg_acts S := by rw [es43]; exact ((mi_kb_X7_digest_166 S s42 _).1).trans ts42_mg_acts
                    have ts43_mg_deep : mg_deep s43 = mg_deep S := by rw [es43]; exact ((mi_kb_X7_digest_166 S s42 _).2.2.2.2.2.2.2.2.1).trans ts42_mg_deep
                    have ts43_mg_returned : mg_returned s43 = mg_returned S := by rw [es43]; exact ((mi_kb_X7_digest_166 S s42 _).2.2.2.2.2.2.2.2.2.2.2.2.2.2.2.2.2.2.2.1).trans ts42_mg_returned
                    have ts43_mg_fetched : mg_fetched s43 = mg_fetched S := by rw [es43]; exact ((mi_kb_X7_digest_166 S s42 _).2.2.2.2.2.2.2.2.2.2.2.2.2.2.2.2.2.2.2.2.1).trans ts42_mg_fetched
                    have ts43_mg_counts : mg_counts s43 = mg_counts S := by rw [es43]; exact ((mi_kb_X7_digest_166 S s42 _).2.2.2.2.2.2.2.2.2.2.2.2.2.2.2.2.2.2.2.2.2.2.2.2.2.2.2.2.2.2.1).trans ts42_mg_counts
                    refine gq_eqw (ws' := gw_M cA a (gq_it (kb_X7_digest_166 S) 0 s42 0)) (by rw [gq_it_0]) ?_
                    refine gq_loop (N := (gq_ix (mg_returned S))) (i0 := 0) (fun i => gw_M cA a (gq_it (kb_X7_digest_166 S) 0 s42 i)) (fun i => [(1, .int (nI i)), (2, .int (nI 8)), (0, .ref (a 0))]) (Nat.zero_le _) (fun i hi h0 ih => ?_)
                    obtain ⟨t45, et45⟩ : ∃ y, y = gq_it (kb_X7_digest_166 S) 0 s42 i := ⟨_, rfl⟩
                    have tt45_mg_acts : mg_acts t45 = mg_acts S := by rw [et45]; exact ((mi_kb_X7_digest_166 S s42 _).1).trans ts42_mg_acts
                    have tt45_mg_deep : mg_deep t45 = mg_deep S := by rw [et45]; exact ((mi_kb_X7_digest_166 S s42 _).2.2.2.2.2.2.2.2.1).trans ts42_mg_deep
                    have tt45_mg_returned : mg_returned t45 = mg_returned S := by rw [et45]; exact ((mi_kb_X7_digest_166 S s42 _).2.2.2.2.2.2.2.2.2.2.2.2.2.2.2.2.2.2.2.1).trans ts42_mg_returned
                    have tt45_mg_fetched : mg_fetched t45 = mg_fetched S := by rw [et45]; exact ((mi_kb_X7_digest_166 S s42 _).2.2.2.2.2.2.2.2.2.2.2.2.2.2.2.2.2.2.2.2.1).trans ts42_mg_fetched
                    have tt45_mg_counts : mg_counts t45 = mg_counts S := by rw [et45]; exact ((mi_kb_X7_digest_166 S s42 _).2.2.2.2.2.2.2.2.2.2.2.2.2.2.2.2.2.2.2.2.2.2.2.2.2.2.2.2.2.2.1).trans ts42_mg_counts
                    refine gq_eqw (ws' := gw_M cA a t45) (by rw [et45]) ?_
                    refine gq_iload_n X dX7_digest_166 0 rfl ?_
                    refine gq_aload_n X dX7_digest_167 2 rfl ?_
                    refine gq_get (C := RX7) (T := TX7) (N := 34) X iX7_digest_X7 0 gl_M_c0 rfl 19 (by decide) fX7_digest_X7_19 rfl dX7_digest_168 ?_
                    rcases Nat.lt_or_ge i (gq_ix (mg_returned S)) with hlt | hge
                    · refine gq_icmp_ge (tgt := 191) X dX7_digest_171 (by decide) (fun h => absurd h (by rw [tt45_mg_returned, mv_self hr (by decide)]; exact nI_ge hlt (by have := mv_ix hr; omega))) (fun _ => ?_)
                      refine gq_aload_n X dX7_digest_174 2 rfl ?_
                      refine gq_aload_n X dX7_digest_175 2 rfl ?_
                      refine gq_get (C := RX7) (T := TX7) (N := 34) X iX7_digest_X7 0 gl_M_c0 rfl 18 (by decide) fX7_digest_X7_18 rfl dX7_digest_176 ?_
                      refine gq_iload_n X dX7_digest_179 0 rfl ?_
                      refine gq_ald X 14 gl_M_c14 (vp_in_nI (by have := mv_ix hr; omega) (by decide)) dX7_digest_180 ?_
                      refine gq_i2l X dX7_digest_181 ?_
                      obtain ⟨s46, es46⟩ : ∃ y, y = k_X7_mix t45 (((mg_returns t45) (gq_ix (nI i))).toInt64) := ⟨_, rfl⟩
                      refine gq_callVv (ws' := gw_M cA a s46) X (c_X7_mix l D cA a t45 (((mg_returns t45) (gq_ix (nI i))).toInt64)) rfl ⟨rfl, rfl⟩ ⟨Nat.le_of_ble_eq_true rfl, Nat.le_of_ble_eq_true rfl⟩ gX7_digest_X7_mix hv_X7_mix 0 gl_M_c0 rfl [0, 1, 2, 3, 4, 5, 6, 7, 8, 9, 10, 11, 12, 13, 14, 15, 16, 17, 18, 19, 20, 21, 22, 23] gl_M_self_at gl_M_self_nd gl_M_fst (by rw [es46]; exact gl_M_self_set) rfl rfl (Nat.le_of_ble_eq_true rfl) ⟨Nat.zero_le _, Nat.zero_le _⟩ dX7_digest_182 ?_
                      have ts46_mg_acts : mg_acts s46 = mg_acts S := by rw [es46]; exact ((mk_mix _ _).1).trans tt45_mg_acts
                      have ts46_mg_deep : mg_deep s46 = mg_deep S := by rw [es46]; exact ((mk_mix _ _).2.2.2.2.2.2.2.2.1).trans tt45_mg_deep
                      have ts46_mg_returned : mg_returned s46 = mg_returned S := by rw [es46]; exact ((mk_mix _ _).2.2.2.2.2.2.2.2.2.2.2.2.2.2.2.2.2.2.2.1).trans tt45_mg_returned
                      have ts46_mg_fetched : mg_fetched s46 = mg_fetched S := by rw [es46]; exact ((mk_mix _ _).2.2.2.2.2.2.2.2.2.2.2.2.2.2.2.2.2.2.2.2.1).trans tt45_mg_fetched
                      have ts46_mg_counts : mg_counts s46 = mg_counts S := by rw [es46]; exact ((mk_mix _ _).2.2.2.2.2.2.2.2.2.2.2.2.2.2.2.2.2.2.2.2.2.2.2.2.2.2.2.2.2.2.1).trans tt45_mg_counts
                      refine gq_iinc (lv' := [(1, .int (nI (i + 1))), (2, .int (nI 8)), (0, .ref (a 0))]) X dX7_digest_185 0 rfl (nI_1 i) (by decide) rfl ?_
                      refine gq_goto (tgt := 166) X dX7_digest_188 (by decide) ?_
                      refine gq_eqw (ws' := gw_M cA a (gq_it (kb_X7_digest_166 S) 0 s42 (i + 1))) (by rw [gq_it_s _ _ h0, ← et45]; rw [es46]; rfl) ?_
                      exact ih hlt
                    · have hiN : (gq_ix (mg_returned S)) = i := by omega
                      subst hiN
                      refine gq_icmp_ge (tgt := 191) X dX7_digest_171 (by decide) (fun _ => ?_) (fun h => absurd (by rw [tt45_mg_returned, mv_self hr (by decide), gq_cl (by have := mv_ix hr; omega)]; exact nI_le (Nat.le_refl _) (by have := mv_ix hr; omega)) h)
                      refine gq_eqw (ws' := gw_M cA a s43) (by rw [et45, es43]) ?_
                      refine gq_iconst (v := 0) X dX7_digest_191 gq_i0 ?_
                      refine gq_istore_n (lv' := [(1, .int 0), (2, .int (nI 8)), (0, .ref (a 0))]) X dX7_digest_192 (by decide) rfl ?_
                      refine gq_letr (fun s47 es47 => ?_)
                      have ts47_mg_acts : mg_acts s47 = mg_acts S := by rw [es47]; exact ((mi_kb_X7_digest_193 S s43 _).1).trans ts43_mg_acts
                      have ts47_mg_deep : mg_deep s47 = mg_deep S := by rw [es47]; exact ((mi_kb_X7_digest_193 S s43 _).2.2.2.2.2.2.2.2.1).trans ts43_mg_deep
                      have ts47_mg_returned : mg_returned s47 = mg_returned S := by rw [es47]; exact ((mi_kb_X7_digest_193 S s43 _).2.2.2.2.2.2.2.2.2.2.2.2.2.2.2.2.2.2.2.1).trans ts43_mg_returned
                      have ts47_mg_fetched : mg_fetched s47 = mg_fetched S := by rw [es47]; exact ((mi_kb_X7_digest_193 S s43 _).2.2.2.2.2.2.2.2.2.2.2.2.2.2.2.2.2.2.2.2.1).trans ts43_mg_fetched
                      have ts47_mg_counts : mg_counts s47 = mg_counts S := by rw [es47]; exact ((mi_kb_X7_digest_193 S s43 _).2.2.2.2.2.2.2.2.2.2.2.2.2.2.2.2.2.2.2.2.2.2.2.2.2.2.2.2.2.2.1).trans ts43_mg_counts
                      refine gq_eqw (ws' := gw_M cA a (gq_it (kb_X7_digest_193 S) 0 s43 0)) (by rw [gq_it_0]) ?_
                      refine gq_loop (N := (gq_ix (mg_fetched S))) (i0 := 0) (fun i => gw_M cA a (gq_it (kb_X7_digest_193 S) 0 s43 i)) (fun i => [(1, .int (nI i)), (2, .int (nI 8)), (0, .ref (a 0))]) (Nat.zero_le _) (fun i hi h0 ih => ?_)
                      obtain ⟨t49, et49⟩ : ∃ y, y = gq_it (kb_X7_digest_193 S) 0 s43 i := ⟨_, rfl⟩
                      have tt49_mg_acts : mg_acts t49 = mg_acts S := by rw [et49]; exact ((mi_kb_X7_digest_193 S s43 _).1).trans ts43_mg_acts
                      have tt49_mg_deep : mg_deep t49 = mg_deep S := by rw [et49]; exact ((mi_kb_X7_digest_193 S s43 _).2.2.2.2.2.2.2.2.1).trans ts43_mg_deep
                      have tt49_mg_returned : mg_returned t49 = mg_returned S := by rw [et49]; exact ((mi_kb_X7_digest_193 S s43 _).2.2.2.2.2.2.2.2.2.2.2.2.2.2.2.2.2.2.2.1).trans ts43_mg_returned
                      have tt49_mg_fetched : mg_fetched t49 = mg_fetched S := by rw [et49]; exact ((mi_kb_X7_digest_193 S s43 _).2.2.2.2.2.2.2.2.2.2.2.2.2.2.2.2.2.2.2.2.1).trans ts43_mg_fetched
                      have tt49_mg_counts : mg_counts t49 = mg_counts S := by rw [et49]; exact ((mi_kb_X7_digest_193 S s43 _).2.2.2.2.2.2.2.2.2.2.2.2.2.2.2.2.2.2.2.2.2.2.2.2.2.2.2.2.2.2.1).trans ts43_mg_counts
                      refine gq_eqw (ws' := gw_M cA a t49) (by rw [et49]) ?_
                      refine gq_iload_n X dX7_digest_193 0 rfl ?_
                      refine gq_aload_n X dX7_digest_194 2 rfl ?_
                      refine gq_get (C := RX7) (T := TX7) (N := 34) X iX7_digest_X7 0 gl_M_c0 rfl 20 (by decide) fX7_digest_X7_20 rfl dX7_digest_195 ?_
                      rcases Nat.lt_or_ge i (gq_ix (mg_fetched S)) with hlt | hge
                      · refine gq_icmp_ge (tgt := 218) X dX7_digest_198 (by decide) (fun h => absurd h (by rw [tt49_mg_fetched, mv_self hf (by decide)]; exact nI_ge hlt (by have := mv_ix hf; omega))) (fun _ => ?_)
                        refine gq_aload_n X dX7_digest_201 2 rfl ?_
                        refine gq_aload_n X dX7_digest_202 2 rfl ?_
                        refine gq_get (C := RX7) (T := TX7) (N := 34) X iX7_digest_X7 0 gl_M_c0 rfl 21 (by decide) fX7_digest_X7_21 rfl dX7_digest_203 ?_
                        refine gq_iload_n X dX7_digest_206 0 rfl ?_
                        refine gq_ald X 15 gl_M_c15 (vp_in_nI (by have := mv_ix hf; omega) (by decide)) dX7_digest_207 ?_
                        refine gq_i2l X dX7_digest_208 ?_
                        obtain ⟨s50, es50⟩ : ∃ y, y = k_X7_mix t49 (((mg_fetchAt t49) (gq_ix (nI i))).toInt64) := ⟨_, rfl⟩
                        refine gq_callVv (ws' := gw_M cA a s50) X (c_X7_mix l D cA a t49 (((mg_fetchAt t49) (gq_ix (nI i))).toInt64)) rfl ⟨rfl, rfl⟩ ⟨Nat.le_of_ble_eq_true rfl, Nat.le_of_ble_eq_true rfl⟩ gX7_digest_X7_mix hv_X7_mix 0 gl_M_c0 rfl [0, 1, 2, 3, 4, 5, 6, 7, 8, 9, 10, 11, 12, 13, 14, 15, 16, 17, 18, 19, 20, 21, 22, 23] gl_M_self_at gl_M_self_nd gl_M_fst (by rw [es50]; exact gl_M_self_set) rfl rfl (Nat.le_of_ble_eq_true rfl) ⟨Nat.zero_le _, Nat.zero_le _⟩ dX7_digest_209 ?_
                        have ts50_mg_acts : mg_acts s50 = mg_acts S := by rw [es50]; exact ((mk_mix _ _).1).trans tt49_mg_acts
                        have ts50_mg_deep : mg_deep s50 = mg_deep S := by rw [es50]; exact ((mk_mix _ _).2.2.2.2.2.2.2.2.1).trans tt49_mg_deep
                        have ts50_mg_returned : mg_returned s50 = mg_returned S := by rw [es50]; exact ((mk_mix _ _).2.2.2.2.2.2.2.2.2.2.2.2.2.2.2.2.2.2.2.1).trans tt49_mg_returned
                        have ts50_mg_fetched : mg_fetched s50 = mg_fetched S := by rw [es50]; exact ((mk_mix _ _).2.2.2.2.2.2.2.2.2.2.2.2.2.2.2.2.2.2.2.2.1).trans tt49_mg_fetched
                        have ts50_mg_counts : mg_counts s50 = mg_counts S := by rw [es50]; exact ((mk_mix _ _).2.2.2.2.2.2.2.2.2.2.2.2.2.2.2.2.2.2.2.2.2.2.2.2.2.2.2.2.2.2.1).trans tt49_mg_counts
                        refine gq_iinc (lv' := [(1, .int (nI (i + 1))), (2, .int (nI 8)), (0, .ref (a 0))]) X dX7_digest_212 0 rfl (nI_1 i) (by decide) rfl ?_
                        refine gq_goto (tgt := 193) X dX7_digest_215 (by decide) ?_
                        refine gq_eqw (ws' := gw_M cA a (gq_it (kb_X7_digest_193 S) 0 s43 (i + 1))) (by rw [gq_it_s _ _ h0, ← et49]; rw [es50]; rfl) ?_
                        exact ih hlt
                      · have hiN : (gq_ix (mg_fetched S)) = i := by omega
                        subst hiN
                        refine gq_icmp_ge (tgt := 218) X dX7_digest_198 (by decide) (fun _ => ?_) (fun h => absurd (by rw [tt49_mg_fetched, mv_self hf (by decide), gq_cl (by have := mv_ix hf; omega)]; exact nI_le (Nat.le_refl _) (by have := mv_ix hf; omega)) h)
                        refine gq_eqw (ws' := gw_M cA a s47) (by rw [et49, es47]) ?_
                        refine gq_iconst (v := 0) X dX7_digest_218 gq_i0 ?_
                        refine gq_istore_n (lv' := [(1, .int 0), (2, .int (nI 8)), (0, .ref (a 0))]) X dX7_digest_219 (by decide) rfl ?_
                        refine gq_letr (fun s51 es51 => ?_)
                        have ts51_mg_acts : mg_acts s51 = mg_acts S := by rw [es51]; exact ((mi_kb_X7_digest_220 S s47 _).1).trans ts47_mg_acts
                        have ts51_mg_deep : mg_deep s51 = mg_deep S := by rw [es51]; exact ((mi_kb_X7_digest_220 S s47 _).2.2.2.2.2.2.2.2.1).trans ts47_mg_deep
                        have ts51_mg_returned : mg_returned s51 = mg_returned S := by rw [es51]; exact ((mi_kb_X7_digest_220 S s47 _).2.2.2.2.2.2.2.2.2.2.2.2.2.2.2.2.2.2.2.1).trans ts47_mg_returned
                        have ts51_mg_fetched : mg_fetched s51 = mg_fetched S := by rw [es51]; exact ((mi_kb_X7_digest_220 S s47 _).2.2.2.2.2.2.2.2.2.2.2.2.2.2.2.2.2.2.2.2.1).trans ts47_mg_fetched
                        have ts51_mg_counts : mg_counts s51 = mg_counts S := by rw [es51]; exact ((mi_kb_X7_digest_220 S s47 _).2.2.2.2.2.2.2.2.2.2.2.2.2.2.2.2.2.2.2.2.2.2.2.2.2.2.2.2.2.2.1).trans ts47_mg_counts
                        refine gq_eqw (ws' := gw_M cA a (gq_it (kb_X7_digest_220 S) 0 s47 0)) (by rw [gq_it_0]) ?_
                        refine gq_loop (N := 18) (i0 := 0) (fun i => gw_M cA a (gq_it (kb_X7_digest_220 S) 0 s47 i)) (fun i => [(1, .int (nI i)), (2, .int (nI 8)), (0, .ref (a 0))]) (Nat.zero_le _) (fun i hi h0 ih => ?_)
                        obtain ⟨t53, et53⟩ : ∃ y, y = gq_it (kb_X7_digest_220 S) 0 s47 i := ⟨_, rfl⟩
                        have tt53_mg_acts : mg_acts t53 = mg_acts S := by rw [et53]; exact ((mi_kb_X7_digest_220 S s47 _).1).trans ts47_mg_acts
                        have tt53_mg_deep : mg_deep t53 = mg_deep S := by rw [et53]; exact ((mi_kb_X7_digest_220 S s47 _).2.2.2.2.2.2.2.2.1).trans ts47_mg_deep
                        have tt53_mg_returned : mg_returned t53 = mg_returned S := by rw [et53]; exact ((mi_kb_X7_digest_220 S s47 _).2.2.2.2.2.2.2.2.2.2.2.2.2.2.2.2.2.2.2.1).trans ts47_mg_returned
                        have tt53_mg_fetched : mg_fetched t53 = mg_fetched S := by rw [et53]; exact ((mi_kb_X7_digest_220 S s47 _).2.2.2.2.2.2.2.2.2.2.2.2.2.2.2.2.2.2.2.2.1).trans ts47_mg_fetched
                        have tt53_mg_counts : mg_counts t53 = mg_counts S := by rw [et53]; exact ((mi_kb_X7_digest_220 S s47 _).2.2.2.2.2.2.2.2.2.2.2.2.2.2.2.2.2.2.2.2.2.2.2.2.2.2.2.2.2.2.1).trans ts47_mg_counts
                        refine gq_eqw (ws' := gw_M cA a t53) (by rw [et53]) ?_
                        refine gq_iload_n X dX7_digest_220 0 rfl ?_
                        refine gq_bipush (v := 18) X dX7_digest_221 (by decide) ?_
                        rcases Nat.lt_or_ge i 18 with hlt | hge
                        · refine gq_icmp_ge (tgt := 242) X dX7_digest_223 (by decide) (fun h => absurd h (nI_ge hlt (by decide))) (fun _ => ?_)
                          refine gq_aload_n X dX7_digest_226 2 rfl ?_
                          refine gq_aload_n X dX7_digest_227 2 rfl ?_
                          refine gq_iload_n X dX7_digest_228 0 rfl ?_
                          refine gq_callVr (ws' := gw_M cA a t53) X (c_X7_count l D cA a t53 (nI i)) rfl ⟨rfl, rfl⟩ ⟨Nat.le_of_ble_eq_true rfl, Nat.le_of_ble_eq_true rfl⟩ gX7_digest_X7_count hv_X7_count 0 gl_M_c0 rfl [0, 1, 2, 3, 4, 5, 6, 7, 8, 9, 10, 11, 12, 13, 14, 15, 16, 17, 18, 19, 20, 21, 22, 23] gl_M_self_at gl_M_self_nd gl_M_fst gl_M_self_same rfl rfl (Nat.le_of_ble_eq_true rfl) ⟨Nat.zero_le _, Nat.zero_le _⟩ dX7_digest_229 ?_
                          refine gq_i2l X dX7_digest_232 ?_
                          obtain ⟨s54, es54⟩ : ∃ y, y = k_X7_mix t53 ((k_X7_count t53 (nI i)).toInt64) := ⟨_, rfl⟩
                          refine gq_callVv (ws' := gw_M cA a s54) X (c_X7_mix l D cA a t53 ((k_X7_count t53 (nI i)).toInt64)) rfl ⟨rfl, rfl⟩ ⟨Nat.le_of_ble_eq_true rfl, Nat.le_of_ble_eq_true rfl⟩ gX7_digest_X7_mix hv_X7_mix 0 gl_M_c0 rfl [0, 1, 2, 3, 4, 5, 6, 7, 8, 9, 10, 11, 12, 13, 14, 15, 16, 17, 18, 19, 20, 21, 22, 23] gl_M_self_at gl_M_self_nd gl_M_fst (by rw [es54]; exact gl_M_self_set) rfl rfl (Nat.le_of_ble_eq_true rfl) ⟨Nat.zero_le _, Nat.zero_le _⟩ dX7_digest_233 ?_
                          have ts54_mg_acts : mg_acts s54 = mg_acts S := by rw [es54]; exact ((mk_mix _ _).1).trans tt53_mg_acts
                          have ts54_mg_deep : mg_deep s54 = mg_deep S := by rw [es54]; exact ((mk_mix _ _).2.2.2.2.2.2.2.2.1).trans tt53_mg_deep
                          have ts54_mg_returned : mg_returned s54 = mg_returned S := by rw [es54]; exact ((mk_mix _ _).2.2.2.2.2.2.2.2.2.2.2.2.2.2.2.2.2.2.2.1).trans tt53_mg_returned
                          have ts54_mg_fetched : mg_fetched s54 = mg_fetched S := by rw [es54]; exact ((mk_mix _ _).2.2.2.2.2.2.2.2.2.2.2.2.2.2.2.2.2.2.2.2.1).trans tt53_mg_fetched
                          have ts54_mg_counts : mg_counts s54 = mg_counts S := by rw [es54]; exact ((mk_mix _ _).2.2.2.2.2.2.2.2.2.2.2.2.2.2.2.2.2.2.2.2.2.2.2.2.2.2.2.2.2.2.1).trans tt53_mg_counts
                          refine gq_iinc (lv' := [(1, .int (nI (i + 1))), (2, .int (nI 8)), (0, .ref (a 0))]) X dX7_digest_236 0 rfl (nI_1 i) (by decide) rfl ?_
                          refine gq_goto (tgt := 220) X dX7_digest_239 (by decide) ?_
                          refine gq_eqw (ws' := gw_M cA a (gq_it (kb_X7_digest_220 S) 0 s47 (i + 1))) (by rw [gq_it_s _ _ h0, ← et53]; rw [es54]; rfl) ?_
                          exact ih hlt
                        · obtain rfl : i = 18 := by omega
                          refine gq_icmp_ge (tgt := 242) X dX7_digest_223 (by decide) (fun _ => ?_) (fun h => absurd (nI_le (Nat.le_refl _) (by decide)) h)
                          refine gq_eqw (ws' := gw_M cA a s51) (by rw [et53, es51]) ?_
                          refine gq_aload_n X dX7_digest_242 2 rfl ?_
                          refine gq_get (C := RX7) (T := TX7) (N := 34) X iX7_digest_X7 0 gl_M_c0 rfl 33 (by decide) fX7_digest_X7_33 rfl dX7_digest_243 ?_
                          exact gq_lretf X dX7_digest_246 rfl rfl
