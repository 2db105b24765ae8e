theorem iX6_finishEldest_X6 : ∀ w ∈ u_ws RX6 TX6 10, w ∈ wsX6_finishEldest := by decide +kernel
theorem fX6_finishEldest_X6_0 : Cond.fieldLink RX6 10 (TX6 0).1 (TX6 0).2.1 (TX6 0).2.2.1 ∈ wsX6_finishEldest := by decide +kernel
theorem fX6_finishEldest_X6_1 : Cond.fieldLink RX6 19 (TX6 1).1 (TX6 1).2.1 (TX6 1).2.2.1 ∈ wsX6_finishEldest := by decide +kernel
theorem fX6_finishEldest_X6_2 : Cond.fieldLink RX6 26 (TX6 2).1 (TX6 2).2.1 (TX6 2).2.2.1 ∈ wsX6_finishEldest := by decide +kernel
theorem fX6_finishEldest_X6_3 : Cond.fieldLink RX6 33 (TX6 3).1 (TX6 3).2.1 (TX6 3).2.2.1 ∈ wsX6_finishEldest := by decide +kernel
theorem hv_X6_finishEldest : yX6_finishEldest.cls = RX6 ∧ yX6_finishEldest.cls ≠ "java/lang/invoke/MethodHandle" ∧ yX6_finishEldest.cls ≠ "java/lang/invoke/VarHandle" ∧ (parseMethodDescriptor yX6_finishEldest.desc).map (fun d => d.parameters.length) = some 0 := by decide +kernel
def k_X6_finishEldest (S : gs_F) : gs_F :=
  gq_lt (k_X4_takeEldest (gF_queue S)) (fun r1 =>
  gq_lt (sF_queue S r1.2) (fun s2 =>
  gq_lt (k_X4_addressOf (gF_queue s2) r1.1) (fun v3 =>
  gq_lt (k_X3_part (gF_prog s2) v3 0) (fun v4 =>
  gq_lt (k_X0_turns (gF_core s2, gF_prog s2) v3) (fun b5 =>
  if v4 = 11 then
    gq_lt (k_X6_noteDone s2 v3 v4) (fun s6 =>
    gq_lt (k_X6_endRun s6 1) (fun s7 =>
    s7))
  else
    gq_lt (k_X0_perform (gF_core s2, gF_prog s2) v3) (fun r8 =>
    gq_lt (sF_prog (sF_core s2 r8.2.1) r8.2.2) (fun s9 =>
    if r8.1 = (-1) then
      gq_lt (k_X6_endRun s9 2) (fun s10 =>
      s10)
    else
      gq_lt (k_X6_noteDone s9 v3 v4) (fun s11 =>
      if k_X6_isBranch v4 = true then
        gq_lt (sF_gues s11 (k_X1_learn (gF_gues s11) v3 (k_X4_historyOf (gF_queue s11) r1.1) b5)) (fun s12 =>
        if b5 = true then
          gq_lt (sF_gues s12 (k_X1_noteTarget (gF_gues s12) v3 v4 r8.1)) (fun s13 =>
          if r8.1 = k_X4_guessOf (gF_queue s13) r1.1 then
            s13
          else
            gq_lt (k_X6_goBack s13 r1.1 v4 b5 r8.1) (fun s14 =>
            s14))
        else
          if r8.1 = k_X4_guessOf (gF_queue s12) r1.1 then
            s12
          else
            gq_lt (k_X6_goBack s12 r1.1 v4 b5 r8.1) (fun s15 =>
            s15))
      else
        if b5 = true then
          gq_lt (sF_gues s11 (k_X1_noteTarget (gF_gues s11) v3 v4 r8.1)) (fun s16 =>
          if r8.1 = k_X4_guessOf (gF_queue s16) r1.1 then
            s16
          else
            gq_lt (k_X6_goBack s16 r1.1 v4 b5 r8.1) (fun s17 =>
            s17))
        else
          if r8.1 = k_X4_guessOf (gF_queue s11) r1.1 then
            s11
          else
            gq_lt (k_X6_goBack s11 r1.1 v4 b5 r8.1) (fun s18 =>
            s18)))))))))
set_option maxHeartbeats 4000000 in
set_option maxRecDepth 100000 in
theorem c_X6_finishEldest (l : Launch) (D : va_G) (cA : ClassId) (a : Nat → Nat) (S : gs_F)  : gq_C l yX6_finishEldest wsX6_finishEldest ({ frames := 5, cells := 0, slots := 0, locals := 110 } : Room) D cA [.ref (a 0)] (gw_GF cA a S) (none) (gw_GF cA a (k_X6_finishEldest S)) := by
  refine gq_openf (own := RX6) (lv := [(0, .ref (a 0))]) (fun r : gs_F => (none, gw_GF cA a r)) (k_X6_finishEldest S) (by decide) rfl rfl (Nat.le_of_ble_eq_true rfl) rfl rfl rfl (fun p e s m args below meth c A X => ?_)
  unfold k_X6_finishEldest
  refine gq_aload_n X dX6_finishEldest_0 0 rfl ?_
  refine gq_get (C := RX6) (T := TX6) (N := 10) X iX6_finishEldest_X6 0 gl_GF_c0 rfl 3 (by decide) fX6_finishEldest_X6_3 rfl dX6_finishEldest_1 ?_
  refine gq_letr (fun r1 er1 => ?_)
  refine gq_letr (fun s2 es2 => ?_)
  refine gq_callVr (ws' := gw_GF cA a s2) X (gq_Ceq (res2 := some (Value.int r1.1)) (w2 := gw_Que cA (a 26) (a 27) (a 28) (a 29) (a 30) (a 31) (a 32) (a 33) (a 34) (a 35) (a 36) (a 37) (a 38) r1.2) (c_X4_takeEldest l D cA (a 26) (a 27) (a 28) (a 29) (a 30) (a 31) (a 32) (a 33) (a 34) (a 35) (a 36) (a 37) (a 38) (gF_queue S)) (by rw [er1]) (by rw [er1])) rfl ⟨rfl, rfl⟩ ⟨Nat.le_of_ble_eq_true rfl, Nat.le_of_ble_eq_true rfl⟩ gX6_finishEldest_X4_takeEldest hv_X4_takeEldest 26 rfl rfl [26, 27, 28, 29, 30, 31, 32, 33, 34, 35, 36, 37, 38] gl_GF_26_at gl_GF_26_nd gl_Que_fst (by rw [es2]; exact gl_GF_26_set) rfl rfl (Nat.le_of_ble_eq_true rfl) ⟨Nat.zero_le _, Nat.zero_le _⟩ dX6_finishEldest_4 ?_
  refine gq_istore_n (lv' := [(1, .int r1.1), (0, .ref (a 0))]) X dX6_finishEldest_7 (by decide) rfl ?_
  refine gq_aload_n X dX6_finishEldest_8 1 rfl ?_
  refine gq_get (C := RX6) (T := TX6) (N := 10) X iX6_finishEldest_X6 0 gl_GF_c0 rfl 3 (by decide) fX6_finishEldest_X6_3 rfl dX6_finishEldest_9 ?_
  refine gq_iload_n X dX6_finishEldest_12 0 rfl ?_
  refine gq_callVr (ws' := gw_GF cA a s2) X (c_X4_addressOf l D cA (a 26) (a 27) (a 28) (a 29) (a 30) (a 31) (a 32) (a 33) (a 34) (a 35) (a 36) (a 37) (a 38) (gF_queue s2) r1.1) rfl ⟨rfl, rfl⟩ ⟨Nat.le_of_ble_eq_true rfl, Nat.le_of_ble_eq_true rfl⟩ gX6_finishEldest_X4_addressOf hv_X4_addressOf 26 rfl rfl [26, 27, 28, 29, 30, 31, 32, 33, 34, 35, 36, 37, 38] gl_GF_26_at gl_GF_26_nd gl_Que_fst gl_GF_26_same rfl rfl (Nat.le_of_ble_eq_true rfl) ⟨Nat.zero_le _, Nat.zero_le _⟩ dX6_finishEldest_13 ?_
  refine gq_letr (fun v3 ev3 => ?_)
  refine gq_eqst (st' := .int v3 :: _) (by rw [ev3]) ?_
  refine gq_istore_n (lv' := [(2, .int v3), (1, .int r1.1), (0, .ref (a 0))]) X dX6_finishEldest_16 (by decide) rfl ?_
  refine gq_aload_n X dX6_finishEldest_17 2 rfl ?_
  refine gq_get (C := RX6) (T := TX6) (N := 10) X iX6_finishEldest_X6 0 gl_GF_c0 rfl 0 (by decide) fX6_finishEldest_X6_0 rfl dX6_finishEldest_18 ?_
  refine gq_iload_n X dX6_finishEldest_21 0 rfl ?_
  refine gq_iconst (v := 0) X dX6_finishEldest_22 gq_i0 ?_
  refine gq_callVr (ws' := gw_GF cA a s2) X (c_X3_part l D cA (a 1) (a 2) (a 3) (gF_prog s2) v3 0) rfl ⟨rfl, rfl⟩ ⟨Nat.le_of_ble_eq_true rfl, Nat.le_of_ble_eq_true rfl⟩ gX6_finishEldest_X3_part hv_X3_part 1 rfl rfl [1, 2, 3] gl_GF_1_at gl_GF_1_nd gl_Prog_fst gl_GF_1_same rfl rfl (Nat.le_of_ble_eq_true rfl) ⟨Nat.zero_le _, Nat.zero_le _⟩ dX6_finishEldest_23 ?_
  refine gq_letr (fun v4 ev4 => ?_)
  refine gq_eqst (st' := .int v4 :: _) (by rw [ev4]) ?_
  refine gq_istore_n (lv' := [(3, .int v4), (2, .int v3), (1, .int r1.1), (0, .ref (a 0))]) X dX6_finishEldest_26 (by decide) rfl ?_
  refine gq_aload_n X dX6_finishEldest_27 3 rfl ?_
  refine gq_get (C := RX6) (T := TX6) (N := 10) X iX6_finishEldest_X6 0 gl_GF_c0 rfl 1 (by decide) fX6_finishEldest_X6_1 rfl dX6_finishEldest_28 ?_
  refine gq_aload_n X dX6_finishEldest_31 3 rfl ?_
  refine gq_get (C := RX6) (T := TX6) (N := 10) X iX6_finishEldest_X6 0 gl_GF_c0 rfl 0 (by decide) fX6_finishEldest_X6_0 rfl dX6_finishEldest_32 ?_
  refine gq_iload_n X dX6_finishEldest_35 1 rfl ?_
  refine gq_callVr (ws' := gw_GF cA a s2) X (c_X0_turns l D cA (a 4) (a 5) (a 6) (a 7) (a 8) (a 9) (a 10) (a 1) (a 2) (a 3) (gF_core s2, gF_prog s2) v3) rfl ⟨rfl, rfl⟩ ⟨Nat.le_of_ble_eq_true rfl, Nat.le_of_ble_eq_true rfl⟩ gX6_finishEldest_X0_turns hv_X0_turns 4 rfl rfl [4, 5, 6, 7, 8, 9, 10, 1, 2, 3] gl_GF_pair_4_1_at gl_GF_pair_4_1_nd gl_CoreProg_fst gl_GF_pair_4_1_same rfl rfl (Nat.le_of_ble_eq_true rfl) ⟨Nat.zero_le _, Nat.zero_le _⟩ dX6_finishEldest_36 ?_
  refine gq_letr (fun b5 eb5 => ?_)
  refine gq_eqst (st' := .int (gq_b b5) :: _) (by rw [eb5]) ?_
  refine gq_istore (lv' := [(4, .int (gq_b b5)), (3, .int v4), (2, .int v3), (1, .int r1.1), (0, .ref (a 0))]) X dX6_finishEldest_39 (by decide) rfl ?_
  refine gq_iload_n X dX6_finishEldest_41 1 rfl ?_
  refine gq_bipush (v := 11) X dX6_finishEldest_42 (by decide) ?_
  refine gq_ficmp_ne (tgt := 51) X dX6_finishEldest_44 (by decide) (fun h44 => ?_) (fun h44 => ?_)
  · refine gq_iconst (v := (-1)) X dX6_finishEldest_47 gq_im1 ?_
    refine gq_goto (tgt := 63) X dX6_finishEldest_48 (by decide) ?_
    refine gq_istore (lv' := [(5, .int (-1)), (4, .int (gq_b b5)), (3, .int v4), (2, .int v3), (1, .int r1.1), (0, .ref (a 0))]) X dX6_finishEldest_63 (by decide) rfl ?_
    refine gq_iload X dX6_finishEldest_65 0 rfl ?_
    refine gq_iconst (v := (-1)) X dX6_finishEldest_67 gq_im1 ?_
    refine gq_icmp_ne (tgt := 83) X dX6_finishEldest_68 (by decide) (fun h => absurd (by decide) h) (fun _ => ?_)
    refine gq_iload_n X dX6_finishEldest_71 2 rfl ?_
    refine gq_bipush (v := 11) X dX6_finishEldest_72 (by decide) ?_
    refine gq_icmp_eq (tgt := 83) X dX6_finishEldest_74 (by decide) (fun _ => ?_) (fun h => absurd h44 h)
    refine gq_aload_n X dX6_finishEldest_83 5 rfl ?_
    refine gq_iload_n X dX6_finishEldest_84 3 rfl ?_
    refine gq_iload_n X dX6_finishEldest_85 2 rfl ?_
    refine gq_letr (fun s6 es6 => ?_)
    refine gq_callVv (ws' := gw_GF cA a s6) X (c_X6_noteDone l D cA a s2 v3 v4) rfl ⟨rfl, rfl⟩ ⟨Nat.le_of_ble_eq_true rfl, Nat.le_of_ble_eq_true rfl⟩ gX6_finishEldest_X6_noteDone hv_X6_noteDone 0 gl_GF_c0 rfl [0, 1, 2, 3, 4, 5, 6, 7, 8, 9, 10, 11, 12, 13, 14, 15, 16, 17, 18, 19, 20, 21, 22, 23, 24, 25, 26, 27, 28, 29, 30, 31, 32, 33, 34, 35, 36, 37, 38, 39, 40, 41, 42] gl_GF_self_at gl_GF_self_nd gl_GF_fst (by rw [es6]; exact gl_GF_self_set) rfl rfl (Nat.le_of_ble_eq_true rfl) ⟨Nat.zero_le _, Nat.zero_le _⟩ dX6_finishEldest_86 ?_
    refine gq_iload_n X dX6_finishEldest_89 2 rfl ?_
    refine gq_bipush (v := 11) X dX6_finishEldest_90 (by decide) ?_
    refine gq_icmp_ne (tgt := 101) X dX6_finishEldest_92 (by decide) (fun h => absurd h44 h) (fun _ => ?_)
    refine gq_aload_n X dX6_finishEldest_95 5 rfl ?_
    refine gq_iconst (v := 1) X dX6_finishEldest_96 gq_i1 ?_
    refine gq_letr (fun s7 es7 => ?_)
    refine gq_callVv (ws' := gw_GF cA a s7) X (c_X6_endRun l D cA a s6 1) rfl ⟨rfl, rfl⟩ ⟨Nat.le_of_ble_eq_true rfl, Nat.le_of_ble_eq_true rfl⟩ gX6_finishEldest_X6_endRun hv_X6_endRun 0 gl_GF_c0 rfl [0, 1, 2, 3, 4, 5, 6, 7, 8, 9, 10, 11, 12, 13, 14, 15, 16, 17, 18, 19, 20, 21, 22, 23, 24, 25, 26, 27, 28, 29, 30, 31, 32, 33, 34, 35, 36, 37, 38, 39, 40, 41, 42] gl_GF_self_at gl_GF_self_nd gl_GF_fst (by rw [es7]; exact gl_GF_self_set) rfl rfl (Nat.le_of_ble_eq_true rfl) ⟨Nat.zero_le _, Nat.zero_le _⟩ dX6_finishEldest_97 ?_
    exact gq_vretf X dX6_finishEldest_100 rfl rfl
  · refine gq_aload_n X dX6_finishEldest_51 4 rfl ?_
    refine gq_get (C := RX6) (T := TX6) (N := 10) X iX6_finishEldest_X6 0 gl_GF_c0 rfl 1 (by decide) fX6_finishEldest_X6_1 rfl dX6_finishEldest_52 ?_
    refine gq_aload_n X dX6_finishEldest_55 4 rfl ?_
    refine gq_get (C := RX6) (T := TX6) (N := 10) X iX6_finishEldest_X6 0 gl_GF_c0 rfl 0 (by decide) fX6_finishEldest_X6_0 rfl dX6_finishEldest_56 ?_
    refine gq_iload_n X dX6_finishEldest_59 2 rfl ?_
    refine gq_letr (fun r8 er8 => ?_)
    refine gq_letr (fun s9 es9 => ?_)
    refine gq_callVr (ws' := gw_GF cA a s9) X (gq_Ceq (res2 := some (Value.int r8.1)) (w2 := gw_CoreProg cA (a 4) (a 5) (a 6) (a 7) (a 8) (a 9) (a 10) (a 1) (a 2) (a 3) r8.2) (c_X0_perform l D cA (a 4) (a 5) (a 6) (a 7) (a 8) (a 9) (a 10) (a 1) (a 2) (a 3) (gF_core s2, gF_prog s2) v3) (by rw [er8]) (by rw [er8])) rfl ⟨rfl, rfl⟩ ⟨Nat.le_of_ble_eq_true rfl, Nat.le_of_ble_eq_true rfl⟩ gX6_finishEldest_X0_perform hv_X0_perform 4 rfl rfl [4, 5, 6, 7, 8, 9, 10, 1, 2, 3] gl_GF_pair_4_1_at gl_GF_pair_4_1_nd gl_CoreProg_fst (by rw [es9]; exact gl_GF_pair_4_1_set) rfl rfl (Nat.le_of_ble_eq_true rfl) ⟨Nat.zero_le _, Nat.zero_le _⟩ dX6_finishEldest_60 ?_
    refine gq_istore (lv' := [(5, .int r8.1), (4, .int (gq_b b5)), (3, .int v4), (2, .int v3), (1, .int r1.1), (0, .ref (a 0))]) X dX6_finishEldest_63 (by decide) rfl ?_
    refine gq_iload X dX6_finishEldest_65 0 rfl ?_
    refine gq_iconst (v := (-1)) X dX6_finishEldest_67 gq_im1 ?_
    refine gq_ficmp_ne (tgt := 83) X dX6_finishEldest_68 (by decide) (fun h68 => ?_) (fun h68 => ?_)
    · refine gq_iload_n X dX6_finishEldest_71 2 rfl ?_
      refine gq_bipush (v := 11) X dX6_finishEldest_72 (by decide) ?_
      refine gq_icmp_eq (tgt := 83) X dX6_finishEldest_74 (by decide) (fun h => absurd h h44) (fun _ => ?_)
      refine gq_aload_n X dX6_finishEldest_77 5 rfl ?_
      refine gq_iconst (v := 2) X dX6_finishEldest_78 gq_i2 ?_
      refine gq_letr (fun s10 es10 => ?_)
      refine gq_callVv (ws' := gw_GF cA a s10) X (c_X6_endRun l D cA a s9 2) rfl ⟨rfl, rfl⟩ ⟨Nat.le_of_ble_eq_true rfl, Nat.le_of_ble_eq_true rfl⟩ gX6_finishEldest_X6_endRun hv_X6_endRun 0 gl_GF_c0 rfl [0, 1, 2, 3, 4, 5, 6, 7, 8, 9, 10, 11, 12, 13, 14, 15, 16, 17, 18, 19, 20, 21, 22, 23, 24, 25, 26, 27, 28, 29, 30, 31, 32, 33, 34, 35, 36, 37, 38, 39, 40, 41, 42] gl_GF_self_at gl_GF_self_nd gl_GF_fst (by rw [es10]; exact gl_GF_self_set) rfl rfl (Nat.le_of_ble_eq_true rfl) ⟨Nat.zero_le _, Nat.zero_le _⟩ dX6_finishEldest_79 ?_
      exact gq_vretf X dX6_finishEldest_82 rfl rfl
    · refine gq_aload_n X dX6_finishEldest_83 5 rfl ?_
      refine gq_iload_n X dX6_finishEldest_84 3 rfl ?_
      refine gq_iload_n X dX6_finishEldest_85 2 rfl ?_
      refine gq_letr (fun s11 es11 => ?_)
      refine gq_callVv (ws' := gw_GF cA a s11) X (c_X6_noteDone l D cA a s9 v3 v4) rfl ⟨rfl, rfl⟩ ⟨Nat.le_of_ble_eq_true rfl, Nat.le_of_ble_eq_true rfl⟩ gX6_finishEldest_X6_noteDone hv_X6_noteDone 0 gl_GF_c0 rfl [0, 1, 2, 3, 4, 5, 6, 7, 8, 9, 10, 11, 12, 13, 14, 15, 16, 17, 18, 19, 20, 21, 22, 23, 24, 25, 26, 27, 28, 29, 30, 31, 32, 33, 34, 35, 36, 37, 38, 39, 40, 41, 42] gl_GF_self_at gl_GF_self_nd gl_GF_fst (by rw [es11]; exact gl_GF_self_set) rfl rfl (Nat.le_of_ble_eq_true rfl) ⟨Nat.zero_le _, Nat.zero_le _⟩ dX6_finishEldest_86 ?_
      refine gq_iload_n X dX6_finishEldest_89 2 rfl ?_
      refine gq_bipush (v := 11) X dX6_finishEldest_90 (by decide) ?_
      refine gq_icmp_ne (tgt := 101) X dX6_finishEldest_92 (by decide) (fun _ => ?_) (fun h => absurd h h44)
      refine gq_iload_n X dX6_finishEldest_101 2 rfl ?_
      refine gq_callSr (ws' := gw_GF cA a s11) X (c_X6_isBranch l D cA v4) rfl ⟨rfl, rfl⟩ ⟨Nat.le_of_ble_eq_true rfl, Nat.le_of_ble_eq_true rfl⟩ gX6_finishEldest_X6_isBranch hd_X6_isBranch [] rfl (by decide) rfl rfl rfl rfl (Nat.le_of_ble_eq_true rfl) ⟨Nat.zero_le _, Nat.zero_le _⟩ dX6_finishEldest_102 ?_
      refine gq_fbif_eq (tgt := 126) X dX6_finishEldest_105 (by decide) (fun h105 => ?_) (fun h105 => ?_)
      · refine gq_aload_n X dX6_finishEldest_108 5 rfl ?_
        refine gq_get (C := RX6) (T := TX6) (N := 10) X iX6_finishEldest_X6 0 gl_GF_c0 rfl 2 (by decide) fX6_finishEldest_X6_2 rfl dX6_finishEldest_109 ?_
        refine gq_iload_n X dX6_finishEldest_112 3 rfl ?_
        refine gq_aload_n X dX6_finishEldest_113 5 rfl ?_
        refine gq_get (C := RX6) (T := TX6) (N := 10) X iX6_finishEldest_X6 0 gl_GF_c0 rfl 3 (by decide) fX6_finishEldest_X6_3 rfl dX6_finishEldest_114 ?_
        refine gq_iload_n X dX6_finishEldest_117 4 rfl ?_
        refine gq_callVr (ws' := gw_GF cA a s11) X (c_X4_historyOf l D cA (a 26) (a 27) (a 28) (a 29) (a 30) (a 31) (a 32) (a 33) (a 34) (a 35) (a 36) (a 37) (a 38) (gF_queue s11) r1.1) rfl ⟨rfl, rfl⟩ ⟨Nat.le_of_ble_eq_true rfl, Nat.le_of_ble_eq_true rfl⟩ gX6_finishEldest_X4_historyOf hv_X4_historyOf 26 rfl rfl [26, 27, 28, 29, 30, 31, 32, 33, 34, 35, 36, 37, 38] gl_GF_26_at gl_GF_26_nd gl_Que_fst gl_GF_26_same rfl rfl (Nat.le_of_ble_eq_true rfl) ⟨Nat.zero_le _, Nat.zero_le _⟩ dX6_finishEldest_118 ?_
        refine gq_iload X dX6_finishEldest_121 1 rfl ?_
        refine gq_letr (fun s12 es12 => ?_)
        refine gq_callVv (ws' := gw_GF cA a s12) X (c_X1_learn l D cA (a 11) (a 12) (a 13) (a 14) (a 15) (a 16) (a 17) (a 18) (a 19) (a 20) (a 21) (a 22) (a 23) (a 24) (a 25) (gF_gues s11) v3 (k_X4_historyOf (gF_queue s11) r1.1) b5) rfl ⟨rfl, rfl⟩ ⟨Nat.le_of_ble_eq_true rfl, Nat.le_of_ble_eq_true rfl⟩ gX6_finishEldest_X1_learn hv_X1_learn 11 rfl rfl [11, 12, 13, 14, 15, 16, 17, 18, 19, 20, 21, 22, 23, 24, 25] gl_GF_11_at gl_GF_11_nd gl_Gues_fst (by rw [es12]; exact gl_GF_11_set) rfl rfl (Nat.le_of_ble_eq_true rfl) ⟨Nat.zero_le _, Nat.zero_le _⟩ dX6_finishEldest_123 ?_
        refine gq_iload X dX6_finishEldest_126 1 rfl ?_
        refine gq_fbif_eq (tgt := 142) X dX6_finishEldest_128 (by decide) (fun h128 => ?_) (fun h128 => ?_)
        · refine gq_aload_n X dX6_finishEldest_131 5 rfl ?_
          refine gq_get (C := RX6) (T := TX6) (N := 10) X iX6_finishEldest_X6 0 gl_GF_c0 rfl 2 (by decide) fX6_finishEldest_X6_2 rfl dX6_finishEldest_132 ?_
          refine gq_iload_n X dX6_finishEldest_135 3 rfl ?_
          refine gq_iload_n X dX6_finishEldest_136 2 rfl ?_
          refine gq_iload X dX6_finishEldest_137 0 rfl ?_
          refine gq_letr (fun s13 es13 => ?_)
          refine gq_callVv (ws' := gw_GF cA a s13) X (c_X1_noteTarget l D cA (a 11) (a 12) (a 13) (a 14) (a 15) (a 16) (a 17) (a 18) (a 19) (a 20) (a 21) (a 22) (a 23) (a 24) (a 25) (gF_gues s12) v3 v4 r8.1) rfl ⟨rfl, rfl⟩ ⟨Nat.le_of_ble_eq_true rfl, Nat.le_of_ble_eq_true rfl⟩ gX6_finishEldest_X1_noteTarget hv_X1_noteTarget 11 rfl rfl [11, 12, 13, 14, 15, 16, 17, 18, 19, 20, 21, 22, 23, 24, 25] gl_GF_11_at gl_GF_11_nd gl_Gues_fst (by rw [es13]; exact gl_GF_11_set) rfl rfl (Nat.le_of_ble_eq_true rfl) ⟨Nat.zero_le _, Nat.zero_le _⟩ dX6_finishEldest_139 ?_
          refine gq_iload X dX6_finishEldest_142 0 rfl ?_
          refine gq_aload_n X dX6_finishEldest_144 5 rfl ?_
          refine gq_get (C := RX6) (T := TX6) (N := 10) X iX6_finishEldest_X6 0 gl_GF_c0 rfl 3 (by decide) fX6_finishEldest_X6_3 rfl dX6_finishEldest_145 ?_
          refine gq_iload_n X dX6_finishEldest_148 4 rfl ?_
          refine gq_callVr (ws' := gw_GF cA a s13) X (c_X4_guessOf l D cA (a 26) (a 27) (a 28) (a 29) (a 30) (a 31) (a 32) (a 33) (a 34) (a 35) (a 36) (a 37) (a 38) (gF_queue s13) r1.1) rfl ⟨rfl, rfl⟩ ⟨Nat.le_of_ble_eq_true rfl, Nat.le_of_ble_eq_true rfl⟩ gX6_finishEldest_X4_guessOf hv_X4_guessOf 26 rfl rfl [26, 27, 28, 29, 30, 31, 32, 33, 34, 35, 36, 37, 38] gl_GF_26_at gl_GF_26_nd gl_Que_fst gl_GF_26_same rfl rfl (Nat.le_of_ble_eq_true rfl) ⟨Nat.zero_le _, Nat.zero_le _⟩ dX6_finishEldest_149 ?_
          refine gq_ficmp_eq (tgt := 165) X dX6_finishEldest_152 (by decide) (fun h152 => ?_) (fun h152 => ?_)
          · exact gq_vretf X dX6_finishEldest_165 rfl rfl
          · refine gq_aload_n X dX6_finishEldest_155 5 rfl ?_
            refine gq_iload_n X dX6_finishEldest_156 4 rfl ?_
            refine gq_iload_n X dX6_finishEldest_157 2 rfl ?_
            refine gq_iload X dX6_finishEldest_158 1 rfl ?_
            refine gq_iload X dX6_finishEldest_160 0 rfl ?_
            refine gq_letr (fun s14 es14 => ?_)
            refine gq_callVv (ws' := gw_GF cA a s14) X (c_X6_goBack l D cA a s13 r1.1 v4 b5 r8.1) rfl ⟨rfl, rfl⟩ ⟨Nat.le_of_ble_eq_true rfl, Nat.le_of_ble_eq_true rfl⟩ gX6_finishEldest_X6_goBack hv_X6_goBack 0 gl_GF_c0 rfl [0, 1, 2, 3, 4, 5, 6, 7, 8, 9, 10, 11, 12, 13, 14, 15, 16, 17, 18, 19, 20, 21, 22, 23, 24, 25, 26, 27, 28, 29, 30, 31, 32, 33, 34, 35, 36, 37, 38, 39, 40, 41, 42] gl_GF_self_at gl_GF_self_nd gl_GF_fst (by rw [es14]; exact gl_GF_self_set) rfl rfl (Nat.le_of_ble_eq_true rfl) ⟨Nat.zero_le _, Nat.zero_le _⟩ dX6_finishEldest_162 ?_
            exact gq_vretf X dX6_finishEldest_165 rfl rfl
        · refine gq_iload X dX6_finishEldest_142 0 rfl ?_
          refine gq_aload_n X dX6_finishEldest_144 5 rfl ?_
          refine gq_get (C := RX6) (T := TX6) (N := 10) X iX6_finishEldest_X6 0 gl_GF_c0 rfl 3 (by decide) fX6_finishEldest_X6_3 rfl dX6_finishEldest_145 ?_
          refine gq_iload_n X dX6_finishEldest_148 4 rfl ?_
          refine gq_callVr (ws' := gw_GF cA a s12) X (c_X4_guessOf l D cA (a 26) (a 27) (a 28) (a 29) (a 30) (a 31) (a 32) (a 33) (a 34) (a 35) (a 36) (a 37) (a 38) (gF_queue s12) r1.1) rfl ⟨rfl, rfl⟩ ⟨Nat.le_of_ble_eq_true rfl, Nat.le_of_ble_eq_true rfl⟩ gX6_finishEldest_X4_guessOf hv_X4_guessOf 26 rfl rfl [26, 27, 28, 29, 30, 31, 32, 33, 34, 35, 36, 37, 38] gl_GF_26_at gl_GF_26_nd gl_Que_fst gl_GF_26_same rfl rfl (Nat.le_of_ble_eq_true rfl) ⟨Nat.zero_le _, Nat.zero_le _⟩ dX6_finishEldest_149 ?_
          refine gq_ficmp_eq (tgt := 165) X dX6_finishEldest_152 (by decide) (fun h152 => ?_) (fun h152 => ?_)
          · exact gq_vretf X dX6_finishEldest_165 rfl rfl
          · refine gq_aload_n X dX6_finishEldest_155 5 rfl ?_
            refine gq_iload_n X dX6_finishEldest_156 4 rfl ?_
            refine gq_iload_n X dX6_finishEldest_157 2 rfl ?_
            refine gq_iload X dX6_finishEldest_158 1 rfl ?_
            refine gq_iload X dX6_finishEldest_160 0 rfl ?_
            refine gq_letr (fun s15 es15 => ?_)
            refine gq_callVv (ws' := gw_GF cA a s15) X (c_X6_goBack l D cA a s12 r1.1 v4 b5 r8.1) rfl ⟨rfl, rfl⟩ ⟨Nat.le_of_ble_eq_true rfl, Nat.le_of_ble_eq_true rfl⟩ gX6_finishEldest_X6_goBack hv_X6_goBack 0 gl_GF_c0 rfl [0, 1, 2, 3, 4, 5, 6, 7, 8, 9, 10, 11, 12, 13, 14, 15, 16, 17, 18, 19, 20, 21, 22, 23, 24, 25, 26, 27, 28, 29, 30, 31, 32, 33, 34, 35, 36, 37, 38, 39, 40, 41, 42] gl_GF_self_at gl_GF_self_nd gl_GF_fst (by rw [es15]; exact gl_GF_self_set) rfl rfl (Nat.le_of_ble_eq_true rfl) ⟨Nat.zero_le _, Nat.zero_le _⟩ dX6_finishEldest_162 ?_
            exact gq_vretf X dX6_finishEldest_165 rfl rfl
      · refine gq_iload X dX6_finishEldest_126 1 rfl ?_
        refine gq_fbif_eq (tgt := 142) X dX6_finishEldest_128 (by decide) (fun h128 => ?_) (fun h128 => ?_)
        · refine gq_aload_n X dX6_finishEldest_131 5 rfl ?_
          refine gq_get (C := RX6) (T := TX6) (N := 10) X iX6_finishEldest_X6 0 gl_GF_c0 rfl 2 (by decide) fX6_finishEldest_X6_2 rfl dX6_finishEldest_132 ?_
          refine gq_iload_n X dX6_finishEldest_135 3 rfl ?_
          refine gq_iload_n X dX6_finishEldest_136 2 rfl ?_
          refine gq_iload X dX6_finishEldest_137 0 rfl ?_
          refine gq_letr (fun s16 es16 => ?_)
          refine gq_callVv (ws' := gw_GF cA a s16) X (c_X1_noteTarget l D cA (a 11) (a 12) (a 13) (a 14) (a 15) (a 16) (a 17) (a 18) (a 19) (a 20) (a 21) (a 22) (a 23) (a 24) (a 25) (gF_gues s11) v3 v4 r8.1) rfl ⟨rfl, rfl⟩ ⟨Nat.le_of_ble_eq_true rfl, Nat.le_of_ble_eq_true rfl⟩ gX6_finishEldest_X1_noteTarget hv_X1_noteTarget 11 rfl rfl [11, 12, 13, 14, 15, 16, 17, 18, 19, 20, 21, 22, 23, 24, 25] gl_GF_11_at gl_GF_11_nd gl_Gues_fst (by rw [es16]; exact gl_GF_11_set) rfl rfl (Nat.le_of_ble_eq_true rfl) ⟨Nat.zero_le _, Nat.zero_le _⟩ dX6_finishEldest_139 ?_
          refine gq_iload X dX6_finishEldest_142 0 rfl ?_
          refine gq_aload_n X dX6_finishEldest_144 5 rfl ?_
          refine gq_get (C := RX6) (T := TX6) (N := 10) X iX6_finishEldest_X6 0 gl_GF_c0 rfl 3 (by decide) fX6_finishEldest_X6_3 rfl dX6_finishEldest_145 ?_
          refine gq_iload_n X dX6_finishEldest_148 4 rfl ?_
          refine gq_callVr (ws' := gw_GF cA a s16) X (c_X4_guessOf l D cA (a 26) (a 27) (a 28) (a 29) (a 30) (a 31) (a 32) (a 33) (a 34) (a 35) (a 36) (a 37) (a 38) (gF_queue s16) r1.1) rfl ⟨rfl, rfl⟩ ⟨Nat.le_of_ble_eq_true rfl, Nat.le_of_ble_eq_true rfl⟩ gX6_finishEldest_X4_guessOf hv_X4_guessOf 26 rfl rfl [26, 27, 28, 29, 30, 31, 32, 33, 34, 35, 36, 37, 38] gl_GF_26_at gl_GF_26_nd gl_Que_fst gl_GF_26_same rfl rfl (Nat.le_of_ble_eq_true rfl) ⟨Nat.zero_le _, Nat.zero_le _⟩ dX6_finishEldest_149 ?_
          refine gq_ficmp_eq (tgt := 165) X dX6_finishEldest_152 (by decide) (fun h152 => ?_) (fun h152 => ?_)
          · exact gq_vretf X dX6_finishEldest_165 rfl rfl
          · refine gq_aload_n X dX6_finishEldest_155 5 rfl ?_
            refine gq_iload_n X dX6_finishEldest_156 4 rfl ?_
            refine gq_iload_n X dX6_finishEldest_157 2 rfl ?_
            refine gq_iload X dX6_finishEldest_158 1 rfl ?_
            refine gq_iload X dX6_finishEldest_160 0 rfl ?_
            refine gq_letr (fun s17 es17 => ?_)
            refine gq_callVv (ws' := gw_GF cA a s17) X (c_X6_goBack l D cA a s16 r1.1 v4 b5 r8.1) rfl ⟨rfl, rfl⟩ ⟨Nat.le_of_ble_eq_true rfl, Nat.le_of_ble_eq_true rfl⟩ gX6_finishEldest_X6_goBack hv_X6_goBack 0 gl_GF_c0 rfl [0, 1, 2, 3, 4, 5, 6, 7, 8, 9, 10, 11, 12, 13, 14, 15, 16, 17, 18, 19, 20, 21, 22, 23, 24, 25, 26, 27, 28, 29, 30, 31, 32, 33, 34, 35, 36, 37, 38, 39, 40, 41, 42] gl_GF_self_at gl_GF_self_nd gl_GF_fst (by rw [es17]; exact gl_GF_self_set) rfl rfl (Nat.le_of_ble_eq_true rfl) ⟨Nat.zero_le _, Nat.zero_le _⟩ dX6_finishEldest_162 ?_
            exact gq_vretf X dX6_finishEldest_165 rfl rfl
        · refine gq_iload X dX6_finishEldest_142 0 rfl ?_
          refine gq_aload_n X dX6_finishEldest_144 5 rfl ?_
          refine gq_get (C := RX6) (T := TX6) (N := 10) X iX6_finishEldest_X6 0 gl_GF_c0 rfl 3 (by decide) fX6_finishEldest_X6_3 rfl dX6_finishEldest_145 ?_
          refine gq_iload_n X dX6_finishEldest_148 4 rfl ?_
          refine gq_callVr (ws' := gw_GF cA a s11) X (c_X4_guessOf l D cA (a 26) (a 27) (a 28) (a 29) (a 30) (a 31) (a 32) (a 33) (a 34) (a 35) (a 36) (a 37) (a 38) (gF_queue s11) r1.1) rfl ⟨rfl, rfl⟩ ⟨Nat.le_of_ble_eq_true rfl, Nat.le_of_ble_eq_true rfl⟩ gX6_finishEldest_X4_guessOf hv_X4_guessOf 26 rfl rfl [26, 27, 28, 29, 30, 31, 32, 33, 34, 35, 36, 37, 38] gl_GF_26_at gl_GF_26_nd gl_Que_fst gl_GF_26_same rfl rfl (Nat.le_of_ble_eq_true rfl) ⟨Nat.zero_le _, Nat.zero_le _⟩ dX6_finishEldest_149 ?_
          refine gq_ficmp_eq (tgt := 165) X dX6_finishEldest_152 (by decide) (fun h152 => ?_) (fun h152 => ?_)
          · exact gq_vretf X dX6_finishEldest_165 rfl rfl
          · refine gq_aload_n X dX6_finishEldest_155 5 rfl ?_
            refine gq_iload_n X dX6_finishEldest_156 4 rfl ?_
            refine gq_iload_n X dX6_finishEldest_157 2 rfl ?_
            refine gq_iload X dX6_finishEldest_158 1 rfl ?_
            refine gq_iload X dX6_finishEldest_160 0 rfl ?_
            refine gq_letr (fun s18 es18 => ?_)
            refine gq_callVv (ws' := gw_GF cA a s18) X (c_X6_goBack l D cA a s11 r1.1 v4 b5 r8.1) rfl ⟨rfl, rfl⟩ ⟨Nat.le_of_ble_eq_true rfl, Nat.le_of_ble_eq_true rfl⟩ gX6_finishEldest_X6_goBack hv_X6_goBack 0 gl_GF_c0 rfl [0, 1, 2, 3, 4, 5, 6, 7, 8, 9, 10, 11, 12, 13, 14, 15, 16, 17, 18, 19, 20, 21, 22, 23, 24, 25, 26, 27, 28, 29, 30, 31, 32, 33, 34, 35, 36, 37, 38, 39, 40, 41, 42] gl_GF_self_at gl_GF_self_nd gl_GF_fst (by rw [es18]; exact gl_GF_self_set) rfl rfl (Nat.le_of_ble_eq_true rfl) ⟨Nat.zero_le _, Nat.zero_le _⟩ dX6_finishEldest_162 ?_
            exact gq_vretf X dX6_finishEldest_165 rfl rfl
theorem iX6_fetchAtPlace_X6 : ∀ w ∈ u_ws RX6 TX6 10, w ∈ wsX6_fetchAtPlace := by decide +kernel
theorem fX6_fetchAtPlace_X6_2 : Cond.fieldLink RX6 26 (TX6 2).1 (TX6 2).2.1 (TX6 2).2.2.1 ∈ wsX6_fetchAtPlace := by decide +kernel
theorem fX6_fetchAtPlace_X6_3 : Cond.fieldLink RX6 33 (TX6 3).1 (TX6 3).2.1 (TX6 3).2.2.1 ∈ wsX6_fetchAtPlace := by decide +kernel
theorem fX6_fetchAtPlace_X6_4 : Cond.fieldLink RX6 42 (TX6 4).1 (TX6 4).2.1 (TX6 4).2.2.1 ∈ wsX6_fetchAtPlace := by decide +kernel
theorem fX6_fetchAtPlace_X6_6 : Cond.fieldLink RX6 53 (TX6 6).1 (TX6 6).2.1 (TX6 6).2.2.1 ∈ wsX6_fetchAtPlace := by decide +kernel
theorem fX6_fetchAtPlace_X6_8 : Cond.fieldLink RX6 60 (TX6 8).1 (TX6 8).2.1 (TX6 8).2.2.1 ∈ wsX6_fetchAtPlace := by decide +kernel
theorem hv_X6_fetchAtPlace : yX6_fetchAtPlace.cls = RX6 ∧ yX6_fetchAtPlace.cls ≠ "java/lang/invoke/MethodHandle" ∧ yX6_fetchAtPlace.cls ≠ "java/lang/invoke/VarHandle" ∧ (parseMethodDescriptor yX6_fetchAtPlace.desc).map (fun d => d.parameters.length) = some 0 := by decide +kernel
def k_X6_fetchAtPlace (S : gs_F) : gs_F :=
  gq_lt (k_X4_add (gF_queue S) (gF_place S) (k_X5_get 18 (gF_counts S) 0)) (fun r1 =>
  gq_lt (sF_queue S r1.2) (fun s2 =>
  gq_lt (k_X4_keep (gF_queue s2, (gF_gues s2).2.2.2.2.2.2.1) r1.1 (k_X1_history (gF_gues s2))) (fun r3 =>
  gq_lt (sF_gues (sF_queue s2 r3.1) ((gF_gues (sF_queue s2 r3.1)).1, (gF_gues (sF_queue s2 r3.1)).2.1, (gF_gues (sF_queue s2 r3.1)).2.2.1, (gF_gues (sF_queue s2 r3.1)).2.2.2.1, (gF_gues (sF_queue s2 r3.1)).2.2.2.2.1, (gF_gues (sF_queue s2 r3.1)).2.2.2.2.2.1, r3.2, (gF_gues (sF_queue s2 r3.1)).2.2.2.2.2.2.2)) (fun s4 =>
  if k_X1_isInTargets (gF_gues s4) (gF_place s4) = true then
    gq_lt (sF_counts s4 (k_X5_add 18 (gF_counts s4) 8 1)) (fun s5 =>
    gq_lt (k_X1_guess (gF_gues s5) (gF_place s5) (gF_way s5)) (fun r6 =>
    gq_lt (sF_gues s5 r6.2) (fun s7 =>
    gq_lt (sF_place s7 r6.1) (fun s8 =>
    gq_lt (sF_queue s8 (k_X4_setGuess (gF_queue s8) r1.1 (gF_place s8))) (fun s9 =>
    s9)))))
  else
    gq_lt (k_X1_guess (gF_gues s4) (gF_place s4) (gF_way s4)) (fun r10 =>
    gq_lt (sF_gues s4 r10.2) (fun s11 =>
    gq_lt (sF_place s11 r10.1) (fun s12 =>
    gq_lt (sF_queue s12 (k_X4_setGuess (gF_queue s12) r1.1 (gF_place s12))) (fun s13 =>
    s13))))))))
set_option maxHeartbeats 4000000 in
set_option maxRecDepth 100000 in
theorem c_X6_fetchAtPlace (l : Launch) (D : va_G) (cA : ClassId) (a : Nat → Nat) (S : gs_F)  : gq_C l yX6_fetchAtPlace wsX6_fetchAtPlace ({ frames := 4, cells := 0, slots := 0, locals := 89 } : Room) D cA [.ref (a 0)] (gw_GF cA a S) (none) (gw_GF cA a (k_X6_fetchAtPlace S)) := by
  refine gq_openf (own := RX6) (lv := [(0, .ref (a 0))]) (fun r : gs_F => (none, gw_GF cA a r)) (k_X6_fetchAtPlace S) (by decide) rfl rfl (Nat.le_of_ble_eq_true rfl) rfl rfl rfl (fun p e s m args below meth c A X => ?_)
  unfold k_X6_fetchAtPlace
  refine gq_aload_n X dX6_fetchAtPlace_0 0 rfl ?_
  refine gq_get (C := RX6) (T := TX6) (N := 10) X iX6_fetchAtPlace_X6 0 gl_GF_c0 rfl 3 (by decide) fX6_fetchAtPlace_X6_3 rfl dX6_fetchAtPlace_1 ?_
  refine gq_aload_n X dX6_fetchAtPlace_4 0 rfl ?_
  refine gq_get (C := RX6) (T := TX6) (N := 10) X iX6_fetchAtPlace_X6 0 gl_GF_c0 rfl 8 (by decide) fX6_fetchAtPlace_X6_8 rfl dX6_fetchAtPlace_5 ?_
  refine gq_aload_n X dX6_fetchAtPlace_8 0 rfl ?_
  refine gq_get (C := RX6) (T := TX6) (N := 10) X iX6_fetchAtPlace_X6 0 gl_GF_c0 rfl 4 (by decide) fX6_fetchAtPlace_X6_4 rfl dX6_fetchAtPlace_9 ?_
  refine gq_iconst (v := 0) X dX6_fetchAtPlace_12 gq_i0 ?_
  refine gq_callVr (ws' := gw_GF cA a S) X (c_X5_get l D cA (a 39) (a 40) 18 (by decide) (gF_counts S) 0) rfl ⟨rfl, rfl⟩ ⟨Nat.le_of_ble_eq_true rfl, Nat.le_of_ble_eq_true rfl⟩ gX6_fetchAtPlace_X5_get hv_X5_get 39 rfl rfl [39, 40] gl_GF_39_at gl_GF_39_nd gl_Row_fst gl_GF_39_same rfl rfl (Nat.le_of_ble_eq_true rfl) ⟨Nat.zero_le _, Nat.zero_le _⟩ dX6_fetchAtPlace_13 ?_
  refine gq_letr (fun r1 er1 => ?_)
  refine gq_letr (fun s2 es2 => ?_)
  refine gq_callVr (ws' := gw_GF cA a s2) X (gq_Ceq (res2 := some (Value.int r1.1)) (w2 := gw_Que cA (a 26) (a 27) (a 28) (a 29) (a 30) (a 31) (a 32) (a 33) (a 34) (a 35) (a 36) (a 37) (a 38) r1.2) (c_X4_add l D cA (a 26) (a 27) (a 28) (a 29) (a 30) (a 31) (a 32) (a 33) (a 34) (a 35) (a 36) (a 37) (a 38) (gF_queue S) (gF_place S) (k_X5_get 18 (gF_counts S) 0)) (by rw [er1]) (by rw [er1])) rfl ⟨rfl, rfl⟩ ⟨Nat.le_of_ble_eq_true rfl, Nat.le_of_ble_eq_true rfl⟩ gX6_fetchAtPlace_X4_add hv_X4_add 26 rfl rfl [26, 27, 28, 29, 30, 31, 32, 33, 34, 35, 36, 37, 38] gl_GF_26_at gl_GF_26_nd gl_Que_fst (by rw [es2]; exact gl_GF_26_set) rfl rfl (Nat.le_of_ble_eq_true rfl) ⟨Nat.zero_le _, Nat.zero_le _⟩ dX6_fetchAtPlace_16 ?_
  refine gq_istore_n (lv' := [(1, .int r1.1), (0, .ref (a 0))]) X dX6_fetchAtPlace_19 (by decide) rfl ?_
  refine gq_aload_n X dX6_fetchAtPlace_20 1 rfl ?_
  refine gq_get (C := RX6) (T := TX6) (N := 10) X iX6_fetchAtPlace_X6 0 gl_GF_c0 rfl 3 (by decide) fX6_fetchAtPlace_X6_3 rfl dX6_fetchAtPlace_21 ?_
  refine gq_iload_n X dX6_fetchAtPlace_24 0 rfl ?_
  refine gq_aload_n X dX6_fetchAtPlace_25 1 rfl ?_
  refine gq_get (C := RX6) (T := TX6) (N := 10) X iX6_fetchAtPlace_X6 0 gl_GF_c0 rfl 2 (by decide) fX6_fetchAtPlace_X6_2 rfl dX6_fetchAtPlace_26 ?_
  refine gq_callVr (ws' := gw_GF cA a s2) X (c_X1_history l D cA (a 11) (a 12) (a 13) (a 14) (a 15) (a 16) (a 17) (a 18) (a 19) (a 20) (a 21) (a 22) (a 23) (a 24) (a 25) (gF_gues s2)) rfl ⟨rfl, rfl⟩ ⟨Nat.le_of_ble_eq_true rfl, Nat.le_of_ble_eq_true rfl⟩ gX6_fetchAtPlace_X1_history hv_X1_history 11 rfl rfl [11, 12, 13, 14, 15, 16, 17, 18, 19, 20, 21, 22, 23, 24, 25] gl_GF_11_at gl_GF_11_nd gl_Gues_fst gl_GF_11_same rfl rfl (Nat.le_of_ble_eq_true rfl) ⟨Nat.zero_le _, Nat.zero_le _⟩ dX6_fetchAtPlace_29 ?_
  refine gq_aload_n X dX6_fetchAtPlace_32 1 rfl ?_
  refine gq_get (C := RX6) (T := TX6) (N := 10) X iX6_fetchAtPlace_X6 0 gl_GF_c0 rfl 2 (by decide) fX6_fetchAtPlace_X6_2 rfl dX6_fetchAtPlace_33 ?_
  refine gq_callVr (ws' := gw_GF cA a s2) X (gq_Ceq (res2 := some (Value.ref (a 24))) (c_X1_returns l D cA (a 11) (a 12) (a 13) (a 14) (a 15) (a 16) (a 17) (a 18) (a 19) (a 20) (a 21) (a 22) (a 23) (a 24) (a 25) (gF_gues s2)) rfl rfl) rfl ⟨rfl, rfl⟩ ⟨Nat.le_of_ble_eq_true rfl, Nat.le_of_ble_eq_true rfl⟩ gX6_fetchAtPlace_X1_returns hv_X1_returns 11 rfl rfl [11, 12, 13, 14, 15, 16, 17, 18, 19, 20, 21, 22, 23, 24, 25] gl_GF_11_at gl_GF_11_nd gl_Gues_fst gl_GF_11_same rfl rfl (Nat.le_of_ble_eq_true rfl) ⟨Nat.zero_le _, Nat.zero_le _⟩ dX6_fetchAtPlace_36 ?_
  refine gq_letr (fun r3 er3 => ?_)
  refine gq_letr (fun s4 es4 => ?_)
  refine gq_callVv (ws' := gw_GF cA a s4) X (gq_Ceq (res2 := none) (w2 := gw_QuePile cA (a 26) (a 27) (a 28) (a 29) (a 30) (a 31) (a 32) (a 33) (a 34) (a 35) (a 36) (a 37) (a 38) (a 24) (a 25) r3) (c_X4_keep l D cA (a 26) (a 27) (a 28) (a 29) (a 30) (a 31) (a 32) (a 33) (a 34) (a 35) (a 36) (a 37) (a 38) (a 24) (a 25) (gF_queue s2, (gF_gues s2).2.2.2.2.2.2.1) r1.1 (k_X1_history (gF_gues s2))) rfl (by rw [er3])) rfl ⟨rfl, rfl⟩ ⟨Nat.le_of_ble_eq_true rfl, Nat.le_of_ble_eq_true rfl⟩ gX6_fetchAtPlace_X4_keep hv_X4_keep 26 rfl rfl [26, 27, 28, 29, 30, 31, 32, 33, 34, 35, 36, 37, 38, 24, 25] gl_GF_pair_26_24_at gl_GF_pair_26_24_nd gl_QuePile_fst (by rw [es4]; exact gl_GF_pair_26_24_set) rfl rfl (Nat.le_of_ble_eq_true rfl) ⟨Nat.zero_le _, Nat.zero_le _⟩ dX6_fetchAtPlace_39 ?_
  refine gq_aload_n X dX6_fetchAtPlace_42 1 rfl ?_
  refine gq_get (C := RX6) (T := TX6) (N := 10) X iX6_fetchAtPlace_X6 0 gl_GF_c0 rfl 2 (by decide) fX6_fetchAtPlace_X6_2 rfl dX6_fetchAtPlace_43 ?_
  refine gq_aload_n X dX6_fetchAtPlace_46 1 rfl ?_
  refine gq_get (C := RX6) (T := TX6) (N := 10) X iX6_fetchAtPlace_X6 0 gl_GF_c0 rfl 8 (by decide) fX6_fetchAtPlace_X6_8 rfl dX6_fetchAtPlace_47 ?_
  refine gq_callVr (ws' := gw_GF cA a s4) X (c_X1_isInTargets l D cA (a 11) (a 12) (a 13) (a 14) (a 15) (a 16) (a 17) (a 18) (a 19) (a 20) (a 21) (a 22) (a 23) (a 24) (a 25) (gF_gues s4) (gF_place s4)) rfl ⟨rfl, rfl⟩ ⟨Nat.le_of_ble_eq_true rfl, Nat.le_of_ble_eq_true rfl⟩ gX6_fetchAtPlace_X1_isInTargets hv_X1_isInTargets 11 rfl rfl [11, 12, 13, 14, 15, 16, 17, 18, 19, 20, 21, 22, 23, 24, 25] gl_GF_11_at gl_GF_11_nd gl_Gues_fst gl_GF_11_same rfl rfl (Nat.le_of_ble_eq_true rfl) ⟨Nat.zero_le _, Nat.zero_le _⟩ dX6_fetchAtPlace_50 ?_
  refine gq_fbif_eq (tgt := 66) X dX6_fetchAtPlace_53 (by decide) (fun h53 => ?_) (fun h53 => ?_)
  · refine gq_aload_n X dX6_fetchAtPlace_56 1 rfl ?_
    refine gq_get (C := RX6) (T := TX6) (N := 10) X iX6_fetchAtPlace_X6 0 gl_GF_c0 rfl 4 (by decide) fX6_fetchAtPlace_X6_4 rfl dX6_fetchAtPlace_57 ?_
    refine gq_bipush (v := 8) X dX6_fetchAtPlace_60 (by decide) ?_
    refine gq_iconst (v := 1) X dX6_fetchAtPlace_62 gq_i1 ?_
    refine gq_letr (fun s5 es5 => ?_)
    refine gq_callVv (ws' := gw_GF cA a s5) X (c_X5_add l D cA (a 39) (a 40) 18 (by decide) (gF_counts s4) 8 1) rfl ⟨rfl, rfl⟩ ⟨Nat.le_of_ble_eq_true rfl, Nat.le_of_ble_eq_true rfl⟩ gX6_fetchAtPlace_X5_add hv_X5_add 39 rfl rfl [39, 40] gl_GF_39_at gl_GF_39_nd gl_Row_fst (by rw [es5]; exact gl_GF_39_set) rfl rfl (Nat.le_of_ble_eq_true rfl) ⟨Nat.zero_le _, Nat.zero_le _⟩ dX6_fetchAtPlace_63 ?_
    refine gq_aload_n X dX6_fetchAtPlace_66 1 rfl ?_
    refine gq_aload_n X dX6_fetchAtPlace_67 1 rfl ?_
    refine gq_get (C := RX6) (T := TX6) (N := 10) X iX6_fetchAtPlace_X6 0 gl_GF_c0 rfl 2 (by decide) fX6_fetchAtPlace_X6_2 rfl dX6_fetchAtPlace_68 ?_
    refine gq_aload_n X dX6_fetchAtPlace_71 1 rfl ?_
    refine gq_get (C := RX6) (T := TX6) (N := 10) X iX6_fetchAtPlace_X6 0 gl_GF_c0 rfl 8 (by decide) fX6_fetchAtPlace_X6_8 rfl dX6_fetchAtPlace_72 ?_
    refine gq_aload_n X dX6_fetchAtPlace_75 1 rfl ?_
    refine gq_get (C := RX6) (T := TX6) (N := 10) X iX6_fetchAtPlace_X6 0 gl_GF_c0 rfl 6 (by decide) fX6_fetchAtPlace_X6_6 rfl dX6_fetchAtPlace_76 ?_
    refine gq_letr (fun r6 er6 => ?_)
    refine gq_letr (fun s7 es7 => ?_)
    refine gq_callVr (ws' := gw_GF cA a s7) X (gq_Ceq (res2 := some (Value.int r6.1)) (w2 := gw_Gues cA (a 11) (a 12) (a 13) (a 14) (a 15) (a 16) (a 17) (a 18) (a 19) (a 20) (a 21) (a 22) (a 23) (a 24) (a 25) r6.2) (c_X1_guess l D cA (a 11) (a 12) (a 13) (a 14) (a 15) (a 16) (a 17) (a 18) (a 19) (a 20) (a 21) (a 22) (a 23) (a 24) (a 25) (gF_gues s5) (gF_place s5) (gF_way s5)) (by rw [er6]) (by rw [er6])) rfl ⟨rfl, rfl⟩ ⟨Nat.le_of_ble_eq_true rfl, Nat.le_of_ble_eq_true rfl⟩ gX6_fetchAtPlace_X1_guess hv_X1_guess 11 rfl rfl [11, 12, 13, 14, 15, 16, 17, 18, 19, 20, 21, 22, 23, 24, 25] gl_GF_11_at gl_GF_11_nd gl_Gues_fst (by rw [es7]; exact gl_GF_11_set) rfl rfl (Nat.le_of_ble_eq_true rfl) ⟨Nat.zero_le _, Nat.zero_le _⟩ dX6_fetchAtPlace_79 ?_
    refine gq_letr (fun s8 es8 => ?_)
    refine gq_put (C := RX6) (T := TX6) (N := 10) (ws' := gw_GF cA a s8) X iX6_fetchAtPlace_X6 tyX6 tyX6_ok nmX6 0 gl_GF_c0 rfl 8 (by decide) fX6_fetchAtPlace_X6_8 rfl rfl rfl (Nat.le_of_ble_eq_true rfl) (by rw [es8]; exact gl_GF_f8) dX6_fetchAtPlace_82 ?_
    refine gq_aload_n X dX6_fetchAtPlace_85 1 rfl ?_
    refine gq_get (C := RX6) (T := TX6) (N := 10) X iX6_fetchAtPlace_X6 0 gl_GF_c0 rfl 3 (by decide) fX6_fetchAtPlace_X6_3 rfl dX6_fetchAtPlace_86 ?_
    refine gq_iload_n X dX6_fetchAtPlace_89 0 rfl ?_
    refine gq_aload_n X dX6_fetchAtPlace_90 1 rfl ?_
    refine gq_get (C := RX6) (T := TX6) (N := 10) X iX6_fetchAtPlace_X6 0 gl_GF_c0 rfl 8 (by decide) fX6_fetchAtPlace_X6_8 rfl dX6_fetchAtPlace_91 ?_
    refine gq_letr (fun s9 es9 => ?_)
    refine gq_callVv (ws' := gw_GF cA a s9) X (c_X4_setGuess l D cA (a 26) (a 27) (a 28) (a 29) (a 30) (a 31) (a 32) (a 33) (a 34) (a 35) (a 36) (a 37) (a 38) (gF_queue s8) r1.1 (gF_place s8)) rfl ⟨rfl, rfl⟩ ⟨Nat.le_of_ble_eq_true rfl, Nat.le_of_ble_eq_true rfl⟩ gX6_fetchAtPlace_X4_setGuess hv_X4_setGuess 26 rfl rfl [26, 27, 28, 29, 30, 31, 32, 33, 34, 35, 36, 37, 38] gl_GF_26_at gl_GF_26_nd gl_Que_fst (by rw [es9]; exact gl_GF_26_set) rfl rfl (Nat.le_of_ble_eq_true rfl) ⟨Nat.zero_le _, Nat.zero_le _⟩ dX6_fetchAtPlace_94 ?_
    exact gq_vretf X dX6_fetchAtPlace_97 rfl rfl
  · refine gq_aload_n X dX6_fetchAtPlace_66 1 rfl ?_
    refine gq_aload_n X dX6_fetchAtPlace_67 1 rfl ?_
    refine gq_get (C := RX6) (T := TX6) (N := 10) X iX6_fetchAtPlace_X6 0 gl_GF_c0 rfl 2 (by decide) fX6_fetchAtPlace_X6_2 rfl dX6_fetchAtPlace_68 ?_
    refine gq_aload_n X dX6_fetchAtPlace_71 1 rfl ?_
    refine gq_get (C := RX6) (T := TX6) (N := 10) X iX6_fetchAtPlace_X6 0 gl_GF_c0 rfl 8 (by decide) fX6_fetchAtPlace_X6_8 rfl dX6_fetchAtPlace_72 ?_
    refine gq_aload_n X dX6_fetchAtPlace_75 1 rfl ?_
    refine gq_get (C := RX6) (T := TX6) (N := 10) X iX6_fetchAtPlace_X6 0 gl_GF_c0 rfl 6 (by decide) fX6_fetchAtPlace_X6_6 rfl dX6_fetchAtPlace_76 ?_
    refine gq_letr (fun r10 er10 => ?_)
    refine gq_letr (fun s11 es11 => ?_)
    refine gq_callVr (ws' := gw_GF cA a s11) X (gq_Ceq (res2 := some (Value.int r10.1)) (w2 := gw_Gues cA (a 11) (a 12) (a 13) (a 14) (a 15) (a 16) (a 17) (a 18) (a 19) (a 20) (a 21) (a 22) (a 23) (a 24) (a 25) r10.2) (c_X1_guess l D cA (a 11) (a 12) (a 13) (a 14) (a 15) (a 16) (a 17) (a 18) (a 19) (a 20) (a 21) (a 22) (a 23) (a 24) (a 25) (gF_gues s4) (gF_place s4) (gF_way s4)) (by rw [er10]) (by rw [er10])) rfl ⟨rfl, rfl⟩ ⟨Nat.le_of_ble_eq_true rfl, Nat.le_of_ble_eq_true rfl⟩ gX6_fetchAtPlace_X1_guess hv_X1_guess 11 rfl rfl [11, 12, 13, 14, 15, 16, 17, 18, 19, 20, 21, 22, 23, 24, 25] gl_GF_11_at gl_GF_11_nd gl_Gues_fst (by rw [es11]; exact gl_GF_11_set) rfl rfl (Nat.le_of_ble_eq_true rfl) ⟨Nat.zero_le _, Nat.zero_le _⟩ dX6_fetchAtPlace_79 ?_
    refine gq_letr (fun s12 es12 => ?_)
    refine gq_put (C := RX6) (T := TX6) (N := 10) (ws' := gw_GF cA a s12) X iX6_fetchAtPlace_X6 tyX6 tyX6_ok nmX6 0 gl_GF_c0 rfl 8 (by decide) fX6_fetchAtPlace_X6_8 rfl rfl rfl (Nat.le_of_ble_eq_true rfl) (by rw [es12]; exact gl_GF_f8) dX6_fetchAtPlace_82 ?_
    refine gq_aload_n X dX6_fetchAtPlace_85 1 rfl ?_
    refine gq_get (C := RX6) (T := TX6) (N := 10) X iX6_fetchAtPlace_X6 0 gl_GF_c0 rfl 3 (by decide) fX6_fetchAtPlace_X6_3 rfl dX6_fetchAtPlace_86 ?_
    refine gq_iload_n X dX6_fetchAtPlace_89 0 rfl ?_
    refine gq_aload_n X dX6_fetchAtPlace_90 1 rfl ?_
    refine gq_get (C := RX6) (T := TX6) (N := 10) X iX6_fetchAtPlace_X6 0 gl_GF_c0 rfl 8 (by decide) fX6_fetchAtPlace_X6_8 rfl dX6_fetchAtPlace_91 ?_
    refine gq_letr (fun s13 es13 => ?_)
    refine gq_callVv (ws' := gw_GF cA a s13) X (c_X4_setGuess l D cA (a 26) (a 27) (a 28) (a 29) (a 30) (a 31) (a 32) (a 33) (a 34) (a 35) (a 36) (a 37) (a 38) (gF_queue s12) r1.1 (gF_place s12)) rfl ⟨rfl, rfl⟩ ⟨Nat.le_of_ble_eq_true rfl, Nat.le_of_ble_eq_true rfl⟩ gX6_fetchAtPlace_X4_setGuess hv_X4_setGuess 26 rfl rfl [26, 27, 28, 29, 30, 31, 32, 33, 34, 35, 36, 37, 38] gl_GF_26_at gl_GF_26_nd gl_Que_fst (by rw [es13]; exact gl_GF_26_set) rfl rfl (Nat.le_of_ble_eq_true rfl) ⟨Nat.zero_le _, Nat.zero_le _⟩ dX6_fetchAtPlace_94 ?_
    exact gq_vretf X dX6_fetchAtPlace_97 rfl rfl
theorem iX6_passCycle_X6 : ∀ w ∈ u_ws RX6 TX6 10, w ∈ wsX6_passCycle := by decide +kernel
theorem fX6_passCycle_X6_0 : Cond.fieldLink RX6 10 (TX6 0).1 (TX6 0).2.1 (TX6 0).2.2.1 ∈ wsX6_passCycle := by decide +kernel
theorem fX6_passCycle_X6_3 : Cond.fieldLink RX6 33 (TX6 3).1 (TX6 3).2.1 (TX6 3).2.2.1 ∈ wsX6_passCycle := by decide +kernel
theorem fX6_passCycle_X6_4 : Cond.fieldLink RX6 42 (TX6 4).1 (TX6 4).2.1 (TX6 4).2.2.1 ∈ wsX6_passCycle := by decide +kernel
theorem fX6_passCycle_X6_7 : Cond.fieldLink RX6 57 (TX6 7).1 (TX6 7).2.1 (TX6 7).2.2.1 ∈ wsX6_passCycle := by decide +kernel
theorem fX6_passCycle_X6_8 : Cond.fieldLink RX6 60 (TX6 8).1 (TX6 8).2.1 (TX6 8).2.2.1 ∈ wsX6_passCycle := by decide +kernel
theorem hv_X6_passCycle : yX6_passCycle.cls = RX6 ∧ yX6_passCycle.cls ≠ "java/lang/invoke/MethodHandle" ∧ yX6_passCycle.cls ≠ "java/lang/invoke/VarHandle" ∧ (parseMethodDescriptor yX6_passCycle.desc).map (fun d => d.parameters.length) = some 0 := by decide +kernel
def k_X6_passCycle (S : gs_F) : gs_F :=
  gq_lt (sF_counts S (k_X5_add 18 (gF_counts S) 0 1)) (fun s1 =>
  if k_X4_size (gF_queue s1) = 0 then
    if k_X3_has (gF_prog s1) (gF_place s1) = true then
      if k_X4_isEldestOf (gF_queue s1) ((k_X5_get 18 (gF_counts s1) 0) - (gF_depth s1)) = true then
        gq_lt (k_X6_finishEldest s1) (fun s2 =>
        if k_X6_isUnderWay s2 = true then
          if k_X3_has (gF_prog s2) (gF_place s2) = true then
            gq_lt (k_X6_fetchAtPlace s2) (fun s3 =>
            s3)
          else
            s2
        else
          s2)
      else
        if k_X6_isUnderWay s1 = true then
          gq_lt (k_X6_fetchAtPlace s1) (fun s4 =>
          s4)
        else
          s1
    else
      gq_lt (k_X6_endRun s1 2) (fun s5 =>
      s5)
  else
    if k_X4_isEldestOf (gF_queue s1) ((k_X5_get 18 (gF_counts s1) 0) - (gF_depth s1)) = true then
      gq_lt (k_X6_finishEldest s1) (fun s6 =>
      if k_X6_isUnderWay s6 = true then
        if k_X3_has (gF_prog s6) (gF_place s6) = true then
          gq_lt (k_X6_fetchAtPlace s6) (fun s7 =>
          s7)
        else
          s6
      else
        s6)
    else
      if k_X6_isUnderWay s1 = true then
        if k_X3_has (gF_prog s1) (gF_place s1) = true then
          gq_lt (k_X6_fetchAtPlace s1) (fun s8 =>
          s8)
        else
          s1
      else
        s1)
set_option maxHeartbeats 4000000 in
set_option maxRecDepth 100000 in
theorem c_X6_passCycle (l : Launch) (D : va_G) (cA : ClassId) (a : Nat → Nat) (S : gs_F)  : gq_C l yX6_passCycle wsX6_passCycle ({ frames := 6, cells := 0, slots := 0, locals := 135 } : Room) D cA [.ref (a 0)] (gw_GF cA a S) (none) (gw_GF cA a (k_X6_passCycle S)) := by
  refine gq_openf (own := RX6) (lv := [(0, .ref (a 0))]) (fun r : gs_F => (none, gw_GF cA a r)) (k_X6_passCycle S) (by decide) rfl rfl (Nat.le_of_ble_eq_true rfl) rfl rfl rfl (fun p e s m args below meth c A X => ?_)
  unfold k_X6_passCycle
  refine gq_aload_n X dX6_passCycle_0 0 rfl ?_
  refine gq_get (C := RX6) (T := TX6) (N := 10) X iX6_passCycle_X6 0 gl_GF_c0 rfl 4 (by decide) fX6_passCycle_X6_4 rfl dX6_passCycle_1 ?_
  refine gq_iconst (v := 0) X dX6_passCycle_4 gq_i0 ?_
  refine gq_iconst (v := 1) X dX6_passCycle_5 gq_i1 ?_
  refine gq_letr (fun s1 es1 => ?_)
  refine gq_callVv (ws' := gw_GF cA a s1) X (c_X5_add l D cA (a 39) (a 40) 18 (by decide) (gF_counts S) 0 1) rfl ⟨rfl, rfl⟩ ⟨Nat.le_of_ble_eq_true rfl, Nat.le_of_ble_eq_true rfl⟩ gX6_passCycle_X5_add hv_X5_add 39 rfl rfl [39, 40] gl_GF_39_at gl_GF_39_nd gl_Row_fst (by rw [es1]; exact gl_GF_39_set) rfl rfl (Nat.le_of_ble_eq_true rfl) ⟨Nat.zero_le _, Nat.zero_le _⟩ dX6_passCycle_6 ?_
  refine gq_aload_n X dX6_passCycle_9 0 rfl ?_
  refine gq_get (C := RX6) (T := TX6) (N := 10) X iX6_passCycle_X6 0 gl_GF_c0 rfl 3 (by decide) fX6_passCycle_X6_3 rfl dX6_passCycle_10 ?_
  refine gq_callVr (ws' := gw_GF cA a s1) X (c_X4_size l D cA (a 26) (a 27) (a 28) (a 29) (a 30) (a 31) (a 32) (a 33) (a 34) (a 35) (a 36) (a 37) (a 38) (gF_queue s1)) rfl ⟨rfl, rfl⟩ ⟨Nat.le_of_ble_eq_true rfl, Nat.le_of_ble_eq_true rfl⟩ gX6_passCycle_X4_size hv_X4_size 26 rfl rfl [26, 27, 28, 29, 30, 31, 32, 33, 34, 35, 36, 37, 38] gl_GF_26_at gl_GF_26_nd gl_Que_fst gl_GF_26_same rfl rfl (Nat.le_of_ble_eq_true rfl) ⟨Nat.zero_le _, Nat.zero_le _⟩ dX6_passCycle_13 ?_
  refine gq_fif_ne (tgt := 39) X dX6_passCycle_16 (by decide) (fun h16 => ?_) (fun h16 => ?_)
  · refine gq_aload_n X dX6_passCycle_19 0 rfl ?_
    refine gq_get (C := RX6) (T := TX6) (N := 10) X iX6_passCycle_X6 0 gl_GF_c0 rfl 0 (by decide) fX6_passCycle_X6_0 rfl dX6_passCycle_20 ?_
    refine gq_aload_n X dX6_passCycle_23 0 rfl ?_
    refine gq_get (C := RX6) (T := TX6) (N := 10) X iX6_passCycle_X6 0 gl_GF_c0 rfl 8 (by decide) fX6_passCycle_X6_8 rfl dX6_passCycle_24 ?_
    refine gq_callVr (ws' := gw_GF cA a s1) X (c_X3_has l D cA (a 1) (a 2) (a 3) (gF_prog s1) (gF_place s1)) rfl ⟨rfl, rfl⟩ ⟨Nat.le_of_ble_eq_true rfl, Nat.le_of_ble_eq_true rfl⟩ gX6_passCycle_X3_has hv_X3_has 1 rfl rfl [1, 2, 3] gl_GF_1_at gl_GF_1_nd gl_Prog_fst gl_GF_1_same rfl rfl (Nat.le_of_ble_eq_true rfl) ⟨Nat.zero_le _, Nat.zero_le _⟩ dX6_passCycle_27 ?_
    refine gq_fbif_ne (tgt := 39) X dX6_passCycle_30 (by decide) (fun h30 => ?_) (fun h30 => ?_)
    · refine gq_aload_n X dX6_passCycle_39 0 rfl ?_
      refine gq_get (C := RX6) (T := TX6) (N := 10) X iX6_passCycle_X6 0 gl_GF_c0 rfl 3 (by decide) fX6_passCycle_X6_3 rfl dX6_passCycle_40 ?_
      refine gq_aload_n X dX6_passCycle_43 0 rfl ?_
      refine gq_get (C := RX6) (T := TX6) (N := 10) X iX6_passCycle_X6 0 gl_GF_c0 rfl 4 (by decide) fX6_passCycle_X6_4 rfl dX6_passCycle_44 ?_
      refine gq_iconst (v := 0) X dX6_passCycle_47 gq_i0 ?_
      refine gq_callVr (ws' := gw_GF cA a s1) X (c_X5_get l D cA (a 39) (a 40) 18 (by decide) (gF_counts s1) 0) rfl ⟨rfl, rfl⟩ ⟨Nat.le_of_ble_eq_true rfl, Nat.le_of_ble_eq_true rfl⟩ gX6_passCycle_X5_get hv_X5_get 39 rfl rfl [39, 40] gl_GF_39_at gl_GF_39_nd gl_Row_fst gl_GF_39_same rfl rfl (Nat.le_of_ble_eq_true rfl) ⟨Nat.zero_le _, Nat.zero_le _⟩ dX6_passCycle_48 ?_
      refine gq_aload_n X dX6_passCycle_51 0 rfl ?_
      refine gq_get (C := RX6) (T := TX6) (N := 10) X iX6_passCycle_X6 0 gl_GF_c0 rfl 7 (by decide) fX6_passCycle_X6_7 rfl dX6_passCycle_52 ?_
      refine gq_isub X dX6_passCycle_55 ?_
      refine gq_callVr (ws' := gw_GF cA a s1) X (c_X4_isEldestOf l D cA (a 26) (a 27) (a 28) (a 29) (a 30) (a 31) (a 32) (a 33) (a 34) (a 35) (a 36) (a 37) (a 38) (gF_queue s1) ((k_X5_get 18 (gF_counts s1) 0) - (gF_depth s1))) rfl ⟨rfl, rfl⟩ ⟨Nat.le_of_ble_eq_true rfl, Nat.le_of_ble_eq_true rfl⟩ gX6_passCycle_X4_isEldestOf hv_X4_isEldestOf 26 rfl rfl [26, 27, 28, 29, 30, 31, 32, 33, 34, 35, 36, 37, 38] gl_GF_26_at gl_GF_26_nd gl_Que_fst gl_GF_26_same rfl rfl (Nat.le_of_ble_eq_true rfl) ⟨Nat.zero_le _, Nat.zero_le _⟩ dX6_passCycle_56 ?_
      refine gq_fbif_eq (tgt := 66) X dX6_passCycle_59 (by decide) (fun h59 => ?_) (fun h59 => ?_)
      · refine gq_aload_n X dX6_passCycle_62 0 rfl ?_
        refine gq_letr (fun s2 es2 => ?_)
        refine gq_callVv (ws' := gw_GF cA a s2) X (c_X6_finishEldest l D cA a s1) rfl ⟨rfl, rfl⟩ ⟨Nat.le_of_ble_eq_true rfl, Nat.le_of_ble_eq_true rfl⟩ gX6_passCycle_X6_finishEldest hv_X6_finishEldest 0 gl_GF_c0 rfl [0, 1, 2, 3, 4, 5, 6, 7, 8, 9, 10, 11, 12, 13, 14, 15, 16, 17, 18, 19, 20, 21, 22, 23, 24, 25, 26, 27, 28, 29, 30, 31, 32, 33, 34, 35, 36, 37, 38, 39, 40, 41, 42] gl_GF_self_at gl_GF_self_nd gl_GF_fst (by rw [es2]; exact gl_GF_self_set) rfl rfl (Nat.le_of_ble_eq_true rfl) ⟨Nat.zero_le _, Nat.zero_le _⟩ dX6_passCycle_63 ?_
        refine gq_aload_n X dX6_passCycle_66 0 rfl ?_
        refine gq_callVr (ws' := gw_GF cA a s2) X (c_X6_isUnderWay l D cA a s2) rfl ⟨rfl, rfl⟩ ⟨Nat.le_of_ble_eq_true rfl, Nat.le_of_ble_eq_true rfl⟩ gX6_passCycle_X6_isUnderWay hv_X6_isUnderWay 0 gl_GF_c0 rfl [0, 1, 2, 3, 4, 5, 6, 7, 8, 9, 10, 11, 12, 13, 14, 15, 16, 17, 18, 19, 20, 21, 22, 23, 24, 25, 26, 27, 28, 29, 30, 31, 32, 33, 34, 35, 36, 37, 38, 39, 40, 41, 42] gl_GF_self_at gl_GF_self_nd gl_GF_fst gl_GF_self_same rfl rfl (Nat.le_of_ble_eq_true rfl) ⟨Nat.zero_le _, Nat.zero_le _⟩ dX6_passCycle_67 ?_
        refine gq_fbif_eq (tgt := 91) X dX6_passCycle_70 (by decide) (fun h70 => ?_) (fun h70 => ?_)
        · refine gq_aload_n X dX6_passCycle_73 0 rfl ?_
          refine gq_get (C := RX6) (T := TX6) (N := 10) X iX6_passCycle_X6 0 gl_GF_c0 rfl 0 (by decide) fX6_passCycle_X6_0 rfl dX6_passCycle_74 ?_
          refine gq_aload_n X dX6_passCycle_77 0 rfl ?_
          refine gq_get (C := RX6) (T := TX6) (N := 10) X iX6_passCycle_X6 0 gl_GF_c0 rfl 8 (by decide) fX6_passCycle_X6_8 rfl dX6_passCycle_78 ?_
          refine gq_callVr (ws' := gw_GF cA a s2) X (c_X3_has l D cA (a 1) (a 2) (a 3) (gF_prog s2) (gF_place s2)) rfl ⟨rfl, rfl⟩ ⟨Nat.le_of_ble_eq_true rfl, Nat.le_of_ble_eq_true rfl⟩ gX6_passCycle_X3_has hv_X3_has 1 rfl rfl [1, 2, 3] gl_GF_1_at gl_GF_1_nd gl_Prog_fst gl_GF_1_same rfl rfl (Nat.le_of_ble_eq_true rfl) ⟨Nat.zero_le _, Nat.zero_le _⟩ dX6_passCycle_81 ?_
          refine gq_fbif_eq (tgt := 91) X dX6_passCycle_84 (by decide) (fun h84 => ?_) (fun h84 => ?_)
          · refine gq_aload_n X dX6_passCycle_87 0 rfl ?_
            refine gq_letr (fun s3 es3 => ?_)
            refine gq_callVv (ws' := gw_GF cA a s3) X (c_X6_fetchAtPlace l D cA a s2) rfl ⟨rfl, rfl⟩ ⟨Nat.le_of_ble_eq_true rfl, Nat.le_of_ble_eq_true rfl⟩ gX6_passCycle_X6_fetchAtPlace hv_X6_fetchAtPlace 0 gl_GF_c0 rfl [0, 1, 2, 3, 4, 5, 6, 7, 8, 9, 10, 11, 12, 13, 14, 15, 16, 17, 18, 19, 20, 21, 22, 23, 24, 25, 26, 27, 28, 29, 30, 31, 32, 33, 34, 35, 36, 37, 38, 39, 40, 41, 42] gl_GF_self_at gl_GF_self_nd gl_GF_fst (by rw [es3]; exact gl_GF_self_set) rfl rfl (Nat.le_of_ble_eq_true rfl) ⟨Nat.zero_le _, Nat.zero_le _⟩ dX6_passCycle_88 ?_
            exact gq_vretf X dX6_passCycle_91 rfl rfl
          · exact gq_vretf X dX6_passCycle_91 rfl rfl
        · exact gq_vretf X dX6_passCycle_91 rfl rfl
      · refine gq_aload_n X dX6_passCycle_66 0 rfl ?_
        refine gq_callVr (ws' := gw_GF cA a s1) X (c_X6_isUnderWay l D cA a s1) rfl ⟨rfl, rfl⟩ ⟨Nat.le_of_ble_eq_true rfl, Nat.le_of_ble_eq_true rfl⟩ gX6_passCycle_X6_isUnderWay hv_X6_isUnderWay 0 gl_GF_c0 rfl [0, 1, 2, 3, 4, 5, 6, 7, 8, 9, 10, 11, 12, 13, 14, 15, 16, 17, 18, 19, 20, 21, 22, 23, 24, 25, 26, 27, 28, 29, 30, 31, 32, 33, 34, 35, 36, 37, 38, 39, 40, 41, 42] gl_GF_self_at gl_GF_self_nd gl_GF_fst gl_GF_self_same rfl rfl (Nat.le_of_ble_eq_true rfl) ⟨Nat.zero_le _, Nat.zero_le _⟩ dX6_passCycle_67 ?_
        refine gq_fbif_eq (tgt := 91) X dX6_passCycle_70 (by decide) (fun h70 => ?_) (fun h70 => ?_)
        · refine gq_aload_n X dX6_passCycle_73 0 rfl ?_
          refine gq_get (C := RX6) (T := TX6) (N := 10) X iX6_passCycle_X6 0 gl_GF_c0 rfl 0 (by decide) fX6_passCycle_X6_0 rfl dX6_passCycle_74 ?_
          refine gq_aload_n X dX6_passCycle_77 0 rfl ?_
          refine gq_get (C := RX6) (T := TX6) (N := 10) X iX6_passCycle_X6 0 gl_GF_c0 rfl 8 (by decide) fX6_passCycle_X6_8 rfl dX6_passCycle_78 ?_
          refine gq_callVr (ws' := gw_GF cA a s1) X (c_X3_has l D cA (a 1) (a 2) (a 3) (gF_prog s1) (gF_place s1)) rfl ⟨rfl, rfl⟩ ⟨Nat.le_of_ble_eq_true rfl, Nat.le_of_ble_eq_true rfl⟩ gX6_passCycle_X3_has hv_X3_has 1 rfl rfl [1, 2, 3] gl_GF_1_at gl_GF_1_nd gl_Prog_fst gl_GF_1_same rfl rfl (Nat.le_of_ble_eq_true rfl) ⟨Nat.zero_le _, Nat.zero_le _⟩ dX6_passCycle_81 ?_
          refine gq_bif_eq (tgt := 91) X dX6_passCycle_84 (by decide) (fun h => absurd (h30.symm.trans h) (by decide)) (fun _ => ?_)
          refine gq_aload_n X dX6_passCycle_87 0 rfl ?_
          refine gq_letr (fun s4 es4 => ?_)
          refine gq_callVv (ws' := gw_GF cA a s4) X (c_X6_fetchAtPlace l D cA a s1) rfl ⟨rfl, rfl⟩ ⟨Nat.le_of_ble_eq_true rfl, Nat.le_of_ble_eq_true rfl⟩ gX6_passCycle_X6_fetchAtPlace hv_X6_fetchAtPlace 0 gl_GF_c0 rfl [0, 1, 2, 3, 4, 5, 6, 7, 8, 9, 10, 11, 12, 13, 14, 15, 16, 17, 18, 19, 20, 21, 22, 23, 24, 25, 26, 27, 28, 29, 30, 31, 32, 33, 34, 35, 36, 37, 38, 39, 40, 41, 42] gl_GF_self_at gl_GF_self_nd gl_GF_fst (by rw [es4]; exact gl_GF_self_set) rfl rfl (Nat.le_of_ble_eq_true rfl) ⟨Nat.zero_le _, Nat.zero_le _⟩ dX6_passCycle_88 ?_
          exact gq_vretf X dX6_passCycle_91 rfl rfl
        · exact gq_vretf X dX6_passCycle_91 rfl rfl
    · refine gq_aload_n X dX6_passCycle_33 0 rfl ?_
      refine gq_iconst (v := 2) X dX6_passCycle_34 gq_i2 ?_
      refine gq_letr (fun s5 es5 => ?_)
      refine gq_callVv (ws' := gw_GF cA a s5) X (c_X6_endRun l D cA a s1 2) rfl ⟨rfl, rfl⟩ ⟨Nat.le_of_ble_eq_true rfl, Nat.le_of_ble_eq_true rfl⟩ gX6_passCycle_X6_endRun hv_X6_endRun 0 gl_GF_c0 rfl [0, 1, 2, 3, 4, 5, 6, 7, 8, 9, 10, 11, 12, 13, 14, 15, 16, 17, 18, 19, 20, 21, 22, 23, 24, 25, 26, 27, 28, 29, 30, 31, 32, 33, 34, 35, 36, 37, 38, 39, 40, 41, 42] gl_GF_self_at gl_GF_self_nd gl_GF_fst (by rw [es5]; exact gl_GF_self_set) rfl rfl (Nat.le_of_ble_eq_true rfl) ⟨Nat.zero_le _, Nat.zero_le _⟩ dX6_passCycle_35 ?_
      exact gq_vretf X dX6_passCycle_38 rfl rfl
  · refine gq_aload_n X dX6_passCycle_39 0 rfl ?_
    refine gq_get (C := RX6) (T := TX6) (N := 10) X iX6_passCycle_X6 0 gl_GF_c0 rfl 3 (by decide) fX6_passCycle_X6_3 rfl dX6_passCycle_40 ?_
    refine gq_aload_n X dX6_passCycle_43 0 rfl ?_
    refine gq_get (C := RX6) (T := TX6) (N := 10) X iX6_passCycle_X6 0 gl_GF_c0 rfl 4 (by decide) fX6_passCycle_X6_4 rfl dX6_passCycle_44 ?_
    refine gq_iconst (v := 0) X dX6_passCycle_47 gq_i0 ?_
    refine gq_callVr (ws' := gw_GF cA a s1) X (c_X5_get l D cA (a 39) (a 40) 18 (by decide) (gF_counts s1) 0) rfl ⟨rfl, rfl⟩ ⟨Nat.le_of_ble_eq_true rfl, Nat.le_of_ble_eq_true rfl⟩ gX6_passCycle_X5_get hv_X5_get 39 rfl rfl [39, 40] gl_GF_39_at gl_GF_39_nd gl_Row_fst gl_GF_39_same rfl rfl (Nat.le_of_ble_eq_true rfl) ⟨Nat.zero_le _, Nat.zero_le _⟩ dX6_passCycle_48 ?_
    refine gq_aload_n X dX6_passCycle_51 0 rfl ?_
    refine gq_get (C := RX6) (T := TX6) (N := 10) X iX6_passCycle_X6 0 gl_GF_c0 rfl 7 (by decide) fX6_passCycle_X6_7 rfl dX6_passCycle_52 ?_
    refine gq_isub X dX6_passCycle_55 ?_
    refine gq_callVr (ws' := gw_GF cA a s1) X (c_X4_isEldestOf l D cA (a 26) (a 27) (a 28) (a 29) (a 30) (a 31) (a 32) (a 33) (a 34) (a 35) (a 36) (a 37) (a 38) (gF_queue s1) ((k_X5_get 18 (gF_counts s1) 0) - (gF_depth s1))) rfl ⟨rfl, rfl⟩ ⟨Nat.le_of_ble_eq_true rfl, Nat.le_of_ble_eq_true rfl⟩ gX6_passCycle_X4_isEldestOf hv_X4_isEldestOf 26 rfl rfl [26, 27, 28, 29, 30, 31, 32, 33, 34, 35, 36, 37, 38] gl_GF_26_at gl_GF_26_nd gl_Que_fst gl_GF_26_same rfl rfl (Nat.le_of_ble_eq_true rfl) ⟨Nat.zero_le _, Nat.zero_le _⟩ dX6_passCycle_56 ?_
    refine gq_fbif_eq (tgt := 66) X dX6_passCycle_59 (by decide) (fun h59 => ?_) (fun h59 => ?_)
    · refine gq_aload_n X dX6_passCycle_62 0 rfl ?_
      refine gq_letr (fun s6 es6 => ?_)
      refine gq_callVv (ws' := gw_GF cA a s6) X (c_X6_finishEldest l D cA a s1) rfl ⟨rfl, rfl⟩ ⟨Nat.le_of_ble_eq_true rfl, Nat.le_of_ble_eq_true rfl⟩ gX6_passCycle_X6_finishEldest hv_X6_finishEldest 0 gl_GF_c0 rfl [0, 1, 2, 3, 4, 5, 6, 7, 8, 9, 10, 11, 12, 13, 14, 15, 16, 17, 18, 19, 20, 21, 22, 23, 24, 25, 26, 27, 28, 29, 30, 31, 32, 33, 34, 35, 36, 37, 38, 39, 40, 41, 42] gl_GF_self_at gl_GF_self_nd gl_GF_fst (by rw [es6]; exact gl_GF_self_set) rfl rfl (Nat.le_of_ble_eq_true rfl) ⟨Nat.zero_le _, Nat.zero_le _⟩ dX6_passCycle_63 ?_
      refine gq_aload_n X dX6_passCycle_66 0 rfl ?_
      refine gq_callVr (ws' := gw_GF cA a s6) X (c_X6_isUnderWay l D cA a s6) rfl ⟨rfl, rfl⟩ ⟨Nat.le_of_ble_eq_true rfl, Nat.le_of_ble_eq_true rfl⟩ gX6_passCycle_X6_isUnderWay hv_X6_isUnderWay 0 gl_GF_c0 rfl [0, 1, 2, 3, 4, 5, 6, 7, 8, 9, 10, 11, 12, 13, 14, 15, 16, 17, 18, 19, 20, 21, 22, 23, 24, 25, 26, 27, 28, 29, 30, 31, 32, 33, 34, 35, 36, 37, 38, 39, 40, 41, 42] gl_GF_self_at gl_GF_self_nd gl_GF_fst gl_GF_self_same rfl rfl (Nat.le_of_ble_eq_true rfl) ⟨Nat.zero_le _, Nat.zero_le _⟩ dX6_passCycle_67 ?_
      refine gq_fbif_eq (tgt := 91) X dX6_passCycle_70 (by decide) (fun h70 => ?_) (fun h70 => ?_)
      · refine gq_aload_n X dX6_passCycle_73 0 rfl ?_
        refine gq_get (C := RX6) (T := TX6) (N := 10) X iX6_passCycle_X6 0 gl_GF_c0 rfl 0 (by decide) fX6_passCycle_X6_0 rfl dX6_passCycle_74 ?_
        refine gq_aload_n X dX6_passCycle_77 0 rfl ?_
        refine gq_get (C := RX6) (T := TX6) (N := 10) X iX6_passCycle_X6 0 gl_GF_c0 rfl 8 (by decide) fX6_passCycle_X6_8 rfl dX6_passCycle_78 ?_
        refine gq_callVr (ws' := gw_GF cA a s6) X (c_X3_has l D cA (a 1) (a 2) (a 3) (gF_prog s6) (gF_place s6)) rfl ⟨rfl, rfl⟩ ⟨Nat.le_of_ble_eq_true rfl, Nat.le_of_ble_eq_true rfl⟩ gX6_passCycle_X3_has hv_X3_has 1 rfl rfl [1, 2, 3] gl_GF_1_at gl_GF_1_nd gl_Prog_fst gl_GF_1_same rfl rfl (Nat.le_of_ble_eq_true rfl) ⟨Nat.zero_le _, Nat.zero_le _⟩ dX6_passCycle_81 ?_
        refine gq_fbif_eq (tgt := 91) X dX6_passCycle_84 (by decide) (fun h84 => ?_) (fun h84 => ?_)
        · refine gq_aload_n X dX6_passCycle_87 0 rfl ?_
          refine gq_letr (fun s7 es7 => ?_)
          refine gq_callVv (ws' := gw_GF cA a s7) X (c_X6_fetchAtPlace l D cA a s6) rfl ⟨rfl, rfl⟩ ⟨Nat.le_of_ble_eq_true rfl, Nat.le_of_ble_eq_true rfl⟩ gX6_passCycle_X6_fetchAtPlace hv_X6_fetchAtPlace 0 gl_GF_c0 rfl [0, 1, 2, 3, 4, 5, 6, 7, 8, 9, 10, 11, 12, 13, 14, 15, 16, 17, 18, 19, 20, 21, 22, 23, 24, 25, 26, 27, 28, 29, 30, 31, 32, 33, 34, 35, 36, 37, 38, 39, 40, 41, 42] gl_GF_self_at gl_GF_self_nd gl_GF_fst (by rw [es7]; exact gl_GF_self_set) rfl rfl (Nat.le_of_ble_eq_true rfl) ⟨Nat.zero_le _, Nat.zero_le _⟩ dX6_passCycle_88 ?_
          exact gq_vretf X dX6_passCycle_91 rfl rfl
        · exact gq_vretf X dX6_passCycle_91 rfl rfl
      · exact gq_vretf X dX6_passCycle_91 rfl rfl
    · refine gq_aload_n X dX6_passCycle_66 0 rfl ?_
      refine gq_callVr (ws' := gw_GF cA a s1) X (c_X6_isUnderWay l D cA a s1) rfl ⟨rfl, rfl⟩ ⟨Nat.le_of_ble_eq_true rfl, Nat.le_of_ble_eq_true rfl⟩ gX6_passCycle_X6_isUnderWay hv_X6_isUnderWay 0 gl_GF_c0 rfl [0, 1, 2, 3, 4, 5, 6, 7, 8, 9, 10, 11, 12, 13, 14, 15, 16, 17, 18, 19, 20, 21, 22, 23, 24, 25, 26, 27, 28, 29, 30, 31, 32, 33, 34, 35, 36, 37, 38, 39, 40, 41, 42] gl_GF_self_at gl_GF_self_nd gl_GF_fst gl_GF_self_same rfl rfl (Nat.le_of_ble_eq_true rfl) ⟨Nat.zero_le _, Nat.zero_le _⟩ dX6_passCycle_67 ?_
      refine gq_fbif_eq (tgt := 91) X dX6_passCycle_70 (by decide) (fun h70 => ?_) (fun h70 => ?_)
      · refine gq_aload_n X dX6_passCycle_73 0 rfl ?_
        refine gq_get (C := RX6) (T := TX6) (N := 10) X iX6_passCycle_X6 0 gl_GF_c0 rfl 0 (by decide) fX6_passCycle_X6_0 rfl dX6_passCycle_74 ?_
        refine gq_aload_n X dX6_passCycle_77 0 rfl ?_
        refine gq_get (C := RX6) (T := TX6) (N := 10) X iX6_passCycle_X6 0 gl_GF_c0 rfl 8 (by decide) fX6_passCycle_X6_8 rfl dX6_passCycle_78 ?_
        refine gq_callVr (ws' := gw_GF cA a s1) X (c_X3_has l D cA (a 1) (a 2) (a 3) (gF_prog s1) (gF_place s1)) rfl ⟨rfl, rfl⟩ ⟨Nat.le_of_ble_eq_true rfl, Nat.le_of_ble_eq_true rfl⟩ gX6_passCycle_X3_has hv_X3_has 1 rfl rfl [1, 2, 3] gl_GF_1_at gl_GF_1_nd gl_Prog_fst gl_GF_1_same rfl rfl (Nat.le_of_ble_eq_true rfl) ⟨Nat.zero_le _, Nat.zero_le _⟩ dX6_passCycle_81 ?_
        refine gq_fbif_eq (tgt := 91) X dX6_passCycle_84 (by decide) (fun h84 => ?_) (fun h84 => ?_)
        · refine gq_aload_n X dX6_passCycle_87 0 rfl ?_
          refine gq_letr (fun s8 es8 => ?_)
          refine gq_callVv (ws' := gw_GF cA a s8) X (c_X6_fetchAtPlace l D cA a s1) rfl ⟨rfl, rfl⟩ ⟨Nat.le_of_ble_eq_true rfl, Nat.le_of_ble_eq_true rfl⟩ gX6_passCycle_X6_fetchAtPlace hv_X6_fetchAtPlace 0 gl_GF_c0 rfl [0, 1, 2, 3, 4, 5, 6, 7, 8, 9, 10, 11, 12, 13, 14, 15, 16, 17, 18, 19, 20, 21, 22, 23, 24, 25, 26, 27, 28, 29, 30, 31, 32, 33, 34, 35, 36, 37, 38, 39, 40, 41, 42] gl_GF_self_at gl_GF_self_nd gl_GF_fst (by rw [es8]; exact gl_GF_self_set) rfl rfl (Nat.le_of_ble_eq_true rfl) ⟨Nat.zero_le _, Nat.zero_le _⟩ dX6_passCycle_88 ?_
          exact gq_vretf X dX6_passCycle_91 rfl rfl
        · exact gq_vretf X dX6_passCycle_91 rfl rfl
      · exact gq_vretf X dX6_passCycle_91 rfl rfl
