theorem iX6_isUnderWay_X6 : ∀ w ∈ u_ws RX6 TX6 10, w ∈ wsX6_isUnderWay := by decide +kernel
theorem fX6_isUnderWay_X6_9 : Cond.fieldLink RX6 63 (TX6 9).1 (TX6 9).2.1 (TX6 9).2.2.1 ∈ wsX6_isUnderWay := by decide +kernel
theorem hv_X6_isUnderWay : yX6_isUnderWay.cls = RX6 ∧ yX6_isUnderWay.cls ≠ "java/lang/invoke/MethodHandle" ∧ yX6_isUnderWay.cls ≠ "java/lang/invoke/VarHandle" ∧ (parseMethodDescriptor yX6_isUnderWay.desc).map (fun d => d.parameters.length) = some 0 := by decide +kernel
def k_X6_isUnderWay (S : gs_F) : Bool :=
  if gF_run S = 0 then
    true
  else
    false
set_option maxHeartbeats 4000000 in
set_option maxRecDepth 100000 in
theorem c_X6_isUnderWay (l : Launch) (D : va_G) (cA : ClassId) (a : Nat → Nat) (S : gs_F)  : gq_C l yX6_isUnderWay wsX6_isUnderWay ({ frames := 0, cells := 0, slots := 0, locals := 0 } : Room) D cA [.ref (a 0)] (gw_GF cA a S) (some (.int (gq_b (k_X6_isUnderWay S)))) (gw_GF cA a S) := by
  refine gq_openf (own := RX6) (lv := [(0, .ref (a 0))]) (fun r : Bool => (some (.int (gq_b r)), gw_GF cA a S)) (k_X6_isUnderWay S) (by decide) rfl rfl (Nat.le_of_ble_eq_true rfl) rfl rfl rfl (fun p e s m args below meth c A X => ?_)
  unfold k_X6_isUnderWay
  refine gq_aload_n X dX6_isUnderWay_0 0 rfl ?_
  refine gq_get (C := RX6) (T := TX6) (N := 10) X iX6_isUnderWay_X6 0 gl_GF_c0 rfl 9 (by decide) fX6_isUnderWay_X6_9 rfl dX6_isUnderWay_1 ?_
  refine gq_fif_ne (tgt := 11) X dX6_isUnderWay_4 (by decide) (fun h4 => ?_) (fun h4 => ?_)
  · refine gq_iconst (v := 1) X dX6_isUnderWay_7 gq_i1 ?_
    refine gq_goto (tgt := 12) X dX6_isUnderWay_8 (by decide) ?_
    exact gq_zretf (b := true) X dX6_isUnderWay_12 rfl rfl rfl
  · refine gq_iconst (v := 0) X dX6_isUnderWay_11 gq_i0 ?_
    exact gq_zretf (b := false) X dX6_isUnderWay_12 rfl rfl rfl
theorem iX6_dropFetched_X6 : ∀ w ∈ u_ws RX6 TX6 10, w ∈ wsX6_dropFetched := by decide +kernel
theorem fX6_dropFetched_X6_3 : Cond.fieldLink RX6 33 (TX6 3).1 (TX6 3).2.1 (TX6 3).2.2.1 ∈ wsX6_dropFetched := by decide +kernel
theorem fX6_dropFetched_X6_4 : Cond.fieldLink RX6 42 (TX6 4).1 (TX6 4).2.1 (TX6 4).2.2.1 ∈ wsX6_dropFetched := by decide +kernel
theorem hv_X6_dropFetched : yX6_dropFetched.cls = RX6 ∧ yX6_dropFetched.cls ≠ "java/lang/invoke/MethodHandle" ∧ yX6_dropFetched.cls ≠ "java/lang/invoke/VarHandle" ∧ (parseMethodDescriptor yX6_dropFetched.desc).map (fun d => d.parameters.length) = some 0 := by decide +kernel
def k_X6_dropFetched (S : gs_F) : gs_F :=
  gq_lt (sF_counts S (k_X5_add 18 (gF_counts S) 3 (k_X4_size (gF_queue S)))) (fun s1 =>
  gq_lt (sF_queue s1 (k_X4_clear (gF_queue s1))) (fun s2 =>
  s2))
set_option maxHeartbeats 4000000 in
set_option maxRecDepth 100000 in
theorem c_X6_dropFetched (l : Launch) (D : va_G) (cA : ClassId) (a : Nat → Nat) (S : gs_F)  : gq_C l yX6_dropFetched wsX6_dropFetched ({ frames := 2, cells := 0, slots := 0, locals := 45 } : Room) D cA [.ref (a 0)] (gw_GF cA a S) (none) (gw_GF cA a (k_X6_dropFetched S)) := by
  refine gq_openf (own := RX6) (lv := [(0, .ref (a 0))]) (fun r : gs_F => (none, gw_GF cA a r)) (k_X6_dropFetched S) (by decide) rfl rfl (Nat.le_of_ble_eq_true rfl) rfl rfl rfl (fun p e s m args below meth c A X => ?_)
  unfold k_X6_dropFetched
  refine gq_aload_n X dX6_dropFetched_0 0 rfl ?_
  refine gq_get (C := RX6) (T := TX6) (N := 10) X iX6_dropFetched_X6 0 gl_GF_c0 rfl 4 (by decide) fX6_dropFetched_X6_4 rfl dX6_dropFetched_1 ?_
  refine gq_iconst (v := 3) X dX6_dropFetched_4 gq_i3 ?_
  refine gq_aload_n X dX6_dropFetched_5 0 rfl ?_
  refine gq_get (C := RX6) (T := TX6) (N := 10) X iX6_dropFetched_X6 0 gl_GF_c0 rfl 3 (by decide) fX6_dropFetched_X6_3 rfl dX6_dropFetched_6 ?_
  refine gq_callVr (ws' := gw_GF cA a S) X (c_X4_size l D cA (a 26) (a 27) (a 28) (a 29) (a 30) (a 31) (a 32) (a 33) (a 34) (a 35) (a 36) (a 37) (a 38) (gF_queue S)) rfl ⟨rfl, rfl⟩ ⟨Nat.le_of_ble_eq_true rfl, Nat.le_of_ble_eq_true rfl⟩ gX6_dropFetched_X4_size hv_X4_size 26 rfl rfl [26, 27, 28, 29, 30, 31, 32, 33, 34, 35, 36, 37, 38] gl_GF_26_at gl_GF_26_nd gl_Que_fst gl_GF_26_same rfl rfl (Nat.le_of_ble_eq_true rfl) ⟨Nat.zero_le _, Nat.zero_le _⟩ dX6_dropFetched_9 ?_
  refine gq_letr (fun s1 es1 => ?_)
  refine gq_callVv (ws' := gw_GF cA a s1) X (c_X5_add l D cA (a 39) (a 40) 18 (by decide) (gF_counts S) 3 (k_X4_size (gF_queue S))) rfl ⟨rfl, rfl⟩ ⟨Nat.le_of_ble_eq_true rfl, Nat.le_of_ble_eq_true rfl⟩ gX6_dropFetched_X5_add hv_X5_add 39 rfl rfl [39, 40] gl_GF_39_at gl_GF_39_nd gl_Row_fst (by rw [es1]; exact gl_GF_39_set) rfl rfl (Nat.le_of_ble_eq_true rfl) ⟨Nat.zero_le _, Nat.zero_le _⟩ dX6_dropFetched_12 ?_
  refine gq_aload_n X dX6_dropFetched_15 0 rfl ?_
  refine gq_get (C := RX6) (T := TX6) (N := 10) X iX6_dropFetched_X6 0 gl_GF_c0 rfl 3 (by decide) fX6_dropFetched_X6_3 rfl dX6_dropFetched_16 ?_
  refine gq_letr (fun s2 es2 => ?_)
  refine gq_callVv (ws' := gw_GF cA a s2) X (c_X4_clear l D cA (a 26) (a 27) (a 28) (a 29) (a 30) (a 31) (a 32) (a 33) (a 34) (a 35) (a 36) (a 37) (a 38) (gF_queue s1)) rfl ⟨rfl, rfl⟩ ⟨Nat.le_of_ble_eq_true rfl, Nat.le_of_ble_eq_true rfl⟩ gX6_dropFetched_X4_clear hv_X4_clear 26 rfl rfl [26, 27, 28, 29, 30, 31, 32, 33, 34, 35, 36, 37, 38] gl_GF_26_at gl_GF_26_nd gl_Que_fst (by rw [es2]; exact gl_GF_26_set) rfl rfl (Nat.le_of_ble_eq_true rfl) ⟨Nat.zero_le _, Nat.zero_le _⟩ dX6_dropFetched_19 ?_
  exact gq_vretf X dX6_dropFetched_22 rfl rfl
theorem iX6_endRun_X6 : ∀ w ∈ u_ws RX6 TX6 10, w ∈ wsX6_endRun := by decide +kernel
theorem fX6_endRun_X6_9 : Cond.fieldLink RX6 63 (TX6 9).1 (TX6 9).2.1 (TX6 9).2.2.1 ∈ wsX6_endRun := by decide +kernel
theorem hv_X6_endRun : yX6_endRun.cls = RX6 ∧ yX6_endRun.cls ≠ "java/lang/invoke/MethodHandle" ∧ yX6_endRun.cls ≠ "java/lang/invoke/VarHandle" ∧ (parseMethodDescriptor yX6_endRun.desc).map (fun d => d.parameters.length) = some 1 := by decide +kernel
def k_X6_endRun (S : gs_F) (x1 : Int32) : gs_F :=
  gq_lt (k_X6_dropFetched S) (fun s1 =>
  gq_lt (sF_run s1 x1) (fun s2 =>
  s2))
set_option maxHeartbeats 4000000 in
set_option maxRecDepth 100000 in
theorem c_X6_endRun (l : Launch) (D : va_G) (cA : ClassId) (a : Nat → Nat) (S : gs_F) (x1 : Int32) : gq_C l yX6_endRun wsX6_endRun ({ frames := 3, cells := 0, slots := 0, locals := 65 } : Room) D cA [.ref (a 0), .int x1] (gw_GF cA a S) (none) (gw_GF cA a (k_X6_endRun S x1)) := by
  refine gq_openf (own := RX6) (lv := [(0, .ref (a 0)), (1, .int x1)]) (fun r : gs_F => (none, gw_GF cA a r)) (k_X6_endRun S x1) (by decide) rfl rfl (Nat.le_of_ble_eq_true rfl) rfl rfl rfl (fun p e s m args below meth c A X => ?_)
  unfold k_X6_endRun
  refine gq_aload_n X dX6_endRun_0 0 rfl ?_
  refine gq_letr (fun s1 es1 => ?_)
  refine gq_callVv (ws' := gw_GF cA a s1) X (c_X6_dropFetched l D cA a S) rfl ⟨rfl, rfl⟩ ⟨Nat.le_of_ble_eq_true rfl, Nat.le_of_ble_eq_true rfl⟩ gX6_endRun_X6_dropFetched hv_X6_dropFetched 0 gl_GF_c0 rfl [0, 1, 2, 3, 4, 5, 6, 7, 8, 9, 10, 11, 12, 13, 14, 15, 16, 17, 18, 19, 20, 21, 22, 23, 24, 25, 26, 27, 28, 29, 30, 31, 32, 33, 34, 35, 36, 37, 38, 39, 40, 41, 42] gl_GF_self_at gl_GF_self_nd gl_GF_fst (by rw [es1]; exact gl_GF_self_set) rfl rfl (Nat.le_of_ble_eq_true rfl) ⟨Nat.zero_le _, Nat.zero_le _⟩ dX6_endRun_1 ?_
  refine gq_aload_n X dX6_endRun_4 0 rfl ?_
  refine gq_iload_n X dX6_endRun_5 1 rfl ?_
  refine gq_letr (fun s2 es2 => ?_)
  refine gq_put (C := RX6) (T := TX6) (N := 10) (ws' := gw_GF cA a s2) X iX6_endRun_X6 tyX6 tyX6_ok nmX6 0 gl_GF_c0 rfl 9 (by decide) fX6_endRun_X6_9 rfl rfl rfl (Nat.le_of_ble_eq_true rfl) (by rw [es2]; exact gl_GF_f9) dX6_endRun_6 ?_
  exact gq_vretf X dX6_endRun_9 rfl rfl
theorem iX6_noteDone_X6 : ∀ w ∈ u_ws RX6 TX6 10, w ∈ wsX6_noteDone := by decide +kernel
theorem fX6_noteDone_X6_4 : Cond.fieldLink RX6 42 (TX6 4).1 (TX6 4).2.1 (TX6 4).2.2.1 ∈ wsX6_noteDone := by decide +kernel
theorem fX6_noteDone_X6_5 : Cond.fieldLink RX6 49 (TX6 5).1 (TX6 5).2.1 (TX6 5).2.2.1 ∈ wsX6_noteDone := by decide +kernel
theorem hv_X6_noteDone : yX6_noteDone.cls = RX6 ∧ yX6_noteDone.cls ≠ "java/lang/invoke/MethodHandle" ∧ yX6_noteDone.cls ≠ "java/lang/invoke/VarHandle" ∧ (parseMethodDescriptor yX6_noteDone.desc).map (fun d => d.parameters.length) = some 2 := by decide +kernel
def k_X6_noteDone (S : gs_F) (x1 : Int32) (x2 : Int32) : gs_F :=
  gq_lt (sF_counts S (k_X5_add 18 (gF_counts S) 1 1)) (fun s1 =>
  gq_lt (sF_counts s1 (k_X5_add 18 (gF_counts s1) 13 1)) (fun s2 =>
  gq_lt (k_X2_push 300 (gF_done s2) x1) (fun r3 =>
  gq_lt (sF_done s2 r3.2) (fun s4 =>
  if k_X6_isTurn x2 = true then
    gq_lt (sF_counts s4 (k_X5_add 18 (gF_counts s4) 4 1)) (fun s5 =>
    if k_X6_isBranch x2 = true then
      gq_lt (sF_counts s5 (k_X5_add 18 (gF_counts s5) 5 1)) (fun s6 =>
      s6)
    else
      s5)
  else
    if k_X6_isBranch x2 = true then
      gq_lt (sF_counts s4 (k_X5_add 18 (gF_counts s4) 5 1)) (fun s7 =>
      s7)
    else
      s4))))
set_option maxHeartbeats 4000000 in
set_option maxRecDepth 100000 in
theorem c_X6_noteDone (l : Launch) (D : va_G) (cA : ClassId) (a : Nat → Nat) (S : gs_F) (x1 : Int32) (x2 : Int32) : gq_C l yX6_noteDone wsX6_noteDone ({ frames := 2, cells := 0, slots := 0, locals := 45 } : Room) D cA [.ref (a 0), .int x1, .int x2] (gw_GF cA a S) (none) (gw_GF cA a (k_X6_noteDone S x1 x2)) := by
  refine gq_openf (own := RX6) (lv := [(0, .ref (a 0)), (1, .int x1), (2, .int x2)]) (fun r : gs_F => (none, gw_GF cA a r)) (k_X6_noteDone S x1 x2) (by decide) rfl rfl (Nat.le_of_ble_eq_true rfl) rfl rfl rfl (fun p e s m args below meth c A X => ?_)
  unfold k_X6_noteDone
  refine gq_aload_n X dX6_noteDone_0 0 rfl ?_
  refine gq_get (C := RX6) (T := TX6) (N := 10) X iX6_noteDone_X6 0 gl_GF_c0 rfl 4 (by decide) fX6_noteDone_X6_4 rfl dX6_noteDone_1 ?_
  refine gq_iconst (v := 1) X dX6_noteDone_4 gq_i1 ?_
  refine gq_iconst (v := 1) X dX6_noteDone_5 gq_i1 ?_
  refine gq_letr (fun s1 es1 => ?_)
  refine gq_callVv (ws' := gw_GF cA a s1) X (c_X5_add l D cA (a 39) (a 40) 18 (by decide) (gF_counts S) 1 1) rfl ⟨rfl, rfl⟩ ⟨Nat.le_of_ble_eq_true rfl, Nat.le_of_ble_eq_true rfl⟩ gX6_noteDone_X5_add hv_X5_add 39 rfl rfl [39, 40] gl_GF_39_at gl_GF_39_nd gl_Row_fst (by rw [es1]; exact gl_GF_39_set) rfl rfl (Nat.le_of_ble_eq_true rfl) ⟨Nat.zero_le _, Nat.zero_le _⟩ dX6_noteDone_6 ?_
  refine gq_aload_n X dX6_noteDone_9 0 rfl ?_
  refine gq_get (C := RX6) (T := TX6) (N := 10) X iX6_noteDone_X6 0 gl_GF_c0 rfl 4 (by decide) fX6_noteDone_X6_4 rfl dX6_noteDone_10 ?_
  refine gq_bipush (v := 13) X dX6_noteDone_13 (by decide) ?_
  refine gq_iconst (v := 1) X dX6_noteDone_15 gq_i1 ?_
  refine gq_letr (fun s2 es2 => ?_)
  refine gq_callVv (ws' := gw_GF cA a s2) X (c_X5_add l D cA (a 39) (a 40) 18 (by decide) (gF_counts s1) 13 1) rfl ⟨rfl, rfl⟩ ⟨Nat.le_of_ble_eq_true rfl, Nat.le_of_ble_eq_true rfl⟩ gX6_noteDone_X5_add hv_X5_add 39 rfl rfl [39, 40] gl_GF_39_at gl_GF_39_nd gl_Row_fst (by rw [es2]; exact gl_GF_39_set) rfl rfl (Nat.le_of_ble_eq_true rfl) ⟨Nat.zero_le _, Nat.zero_le _⟩ dX6_noteDone_16 ?_
  refine gq_aload_n X dX6_noteDone_19 0 rfl ?_
  refine gq_get (C := RX6) (T := TX6) (N := 10) X iX6_noteDone_X6 0 gl_GF_c0 rfl 5 (by decide) fX6_noteDone_X6_5 rfl dX6_noteDone_20 ?_
  refine gq_iload_n X dX6_noteDone_23 1 rfl ?_
  refine gq_letr (fun r3 er3 => ?_)
  refine gq_letr (fun s4 es4 => ?_)
  refine gq_callVr (ws' := gw_GF cA a s4) X (gq_Ceq (res2 := some (Value.int (gq_b r3.1))) (w2 := gw_Pile cA (a 41) (a 42) 300 r3.2) (c_X2_push l D cA (a 41) (a 42) 300 (by decide) (gF_done s2) x1) (by rw [er3]) (by rw [er3])) rfl ⟨rfl, rfl⟩ ⟨Nat.le_of_ble_eq_true rfl, Nat.le_of_ble_eq_true rfl⟩ gX6_noteDone_X2_push hv_X2_push 41 rfl rfl [41, 42] gl_GF_41_at gl_GF_41_nd gl_Pile_fst (by rw [es4]; exact gl_GF_41_set) rfl rfl (Nat.le_of_ble_eq_true rfl) ⟨Nat.zero_le _, Nat.zero_le _⟩ dX6_noteDone_24 ?_
  refine gq_pop X dX6_noteDone_27 rfl ?_
  refine gq_iload_n X dX6_noteDone_28 2 rfl ?_
  refine gq_callSr (ws' := gw_GF cA a s4) X (c_X6_isTurn l D cA x2) rfl ⟨rfl, rfl⟩ ⟨Nat.le_of_ble_eq_true rfl, Nat.le_of_ble_eq_true rfl⟩ gX6_noteDone_X6_isTurn hd_X6_isTurn [] rfl (by decide) rfl rfl rfl rfl (Nat.le_of_ble_eq_true rfl) ⟨Nat.zero_le _, Nat.zero_le _⟩ dX6_noteDone_29 ?_
  refine gq_fbif_eq (tgt := 44) X dX6_noteDone_32 (by decide) (fun h32 => ?_) (fun h32 => ?_)
  · refine gq_aload_n X dX6_noteDone_35 0 rfl ?_
    refine gq_get (C := RX6) (T := TX6) (N := 10) X iX6_noteDone_X6 0 gl_GF_c0 rfl 4 (by decide) fX6_noteDone_X6_4 rfl dX6_noteDone_36 ?_
    refine gq_iconst (v := 4) X dX6_noteDone_39 gq_i4 ?_
    refine gq_iconst (v := 1) X dX6_noteDone_40 gq_i1 ?_
    refine gq_letr (fun s5 es5 => ?_)
    refine gq_callVv (ws' := gw_GF cA a s5) X (c_X5_add l D cA (a 39) (a 40) 18 (by decide) (gF_counts s4) 4 1) rfl ⟨rfl, rfl⟩ ⟨Nat.le_of_ble_eq_true rfl, Nat.le_of_ble_eq_true rfl⟩ gX6_noteDone_X5_add hv_X5_add 39 rfl rfl [39, 40] gl_GF_39_at gl_GF_39_nd gl_Row_fst (by rw [es5]; exact gl_GF_39_set) rfl rfl (Nat.le_of_ble_eq_true rfl) ⟨Nat.zero_le _, Nat.zero_le _⟩ dX6_noteDone_41 ?_
    refine gq_iload_n X dX6_noteDone_44 2 rfl ?_
    refine gq_callSr (ws' := gw_GF cA a s5) X (c_X6_isBranch l D cA x2) rfl ⟨rfl, rfl⟩ ⟨Nat.le_of_ble_eq_true rfl, Nat.le_of_ble_eq_true rfl⟩ gX6_noteDone_X6_isBranch hd_X6_isBranch [] rfl (by decide) rfl rfl rfl rfl (Nat.le_of_ble_eq_true rfl) ⟨Nat.zero_le _, Nat.zero_le _⟩ dX6_noteDone_45 ?_
    refine gq_fbif_eq (tgt := 60) X dX6_noteDone_48 (by decide) (fun h48 => ?_) (fun h48 => ?_)
    · refine gq_aload_n X dX6_noteDone_51 0 rfl ?_
      refine gq_get (C := RX6) (T := TX6) (N := 10) X iX6_noteDone_X6 0 gl_GF_c0 rfl 4 (by decide) fX6_noteDone_X6_4 rfl dX6_noteDone_52 ?_
      refine gq_iconst (v := 5) X dX6_noteDone_55 gq_i5 ?_
      refine gq_iconst (v := 1) X dX6_noteDone_56 gq_i1 ?_
      refine gq_letr (fun s6 es6 => ?_)
      refine gq_callVv (ws' := gw_GF cA a s6) X (c_X5_add l D cA (a 39) (a 40) 18 (by decide) (gF_counts s5) 5 1) rfl ⟨rfl, rfl⟩ ⟨Nat.le_of_ble_eq_true rfl, Nat.le_of_ble_eq_true rfl⟩ gX6_noteDone_X5_add hv_X5_add 39 rfl rfl [39, 40] gl_GF_39_at gl_GF_39_nd gl_Row_fst (by rw [es6]; exact gl_GF_39_set) rfl rfl (Nat.le_of_ble_eq_true rfl) ⟨Nat.zero_le _, Nat.zero_le _⟩ dX6_noteDone_57 ?_
      exact gq_vretf X dX6_noteDone_60 rfl rfl
    · exact gq_vretf X dX6_noteDone_60 rfl rfl
  · refine gq_iload_n X dX6_noteDone_44 2 rfl ?_
    refine gq_callSr (ws' := gw_GF cA a s4) X (c_X6_isBranch l D cA x2) rfl ⟨rfl, rfl⟩ ⟨Nat.le_of_ble_eq_true rfl, Nat.le_of_ble_eq_true rfl⟩ gX6_noteDone_X6_isBranch hd_X6_isBranch [] rfl (by decide) rfl rfl rfl rfl (Nat.le_of_ble_eq_true rfl) ⟨Nat.zero_le _, Nat.zero_le _⟩ dX6_noteDone_45 ?_
    refine gq_fbif_eq (tgt := 60) X dX6_noteDone_48 (by decide) (fun h48 => ?_) (fun h48 => ?_)
    · refine gq_aload_n X dX6_noteDone_51 0 rfl ?_
      refine gq_get (C := RX6) (T := TX6) (N := 10) X iX6_noteDone_X6 0 gl_GF_c0 rfl 4 (by decide) fX6_noteDone_X6_4 rfl dX6_noteDone_52 ?_
      refine gq_iconst (v := 5) X dX6_noteDone_55 gq_i5 ?_
      refine gq_iconst (v := 1) X dX6_noteDone_56 gq_i1 ?_
      refine gq_letr (fun s7 es7 => ?_)
      refine gq_callVv (ws' := gw_GF cA a s7) X (c_X5_add l D cA (a 39) (a 40) 18 (by decide) (gF_counts s4) 5 1) rfl ⟨rfl, rfl⟩ ⟨Nat.le_of_ble_eq_true rfl, Nat.le_of_ble_eq_true rfl⟩ gX6_noteDone_X5_add hv_X5_add 39 rfl rfl [39, 40] gl_GF_39_at gl_GF_39_nd gl_Row_fst (by rw [es7]; exact gl_GF_39_set) rfl rfl (Nat.le_of_ble_eq_true rfl) ⟨Nat.zero_le _, Nat.zero_le _⟩ dX6_noteDone_57 ?_
      exact gq_vretf X dX6_noteDone_60 rfl rfl
    · exact gq_vretf X dX6_noteDone_60 rfl rfl
theorem iX6_goBack_X6 : ∀ w ∈ u_ws RX6 TX6 10, w ∈ wsX6_goBack := by decide +kernel
theorem fX6_goBack_X6_2 : Cond.fieldLink RX6 26 (TX6 2).1 (TX6 2).2.1 (TX6 2).2.2.1 ∈ wsX6_goBack := by decide +kernel
theorem fX6_goBack_X6_3 : Cond.fieldLink RX6 33 (TX6 3).1 (TX6 3).2.1 (TX6 3).2.2.1 ∈ wsX6_goBack := by decide +kernel
theorem fX6_goBack_X6_4 : Cond.fieldLink RX6 42 (TX6 4).1 (TX6 4).2.1 (TX6 4).2.2.1 ∈ wsX6_goBack := by decide +kernel
theorem fX6_goBack_X6_8 : Cond.fieldLink RX6 60 (TX6 8).1 (TX6 8).2.1 (TX6 8).2.2.1 ∈ wsX6_goBack := by decide +kernel
theorem hv_X6_goBack : yX6_goBack.cls = RX6 ∧ yX6_goBack.cls ≠ "java/lang/invoke/MethodHandle" ∧ yX6_goBack.cls ≠ "java/lang/invoke/VarHandle" ∧ (parseMethodDescriptor yX6_goBack.desc).map (fun d => d.parameters.length) = some 4 := by decide +kernel
def k_X6_goBack (S : gs_F) (x1 : Int32) (x2 : Int32) (y3 : Bool) (x4 : Int32) : gs_F :=
  gq_lt (sF_counts S (k_X5_add 18 (gF_counts S) 2 1)) (fun s1 =>
  gq_lt (sF_counts s1 (k_X5_add 18 (gF_counts s1) 14 1)) (fun s2 =>
  if k_X6_isBranch x2 = true then
    gq_lt (sF_counts s2 (k_X5_add 18 (gF_counts s2) 6 1)) (fun s3 =>
    if x2 = 9 then
      gq_lt (sF_counts s3 (k_X5_add 18 (gF_counts s3) 7 1)) (fun s4 =>
      gq_lt (k_X6_dropFetched s4) (fun s5 =>
      gq_lt (sF_place s5 x4) (fun s6 =>
      gq_lt (sF_gues s6 (k_X1_setHistory (gF_gues s6) (k_X4_historyOf (gF_queue s6) x1))) (fun s7 =>
      gq_lt (k_X4_giveReturnsBack (gF_queue s7, (gF_gues s7).2.2.2.2.2.2.1) x1) (fun r8 =>
      gq_lt (sF_gues (sF_queue s7 r8.1) ((gF_gues (sF_queue s7 r8.1)).1, (gF_gues (sF_queue s7 r8.1)).2.1, (gF_gues (sF_queue s7 r8.1)).2.2.1, (gF_gues (sF_queue s7 r8.1)).2.2.2.1, (gF_gues (sF_queue s7 r8.1)).2.2.2.2.1, (gF_gues (sF_queue s7 r8.1)).2.2.2.2.2.1, r8.2, (gF_gues (sF_queue s7 r8.1)).2.2.2.2.2.2.2)) (fun s9 =>
      gq_lt (sF_gues s9 (k_X1_noteWhatWasDone (gF_gues s9) (k_X4_addressOf (gF_queue s9) x1) x2 y3)) (fun s10 =>
      s10)))))))
    else
      gq_lt (k_X6_dropFetched s3) (fun s11 =>
      gq_lt (sF_place s11 x4) (fun s12 =>
      gq_lt (sF_gues s12 (k_X1_setHistory (gF_gues s12) (k_X4_historyOf (gF_queue s12) x1))) (fun s13 =>
      gq_lt (k_X4_giveReturnsBack (gF_queue s13, (gF_gues s13).2.2.2.2.2.2.1) x1) (fun r14 =>
      gq_lt (sF_gues (sF_queue s13 r14.1) ((gF_gues (sF_queue s13 r14.1)).1, (gF_gues (sF_queue s13 r14.1)).2.1, (gF_gues (sF_queue s13 r14.1)).2.2.1, (gF_gues (sF_queue s13 r14.1)).2.2.2.1, (gF_gues (sF_queue s13 r14.1)).2.2.2.2.1, (gF_gues (sF_queue s13 r14.1)).2.2.2.2.2.1, r14.2, (gF_gues (sF_queue s13 r14.1)).2.2.2.2.2.2.2)) (fun s15 =>
      gq_lt (sF_gues s15 (k_X1_noteWhatWasDone (gF_gues s15) (k_X4_addressOf (gF_queue s15) x1) x2 y3)) (fun s16 =>
      s16)))))))
  else
    if x2 = 9 then
      gq_lt (sF_counts s2 (k_X5_add 18 (gF_counts s2) 7 1)) (fun s17 =>
      gq_lt (k_X6_dropFetched s17) (fun s18 =>
      gq_lt (sF_place s18 x4) (fun s19 =>
      gq_lt (sF_gues s19 (k_X1_setHistory (gF_gues s19) (k_X4_historyOf (gF_queue s19) x1))) (fun s20 =>
      gq_lt (k_X4_giveReturnsBack (gF_queue s20, (gF_gues s20).2.2.2.2.2.2.1) x1) (fun r21 =>
      gq_lt (sF_gues (sF_queue s20 r21.1) ((gF_gues (sF_queue s20 r21.1)).1, (gF_gues (sF_queue s20 r21.1)).2.1, (gF_gues (sF_queue s20 r21.1)).2.2.1, (gF_gues (sF_queue s20 r21.1)).2.2.2.1, (gF_gues (sF_queue s20 r21.1)).2.2.2.2.1, (gF_gues (sF_queue s20 r21.1)).2.2.2.2.2.1, r21.2, (gF_gues (sF_queue s20 r21.1)).2.2.2.2.2.2.2)) (fun s22 =>
      gq_lt (sF_gues s22 (k_X1_noteWhatWasDone (gF_gues s22) (k_X4_addressOf (gF_queue s22) x1) x2 y3)) (fun s23 =>
      s23)))))))
    else
      gq_lt (k_X6_dropFetched s2) (fun s24 =>
      gq_lt (sF_place s24 x4) (fun s25 =>
      gq_lt (sF_gues s25 (k_X1_setHistory (gF_gues s25) (k_X4_historyOf (gF_queue s25) x1))) (fun s26 =>
      gq_lt (k_X4_giveReturnsBack (gF_queue s26, (gF_gues s26).2.2.2.2.2.2.1) x1) (fun r27 =>
      gq_lt (sF_gues (sF_queue s26 r27.1) ((gF_gues (sF_queue s26 r27.1)).1, (gF_gues (sF_queue s26 r27.1)).2.1, (gF_gues (sF_queue s26 r27.1)).2.2.1, (gF_gues (sF_queue s26 r27.1)).2.2.2.1, (gF_gues (sF_queue s26 r27.1)).2.2.2.2.1, (gF_gues (sF_queue s26 r27.1)).2.2.2.2.2.1, r27.2, (gF_gues (sF_queue s26 r27.1)).2.2.2.2.2.2.2)) (fun s28 =>
      gq_lt (sF_gues s28 (k_X1_noteWhatWasDone (gF_gues s28) (k_X4_addressOf (gF_queue s28) x1) x2 y3)) (fun s29 =>
      s29))))))))
set_option maxHeartbeats 4000000 in
set_option maxRecDepth 100000 in
theorem c_X6_goBack (l : Launch) (D : va_G) (cA : ClassId) (a : Nat → Nat) (S : gs_F) (x1 : Int32) (x2 : Int32) (y3 : Bool) (x4 : Int32) : gq_C l yX6_goBack wsX6_goBack ({ frames := 4, cells := 0, slots := 0, locals := 86 } : Room) D cA [.ref (a 0), .int x1, .int x2, .int (gq_b y3), .int x4] (gw_GF cA a S) (none) (gw_GF cA a (k_X6_goBack S x1 x2 y3 x4)) := by
  refine gq_openf (own := RX6) (lv := [(0, .ref (a 0)), (1, .int x1), (2, .int x2), (3, .int (gq_b y3)), (4, .int x4)]) (fun r : gs_F => (none, gw_GF cA a r)) (k_X6_goBack S x1 x2 y3 x4) (by decide) rfl rfl (Nat.le_of_ble_eq_true rfl) rfl rfl rfl (fun p e s m args below meth c A X => ?_)
  unfold k_X6_goBack
  refine gq_aload_n X dX6_goBack_0 0 rfl ?_
  refine gq_get (C := RX6) (T := TX6) (N := 10) X iX6_goBack_X6 0 gl_GF_c0 rfl 4 (by decide) fX6_goBack_X6_4 rfl dX6_goBack_1 ?_
  refine gq_iconst (v := 2) X dX6_goBack_4 gq_i2 ?_
  refine gq_iconst (v := 1) X dX6_goBack_5 gq_i1 ?_
  refine gq_letr (fun s1 es1 => ?_)
  refine gq_callVv (ws' := gw_GF cA a s1) X (c_X5_add l D cA (a 39) (a 40) 18 (by decide) (gF_counts S) 2 1) rfl ⟨rfl, rfl⟩ ⟨Nat.le_of_ble_eq_true rfl, Nat.le_of_ble_eq_true rfl⟩ gX6_goBack_X5_add hv_X5_add 39 rfl rfl [39, 40] gl_GF_39_at gl_GF_39_nd gl_Row_fst (by rw [es1]; exact gl_GF_39_set) rfl rfl (Nat.le_of_ble_eq_true rfl) ⟨Nat.zero_le _, Nat.zero_le _⟩ dX6_goBack_6 ?_
  refine gq_aload_n X dX6_goBack_9 0 rfl ?_
  refine gq_get (C := RX6) (T := TX6) (N := 10) X iX6_goBack_X6 0 gl_GF_c0 rfl 4 (by decide) fX6_goBack_X6_4 rfl dX6_goBack_10 ?_
  refine gq_bipush (v := 14) X dX6_goBack_13 (by decide) ?_
  refine gq_iconst (v := 1) X dX6_goBack_15 gq_i1 ?_
  refine gq_letr (fun s2 es2 => ?_)
  refine gq_callVv (ws' := gw_GF cA a s2) X (c_X5_add l D cA (a 39) (a 40) 18 (by decide) (gF_counts s1) 14 1) rfl ⟨rfl, rfl⟩ ⟨Nat.le_of_ble_eq_true rfl, Nat.le_of_ble_eq_true rfl⟩ gX6_goBack_X5_add hv_X5_add 39 rfl rfl [39, 40] gl_GF_39_at gl_GF_39_nd gl_Row_fst (by rw [es2]; exact gl_GF_39_set) rfl rfl (Nat.le_of_ble_eq_true rfl) ⟨Nat.zero_le _, Nat.zero_le _⟩ dX6_goBack_16 ?_
  refine gq_iload_n X dX6_goBack_19 2 rfl ?_
  refine gq_callSr (ws' := gw_GF cA a s2) X (c_X6_isBranch l D cA x2) rfl ⟨rfl, rfl⟩ ⟨Nat.le_of_ble_eq_true rfl, Nat.le_of_ble_eq_true rfl⟩ gX6_goBack_X6_isBranch hd_X6_isBranch [] rfl (by decide) rfl rfl rfl rfl (Nat.le_of_ble_eq_true rfl) ⟨Nat.zero_le _, Nat.zero_le _⟩ dX6_goBack_20 ?_
  refine gq_fbif_eq (tgt := 36) X dX6_goBack_23 (by decide) (fun h23 => ?_) (fun h23 => ?_)
  · refine gq_aload_n X dX6_goBack_26 0 rfl ?_
    refine gq_get (C := RX6) (T := TX6) (N := 10) X iX6_goBack_X6 0 gl_GF_c0 rfl 4 (by decide) fX6_goBack_X6_4 rfl dX6_goBack_27 ?_
    refine gq_bipush (v := 6) X dX6_goBack_30 (by decide) ?_
    refine gq_iconst (v := 1) X dX6_goBack_32 gq_i1 ?_
    refine gq_letr (fun s3 es3 => ?_)
    refine gq_callVv (ws' := gw_GF cA a s3) X (c_X5_add l D cA (a 39) (a 40) 18 (by decide) (gF_counts s2) 6 1) rfl ⟨rfl, rfl⟩ ⟨Nat.le_of_ble_eq_true rfl, Nat.le_of_ble_eq_true rfl⟩ gX6_goBack_X5_add hv_X5_add 39 rfl rfl [39, 40] gl_GF_39_at gl_GF_39_nd gl_Row_fst (by rw [es3]; exact gl_GF_39_set) rfl rfl (Nat.le_of_ble_eq_true rfl) ⟨Nat.zero_le _, Nat.zero_le _⟩ dX6_goBack_33 ?_
    refine gq_iload_n X dX6_goBack_36 2 rfl ?_
    refine gq_bipush (v := 9) X dX6_goBack_37 (by decide) ?_
    refine gq_ficmp_ne (tgt := 52) X dX6_goBack_39 (by decide) (fun h39 => ?_) (fun h39 => ?_)
    · refine gq_aload_n X dX6_goBack_42 0 rfl ?_
      refine gq_get (C := RX6) (T := TX6) (N := 10) X iX6_goBack_X6 0 gl_GF_c0 rfl 4 (by decide) fX6_goBack_X6_4 rfl dX6_goBack_43 ?_
      refine gq_bipush (v := 7) X dX6_goBack_46 (by decide) ?_
      refine gq_iconst (v := 1) X dX6_goBack_48 gq_i1 ?_
      refine gq_letr (fun s4 es4 => ?_)
      refine gq_callVv (ws' := gw_GF cA a s4) X (c_X5_add l D cA (a 39) (a 40) 18 (by decide) (gF_counts s3) 7 1) rfl ⟨rfl, rfl⟩ ⟨Nat.le_of_ble_eq_true rfl, Nat.le_of_ble_eq_true rfl⟩ gX6_goBack_X5_add hv_X5_add 39 rfl rfl [39, 40] gl_GF_39_at gl_GF_39_nd gl_Row_fst (by rw [es4]; exact gl_GF_39_set) rfl rfl (Nat.le_of_ble_eq_true rfl) ⟨Nat.zero_le _, Nat.zero_le _⟩ dX6_goBack_49 ?_
      refine gq_aload_n X dX6_goBack_52 0 rfl ?_
      refine gq_letr (fun s5 es5 => ?_)
      refine gq_callVv (ws' := gw_GF cA a s5) X (c_X6_dropFetched l D cA a s4) rfl ⟨rfl, rfl⟩ ⟨Nat.le_of_ble_eq_true rfl, Nat.le_of_ble_eq_true rfl⟩ gX6_goBack_X6_dropFetched hv_X6_dropFetched 0 gl_GF_c0 rfl [0, 1, 2, 3, 4, 5, 6, 7, 8, 9, 10, 11, 12, 13, 14, 15, 16, 17, 18, 19, 20, 21, 22, 23, 24, 25, 26, 27, 28, 29, 30, 31, 32, 33, 34, 35, 36, 37, 38, 39, 40, 41, 42] gl_GF_self_at gl_GF_self_nd gl_GF_fst (by rw [es5]; exact gl_GF_self_set) rfl rfl (Nat.le_of_ble_eq_true rfl) ⟨Nat.zero_le _, Nat.zero_le _⟩ dX6_goBack_53 ?_
      refine gq_aload_n X dX6_goBack_56 0 rfl ?_
      refine gq_iload X dX6_goBack_57 4 rfl ?_
      refine gq_letr (fun s6 es6 => ?_)
      refine gq_put (C := RX6) (T := TX6) (N := 10) (ws' := gw_GF cA a s6) X iX6_goBack_X6 tyX6 tyX6_ok nmX6 0 gl_GF_c0 rfl 8 (by decide) fX6_goBack_X6_8 rfl rfl rfl (Nat.le_of_ble_eq_true rfl) (by rw [es6]; exact gl_GF_f8) dX6_goBack_59 ?_
      refine gq_aload_n X dX6_goBack_62 0 rfl ?_
      refine gq_get (C := RX6) (T := TX6) (N := 10) X iX6_goBack_X6 0 gl_GF_c0 rfl 2 (by decide) fX6_goBack_X6_2 rfl dX6_goBack_63 ?_
      refine gq_aload_n X dX6_goBack_66 0 rfl ?_
      refine gq_get (C := RX6) (T := TX6) (N := 10) X iX6_goBack_X6 0 gl_GF_c0 rfl 3 (by decide) fX6_goBack_X6_3 rfl dX6_goBack_67 ?_
      refine gq_iload_n X dX6_goBack_70 1 rfl ?_
      refine gq_callVr (ws' := gw_GF cA a s6) X (c_X4_historyOf l D cA (a 26) (a 27) (a 28) (a 29) (a 30) (a 31) (a 32) (a 33) (a 34) (a 35) (a 36) (a 37) (a 38) (gF_queue s6) x1) rfl ⟨rfl, rfl⟩ ⟨Nat.le_of_ble_eq_true rfl, Nat.le_of_ble_eq_true rfl⟩ gX6_goBack_X4_historyOf hv_X4_historyOf 26 rfl rfl [26, 27, 28, 29, 30, 31, 32, 33, 34, 35, 36, 37, 38] gl_GF_26_at gl_GF_26_nd gl_Que_fst gl_GF_26_same rfl rfl (Nat.le_of_ble_eq_true rfl) ⟨Nat.zero_le _, Nat.zero_le _⟩ dX6_goBack_71 ?_
      refine gq_letr (fun s7 es7 => ?_)
      refine gq_callVv (ws' := gw_GF cA a s7) X (c_X1_setHistory l D cA (a 11) (a 12) (a 13) (a 14) (a 15) (a 16) (a 17) (a 18) (a 19) (a 20) (a 21) (a 22) (a 23) (a 24) (a 25) (gF_gues s6) (k_X4_historyOf (gF_queue s6) x1)) rfl ⟨rfl, rfl⟩ ⟨Nat.le_of_ble_eq_true rfl, Nat.le_of_ble_eq_true rfl⟩ gX6_goBack_X1_setHistory hv_X1_setHistory 11 rfl rfl [11, 12, 13, 14, 15, 16, 17, 18, 19, 20, 21, 22, 23, 24, 25] gl_GF_11_at gl_GF_11_nd gl_Gues_fst (by rw [es7]; exact gl_GF_11_set) rfl rfl (Nat.le_of_ble_eq_true rfl) ⟨Nat.zero_le _, Nat.zero_le _⟩ dX6_goBack_74 ?_
      refine gq_aload_n X dX6_goBack_77 0 rfl ?_
      refine gq_get (C := RX6) (T := TX6) (N := 10) X iX6_goBack_X6 0 gl_GF_c0 rfl 3 (by decide) fX6_goBack_X6_3 rfl dX6_goBack_78 ?_
      refine gq_iload_n X dX6_goBack_81 1 rfl ?_
      refine gq_aload_n X dX6_goBack_82 0 rfl ?_
      refine gq_get (C := RX6) (T := TX6) (N := 10) X iX6_goBack_X6 0 gl_GF_c0 rfl 2 (by decide) fX6_goBack_X6_2 rfl dX6_goBack_83 ?_
      refine gq_callVr (ws' := gw_GF cA a s7) X (gq_Ceq (res2 := some (Value.ref (a 24))) (c_X1_returns l D cA (a 11) (a 12) (a 13) (a 14) (a 15) (a 16) (a 17) (a 18) (a 19) (a 20) (a 21) (a 22) (a 23) (a 24) (a 25) (gF_gues s7)) rfl rfl) rfl ⟨rfl, rfl⟩ ⟨Nat.le_of_ble_eq_true rfl, Nat.le_of_ble_eq_true rfl⟩ gX6_goBack_X1_returns hv_X1_returns 11 rfl rfl [11, 12, 13, 14, 15, 16, 17, 18, 19, 20, 21, 22, 23, 24, 25] gl_GF_11_at gl_GF_11_nd gl_Gues_fst gl_GF_11_same rfl rfl (Nat.le_of_ble_eq_true rfl) ⟨Nat.zero_le _, Nat.zero_le _⟩ dX6_goBack_86 ?_
      refine gq_letr (fun r8 er8 => ?_)
      refine gq_letr (fun s9 es9 => ?_)
      refine gq_callVv (ws' := gw_GF cA a s9) X (gq_Ceq (res2 := none) (w2 := gw_QuePile cA (a 26) (a 27) (a 28) (a 29) (a 30) (a 31) (a 32) (a 33) (a 34) (a 35) (a 36) (a 37) (a 38) (a 24) (a 25) r8) (c_X4_giveReturnsBack l D cA (a 26) (a 27) (a 28) (a 29) (a 30) (a 31) (a 32) (a 33) (a 34) (a 35) (a 36) (a 37) (a 38) (a 24) (a 25) (gF_queue s7, (gF_gues s7).2.2.2.2.2.2.1) x1) rfl (by rw [er8])) rfl ⟨rfl, rfl⟩ ⟨Nat.le_of_ble_eq_true rfl, Nat.le_of_ble_eq_true rfl⟩ gX6_goBack_X4_giveReturnsBack hv_X4_giveReturnsBack 26 rfl rfl [26, 27, 28, 29, 30, 31, 32, 33, 34, 35, 36, 37, 38, 24, 25] gl_GF_pair_26_24_at gl_GF_pair_26_24_nd gl_QuePile_fst (by rw [es9]; exact gl_GF_pair_26_24_set) rfl rfl (Nat.le_of_ble_eq_true rfl) ⟨Nat.zero_le _, Nat.zero_le _⟩ dX6_goBack_89 ?_
      refine gq_aload_n X dX6_goBack_92 0 rfl ?_
      refine gq_get (C := RX6) (T := TX6) (N := 10) X iX6_goBack_X6 0 gl_GF_c0 rfl 2 (by decide) fX6_goBack_X6_2 rfl dX6_goBack_93 ?_
      refine gq_aload_n X dX6_goBack_96 0 rfl ?_
      refine gq_get (C := RX6) (T := TX6) (N := 10) X iX6_goBack_X6 0 gl_GF_c0 rfl 3 (by decide) fX6_goBack_X6_3 rfl dX6_goBack_97 ?_
      refine gq_iload_n X dX6_goBack_100 1 rfl ?_
      refine gq_callVr (ws' := gw_GF cA a s9) X (c_X4_addressOf l D cA (a 26) (a 27) (a 28) (a 29) (a 30) (a 31) (a 32) (a 33) (a 34) (a 35) (a 36) (a 37) (a 38) (gF_queue s9) x1) rfl ⟨rfl, rfl⟩ ⟨Nat.le_of_ble_eq_true rfl, Nat.le_of_ble_eq_true rfl⟩ gX6_goBack_X4_addressOf hv_X4_addressOf 26 rfl rfl [26, 27, 28, 29, 30, 31, 32, 33, 34, 35, 36, 37, 38] gl_GF_26_at gl_GF_26_nd gl_Que_fst gl_GF_26_same rfl rfl (Nat.le_of_ble_eq_true rfl) ⟨Nat.zero_le _, Nat.zero_le _⟩ dX6_goBack_101 ?_
      refine gq_iload_n X dX6_goBack_104 2 rfl ?_
      refine gq_iload_n X dX6_goBack_105 3 rfl ?_
      refine gq_letr (fun s10 es10 => ?_)
      refine gq_callVv (ws' := gw_GF cA a s10) X (c_X1_noteWhatWasDone l D cA (a 11) (a 12) (a 13) (a 14) (a 15) (a 16) (a 17) (a 18) (a 19) (a 20) (a 21) (a 22) (a 23) (a 24) (a 25) (gF_gues s9) (k_X4_addressOf (gF_queue s9) x1) x2 y3) rfl ⟨rfl, rfl⟩ ⟨Nat.le_of_ble_eq_true rfl, Nat.le_of_ble_eq_true rfl⟩ gX6_goBack_X1_noteWhatWasDone hv_X1_noteWhatWasDone 11 rfl rfl [11, 12, 13, 14, 15, 16, 17, 18, 19, 20, 21, 22, 23, 24, 25] gl_GF_11_at gl_GF_11_nd gl_Gues_fst (by rw [es10]; exact gl_GF_11_set) rfl rfl (Nat.le_of_ble_eq_true rfl) ⟨Nat.zero_le _, Nat.zero_le _⟩ dX6_goBack_106 ?_
      exact gq_vretf X dX6_goBack_109 rfl rfl
    · refine gq_aload_n X dX6_goBack_52 0 rfl ?_
      refine gq_letr (fun s11 es11 => ?_)
      refine gq_callVv (ws' := gw_GF cA a s11) X (c_X6_dropFetched l D cA a s3) rfl ⟨rfl, rfl⟩ ⟨Nat.le_of_ble_eq_true rfl, Nat.le_of_ble_eq_true rfl⟩ gX6_goBack_X6_dropFetched hv_X6_dropFetched 0 gl_GF_c0 rfl [0, 1, 2, 3, 4, 5, 6, 7, 8, 9, 10, 11, 12, 13, 14, 15, 16, 17, 18, 19, 20, 21, 22, 23, 24, 25, 26, 27, 28, 29, 30, 31, 32, 33, 34, 35, 36, 37, 38, 39, 40, 41, 42] gl_GF_self_at gl_GF_self_nd gl_GF_fst (by rw [es11]; exact gl_GF_self_set) rfl rfl (Nat.le_of_ble_eq_true rfl) ⟨Nat.zero_le _, Nat.zero_le _⟩ dX6_goBack_53 ?_
      refine gq_aload_n X dX6_goBack_56 0 rfl ?_
      refine gq_iload X dX6_goBack_57 4 rfl ?_
      refine gq_letr (fun s12 es12 => ?_)
      refine gq_put (C := RX6) (T := TX6) (N := 10) (ws' := gw_GF cA a s12) X iX6_goBack_X6 tyX6 tyX6_ok nmX6 0 gl_GF_c0 rfl 8 (by decide) fX6_goBack_X6_8 rfl rfl rfl (Nat.le_of_ble_eq_true rfl) (by rw [es12]; exact gl_GF_f8) dX6_goBack_59 ?_
      refine gq_aload_n X dX6_goBack_62 0 rfl ?_
      refine gq_get (C := RX6) (T := TX6) (N := 10) X iX6_goBack_X6 0 gl_GF_c0 rfl 2 (by decide) fX6_goBack_X6_2 rfl dX6_goBack_63 ?_
      refine gq_aload_n X dX6_goBack_66 0 rfl ?_
      refine gq_get (C := RX6) (T := TX6) (N := 10) X iX6_goBack_X6 0 gl_GF_c0 rfl 3 (by decide) fX6_goBack_X6_3 rfl dX6_goBack_67 ?_
      refine gq_iload_n X dX6_goBack_70 1 rfl ?_
      refine gq_callVr (ws' := gw_GF cA a s12) X (c_X4_historyOf l D cA (a 26) (a 27) (a 28) (a 29) (a 30) (a 31) (a 32) (a 33) (a 34) (a 35) (a 36) (a 37) (a 38) (gF_queue s12) x1) rfl ⟨rfl, rfl⟩ ⟨Nat.le_of_ble_eq_true rfl, Nat.le_of_ble_eq_true rfl⟩ gX6_goBack_X4_historyOf hv_X4_historyOf 26 rfl rfl [26, 27, 28, 29, 30, 31, 32, 33, 34, 35, 36, 37, 38] gl_GF_26_at gl_GF_26_nd gl_Que_fst gl_GF_26_same rfl rfl (Nat.le_of_ble_eq_true rfl) ⟨Nat.zero_le _, Nat.zero_le _⟩ dX6_goBack_71 ?_
      refine gq_letr (fun s13 es13 => ?_)
      refine gq_callVv (ws' := gw_GF cA a s13) X (c_X1_setHistory l D cA (a 11) (a 12) (a 13) (a 14) (a 15) (a 16) (a 17) (a 18) (a 19) (a 20) (a 21) (a 22) (a 23) (a 24) (a 25) (gF_gues s12) (k_X4_historyOf (gF_queue s12) x1)) rfl ⟨rfl, rfl⟩ ⟨Nat.le_of_ble_eq_true rfl, Nat.le_of_ble_eq_true rfl⟩ gX6_goBack_X1_setHistory hv_X1_setHistory 11 rfl rfl [11, 12, 13, 14, 15, 16, 17, 18, 19, 20, 21, 22, 23, 24, 25] gl_GF_11_at gl_GF_11_nd gl_Gues_fst (by rw [es13]; exact gl_GF_11_set) rfl rfl (Nat.le_of_ble_eq_true rfl) ⟨Nat.zero_le _, Nat.zero_le _⟩ dX6_goBack_74 ?_
      refine gq_aload_n X dX6_goBack_77 0 rfl ?_
      refine gq_get (C := RX6) (T := TX6) (N := 10) X iX6_goBack_X6 0 gl_GF_c0 rfl 3 (by decide) fX6_goBack_X6_3 rfl dX6_goBack_78 ?_
      refine gq_iload_n X dX6_goBack_81 1 rfl ?_
      refine gq_aload_n X dX6_goBack_82 0 rfl ?_
      refine gq_get (C := RX6) (T := TX6) (N := 10) X iX6_goBack_X6 0 gl_GF_c0 rfl 2 (by decide) fX6_goBack_X6_2 rfl dX6_goBack_83 ?_
      refine gq_callVr (ws' := gw_GF cA a s13) X (gq_Ceq (res2 := some (Value.ref (a 24))) (c_X1_returns l D cA (a 11) (a 12) (a 13) (a 14) (a 15) (a 16) (a 17) (a 18) (a 19) (a 20) (a 21) (a 22) (a 23) (a 24) (a 25) (gF_gues s13)) rfl rfl) rfl ⟨rfl, rfl⟩ ⟨Nat.le_of_ble_eq_true rfl, Nat.le_of_ble_eq_true rfl⟩ gX6_goBack_X1_returns hv_X1_returns 11 rfl rfl [11, 12, 13, 14, 15, 16, 17, 18, 19, 20, 21, 22, 23, 24, 25] gl_GF_11_at gl_GF_11_nd gl_Gues_fst gl_GF_11_same rfl rfl (Nat.le_of_ble_eq_true rfl) ⟨Nat.zero_le _, Nat.zero_le _⟩ dX6_goBack_86 ?_
      refine gq_letr (fun r14 er14 => ?_)
      refine gq_letr (fun s15 es15 => ?_)
      refine gq_callVv (ws' := gw_GF cA a s15) X (gq_Ceq (res2 := none) (w2 := gw_QuePile cA (a 26) (a 27) (a 28) (a 29) (a 30) (a 31) (a 32) (a 33) (a 34) (a 35) (a 36) (a 37) (a 38) (a 24) (a 25) r14) (c_X4_giveReturnsBack l D cA (a 26) (a 27) (a 28) (a 29) (a 30) (a 31) (a 32) (a 33) (a 34) (a 35) (a 36) (a 37) (a 38) (a 24) (a 25) (gF_queue s13, (gF_gues s13).2.2.2.2.2.2.1) x1) rfl (by rw [er14])) rfl ⟨rfl, rfl⟩ ⟨Nat.le_of_ble_eq_true rfl, Nat.le_of_ble_eq_true rfl⟩ gX6_goBack_X4_giveReturnsBack hv_X4_giveReturnsBack 26 rfl rfl [26, 27, 28, 29, 30, 31, 32, 33, 34, 35, 36, 37, 38, 24, 25] gl_GF_pair_26_24_at gl_GF_pair_26_24_nd gl_QuePile_fst (by rw [es15]; exact gl_GF_pair_26_24_set) rfl rfl (Nat.le_of_ble_eq_true rfl) ⟨Nat.zero_le _, Nat.zero_le _⟩ dX6_goBack_89 ?_
      refine gq_aload_n X dX6_goBack_92 0 rfl ?_
      refine gq_get (C := RX6) (T := TX6) (N := 10) X iX6_goBack_X6 0 gl_GF_c0 rfl 2 (by decide) fX6_goBack_X6_2 rfl dX6_goBack_93 ?_
      refine gq_aload_n X dX6_goBack_96 0 rfl ?_
      refine gq_get (C := RX6) (T := TX6) (N := 10) X iX6_goBack_X6 0 gl_GF_c0 rfl 3 (by decide) fX6_goBack_X6_3 rfl dX6_goBack_97 ?_
      refine gq_iload_n X dX6_goBack_100 1 rfl ?_
      refine gq_callVr (ws' := gw_GF cA a s15) X (c_X4_addressOf l D cA (a 26) (a 27) (a 28) (a 29) (a 30) (a 31) (a 32) (a 33) (a 34) (a 35) (a 36) (a 37) (a 38) (gF_queue s15) x1) rfl ⟨rfl, rfl⟩ ⟨Nat.le_of_ble_eq_true rfl, Nat.le_of_ble_eq_true rfl⟩ gX6_goBack_X4_addressOf hv_X4_addressOf 26 rfl rfl [26, 27, 28, 29, 30, 31, 32, 33, 34, 35, 36, 37, 38] gl_GF_26_at gl_GF_26_nd gl_Que_fst gl_GF_26_same rfl rfl (Nat.le_of_ble_eq_true rfl) ⟨Nat.zero_le _, Nat.zero_le _⟩ dX6_goBack_101 ?_
      refine gq_iload_n X dX6_goBack_104 2 rfl ?_
      refine gq_iload_n X dX6_goBack_105 3 rfl ?_
      refine gq_letr (fun s16 es16 => ?_)
      refine gq_callVv (ws' := gw_GF cA a s16) X (c_X1_noteWhatWasDone l D cA (a 11) (a 12) (a 13) (a 14) (a 15) (a 16) (a 17) (a 18) (a 19) (a 20) (a 21) (a 22) (a 23) (a 24) (a 25) (gF_gues s15) (k_X4_addressOf (gF_queue s15) x1) x2 y3) rfl ⟨rfl, rfl⟩ ⟨Nat.le_of_ble_eq_true rfl, Nat.le_of_ble_eq_true rfl⟩ gX6_goBack_X1_noteWhatWasDone hv_X1_noteWhatWasDone 11 rfl rfl [11, 12, 13, 14, 15, 16, 17, 18, 19, 20, 21, 22, 23, 24, 25] gl_GF_11_at gl_GF_11_nd gl_Gues_fst (by rw [es16]; exact gl_GF_11_set) rfl rfl (Nat.le_of_ble_eq_true rfl) ⟨Nat.zero_le _, Nat.zero_le _⟩ dX6_goBack_106 ?_
      exact gq_vretf X dX6_goBack_109 rfl rfl
  · refine gq_iload_n X dX6_goBack_36 2 rfl ?_
    refine gq_bipush (v := 9) X dX6_goBack_37 (by decide) ?_
    refine gq_ficmp_ne (tgt := 52) X dX6_goBack_39 (by decide) (fun h39 => ?_) (fun h39 => ?_)
    · refine gq_aload_n X dX6_goBack_42 0 rfl ?_
      refine gq_get (C := RX6) (T := TX6) (N := 10) X iX6_goBack_X6 0 gl_GF_c0 rfl 4 (by decide) fX6_goBack_X6_4 rfl dX6_goBack_43 ?_
      refine gq_bipush (v := 7) X dX6_goBack_46 (by decide) ?_
      refine gq_iconst (v := 1) X dX6_goBack_48 gq_i1 ?_
      refine gq_letr (fun s17 es17 => ?_)
      refine gq_callVv (ws' := gw_GF cA a s17) X (c_X5_add l D cA (a 39) (a 40) 18 (by decide) (gF_counts s2) 7 1) rfl ⟨rfl, rfl⟩ ⟨Nat.le_of_ble_eq_true rfl, Nat.le_of_ble_eq_true rfl⟩ gX6_goBack_X5_add hv_X5_add 39 rfl rfl [39, 40] gl_GF_39_at gl_GF_39_nd gl_Row_fst (by rw [es17]; exact gl_GF_39_set) rfl rfl (Nat.le_of_ble_eq_true rfl) ⟨Nat.zero_le _, Nat.zero_le _⟩ dX6_goBack_49 ?_
      refine gq_aload_n X dX6_goBack_52 0 rfl ?_
      refine gq_letr (fun s18 es18 => ?_)
      refine gq_callVv (ws' := gw_GF cA a s18) X (c_X6_dropFetched l D cA a s17) rfl ⟨rfl, rfl⟩ ⟨Nat.le_of_ble_eq_true rfl, Nat.le_of_ble_eq_true rfl⟩ gX6_goBack_X6_dropFetched hv_X6_dropFetched 0 gl_GF_c0 rfl [0, 1, 2, 3, 4, 5, 6, 7, 8, 9, 10, 11, 12, 13, 14, 15, 16, 17, 18, 19, 20, 21, 22, 23, 24, 25, 26, 27, 28, 29, 30, 31, 32, 33, 34, 35, 36, 37, 38, 39, 40, 41, 42] gl_GF_self_at gl_GF_self_nd gl_GF_fst (by rw [es18]; exact gl_GF_self_set) rfl rfl (Nat.le_of_ble_eq_true rfl) ⟨Nat.zero_le _, Nat.zero_le _⟩ dX6_goBack_53 ?_
      refine gq_aload_n X dX6_goBack_56 0 rfl ?_
      refine gq_iload X dX6_goBack_57 4 rfl ?_
      refine gq_letr (fun s19 es19 => ?_)
      refine gq_put (C := RX6) (T := TX6) (N := 10) (ws' := gw_GF cA a s19) X iX6_goBack_X6 tyX6 tyX6_ok nmX6 0 gl_GF_c0 rfl 8 (by decide) fX6_goBack_X6_8 rfl rfl rfl (Nat.le_of_ble_eq_true rfl) (by rw [es19]; exact gl_GF_f8) dX6_goBack_59 ?_
      refine gq_aload_n X dX6_goBack_62 0 rfl ?_
      refine gq_get (C := RX6) (T := TX6) (N := 10) X iX6_goBack_X6 0 gl_GF_c0 rfl 2 (by decide) fX6_goBack_X6_2 rfl dX6_goBack_63 ?_
      refine gq_aload_n X dX6_goBack_66 0 rfl ?_
      refine gq_get (C := RX6) (T := TX6) (N := 10) X iX6_goBack_X6 0 gl_GF_c0 rfl 3 (by decide) fX6_goBack_X6_3 rfl dX6_goBack_67 ?_
      refine gq_iload_n X dX6_goBack_70 1 rfl ?_
      refine gq_callVr (ws' := gw_GF cA a s19) X (c_X4_historyOf l D cA (a 26) (a 27) (a 28) (a 29) (a 30) (a 31) (a 32) (a 33) (a 34) (a 35) (a 36) (a 37) (a 38) (gF_queue s19) x1) rfl ⟨rfl, rfl⟩ ⟨Nat.le_of_ble_eq_true rfl, Nat.le_of_ble_eq_true rfl⟩ gX6_goBack_X4_historyOf hv_X4_historyOf 26 rfl rfl [26, 27, 28, 29, 30, 31, 32, 33, 34, 35, 36, 37, 38] gl_GF_26_at gl_GF_26_nd gl_Que_fst gl_GF_26_same rfl rfl (Nat.le_of_ble_eq_true rfl) ⟨Nat.zero_le _, Nat.zero_le _⟩ dX6_goBack_71 ?_
      refine gq_letr (fun s20 es20 => ?_)
      refine gq_callVv (ws' := gw_GF cA a s20) X (c_X1_setHistory l D cA (a 11) (a 12) (a 13) (a 14) (a 15) (a 16) (a 17) (a 18) (a 19) (a 20) (a 21) (a 22) (a 23) (a 24) (a 25) (gF_gues s19) (k_X4_historyOf (gF_queue s19) x1)) rfl ⟨rfl, rfl⟩ ⟨Nat.le_of_ble_eq_true rfl, Nat.le_of_ble_eq_true rfl⟩ gX6_goBack_X1_setHistory hv_X1_setHistory 11 rfl rfl [11, 12, 13, 14, 15, 16, 17, 18, 19, 20, 21, 22, 23, 24, 25] gl_GF_11_at gl_GF_11_nd gl_Gues_fst (by rw [es20]; exact gl_GF_11_set) rfl rfl (Nat.le_of_ble_eq_true rfl) ⟨Nat.zero_le _, Nat.zero_le _⟩ dX6_goBack_74 ?_
      refine gq_aload_n X dX6_goBack_77 0 rfl ?_
      refine gq_get (C := RX6) (T := TX6) (N := 10) X iX6_goBack_X6 0 gl_GF_c0 rfl 3 (by decide) fX6_goBack_X6_3 rfl dX6_goBack_78 ?_
      refine gq_iload_n X dX6_goBack_81 1 rfl ?_
      refine gq_aload_n X dX6_goBack_82 0 rfl ?_
      refine gq_get (C := RX6) (T := TX6) (N := 10) X iX6_goBack_X6 0 gl_GF_c0 rfl 2 (by decide) fX6_goBack_X6_2 rfl dX6_goBack_83 ?_
      refine gq_callVr (ws' := gw_GF cA a s20) X (gq_Ceq (res2 := some (Value.ref (a 24))) (c_X1_returns l D cA (a 11) (a 12) (a 13) (a 14) (a 15) (a 16) (a 17) (a 18) (a 19) (a 20) (a 21) (a 22) (a 23) (a 24) (a 25) (gF_gues s20)) rfl rfl) rfl ⟨rfl, rfl⟩ ⟨Nat.le_of_ble_eq_true rfl, Nat.le_of_ble_eq_true rfl⟩ gX6_goBack_X1_returns hv_X1_returns 11 rfl rfl [11, 12, 13, 14, 15, 16, 17, 18, 19, 20, 21, 22, 23, 24, 25] gl_GF_11_at gl_GF_11_nd gl_Gues_fst gl_GF_11_same rfl rfl (Nat.le_of_ble_eq_true rfl) ⟨Nat.zero_le _, Nat.zero_le _⟩ dX6_goBack_86 ?_
      refine gq_letr (fun r21 er21 => ?_)
      refine gq_letr (fun s22 es22 => ?_)
      refine gq_callVv (ws' := gw_GF cA a s22) X (gq_Ceq (res2 := none) (w2 := gw_QuePile cA (a 26) (a 27) (a 28) (a 29) (a 30) (a 31) (a 32) (a 33) (a 34) (a 35) (a 36) (a 37) (a 38) (a 24) (a 25) r21) (c_X4_giveReturnsBack l D cA (a 26) (a 27) (a 28) (a 29) (a 30) (a 31) (a 32) (a 33) (a 34) (a 35) (a 36) (a 37) (a 38) (a 24) (a 25) (gF_queue s20, (gF_gues s20).2.2.2.2.2.2.1) x1) rfl (by rw [er21])) rfl ⟨rfl, rfl⟩ ⟨Nat.le_of_ble_eq_true rfl, Nat.le_of_ble_eq_true rfl⟩ gX6_goBack_X4_giveReturnsBack hv_X4_giveReturnsBack 26 rfl rfl [26, 27, 28, 29, 30, 31, 32, 33, 34, 35, 36, 37, 38, 24, 25] gl_GF_pair_26_24_at gl_GF_pair_26_24_nd gl_QuePile_fst (by rw [es22]; exact gl_GF_pair_26_24_set) rfl rfl (Nat.le_of_ble_eq_true rfl) ⟨Nat.zero_le _, Nat.zero_le _⟩ dX6_goBack_89 ?_
      refine gq_aload_n X dX6_goBack_92 0 rfl ?_
      refine gq_get (C := RX6) (T := TX6) (N := 10) X iX6_goBack_X6 0 gl_GF_c0 rfl 2 (by decide) fX6_goBack_X6_2 rfl dX6_goBack_93 ?_
      refine gq_aload_n X dX6_goBack_96 0 rfl ?_
      refine gq_get (C := RX6) (T := TX6) (N := 10) X iX6_goBack_X6 0 gl_GF_c0 rfl 3 (by decide) fX6_goBack_X6_3 rfl dX6_goBack_97 ?_
      refine gq_iload_n X dX6_goBack_100 1 rfl ?_
      refine gq_callVr (ws' := gw_GF cA a s22) X (c_X4_addressOf l D cA (a 26) (a 27) (a 28) (a 29) (a 30) (a 31) (a 32) (a 33) (a 34) (a 35) (a 36) (a 37) (a 38) (gF_queue s22) x1) rfl ⟨rfl, rfl⟩ ⟨Nat.le_of_ble_eq_true rfl, Nat.le_of_ble_eq_true rfl⟩ gX6_goBack_X4_addressOf hv_X4_addressOf 26 rfl rfl [26, 27, 28, 29, 30, 31, 32, 33, 34, 35, 36, 37, 38] gl_GF_26_at gl_GF_26_nd gl_Que_fst gl_GF_26_same rfl rfl (Nat.le_of_ble_eq_true rfl) ⟨Nat.zero_le _, Nat.zero_le _⟩ dX6_goBack_101 ?_
      refine gq_iload_n X dX6_goBack_104 2 rfl ?_
      refine gq_iload_n X dX6_goBack_105 3 rfl ?_
      refine gq_letr (fun s23 es23 => ?_)
      refine gq_callVv (ws' := gw_GF cA a s23) X (c_X1_noteWhatWasDone l D cA (a 11) (a 12) (a 13) (a 14) (a 15) (a 16) (a 17) (a 18) (a 19) (a 20) (a 21) (a 22) (a 23) (a 24) (a 25) (gF_gues s22) (k_X4_addressOf (gF_queue s22) x1) x2 y3) rfl ⟨rfl, rfl⟩ ⟨Nat.le_of_ble_eq_true rfl, Nat.le_of_ble_eq_true rfl⟩ gX6_goBack_X1_noteWhatWasDone hv_X1_noteWhatWasDone 11 rfl rfl [11, 12, 13, 14, 15, 16, 17, 18, 19, 20, 21, 22, 23, 24, 25] gl_GF_11_at gl_GF_11_nd gl_Gues_fst (by rw [es23]; exact gl_GF_11_set) rfl rfl (Nat.le_of_ble_eq_true rfl) ⟨Nat.zero_le _, Nat.zero_le _⟩ dX6_goBack_106 ?_
      exact gq_vretf X dX6_goBack_109 rfl rfl
    · refine gq_aload_n X dX6_goBack_52 0 rfl ?_
      refine gq_letr (fun s24 es24 => ?_)
      refine gq_callVv (ws' := gw_GF cA a s24) X (c_X6_dropFetched l D cA a s2) rfl ⟨rfl, rfl⟩ ⟨Nat.le_of_ble_eq_true rfl, Nat.le_of_ble_eq_true rfl⟩ gX6_goBack_X6_dropFetched hv_X6_dropFetched 0 gl_GF_c0 rfl [0, 1, 2, 3, 4, 5, 6, 7, 8, 9, 10, 11, 12, 13, 14, 15, 16, 17, 18, 19, 20, 21, 22, 23, 24, 25, 26, 27, 28, 29, 30, 31, 32, 33, 34, 35, 36, 37, 38, 39, 40, 41, 42] gl_GF_self_at gl_GF_self_nd gl_GF_fst (by rw [es24]; exact gl_GF_self_set) rfl rfl (Nat.le_of_ble_eq_true rfl) ⟨Nat.zero_le _, Nat.zero_le _⟩ dX6_goBack_53 ?_
      refine gq_aload_n X dX6_goBack_56 0 rfl ?_
      refine gq_iload X dX6_goBack_57 4 rfl ?_
      refine gq_letr (fun s25 es25 => ?_)
      refine gq_put (C := RX6) (T := TX6) (N := 10) (ws' := gw_GF cA a s25) X iX6_goBack_X6 tyX6 tyX6_ok nmX6 0 gl_GF_c0 rfl 8 (by decide) fX6_goBack_X6_8 rfl rfl rfl (Nat.le_of_ble_eq_true rfl) (by rw [es25]; exact gl_GF_f8) dX6_goBack_59 ?_
      refine gq_aload_n X dX6_goBack_62 0 rfl ?_
      refine gq_get (C := RX6) (T := TX6) (N := 10) X iX6_goBack_X6 0 gl_GF_c0 rfl 2 (by decide) fX6_goBack_X6_2 rfl dX6_goBack_63 ?_
      refine gq_aload_n X dX6_goBack_66 0 rfl ?_
      refine gq_get (C := RX6) (T := TX6) (N := 10) X iX6_goBack_X6 0 gl_GF_c0 rfl 3 (by decide) fX6_goBack_X6_3 rfl dX6_goBack_67 ?_
      refine gq_iload_n X dX6_goBack_70 1 rfl ?_
      refine gq_callVr (ws' := gw_GF cA a s25) X (c_X4_historyOf l D cA (a 26) (a 27) (a 28) (a 29) (a 30) (a 31) (a 32) (a 33) (a 34) (a 35) (a 36) (a 37) (a 38) (gF_queue s25) x1) rfl ⟨rfl, rfl⟩ ⟨Nat.le_of_ble_eq_true rfl, Nat.le_of_ble_eq_true rfl⟩ gX6_goBack_X4_historyOf hv_X4_historyOf 26 rfl rfl [26, 27, 28, 29, 30, 31, 32, 33, 34, 35, 36, 37, 38] gl_GF_26_at gl_GF_26_nd gl_Que_fst gl_GF_26_same rfl rfl (Nat.le_of_ble_eq_true rfl) ⟨Nat.zero_le _, Nat.zero_le _⟩ dX6_goBack_71 ?_
      refine gq_letr (fun s26 es26 => ?_)
      refine gq_callVv (ws' := gw_GF cA a s26) X (c_X1_setHistory l D cA (a 11) (a 12) (a 13) (a 14) (a 15) (a 16) (a 17) (a 18) (a 19) (a 20) (a 21) (a 22) (a 23) (a 24) (a 25) (gF_gues s25) (k_X4_historyOf (gF_queue s25) x1)) rfl ⟨rfl, rfl⟩ ⟨Nat.le_of_ble_eq_true rfl, Nat.le_of_ble_eq_true rfl⟩ gX6_goBack_X1_setHistory hv_X1_setHistory 11 rfl rfl [11, 12, 13, 14, 15, 16, 17, 18, 19, 20, 21, 22, 23, 24, 25] gl_GF_11_at gl_GF_11_nd gl_Gues_fst (by rw [es26]; exact gl_GF_11_set) rfl rfl (Nat.le_of_ble_eq_true rfl) ⟨Nat.zero_le _, Nat.zero_le _⟩ dX6_goBack_74 ?_
      refine gq_aload_n X dX6_goBack_77 0 rfl ?_
      refine gq_get (C := RX6) (T := TX6) (N := 10) X iX6_goBack_X6 0 gl_GF_c0 rfl 3 (by decide) fX6_goBack_X6_3 rfl dX6_goBack_78 ?_
      refine gq_iload_n X dX6_goBack_81 1 rfl ?_
      refine gq_aload_n X dX6_goBack_82 0 rfl ?_
      refine gq_get (C := RX6) (T := TX6) (N := 10) X iX6_goBack_X6 0 gl_GF_c0 rfl 2 (by decide) fX6_goBack_X6_2 rfl dX6_goBack_83 ?_
      refine gq_callVr (ws' := gw_GF cA a s26) X (gq_Ceq (res2 := some (Value.ref (a 24))) (c_X1_returns l D cA (a 11) (a 12) (a 13) (a 14) (a 15) (a 16) (a 17) (a 18) (a 19) (a 20) (a 21) (a 22) (a 23) (a 24) (a 25) (gF_gues s26)) rfl rfl) rfl ⟨rfl, rfl⟩ ⟨Nat.le_of_ble_eq_true rfl, Nat.le_of_ble_eq_true rfl⟩ gX6_goBack_X1_returns hv_X1_returns 11 rfl rfl [11, 12, 13, 14, 15, 16, 17, 18, 19, 20, 21, 22, 23, 24, 25] gl_GF_11_at gl_GF_11_nd gl_Gues_fst gl_GF_11_same rfl rfl (Nat.le_of_ble_eq_true rfl) ⟨Nat.zero_le _, Nat.zero_le _⟩ dX6_goBack_86 ?_
      refine gq_letr (fun r27 er27 => ?_)
      refine gq_letr (fun s28 es28 => ?_)
      refine gq_callVv (ws' := gw_GF cA a s28) X (gq_Ceq (res2 := none) (w2 := gw_QuePile cA (a 26) (a 27) (a 28) (a 29) (a 30) (a 31) (a 32) (a 33) (a 34) (a 35) (a 36) (a 37) (a 38) (a 24) (a 25) r27) (c_X4_giveReturnsBack l D cA (a 26) (a 27) (a 28) (a 29) (a 30) (a 31) (a 32) (a 33) (a 34) (a 35) (a 36) (a 37) (a 38) (a 24) (a 25) (gF_queue s26, (gF_gues s26).2.2.2.2.2.2.1) x1) rfl (by rw [er27])) rfl ⟨rfl, rfl⟩ ⟨Nat.le_of_ble_eq_true rfl, Nat.le_of_ble_eq_true rfl⟩ gX6_goBack_X4_giveReturnsBack hv_X4_giveReturnsBack 26 rfl rfl [26, 27, 28, 29, 30, 31, 32, 33, 34, 35, 36, 37, 38, 24, 25] gl_GF_pair_26_24_at gl_GF_pair_26_24_nd gl_QuePile_fst (by rw [es28]; exact gl_GF_pair_26_24_set) rfl rfl (Nat.le_of_ble_eq_true rfl) ⟨Nat.zero_le _, Nat.zero_le _⟩ dX6_goBack_89 ?_
      refine gq_aload_n X dX6_goBack_92 0 rfl ?_
      refine gq_get (C := RX6) (T := TX6) (N := 10) X iX6_goBack_X6 0 gl_GF_c0 rfl 2 (by decide) fX6_goBack_X6_2 rfl dX6_goBack_93 ?_
      refine gq_aload_n X dX6_goBack_96 0 rfl ?_
      refine gq_get (C := RX6) (T := TX6) (N := 10) X iX6_goBack_X6 0 gl_GF_c0 rfl 3 (by decide) fX6_goBack_X6_3 rfl dX6_goBack_97 ?_
      refine gq_iload_n X dX6_goBack_100 1 rfl ?_
      refine gq_callVr (ws' := gw_GF cA a s28) X (c_X4_addressOf l D cA (a 26) (a 27) (a 28) (a 29) (a 30) (a 31) (a 32) (a 33) (a 34) (a 35) (a 36) (a 37) (a 38) (gF_queue s28) x1) rfl ⟨rfl, rfl⟩ ⟨Nat.le_of_ble_eq_true rfl, Nat.le_of_ble_eq_true rfl⟩ gX6_goBack_X4_addressOf hv_X4_addressOf 26 rfl rfl [26, 27, 28, 29, 30, 31, 32, 33, 34, 35, 36, 37, 38] gl_GF_26_at gl_GF_26_nd gl_Que_fst gl_GF_26_same rfl rfl (Nat.le_of_ble_eq_true rfl) ⟨Nat.zero_le _, Nat.zero_le _⟩ dX6_goBack_101 ?_
      refine gq_iload_n X dX6_goBack_104 2 rfl ?_
      refine gq_iload_n X dX6_goBack_105 3 rfl ?_
      refine gq_letr (fun s29 es29 => ?_)
      refine gq_callVv (ws' := gw_GF cA a s29) X (c_X1_noteWhatWasDone l D cA (a 11) (a 12) (a 13) (a 14) (a 15) (a 16) (a 17) (a 18) (a 19) (a 20) (a 21) (a 22) (a 23) (a 24) (a 25) (gF_gues s28) (k_X4_addressOf (gF_queue s28) x1) x2 y3) rfl ⟨rfl, rfl⟩ ⟨Nat.le_of_ble_eq_true rfl, Nat.le_of_ble_eq_true rfl⟩ gX6_goBack_X1_noteWhatWasDone hv_X1_noteWhatWasDone 11 rfl rfl [11, 12, 13, 14, 15, 16, 17, 18, 19, 20, 21, 22, 23, 24, 25] gl_GF_11_at gl_GF_11_nd gl_Gues_fst (by rw [es29]; exact gl_GF_11_set) rfl rfl (Nat.le_of_ble_eq_true rfl) ⟨Nat.zero_le _, Nat.zero_le _⟩ dX6_goBack_106 ?_
      exact gq_vretf X dX6_goBack_109 rfl rfl
