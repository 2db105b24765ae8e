theorem iX6_harm_X6 : ∀ w ∈ u_ws RX6 TX6 10, w ∈ wsX6_harm := by decide +kernel
theorem fX6_harm_X6_2 : Cond.fieldLink RX6 26 (TX6 2).1 (TX6 2).2.1 (TX6 2).2.2.1 ∈ wsX6_harm := by decide +kernel
theorem hv_X6_harm : yX6_harm.cls = RX6 ∧ yX6_harm.cls ≠ "java/lang/invoke/MethodHandle" ∧ yX6_harm.cls ≠ "java/lang/invoke/VarHandle" ∧ (parseMethodDescriptor yX6_harm.desc).map (fun d => d.parameters.length) = some 3 := by decide +kernel
def k_X6_harm (S : gs_F) (x1 : Int32) (x2 : Int32) (x3 : Int32) : Int32 × gs_F :=
  if k_X6_isWithin x1 0 7 = true then
    if k_X6_isTablePlace x1 x2 = true then
      if x1 = 7 then
        if x2 < k_X2_size 4 ((gF_gues S).2.2.2.2.2.2.1) then
          if k_X6_isTableValue x1 x3 = true then
            gq_lt (k_X1_setCell (gF_gues S) x1 x2 x3) (fun r1 =>
            gq_lt (sF_gues S r1.2) (fun s2 =>
            (r1.1, s2)))
          else
            ((-102), S)
        else
          ((-101), S)
      else
        if k_X6_isTableValue x1 x3 = true then
          gq_lt (k_X1_setCell (gF_gues S) x1 x2 x3) (fun r3 =>
          gq_lt (sF_gues S r3.2) (fun s4 =>
          (r3.1, s4)))
        else
          ((-102), S)
    else
      ((-101), S)
  else
    ((-102), S)
set_option maxHeartbeats 4000000 in
set_option maxRecDepth 100000 in
theorem c_X6_harm (l : Launch) (D : va_G) (cA : ClassId) (a : Nat → Nat) (S : gs_F) (x1 : Int32) (x2 : Int32) (x3 : Int32) : gq_C l yX6_harm wsX6_harm ({ frames := 3, cells := 0, slots := 0, locals := 68 } : Room) D cA [.ref (a 0), .int x1, .int x2, .int x3] (gw_GF cA a S) (some (.int (k_X6_harm S x1 x2 x3).1)) (gw_GF cA a ((k_X6_harm S x1 x2 x3).2)) := by
  refine gq_openf (own := RX6) (lv := [(0, .ref (a 0)), (1, .int x1), (2, .int x2), (3, .int x3)]) (fun r : Int32 × gs_F => (some (.int r.1), gw_GF cA a r.2)) (k_X6_harm S x1 x2 x3) (by decide) rfl rfl (Nat.le_of_ble_eq_true rfl) rfl rfl rfl (fun p e s m args below meth c A X => ?_)
  unfold k_X6_harm
  refine gq_iload_n X dX6_harm_0 1 rfl ?_
  refine gq_iconst (v := 0) X dX6_harm_1 gq_i0 ?_
  refine gq_bipush (v := 7) X dX6_harm_2 (by decide) ?_
  refine gq_callSr (ws' := gw_GF cA a S) X (c_X6_isWithin l D cA x1 0 7) rfl ⟨rfl, rfl⟩ ⟨Nat.le_of_ble_eq_true rfl, Nat.le_of_ble_eq_true rfl⟩ gX6_harm_X6_isWithin hd_X6_isWithin [] rfl (by decide) rfl rfl rfl rfl (Nat.le_of_ble_eq_true rfl) ⟨Nat.zero_le _, Nat.zero_le _⟩ dX6_harm_4 ?_
  refine gq_fbif_ne (tgt := 13) X dX6_harm_7 (by decide) (fun h7 => ?_) (fun h7 => ?_)
  · refine gq_iload_n X dX6_harm_13 1 rfl ?_
    refine gq_iload_n X dX6_harm_14 2 rfl ?_
    refine gq_callSr (ws' := gw_GF cA a S) X (c_X6_isTablePlace l D cA x1 x2) rfl ⟨rfl, rfl⟩ ⟨Nat.le_of_ble_eq_true rfl, Nat.le_of_ble_eq_true rfl⟩ gX6_harm_X6_isTablePlace hd_X6_isTablePlace [] rfl (by decide) rfl rfl rfl rfl (Nat.le_of_ble_eq_true rfl) ⟨Nat.zero_le _, Nat.zero_le _⟩ dX6_harm_15 ?_
    refine gq_fbif_eq (tgt := 41) X dX6_harm_18 (by decide) (fun h18 => ?_) (fun h18 => ?_)
    · refine gq_iload_n X dX6_harm_21 1 rfl ?_
      refine gq_bipush (v := 7) X dX6_harm_22 (by decide) ?_
      refine gq_ficmp_ne (tgt := 44) X dX6_harm_24 (by decide) (fun h24 => ?_) (fun h24 => ?_)
      · refine gq_iload_n X dX6_harm_27 2 rfl ?_
        refine gq_aload_n X dX6_harm_28 0 rfl ?_
        refine gq_get (C := RX6) (T := TX6) (N := 10) X iX6_harm_X6 0 gl_GF_c0 rfl 2 (by decide) fX6_harm_X6_2 rfl dX6_harm_29 ?_
        refine gq_callVr (ws' := gw_GF cA a S) X (gq_Ceq (res2 := some (Value.ref (a 24))) (c_X1_returns l D cA (a 11) (a 12) (a 13) (a 14) (a 15) (a 16) (a 17) (a 18) (a 19) (a 20) (a 21) (a 22) (a 23) (a 24) (a 25) (gF_gues S)) rfl rfl) rfl ⟨rfl, rfl⟩ ⟨Nat.le_of_ble_eq_true rfl, Nat.le_of_ble_eq_true rfl⟩ gX6_harm_X1_returns hv_X1_returns 11 rfl rfl [11, 12, 13, 14, 15, 16, 17, 18, 19, 20, 21, 22, 23, 24, 25] gl_GF_11_at gl_GF_11_nd gl_Gues_fst gl_GF_11_same rfl rfl (Nat.le_of_ble_eq_true rfl) ⟨Nat.zero_le _, Nat.zero_le _⟩ dX6_harm_32 ?_
        refine gq_callVr (ws' := gw_GF cA a S) X (c_X2_size l D cA (a 24) (a 25) 4 (by decide) ((gF_gues S).2.2.2.2.2.2.1)) rfl ⟨rfl, rfl⟩ ⟨Nat.le_of_ble_eq_true rfl, Nat.le_of_ble_eq_true rfl⟩ gX6_harm_X2_size hv_X2_size 24 rfl rfl [24, 25] gl_GF_24_at gl_GF_24_nd gl_Pile_fst gl_GF_24_same rfl rfl (Nat.le_of_ble_eq_true rfl) ⟨Nat.zero_le _, Nat.zero_le _⟩ dX6_harm_35 ?_
        refine gq_ficmp_lt (tgt := 44) X dX6_harm_38 (by decide) (fun h38 => ?_) (fun h38 => ?_)
        · refine gq_iload_n X dX6_harm_44 1 rfl ?_
          refine gq_iload_n X dX6_harm_45 3 rfl ?_
          refine gq_callSr (ws' := gw_GF cA a S) X (c_X6_isTableValue l D cA x1 x3) rfl ⟨rfl, rfl⟩ ⟨Nat.le_of_ble_eq_true rfl, Nat.le_of_ble_eq_true rfl⟩ gX6_harm_X6_isTableValue hd_X6_isTableValue [] rfl (by decide) rfl rfl rfl rfl (Nat.le_of_ble_eq_true rfl) ⟨Nat.zero_le _, Nat.zero_le _⟩ dX6_harm_46 ?_
          refine gq_fbif_eq (tgt := 65) X dX6_harm_49 (by decide) (fun h49 => ?_) (fun h49 => ?_)
          · refine gq_aload_n X dX6_harm_52 0 rfl ?_
            refine gq_get (C := RX6) (T := TX6) (N := 10) X iX6_harm_X6 0 gl_GF_c0 rfl 2 (by decide) fX6_harm_X6_2 rfl dX6_harm_53 ?_
            refine gq_iload_n X dX6_harm_56 1 rfl ?_
            refine gq_iload_n X dX6_harm_57 2 rfl ?_
            refine gq_iload_n X dX6_harm_58 3 rfl ?_
            refine gq_letr (fun r1 er1 => ?_)
            refine gq_letr (fun s2 es2 => ?_)
            refine gq_callVr (ws' := gw_GF cA a s2) X (gq_Ceq (res2 := some (Value.int r1.1)) (w2 := gw_Gues cA (a 11) (a 12) (a 13) (a 14) (a 15) (a 16) (a 17) (a 18) (a 19) (a 20) (a 21) (a 22) (a 23) (a 24) (a 25) r1.2) (c_X1_setCell l D cA (a 11) (a 12) (a 13) (a 14) (a 15) (a 16) (a 17) (a 18) (a 19) (a 20) (a 21) (a 22) (a 23) (a 24) (a 25) (gF_gues S) x1 x2 x3) (by rw [er1]) (by rw [er1])) rfl ⟨rfl, rfl⟩ ⟨Nat.le_of_ble_eq_true rfl, Nat.le_of_ble_eq_true rfl⟩ gX6_harm_X1_setCell hv_X1_setCell 11 rfl rfl [11, 12, 13, 14, 15, 16, 17, 18, 19, 20, 21, 22, 23, 24, 25] gl_GF_11_at gl_GF_11_nd gl_Gues_fst (by rw [es2]; exact gl_GF_11_set) rfl rfl (Nat.le_of_ble_eq_true rfl) ⟨Nat.zero_le _, Nat.zero_le _⟩ dX6_harm_59 ?_
            refine gq_goto (tgt := 67) X dX6_harm_62 (by decide) ?_
            exact gq_iretf X dX6_harm_67 rfl rfl
          · refine gq_bipush (v := (-102)) X dX6_harm_65 (by decide) ?_
            exact gq_iretf X dX6_harm_67 rfl rfl
        · refine gq_bipush (v := (-101)) X dX6_harm_41 (by decide) ?_
          exact gq_iretf X dX6_harm_43 rfl rfl
      · refine gq_iload_n X dX6_harm_44 1 rfl ?_
        refine gq_iload_n X dX6_harm_45 3 rfl ?_
        refine gq_callSr (ws' := gw_GF cA a S) X (c_X6_isTableValue l D cA x1 x3) rfl ⟨rfl, rfl⟩ ⟨Nat.le_of_ble_eq_true rfl, Nat.le_of_ble_eq_true rfl⟩ gX6_harm_X6_isTableValue hd_X6_isTableValue [] rfl (by decide) rfl rfl rfl rfl (Nat.le_of_ble_eq_true rfl) ⟨Nat.zero_le _, Nat.zero_le _⟩ dX6_harm_46 ?_
        refine gq_fbif_eq (tgt := 65) X dX6_harm_49 (by decide) (fun h49 => ?_) (fun h49 => ?_)
        · refine gq_aload_n X dX6_harm_52 0 rfl ?_
          refine gq_get (C := RX6) (T := TX6) (N := 10) X iX6_harm_X6 0 gl_GF_c0 rfl 2 (by decide) fX6_harm_X6_2 rfl dX6_harm_53 ?_
          refine gq_iload_n X dX6_harm_56 1 rfl ?_
          refine gq_iload_n X dX6_harm_57 2 rfl ?_
          refine gq_iload_n X dX6_harm_58 3 rfl ?_
          refine gq_letr (fun r3 er3 => ?_)
          refine gq_letr (fun s4 es4 => ?_)
          refine gq_callVr (ws' := gw_GF cA a s4) X (gq_Ceq (res2 := some (Value.int r3.1)) (w2 := gw_Gues cA (a 11) (a 12) (a 13) (a 14) (a 15) (a 16) (a 17) (a 18) (a 19) (a 20) (a 21) (a 22) (a 23) (a 24) (a 25) r3.2) (c_X1_setCell l D cA (a 11) (a 12) (a 13) (a 14) (a 15) (a 16) (a 17) (a 18) (a 19) (a 20) (a 21) (a 22) (a 23) (a 24) (a 25) (gF_gues S) x1 x2 x3) (by rw [er3]) (by rw [er3])) rfl ⟨rfl, rfl⟩ ⟨Nat.le_of_ble_eq_true rfl, Nat.le_of_ble_eq_true rfl⟩ gX6_harm_X1_setCell hv_X1_setCell 11 rfl rfl [11, 12, 13, 14, 15, 16, 17, 18, 19, 20, 21, 22, 23, 24, 25] gl_GF_11_at gl_GF_11_nd gl_Gues_fst (by rw [es4]; exact gl_GF_11_set) rfl rfl (Nat.le_of_ble_eq_true rfl) ⟨Nat.zero_le _, Nat.zero_le _⟩ dX6_harm_59 ?_
          refine gq_goto (tgt := 67) X dX6_harm_62 (by decide) ?_
          exact gq_iretf X dX6_harm_67 rfl rfl
        · refine gq_bipush (v := (-102)) X dX6_harm_65 (by decide) ?_
          exact gq_iretf X dX6_harm_67 rfl rfl
    · refine gq_bipush (v := (-101)) X dX6_harm_41 (by decide) ?_
      exact gq_iretf X dX6_harm_43 rfl rfl
  · refine gq_bipush (v := (-102)) X dX6_harm_10 (by decide) ?_
    exact gq_iretf X dX6_harm_12 rfl rfl
theorem iX6_forget_X6 : ∀ w ∈ u_ws RX6 TX6 10, w ∈ wsX6_forget := by decide +kernel
theorem fX6_forget_X6_2 : Cond.fieldLink RX6 26 (TX6 2).1 (TX6 2).2.1 (TX6 2).2.2.1 ∈ wsX6_forget := by decide +kernel
theorem hv_X6_forget : yX6_forget.cls = RX6 ∧ yX6_forget.cls ≠ "java/lang/invoke/MethodHandle" ∧ yX6_forget.cls ≠ "java/lang/invoke/VarHandle" ∧ (parseMethodDescriptor yX6_forget.desc).map (fun d => d.parameters.length) = some 0 := by decide +kernel
def k_X6_forget (S : gs_F) : Int32 × gs_F :=
  if k_X6_isUnderWay S = true then
    ((-103), S)
  else
    gq_lt (sF_gues S (k_X1_forgetTables (gF_gues S))) (fun s1 =>
    (1, s1))
set_option maxHeartbeats 4000000 in
set_option maxRecDepth 100000 in
theorem c_X6_forget (l : Launch) (D : va_G) (cA : ClassId) (a : Nat → Nat) (S : gs_F)  : gq_C l yX6_forget wsX6_forget ({ frames := 2, cells := 0, slots := 0, locals := 42 } : Room) D cA [.ref (a 0)] (gw_GF cA a S) (some (.int (k_X6_forget S).1)) (gw_GF cA a ((k_X6_forget S).2)) := by
  refine gq_openf (own := RX6) (lv := [(0, .ref (a 0))]) (fun r : Int32 × gs_F => (some (.int r.1), gw_GF cA a r.2)) (k_X6_forget S) (by decide) rfl rfl (Nat.le_of_ble_eq_true rfl) rfl rfl rfl (fun p e s m args below meth c A X => ?_)
  unfold k_X6_forget
  refine gq_aload_n X dX6_forget_0 0 rfl ?_
  refine gq_callVr (ws' := gw_GF cA a S) X (c_X6_isUnderWay l D cA a S) rfl ⟨rfl, rfl⟩ ⟨Nat.le_of_ble_eq_true rfl, Nat.le_of_ble_eq_true rfl⟩ gX6_forget_X6_isUnderWay hv_X6_isUnderWay 0 gl_GF_c0 rfl [0, 1, 2, 3, 4, 5, 6, 7, 8, 9, 10, 11, 12, 13, 14, 15, 16, 17, 18, 19, 20, 21, 22, 23, 24, 25, 26, 27, 28, 29, 30, 31, 32, 33, 34, 35, 36, 37, 38, 39, 40, 41, 42] gl_GF_self_at gl_GF_self_nd gl_GF_fst gl_GF_self_same rfl rfl (Nat.le_of_ble_eq_true rfl) ⟨Nat.zero_le _, Nat.zero_le _⟩ dX6_forget_1 ?_
  refine gq_fbif_eq (tgt := 10) X dX6_forget_4 (by decide) (fun h4 => ?_) (fun h4 => ?_)
  · refine gq_bipush (v := (-103)) X dX6_forget_7 (by decide) ?_
    exact gq_iretf X dX6_forget_9 rfl rfl
  · refine gq_aload_n X dX6_forget_10 0 rfl ?_
    refine gq_get (C := RX6) (T := TX6) (N := 10) X iX6_forget_X6 0 gl_GF_c0 rfl 2 (by decide) fX6_forget_X6_2 rfl dX6_forget_11 ?_
    refine gq_letr (fun s1 es1 => ?_)
    refine gq_callVv (ws' := gw_GF cA a s1) X (c_X1_forgetTables l D cA (a 11) (a 12) (a 13) (a 14) (a 15) (a 16) (a 17) (a 18) (a 19) (a 20) (a 21) (a 22) (a 23) (a 24) (a 25) (gF_gues S)) rfl ⟨rfl, rfl⟩ ⟨Nat.le_of_ble_eq_true rfl, Nat.le_of_ble_eq_true rfl⟩ gX6_forget_X1_forgetTables hv_X1_forgetTables 11 rfl rfl [11, 12, 13, 14, 15, 16, 17, 18, 19, 20, 21, 22, 23, 24, 25] gl_GF_11_at gl_GF_11_nd gl_Gues_fst (by rw [es1]; exact gl_GF_11_set) rfl rfl (Nat.le_of_ble_eq_true rfl) ⟨Nat.zero_le _, Nat.zero_le _⟩ dX6_forget_14 ?_
    refine gq_iconst (v := 1) X dX6_forget_17 gq_i1 ?_
    exact gq_iretf X dX6_forget_18 rfl rfl
theorem iX6_table_X6 : ∀ w ∈ u_ws RX6 TX6 10, w ∈ wsX6_table := by decide +kernel
theorem fX6_table_X6_2 : Cond.fieldLink RX6 26 (TX6 2).1 (TX6 2).2.1 (TX6 2).2.2.1 ∈ wsX6_table := by decide +kernel
theorem hv_X6_table : yX6_table.cls = RX6 ∧ yX6_table.cls ≠ "java/lang/invoke/MethodHandle" ∧ yX6_table.cls ≠ "java/lang/invoke/VarHandle" ∧ (parseMethodDescriptor yX6_table.desc).map (fun d => d.parameters.length) = some 2 := by decide +kernel
def k_X6_table (S : gs_F) (x1 : Int32) (x2 : Int32) : Int32 :=
  if k_X6_isWithin x1 0 8 = true then
    if k_X6_isTablePlace x1 x2 = true then
      k_X1_cell (gF_gues S) x1 x2
    else
      (-101)
  else
    (-102)
set_option maxHeartbeats 4000000 in
set_option maxRecDepth 100000 in
theorem c_X6_table (l : Launch) (D : va_G) (cA : ClassId) (a : Nat → Nat) (S : gs_F) (x1 : Int32) (x2 : Int32) : gq_C l yX6_table wsX6_table ({ frames := 3, cells := 0, slots := 0, locals := 64 } : Room) D cA [.ref (a 0), .int x1, .int x2] (gw_GF cA a S) (some (.int (k_X6_table S x1 x2))) (gw_GF cA a S) := by
  refine gq_openf (own := RX6) (lv := [(0, .ref (a 0)), (1, .int x1), (2, .int x2)]) (fun r : Int32 => (some (.int r), gw_GF cA a S)) (k_X6_table S x1 x2) (by decide) rfl rfl (Nat.le_of_ble_eq_true rfl) rfl rfl rfl (fun p e s m args below meth c A X => ?_)
  unfold k_X6_table
  refine gq_iload_n X dX6_table_0 1 rfl ?_
  refine gq_iconst (v := 0) X dX6_table_1 gq_i0 ?_
  refine gq_bipush (v := 8) X dX6_table_2 (by decide) ?_
  refine gq_callSr (ws' := gw_GF cA a S) X (c_X6_isWithin l D cA x1 0 8) rfl ⟨rfl, rfl⟩ ⟨Nat.le_of_ble_eq_true rfl, Nat.le_of_ble_eq_true rfl⟩ gX6_table_X6_isWithin hd_X6_isWithin [] rfl (by decide) rfl rfl rfl rfl (Nat.le_of_ble_eq_true rfl) ⟨Nat.zero_le _, Nat.zero_le _⟩ dX6_table_4 ?_
  refine gq_fbif_ne (tgt := 13) X dX6_table_7 (by decide) (fun h7 => ?_) (fun h7 => ?_)
  · refine gq_iload_n X dX6_table_13 1 rfl ?_
    refine gq_iload_n X dX6_table_14 2 rfl ?_
    refine gq_callSr (ws' := gw_GF cA a S) X (c_X6_isTablePlace l D cA x1 x2) rfl ⟨rfl, rfl⟩ ⟨Nat.le_of_ble_eq_true rfl, Nat.le_of_ble_eq_true rfl⟩ gX6_table_X6_isTablePlace hd_X6_isTablePlace [] rfl (by decide) rfl rfl rfl rfl (Nat.le_of_ble_eq_true rfl) ⟨Nat.zero_le _, Nat.zero_le _⟩ dX6_table_15 ?_
    refine gq_fbif_eq (tgt := 33) X dX6_table_18 (by decide) (fun h18 => ?_) (fun h18 => ?_)
    · refine gq_aload_n X dX6_table_21 0 rfl ?_
      refine gq_get (C := RX6) (T := TX6) (N := 10) X iX6_table_X6 0 gl_GF_c0 rfl 2 (by decide) fX6_table_X6_2 rfl dX6_table_22 ?_
      refine gq_iload_n X dX6_table_25 1 rfl ?_
      refine gq_iload_n X dX6_table_26 2 rfl ?_
      refine gq_callVr (ws' := gw_GF cA a S) X (c_X1_cell l D cA (a 11) (a 12) (a 13) (a 14) (a 15) (a 16) (a 17) (a 18) (a 19) (a 20) (a 21) (a 22) (a 23) (a 24) (a 25) (gF_gues S) x1 x2) rfl ⟨rfl, rfl⟩ ⟨Nat.le_of_ble_eq_true rfl, Nat.le_of_ble_eq_true rfl⟩ gX6_table_X1_cell hv_X1_cell 11 rfl rfl [11, 12, 13, 14, 15, 16, 17, 18, 19, 20, 21, 22, 23, 24, 25] gl_GF_11_at gl_GF_11_nd gl_Gues_fst gl_GF_11_same rfl rfl (Nat.le_of_ble_eq_true rfl) ⟨Nat.zero_le _, Nat.zero_le _⟩ dX6_table_27 ?_
      refine gq_goto (tgt := 35) X dX6_table_30 (by decide) ?_
      exact gq_iretf X dX6_table_35 rfl rfl
    · refine gq_bipush (v := (-101)) X dX6_table_33 (by decide) ?_
      exact gq_iretf X dX6_table_35 rfl rfl
  · refine gq_bipush (v := (-102)) X dX6_table_10 (by decide) ?_
    exact gq_iretf X dX6_table_12 rfl rfl
theorem iX6_value_X6 : ∀ w ∈ u_ws RX6 TX6 10, w ∈ wsX6_value := by decide +kernel
theorem fX6_value_X6_1 : Cond.fieldLink RX6 19 (TX6 1).1 (TX6 1).2.1 (TX6 1).2.2.1 ∈ wsX6_value := by decide +kernel
theorem kX6_value_89 : Cond.constantLong RX6 89 (-101) ∈ wsX6_value := by decide +kernel
theorem hv_X6_value : yX6_value.cls = RX6 ∧ yX6_value.cls ≠ "java/lang/invoke/MethodHandle" ∧ yX6_value.cls ≠ "java/lang/invoke/VarHandle" ∧ (parseMethodDescriptor yX6_value.desc).map (fun d => d.parameters.length) = some 1 := by decide +kernel
def k_X6_value (S : gs_F) (x1 : Int32) : Int64 :=
  if k_X0_hasCell (gF_core S) x1 = true then
    (k_X0_cell (gF_core S) x1).toInt64
  else
    (-101)
set_option maxHeartbeats 4000000 in
set_option maxRecDepth 100000 in
theorem c_X6_value (l : Launch) (D : va_G) (cA : ClassId) (a : Nat → Nat) (S : gs_F) (x1 : Int32) : gq_C l yX6_value wsX6_value ({ frames := 2, cells := 0, slots := 0, locals := 42 } : Room) D cA [.ref (a 0), .int x1] (gw_GF cA a S) (some (.long (k_X6_value S x1))) (gw_GF cA a S) := by
  refine gq_openf (own := RX6) (lv := [(0, .ref (a 0)), (1, .int x1)]) (fun r : Int64 => (some (.long r), gw_GF cA a S)) (k_X6_value S x1) (by decide) rfl rfl (Nat.le_of_ble_eq_true rfl) rfl rfl rfl (fun p e s m args below meth c A X => ?_)
  unfold k_X6_value
  refine gq_aload_n X dX6_value_0 0 rfl ?_
  refine gq_get (C := RX6) (T := TX6) (N := 10) X iX6_value_X6 0 gl_GF_c0 rfl 1 (by decide) fX6_value_X6_1 rfl dX6_value_1 ?_
  refine gq_iload_n X dX6_value_4 1 rfl ?_
  refine gq_callVr (ws' := gw_GF cA a S) X (c_X0_hasCell l D cA (a 4) (a 5) (a 6) (a 7) (a 8) (a 9) (a 10) (gF_core S) x1) rfl ⟨rfl, rfl⟩ ⟨Nat.le_of_ble_eq_true rfl, Nat.le_of_ble_eq_true rfl⟩ gX6_value_X0_hasCell hv_X0_hasCell 4 rfl rfl [4, 5, 6, 7, 8, 9, 10] gl_GF_4_at gl_GF_4_nd gl_Core_fst gl_GF_4_same rfl rfl (Nat.le_of_ble_eq_true rfl) ⟨Nat.zero_le _, Nat.zero_le _⟩ dX6_value_5 ?_
  refine gq_fbif_eq (tgt := 23) X dX6_value_8 (by decide) (fun h8 => ?_) (fun h8 => ?_)
  · refine gq_aload_n X dX6_value_11 0 rfl ?_
    refine gq_get (C := RX6) (T := TX6) (N := 10) X iX6_value_X6 0 gl_GF_c0 rfl 1 (by decide) fX6_value_X6_1 rfl dX6_value_12 ?_
    refine gq_iload_n X dX6_value_15 1 rfl ?_
    refine gq_callVr (ws' := gw_GF cA a S) X (c_X0_cell l D cA (a 4) (a 5) (a 6) (a 7) (a 8) (a 9) (a 10) (gF_core S) x1) rfl ⟨rfl, rfl⟩ ⟨Nat.le_of_ble_eq_true rfl, Nat.le_of_ble_eq_true rfl⟩ gX6_value_X0_cell hv_X0_cell 4 rfl rfl [4, 5, 6, 7, 8, 9, 10] gl_GF_4_at gl_GF_4_nd gl_Core_fst gl_GF_4_same rfl rfl (Nat.le_of_ble_eq_true rfl) ⟨Nat.zero_le _, Nat.zero_le _⟩ dX6_value_16 ?_
    refine gq_i2l X dX6_value_19 ?_
    refine gq_goto (tgt := 26) X dX6_value_20 (by decide) ?_
    exact gq_lretf X dX6_value_26 rfl rfl
  · refine gq_ldc2 (v := (-101)) X kX6_value_89 dX6_value_23 ?_
    exact gq_lretf X dX6_value_26 rfl rfl
theorem iX6_stack_X6 : ∀ w ∈ u_ws RX6 TX6 10, w ∈ wsX6_stack := by decide +kernel
theorem fX6_stack_X6_1 : Cond.fieldLink RX6 19 (TX6 1).1 (TX6 1).2.1 (TX6 1).2.2.1 ∈ wsX6_stack := by decide +kernel
theorem hv_X6_stack : yX6_stack.cls = RX6 ∧ yX6_stack.cls ≠ "java/lang/invoke/MethodHandle" ∧ yX6_stack.cls ≠ "java/lang/invoke/VarHandle" ∧ (parseMethodDescriptor yX6_stack.desc).map (fun d => d.parameters.length) = some 1 := by decide +kernel
def k_X6_stack (S : gs_F) (x1 : Int32) : Int32 :=
  k_X0_stackAddress (gF_core S) x1
set_option maxHeartbeats 4000000 in
set_option maxRecDepth 100000 in
theorem c_X6_stack (l : Launch) (D : va_G) (cA : ClassId) (a : Nat → Nat) (S : gs_F) (x1 : Int32) : gq_C l yX6_stack wsX6_stack ({ frames := 3, cells := 0, slots := 0, locals := 63 } : Room) D cA [.ref (a 0), .int x1] (gw_GF cA a S) (some (.int (k_X6_stack S x1))) (gw_GF cA a S) := by
  refine gq_openf (own := RX6) (lv := [(0, .ref (a 0)), (1, .int x1)]) (fun r : Int32 => (some (.int r), gw_GF cA a S)) (k_X6_stack S x1) (by decide) rfl rfl (Nat.le_of_ble_eq_true rfl) rfl rfl rfl (fun p e s m args below meth c A X => ?_)
  unfold k_X6_stack
  refine gq_aload_n X dX6_stack_0 0 rfl ?_
  refine gq_get (C := RX6) (T := TX6) (N := 10) X iX6_stack_X6 0 gl_GF_c0 rfl 1 (by decide) fX6_stack_X6_1 rfl dX6_stack_1 ?_
  refine gq_iload_n X dX6_stack_4 1 rfl ?_
  refine gq_callVr (ws' := gw_GF cA a S) X (c_X0_stackAddress l D cA (a 4) (a 5) (a 6) (a 7) (a 8) (a 9) (a 10) (gF_core S) x1) rfl ⟨rfl, rfl⟩ ⟨Nat.le_of_ble_eq_true rfl, Nat.le_of_ble_eq_true rfl⟩ gX6_stack_X0_stackAddress hv_X0_stackAddress 4 rfl rfl [4, 5, 6, 7, 8, 9, 10] gl_GF_4_at gl_GF_4_nd gl_Core_fst gl_GF_4_same rfl rfl (Nat.le_of_ble_eq_true rfl) ⟨Nat.zero_le _, Nat.zero_le _⟩ dX6_stack_5 ?_
  exact gq_iretf X dX6_stack_8 rfl rfl
theorem iX6_done_X6 : ∀ w ∈ u_ws RX6 TX6 10, w ∈ wsX6_done := by decide +kernel
theorem fX6_done_X6_5 : Cond.fieldLink RX6 49 (TX6 5).1 (TX6 5).2.1 (TX6 5).2.2.1 ∈ wsX6_done := by decide +kernel
theorem hv_X6_done : yX6_done.cls = RX6 ∧ yX6_done.cls ≠ "java/lang/invoke/MethodHandle" ∧ yX6_done.cls ≠ "java/lang/invoke/VarHandle" ∧ (parseMethodDescriptor yX6_done.desc).map (fun d => d.parameters.length) = some 1 := by decide +kernel
def k_X6_done (S : gs_F) (x1 : Int32) : Int32 :=
  k_X2_get 300 (gF_done S) x1
set_option maxHeartbeats 4000000 in
set_option maxRecDepth 100000 in
theorem c_X6_done (l : Launch) (D : va_G) (cA : ClassId) (a : Nat → Nat) (S : gs_F) (x1 : Int32) : gq_C l yX6_done wsX6_done ({ frames := 2, cells := 0, slots := 0, locals := 42 } : Room) D cA [.ref (a 0), .int x1] (gw_GF cA a S) (some (.int (k_X6_done S x1))) (gw_GF cA a S) := by
  refine gq_openf (own := RX6) (lv := [(0, .ref (a 0)), (1, .int x1)]) (fun r : Int32 => (some (.int r), gw_GF cA a S)) (k_X6_done S x1) (by decide) rfl rfl (Nat.le_of_ble_eq_true rfl) rfl rfl rfl (fun p e s m args below meth c A X => ?_)
  unfold k_X6_done
  refine gq_aload_n X dX6_done_0 0 rfl ?_
  refine gq_get (C := RX6) (T := TX6) (N := 10) X iX6_done_X6 0 gl_GF_c0 rfl 5 (by decide) fX6_done_X6_5 rfl dX6_done_1 ?_
  refine gq_iload_n X dX6_done_4 1 rfl ?_
  refine gq_callVr (ws' := gw_GF cA a S) X (c_X2_get l D cA (a 41) (a 42) 300 (by decide) (gF_done S) x1) rfl ⟨rfl, rfl⟩ ⟨Nat.le_of_ble_eq_true rfl, Nat.le_of_ble_eq_true rfl⟩ gX6_done_X2_get hv_X2_get 41 rfl rfl [41, 42] gl_GF_41_at gl_GF_41_nd gl_Pile_fst gl_GF_41_same rfl rfl (Nat.le_of_ble_eq_true rfl) ⟨Nat.zero_le _, Nat.zero_le _⟩ dX6_done_5 ?_
  exact gq_iretf X dX6_done_8 rfl rfl
theorem iX6_fetched_X6 : ∀ w ∈ u_ws RX6 TX6 10, w ∈ wsX6_fetched := by decide +kernel
theorem fX6_fetched_X6_3 : Cond.fieldLink RX6 33 (TX6 3).1 (TX6 3).2.1 (TX6 3).2.2.1 ∈ wsX6_fetched := by decide +kernel
theorem hv_X6_fetched : yX6_fetched.cls = RX6 ∧ yX6_fetched.cls ≠ "java/lang/invoke/MethodHandle" ∧ yX6_fetched.cls ≠ "java/lang/invoke/VarHandle" ∧ (parseMethodDescriptor yX6_fetched.desc).map (fun d => d.parameters.length) = some 1 := by decide +kernel
def k_X6_fetched (S : gs_F) (x1 : Int32) : Int32 :=
  k_X4_address (gF_queue S) x1
set_option maxHeartbeats 4000000 in
set_option maxRecDepth 100000 in
theorem c_X6_fetched (l : Launch) (D : va_G) (cA : ClassId) (a : Nat → Nat) (S : gs_F) (x1 : Int32) : gq_C l yX6_fetched wsX6_fetched ({ frames := 2, cells := 0, slots := 0, locals := 42 } : Room) D cA [.ref (a 0), .int x1] (gw_GF cA a S) (some (.int (k_X6_fetched S x1))) (gw_GF cA a S) := by
  refine gq_openf (own := RX6) (lv := [(0, .ref (a 0)), (1, .int x1)]) (fun r : Int32 => (some (.int r), gw_GF cA a S)) (k_X6_fetched S x1) (by decide) rfl rfl (Nat.le_of_ble_eq_true rfl) rfl rfl rfl (fun p e s m args below meth c A X => ?_)
  unfold k_X6_fetched
  refine gq_aload_n X dX6_fetched_0 0 rfl ?_
  refine gq_get (C := RX6) (T := TX6) (N := 10) X iX6_fetched_X6 0 gl_GF_c0 rfl 3 (by decide) fX6_fetched_X6_3 rfl dX6_fetched_1 ?_
  refine gq_iload_n X dX6_fetched_4 1 rfl ?_
  refine gq_callVr (ws' := gw_GF cA a S) X (c_X4_address l D cA (a 26) (a 27) (a 28) (a 29) (a 30) (a 31) (a 32) (a 33) (a 34) (a 35) (a 36) (a 37) (a 38) (gF_queue S) x1) rfl ⟨rfl, rfl⟩ ⟨Nat.le_of_ble_eq_true rfl, Nat.le_of_ble_eq_true rfl⟩ gX6_fetched_X4_address hv_X4_address 26 rfl rfl [26, 27, 28, 29, 30, 31, 32, 33, 34, 35, 36, 37, 38] gl_GF_26_at gl_GF_26_nd gl_Que_fst gl_GF_26_same rfl rfl (Nat.le_of_ble_eq_true rfl) ⟨Nat.zero_le _, Nat.zero_le _⟩ dX6_fetched_5 ?_
  exact gq_iretf X dX6_fetched_8 rfl rfl
theorem iX6_known_X6 : ∀ w ∈ u_ws RX6 TX6 10, w ∈ wsX6_known := by decide +kernel
theorem fX6_known_X6_3 : Cond.fieldLink RX6 33 (TX6 3).1 (TX6 3).2.1 (TX6 3).2.2.1 ∈ wsX6_known := by decide +kernel
theorem fX6_known_X6_8 : Cond.fieldLink RX6 60 (TX6 8).1 (TX6 8).2.1 (TX6 8).2.2.1 ∈ wsX6_known := by decide +kernel
theorem hv_X6_known : yX6_known.cls = RX6 ∧ yX6_known.cls ≠ "java/lang/invoke/MethodHandle" ∧ yX6_known.cls ≠ "java/lang/invoke/VarHandle" ∧ (parseMethodDescriptor yX6_known.desc).map (fun d => d.parameters.length) = some 0 := by decide +kernel
def k_X6_known (S : gs_F) : Int32 :=
  if k_X6_isUnderWay S = true then
    if k_X4_size (gF_queue S) ≤ 0 then
      gF_place S
    else
      k_X4_address (gF_queue S) 0
  else
    (-103)
set_option maxHeartbeats 4000000 in
set_option maxRecDepth 100000 in
theorem c_X6_known (l : Launch) (D : va_G) (cA : ClassId) (a : Nat → Nat) (S : gs_F)  : gq_C l yX6_known wsX6_known ({ frames := 2, cells := 0, slots := 0, locals := 42 } : Room) D cA [.ref (a 0)] (gw_GF cA a S) (some (.int (k_X6_known S))) (gw_GF cA a S) := by
  refine gq_openf (own := RX6) (lv := [(0, .ref (a 0))]) (fun r : Int32 => (some (.int r), gw_GF cA a S)) (k_X6_known S) (by decide) rfl rfl (Nat.le_of_ble_eq_true rfl) rfl rfl rfl (fun p e s m args below meth c A X => ?_)
  unfold k_X6_known
  refine gq_aload_n X dX6_known_0 0 rfl ?_
  refine gq_callVr (ws' := gw_GF cA a S) X (c_X6_isUnderWay l D cA a S) rfl ⟨rfl, rfl⟩ ⟨Nat.le_of_ble_eq_true rfl, Nat.le_of_ble_eq_true rfl⟩ gX6_known_X6_isUnderWay hv_X6_isUnderWay 0 gl_GF_c0 rfl [0, 1, 2, 3, 4, 5, 6, 7, 8, 9, 10, 11, 12, 13, 14, 15, 16, 17, 18, 19, 20, 21, 22, 23, 24, 25, 26, 27, 28, 29, 30, 31, 32, 33, 34, 35, 36, 37, 38, 39, 40, 41, 42] gl_GF_self_at gl_GF_self_nd gl_GF_fst gl_GF_self_same rfl rfl (Nat.le_of_ble_eq_true rfl) ⟨Nat.zero_le _, Nat.zero_le _⟩ dX6_known_1 ?_
  refine gq_fbif_ne (tgt := 10) X dX6_known_4 (by decide) (fun h4 => ?_) (fun h4 => ?_)
  · refine gq_aload_n X dX6_known_10 0 rfl ?_
    refine gq_get (C := RX6) (T := TX6) (N := 10) X iX6_known_X6 0 gl_GF_c0 rfl 3 (by decide) fX6_known_X6_3 rfl dX6_known_11 ?_
    refine gq_callVr (ws' := gw_GF cA a S) X (c_X4_size l D cA (a 26) (a 27) (a 28) (a 29) (a 30) (a 31) (a 32) (a 33) (a 34) (a 35) (a 36) (a 37) (a 38) (gF_queue S)) rfl ⟨rfl, rfl⟩ ⟨Nat.le_of_ble_eq_true rfl, Nat.le_of_ble_eq_true rfl⟩ gX6_known_X4_size hv_X4_size 26 rfl rfl [26, 27, 28, 29, 30, 31, 32, 33, 34, 35, 36, 37, 38] gl_GF_26_at gl_GF_26_nd gl_Que_fst gl_GF_26_same rfl rfl (Nat.le_of_ble_eq_true rfl) ⟨Nat.zero_le _, Nat.zero_le _⟩ dX6_known_14 ?_
    refine gq_fif_le (tgt := 31) X dX6_known_17 (by decide) (fun h17 => ?_) (fun h17 => ?_)
    · refine gq_aload_n X dX6_known_31 0 rfl ?_
      refine gq_get (C := RX6) (T := TX6) (N := 10) X iX6_known_X6 0 gl_GF_c0 rfl 8 (by decide) fX6_known_X6_8 rfl dX6_known_32 ?_
      exact gq_iretf X dX6_known_35 rfl rfl
    · refine gq_aload_n X dX6_known_20 0 rfl ?_
      refine gq_get (C := RX6) (T := TX6) (N := 10) X iX6_known_X6 0 gl_GF_c0 rfl 3 (by decide) fX6_known_X6_3 rfl dX6_known_21 ?_
      refine gq_iconst (v := 0) X dX6_known_24 gq_i0 ?_
      refine gq_callVr (ws' := gw_GF cA a S) X (c_X4_address l D cA (a 26) (a 27) (a 28) (a 29) (a 30) (a 31) (a 32) (a 33) (a 34) (a 35) (a 36) (a 37) (a 38) (gF_queue S) 0) rfl ⟨rfl, rfl⟩ ⟨Nat.le_of_ble_eq_true rfl, Nat.le_of_ble_eq_true rfl⟩ gX6_known_X4_address hv_X4_address 26 rfl rfl [26, 27, 28, 29, 30, 31, 32, 33, 34, 35, 36, 37, 38] gl_GF_26_at gl_GF_26_nd gl_Que_fst gl_GF_26_same rfl rfl (Nat.le_of_ble_eq_true rfl) ⟨Nat.zero_le _, Nat.zero_le _⟩ dX6_known_25 ?_
      refine gq_goto (tgt := 35) X dX6_known_28 (by decide) ?_
      exact gq_iretf X dX6_known_35 rfl rfl
  · refine gq_bipush (v := (-103)) X dX6_known_7 (by decide) ?_
    exact gq_iretf X dX6_known_9 rfl rfl
theorem iX6_told_X6 : ∀ w ∈ u_ws RX6 TX6 10, w ∈ wsX6_told := by decide +kernel
theorem fX6_told_X6_0 : Cond.fieldLink RX6 10 (TX6 0).1 (TX6 0).2.1 (TX6 0).2.2.1 ∈ wsX6_told := by decide +kernel
theorem hv_X6_told : yX6_told.cls = RX6 ∧ yX6_told.cls ≠ "java/lang/invoke/MethodHandle" ∧ yX6_told.cls ≠ "java/lang/invoke/VarHandle" ∧ (parseMethodDescriptor yX6_told.desc).map (fun d => d.parameters.length) = some 2 := by decide +kernel
def k_X6_told (S : gs_F) (x1 : Int32) (x2 : Int32) : Int32 :=
  if k_X3_has (gF_prog S) x1 = true then
    if k_X6_isWithin x2 0 3 = true then
      k_X3_part (gF_prog S) x1 x2
    else
      (-102)
  else
    (-101)
set_option maxHeartbeats 4000000 in
set_option maxRecDepth 100000 in
theorem c_X6_told (l : Launch) (D : va_G) (cA : ClassId) (a : Nat → Nat) (S : gs_F) (x1 : Int32) (x2 : Int32) : gq_C l yX6_told wsX6_told ({ frames := 2, cells := 0, slots := 0, locals := 43 } : Room) D cA [.ref (a 0), .int x1, .int x2] (gw_GF cA a S) (some (.int (k_X6_told S x1 x2))) (gw_GF cA a S) := by
  refine gq_openf (own := RX6) (lv := [(0, .ref (a 0)), (1, .int x1), (2, .int x2)]) (fun r : Int32 => (some (.int r), gw_GF cA a S)) (k_X6_told S x1 x2) (by decide) rfl rfl (Nat.le_of_ble_eq_true rfl) rfl rfl rfl (fun p e s m args below meth c A X => ?_)
  unfold k_X6_told
  refine gq_aload_n X dX6_told_0 0 rfl ?_
  refine gq_get (C := RX6) (T := TX6) (N := 10) X iX6_told_X6 0 gl_GF_c0 rfl 0 (by decide) fX6_told_X6_0 rfl dX6_told_1 ?_
  refine gq_iload_n X dX6_told_4 1 rfl ?_
  refine gq_callVr (ws' := gw_GF cA a S) X (c_X3_has l D cA (a 1) (a 2) (a 3) (gF_prog S) x1) rfl ⟨rfl, rfl⟩ ⟨Nat.le_of_ble_eq_true rfl, Nat.le_of_ble_eq_true rfl⟩ gX6_told_X3_has hv_X3_has 1 rfl rfl [1, 2, 3] gl_GF_1_at gl_GF_1_nd gl_Prog_fst gl_GF_1_same rfl rfl (Nat.le_of_ble_eq_true rfl) ⟨Nat.zero_le _, Nat.zero_le _⟩ dX6_told_5 ?_
  refine gq_fbif_ne (tgt := 14) X dX6_told_8 (by decide) (fun h8 => ?_) (fun h8 => ?_)
  · refine gq_iload_n X dX6_told_14 2 rfl ?_
    refine gq_iconst (v := 0) X dX6_told_15 gq_i0 ?_
    refine gq_iconst (v := 3) X dX6_told_16 gq_i3 ?_
    refine gq_callSr (ws' := gw_GF cA a S) X (c_X6_isWithin l D cA x2 0 3) rfl ⟨rfl, rfl⟩ ⟨Nat.le_of_ble_eq_true rfl, Nat.le_of_ble_eq_true rfl⟩ gX6_told_X6_isWithin hd_X6_isWithin [] rfl (by decide) rfl rfl rfl rfl (Nat.le_of_ble_eq_true rfl) ⟨Nat.zero_le _, Nat.zero_le _⟩ dX6_told_17 ?_
    refine gq_fbif_eq (tgt := 35) X dX6_told_20 (by decide) (fun h20 => ?_) (fun h20 => ?_)
    · refine gq_aload_n X dX6_told_23 0 rfl ?_
      refine gq_get (C := RX6) (T := TX6) (N := 10) X iX6_told_X6 0 gl_GF_c0 rfl 0 (by decide) fX6_told_X6_0 rfl dX6_told_24 ?_
      refine gq_iload_n X dX6_told_27 1 rfl ?_
      refine gq_iload_n X dX6_told_28 2 rfl ?_
      refine gq_callVr (ws' := gw_GF cA a S) X (c_X3_part l D cA (a 1) (a 2) (a 3) (gF_prog S) x1 x2) rfl ⟨rfl, rfl⟩ ⟨Nat.le_of_ble_eq_true rfl, Nat.le_of_ble_eq_true rfl⟩ gX6_told_X3_part hv_X3_part 1 rfl rfl [1, 2, 3] gl_GF_1_at gl_GF_1_nd gl_Prog_fst gl_GF_1_same rfl rfl (Nat.le_of_ble_eq_true rfl) ⟨Nat.zero_le _, Nat.zero_le _⟩ dX6_told_29 ?_
      refine gq_goto (tgt := 37) X dX6_told_32 (by decide) ?_
      exact gq_iretf X dX6_told_37 rfl rfl
    · refine gq_bipush (v := (-102)) X dX6_told_35 (by decide) ?_
      exact gq_iretf X dX6_told_37 rfl rfl
  · refine gq_bipush (v := (-101)) X dX6_told_11 (by decide) ?_
    exact gq_iretf X dX6_told_13 rfl rfl
theorem iX6_count_X6 : ∀ w ∈ u_ws RX6 TX6 10, w ∈ wsX6_count := by decide +kernel
theorem fX6_count_X6_0 : Cond.fieldLink RX6 10 (TX6 0).1 (TX6 0).2.1 (TX6 0).2.2.1 ∈ wsX6_count := by decide +kernel
theorem fX6_count_X6_1 : Cond.fieldLink RX6 19 (TX6 1).1 (TX6 1).2.1 (TX6 1).2.2.1 ∈ wsX6_count := by decide +kernel
theorem fX6_count_X6_3 : Cond.fieldLink RX6 33 (TX6 3).1 (TX6 3).2.1 (TX6 3).2.2.1 ∈ wsX6_count := by decide +kernel
theorem fX6_count_X6_4 : Cond.fieldLink RX6 42 (TX6 4).1 (TX6 4).2.1 (TX6 4).2.2.1 ∈ wsX6_count := by decide +kernel
theorem fX6_count_X6_6 : Cond.fieldLink RX6 53 (TX6 6).1 (TX6 6).2.1 (TX6 6).2.2.1 ∈ wsX6_count := by decide +kernel
theorem fX6_count_X6_7 : Cond.fieldLink RX6 57 (TX6 7).1 (TX6 7).2.1 (TX6 7).2.2.1 ∈ wsX6_count := by decide +kernel
theorem fX6_count_X6_8 : Cond.fieldLink RX6 60 (TX6 8).1 (TX6 8).2.1 (TX6 8).2.2.1 ∈ wsX6_count := by decide +kernel
theorem hv_X6_count : yX6_count.cls = RX6 ∧ yX6_count.cls ≠ "java/lang/invoke/MethodHandle" ∧ yX6_count.cls ≠ "java/lang/invoke/VarHandle" ∧ (parseMethodDescriptor yX6_count.desc).map (fun d => d.parameters.length) = some 1 := by decide +kernel
def k_X6_count (S : gs_F) (x1 : Int32) : Int32 :=
  if x1 = 9 then
    k_X0_stackSize (gF_core S)
  else
    if x1 = 10 then
      k_X4_size (gF_queue S)
    else
      if x1 = 11 then
        gF_place S
      else
        if x1 = 12 then
          if k_X6_isWithin x1 0 14 = true then
            k_X5_get 18 (gF_counts S) x1
          else
            (-102)
        else
          if x1 = 13 then
            if k_X6_isWithin x1 0 14 = true then
              k_X5_get 18 (gF_counts S) x1
            else
              (-102)
          else
            if x1 = 14 then
              if k_X6_isWithin x1 0 14 = true then
                k_X5_get 18 (gF_counts S) x1
              else
                (-102)
            else
              if x1 = 15 then
                k_X3_size (gF_prog S)
              else
                if x1 = 16 then
                  gF_way S
                else
                  if x1 = 17 then
                    gF_depth S
                  else
                    if k_X6_isWithin x1 0 14 = true then
                      k_X5_get 18 (gF_counts S) x1
                    else
                      (-102)
set_option maxHeartbeats 4000000 in
set_option maxRecDepth 100000 in
theorem c_X6_count (l : Launch) (D : va_G) (cA : ClassId) (a : Nat → Nat) (S : gs_F) (x1 : Int32) : gq_C l yX6_count wsX6_count ({ frames := 2, cells := 0, slots := 0, locals := 40 } : Room) D cA [.ref (a 0), .int x1] (gw_GF cA a S) (some (.int (k_X6_count S x1))) (gw_GF cA a S) := by
  refine gq_openf (own := RX6) (lv := [(0, .ref (a 0)), (1, .int x1)]) (fun r : Int32 => (some (.int r), gw_GF cA a S)) (k_X6_count S x1) (by decide) rfl rfl (Nat.le_of_ble_eq_true rfl) rfl rfl rfl (fun p e s m args below meth c A X => ?_)
  unfold k_X6_count
  refine gq_iload_n X dX6_count_0 1 rfl ?_
  refine gq_ite (fun h1_0 => ?_) (fun h1_0 => ?_)
  · refine gq_tin (k := 9) (off := 51) (tgt := 52) X dX6_count_1 h1_0 (by decide) (by decide) (by decide) (by decide) ?_
    refine gq_aload_n X dX6_count_52 0 rfl ?_
    refine gq_get (C := RX6) (T := TX6) (N := 10) X iX6_count_X6 0 gl_GF_c0 rfl 1 (by decide) fX6_count_X6_1 rfl dX6_count_53 ?_
    refine gq_callVr (ws' := gw_GF cA a S) X (c_X0_stackSize l D cA (a 4) (a 5) (a 6) (a 7) (a 8) (a 9) (a 10) (gF_core S)) rfl ⟨rfl, rfl⟩ ⟨Nat.le_of_ble_eq_true rfl, Nat.le_of_ble_eq_true rfl⟩ gX6_count_X0_stackSize hv_X0_stackSize 4 rfl rfl [4, 5, 6, 7, 8, 9, 10] gl_GF_4_at gl_GF_4_nd gl_Core_fst gl_GF_4_same rfl rfl (Nat.le_of_ble_eq_true rfl) ⟨Nat.zero_le _, Nat.zero_le _⟩ dX6_count_56 ?_
    exact gq_iretf X dX6_count_59 rfl rfl
  · refine gq_ite (fun h1_1 => ?_) (fun h1_1 => ?_)
    · refine gq_tin (k := 10) (off := 59) (tgt := 60) X dX6_count_1 h1_1 (by decide) (by decide) (by decide) (by decide) ?_
      refine gq_aload_n X dX6_count_60 0 rfl ?_
      refine gq_get (C := RX6) (T := TX6) (N := 10) X iX6_count_X6 0 gl_GF_c0 rfl 3 (by decide) fX6_count_X6_3 rfl dX6_count_61 ?_
      refine gq_callVr (ws' := gw_GF cA a S) X (c_X4_size l D cA (a 26) (a 27) (a 28) (a 29) (a 30) (a 31) (a 32) (a 33) (a 34) (a 35) (a 36) (a 37) (a 38) (gF_queue S)) rfl ⟨rfl, rfl⟩ ⟨Nat.le_of_ble_eq_true rfl, Nat.le_of_ble_eq_true rfl⟩ gX6_count_X4_size hv_X4_size 26 rfl rfl [26, 27, 28, 29, 30, 31, 32, 33, 34, 35, 36, 37, 38] gl_GF_26_at gl_GF_26_nd gl_Que_fst gl_GF_26_same rfl rfl (Nat.le_of_ble_eq_true rfl) ⟨Nat.zero_le _, Nat.zero_le _⟩ dX6_count_64 ?_
      exact gq_iretf X dX6_count_67 rfl rfl
    · refine gq_ite (fun h1_2 => ?_) (fun h1_2 => ?_)
      · refine gq_tin (k := 11) (off := 67) (tgt := 68) X dX6_count_1 h1_2 (by decide) (by decide) (by decide) (by decide) ?_
        refine gq_aload_n X dX6_count_68 0 rfl ?_
        refine gq_get (C := RX6) (T := TX6) (N := 10) X iX6_count_X6 0 gl_GF_c0 rfl 8 (by decide) fX6_count_X6_8 rfl dX6_count_69 ?_
        exact gq_iretf X dX6_count_72 rfl rfl
      · refine gq_ite (fun h1_3 => ?_) (fun h1_3 => ?_)
        · refine gq_tin (k := 12) (off := 90) (tgt := 91) X dX6_count_1 h1_3 (by decide) (by decide) (by decide) (by decide) ?_
          refine gq_iload_n X dX6_count_91 1 rfl ?_
          refine gq_iconst (v := 0) X dX6_count_92 gq_i0 ?_
          refine gq_bipush (v := 14) X dX6_count_93 (by decide) ?_
          refine gq_callSr (ws' := gw_GF cA a S) X (c_X6_isWithin l D cA x1 0 14) rfl ⟨rfl, rfl⟩ ⟨Nat.le_of_ble_eq_true rfl, Nat.le_of_ble_eq_true rfl⟩ gX6_count_X6_isWithin hd_X6_isWithin [] rfl (by decide) rfl rfl rfl rfl (Nat.le_of_ble_eq_true rfl) ⟨Nat.zero_le _, Nat.zero_le _⟩ dX6_count_95 ?_
          refine gq_fbif_eq (tgt := 112) X dX6_count_98 (by decide) (fun h98 => ?_) (fun h98 => ?_)
          · refine gq_aload_n X dX6_count_101 0 rfl ?_
            refine gq_get (C := RX6) (T := TX6) (N := 10) X iX6_count_X6 0 gl_GF_c0 rfl 4 (by decide) fX6_count_X6_4 rfl dX6_count_102 ?_
            refine gq_iload_n X dX6_count_105 1 rfl ?_
            refine gq_callVr (ws' := gw_GF cA a S) X (c_X5_get l D cA (a 39) (a 40) 18 (by decide) (gF_counts S) x1) rfl ⟨rfl, rfl⟩ ⟨Nat.le_of_ble_eq_true rfl, Nat.le_of_ble_eq_true rfl⟩ gX6_count_X5_get hv_X5_get 39 rfl rfl [39, 40] gl_GF_39_at gl_GF_39_nd gl_Row_fst gl_GF_39_same rfl rfl (Nat.le_of_ble_eq_true rfl) ⟨Nat.zero_le _, Nat.zero_le _⟩ dX6_count_106 ?_
            refine gq_goto (tgt := 114) X dX6_count_109 (by decide) ?_
            exact gq_iretf X dX6_count_114 rfl rfl
          · refine gq_bipush (v := (-102)) X dX6_count_112 (by decide) ?_
            exact gq_iretf X dX6_count_114 rfl rfl
        · refine gq_ite (fun h1_4 => ?_) (fun h1_4 => ?_)
          · refine gq_tin (k := 13) (off := 90) (tgt := 91) X dX6_count_1 h1_4 (by decide) (by decide) (by decide) (by decide) ?_
            refine gq_iload_n X dX6_count_91 1 rfl ?_
            refine gq_iconst (v := 0) X dX6_count_92 gq_i0 ?_
            refine gq_bipush (v := 14) X dX6_count_93 (by decide) ?_
            refine gq_callSr (ws' := gw_GF cA a S) X (c_X6_isWithin l D cA x1 0 14) rfl ⟨rfl, rfl⟩ ⟨Nat.le_of_ble_eq_true rfl, Nat.le_of_ble_eq_true rfl⟩ gX6_count_X6_isWithin hd_X6_isWithin [] rfl (by decide) rfl rfl rfl rfl (Nat.le_of_ble_eq_true rfl) ⟨Nat.zero_le _, Nat.zero_le _⟩ dX6_count_95 ?_
            refine gq_fbif_eq (tgt := 112) X dX6_count_98 (by decide) (fun h98 => ?_) (fun h98 => ?_)
            · refine gq_aload_n X dX6_count_101 0 rfl ?_
              refine gq_get (C := RX6) (T := TX6) (N := 10) X iX6_count_X6 0 gl_GF_c0 rfl 4 (by decide) fX6_count_X6_4 rfl dX6_count_102 ?_
              refine gq_iload_n X dX6_count_105 1 rfl ?_
              refine gq_callVr (ws' := gw_GF cA a S) X (c_X5_get l D cA (a 39) (a 40) 18 (by decide) (gF_counts S) x1) rfl ⟨rfl, rfl⟩ ⟨Nat.le_of_ble_eq_true rfl, Nat.le_of_ble_eq_true rfl⟩ gX6_count_X5_get hv_X5_get 39 rfl rfl [39, 40] gl_GF_39_at gl_GF_39_nd gl_Row_fst gl_GF_39_same rfl rfl (Nat.le_of_ble_eq_true rfl) ⟨Nat.zero_le _, Nat.zero_le _⟩ dX6_count_106 ?_
              refine gq_goto (tgt := 114) X dX6_count_109 (by decide) ?_
              exact gq_iretf X dX6_count_114 rfl rfl
            · refine gq_bipush (v := (-102)) X dX6_count_112 (by decide) ?_
              exact gq_iretf X dX6_count_114 rfl rfl
          · refine gq_ite (fun h1_5 => ?_) (fun h1_5 => ?_)
            · refine gq_tin (k := 14) (off := 90) (tgt := 91) X dX6_count_1 h1_5 (by decide) (by decide) (by decide) (by decide) ?_
              refine gq_iload_n X dX6_count_91 1 rfl ?_
              refine gq_iconst (v := 0) X dX6_count_92 gq_i0 ?_
              refine gq_bipush (v := 14) X dX6_count_93 (by decide) ?_
              refine gq_callSr (ws' := gw_GF cA a S) X (c_X6_isWithin l D cA x1 0 14) rfl ⟨rfl, rfl⟩ ⟨Nat.le_of_ble_eq_true rfl, Nat.le_of_ble_eq_true rfl⟩ gX6_count_X6_isWithin hd_X6_isWithin [] rfl (by decide) rfl rfl rfl rfl (Nat.le_of_ble_eq_true rfl) ⟨Nat.zero_le _, Nat.zero_le _⟩ dX6_count_95 ?_
              refine gq_fbif_eq (tgt := 112) X dX6_count_98 (by decide) (fun h98 => ?_) (fun h98 => ?_)
              · refine gq_aload_n X dX6_count_101 0 rfl ?_
                refine gq_get (C := RX6) (T := TX6) (N := 10) X iX6_count_X6 0 gl_GF_c0 rfl 4 (by decide) fX6_count_X6_4 rfl dX6_count_102 ?_
                refine gq_iload_n X dX6_count_105 1 rfl ?_
                refine gq_callVr (ws' := gw_GF cA a S) X (c_X5_get l D cA (a 39) (a 40) 18 (by decide) (gF_counts S) x1) rfl ⟨rfl, rfl⟩ ⟨Nat.le_of_ble_eq_true rfl, Nat.le_of_ble_eq_true rfl⟩ gX6_count_X5_get hv_X5_get 39 rfl rfl [39, 40] gl_GF_39_at gl_GF_39_nd gl_Row_fst gl_GF_39_same rfl rfl (Nat.le_of_ble_eq_true rfl) ⟨Nat.zero_le _, Nat.zero_le _⟩ dX6_count_106 ?_
                refine gq_goto (tgt := 114) X dX6_count_109 (by decide) ?_
                exact gq_iretf X dX6_count_114 rfl rfl
              · refine gq_bipush (v := (-102)) X dX6_count_112 (by decide) ?_
                exact gq_iretf X dX6_count_114 rfl rfl
            · refine gq_ite (fun h1_6 => ?_) (fun h1_6 => ?_)
              · refine gq_tin (k := 15) (off := 72) (tgt := 73) X dX6_count_1 h1_6 (by decide) (by decide) (by decide) (by decide) ?_
                refine gq_aload_n X dX6_count_73 0 rfl ?_
                refine gq_get (C := RX6) (T := TX6) (N := 10) X iX6_count_X6 0 gl_GF_c0 rfl 0 (by decide) fX6_count_X6_0 rfl dX6_count_74 ?_
                refine gq_callVr (ws' := gw_GF cA a S) X (c_X3_size l D cA (a 1) (a 2) (a 3) (gF_prog S)) rfl ⟨rfl, rfl⟩ ⟨Nat.le_of_ble_eq_true rfl, Nat.le_of_ble_eq_true rfl⟩ gX6_count_X3_size hv_X3_size 1 rfl rfl [1, 2, 3] gl_GF_1_at gl_GF_1_nd gl_Prog_fst gl_GF_1_same rfl rfl (Nat.le_of_ble_eq_true rfl) ⟨Nat.zero_le _, Nat.zero_le _⟩ dX6_count_77 ?_
                exact gq_iretf X dX6_count_80 rfl rfl
              · refine gq_ite (fun h1_7 => ?_) (fun h1_7 => ?_)
                · refine gq_tin (k := 16) (off := 80) (tgt := 81) X dX6_count_1 h1_7 (by decide) (by decide) (by decide) (by decide) ?_
                  refine gq_aload_n X dX6_count_81 0 rfl ?_
                  refine gq_get (C := RX6) (T := TX6) (N := 10) X iX6_count_X6 0 gl_GF_c0 rfl 6 (by decide) fX6_count_X6_6 rfl dX6_count_82 ?_
                  exact gq_iretf X dX6_count_85 rfl rfl
                · refine gq_ite (fun h1_8 => ?_) (fun h1_8 => ?_)
                  · refine gq_tin (k := 17) (off := 85) (tgt := 86) X dX6_count_1 h1_8 (by decide) (by decide) (by decide) (by decide) ?_
                    refine gq_aload_n X dX6_count_86 0 rfl ?_
                    refine gq_get (C := RX6) (T := TX6) (N := 10) X iX6_count_X6 0 gl_GF_c0 rfl 7 (by decide) fX6_count_X6_7 rfl dX6_count_87 ?_
                    exact gq_iretf X dX6_count_90 rfl rfl
                  · refine gq_tout (tgt := 91) X dX6_count_1 (by have q0 := lv_neT h1_0 (show (9 : Int32).toInt = 9 by decide); have q1 := lv_neT h1_1 (show (10 : Int32).toInt = 10 by decide); have q2 := lv_neT h1_2 (show (11 : Int32).toInt = 11 by decide); have q3 := lv_neT h1_3 (show (12 : Int32).toInt = 12 by decide); have q4 := lv_neT h1_4 (show (13 : Int32).toInt = 13 by decide); have q5 := lv_neT h1_5 (show (14 : Int32).toInt = 14 by decide); have q6 := lv_neT h1_6 (show (15 : Int32).toInt = 15 by decide); have q7 := lv_neT h1_7 (show (16 : Int32).toInt = 16 by decide); have q8 := lv_neT h1_8 (show (17 : Int32).toInt = 17 by decide); omega) (by decide) ?_
                    refine gq_iload_n X dX6_count_91 1 rfl ?_
                    refine gq_iconst (v := 0) X dX6_count_92 gq_i0 ?_
                    refine gq_bipush (v := 14) X dX6_count_93 (by decide) ?_
                    refine gq_callSr (ws' := gw_GF cA a S) X (c_X6_isWithin l D cA x1 0 14) rfl ⟨rfl, rfl⟩ ⟨Nat.le_of_ble_eq_true rfl, Nat.le_of_ble_eq_true rfl⟩ gX6_count_X6_isWithin hd_X6_isWithin [] rfl (by decide) rfl rfl rfl rfl (Nat.le_of_ble_eq_true rfl) ⟨Nat.zero_le _, Nat.zero_le _⟩ dX6_count_95 ?_
                    refine gq_fbif_eq (tgt := 112) X dX6_count_98 (by decide) (fun h98 => ?_) (fun h98 => ?_)
                    · refine gq_aload_n X dX6_count_101 0 rfl ?_
                      refine gq_get (C := RX6) (T := TX6) (N := 10) X iX6_count_X6 0 gl_GF_c0 rfl 4 (by decide) fX6_count_X6_4 rfl dX6_count_102 ?_
                      refine gq_iload_n X dX6_count_105 1 rfl ?_
                      refine gq_callVr (ws' := gw_GF cA a S) X (c_X5_get l D cA (a 39) (a 40) 18 (by decide) (gF_counts S) x1) rfl ⟨rfl, rfl⟩ ⟨Nat.le_of_ble_eq_true rfl, Nat.le_of_ble_eq_true rfl⟩ gX6_count_X5_get hv_X5_get 39 rfl rfl [39, 40] gl_GF_39_at gl_GF_39_nd gl_Row_fst gl_GF_39_same rfl rfl (Nat.le_of_ble_eq_true rfl) ⟨Nat.zero_le _, Nat.zero_le _⟩ dX6_count_106 ?_
                      refine gq_goto (tgt := 114) X dX6_count_109 (by decide) ?_
                      exact gq_iretf X dX6_count_114 rfl rfl
                    · refine gq_bipush (v := (-102)) X dX6_count_112 (by decide) ?_
                      exact gq_iretf X dX6_count_114 rfl rfl
