theorem iX6_act_X6 : ∀ w ∈ u_ws RX6 TX6 10, w ∈ wsX6_act := by decide +kernel
theorem fX6_act_X6_0 : Cond.fieldLink RX6 10 (TX6 0).1 (TX6 0).2.1 (TX6 0).2.2.1 ∈ wsX6_act := by decide +kernel
theorem hv_X6_act : yX6_act.cls = RX6 ∧ yX6_act.cls ≠ "java/lang/invoke/MethodHandle" ∧ yX6_act.cls ≠ "java/lang/invoke/VarHandle" ∧ (parseMethodDescriptor yX6_act.desc).map (fun d => d.parameters.length) = some 4 := by decide +kernel
def k_X6_act (S : gs_F) (x1 : Int32) (x2 : Int32) (x3 : Int32) (x4 : Int32) : Int32 × gs_F :=
  if x1 < 5 then
    if k_X6_isWithin x1 0 11 = true then
      if k_X6_isWithin x2 0 7 = true then
        if k_X6_isWithin x3 0 7 = true then
          if k_X6_isUnderWay S = true then
            ((-103), S)
          else
            gq_lt (k_X3_add (gF_prog S) x1 x2 x3 x4) (fun r1 =>
            gq_lt (sF_prog S r1.2) (fun s2 =>
            if r1.1 = true then
              ((k_X3_size (gF_prog s2)) - 1, s2)
            else
              ((-104), s2)))
        else
          ((-102), S)
      else
        ((-102), S)
    else
      ((-102), S)
  else
    if 8 < x1 then
      if k_X6_isWithin x1 0 11 = true then
        if k_X6_isWithin x2 0 7 = true then
          if k_X6_isWithin x3 0 7 = true then
            if k_X6_isUnderWay S = true then
              ((-103), S)
            else
              gq_lt (k_X3_add (gF_prog S) x1 x2 x3 x4) (fun r3 =>
              gq_lt (sF_prog S r3.2) (fun s4 =>
              if r3.1 = true then
                ((k_X3_size (gF_prog s4)) - 1, s4)
              else
                ((-104), s4)))
          else
            ((-102), S)
        else
          ((-102), S)
      else
        ((-102), S)
    else
      if k_X6_isWithin x1 0 11 = true then
        if k_X6_isWithin x2 0 7 = true then
          if k_X6_isWithin x3 0 7 = true then
            if k_X6_isWithin x4 0 60 = true then
              if k_X6_isUnderWay S = true then
                ((-103), S)
              else
                gq_lt (k_X3_add (gF_prog S) x1 x2 x3 x4) (fun r5 =>
                gq_lt (sF_prog S r5.2) (fun s6 =>
                if r5.1 = true then
                  ((k_X3_size (gF_prog s6)) - 1, s6)
                else
                  ((-104), s6)))
            else
              ((-102), S)
          else
            ((-102), S)
        else
          ((-102), S)
      else
        ((-102), S)
set_option maxHeartbeats 4000000 in
set_option maxRecDepth 100000 in
theorem c_X6_act (l : Launch) (D : va_G) (cA : ClassId) (a : Nat → Nat) (S : gs_F) (x1 : Int32) (x2 : Int32) (x3 : Int32) (x4 : Int32) : gq_C l yX6_act wsX6_act ({ frames := 2, cells := 0, slots := 0, locals := 47 } : Room) D cA [.ref (a 0), .int x1, .int x2, .int x3, .int x4] (gw_GF cA a S) (some (.int (k_X6_act S x1 x2 x3 x4).1)) (gw_GF cA a ((k_X6_act S x1 x2 x3 x4).2)) := by
  refine gq_openf (own := RX6) (lv := [(0, .ref (a 0)), (1, .int x1), (2, .int x2), (3, .int x3), (4, .int x4)]) (fun r : Int32 × gs_F => (some (.int r.1), gw_GF cA a r.2)) (k_X6_act S x1 x2 x3 x4) (by decide) rfl rfl (Nat.le_of_ble_eq_true rfl) rfl rfl rfl (fun p e s m args below meth c A X => ?_)
  unfold k_X6_act
  refine gq_iload_n X dX6_act_0 1 rfl ?_
  refine gq_iconst (v := 5) X dX6_act_1 gq_i5 ?_
  refine gq_ficmp_lt (tgt := 15) X dX6_act_2 (by decide) (fun h2 => ?_) (fun h2 => ?_)
  · refine gq_iconst (v := 0) X dX6_act_15 gq_i0 ?_
    refine gq_istore (lv' := [(5, .int 0), (0, .ref (a 0)), (1, .int x1), (2, .int x2), (3, .int x3), (4, .int x4)]) X dX6_act_16 (by decide) rfl ?_
    refine gq_iload_n X dX6_act_18 2 rfl ?_
    refine gq_iconst (v := 0) X dX6_act_19 gq_i0 ?_
    refine gq_bipush (v := 11) X dX6_act_20 (by decide) ?_
    refine gq_callSr (ws' := gw_GF cA a S) X (c_X6_isWithin l D cA x1 0 11) rfl ⟨rfl, rfl⟩ ⟨Nat.le_of_ble_eq_true rfl, Nat.le_of_ble_eq_true rfl⟩ gX6_act_X6_isWithin hd_X6_isWithin [] rfl (by decide) rfl rfl rfl rfl (Nat.le_of_ble_eq_true rfl) ⟨Nat.zero_le _, Nat.zero_le _⟩ dX6_act_22 ?_
    refine gq_fbif_eq (tgt := 64) X dX6_act_25 (by decide) (fun h25 => ?_) (fun h25 => ?_)
    · refine gq_iload_n X dX6_act_28 3 rfl ?_
      refine gq_iconst (v := 0) X dX6_act_29 gq_i0 ?_
      refine gq_bipush (v := 7) X dX6_act_30 (by decide) ?_
      refine gq_callSr (ws' := gw_GF cA a S) X (c_X6_isWithin l D cA x2 0 7) rfl ⟨rfl, rfl⟩ ⟨Nat.le_of_ble_eq_true rfl, Nat.le_of_ble_eq_true rfl⟩ gX6_act_X6_isWithin hd_X6_isWithin [] rfl (by decide) rfl rfl rfl rfl (Nat.le_of_ble_eq_true rfl) ⟨Nat.zero_le _, Nat.zero_le _⟩ dX6_act_32 ?_
      refine gq_fbif_eq (tgt := 64) X dX6_act_35 (by decide) (fun h35 => ?_) (fun h35 => ?_)
      · refine gq_iload_n X dX6_act_38 4 rfl ?_
        refine gq_iconst (v := 0) X dX6_act_39 gq_i0 ?_
        refine gq_bipush (v := 7) X dX6_act_40 (by decide) ?_
        refine gq_callSr (ws' := gw_GF cA a S) X (c_X6_isWithin l D cA x3 0 7) rfl ⟨rfl, rfl⟩ ⟨Nat.le_of_ble_eq_true rfl, Nat.le_of_ble_eq_true rfl⟩ gX6_act_X6_isWithin hd_X6_isWithin [] rfl (by decide) rfl rfl rfl rfl (Nat.le_of_ble_eq_true rfl) ⟨Nat.zero_le _, Nat.zero_le _⟩ dX6_act_42 ?_
        refine gq_fbif_eq (tgt := 64) X dX6_act_45 (by decide) (fun h45 => ?_) (fun h45 => ?_)
        · refine gq_iload X dX6_act_48 0 rfl ?_
          refine gq_if_eq (tgt := 67) X dX6_act_50 (by decide) (fun _ => ?_) (fun h => absurd (by decide) h)
          refine gq_aload_n X dX6_act_67 1 rfl ?_
          refine gq_callVr (ws' := gw_GF cA a S) X (c_X6_isUnderWay l D cA a S) rfl ⟨rfl, rfl⟩ ⟨Nat.le_of_ble_eq_true rfl, Nat.le_of_ble_eq_true rfl⟩ gX6_act_X6_isUnderWay hv_X6_isUnderWay 0 gl_GF_c0 rfl [0, 1, 2, 3, 4, 5, 6, 7, 8, 9, 10, 11, 12, 13, 14, 15, 16, 17, 18, 19, 20, 21, 22, 23, 24, 25, 26, 27, 28, 29, 30, 31, 32, 33, 34, 35, 36, 37, 38, 39, 40, 41, 42] gl_GF_self_at gl_GF_self_nd gl_GF_fst gl_GF_self_same rfl rfl (Nat.le_of_ble_eq_true rfl) ⟨Nat.zero_le _, Nat.zero_le _⟩ dX6_act_68 ?_
          refine gq_fbif_eq (tgt := 77) X dX6_act_71 (by decide) (fun h71 => ?_) (fun h71 => ?_)
          · refine gq_bipush (v := (-103)) X dX6_act_74 (by decide) ?_
            exact gq_iretf X dX6_act_76 rfl rfl
          · refine gq_aload_n X dX6_act_77 1 rfl ?_
            refine gq_get (C := RX6) (T := TX6) (N := 10) X iX6_act_X6 0 gl_GF_c0 rfl 0 (by decide) fX6_act_X6_0 rfl dX6_act_78 ?_
            refine gq_iload_n X dX6_act_81 2 rfl ?_
            refine gq_iload_n X dX6_act_82 3 rfl ?_
            refine gq_iload_n X dX6_act_83 4 rfl ?_
            refine gq_iload X dX6_act_84 5 rfl ?_
            refine gq_letr (fun r1 er1 => ?_)
            refine gq_letr (fun s2 es2 => ?_)
            refine gq_callVr (ws' := gw_GF cA a s2) X (gq_Ceq (res2 := some (Value.int (gq_b r1.1))) (w2 := gw_Prog cA (a 1) (a 2) (a 3) r1.2) (c_X3_add l D cA (a 1) (a 2) (a 3) (gF_prog S) x1 x2 x3 x4) (by rw [er1]) (by rw [er1])) rfl ⟨rfl, rfl⟩ ⟨Nat.le_of_ble_eq_true rfl, Nat.le_of_ble_eq_true rfl⟩ gX6_act_X3_add hv_X3_add 1 rfl rfl [1, 2, 3] gl_GF_1_at gl_GF_1_nd gl_Prog_fst (by rw [es2]; exact gl_GF_1_set) rfl rfl (Nat.le_of_ble_eq_true rfl) ⟨Nat.zero_le _, Nat.zero_le _⟩ dX6_act_86 ?_
            refine gq_fbif_eq (tgt := 104) X dX6_act_89 (by decide) (fun h89 => ?_) (fun h89 => ?_)
            · refine gq_aload_n X dX6_act_92 1 rfl ?_
              refine gq_get (C := RX6) (T := TX6) (N := 10) X iX6_act_X6 0 gl_GF_c0 rfl 0 (by decide) fX6_act_X6_0 rfl dX6_act_93 ?_
              refine gq_callVr (ws' := gw_GF cA a s2) X (c_X3_size l D cA (a 1) (a 2) (a 3) (gF_prog s2)) rfl ⟨rfl, rfl⟩ ⟨Nat.le_of_ble_eq_true rfl, Nat.le_of_ble_eq_true rfl⟩ gX6_act_X3_size hv_X3_size 1 rfl rfl [1, 2, 3] gl_GF_1_at gl_GF_1_nd gl_Prog_fst gl_GF_1_same rfl rfl (Nat.le_of_ble_eq_true rfl) ⟨Nat.zero_le _, Nat.zero_le _⟩ dX6_act_96 ?_
              refine gq_iconst (v := 1) X dX6_act_99 gq_i1 ?_
              refine gq_isub X dX6_act_100 ?_
              refine gq_goto (tgt := 106) X dX6_act_101 (by decide) ?_
              exact gq_iretf X dX6_act_106 rfl rfl
            · refine gq_bipush (v := (-104)) X dX6_act_104 (by decide) ?_
              exact gq_iretf X dX6_act_106 rfl rfl
        · refine gq_bipush (v := (-102)) X dX6_act_64 (by decide) ?_
          exact gq_iretf X dX6_act_66 rfl rfl
      · refine gq_bipush (v := (-102)) X dX6_act_64 (by decide) ?_
        exact gq_iretf X dX6_act_66 rfl rfl
    · refine gq_bipush (v := (-102)) X dX6_act_64 (by decide) ?_
      exact gq_iretf X dX6_act_66 rfl rfl
  · refine gq_iload_n X dX6_act_5 1 rfl ?_
    refine gq_bipush (v := 8) X dX6_act_6 (by decide) ?_
    refine gq_ficmp_gt (tgt := 15) X dX6_act_8 (by decide) (fun h8 => ?_) (fun h8 => ?_)
    · refine gq_iconst (v := 0) X dX6_act_15 gq_i0 ?_
      refine gq_istore (lv' := [(5, .int 0), (0, .ref (a 0)), (1, .int x1), (2, .int x2), (3, .int x3), (4, .int x4)]) X dX6_act_16 (by decide) rfl ?_
      refine gq_iload_n X dX6_act_18 2 rfl ?_
      refine gq_iconst (v := 0) X dX6_act_19 gq_i0 ?_
      refine gq_bipush (v := 11) X dX6_act_20 (by decide) ?_
      refine gq_callSr (ws' := gw_GF cA a S) X (c_X6_isWithin l D cA x1 0 11) rfl ⟨rfl, rfl⟩ ⟨Nat.le_of_ble_eq_true rfl, Nat.le_of_ble_eq_true rfl⟩ gX6_act_X6_isWithin hd_X6_isWithin [] rfl (by decide) rfl rfl rfl rfl (Nat.le_of_ble_eq_true rfl) ⟨Nat.zero_le _, Nat.zero_le _⟩ dX6_act_22 ?_
      refine gq_fbif_eq (tgt := 64) X dX6_act_25 (by decide) (fun h25 => ?_) (fun h25 => ?_)
      · refine gq_iload_n X dX6_act_28 3 rfl ?_
        refine gq_iconst (v := 0) X dX6_act_29 gq_i0 ?_
        refine gq_bipush (v := 7) X dX6_act_30 (by decide) ?_
        refine gq_callSr (ws' := gw_GF cA a S) X (c_X6_isWithin l D cA x2 0 7) rfl ⟨rfl, rfl⟩ ⟨Nat.le_of_ble_eq_true rfl, Nat.le_of_ble_eq_true rfl⟩ gX6_act_X6_isWithin hd_X6_isWithin [] rfl (by decide) rfl rfl rfl rfl (Nat.le_of_ble_eq_true rfl) ⟨Nat.zero_le _, Nat.zero_le _⟩ dX6_act_32 ?_
        refine gq_fbif_eq (tgt := 64) X dX6_act_35 (by decide) (fun h35 => ?_) (fun h35 => ?_)
        · refine gq_iload_n X dX6_act_38 4 rfl ?_
          refine gq_iconst (v := 0) X dX6_act_39 gq_i0 ?_
          refine gq_bipush (v := 7) X dX6_act_40 (by decide) ?_
          refine gq_callSr (ws' := gw_GF cA a S) X (c_X6_isWithin l D cA x3 0 7) rfl ⟨rfl, rfl⟩ ⟨Nat.le_of_ble_eq_true rfl, Nat.le_of_ble_eq_true rfl⟩ gX6_act_X6_isWithin hd_X6_isWithin [] rfl (by decide) rfl rfl rfl rfl (Nat.le_of_ble_eq_true rfl) ⟨Nat.zero_le _, Nat.zero_le _⟩ dX6_act_42 ?_
          refine gq_fbif_eq (tgt := 64) X dX6_act_45 (by decide) (fun h45 => ?_) (fun h45 => ?_)
          · refine gq_iload X dX6_act_48 0 rfl ?_
            refine gq_if_eq (tgt := 67) X dX6_act_50 (by decide) (fun _ => ?_) (fun h => absurd (by decide) h)
            refine gq_aload_n X dX6_act_67 1 rfl ?_
            refine gq_callVr (ws' := gw_GF cA a S) X (c_X6_isUnderWay l D cA a S) rfl ⟨rfl, rfl⟩ ⟨Nat.le_of_ble_eq_true rfl, Nat.le_of_ble_eq_true rfl⟩ gX6_act_X6_isUnderWay hv_X6_isUnderWay 0 gl_GF_c0 rfl [0, 1, 2, 3, 4, 5, 6, 7, 8, 9, 10, 11, 12, 13, 14, 15, 16, 17, 18, 19, 20, 21, 22, 23, 24, 25, 26, 27, 28, 29, 30, 31, 32, 33, 34, 35, 36, 37, 38, 39, 40, 41, 42] gl_GF_self_at gl_GF_self_nd gl_GF_fst gl_GF_self_same rfl rfl (Nat.le_of_ble_eq_true rfl) ⟨Nat.zero_le _, Nat.zero_le _⟩ dX6_act_68 ?_
            refine gq_fbif_eq (tgt := 77) X dX6_act_71 (by decide) (fun h71 => ?_) (fun h71 => ?_)
            · refine gq_bipush (v := (-103)) X dX6_act_74 (by decide) ?_
              exact gq_iretf X dX6_act_76 rfl rfl
            · refine gq_aload_n X dX6_act_77 1 rfl ?_
              refine gq_get (C := RX6) (T := TX6) (N := 10) X iX6_act_X6 0 gl_GF_c0 rfl 0 (by decide) fX6_act_X6_0 rfl dX6_act_78 ?_
              refine gq_iload_n X dX6_act_81 2 rfl ?_
              refine gq_iload_n X dX6_act_82 3 rfl ?_
              refine gq_iload_n X dX6_act_83 4 rfl ?_
              refine gq_iload X dX6_act_84 5 rfl ?_
              refine gq_letr (fun r3 er3 => ?_)
              refine gq_letr (fun s4 es4 => ?_)
              refine gq_callVr (ws' := gw_GF cA a s4) X (gq_Ceq (res2 := some (Value.int (gq_b r3.1))) (w2 := gw_Prog cA (a 1) (a 2) (a 3) r3.2) (c_X3_add l D cA (a 1) (a 2) (a 3) (gF_prog S) x1 x2 x3 x4) (by rw [er3]) (by rw [er3])) rfl ⟨rfl, rfl⟩ ⟨Nat.le_of_ble_eq_true rfl, Nat.le_of_ble_eq_true rfl⟩ gX6_act_X3_add hv_X3_add 1 rfl rfl [1, 2, 3] gl_GF_1_at gl_GF_1_nd gl_Prog_fst (by rw [es4]; exact gl_GF_1_set) rfl rfl (Nat.le_of_ble_eq_true rfl) ⟨Nat.zero_le _, Nat.zero_le _⟩ dX6_act_86 ?_
              refine gq_fbif_eq (tgt := 104) X dX6_act_89 (by decide) (fun h89 => ?_) (fun h89 => ?_)
              · refine gq_aload_n X dX6_act_92 1 rfl ?_
                refine gq_get (C := RX6) (T := TX6) (N := 10) X iX6_act_X6 0 gl_GF_c0 rfl 0 (by decide) fX6_act_X6_0 rfl dX6_act_93 ?_
                refine gq_callVr (ws' := gw_GF cA a s4) X (c_X3_size l D cA (a 1) (a 2) (a 3) (gF_prog s4)) rfl ⟨rfl, rfl⟩ ⟨Nat.le_of_ble_eq_true rfl, Nat.le_of_ble_eq_true rfl⟩ gX6_act_X3_size hv_X3_size 1 rfl rfl [1, 2, 3] gl_GF_1_at gl_GF_1_nd gl_Prog_fst gl_GF_1_same rfl rfl (Nat.le_of_ble_eq_true rfl) ⟨Nat.zero_le _, Nat.zero_le _⟩ dX6_act_96 ?_
                refine gq_iconst (v := 1) X dX6_act_99 gq_i1 ?_
                refine gq_isub X dX6_act_100 ?_
                refine gq_goto (tgt := 106) X dX6_act_101 (by decide) ?_
                exact gq_iretf X dX6_act_106 rfl rfl
              · refine gq_bipush (v := (-104)) X dX6_act_104 (by decide) ?_
                exact gq_iretf X dX6_act_106 rfl rfl
          · refine gq_bipush (v := (-102)) X dX6_act_64 (by decide) ?_
            exact gq_iretf X dX6_act_66 rfl rfl
        · refine gq_bipush (v := (-102)) X dX6_act_64 (by decide) ?_
          exact gq_iretf X dX6_act_66 rfl rfl
      · refine gq_bipush (v := (-102)) X dX6_act_64 (by decide) ?_
        exact gq_iretf X dX6_act_66 rfl rfl
    · refine gq_iconst (v := 1) X dX6_act_11 gq_i1 ?_
      refine gq_goto (tgt := 16) X dX6_act_12 (by decide) ?_
      refine gq_istore (lv' := [(5, .int 1), (0, .ref (a 0)), (1, .int x1), (2, .int x2), (3, .int x3), (4, .int x4)]) X dX6_act_16 (by decide) rfl ?_
      refine gq_iload_n X dX6_act_18 2 rfl ?_
      refine gq_iconst (v := 0) X dX6_act_19 gq_i0 ?_
      refine gq_bipush (v := 11) X dX6_act_20 (by decide) ?_
      refine gq_callSr (ws' := gw_GF cA a S) X (c_X6_isWithin l D cA x1 0 11) rfl ⟨rfl, rfl⟩ ⟨Nat.le_of_ble_eq_true rfl, Nat.le_of_ble_eq_true rfl⟩ gX6_act_X6_isWithin hd_X6_isWithin [] rfl (by decide) rfl rfl rfl rfl (Nat.le_of_ble_eq_true rfl) ⟨Nat.zero_le _, Nat.zero_le _⟩ dX6_act_22 ?_
      refine gq_fbif_eq (tgt := 64) X dX6_act_25 (by decide) (fun h25 => ?_) (fun h25 => ?_)
      · refine gq_iload_n X dX6_act_28 3 rfl ?_
        refine gq_iconst (v := 0) X dX6_act_29 gq_i0 ?_
        refine gq_bipush (v := 7) X dX6_act_30 (by decide) ?_
        refine gq_callSr (ws' := gw_GF cA a S) X (c_X6_isWithin l D cA x2 0 7) rfl ⟨rfl, rfl⟩ ⟨Nat.le_of_ble_eq_true rfl, Nat.le_of_ble_eq_true rfl⟩ gX6_act_X6_isWithin hd_X6_isWithin [] rfl (by decide) rfl rfl rfl rfl (Nat.le_of_ble_eq_true rfl) ⟨Nat.zero_le _, Nat.zero_le _⟩ dX6_act_32 ?_
        refine gq_fbif_eq (tgt := 64) X dX6_act_35 (by decide) (fun h35 => ?_) (fun h35 => ?_)
        · refine gq_iload_n X dX6_act_38 4 rfl ?_
          refine gq_iconst (v := 0) X dX6_act_39 gq_i0 ?_
          refine gq_bipush (v := 7) X dX6_act_40 (by decide) ?_
          refine gq_callSr (ws' := gw_GF cA a S) X (c_X6_isWithin l D cA x3 0 7) rfl ⟨rfl, rfl⟩ ⟨Nat.le_of_ble_eq_true rfl, Nat.le_of_ble_eq_true rfl⟩ gX6_act_X6_isWithin hd_X6_isWithin [] rfl (by decide) rfl rfl rfl rfl (Nat.le_of_ble_eq_true rfl) ⟨Nat.zero_le _, Nat.zero_le _⟩ dX6_act_42 ?_
          refine gq_fbif_eq (tgt := 64) X dX6_act_45 (by decide) (fun h45 => ?_) (fun h45 => ?_)
          · refine gq_iload X dX6_act_48 0 rfl ?_
            refine gq_if_eq (tgt := 67) X dX6_act_50 (by decide) (fun h => absurd h (by decide)) (fun _ => ?_)
            refine gq_iload X dX6_act_53 5 rfl ?_
            refine gq_iconst (v := 0) X dX6_act_55 gq_i0 ?_
            refine gq_bipush (v := 60) X dX6_act_56 (by decide) ?_
            refine gq_callSr (ws' := gw_GF cA a S) X (c_X6_isWithin l D cA x4 0 60) rfl ⟨rfl, rfl⟩ ⟨Nat.le_of_ble_eq_true rfl, Nat.le_of_ble_eq_true rfl⟩ gX6_act_X6_isWithin hd_X6_isWithin [] rfl (by decide) rfl rfl rfl rfl (Nat.le_of_ble_eq_true rfl) ⟨Nat.zero_le _, Nat.zero_le _⟩ dX6_act_58 ?_
            refine gq_fbif_ne (tgt := 67) X dX6_act_61 (by decide) (fun h61 => ?_) (fun h61 => ?_)
            · refine gq_aload_n X dX6_act_67 1 rfl ?_
              refine gq_callVr (ws' := gw_GF cA a S) X (c_X6_isUnderWay l D cA a S) rfl ⟨rfl, rfl⟩ ⟨Nat.le_of_ble_eq_true rfl, Nat.le_of_ble_eq_true rfl⟩ gX6_act_X6_isUnderWay hv_X6_isUnderWay 0 gl_GF_c0 rfl [0, 1, 2, 3, 4, 5, 6, 7, 8, 9, 10, 11, 12, 13, 14, 15, 16, 17, 18, 19, 20, 21, 22, 23, 24, 25, 26, 27, 28, 29, 30, 31, 32, 33, 34, 35, 36, 37, 38, 39, 40, 41, 42] gl_GF_self_at gl_GF_self_nd gl_GF_fst gl_GF_self_same rfl rfl (Nat.le_of_ble_eq_true rfl) ⟨Nat.zero_le _, Nat.zero_le _⟩ dX6_act_68 ?_
              refine gq_fbif_eq (tgt := 77) X dX6_act_71 (by decide) (fun h71 => ?_) (fun h71 => ?_)
              · refine gq_bipush (v := (-103)) X dX6_act_74 (by decide) ?_
                exact gq_iretf X dX6_act_76 rfl rfl
              · refine gq_aload_n X dX6_act_77 1 rfl ?_
                refine gq_get (C := RX6) (T := TX6) (N := 10) X iX6_act_X6 0 gl_GF_c0 rfl 0 (by decide) fX6_act_X6_0 rfl dX6_act_78 ?_
                refine gq_iload_n X dX6_act_81 2 rfl ?_
                refine gq_iload_n X dX6_act_82 3 rfl ?_
                refine gq_iload_n X dX6_act_83 4 rfl ?_
                refine gq_iload X dX6_act_84 5 rfl ?_
                refine gq_letr (fun r5 er5 => ?_)
                refine gq_letr (fun s6 es6 => ?_)
                refine gq_callVr (ws' := gw_GF cA a s6) X (gq_Ceq (res2 := some (Value.int (gq_b r5.1))) (w2 := gw_Prog cA (a 1) (a 2) (a 3) r5.2) (c_X3_add l D cA (a 1) (a 2) (a 3) (gF_prog S) x1 x2 x3 x4) (by rw [er5]) (by rw [er5])) rfl ⟨rfl, rfl⟩ ⟨Nat.le_of_ble_eq_true rfl, Nat.le_of_ble_eq_true rfl⟩ gX6_act_X3_add hv_X3_add 1 rfl rfl [1, 2, 3] gl_GF_1_at gl_GF_1_nd gl_Prog_fst (by rw [es6]; exact gl_GF_1_set) rfl rfl (Nat.le_of_ble_eq_true rfl) ⟨Nat.zero_le _, Nat.zero_le _⟩ dX6_act_86 ?_
                refine gq_fbif_eq (tgt := 104) X dX6_act_89 (by decide) (fun h89 => ?_) (fun h89 => ?_)
                · refine gq_aload_n X dX6_act_92 1 rfl ?_
                  refine gq_get (C := RX6) (T := TX6) (N := 10) X iX6_act_X6 0 gl_GF_c0 rfl 0 (by decide) fX6_act_X6_0 rfl dX6_act_93 ?_
                  refine gq_callVr (ws' := gw_GF cA a s6) X (c_X3_size l D cA (a 1) (a 2) (a 3) (gF_prog s6)) rfl ⟨rfl, rfl⟩ ⟨Nat.le_of_ble_eq_true rfl, Nat.le_of_ble_eq_true rfl⟩ gX6_act_X3_size hv_X3_size 1 rfl rfl [1, 2, 3] gl_GF_1_at gl_GF_1_nd gl_Prog_fst gl_GF_1_same rfl rfl (Nat.le_of_ble_eq_true rfl) ⟨Nat.zero_le _, Nat.zero_le _⟩ dX6_act_96 ?_
                  refine gq_iconst (v := 1) X dX6_act_99 gq_i1 ?_
                  refine gq_isub X dX6_act_100 ?_
                  refine gq_goto (tgt := 106) X dX6_act_101 (by decide) ?_
                  exact gq_iretf X dX6_act_106 rfl rfl
                · refine gq_bipush (v := (-104)) X dX6_act_104 (by decide) ?_
                  exact gq_iretf X dX6_act_106 rfl rfl
            · refine gq_bipush (v := (-102)) X dX6_act_64 (by decide) ?_
              exact gq_iretf X dX6_act_66 rfl rfl
          · refine gq_bipush (v := (-102)) X dX6_act_64 (by decide) ?_
            exact gq_iretf X dX6_act_66 rfl rfl
        · refine gq_bipush (v := (-102)) X dX6_act_64 (by decide) ?_
          exact gq_iretf X dX6_act_66 rfl rfl
      · refine gq_bipush (v := (-102)) X dX6_act_64 (by decide) ?_
        exact gq_iretf X dX6_act_66 rfl rfl
theorem iX6_wipe_X6 : ∀ w ∈ u_ws RX6 TX6 10, w ∈ wsX6_wipe := by decide +kernel
theorem fX6_wipe_X6_0 : Cond.fieldLink RX6 10 (TX6 0).1 (TX6 0).2.1 (TX6 0).2.2.1 ∈ wsX6_wipe := by decide +kernel
theorem hv_X6_wipe : yX6_wipe.cls = RX6 ∧ yX6_wipe.cls ≠ "java/lang/invoke/MethodHandle" ∧ yX6_wipe.cls ≠ "java/lang/invoke/VarHandle" ∧ (parseMethodDescriptor yX6_wipe.desc).map (fun d => d.parameters.length) = some 0 := by decide +kernel
def k_X6_wipe (S : gs_F) : Int32 × gs_F :=
  if k_X6_isUnderWay S = true then
    ((-103), S)
  else
    gq_lt (k_X3_clear (gF_prog S)) (fun r1 =>
    gq_lt (sF_prog S r1.2) (fun s2 =>
    (r1.1, s2)))
set_option maxHeartbeats 4000000 in
set_option maxRecDepth 100000 in
theorem c_X6_wipe (l : Launch) (D : va_G) (cA : ClassId) (a : Nat → Nat) (S : gs_F)  : gq_C l yX6_wipe wsX6_wipe ({ frames := 1, cells := 0, slots := 0, locals := 21 } : Room) D cA [.ref (a 0)] (gw_GF cA a S) (some (.int (k_X6_wipe S).1)) (gw_GF cA a ((k_X6_wipe S).2)) := by
  refine gq_openf (own := RX6) (lv := [(0, .ref (a 0))]) (fun r : Int32 × gs_F => (some (.int r.1), gw_GF cA a r.2)) (k_X6_wipe S) (by decide) rfl rfl (Nat.le_of_ble_eq_true rfl) rfl rfl rfl (fun p e s m args below meth c A X => ?_)
  unfold k_X6_wipe
  refine gq_aload_n X dX6_wipe_0 0 rfl ?_
  refine gq_callVr (ws' := gw_GF cA a S) X (c_X6_isUnderWay l D cA a S) rfl ⟨rfl, rfl⟩ ⟨Nat.le_of_ble_eq_true rfl, Nat.le_of_ble_eq_true rfl⟩ gX6_wipe_X6_isUnderWay hv_X6_isUnderWay 0 gl_GF_c0 rfl [0, 1, 2, 3, 4, 5, 6, 7, 8, 9, 10, 11, 12, 13, 14, 15, 16, 17, 18, 19, 20, 21, 22, 23, 24, 25, 26, 27, 28, 29, 30, 31, 32, 33, 34, 35, 36, 37, 38, 39, 40, 41, 42] gl_GF_self_at gl_GF_self_nd gl_GF_fst gl_GF_self_same rfl rfl (Nat.le_of_ble_eq_true rfl) ⟨Nat.zero_le _, Nat.zero_le _⟩ dX6_wipe_1 ?_
  refine gq_fbif_eq (tgt := 12) X dX6_wipe_4 (by decide) (fun h4 => ?_) (fun h4 => ?_)
  · refine gq_bipush (v := (-103)) X dX6_wipe_7 (by decide) ?_
    refine gq_goto (tgt := 19) X dX6_wipe_9 (by decide) ?_
    exact gq_iretf X dX6_wipe_19 rfl rfl
  · refine gq_aload_n X dX6_wipe_12 0 rfl ?_
    refine gq_get (C := RX6) (T := TX6) (N := 10) X iX6_wipe_X6 0 gl_GF_c0 rfl 0 (by decide) fX6_wipe_X6_0 rfl dX6_wipe_13 ?_
    refine gq_letr (fun r1 er1 => ?_)
    refine gq_letr (fun s2 es2 => ?_)
    refine gq_callVr (ws' := gw_GF cA a s2) X (gq_Ceq (res2 := some (Value.int r1.1)) (w2 := gw_Prog cA (a 1) (a 2) (a 3) r1.2) (c_X3_clear l D cA (a 1) (a 2) (a 3) (gF_prog S)) (by rw [er1]) (by rw [er1])) rfl ⟨rfl, rfl⟩ ⟨Nat.le_of_ble_eq_true rfl, Nat.le_of_ble_eq_true rfl⟩ gX6_wipe_X3_clear hv_X3_clear 1 rfl rfl [1, 2, 3] gl_GF_1_at gl_GF_1_nd gl_Prog_fst (by rw [es2]; exact gl_GF_1_set) rfl rfl (Nat.le_of_ble_eq_true rfl) ⟨Nat.zero_le _, Nat.zero_le _⟩ dX6_wipe_16 ?_
    exact gq_iretf X dX6_wipe_19 rfl rfl
theorem iX6_put_X6 : ∀ w ∈ u_ws RX6 TX6 10, w ∈ wsX6_put := by decide +kernel
theorem fX6_put_X6_1 : Cond.fieldLink RX6 19 (TX6 1).1 (TX6 1).2.1 (TX6 1).2.2.1 ∈ wsX6_put := by decide +kernel
theorem kX6_put_89 : Cond.constantLong RX6 89 (-101) ∈ wsX6_put := by decide +kernel
theorem kX6_put_91 : Cond.constantLong RX6 91 (-103) ∈ wsX6_put := by decide +kernel
theorem hv_X6_put : yX6_put.cls = RX6 ∧ yX6_put.cls ≠ "java/lang/invoke/MethodHandle" ∧ yX6_put.cls ≠ "java/lang/invoke/VarHandle" ∧ (parseMethodDescriptor yX6_put.desc).map (fun d => d.parameters.length) = some 2 := by decide +kernel
def k_X6_put (S : gs_F) (x1 : Int32) (x2 : Int32) : Int64 × gs_F :=
  if k_X0_hasCell (gF_core S) x1 = true then
    if k_X6_isUnderWay S = true then
      ((-103), S)
    else
      gq_lt (k_X0_setCell (gF_core S) x1 x2) (fun r1 =>
      gq_lt (sF_core S r1.2) (fun s2 =>
      (r1.1.toInt64, s2)))
  else
    ((-101), S)
set_option maxHeartbeats 4000000 in
set_option maxRecDepth 100000 in
theorem c_X6_put (l : Launch) (D : va_G) (cA : ClassId) (a : Nat → Nat) (S : gs_F) (x1 : Int32) (x2 : Int32) : gq_C l yX6_put wsX6_put ({ frames := 2, cells := 0, slots := 0, locals := 45 } : Room) D cA [.ref (a 0), .int x1, .int x2] (gw_GF cA a S) (some (.long (k_X6_put S x1 x2).1)) (gw_GF cA a ((k_X6_put S x1 x2).2)) := by
  refine gq_openf (own := RX6) (lv := [(0, .ref (a 0)), (1, .int x1), (2, .int x2)]) (fun r : Int64 × gs_F => (some (.long r.1), gw_GF cA a r.2)) (k_X6_put S x1 x2) (by decide) rfl rfl (Nat.le_of_ble_eq_true rfl) rfl rfl rfl (fun p e s m args below meth c A X => ?_)
  unfold k_X6_put
  refine gq_aload_n X dX6_put_0 0 rfl ?_
  refine gq_get (C := RX6) (T := TX6) (N := 10) X iX6_put_X6 0 gl_GF_c0 rfl 1 (by decide) fX6_put_X6_1 rfl dX6_put_1 ?_
  refine gq_iload_n X dX6_put_4 1 rfl ?_
  refine gq_callVr (ws' := gw_GF cA a S) X (c_X0_hasCell l D cA (a 4) (a 5) (a 6) (a 7) (a 8) (a 9) (a 10) (gF_core S) x1) rfl ⟨rfl, rfl⟩ ⟨Nat.le_of_ble_eq_true rfl, Nat.le_of_ble_eq_true rfl⟩ gX6_put_X0_hasCell hv_X0_hasCell 4 rfl rfl [4, 5, 6, 7, 8, 9, 10] gl_GF_4_at gl_GF_4_nd gl_Core_fst gl_GF_4_same rfl rfl (Nat.le_of_ble_eq_true rfl) ⟨Nat.zero_le _, Nat.zero_le _⟩ dX6_put_5 ?_
  refine gq_fbif_ne (tgt := 15) X dX6_put_8 (by decide) (fun h8 => ?_) (fun h8 => ?_)
  · refine gq_aload_n X dX6_put_15 0 rfl ?_
    refine gq_callVr (ws' := gw_GF cA a S) X (c_X6_isUnderWay l D cA a S) rfl ⟨rfl, rfl⟩ ⟨Nat.le_of_ble_eq_true rfl, Nat.le_of_ble_eq_true rfl⟩ gX6_put_X6_isUnderWay hv_X6_isUnderWay 0 gl_GF_c0 rfl [0, 1, 2, 3, 4, 5, 6, 7, 8, 9, 10, 11, 12, 13, 14, 15, 16, 17, 18, 19, 20, 21, 22, 23, 24, 25, 26, 27, 28, 29, 30, 31, 32, 33, 34, 35, 36, 37, 38, 39, 40, 41, 42] gl_GF_self_at gl_GF_self_nd gl_GF_fst gl_GF_self_same rfl rfl (Nat.le_of_ble_eq_true rfl) ⟨Nat.zero_le _, Nat.zero_le _⟩ dX6_put_16 ?_
    refine gq_fbif_eq (tgt := 28) X dX6_put_19 (by decide) (fun h19 => ?_) (fun h19 => ?_)
    · refine gq_ldc2 (v := (-103)) X kX6_put_91 dX6_put_22 ?_
      refine gq_goto (tgt := 38) X dX6_put_25 (by decide) ?_
      exact gq_lretf X dX6_put_38 rfl rfl
    · refine gq_aload_n X dX6_put_28 0 rfl ?_
      refine gq_get (C := RX6) (T := TX6) (N := 10) X iX6_put_X6 0 gl_GF_c0 rfl 1 (by decide) fX6_put_X6_1 rfl dX6_put_29 ?_
      refine gq_iload_n X dX6_put_32 1 rfl ?_
      refine gq_iload_n X dX6_put_33 2 rfl ?_
      refine gq_letr (fun r1 er1 => ?_)
      refine gq_letr (fun s2 es2 => ?_)
      refine gq_callVr (ws' := gw_GF cA a s2) X (gq_Ceq (res2 := some (Value.int r1.1)) (w2 := gw_Core cA (a 4) (a 5) (a 6) (a 7) (a 8) (a 9) (a 10) r1.2) (c_X0_setCell l D cA (a 4) (a 5) (a 6) (a 7) (a 8) (a 9) (a 10) (gF_core S) x1 x2) (by rw [er1]) (by rw [er1])) rfl ⟨rfl, rfl⟩ ⟨Nat.le_of_ble_eq_true rfl, Nat.le_of_ble_eq_true rfl⟩ gX6_put_X0_setCell hv_X0_setCell 4 rfl rfl [4, 5, 6, 7, 8, 9, 10] gl_GF_4_at gl_GF_4_nd gl_Core_fst (by rw [es2]; exact gl_GF_4_set) rfl rfl (Nat.le_of_ble_eq_true rfl) ⟨Nat.zero_le _, Nat.zero_le _⟩ dX6_put_34 ?_
      refine gq_i2l X dX6_put_37 ?_
      exact gq_lretf X dX6_put_38 rfl rfl
  · refine gq_ldc2 (v := (-101)) X kX6_put_89 dX6_put_11 ?_
    exact gq_lretf X dX6_put_14 rfl rfl
theorem iX6_way_X6 : ∀ w ∈ u_ws RX6 TX6 10, w ∈ wsX6_way := by decide +kernel
theorem fX6_way_X6_6 : Cond.fieldLink RX6 53 (TX6 6).1 (TX6 6).2.1 (TX6 6).2.2.1 ∈ wsX6_way := by decide +kernel
theorem fX6_way_X6_7 : Cond.fieldLink RX6 57 (TX6 7).1 (TX6 7).2.1 (TX6 7).2.2.1 ∈ wsX6_way := by decide +kernel
theorem hv_X6_way : yX6_way.cls = RX6 ∧ yX6_way.cls ≠ "java/lang/invoke/MethodHandle" ∧ yX6_way.cls ≠ "java/lang/invoke/VarHandle" ∧ (parseMethodDescriptor yX6_way.desc).map (fun d => d.parameters.length) = some 2 := by decide +kernel
def k_X6_way (S : gs_F) (x1 : Int32) (x2 : Int32) : Int32 × gs_F :=
  if k_X6_isWithin x1 0 3 = true then
    if k_X6_isWithin x2 1 6 = true then
      if k_X6_isUnderWay S = true then
        ((-103), S)
      else
        gq_lt (sF_way S x1) (fun s1 =>
        gq_lt (sF_depth s1 x2) (fun s2 =>
        (1, s2)))
    else
      ((-102), S)
  else
    ((-102), S)
set_option maxHeartbeats 4000000 in
set_option maxRecDepth 100000 in
theorem c_X6_way (l : Launch) (D : va_G) (cA : ClassId) (a : Nat → Nat) (S : gs_F) (x1 : Int32) (x2 : Int32) : gq_C l yX6_way wsX6_way ({ frames := 1, cells := 0, slots := 0, locals := 22 } : Room) D cA [.ref (a 0), .int x1, .int x2] (gw_GF cA a S) (some (.int (k_X6_way S x1 x2).1)) (gw_GF cA a ((k_X6_way S x1 x2).2)) := by
  refine gq_openf (own := RX6) (lv := [(0, .ref (a 0)), (1, .int x1), (2, .int x2)]) (fun r : Int32 × gs_F => (some (.int r.1), gw_GF cA a r.2)) (k_X6_way S x1 x2) (by decide) rfl rfl (Nat.le_of_ble_eq_true rfl) rfl rfl rfl (fun p e s m args below meth c A X => ?_)
  unfold k_X6_way
  refine gq_iload_n X dX6_way_0 1 rfl ?_
  refine gq_iconst (v := 0) X dX6_way_1 gq_i0 ?_
  refine gq_iconst (v := 3) X dX6_way_2 gq_i3 ?_
  refine gq_callSr (ws' := gw_GF cA a S) X (c_X6_isWithin l D cA x1 0 3) rfl ⟨rfl, rfl⟩ ⟨Nat.le_of_ble_eq_true rfl, Nat.le_of_ble_eq_true rfl⟩ gX6_way_X6_isWithin hd_X6_isWithin [] rfl (by decide) rfl rfl rfl rfl (Nat.le_of_ble_eq_true rfl) ⟨Nat.zero_le _, Nat.zero_le _⟩ dX6_way_3 ?_
  refine gq_fbif_eq (tgt := 19) X dX6_way_6 (by decide) (fun h6 => ?_) (fun h6 => ?_)
  · refine gq_iload_n X dX6_way_9 2 rfl ?_
    refine gq_iconst (v := 1) X dX6_way_10 gq_i1 ?_
    refine gq_bipush (v := 6) X dX6_way_11 (by decide) ?_
    refine gq_callSr (ws' := gw_GF cA a S) X (c_X6_isWithin l D cA x2 1 6) rfl ⟨rfl, rfl⟩ ⟨Nat.le_of_ble_eq_true rfl, Nat.le_of_ble_eq_true rfl⟩ gX6_way_X6_isWithin hd_X6_isWithin [] rfl (by decide) rfl rfl rfl rfl (Nat.le_of_ble_eq_true rfl) ⟨Nat.zero_le _, Nat.zero_le _⟩ dX6_way_13 ?_
    refine gq_fbif_ne (tgt := 22) X dX6_way_16 (by decide) (fun h16 => ?_) (fun h16 => ?_)
    · refine gq_aload_n X dX6_way_22 0 rfl ?_
      refine gq_callVr (ws' := gw_GF cA a S) X (c_X6_isUnderWay l D cA a S) rfl ⟨rfl, rfl⟩ ⟨Nat.le_of_ble_eq_true rfl, Nat.le_of_ble_eq_true rfl⟩ gX6_way_X6_isUnderWay hv_X6_isUnderWay 0 gl_GF_c0 rfl [0, 1, 2, 3, 4, 5, 6, 7, 8, 9, 10, 11, 12, 13, 14, 15, 16, 17, 18, 19, 20, 21, 22, 23, 24, 25, 26, 27, 28, 29, 30, 31, 32, 33, 34, 35, 36, 37, 38, 39, 40, 41, 42] gl_GF_self_at gl_GF_self_nd gl_GF_fst gl_GF_self_same rfl rfl (Nat.le_of_ble_eq_true rfl) ⟨Nat.zero_le _, Nat.zero_le _⟩ dX6_way_23 ?_
      refine gq_fbif_eq (tgt := 32) X dX6_way_26 (by decide) (fun h26 => ?_) (fun h26 => ?_)
      · refine gq_bipush (v := (-103)) X dX6_way_29 (by decide) ?_
        exact gq_iretf X dX6_way_31 rfl rfl
      · refine gq_aload_n X dX6_way_32 0 rfl ?_
        refine gq_iload_n X dX6_way_33 1 rfl ?_
        refine gq_letr (fun s1 es1 => ?_)
        refine gq_put (C := RX6) (T := TX6) (N := 10) (ws' := gw_GF cA a s1) X iX6_way_X6 tyX6 tyX6_ok nmX6 0 gl_GF_c0 rfl 6 (by decide) fX6_way_X6_6 rfl rfl rfl (Nat.le_of_ble_eq_true rfl) (by rw [es1]; exact gl_GF_f6) dX6_way_34 ?_
        refine gq_aload_n X dX6_way_37 0 rfl ?_
        refine gq_iload_n X dX6_way_38 2 rfl ?_
        refine gq_letr (fun s2 es2 => ?_)
        refine gq_put (C := RX6) (T := TX6) (N := 10) (ws' := gw_GF cA a s2) X iX6_way_X6 tyX6 tyX6_ok nmX6 0 gl_GF_c0 rfl 7 (by decide) fX6_way_X6_7 rfl rfl rfl (Nat.le_of_ble_eq_true rfl) (by rw [es2]; exact gl_GF_f7) dX6_way_39 ?_
        refine gq_iconst (v := 1) X dX6_way_42 gq_i1 ?_
        exact gq_iretf X dX6_way_43 rfl rfl
    · refine gq_bipush (v := (-102)) X dX6_way_19 (by decide) ?_
      exact gq_iretf X dX6_way_21 rfl rfl
  · refine gq_bipush (v := (-102)) X dX6_way_19 (by decide) ?_
    exact gq_iretf X dX6_way_21 rfl rfl
theorem iX6_begin_X6 : ∀ w ∈ u_ws RX6 TX6 10, w ∈ wsX6_begin := by decide +kernel
theorem fX6_begin_X6_1 : Cond.fieldLink RX6 19 (TX6 1).1 (TX6 1).2.1 (TX6 1).2.2.1 ∈ wsX6_begin := by decide +kernel
theorem fX6_begin_X6_2 : Cond.fieldLink RX6 26 (TX6 2).1 (TX6 2).2.1 (TX6 2).2.2.1 ∈ wsX6_begin := by decide +kernel
theorem fX6_begin_X6_4 : Cond.fieldLink RX6 42 (TX6 4).1 (TX6 4).2.1 (TX6 4).2.2.1 ∈ wsX6_begin := by decide +kernel
theorem fX6_begin_X6_5 : Cond.fieldLink RX6 49 (TX6 5).1 (TX6 5).2.1 (TX6 5).2.2.1 ∈ wsX6_begin := by decide +kernel
theorem fX6_begin_X6_8 : Cond.fieldLink RX6 60 (TX6 8).1 (TX6 8).2.1 (TX6 8).2.2.1 ∈ wsX6_begin := by decide +kernel
theorem fX6_begin_X6_9 : Cond.fieldLink RX6 63 (TX6 9).1 (TX6 9).2.1 (TX6 9).2.2.1 ∈ wsX6_begin := by decide +kernel
theorem hv_X6_begin : yX6_begin.cls = RX6 ∧ yX6_begin.cls ≠ "java/lang/invoke/MethodHandle" ∧ yX6_begin.cls ≠ "java/lang/invoke/VarHandle" ∧ (parseMethodDescriptor yX6_begin.desc).map (fun d => d.parameters.length) = some 0 := by decide +kernel
def k_X6_begin (S : gs_F) : Int32 × gs_F :=
  if k_X6_isUnderWay S = true then
    ((-103), S)
  else
    gq_lt (k_X5_set 18 (gF_counts S) 0 0) (fun r1 =>
    gq_lt (sF_counts S r1.2) (fun s2 =>
    gq_lt (k_X5_set 18 (gF_counts s2) 1 0) (fun r3 =>
    gq_lt (sF_counts s2 r3.2) (fun s4 =>
    gq_lt (k_X5_set 18 (gF_counts s4) 2 0) (fun r5 =>
    gq_lt (sF_counts s4 r5.2) (fun s6 =>
    gq_lt (k_X5_set 18 (gF_counts s6) 3 0) (fun r7 =>
    gq_lt (sF_counts s6 r7.2) (fun s8 =>
    gq_lt (k_X5_set 18 (gF_counts s8) 4 0) (fun r9 =>
    gq_lt (sF_counts s8 r9.2) (fun s10 =>
    gq_lt (k_X5_set 18 (gF_counts s10) 5 0) (fun r11 =>
    gq_lt (sF_counts s10 r11.2) (fun s12 =>
    gq_lt (k_X5_set 18 (gF_counts s12) 6 0) (fun r13 =>
    gq_lt (sF_counts s12 r13.2) (fun s14 =>
    gq_lt (k_X5_set 18 (gF_counts s14) 7 0) (fun r15 =>
    gq_lt (sF_counts s14 r15.2) (fun s16 =>
    gq_lt (k_X5_set 18 (gF_counts s16) 8 0) (fun r17 =>
    gq_lt (sF_counts s16 r17.2) (fun s18 =>
    gq_lt (sF_counts s18 (k_X5_add 18 (gF_counts s18) 12 1)) (fun s19 =>
    gq_lt (sF_done s19 (k_X2_clear 300 (gF_done s19))) (fun s20 =>
    gq_lt (sF_core s20 (k_X0_emptyStack (gF_core s20))) (fun s21 =>
    gq_lt (sF_gues s21 ((gF_gues s21).1, (gF_gues s21).2.1, (gF_gues s21).2.2.1, (gF_gues s21).2.2.2.1, (gF_gues s21).2.2.2.2.1, (gF_gues s21).2.2.2.2.2.1, k_X2_clear 4 ((gF_gues s21).2.2.2.2.2.2.1), (gF_gues s21).2.2.2.2.2.2.2)) (fun s22 =>
    gq_lt (sF_place s22 0) (fun s23 =>
    gq_lt (sF_run s23 0) (fun s24 =>
    (1, s24)))))))))))))))))))))))))
set_option maxHeartbeats 4000000 in
set_option maxRecDepth 100000 in
theorem c_X6_begin (l : Launch) (D : va_G) (cA : ClassId) (a : Nat → Nat) (S : gs_F)  : gq_C l yX6_begin wsX6_begin ({ frames := 2, cells := 0, slots := 0, locals := 45 } : Room) D cA [.ref (a 0)] (gw_GF cA a S) (some (.int (k_X6_begin S).1)) (gw_GF cA a ((k_X6_begin S).2)) := by
  refine gq_openf (own := RX6) (lv := [(0, .ref (a 0))]) (fun r : Int32 × gs_F => (some (.int r.1), gw_GF cA a r.2)) (k_X6_begin S) (by decide) rfl rfl (Nat.le_of_ble_eq_true rfl) rfl rfl rfl (fun p e s m args below meth c A X => ?_)
  unfold k_X6_begin
  refine gq_aload_n X dX6_begin_0 0 rfl ?_
  refine gq_callVr (ws' := gw_GF cA a S) X (c_X6_isUnderWay l D cA a S) rfl ⟨rfl, rfl⟩ ⟨Nat.le_of_ble_eq_true rfl, Nat.le_of_ble_eq_true rfl⟩ gX6_begin_X6_isUnderWay hv_X6_isUnderWay 0 gl_GF_c0 rfl [0, 1, 2, 3, 4, 5, 6, 7, 8, 9, 10, 11, 12, 13, 14, 15, 16, 17, 18, 19, 20, 21, 22, 23, 24, 25, 26, 27, 28, 29, 30, 31, 32, 33, 34, 35, 36, 37, 38, 39, 40, 41, 42] gl_GF_self_at gl_GF_self_nd gl_GF_fst gl_GF_self_same rfl rfl (Nat.le_of_ble_eq_true rfl) ⟨Nat.zero_le _, Nat.zero_le _⟩ dX6_begin_1 ?_
  refine gq_fbif_eq (tgt := 10) X dX6_begin_4 (by decide) (fun h4 => ?_) (fun h4 => ?_)
  · refine gq_bipush (v := (-103)) X dX6_begin_7 (by decide) ?_
    exact gq_iretf X dX6_begin_9 rfl rfl
  · refine gq_iconst (v := 0) X dX6_begin_10 gq_i0 ?_
    refine gq_istore_n (lv' := [(1, .int 0), (0, .ref (a 0))]) X dX6_begin_11 (by decide) rfl ?_
    refine gq_iload_n X dX6_begin_12 0 rfl ?_
    refine gq_bipush (v := 8) X dX6_begin_13 (by decide) ?_
    refine gq_icmp_gt (tgt := 34) X dX6_begin_15 (by decide) (fun h => absurd h (by decide)) (fun _ => ?_)
    refine gq_aload_n X dX6_begin_18 1 rfl ?_
    refine gq_get (C := RX6) (T := TX6) (N := 10) X iX6_begin_X6 0 gl_GF_c0 rfl 4 (by decide) fX6_begin_X6_4 rfl dX6_begin_19 ?_
    refine gq_iload_n X dX6_begin_22 0 rfl ?_
    refine gq_iconst (v := 0) X dX6_begin_23 gq_i0 ?_
    refine gq_letr (fun r1 er1 => ?_)
    refine gq_letr (fun s2 es2 => ?_)
    refine gq_callVr (ws' := gw_GF cA a s2) X (gq_Ceq (res2 := some (Value.int r1.1)) (w2 := gw_Row cA (a 39) (a 40) 18 r1.2) (c_X5_set l D cA (a 39) (a 40) 18 (by decide) (gF_counts S) 0 0) (by rw [er1]) (by rw [er1])) rfl ⟨rfl, rfl⟩ ⟨Nat.le_of_ble_eq_true rfl, Nat.le_of_ble_eq_true rfl⟩ gX6_begin_X5_set hv_X5_set 39 rfl rfl [39, 40] gl_GF_39_at gl_GF_39_nd gl_Row_fst (by rw [es2]; exact gl_GF_39_set) rfl rfl (Nat.le_of_ble_eq_true rfl) ⟨Nat.zero_le _, Nat.zero_le _⟩ dX6_begin_24 ?_
    refine gq_pop X dX6_begin_27 rfl ?_
    refine gq_iinc (lv' := [(1, .int 1), (0, .ref (a 0))]) X dX6_begin_28 0 rfl (by decide) (by decide) rfl ?_
    refine gq_goto (tgt := 12) X dX6_begin_31 (by decide) ?_
    refine gq_iload_n X dX6_begin_12 0 rfl ?_
    refine gq_bipush (v := 8) X dX6_begin_13 (by decide) ?_
    refine gq_icmp_gt (tgt := 34) X dX6_begin_15 (by decide) (fun h => absurd h (by decide)) (fun _ => ?_)
    refine gq_aload_n X dX6_begin_18 1 rfl ?_
    refine gq_get (C := RX6) (T := TX6) (N := 10) X iX6_begin_X6 0 gl_GF_c0 rfl 4 (by decide) fX6_begin_X6_4 rfl dX6_begin_19 ?_
    refine gq_iload_n X dX6_begin_22 0 rfl ?_
    refine gq_iconst (v := 0) X dX6_begin_23 gq_i0 ?_
    refine gq_letr (fun r3 er3 => ?_)
    refine gq_letr (fun s4 es4 => ?_)
    refine gq_callVr (ws' := gw_GF cA a s4) X (gq_Ceq (res2 := some (Value.int r3.1)) (w2 := gw_Row cA (a 39) (a 40) 18 r3.2) (c_X5_set l D cA (a 39) (a 40) 18 (by decide) (gF_counts s2) 1 0) (by rw [er3]) (by rw [er3])) rfl ⟨rfl, rfl⟩ ⟨Nat.le_of_ble_eq_true rfl, Nat.le_of_ble_eq_true rfl⟩ gX6_begin_X5_set hv_X5_set 39 rfl rfl [39, 40] gl_GF_39_at gl_GF_39_nd gl_Row_fst (by rw [es4]; exact gl_GF_39_set) rfl rfl (Nat.le_of_ble_eq_true rfl) ⟨Nat.zero_le _, Nat.zero_le _⟩ dX6_begin_24 ?_
    refine gq_pop X dX6_begin_27 rfl ?_
    refine gq_iinc (lv' := [(1, .int 2), (0, .ref (a 0))]) X dX6_begin_28 0 rfl (by decide) (by decide) rfl ?_
    refine gq_goto (tgt := 12) X dX6_begin_31 (by decide) ?_
    refine gq_iload_n X dX6_begin_12 0 rfl ?_
    refine gq_bipush (v := 8) X dX6_begin_13 (by decide) ?_
    refine gq_icmp_gt (tgt := 34) X dX6_begin_15 (by decide) (fun h => absurd h (by decide)) (fun _ => ?_)
    refine gq_aload_n X dX6_begin_18 1 rfl ?_
    refine gq_get (C := RX6) (T := TX6) (N := 10) X iX6_begin_X6 0 gl_GF_c0 rfl 4 (by decide) fX6_begin_X6_4 rfl dX6_begin_19 ?_
    refine gq_iload_n X dX6_begin_22 0 rfl ?_
    refine gq_iconst (v := 0) X dX6_begin_23 gq_i0 ?_
    refine gq_letr (fun r5 er5 => ?_)
    refine gq_letr (fun s6 es6 => ?_)
    refine gq_callVr (ws' := gw_GF cA a s6) X (gq_Ceq (res2 := some (Value.int r5.1)) (w2 := gw_Row cA (a 39) (a 40) 18 r5.2) (c_X5_set l D cA (a 39) (a 40) 18 (by decide) (gF_counts s4) 2 0) (by rw [er5]) (by rw [er5])) rfl ⟨rfl, rfl⟩ ⟨Nat.le_of_ble_eq_true rfl, Nat.le_of_ble_eq_true rfl⟩ gX6_begin_X5_set hv_X5_set 39 rfl rfl [39, 40] gl_GF_39_at gl_GF_39_nd gl_Row_fst (by rw [es6]; exact gl_GF_39_set) rfl rfl (Nat.le_of_ble_eq_true rfl) ⟨Nat.zero_le _, Nat.zero_le _⟩ dX6_begin_24 ?_
    refine gq_pop X dX6_begin_27 rfl ?_
    refine gq_iinc (lv' := [(1, .int 3), (0, .ref (a 0))]) X dX6_begin_28 0 rfl (by decide) (by decide) rfl ?_
    refine gq_goto (tgt := 12) X dX6_begin_31 (by decide) ?_
    refine gq_iload_n X dX6_begin_12 0 rfl ?_
    refine gq_bipush (v := 8) X dX6_begin_13 (by decide) ?_
    refine gq_icmp_gt (tgt := 34) X dX6_begin_15 (by decide) (fun h => absurd h (by decide)) (fun _ => ?_)
    refine gq_aload_n X dX6_begin_18 1 rfl ?_
    refine gq_get (C := RX6) (T := TX6) (N := 10) X iX6_begin_X6 0 gl_GF_c0 rfl 4 (by decide) fX6_begin_X6_4 rfl dX6_begin_19 ?_
    refine gq_iload_n X dX6_begin_22 0 rfl ?_
    refine gq_iconst (v := 0) X dX6_begin_23 gq_i0 ?_
    refine gq_letr (fun r7 er7 => ?_)
    refine gq_letr (fun s8 es8 => ?_)
    refine gq_callVr (ws' := gw_GF cA a s8) X (gq_Ceq (res2 := some (Value.int r7.1)) (w2 := gw_Row cA (a 39) (a 40) 18 r7.2) (c_X5_set l D cA (a 39) (a 40) 18 (by decide) (gF_counts s6) 3 0) (by rw [er7]) (by rw [er7])) rfl ⟨rfl, rfl⟩ ⟨Nat.le_of_ble_eq_true rfl, Nat.le_of_ble_eq_true rfl⟩ gX6_begin_X5_set hv_X5_set 39 rfl rfl [39, 40] gl_GF_39_at gl_GF_39_nd gl_Row_fst (by rw [es8]; exact gl_GF_39_set) rfl rfl (Nat.le_of_ble_eq_true rfl) ⟨Nat.zero_le _, Nat.zero_le _⟩ dX6_begin_24 ?_
    refine gq_pop X dX6_begin_27 rfl ?_
    refine gq_iinc (lv' := [(1, .int 4), (0, .ref (a 0))]) X dX6_begin_28 0 rfl (by decide) (by decide) rfl ?_
    refine gq_goto (tgt := 12) X dX6_begin_31 (by decide) ?_
    refine gq_iload_n X dX6_begin_12 0 rfl ?_
    refine gq_bipush (v := 8) X dX6_begin_13 (by decide) ?_
    refine gq_icmp_gt (tgt := 34) X dX6_begin_15 (by decide) (fun h => absurd h (by decide)) (fun _ => ?_)
    refine gq_aload_n X dX6_begin_18 1 rfl ?_
    refine gq_get (C := RX6) (T := TX6) (N := 10) X iX6_begin_X6 0 gl_GF_c0 rfl 4 (by decide) fX6_begin_X6_4 rfl dX6_begin_19 ?_
    refine gq_iload_n X dX6_begin_22 0 rfl ?_
    refine gq_iconst (v := 0) X dX6_begin_23 gq_i0 ?_
    refine gq_letr (fun r9 er9 => ?_)
    refine gq_letr (fun s10 es10 => ?_)
    refine gq_callVr (ws' := gw_GF cA a s10) X (gq_Ceq (res2 := some (Value.int r9.1)) (w2 := gw_Row cA (a 39) (a 40) 18 r9.2) (c_X5_set l D cA (a 39) (a 40) 18 (by decide) (gF_counts s8) 4 0) (by rw [er9]) (by rw [er9])) rfl ⟨rfl, rfl⟩ ⟨Nat.le_of_ble_eq_true rfl, Nat.le_of_ble_eq_true rfl⟩ gX6_begin_X5_set hv_X5_set 39 rfl rfl [39, 40] gl_GF_39_at gl_GF_39_nd gl_Row_fst (by rw [es10]; exact gl_GF_39_set) rfl rfl (Nat.le_of_ble_eq_true rfl) ⟨Nat.zero_le _, Nat.zero_le _⟩ dX6_begin_24 ?_
    refine gq_pop X dX6_begin_27 rfl ?_
    refine gq_iinc (lv' := [(1, .int 5), (0, .ref (a 0))]) X dX6_begin_28 0 rfl (by decide) (by decide) rfl ?_
    refine gq_goto (tgt := 12) X dX6_begin_31 (by decide) ?_
    refine gq_iload_n X dX6_begin_12 0 rfl ?_
    refine gq_bipush (v := 8) X dX6_begin_13 (by decide) ?_
    refine gq_icmp_gt (tgt := 34) X dX6_begin_15 (by decide) (fun h => absurd h (by decide)) (fun _ => ?_)
    refine gq_aload_n X dX6_begin_18 1 rfl ?_
    refine gq_get (C := RX6) (T := TX6) (N := 10) X iX6_begin_X6 0 gl_GF_c0 rfl 4 (by decide) fX6_begin_X6_4 rfl dX6_begin_19 ?_
    refine gq_iload_n X dX6_begin_22 0 rfl ?_
    refine gq_iconst (v := 0) X dX6_begin_23 gq_i0 ?_
    refine gq_letr (fun r11 er11 => ?_)
    refine gq_letr (fun s12 es12 => ?_)
    refine gq_callVr (ws' := gw_GF cA a s12) X (gq_Ceq (res2 := some (Value.int r11.1)) (w2 := gw_Row cA (a 39) (a 40) 18 r11.2) (c_X5_set l D cA (a 39) (a 40) 18 (by decide) (gF_counts s10) 5 0) (by rw [er11]) (by rw [er11])) rfl ⟨rfl, rfl⟩ ⟨Nat.le_of_ble_eq_true rfl, Nat.le_of_ble_eq_true rfl⟩ gX6_begin_X5_set hv_X5_set 39 rfl rfl [39, 40] gl_GF_39_at gl_GF_39_nd gl_Row_fst (by rw [es12]; exact gl_GF_39_set) rfl rfl (Nat.le_of_ble_eq_true rfl) ⟨Nat.zero_le _, Nat.zero_le _⟩ dX6_begin_24 ?_
    refine gq_pop X dX6_begin_27 rfl ?_
    refine gq_iinc (lv' := [(1, .int 6), (0, .ref (a 0))]) X dX6_begin_28 0 rfl (by decide) (by decide) rfl ?_
    refine gq_goto (tgt := 12) X dX6_begin_31 (by decide) ?_
    refine gq_iload_n X dX6_begin_12 0 rfl ?_
    refine gq_bipush (v := 8) X dX6_begin_13 (by decide) ?_
    refine gq_icmp_gt (tgt := 34) X dX6_begin_15 (by decide) (fun h => absurd h (by decide)) (fun _ => ?_)
    refine gq_aload_n X dX6_begin_18 1 rfl ?_
    refine gq_get (C := RX6) (T := TX6) (N := 10) X iX6_begin_X6 0 gl_GF_c0 rfl 4 (by decide) fX6_begin_X6_4 rfl dX6_begin_19 ?_
    refine gq_iload_n X dX6_begin_22 0 rfl ?_
    refine gq_iconst (v := 0) X dX6_begin_23 gq_i0 ?_
    refine gq_letr (fun r13 er13 => ?_)
    refine gq_letr (fun s14 es14 => ?_)
    refine gq_callVr (ws' := gw_GF cA a s14) X (gq_Ceq (res2 := some (Value.int r13.1)) (w2 := gw_Row cA (a 39) (a 40) 18 r13.2) (c_X5_set l D cA (a 39) (a 40) 18 (by decide) (gF_counts s12) 6 0) (by rw [er13]) (by rw [er13])) rfl ⟨rfl, rfl⟩ ⟨Nat.le_of_ble_eq_true rfl, Nat.le_of_ble_eq_true rfl⟩ gX6_begin_X5_set hv_X5_set 39 rfl rfl [39, 40] gl_GF_39_at gl_GF_39_nd gl_Row_fst (by rw [es14]; exact gl_GF_39_set) rfl rfl (Nat.le_of_ble_eq_true rfl) ⟨Nat.zero_le _, Nat.zero_le _⟩ dX6_begin_24 ?_
    refine gq_pop X dX6_begin_27 rfl ?_
    refine gq_iinc (lv' := [(1, .int 7), (0, .ref (a 0))]) X dX6_begin_28 0 rfl (by decide) (by decide) rfl ?_
    refine gq_goto (tgt := 12) X dX6_begin_31 (by decide) ?_
    refine gq_iload_n X dX6_begin_12 0 rfl ?_
    refine gq_bipush (v := 8) X dX6_begin_13 (by decide) ?_
    refine gq_icmp_gt (tgt := 34) X dX6_begin_15 (by decide) (fun h => absurd h (by decide)) (fun _ => ?_)
    refine gq_aload_n X dX6_begin_18 1 rfl ?_
    refine gq_get (C := RX6) (T := TX6) (N := 10) X iX6_begin_X6 0 gl_GF_c0 rfl 4 (by decide) fX6_begin_X6_4 rfl dX6_begin_19 ?_
    refine gq_iload_n X dX6_begin_22 0 rfl ?_
    refine gq_iconst (v := 0) X dX6_begin_23 gq_i0 ?_
    refine gq_letr (fun r15 er15 => ?_)
    refine gq_letr (fun s16 es16 => ?_)
    refine gq_callVr (ws' := gw_GF cA a s16) X (gq_Ceq (res2 := some (Value.int r15.1)) (w2 := gw_Row cA (a 39) (a 40) 18 r15.2) (c_X5_set l D cA (a 39) (a 40) 18 (by decide) (gF_counts s14) 7 0) (by rw [er15]) (by rw [er15])) rfl ⟨rfl, rfl⟩ ⟨Nat.le_of_ble_eq_true rfl, Nat.le_of_ble_eq_true rfl⟩ gX6_begin_X5_set hv_X5_set 39 rfl rfl [39, 40] gl_GF_39_at gl_GF_39_nd gl_Row_fst (by rw [es16]; exact gl_GF_39_set) rfl rfl (Nat.le_of_ble_eq_true rfl) ⟨Nat.zero_le _, Nat.zero_le _⟩ dX6_begin_24 ?_
    refine gq_pop X dX6_begin_27 rfl ?_
    refine gq_iinc (lv' := [(1, .int 8), (0, .ref (a 0))]) X dX6_begin_28 0 rfl (by decide) (by decide) rfl ?_
    refine gq_goto (tgt := 12) X dX6_begin_31 (by decide) ?_
    refine gq_iload_n X dX6_begin_12 0 rfl ?_
    refine gq_bipush (v := 8) X dX6_begin_13 (by decide) ?_
    refine gq_icmp_gt (tgt := 34) X dX6_begin_15 (by decide) (fun h => absurd h (by decide)) (fun _ => ?_)
    refine gq_aload_n X dX6_begin_18 1 rfl ?_
    refine gq_get (C := RX6) (T := TX6) (N := 10) X iX6_begin_X6 0 gl_GF_c0 rfl 4 (by decide) fX6_begin_X6_4 rfl dX6_begin_19 ?_
    refine gq_iload_n X dX6_begin_22 0 rfl ?_
    refine gq_iconst (v := 0) X dX6_begin_23 gq_i0 ?_
    refine gq_letr (fun r17 er17 => ?_)
    refine gq_letr (fun s18 es18 => ?_)
    refine gq_callVr (ws' := gw_GF cA a s18) X (gq_Ceq (res2 := some (Value.int r17.1)) (w2 := gw_Row cA (a 39) (a 40) 18 r17.2) (c_X5_set l D cA (a 39) (a 40) 18 (by decide) (gF_counts s16) 8 0) (by rw [er17]) (by rw [er17])) rfl ⟨rfl, rfl⟩ ⟨Nat.le_of_ble_eq_true rfl, Nat.le_of_ble_eq_true rfl⟩ gX6_begin_X5_set hv_X5_set 39 rfl rfl [39, 40] gl_GF_39_at gl_GF_39_nd gl_Row_fst (by rw [es18]; exact gl_GF_39_set) rfl rfl (Nat.le_of_ble_eq_true rfl) ⟨Nat.zero_le _, Nat.zero_le _⟩ dX6_begin_24 ?_
    refine gq_pop X dX6_begin_27 rfl ?_
    refine gq_iinc (lv' := [(1, .int 9), (0, .ref (a 0))]) X dX6_begin_28 0 rfl (by decide) (by decide) rfl ?_
    refine gq_goto (tgt := 12) X dX6_begin_31 (by decide) ?_
    refine gq_iload_n X dX6_begin_12 0 rfl ?_
    refine gq_bipush (v := 8) X dX6_begin_13 (by decide) ?_
    refine gq_icmp_gt (tgt := 34) X dX6_begin_15 (by decide) (fun _ => ?_) (fun h => absurd (by decide) h)
    refine gq_aload_n X dX6_begin_34 1 rfl ?_
    refine gq_get (C := RX6) (T := TX6) (N := 10) X iX6_begin_X6 0 gl_GF_c0 rfl 4 (by decide) fX6_begin_X6_4 rfl dX6_begin_35 ?_
    refine gq_bipush (v := 12) X dX6_begin_38 (by decide) ?_
    refine gq_iconst (v := 1) X dX6_begin_40 gq_i1 ?_
    refine gq_letr (fun s19 es19 => ?_)
    refine gq_callVv (ws' := gw_GF cA a s19) X (c_X5_add l D cA (a 39) (a 40) 18 (by decide) (gF_counts s18) 12 1) rfl ⟨rfl, rfl⟩ ⟨Nat.le_of_ble_eq_true rfl, Nat.le_of_ble_eq_true rfl⟩ gX6_begin_X5_add hv_X5_add 39 rfl rfl [39, 40] gl_GF_39_at gl_GF_39_nd gl_Row_fst (by rw [es19]; exact gl_GF_39_set) rfl rfl (Nat.le_of_ble_eq_true rfl) ⟨Nat.zero_le _, Nat.zero_le _⟩ dX6_begin_41 ?_
    refine gq_aload_n X dX6_begin_44 1 rfl ?_
    refine gq_get (C := RX6) (T := TX6) (N := 10) X iX6_begin_X6 0 gl_GF_c0 rfl 5 (by decide) fX6_begin_X6_5 rfl dX6_begin_45 ?_
    refine gq_letr (fun s20 es20 => ?_)
    refine gq_callVv (ws' := gw_GF cA a s20) X (c_X2_clear l D cA (a 41) (a 42) 300 (by decide) (gF_done s19)) rfl ⟨rfl, rfl⟩ ⟨Nat.le_of_ble_eq_true rfl, Nat.le_of_ble_eq_true rfl⟩ gX6_begin_X2_clear hv_X2_clear 41 rfl rfl [41, 42] gl_GF_41_at gl_GF_41_nd gl_Pile_fst (by rw [es20]; exact gl_GF_41_set) rfl rfl (Nat.le_of_ble_eq_true rfl) ⟨Nat.zero_le _, Nat.zero_le _⟩ dX6_begin_48 ?_
    refine gq_aload_n X dX6_begin_51 1 rfl ?_
    refine gq_get (C := RX6) (T := TX6) (N := 10) X iX6_begin_X6 0 gl_GF_c0 rfl 1 (by decide) fX6_begin_X6_1 rfl dX6_begin_52 ?_
    refine gq_letr (fun s21 es21 => ?_)
    refine gq_callVv (ws' := gw_GF cA a s21) X (c_X0_emptyStack l D cA (a 4) (a 5) (a 6) (a 7) (a 8) (a 9) (a 10) (gF_core s20)) rfl ⟨rfl, rfl⟩ ⟨Nat.le_of_ble_eq_true rfl, Nat.le_of_ble_eq_true rfl⟩ gX6_begin_X0_emptyStack hv_X0_emptyStack 4 rfl rfl [4, 5, 6, 7, 8, 9, 10] gl_GF_4_at gl_GF_4_nd gl_Core_fst (by rw [es21]; exact gl_GF_4_set) rfl rfl (Nat.le_of_ble_eq_true rfl) ⟨Nat.zero_le _, Nat.zero_le _⟩ dX6_begin_55 ?_
    refine gq_aload_n X dX6_begin_58 1 rfl ?_
    refine gq_get (C := RX6) (T := TX6) (N := 10) X iX6_begin_X6 0 gl_GF_c0 rfl 2 (by decide) fX6_begin_X6_2 rfl dX6_begin_59 ?_
    refine gq_callVr (ws' := gw_GF cA a s21) X (gq_Ceq (res2 := some (Value.ref (a 24))) (c_X1_returns l D cA (a 11) (a 12) (a 13) (a 14) (a 15) (a 16) (a 17) (a 18) (a 19) (a 20) (a 21) (a 22) (a 23) (a 24) (a 25) (gF_gues s21)) rfl rfl) rfl ⟨rfl, rfl⟩ ⟨Nat.le_of_ble_eq_true rfl, Nat.le_of_ble_eq_true rfl⟩ gX6_begin_X1_returns hv_X1_returns 11 rfl rfl [11, 12, 13, 14, 15, 16, 17, 18, 19, 20, 21, 22, 23, 24, 25] gl_GF_11_at gl_GF_11_nd gl_Gues_fst gl_GF_11_same rfl rfl (Nat.le_of_ble_eq_true rfl) ⟨Nat.zero_le _, Nat.zero_le _⟩ dX6_begin_62 ?_
    refine gq_letr (fun s22 es22 => ?_)
    refine gq_callVv (ws' := gw_GF cA a s22) X (c_X2_clear l D cA (a 24) (a 25) 4 (by decide) ((gF_gues s21).2.2.2.2.2.2.1)) rfl ⟨rfl, rfl⟩ ⟨Nat.le_of_ble_eq_true rfl, Nat.le_of_ble_eq_true rfl⟩ gX6_begin_X2_clear hv_X2_clear 24 rfl rfl [24, 25] gl_GF_24_at gl_GF_24_nd gl_Pile_fst (by rw [es22]; exact gl_GF_24_set) rfl rfl (Nat.le_of_ble_eq_true rfl) ⟨Nat.zero_le _, Nat.zero_le _⟩ dX6_begin_65 ?_
    refine gq_aload_n X dX6_begin_68 1 rfl ?_
    refine gq_iconst (v := 0) X dX6_begin_69 gq_i0 ?_
    refine gq_letr (fun s23 es23 => ?_)
    refine gq_put (C := RX6) (T := TX6) (N := 10) (ws' := gw_GF cA a s23) X iX6_begin_X6 tyX6 tyX6_ok nmX6 0 gl_GF_c0 rfl 8 (by decide) fX6_begin_X6_8 rfl rfl rfl (Nat.le_of_ble_eq_true rfl) (by rw [es23]; exact gl_GF_f8) dX6_begin_70 ?_
    refine gq_aload_n X dX6_begin_73 1 rfl ?_
    refine gq_iconst (v := 0) X dX6_begin_74 gq_i0 ?_
    refine gq_letr (fun s24 es24 => ?_)
    refine gq_put (C := RX6) (T := TX6) (N := 10) (ws' := gw_GF cA a s24) X iX6_begin_X6 tyX6 tyX6_ok nmX6 0 gl_GF_c0 rfl 9 (by decide) fX6_begin_X6_9 rfl rfl rfl (Nat.le_of_ble_eq_true rfl) (by rw [es24]; exact gl_GF_f9) dX6_begin_75 ?_
    refine gq_iconst (v := 1) X dX6_begin_78 gq_i1 ?_
    exact gq_iretf X dX6_begin_79 rfl rfl
theorem iX6_stop_X6 : ∀ w ∈ u_ws RX6 TX6 10, w ∈ wsX6_stop := by decide +kernel
theorem fX6_stop_X6_4 : Cond.fieldLink RX6 42 (TX6 4).1 (TX6 4).2.1 (TX6 4).2.2.1 ∈ wsX6_stop := by decide +kernel
theorem hv_X6_stop : yX6_stop.cls = RX6 ∧ yX6_stop.cls ≠ "java/lang/invoke/MethodHandle" ∧ yX6_stop.cls ≠ "java/lang/invoke/VarHandle" ∧ (parseMethodDescriptor yX6_stop.desc).map (fun d => d.parameters.length) = some 0 := by decide +kernel
def k_X6_stop (S : gs_F) : Int32 × gs_F :=
  if k_X6_isUnderWay S = true then
    gq_lt (k_X6_endRun S 3) (fun s1 =>
    (k_X5_get 18 (gF_counts s1) 1, s1))
  else
    ((-103), S)
set_option maxHeartbeats 4000000 in
set_option maxRecDepth 100000 in
theorem c_X6_stop (l : Launch) (D : va_G) (cA : ClassId) (a : Nat → Nat) (S : gs_F)  : gq_C l yX6_stop wsX6_stop ({ frames := 4, cells := 0, slots := 0, locals := 86 } : Room) D cA [.ref (a 0)] (gw_GF cA a S) (some (.int (k_X6_stop S).1)) (gw_GF cA a ((k_X6_stop S).2)) := by
  refine gq_openf (own := RX6) (lv := [(0, .ref (a 0))]) (fun r : Int32 × gs_F => (some (.int r.1), gw_GF cA a r.2)) (k_X6_stop S) (by decide) rfl rfl (Nat.le_of_ble_eq_true rfl) rfl rfl rfl (fun p e s m args below meth c A X => ?_)
  unfold k_X6_stop
  refine gq_aload_n X dX6_stop_0 0 rfl ?_
  refine gq_callVr (ws' := gw_GF cA a S) X (c_X6_isUnderWay l D cA a S) rfl ⟨rfl, rfl⟩ ⟨Nat.le_of_ble_eq_true rfl, Nat.le_of_ble_eq_true rfl⟩ gX6_stop_X6_isUnderWay hv_X6_isUnderWay 0 gl_GF_c0 rfl [0, 1, 2, 3, 4, 5, 6, 7, 8, 9, 10, 11, 12, 13, 14, 15, 16, 17, 18, 19, 20, 21, 22, 23, 24, 25, 26, 27, 28, 29, 30, 31, 32, 33, 34, 35, 36, 37, 38, 39, 40, 41, 42] gl_GF_self_at gl_GF_self_nd gl_GF_fst gl_GF_self_same rfl rfl (Nat.le_of_ble_eq_true rfl) ⟨Nat.zero_le _, Nat.zero_le _⟩ dX6_stop_1 ?_
  refine gq_fbif_ne (tgt := 10) X dX6_stop_4 (by decide) (fun h4 => ?_) (fun h4 => ?_)
  · refine gq_aload_n X dX6_stop_10 0 rfl ?_
    refine gq_iconst (v := 3) X dX6_stop_11 gq_i3 ?_
    refine gq_letr (fun s1 es1 => ?_)
    refine gq_callVv (ws' := gw_GF cA a s1) X (c_X6_endRun l D cA a S 3) rfl ⟨rfl, rfl⟩ ⟨Nat.le_of_ble_eq_true rfl, Nat.le_of_ble_eq_true rfl⟩ gX6_stop_X6_endRun hv_X6_endRun 0 gl_GF_c0 rfl [0, 1, 2, 3, 4, 5, 6, 7, 8, 9, 10, 11, 12, 13, 14, 15, 16, 17, 18, 19, 20, 21, 22, 23, 24, 25, 26, 27, 28, 29, 30, 31, 32, 33, 34, 35, 36, 37, 38, 39, 40, 41, 42] gl_GF_self_at gl_GF_self_nd gl_GF_fst (by rw [es1]; exact gl_GF_self_set) rfl rfl (Nat.le_of_ble_eq_true rfl) ⟨Nat.zero_le _, Nat.zero_le _⟩ dX6_stop_12 ?_
    refine gq_aload_n X dX6_stop_15 0 rfl ?_
    refine gq_get (C := RX6) (T := TX6) (N := 10) X iX6_stop_X6 0 gl_GF_c0 rfl 4 (by decide) fX6_stop_X6_4 rfl dX6_stop_16 ?_
    refine gq_iconst (v := 1) X dX6_stop_19 gq_i1 ?_
    refine gq_callVr (ws' := gw_GF cA a s1) X (c_X5_get l D cA (a 39) (a 40) 18 (by decide) (gF_counts s1) 1) rfl ⟨rfl, rfl⟩ ⟨Nat.le_of_ble_eq_true rfl, Nat.le_of_ble_eq_true rfl⟩ gX6_stop_X5_get hv_X5_get 39 rfl rfl [39, 40] gl_GF_39_at gl_GF_39_nd gl_Row_fst gl_GF_39_same rfl rfl (Nat.le_of_ble_eq_true rfl) ⟨Nat.zero_le _, Nat.zero_le _⟩ dX6_stop_20 ?_
    exact gq_iretf X dX6_stop_23 rfl rfl
  · refine gq_bipush (v := (-103)) X dX6_stop_7 (by decide) ?_
    exact gq_iretf X dX6_stop_9 rfl rfl
theorem iX6_ended_X6 : ∀ w ∈ u_ws RX6 TX6 10, w ∈ wsX6_ended := by decide +kernel
theorem fX6_ended_X6_9 : Cond.fieldLink RX6 63 (TX6 9).1 (TX6 9).2.1 (TX6 9).2.2.1 ∈ wsX6_ended := by decide +kernel
theorem hv_X6_ended : yX6_ended.cls = RX6 ∧ yX6_ended.cls ≠ "java/lang/invoke/MethodHandle" ∧ yX6_ended.cls ≠ "java/lang/invoke/VarHandle" ∧ (parseMethodDescriptor yX6_ended.desc).map (fun d => d.parameters.length) = some 0 := by decide +kernel
def k_X6_ended (S : gs_F) : Int32 :=
  gF_run S
set_option maxHeartbeats 4000000 in
set_option maxRecDepth 100000 in
theorem c_X6_ended (l : Launch) (D : va_G) (cA : ClassId) (a : Nat → Nat) (S : gs_F)  : gq_C l yX6_ended wsX6_ended ({ frames := 0, cells := 0, slots := 0, locals := 0 } : Room) D cA [.ref (a 0)] (gw_GF cA a S) (some (.int (k_X6_ended S))) (gw_GF cA a S) := by
  refine gq_openf (own := RX6) (lv := [(0, .ref (a 0))]) (fun r : Int32 => (some (.int r), gw_GF cA a S)) (k_X6_ended S) (by decide) rfl rfl (Nat.le_of_ble_eq_true rfl) rfl rfl rfl (fun p e s m args below meth c A X => ?_)
  unfold k_X6_ended
  refine gq_aload_n X dX6_ended_0 0 rfl ?_
  refine gq_get (C := RX6) (T := TX6) (N := 10) X iX6_ended_X6 0 gl_GF_c0 rfl 9 (by decide) fX6_ended_X6_9 rfl dX6_ended_1 ?_
  exact gq_iretf X dX6_ended_4 rfl rfl
