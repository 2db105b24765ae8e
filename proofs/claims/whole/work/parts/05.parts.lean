theorem hd_X6_isWithin : yX6_isWithin.cls ≠ "java/lang/invoke/MethodHandle" ∧ yX6_isWithin.cls ≠ "java/lang/invoke/VarHandle" ∧ (parseMethodDescriptor yX6_isWithin.desc).map (fun d => d.parameters.length) = some 3 := by decide +kernel
def k_X6_isWithin (x0 : Int32) (x1 : Int32) (x2 : Int32) : Bool :=
  if x0 < x1 then
    false
  else
    if x2 < x0 then
      false
    else
      true
set_option maxHeartbeats 4000000 in
set_option maxRecDepth 100000 in
theorem c_X6_isWithin (l : Launch) (D : va_G) (cA : ClassId)  (x0 : Int32) (x1 : Int32) (x2 : Int32) : gq_C l yX6_isWithin wsX6_isWithin ({ frames := 0, cells := 0, slots := 0, locals := 0 } : Room) D cA [.int x0, .int x1, .int x2] (([] : va_W)) (some (.int (gq_b (k_X6_isWithin x0 x1 x2)))) (([] : va_W)) := by
  refine gq_openf (own := RX6) (lv := [(0, .int x0), (1, .int x1), (2, .int x2)]) (fun r : Bool => (some (.int (gq_b r)), ([] : va_W))) (k_X6_isWithin x0 x1 x2) (by decide) rfl rfl (Nat.le_of_ble_eq_true rfl) rfl rfl rfl (fun p e s m args below meth c A X => ?_)
  unfold k_X6_isWithin
  refine gq_iload_n X dX6_isWithin_0 0 rfl ?_
  refine gq_iload_n X dX6_isWithin_1 1 rfl ?_
  refine gq_ficmp_lt (tgt := 14) X dX6_isWithin_2 (by decide) (fun h2 => ?_) (fun h2 => ?_)
  · refine gq_iconst (v := 0) X dX6_isWithin_14 gq_i0 ?_
    exact gq_zretf (b := false) X dX6_isWithin_15 rfl rfl rfl
  · refine gq_iload_n X dX6_isWithin_5 0 rfl ?_
    refine gq_iload_n X dX6_isWithin_6 2 rfl ?_
    refine gq_ficmp_gt (tgt := 14) X dX6_isWithin_7 (by decide) (fun h7 => ?_) (fun h7 => ?_)
    · refine gq_iconst (v := 0) X dX6_isWithin_14 gq_i0 ?_
      exact gq_zretf (b := false) X dX6_isWithin_15 rfl rfl rfl
    · refine gq_iconst (v := 1) X dX6_isWithin_10 gq_i1 ?_
      refine gq_goto (tgt := 15) X dX6_isWithin_11 (by decide) ?_
      exact gq_zretf (b := true) X dX6_isWithin_15 rfl rfl rfl
theorem hd_X6_isBranch : yX6_isBranch.cls ≠ "java/lang/invoke/MethodHandle" ∧ yX6_isBranch.cls ≠ "java/lang/invoke/VarHandle" ∧ (parseMethodDescriptor yX6_isBranch.desc).map (fun d => d.parameters.length) = some 1 := by decide +kernel
def k_X6_isBranch (x0 : Int32) : Bool :=
  if x0 = 5 then
    true
  else
    if x0 = 6 then
      true
    else
      false
set_option maxHeartbeats 4000000 in
set_option maxRecDepth 100000 in
theorem c_X6_isBranch (l : Launch) (D : va_G) (cA : ClassId)  (x0 : Int32) : gq_C l yX6_isBranch wsX6_isBranch ({ frames := 0, cells := 0, slots := 0, locals := 0 } : Room) D cA [.int x0] (([] : va_W)) (some (.int (gq_b (k_X6_isBranch x0)))) (([] : va_W)) := by
  refine gq_openf (own := RX6) (lv := [(0, .int x0)]) (fun r : Bool => (some (.int (gq_b r)), ([] : va_W))) (k_X6_isBranch x0) (by decide) rfl rfl (Nat.le_of_ble_eq_true rfl) rfl rfl rfl (fun p e s m args below meth c A X => ?_)
  unfold k_X6_isBranch
  refine gq_iload_n X dX6_isBranch_0 0 rfl ?_
  refine gq_iconst (v := 5) X dX6_isBranch_1 gq_i5 ?_
  refine gq_ficmp_eq (tgt := 11) X dX6_isBranch_2 (by decide) (fun h2 => ?_) (fun h2 => ?_)
  · refine gq_iconst (v := 1) X dX6_isBranch_11 gq_i1 ?_
    refine gq_goto (tgt := 16) X dX6_isBranch_12 (by decide) ?_
    exact gq_zretf (b := true) X dX6_isBranch_16 rfl rfl rfl
  · refine gq_iload_n X dX6_isBranch_5 0 rfl ?_
    refine gq_bipush (v := 6) X dX6_isBranch_6 (by decide) ?_
    refine gq_ficmp_ne (tgt := 15) X dX6_isBranch_8 (by decide) (fun h8 => ?_) (fun h8 => ?_)
    · refine gq_iconst (v := 1) X dX6_isBranch_11 gq_i1 ?_
      refine gq_goto (tgt := 16) X dX6_isBranch_12 (by decide) ?_
      exact gq_zretf (b := true) X dX6_isBranch_16 rfl rfl rfl
    · refine gq_iconst (v := 0) X dX6_isBranch_15 gq_i0 ?_
      exact gq_zretf (b := false) X dX6_isBranch_16 rfl rfl rfl
theorem hd_X6_isTurn : yX6_isTurn.cls ≠ "java/lang/invoke/MethodHandle" ∧ yX6_isTurn.cls ≠ "java/lang/invoke/VarHandle" ∧ (parseMethodDescriptor yX6_isTurn.desc).map (fun d => d.parameters.length) = some 1 := by decide +kernel
def k_X6_isTurn (x0 : Int32) : Bool :=
  k_X6_isWithin x0 5 10
set_option maxHeartbeats 4000000 in
set_option maxRecDepth 100000 in
theorem c_X6_isTurn (l : Launch) (D : va_G) (cA : ClassId)  (x0 : Int32) : gq_C l yX6_isTurn wsX6_isTurn ({ frames := 1, cells := 0, slots := 0, locals := 22 } : Room) D cA [.int x0] (([] : va_W)) (some (.int (gq_b (k_X6_isTurn x0)))) (([] : va_W)) := by
  refine gq_openf (own := RX6) (lv := [(0, .int x0)]) (fun r : Bool => (some (.int (gq_b r)), ([] : va_W))) (k_X6_isTurn x0) (by decide) rfl rfl (Nat.le_of_ble_eq_true rfl) rfl rfl rfl (fun p e s m args below meth c A X => ?_)
  unfold k_X6_isTurn
  refine gq_iload_n X dX6_isTurn_0 0 rfl ?_
  refine gq_iconst (v := 5) X dX6_isTurn_1 gq_i5 ?_
  refine gq_bipush (v := 10) X dX6_isTurn_2 (by decide) ?_
  refine gq_callSr (ws' := ([] : va_W)) X (c_X6_isWithin l D cA x0 5 10) rfl ⟨rfl, rfl⟩ ⟨Nat.le_of_ble_eq_true rfl, Nat.le_of_ble_eq_true rfl⟩ gX6_isTurn_X6_isWithin hd_X6_isWithin [] rfl (by decide) rfl rfl rfl rfl (Nat.le_of_ble_eq_true rfl) ⟨Nat.zero_le _, Nat.zero_le _⟩ dX6_isTurn_4 ?_
  exact gq_zretf (b := (k_X6_isWithin x0 5 10)) X dX6_isTurn_7 rfl rfl rfl
theorem hd_X6_isTablePlace : yX6_isTablePlace.cls ≠ "java/lang/invoke/MethodHandle" ∧ yX6_isTablePlace.cls ≠ "java/lang/invoke/VarHandle" ∧ (parseMethodDescriptor yX6_isTablePlace.desc).map (fun d => d.parameters.length) = some 2 := by decide +kernel
def k_X6_isTablePlace (x0 : Int32) (x1 : Int32) : Bool :=
  if x0 = 0 then
    k_X6_isWithin x1 0 15
  else
    if x0 = 1 then
      k_X6_isWithin x1 0 15
    else
      if x0 = 2 then
        k_X6_isWithin x1 0 15
      else
        if x0 = 3 then
          k_X6_isWithin x1 0 7
        else
          if x0 = 4 then
            k_X6_isWithin x1 0 7
          else
            if x0 = 5 then
              k_X6_isWithin x1 0 7
            else
              if x0 = 6 then
                true
              else
                if x0 = 7 then
                  k_X6_isWithin x1 0 3
                else
                  true
set_option maxHeartbeats 4000000 in
set_option maxRecDepth 100000 in
theorem c_X6_isTablePlace (l : Launch) (D : va_G) (cA : ClassId)  (x0 : Int32) (x1 : Int32) : gq_C l yX6_isTablePlace wsX6_isTablePlace ({ frames := 1, cells := 0, slots := 0, locals := 22 } : Room) D cA [.int x0, .int x1] (([] : va_W)) (some (.int (gq_b (k_X6_isTablePlace x0 x1)))) (([] : va_W)) := by
  refine gq_openf (own := RX6) (lv := [(0, .int x0), (1, .int x1)]) (fun r : Bool => (some (.int (gq_b r)), ([] : va_W))) (k_X6_isTablePlace x0 x1) (by decide) rfl rfl (Nat.le_of_ble_eq_true rfl) rfl rfl rfl (fun p e s m args below meth c A X => ?_)
  unfold k_X6_isTablePlace
  refine gq_iload_n X dX6_isTablePlace_0 0 rfl ?_
  refine gq_ite (fun h1_0 => ?_) (fun h1_0 => ?_)
  · refine gq_tin (k := 0) (off := 47) (tgt := 48) X dX6_isTablePlace_1 h1_0 (by decide) (by decide) (by decide) (by decide) ?_
    refine gq_iload_n X dX6_isTablePlace_48 1 rfl ?_
    refine gq_iconst (v := 0) X dX6_isTablePlace_49 gq_i0 ?_
    refine gq_bipush (v := 15) X dX6_isTablePlace_50 (by decide) ?_
    refine gq_callSr (ws' := ([] : va_W)) X (c_X6_isWithin l D cA x1 0 15) rfl ⟨rfl, rfl⟩ ⟨Nat.le_of_ble_eq_true rfl, Nat.le_of_ble_eq_true rfl⟩ gX6_isTablePlace_X6_isWithin hd_X6_isWithin [] rfl (by decide) rfl rfl rfl rfl (Nat.le_of_ble_eq_true rfl) ⟨Nat.zero_le _, Nat.zero_le _⟩ dX6_isTablePlace_52 ?_
    exact gq_zretf (b := (k_X6_isWithin x1 0 15)) X dX6_isTablePlace_55 rfl rfl rfl
  · refine gq_ite (fun h1_1 => ?_) (fun h1_1 => ?_)
    · refine gq_tin (k := 1) (off := 47) (tgt := 48) X dX6_isTablePlace_1 h1_1 (by decide) (by decide) (by decide) (by decide) ?_
      refine gq_iload_n X dX6_isTablePlace_48 1 rfl ?_
      refine gq_iconst (v := 0) X dX6_isTablePlace_49 gq_i0 ?_
      refine gq_bipush (v := 15) X dX6_isTablePlace_50 (by decide) ?_
      refine gq_callSr (ws' := ([] : va_W)) X (c_X6_isWithin l D cA x1 0 15) rfl ⟨rfl, rfl⟩ ⟨Nat.le_of_ble_eq_true rfl, Nat.le_of_ble_eq_true rfl⟩ gX6_isTablePlace_X6_isWithin hd_X6_isWithin [] rfl (by decide) rfl rfl rfl rfl (Nat.le_of_ble_eq_true rfl) ⟨Nat.zero_le _, Nat.zero_le _⟩ dX6_isTablePlace_52 ?_
      exact gq_zretf (b := (k_X6_isWithin x1 0 15)) X dX6_isTablePlace_55 rfl rfl rfl
    · refine gq_ite (fun h1_2 => ?_) (fun h1_2 => ?_)
      · refine gq_tin (k := 2) (off := 47) (tgt := 48) X dX6_isTablePlace_1 h1_2 (by decide) (by decide) (by decide) (by decide) ?_
        refine gq_iload_n X dX6_isTablePlace_48 1 rfl ?_
        refine gq_iconst (v := 0) X dX6_isTablePlace_49 gq_i0 ?_
        refine gq_bipush (v := 15) X dX6_isTablePlace_50 (by decide) ?_
        refine gq_callSr (ws' := ([] : va_W)) X (c_X6_isWithin l D cA x1 0 15) rfl ⟨rfl, rfl⟩ ⟨Nat.le_of_ble_eq_true rfl, Nat.le_of_ble_eq_true rfl⟩ gX6_isTablePlace_X6_isWithin hd_X6_isWithin [] rfl (by decide) rfl rfl rfl rfl (Nat.le_of_ble_eq_true rfl) ⟨Nat.zero_le _, Nat.zero_le _⟩ dX6_isTablePlace_52 ?_
        exact gq_zretf (b := (k_X6_isWithin x1 0 15)) X dX6_isTablePlace_55 rfl rfl rfl
      · refine gq_ite (fun h1_3 => ?_) (fun h1_3 => ?_)
        · refine gq_tin (k := 3) (off := 55) (tgt := 56) X dX6_isTablePlace_1 h1_3 (by decide) (by decide) (by decide) (by decide) ?_
          refine gq_iload_n X dX6_isTablePlace_56 1 rfl ?_
          refine gq_iconst (v := 0) X dX6_isTablePlace_57 gq_i0 ?_
          refine gq_bipush (v := 7) X dX6_isTablePlace_58 (by decide) ?_
          refine gq_callSr (ws' := ([] : va_W)) X (c_X6_isWithin l D cA x1 0 7) rfl ⟨rfl, rfl⟩ ⟨Nat.le_of_ble_eq_true rfl, Nat.le_of_ble_eq_true rfl⟩ gX6_isTablePlace_X6_isWithin hd_X6_isWithin [] rfl (by decide) rfl rfl rfl rfl (Nat.le_of_ble_eq_true rfl) ⟨Nat.zero_le _, Nat.zero_le _⟩ dX6_isTablePlace_60 ?_
          exact gq_zretf (b := (k_X6_isWithin x1 0 7)) X dX6_isTablePlace_63 rfl rfl rfl
        · refine gq_ite (fun h1_4 => ?_) (fun h1_4 => ?_)
          · refine gq_tin (k := 4) (off := 55) (tgt := 56) X dX6_isTablePlace_1 h1_4 (by decide) (by decide) (by decide) (by decide) ?_
            refine gq_iload_n X dX6_isTablePlace_56 1 rfl ?_
            refine gq_iconst (v := 0) X dX6_isTablePlace_57 gq_i0 ?_
            refine gq_bipush (v := 7) X dX6_isTablePlace_58 (by decide) ?_
            refine gq_callSr (ws' := ([] : va_W)) X (c_X6_isWithin l D cA x1 0 7) rfl ⟨rfl, rfl⟩ ⟨Nat.le_of_ble_eq_true rfl, Nat.le_of_ble_eq_true rfl⟩ gX6_isTablePlace_X6_isWithin hd_X6_isWithin [] rfl (by decide) rfl rfl rfl rfl (Nat.le_of_ble_eq_true rfl) ⟨Nat.zero_le _, Nat.zero_le _⟩ dX6_isTablePlace_60 ?_
            exact gq_zretf (b := (k_X6_isWithin x1 0 7)) X dX6_isTablePlace_63 rfl rfl rfl
          · refine gq_ite (fun h1_5 => ?_) (fun h1_5 => ?_)
            · refine gq_tin (k := 5) (off := 55) (tgt := 56) X dX6_isTablePlace_1 h1_5 (by decide) (by decide) (by decide) (by decide) ?_
              refine gq_iload_n X dX6_isTablePlace_56 1 rfl ?_
              refine gq_iconst (v := 0) X dX6_isTablePlace_57 gq_i0 ?_
              refine gq_bipush (v := 7) X dX6_isTablePlace_58 (by decide) ?_
              refine gq_callSr (ws' := ([] : va_W)) X (c_X6_isWithin l D cA x1 0 7) rfl ⟨rfl, rfl⟩ ⟨Nat.le_of_ble_eq_true rfl, Nat.le_of_ble_eq_true rfl⟩ gX6_isTablePlace_X6_isWithin hd_X6_isWithin [] rfl (by decide) rfl rfl rfl rfl (Nat.le_of_ble_eq_true rfl) ⟨Nat.zero_le _, Nat.zero_le _⟩ dX6_isTablePlace_60 ?_
              exact gq_zretf (b := (k_X6_isWithin x1 0 7)) X dX6_isTablePlace_63 rfl rfl rfl
            · refine gq_ite (fun h1_6 => ?_) (fun h1_6 => ?_)
              · refine gq_tin (k := 6) (off := 70) (tgt := 71) X dX6_isTablePlace_1 h1_6 (by decide) (by decide) (by decide) (by decide) ?_
                refine gq_iconst (v := 1) X dX6_isTablePlace_71 gq_i1 ?_
                exact gq_zretf (b := true) X dX6_isTablePlace_72 rfl rfl rfl
              · refine gq_ite (fun h1_7 => ?_) (fun h1_7 => ?_)
                · refine gq_tin (k := 7) (off := 63) (tgt := 64) X dX6_isTablePlace_1 h1_7 (by decide) (by decide) (by decide) (by decide) ?_
                  refine gq_iload_n X dX6_isTablePlace_64 1 rfl ?_
                  refine gq_iconst (v := 0) X dX6_isTablePlace_65 gq_i0 ?_
                  refine gq_iconst (v := 3) X dX6_isTablePlace_66 gq_i3 ?_
                  refine gq_callSr (ws' := ([] : va_W)) X (c_X6_isWithin l D cA x1 0 3) rfl ⟨rfl, rfl⟩ ⟨Nat.le_of_ble_eq_true rfl, Nat.le_of_ble_eq_true rfl⟩ gX6_isTablePlace_X6_isWithin hd_X6_isWithin [] rfl (by decide) rfl rfl rfl rfl (Nat.le_of_ble_eq_true rfl) ⟨Nat.zero_le _, Nat.zero_le _⟩ dX6_isTablePlace_67 ?_
                  exact gq_zretf (b := (k_X6_isWithin x1 0 3)) X dX6_isTablePlace_70 rfl rfl rfl
                · refine gq_tout (tgt := 71) X dX6_isTablePlace_1 (by have q0 := lv_neT h1_0 (show (0 : Int32).toInt = 0 by decide); have q1 := lv_neT h1_1 (show (1 : Int32).toInt = 1 by decide); have q2 := lv_neT h1_2 (show (2 : Int32).toInt = 2 by decide); have q3 := lv_neT h1_3 (show (3 : Int32).toInt = 3 by decide); have q4 := lv_neT h1_4 (show (4 : Int32).toInt = 4 by decide); have q5 := lv_neT h1_5 (show (5 : Int32).toInt = 5 by decide); have q6 := lv_neT h1_6 (show (6 : Int32).toInt = 6 by decide); have q7 := lv_neT h1_7 (show (7 : Int32).toInt = 7 by decide); omega) (by decide) ?_
                  refine gq_iconst (v := 1) X dX6_isTablePlace_71 gq_i1 ?_
                  exact gq_zretf (b := true) X dX6_isTablePlace_72 rfl rfl rfl
theorem hd_X6_isTableValue : yX6_isTableValue.cls ≠ "java/lang/invoke/MethodHandle" ∧ yX6_isTableValue.cls ≠ "java/lang/invoke/VarHandle" ∧ (parseMethodDescriptor yX6_isTableValue.desc).map (fun d => d.parameters.length) = some 2 := by decide +kernel
def k_X6_isTableValue (x0 : Int32) (x1 : Int32) : Bool :=
  if x0 = 0 then
    k_X6_isWithin x1 0 3
  else
    if x0 = 1 then
      k_X6_isWithin x1 0 3
    else
      if x0 = 2 then
        k_X6_isWithin x1 0 3
      else
        if x0 = 3 then
          k_X6_isWithin x1 (-1) 200
        else
          if x0 = 4 then
            k_X6_isWithin x1 5 10
          else
            if x0 = 5 then
              k_X6_isWithin x1 0 200
            else
              if x0 = 6 then
                k_X6_isWithin x1 0 15
              else
                k_X6_isWithin x1 0 200
set_option maxHeartbeats 4000000 in
set_option maxRecDepth 100000 in
theorem c_X6_isTableValue (l : Launch) (D : va_G) (cA : ClassId)  (x0 : Int32) (x1 : Int32) : gq_C l yX6_isTableValue wsX6_isTableValue ({ frames := 1, cells := 0, slots := 0, locals := 22 } : Room) D cA [.int x0, .int x1] (([] : va_W)) (some (.int (gq_b (k_X6_isTableValue x0 x1)))) (([] : va_W)) := by
  refine gq_openf (own := RX6) (lv := [(0, .int x0), (1, .int x1)]) (fun r : Bool => (some (.int (gq_b r)), ([] : va_W))) (k_X6_isTableValue x0 x1) (by decide) rfl rfl (Nat.le_of_ble_eq_true rfl) rfl rfl rfl (fun p e s m args below meth c A X => ?_)
  unfold k_X6_isTableValue
  refine gq_iload_n X dX6_isTableValue_0 0 rfl ?_
  refine gq_ite (fun h1_0 => ?_) (fun h1_0 => ?_)
  · refine gq_tin (k := 0) (off := 43) (tgt := 44) X dX6_isTableValue_1 h1_0 (by decide) (by decide) (by decide) (by decide) ?_
    refine gq_iload_n X dX6_isTableValue_44 1 rfl ?_
    refine gq_iconst (v := 0) X dX6_isTableValue_45 gq_i0 ?_
    refine gq_iconst (v := 3) X dX6_isTableValue_46 gq_i3 ?_
    refine gq_callSr (ws' := ([] : va_W)) X (c_X6_isWithin l D cA x1 0 3) rfl ⟨rfl, rfl⟩ ⟨Nat.le_of_ble_eq_true rfl, Nat.le_of_ble_eq_true rfl⟩ gX6_isTableValue_X6_isWithin hd_X6_isWithin [] rfl (by decide) rfl rfl rfl rfl (Nat.le_of_ble_eq_true rfl) ⟨Nat.zero_le _, Nat.zero_le _⟩ dX6_isTableValue_47 ?_
    exact gq_zretf (b := (k_X6_isWithin x1 0 3)) X dX6_isTableValue_50 rfl rfl rfl
  · refine gq_ite (fun h1_1 => ?_) (fun h1_1 => ?_)
    · refine gq_tin (k := 1) (off := 43) (tgt := 44) X dX6_isTableValue_1 h1_1 (by decide) (by decide) (by decide) (by decide) ?_
      refine gq_iload_n X dX6_isTableValue_44 1 rfl ?_
      refine gq_iconst (v := 0) X dX6_isTableValue_45 gq_i0 ?_
      refine gq_iconst (v := 3) X dX6_isTableValue_46 gq_i3 ?_
      refine gq_callSr (ws' := ([] : va_W)) X (c_X6_isWithin l D cA x1 0 3) rfl ⟨rfl, rfl⟩ ⟨Nat.le_of_ble_eq_true rfl, Nat.le_of_ble_eq_true rfl⟩ gX6_isTableValue_X6_isWithin hd_X6_isWithin [] rfl (by decide) rfl rfl rfl rfl (Nat.le_of_ble_eq_true rfl) ⟨Nat.zero_le _, Nat.zero_le _⟩ dX6_isTableValue_47 ?_
      exact gq_zretf (b := (k_X6_isWithin x1 0 3)) X dX6_isTableValue_50 rfl rfl rfl
    · refine gq_ite (fun h1_2 => ?_) (fun h1_2 => ?_)
      · refine gq_tin (k := 2) (off := 43) (tgt := 44) X dX6_isTableValue_1 h1_2 (by decide) (by decide) (by decide) (by decide) ?_
        refine gq_iload_n X dX6_isTableValue_44 1 rfl ?_
        refine gq_iconst (v := 0) X dX6_isTableValue_45 gq_i0 ?_
        refine gq_iconst (v := 3) X dX6_isTableValue_46 gq_i3 ?_
        refine gq_callSr (ws' := ([] : va_W)) X (c_X6_isWithin l D cA x1 0 3) rfl ⟨rfl, rfl⟩ ⟨Nat.le_of_ble_eq_true rfl, Nat.le_of_ble_eq_true rfl⟩ gX6_isTableValue_X6_isWithin hd_X6_isWithin [] rfl (by decide) rfl rfl rfl rfl (Nat.le_of_ble_eq_true rfl) ⟨Nat.zero_le _, Nat.zero_le _⟩ dX6_isTableValue_47 ?_
        exact gq_zretf (b := (k_X6_isWithin x1 0 3)) X dX6_isTableValue_50 rfl rfl rfl
      · refine gq_ite (fun h1_3 => ?_) (fun h1_3 => ?_)
        · refine gq_tin (k := 3) (off := 50) (tgt := 51) X dX6_isTableValue_1 h1_3 (by decide) (by decide) (by decide) (by decide) ?_
          refine gq_iload_n X dX6_isTableValue_51 1 rfl ?_
          refine gq_iconst (v := (-1)) X dX6_isTableValue_52 gq_im1 ?_
          refine gq_sipush (v := 200) X dX6_isTableValue_53 (by decide) ?_
          refine gq_callSr (ws' := ([] : va_W)) X (c_X6_isWithin l D cA x1 (-1) 200) rfl ⟨rfl, rfl⟩ ⟨Nat.le_of_ble_eq_true rfl, Nat.le_of_ble_eq_true rfl⟩ gX6_isTableValue_X6_isWithin hd_X6_isWithin [] rfl (by decide) rfl rfl rfl rfl (Nat.le_of_ble_eq_true rfl) ⟨Nat.zero_le _, Nat.zero_le _⟩ dX6_isTableValue_56 ?_
          exact gq_zretf (b := (k_X6_isWithin x1 (-1) 200)) X dX6_isTableValue_59 rfl rfl rfl
        · refine gq_ite (fun h1_4 => ?_) (fun h1_4 => ?_)
          · refine gq_tin (k := 4) (off := 59) (tgt := 60) X dX6_isTableValue_1 h1_4 (by decide) (by decide) (by decide) (by decide) ?_
            refine gq_iload_n X dX6_isTableValue_60 1 rfl ?_
            refine gq_iconst (v := 5) X dX6_isTableValue_61 gq_i5 ?_
            refine gq_bipush (v := 10) X dX6_isTableValue_62 (by decide) ?_
            refine gq_callSr (ws' := ([] : va_W)) X (c_X6_isWithin l D cA x1 5 10) rfl ⟨rfl, rfl⟩ ⟨Nat.le_of_ble_eq_true rfl, Nat.le_of_ble_eq_true rfl⟩ gX6_isTableValue_X6_isWithin hd_X6_isWithin [] rfl (by decide) rfl rfl rfl rfl (Nat.le_of_ble_eq_true rfl) ⟨Nat.zero_le _, Nat.zero_le _⟩ dX6_isTableValue_64 ?_
            exact gq_zretf (b := (k_X6_isWithin x1 5 10)) X dX6_isTableValue_67 rfl rfl rfl
          · refine gq_ite (fun h1_5 => ?_) (fun h1_5 => ?_)
            · refine gq_tin (k := 5) (off := 75) (tgt := 76) X dX6_isTableValue_1 h1_5 (by decide) (by decide) (by decide) (by decide) ?_
              refine gq_iload_n X dX6_isTableValue_76 1 rfl ?_
              refine gq_iconst (v := 0) X dX6_isTableValue_77 gq_i0 ?_
              refine gq_sipush (v := 200) X dX6_isTableValue_78 (by decide) ?_
              refine gq_callSr (ws' := ([] : va_W)) X (c_X6_isWithin l D cA x1 0 200) rfl ⟨rfl, rfl⟩ ⟨Nat.le_of_ble_eq_true rfl, Nat.le_of_ble_eq_true rfl⟩ gX6_isTableValue_X6_isWithin hd_X6_isWithin [] rfl (by decide) rfl rfl rfl rfl (Nat.le_of_ble_eq_true rfl) ⟨Nat.zero_le _, Nat.zero_le _⟩ dX6_isTableValue_81 ?_
              exact gq_zretf (b := (k_X6_isWithin x1 0 200)) X dX6_isTableValue_84 rfl rfl rfl
            · refine gq_ite (fun h1_6 => ?_) (fun h1_6 => ?_)
              · refine gq_tin (k := 6) (off := 67) (tgt := 68) X dX6_isTableValue_1 h1_6 (by decide) (by decide) (by decide) (by decide) ?_
                refine gq_iload_n X dX6_isTableValue_68 1 rfl ?_
                refine gq_iconst (v := 0) X dX6_isTableValue_69 gq_i0 ?_
                refine gq_bipush (v := 15) X dX6_isTableValue_70 (by decide) ?_
                refine gq_callSr (ws' := ([] : va_W)) X (c_X6_isWithin l D cA x1 0 15) rfl ⟨rfl, rfl⟩ ⟨Nat.le_of_ble_eq_true rfl, Nat.le_of_ble_eq_true rfl⟩ gX6_isTableValue_X6_isWithin hd_X6_isWithin [] rfl (by decide) rfl rfl rfl rfl (Nat.le_of_ble_eq_true rfl) ⟨Nat.zero_le _, Nat.zero_le _⟩ dX6_isTableValue_72 ?_
                exact gq_zretf (b := (k_X6_isWithin x1 0 15)) X dX6_isTableValue_75 rfl rfl rfl
              · refine gq_tout (tgt := 76) X dX6_isTableValue_1 (by have q0 := lv_neT h1_0 (show (0 : Int32).toInt = 0 by decide); have q1 := lv_neT h1_1 (show (1 : Int32).toInt = 1 by decide); have q2 := lv_neT h1_2 (show (2 : Int32).toInt = 2 by decide); have q3 := lv_neT h1_3 (show (3 : Int32).toInt = 3 by decide); have q4 := lv_neT h1_4 (show (4 : Int32).toInt = 4 by decide); have q5 := lv_neT h1_5 (show (5 : Int32).toInt = 5 by decide); have q6 := lv_neT h1_6 (show (6 : Int32).toInt = 6 by decide); omega) (by decide) ?_
                refine gq_iload_n X dX6_isTableValue_76 1 rfl ?_
                refine gq_iconst (v := 0) X dX6_isTableValue_77 gq_i0 ?_
                refine gq_sipush (v := 200) X dX6_isTableValue_78 (by decide) ?_
                refine gq_callSr (ws' := ([] : va_W)) X (c_X6_isWithin l D cA x1 0 200) rfl ⟨rfl, rfl⟩ ⟨Nat.le_of_ble_eq_true rfl, Nat.le_of_ble_eq_true rfl⟩ gX6_isTableValue_X6_isWithin hd_X6_isWithin [] rfl (by decide) rfl rfl rfl rfl (Nat.le_of_ble_eq_true rfl) ⟨Nat.zero_le _, Nat.zero_le _⟩ dX6_isTableValue_81 ?_
                exact gq_zretf (b := (k_X6_isWithin x1 0 200)) X dX6_isTableValue_84 rfl rfl rfl
theorem iX3_size_X3 : ∀ w ∈ u_ws RX3 TX3 2, w ∈ wsX3_size := by decide +kernel
theorem fX3_size_X3_1 : Cond.fieldLink RX3 20 (TX3 1).1 (TX3 1).2.1 (TX3 1).2.2.1 ∈ wsX3_size := by decide +kernel
theorem hv_X3_size : yX3_size.cls = RX3 ∧ yX3_size.cls ≠ "java/lang/invoke/MethodHandle" ∧ yX3_size.cls ≠ "java/lang/invoke/VarHandle" ∧ (parseMethodDescriptor yX3_size.desc).map (fun d => d.parameters.length) = some 0 := by decide +kernel
def k_X3_size (S : gs_P) : Int32 :=
  S.2
set_option maxHeartbeats 4000000 in
set_option maxRecDepth 100000 in
theorem c_X3_size (l : Launch) (D : va_G) (cA : ClassId) (a b d2 : Nat) (S : gs_P)  : gq_C l yX3_size wsX3_size ({ frames := 0, cells := 0, slots := 0, locals := 0 } : Room) D cA [.ref a] (gw_Prog cA a b d2 S) (some (.int (k_X3_size S))) (gw_Prog cA a b d2 S) := by
  refine gq_openf (own := RX3) (lv := [(0, .ref a)]) (fun r : Int32 => (some (.int r), gw_Prog cA a b d2 S)) (k_X3_size S) (by decide) rfl rfl (Nat.le_of_ble_eq_true rfl) rfl rfl rfl (fun p e s m args below meth c A X => ?_)
  unfold k_X3_size
  refine gq_aload_n X dX3_size_0 0 rfl ?_
  refine gq_get (C := RX3) (T := TX3) (N := 2) X iX3_size_X3 0 gl_Prog_c0 rfl 1 (by decide) fX3_size_X3_1 rfl dX3_size_1 ?_
  exact gq_iretf X dX3_size_4 rfl rfl
theorem iX3_has_X3 : ∀ w ∈ u_ws RX3 TX3 2, w ∈ wsX3_has := by decide +kernel
theorem fX3_has_X3_1 : Cond.fieldLink RX3 20 (TX3 1).1 (TX3 1).2.1 (TX3 1).2.2.1 ∈ wsX3_has := by decide +kernel
theorem hv_X3_has : yX3_has.cls = RX3 ∧ yX3_has.cls ≠ "java/lang/invoke/MethodHandle" ∧ yX3_has.cls ≠ "java/lang/invoke/VarHandle" ∧ (parseMethodDescriptor yX3_has.desc).map (fun d => d.parameters.length) = some 1 := by decide +kernel
def k_X3_has (S : gs_P) (x1 : Int32) : Bool :=
  if x1 < 0 then
    false
  else
    if S.2 ≤ x1 then
      false
    else
      true
set_option maxHeartbeats 4000000 in
set_option maxRecDepth 100000 in
theorem c_X3_has (l : Launch) (D : va_G) (cA : ClassId) (a b d2 : Nat) (S : gs_P) (x1 : Int32) : gq_C l yX3_has wsX3_has ({ frames := 0, cells := 0, slots := 0, locals := 0 } : Room) D cA [.ref a, .int x1] (gw_Prog cA a b d2 S) (some (.int (gq_b (k_X3_has S x1)))) (gw_Prog cA a b d2 S) := by
  refine gq_openf (own := RX3) (lv := [(0, .ref a), (1, .int x1)]) (fun r : Bool => (some (.int (gq_b r)), gw_Prog cA a b d2 S)) (k_X3_has S x1) (by decide) rfl rfl (Nat.le_of_ble_eq_true rfl) rfl rfl rfl (fun p e s m args below meth c A X => ?_)
  unfold k_X3_has
  refine gq_iload_n X dX3_has_0 1 rfl ?_
  refine gq_fif_lt (tgt := 16) X dX3_has_1 (by decide) (fun h1 => ?_) (fun h1 => ?_)
  · refine gq_iconst (v := 0) X dX3_has_16 gq_i0 ?_
    exact gq_zretf (b := false) X dX3_has_17 rfl rfl rfl
  · refine gq_iload_n X dX3_has_4 1 rfl ?_
    refine gq_aload_n X dX3_has_5 0 rfl ?_
    refine gq_get (C := RX3) (T := TX3) (N := 2) X iX3_has_X3 0 gl_Prog_c0 rfl 1 (by decide) fX3_has_X3_1 rfl dX3_has_6 ?_
    refine gq_ficmp_ge (tgt := 16) X dX3_has_9 (by decide) (fun h9 => ?_) (fun h9 => ?_)
    · refine gq_iconst (v := 0) X dX3_has_16 gq_i0 ?_
      exact gq_zretf (b := false) X dX3_has_17 rfl rfl rfl
    · refine gq_iconst (v := 1) X dX3_has_12 gq_i1 ?_
      refine gq_goto (tgt := 17) X dX3_has_13 (by decide) ?_
      exact gq_zretf (b := true) X dX3_has_17 rfl rfl rfl
theorem iX3_part_X3 : ∀ w ∈ u_ws RX3 TX3 2, w ∈ wsX3_part := by decide +kernel
theorem fX3_part_X3_0 : Cond.fieldLink RX3 14 (TX3 0).1 (TX3 0).2.1 (TX3 0).2.2.1 ∈ wsX3_part := by decide +kernel
theorem hv_X3_part : yX3_part.cls = RX3 ∧ yX3_part.cls ≠ "java/lang/invoke/MethodHandle" ∧ yX3_part.cls ≠ "java/lang/invoke/VarHandle" ∧ (parseMethodDescriptor yX3_part.desc).map (fun d => d.parameters.length) = some 2 := by decide +kernel
def k_X3_part (S : gs_P) (x1 : Int32) (x2 : Int32) : Int32 :=
  k_X5_get 240 S.1 ((x1 * 4) + x2)
set_option maxHeartbeats 4000000 in
set_option maxRecDepth 100000 in
theorem c_X3_part (l : Launch) (D : va_G) (cA : ClassId) (a b d2 : Nat) (S : gs_P) (x1 : Int32) (x2 : Int32) : gq_C l yX3_part wsX3_part ({ frames := 1, cells := 0, slots := 0, locals := 21 } : Room) D cA [.ref a, .int x1, .int x2] (gw_Prog cA a b d2 S) (some (.int (k_X3_part S x1 x2))) (gw_Prog cA a b d2 S) := by
  refine gq_openf (own := RX3) (lv := [(0, .ref a), (1, .int x1), (2, .int x2)]) (fun r : Int32 => (some (.int r), gw_Prog cA a b d2 S)) (k_X3_part S x1 x2) (by decide) rfl rfl (Nat.le_of_ble_eq_true rfl) rfl rfl rfl (fun p e s m args below meth c A X => ?_)
  unfold k_X3_part
  refine gq_aload_n X dX3_part_0 0 rfl ?_
  refine gq_get (C := RX3) (T := TX3) (N := 2) X iX3_part_X3 0 gl_Prog_c0 rfl 0 (by decide) fX3_part_X3_0 rfl dX3_part_1 ?_
  refine gq_iload_n X dX3_part_4 1 rfl ?_
  refine gq_iconst (v := 4) X dX3_part_5 gq_i4 ?_
  refine gq_imul X dX3_part_6 ?_
  refine gq_iload_n X dX3_part_7 2 rfl ?_
  refine gq_iadd X dX3_part_8 ?_
  refine gq_callVr (ws' := gw_Prog cA a b d2 S) X (c_X5_get l D cA b d2 240 (by decide) S.1 ((x1 * 4) + x2)) rfl ⟨rfl, rfl⟩ ⟨Nat.le_of_ble_eq_true rfl, Nat.le_of_ble_eq_true rfl⟩ gX3_part_X5_get hv_X5_get 1 rfl rfl [1, 2] gl_Prog_1_at gl_Prog_1_nd gl_Row_fst gl_Prog_1_same rfl rfl (Nat.le_of_ble_eq_true rfl) ⟨Nat.zero_le _, Nat.zero_le _⟩ dX3_part_9 ?_
  exact gq_iretf X dX3_part_12 rfl rfl
theorem iX3_add_X3 : ∀ w ∈ u_ws RX3 TX3 2, w ∈ wsX3_add := by decide +kernel
theorem fX3_add_X3_0 : Cond.fieldLink RX3 14 (TX3 0).1 (TX3 0).2.1 (TX3 0).2.2.1 ∈ wsX3_add := by decide +kernel
theorem fX3_add_X3_1 : Cond.fieldLink RX3 20 (TX3 1).1 (TX3 1).2.1 (TX3 1).2.2.1 ∈ wsX3_add := by decide +kernel
theorem hv_X3_add : yX3_add.cls = RX3 ∧ yX3_add.cls ≠ "java/lang/invoke/MethodHandle" ∧ yX3_add.cls ≠ "java/lang/invoke/VarHandle" ∧ (parseMethodDescriptor yX3_add.desc).map (fun d => d.parameters.length) = some 4 := by decide +kernel
def k_X3_add (S : gs_P) (x1 : Int32) (x2 : Int32) (x3 : Int32) (x4 : Int32) : Bool × gs_P :=
  if S.2 < 60 then
    gq_lt (k_X5_set 240 S.1 ((S.2 * 4) + 0) x1) (fun r1 =>
    gq_lt ((r1.2, S.2)) (fun s2 =>
    gq_lt (k_X5_set 240 s2.1 ((s2.2 * 4) + 1) x2) (fun r3 =>
    gq_lt ((r3.2, s2.2)) (fun s4 =>
    gq_lt (k_X5_set 240 s4.1 ((s4.2 * 4) + 2) x3) (fun r5 =>
    gq_lt ((r5.2, s4.2)) (fun s6 =>
    gq_lt (k_X5_set 240 s6.1 ((s6.2 * 4) + 3) x4) (fun r7 =>
    gq_lt ((r7.2, s6.2)) (fun s8 =>
    gq_lt ((s8.1, s8.2 + 1)) (fun s9 =>
    (true, s9))))))))))
  else
    (false, S)
set_option maxHeartbeats 4000000 in
set_option maxRecDepth 100000 in
theorem c_X3_add (l : Launch) (D : va_G) (cA : ClassId) (a b d2 : Nat) (S : gs_P) (x1 : Int32) (x2 : Int32) (x3 : Int32) (x4 : Int32) : gq_C l yX3_add wsX3_add ({ frames := 1, cells := 0, slots := 0, locals := 23 } : Room) D cA [.ref a, .int x1, .int x2, .int x3, .int x4] (gw_Prog cA a b d2 S) (some (.int (gq_b (k_X3_add S x1 x2 x3 x4).1))) (gw_Prog cA a b d2 ((k_X3_add S x1 x2 x3 x4).2)) := by
  refine gq_openf (own := RX3) (lv := [(0, .ref a), (1, .int x1), (2, .int x2), (3, .int x3), (4, .int x4)]) (fun r : Bool × gs_P => (some (.int (gq_b r.1)), gw_Prog cA a b d2 r.2)) (k_X3_add S x1 x2 x3 x4) (by decide) rfl rfl (Nat.le_of_ble_eq_true rfl) rfl rfl rfl (fun p e s m args below meth c A X => ?_)
  unfold k_X3_add
  refine gq_aload_n X dX3_add_0 0 rfl ?_
  refine gq_get (C := RX3) (T := TX3) (N := 2) X iX3_add_X3 0 gl_Prog_c0 rfl 1 (by decide) fX3_add_X3_1 rfl dX3_add_1 ?_
  refine gq_bipush (v := 60) X dX3_add_4 (by decide) ?_
  refine gq_ficmp_lt (tgt := 11) X dX3_add_6 (by decide) (fun h6 => ?_) (fun h6 => ?_)
  · refine gq_aload_n X dX3_add_11 0 rfl ?_
    refine gq_get (C := RX3) (T := TX3) (N := 2) X iX3_add_X3 0 gl_Prog_c0 rfl 0 (by decide) fX3_add_X3_0 rfl dX3_add_12 ?_
    refine gq_aload_n X dX3_add_15 0 rfl ?_
    refine gq_get (C := RX3) (T := TX3) (N := 2) X iX3_add_X3 0 gl_Prog_c0 rfl 1 (by decide) fX3_add_X3_1 rfl dX3_add_16 ?_
    refine gq_iconst (v := 4) X dX3_add_19 gq_i4 ?_
    refine gq_imul X dX3_add_20 ?_
    refine gq_iconst (v := 0) X dX3_add_21 gq_i0 ?_
    refine gq_iadd X dX3_add_22 ?_
    refine gq_iload_n X dX3_add_23 1 rfl ?_
    refine gq_letr (fun r1 er1 => ?_)
    refine gq_letr (fun s2 es2 => ?_)
    refine gq_callVr (ws' := gw_Prog cA a b d2 s2) X (gq_Ceq (res2 := some (Value.int r1.1)) (w2 := gw_Row cA b d2 240 r1.2) (c_X5_set l D cA b d2 240 (by decide) S.1 ((S.2 * 4) + 0) x1) (by rw [er1]) (by rw [er1])) rfl ⟨rfl, rfl⟩ ⟨Nat.le_of_ble_eq_true rfl, Nat.le_of_ble_eq_true rfl⟩ gX3_add_X5_set hv_X5_set 1 rfl rfl [1, 2] gl_Prog_1_at gl_Prog_1_nd gl_Row_fst (by rw [es2]; exact gl_Prog_1_set) rfl rfl (Nat.le_of_ble_eq_true rfl) ⟨Nat.zero_le _, Nat.zero_le _⟩ dX3_add_24 ?_
    refine gq_pop X dX3_add_27 rfl ?_
    refine gq_aload_n X dX3_add_28 0 rfl ?_
    refine gq_get (C := RX3) (T := TX3) (N := 2) X iX3_add_X3 0 gl_Prog_c0 rfl 0 (by decide) fX3_add_X3_0 rfl dX3_add_29 ?_
    refine gq_aload_n X dX3_add_32 0 rfl ?_
    refine gq_get (C := RX3) (T := TX3) (N := 2) X iX3_add_X3 0 gl_Prog_c0 rfl 1 (by decide) fX3_add_X3_1 rfl dX3_add_33 ?_
    refine gq_iconst (v := 4) X dX3_add_36 gq_i4 ?_
    refine gq_imul X dX3_add_37 ?_
    refine gq_iconst (v := 1) X dX3_add_38 gq_i1 ?_
    refine gq_iadd X dX3_add_39 ?_
    refine gq_iload_n X dX3_add_40 2 rfl ?_
    refine gq_letr (fun r3 er3 => ?_)
    refine gq_letr (fun s4 es4 => ?_)
    refine gq_callVr (ws' := gw_Prog cA a b d2 s4) X (gq_Ceq (res2 := some (Value.int r3.1)) (w2 := gw_Row cA b d2 240 r3.2) (c_X5_set l D cA b d2 240 (by decide) s2.1 ((s2.2 * 4) + 1) x2) (by rw [er3]) (by rw [er3])) rfl ⟨rfl, rfl⟩ ⟨Nat.le_of_ble_eq_true rfl, Nat.le_of_ble_eq_true rfl⟩ gX3_add_X5_set hv_X5_set 1 rfl rfl [1, 2] gl_Prog_1_at gl_Prog_1_nd gl_Row_fst (by rw [es4]; exact gl_Prog_1_set) rfl rfl (Nat.le_of_ble_eq_true rfl) ⟨Nat.zero_le _, Nat.zero_le _⟩ dX3_add_41 ?_
    refine gq_pop X dX3_add_44 rfl ?_
    refine gq_aload_n X dX3_add_45 0 rfl ?_
    refine gq_get (C := RX3) (T := TX3) (N := 2) X iX3_add_X3 0 gl_Prog_c0 rfl 0 (by decide) fX3_add_X3_0 rfl dX3_add_46 ?_
    refine gq_aload_n X dX3_add_49 0 rfl ?_
    refine gq_get (C := RX3) (T := TX3) (N := 2) X iX3_add_X3 0 gl_Prog_c0 rfl 1 (by decide) fX3_add_X3_1 rfl dX3_add_50 ?_
    refine gq_iconst (v := 4) X dX3_add_53 gq_i4 ?_
    refine gq_imul X dX3_add_54 ?_
    refine gq_iconst (v := 2) X dX3_add_55 gq_i2 ?_
    refine gq_iadd X dX3_add_56 ?_
    refine gq_iload_n X dX3_add_57 3 rfl ?_
    refine gq_letr (fun r5 er5 => ?_)
    refine gq_letr (fun s6 es6 => ?_)
    refine gq_callVr (ws' := gw_Prog cA a b d2 s6) X (gq_Ceq (res2 := some (Value.int r5.1)) (w2 := gw_Row cA b d2 240 r5.2) (c_X5_set l D cA b d2 240 (by decide) s4.1 ((s4.2 * 4) + 2) x3) (by rw [er5]) (by rw [er5])) rfl ⟨rfl, rfl⟩ ⟨Nat.le_of_ble_eq_true rfl, Nat.le_of_ble_eq_true rfl⟩ gX3_add_X5_set hv_X5_set 1 rfl rfl [1, 2] gl_Prog_1_at gl_Prog_1_nd gl_Row_fst (by rw [es6]; exact gl_Prog_1_set) rfl rfl (Nat.le_of_ble_eq_true rfl) ⟨Nat.zero_le _, Nat.zero_le _⟩ dX3_add_58 ?_
    refine gq_pop X dX3_add_61 rfl ?_
    refine gq_aload_n X dX3_add_62 0 rfl ?_
    refine gq_get (C := RX3) (T := TX3) (N := 2) X iX3_add_X3 0 gl_Prog_c0 rfl 0 (by decide) fX3_add_X3_0 rfl dX3_add_63 ?_
    refine gq_aload_n X dX3_add_66 0 rfl ?_
    refine gq_get (C := RX3) (T := TX3) (N := 2) X iX3_add_X3 0 gl_Prog_c0 rfl 1 (by decide) fX3_add_X3_1 rfl dX3_add_67 ?_
    refine gq_iconst (v := 4) X dX3_add_70 gq_i4 ?_
    refine gq_imul X dX3_add_71 ?_
    refine gq_iconst (v := 3) X dX3_add_72 gq_i3 ?_
    refine gq_iadd X dX3_add_73 ?_
    refine gq_iload X dX3_add_74 4 rfl ?_
    refine gq_letr (fun r7 er7 => ?_)
    refine gq_letr (fun s8 es8 => ?_)
    refine gq_callVr (ws' := gw_Prog cA a b d2 s8) X (gq_Ceq (res2 := some (Value.int r7.1)) (w2 := gw_Row cA b d2 240 r7.2) (c_X5_set l D cA b d2 240 (by decide) s6.1 ((s6.2 * 4) + 3) x4) (by rw [er7]) (by rw [er7])) rfl ⟨rfl, rfl⟩ ⟨Nat.le_of_ble_eq_true rfl, Nat.le_of_ble_eq_true rfl⟩ gX3_add_X5_set hv_X5_set 1 rfl rfl [1, 2] gl_Prog_1_at gl_Prog_1_nd gl_Row_fst (by rw [es8]; exact gl_Prog_1_set) rfl rfl (Nat.le_of_ble_eq_true rfl) ⟨Nat.zero_le _, Nat.zero_le _⟩ dX3_add_76 ?_
    refine gq_pop X dX3_add_79 rfl ?_
    refine gq_aload_n X dX3_add_80 0 rfl ?_
    refine gq_dup X dX3_add_81 rfl ?_
    refine gq_get (C := RX3) (T := TX3) (N := 2) X iX3_add_X3 0 gl_Prog_c0 rfl 1 (by decide) fX3_add_X3_1 rfl dX3_add_82 ?_
    refine gq_iconst (v := 1) X dX3_add_85 gq_i1 ?_
    refine gq_iadd X dX3_add_86 ?_
    refine gq_letr (fun s9 es9 => ?_)
    refine gq_put (C := RX3) (T := TX3) (N := 2) (ws' := gw_Prog cA a b d2 s9) X iX3_add_X3 tyX3 tyX3_ok nmX3 0 gl_Prog_c0 rfl 1 (by decide) fX3_add_X3_1 rfl rfl rfl (Nat.le_of_ble_eq_true rfl) (by rw [es9]; exact gl_Prog_f1) dX3_add_87 ?_
    refine gq_iconst (v := 1) X dX3_add_90 gq_i1 ?_
    exact gq_zretf (b := true) X dX3_add_91 rfl rfl rfl
  · refine gq_iconst (v := 0) X dX3_add_9 gq_i0 ?_
    exact gq_zretf (b := false) X dX3_add_10 rfl rfl rfl
theorem iX3_clear_X3 : ∀ w ∈ u_ws RX3 TX3 2, w ∈ wsX3_clear := by decide +kernel
theorem fX3_clear_X3_1 : Cond.fieldLink RX3 20 (TX3 1).1 (TX3 1).2.1 (TX3 1).2.2.1 ∈ wsX3_clear := by decide +kernel
theorem hv_X3_clear : yX3_clear.cls = RX3 ∧ yX3_clear.cls ≠ "java/lang/invoke/MethodHandle" ∧ yX3_clear.cls ≠ "java/lang/invoke/VarHandle" ∧ (parseMethodDescriptor yX3_clear.desc).map (fun d => d.parameters.length) = some 0 := by decide +kernel
def k_X3_clear (S : gs_P) : Int32 × gs_P :=
  gq_lt ((S.1, 0)) (fun s1 =>
  (S.2, s1))
set_option maxHeartbeats 4000000 in
set_option maxRecDepth 100000 in
theorem c_X3_clear (l : Launch) (D : va_G) (cA : ClassId) (a b d2 : Nat) (S : gs_P)  : gq_C l yX3_clear wsX3_clear ({ frames := 0, cells := 0, slots := 0, locals := 0 } : Room) D cA [.ref a] (gw_Prog cA a b d2 S) (some (.int (k_X3_clear S).1)) (gw_Prog cA a b d2 ((k_X3_clear S).2)) := by
  refine gq_openf (own := RX3) (lv := [(0, .ref a)]) (fun r : Int32 × gs_P => (some (.int r.1), gw_Prog cA a b d2 r.2)) (k_X3_clear S) (by decide) rfl rfl (Nat.le_of_ble_eq_true rfl) rfl rfl rfl (fun p e s m args below meth c A X => ?_)
  unfold k_X3_clear
  refine gq_aload_n X dX3_clear_0 0 rfl ?_
  refine gq_get (C := RX3) (T := TX3) (N := 2) X iX3_clear_X3 0 gl_Prog_c0 rfl 1 (by decide) fX3_clear_X3_1 rfl dX3_clear_1 ?_
  refine gq_istore_n (lv' := [(1, .int S.2), (0, .ref a)]) X dX3_clear_4 (by decide) rfl ?_
  refine gq_aload_n X dX3_clear_5 1 rfl ?_
  refine gq_iconst (v := 0) X dX3_clear_6 gq_i0 ?_
  refine gq_letr (fun s1 es1 => ?_)
  refine gq_put (C := RX3) (T := TX3) (N := 2) (ws' := gw_Prog cA a b d2 s1) X iX3_clear_X3 tyX3 tyX3_ok nmX3 0 gl_Prog_c0 rfl 1 (by decide) fX3_clear_X3_1 rfl rfl rfl (Nat.le_of_ble_eq_true rfl) (by rw [es1]; exact gl_Prog_f1) dX3_clear_7 ?_
  refine gq_iload_n X dX3_clear_10 0 rfl ?_
  exact gq_iretf X dX3_clear_11 rfl rfl
theorem hv_X0_hasCell : yX0_hasCell.cls = RX0 ∧ yX0_hasCell.cls ≠ "java/lang/invoke/MethodHandle" ∧ yX0_hasCell.cls ≠ "java/lang/invoke/VarHandle" ∧ (parseMethodDescriptor yX0_hasCell.desc).map (fun d => d.parameters.length) = some 1 := by decide +kernel
def k_X0_hasCell (S : gs_C) (x1 : Int32) : Bool :=
  if x1 < 0 then
    false
  else
    if 24 ≤ x1 then
      false
    else
      true
set_option maxHeartbeats 4000000 in
set_option maxRecDepth 100000 in
theorem c_X0_hasCell (l : Launch) (D : va_G) (cA : ClassId) (a0 a1 a2 a3 a4 a5 a6 : Nat) (S : gs_C) (x1 : Int32) : gq_C l yX0_hasCell wsX0_hasCell ({ frames := 0, cells := 0, slots := 0, locals := 0 } : Room) D cA [.ref a0, .int x1] (gw_Core cA a0 a1 a2 a3 a4 a5 a6 S) (some (.int (gq_b (k_X0_hasCell S x1)))) (gw_Core cA a0 a1 a2 a3 a4 a5 a6 S) := by
  refine gq_openf (own := RX0) (lv := [(0, .ref a0), (1, .int x1)]) (fun r : Bool => (some (.int (gq_b r)), gw_Core cA a0 a1 a2 a3 a4 a5 a6 S)) (k_X0_hasCell S x1) (by decide) rfl rfl (Nat.le_of_ble_eq_true rfl) rfl rfl rfl (fun p e s m args below meth c A X => ?_)
  unfold k_X0_hasCell
  refine gq_iload_n X dX0_hasCell_0 1 rfl ?_
  refine gq_fif_lt (tgt := 14) X dX0_hasCell_1 (by decide) (fun h1 => ?_) (fun h1 => ?_)
  · refine gq_iconst (v := 0) X dX0_hasCell_14 gq_i0 ?_
    exact gq_zretf (b := false) X dX0_hasCell_15 rfl rfl rfl
  · refine gq_iload_n X dX0_hasCell_4 1 rfl ?_
    refine gq_bipush (v := 24) X dX0_hasCell_5 (by decide) ?_
    refine gq_ficmp_ge (tgt := 14) X dX0_hasCell_7 (by decide) (fun h7 => ?_) (fun h7 => ?_)
    · refine gq_iconst (v := 0) X dX0_hasCell_14 gq_i0 ?_
      exact gq_zretf (b := false) X dX0_hasCell_15 rfl rfl rfl
    · refine gq_iconst (v := 1) X dX0_hasCell_10 gq_i1 ?_
      refine gq_goto (tgt := 15) X dX0_hasCell_11 (by decide) ?_
      exact gq_zretf (b := true) X dX0_hasCell_15 rfl rfl rfl
theorem iX0_cell_X0 : ∀ w ∈ u_ws RX0 TX0 3, w ∈ wsX0_cell := by decide +kernel
theorem fX0_cell_X0_0 : Cond.fieldLink RX0 14 (TX0 0).1 (TX0 0).2.1 (TX0 0).2.2.1 ∈ wsX0_cell := by decide +kernel
theorem fX0_cell_X0_1 : Cond.fieldLink RX0 20 (TX0 1).1 (TX0 1).2.1 (TX0 1).2.2.1 ∈ wsX0_cell := by decide +kernel
theorem hv_X0_cell : yX0_cell.cls = RX0 ∧ yX0_cell.cls ≠ "java/lang/invoke/MethodHandle" ∧ yX0_cell.cls ≠ "java/lang/invoke/VarHandle" ∧ (parseMethodDescriptor yX0_cell.desc).map (fun d => d.parameters.length) = some 1 := by decide +kernel
def k_X0_cell (S : gs_C) (x1 : Int32) : Int32 :=
  if 8 ≤ x1 then
    k_X5_get 16 S.2.1 (x1 - 8)
  else
    k_X5_get 8 S.1 x1
set_option maxHeartbeats 4000000 in
set_option maxRecDepth 100000 in
theorem c_X0_cell (l : Launch) (D : va_G) (cA : ClassId) (a0 a1 a2 a3 a4 a5 a6 : Nat) (S : gs_C) (x1 : Int32) : gq_C l yX0_cell wsX0_cell ({ frames := 1, cells := 0, slots := 0, locals := 21 } : Room) D cA [.ref a0, .int x1] (gw_Core cA a0 a1 a2 a3 a4 a5 a6 S) (some (.int (k_X0_cell S x1))) (gw_Core cA a0 a1 a2 a3 a4 a5 a6 S) := by
  refine gq_openf (own := RX0) (lv := [(0, .ref a0), (1, .int x1)]) (fun r : Int32 => (some (.int r), gw_Core cA a0 a1 a2 a3 a4 a5 a6 S)) (k_X0_cell S x1) (by decide) rfl rfl (Nat.le_of_ble_eq_true rfl) rfl rfl rfl (fun p e s m args below meth c A X => ?_)
  unfold k_X0_cell
  refine gq_iload_n X dX0_cell_0 1 rfl ?_
  refine gq_bipush (v := 8) X dX0_cell_1 (by decide) ?_
  refine gq_ficmp_ge (tgt := 17) X dX0_cell_3 (by decide) (fun h3 => ?_) (fun h3 => ?_)
  · refine gq_aload_n X dX0_cell_17 0 rfl ?_
    refine gq_get (C := RX0) (T := TX0) (N := 3) X iX0_cell_X0 0 gl_Core_c0 rfl 1 (by decide) fX0_cell_X0_1 rfl dX0_cell_18 ?_
    refine gq_iload_n X dX0_cell_21 1 rfl ?_
    refine gq_bipush (v := 8) X dX0_cell_22 (by decide) ?_
    refine gq_isub X dX0_cell_24 ?_
    refine gq_callVr (ws' := gw_Core cA a0 a1 a2 a3 a4 a5 a6 S) X (c_X5_get l D cA a3 a4 16 (by decide) S.2.1 (x1 - 8)) rfl ⟨rfl, rfl⟩ ⟨Nat.le_of_ble_eq_true rfl, Nat.le_of_ble_eq_true rfl⟩ gX0_cell_X5_get hv_X5_get 3 rfl rfl [3, 4] gl_Core_3_at gl_Core_3_nd gl_Row_fst gl_Core_3_same rfl rfl (Nat.le_of_ble_eq_true rfl) ⟨Nat.zero_le _, Nat.zero_le _⟩ dX0_cell_25 ?_
    exact gq_iretf X dX0_cell_28 rfl rfl
  · refine gq_aload_n X dX0_cell_6 0 rfl ?_
    refine gq_get (C := RX0) (T := TX0) (N := 3) X iX0_cell_X0 0 gl_Core_c0 rfl 0 (by decide) fX0_cell_X0_0 rfl dX0_cell_7 ?_
    refine gq_iload_n X dX0_cell_10 1 rfl ?_
    refine gq_callVr (ws' := gw_Core cA a0 a1 a2 a3 a4 a5 a6 S) X (c_X5_get l D cA a1 a2 8 (by decide) S.1 x1) rfl ⟨rfl, rfl⟩ ⟨Nat.le_of_ble_eq_true rfl, Nat.le_of_ble_eq_true rfl⟩ gX0_cell_X5_get hv_X5_get 1 rfl rfl [1, 2] gl_Core_1_at gl_Core_1_nd gl_Row_fst gl_Core_1_same rfl rfl (Nat.le_of_ble_eq_true rfl) ⟨Nat.zero_le _, Nat.zero_le _⟩ dX0_cell_11 ?_
    refine gq_goto (tgt := 28) X dX0_cell_14 (by decide) ?_
    exact gq_iretf X dX0_cell_28 rfl rfl
theorem iX0_setCell_X0 : ∀ w ∈ u_ws RX0 TX0 3, w ∈ wsX0_setCell := by decide +kernel
theorem fX0_setCell_X0_0 : Cond.fieldLink RX0 14 (TX0 0).1 (TX0 0).2.1 (TX0 0).2.2.1 ∈ wsX0_setCell := by decide +kernel
theorem fX0_setCell_X0_1 : Cond.fieldLink RX0 20 (TX0 1).1 (TX0 1).2.1 (TX0 1).2.2.1 ∈ wsX0_setCell := by decide +kernel
theorem hv_X0_setCell : yX0_setCell.cls = RX0 ∧ yX0_setCell.cls ≠ "java/lang/invoke/MethodHandle" ∧ yX0_setCell.cls ≠ "java/lang/invoke/VarHandle" ∧ (parseMethodDescriptor yX0_setCell.desc).map (fun d => d.parameters.length) = some 2 := by decide +kernel
def k_X0_setCell (S : gs_C) (x1 : Int32) (x2 : Int32) : Int32 × gs_C :=
  if 8 ≤ x1 then
    gq_lt (k_X5_set 16 S.2.1 (x1 - 8) x2) (fun r1 =>
    gq_lt ((S.1, r1.2, S.2.2)) (fun s2 =>
    (r1.1, s2)))
  else
    gq_lt (k_X5_set 8 S.1 x1 x2) (fun r3 =>
    gq_lt ((r3.2, S.2.1, S.2.2)) (fun s4 =>
    (r3.1, s4)))
set_option maxHeartbeats 4000000 in
set_option maxRecDepth 100000 in
theorem c_X0_setCell (l : Launch) (D : va_G) (cA : ClassId) (a0 a1 a2 a3 a4 a5 a6 : Nat) (S : gs_C) (x1 : Int32) (x2 : Int32) : gq_C l yX0_setCell wsX0_setCell ({ frames := 1, cells := 0, slots := 0, locals := 23 } : Room) D cA [.ref a0, .int x1, .int x2] (gw_Core cA a0 a1 a2 a3 a4 a5 a6 S) (some (.int (k_X0_setCell S x1 x2).1)) (gw_Core cA a0 a1 a2 a3 a4 a5 a6 ((k_X0_setCell S x1 x2).2)) := by
  refine gq_openf (own := RX0) (lv := [(0, .ref a0), (1, .int x1), (2, .int x2)]) (fun r : Int32 × gs_C => (some (.int r.1), gw_Core cA a0 a1 a2 a3 a4 a5 a6 r.2)) (k_X0_setCell S x1 x2) (by decide) rfl rfl (Nat.le_of_ble_eq_true rfl) rfl rfl rfl (fun p e s m args below meth c A X => ?_)
  unfold k_X0_setCell
  refine gq_iload_n X dX0_setCell_0 1 rfl ?_
  refine gq_bipush (v := 8) X dX0_setCell_1 (by decide) ?_
  refine gq_ficmp_ge (tgt := 18) X dX0_setCell_3 (by decide) (fun h3 => ?_) (fun h3 => ?_)
  · refine gq_aload_n X dX0_setCell_18 0 rfl ?_
    refine gq_get (C := RX0) (T := TX0) (N := 3) X iX0_setCell_X0 0 gl_Core_c0 rfl 1 (by decide) fX0_setCell_X0_1 rfl dX0_setCell_19 ?_
    refine gq_iload_n X dX0_setCell_22 1 rfl ?_
    refine gq_bipush (v := 8) X dX0_setCell_23 (by decide) ?_
    refine gq_isub X dX0_setCell_25 ?_
    refine gq_iload_n X dX0_setCell_26 2 rfl ?_
    refine gq_letr (fun r1 er1 => ?_)
    refine gq_letr (fun s2 es2 => ?_)
    refine gq_callVr (ws' := gw_Core cA a0 a1 a2 a3 a4 a5 a6 s2) X (gq_Ceq (res2 := some (Value.int r1.1)) (w2 := gw_Row cA a3 a4 16 r1.2) (c_X5_set l D cA a3 a4 16 (by decide) S.2.1 (x1 - 8) x2) (by rw [er1]) (by rw [er1])) rfl ⟨rfl, rfl⟩ ⟨Nat.le_of_ble_eq_true rfl, Nat.le_of_ble_eq_true rfl⟩ gX0_setCell_X5_set hv_X5_set 3 rfl rfl [3, 4] gl_Core_3_at gl_Core_3_nd gl_Row_fst (by rw [es2]; exact gl_Core_3_set) rfl rfl (Nat.le_of_ble_eq_true rfl) ⟨Nat.zero_le _, Nat.zero_le _⟩ dX0_setCell_27 ?_
    exact gq_iretf X dX0_setCell_30 rfl rfl
  · refine gq_aload_n X dX0_setCell_6 0 rfl ?_
    refine gq_get (C := RX0) (T := TX0) (N := 3) X iX0_setCell_X0 0 gl_Core_c0 rfl 0 (by decide) fX0_setCell_X0_0 rfl dX0_setCell_7 ?_
    refine gq_iload_n X dX0_setCell_10 1 rfl ?_
    refine gq_iload_n X dX0_setCell_11 2 rfl ?_
    refine gq_letr (fun r3 er3 => ?_)
    refine gq_letr (fun s4 es4 => ?_)
    refine gq_callVr (ws' := gw_Core cA a0 a1 a2 a3 a4 a5 a6 s4) X (gq_Ceq (res2 := some (Value.int r3.1)) (w2 := gw_Row cA a1 a2 8 r3.2) (c_X5_set l D cA a1 a2 8 (by decide) S.1 x1 x2) (by rw [er3]) (by rw [er3])) rfl ⟨rfl, rfl⟩ ⟨Nat.le_of_ble_eq_true rfl, Nat.le_of_ble_eq_true rfl⟩ gX0_setCell_X5_set hv_X5_set 1 rfl rfl [1, 2] gl_Core_1_at gl_Core_1_nd gl_Row_fst (by rw [es4]; exact gl_Core_1_set) rfl rfl (Nat.le_of_ble_eq_true rfl) ⟨Nat.zero_le _, Nat.zero_le _⟩ dX0_setCell_12 ?_
    refine gq_goto (tgt := 30) X dX0_setCell_15 (by decide) ?_
    exact gq_iretf X dX0_setCell_30 rfl rfl
theorem iX0_stackSize_X0 : ∀ w ∈ u_ws RX0 TX0 3, w ∈ wsX0_stackSize := by decide +kernel
theorem fX0_stackSize_X0_2 : Cond.fieldLink RX0 26 (TX0 2).1 (TX0 2).2.1 (TX0 2).2.2.1 ∈ wsX0_stackSize := by decide +kernel
theorem hv_X0_stackSize : yX0_stackSize.cls = RX0 ∧ yX0_stackSize.cls ≠ "java/lang/invoke/MethodHandle" ∧ yX0_stackSize.cls ≠ "java/lang/invoke/VarHandle" ∧ (parseMethodDescriptor yX0_stackSize.desc).map (fun d => d.parameters.length) = some 0 := by decide +kernel
def k_X0_stackSize (S : gs_C) : Int32 :=
  k_X2_size 16 S.2.2
set_option maxHeartbeats 4000000 in
set_option maxRecDepth 100000 in
theorem c_X0_stackSize (l : Launch) (D : va_G) (cA : ClassId) (a0 a1 a2 a3 a4 a5 a6 : Nat) (S : gs_C)  : gq_C l yX0_stackSize wsX0_stackSize ({ frames := 1, cells := 0, slots := 0, locals := 20 } : Room) D cA [.ref a0] (gw_Core cA a0 a1 a2 a3 a4 a5 a6 S) (some (.int (k_X0_stackSize S))) (gw_Core cA a0 a1 a2 a3 a4 a5 a6 S) := by
  refine gq_openf (own := RX0) (lv := [(0, .ref a0)]) (fun r : Int32 => (some (.int r), gw_Core cA a0 a1 a2 a3 a4 a5 a6 S)) (k_X0_stackSize S) (by decide) rfl rfl (Nat.le_of_ble_eq_true rfl) rfl rfl rfl (fun p e s m args below meth c A X => ?_)
  unfold k_X0_stackSize
  refine gq_aload_n X dX0_stackSize_0 0 rfl ?_
  refine gq_get (C := RX0) (T := TX0) (N := 3) X iX0_stackSize_X0 0 gl_Core_c0 rfl 2 (by decide) fX0_stackSize_X0_2 rfl dX0_stackSize_1 ?_
  refine gq_callVr (ws' := gw_Core cA a0 a1 a2 a3 a4 a5 a6 S) X (c_X2_size l D cA a5 a6 16 (by decide) S.2.2) rfl ⟨rfl, rfl⟩ ⟨Nat.le_of_ble_eq_true rfl, Nat.le_of_ble_eq_true rfl⟩ gX0_stackSize_X2_size hv_X2_size 5 rfl rfl [5, 6] gl_Core_5_at gl_Core_5_nd gl_Pile_fst gl_Core_5_same rfl rfl (Nat.le_of_ble_eq_true rfl) ⟨Nat.zero_le _, Nat.zero_le _⟩ dX0_stackSize_4 ?_
  exact gq_iretf X dX0_stackSize_7 rfl rfl
theorem iX0_stackAddress_X0 : ∀ w ∈ u_ws RX0 TX0 3, w ∈ wsX0_stackAddress := by decide +kernel
theorem fX0_stackAddress_X0_2 : Cond.fieldLink RX0 26 (TX0 2).1 (TX0 2).2.1 (TX0 2).2.2.1 ∈ wsX0_stackAddress := by decide +kernel
theorem hv_X0_stackAddress : yX0_stackAddress.cls = RX0 ∧ yX0_stackAddress.cls ≠ "java/lang/invoke/MethodHandle" ∧ yX0_stackAddress.cls ≠ "java/lang/invoke/VarHandle" ∧ (parseMethodDescriptor yX0_stackAddress.desc).map (fun d => d.parameters.length) = some 1 := by decide +kernel
def k_X0_stackAddress (S : gs_C) (x1 : Int32) : Int32 :=
  k_X2_get 16 S.2.2 x1
set_option maxHeartbeats 4000000 in
set_option maxRecDepth 100000 in
theorem c_X0_stackAddress (l : Launch) (D : va_G) (cA : ClassId) (a0 a1 a2 a3 a4 a5 a6 : Nat) (S : gs_C) (x1 : Int32) : gq_C l yX0_stackAddress wsX0_stackAddress ({ frames := 2, cells := 0, slots := 0, locals := 42 } : Room) D cA [.ref a0, .int x1] (gw_Core cA a0 a1 a2 a3 a4 a5 a6 S) (some (.int (k_X0_stackAddress S x1))) (gw_Core cA a0 a1 a2 a3 a4 a5 a6 S) := by
  refine gq_openf (own := RX0) (lv := [(0, .ref a0), (1, .int x1)]) (fun r : Int32 => (some (.int r), gw_Core cA a0 a1 a2 a3 a4 a5 a6 S)) (k_X0_stackAddress S x1) (by decide) rfl rfl (Nat.le_of_ble_eq_true rfl) rfl rfl rfl (fun p e s m args below meth c A X => ?_)
  unfold k_X0_stackAddress
  refine gq_aload_n X dX0_stackAddress_0 0 rfl ?_
  refine gq_get (C := RX0) (T := TX0) (N := 3) X iX0_stackAddress_X0 0 gl_Core_c0 rfl 2 (by decide) fX0_stackAddress_X0_2 rfl dX0_stackAddress_1 ?_
  refine gq_iload_n X dX0_stackAddress_4 1 rfl ?_
  refine gq_callVr (ws' := gw_Core cA a0 a1 a2 a3 a4 a5 a6 S) X (c_X2_get l D cA a5 a6 16 (by decide) S.2.2 x1) rfl ⟨rfl, rfl⟩ ⟨Nat.le_of_ble_eq_true rfl, Nat.le_of_ble_eq_true rfl⟩ gX0_stackAddress_X2_get hv_X2_get 5 rfl rfl [5, 6] gl_Core_5_at gl_Core_5_nd gl_Pile_fst gl_Core_5_same rfl rfl (Nat.le_of_ble_eq_true rfl) ⟨Nat.zero_le _, Nat.zero_le _⟩ dX0_stackAddress_5 ?_
  exact gq_iretf X dX0_stackAddress_8 rfl rfl
theorem iX0_emptyStack_X0 : ∀ w ∈ u_ws RX0 TX0 3, w ∈ wsX0_emptyStack := by decide +kernel
theorem fX0_emptyStack_X0_2 : Cond.fieldLink RX0 26 (TX0 2).1 (TX0 2).2.1 (TX0 2).2.2.1 ∈ wsX0_emptyStack := by decide +kernel
theorem hv_X0_emptyStack : yX0_emptyStack.cls = RX0 ∧ yX0_emptyStack.cls ≠ "java/lang/invoke/MethodHandle" ∧ yX0_emptyStack.cls ≠ "java/lang/invoke/VarHandle" ∧ (parseMethodDescriptor yX0_emptyStack.desc).map (fun d => d.parameters.length) = some 0 := by decide +kernel
def k_X0_emptyStack (S : gs_C) : gs_C :=
  gq_lt ((S.1, S.2.1, k_X2_clear 16 S.2.2)) (fun s1 =>
  s1)
set_option maxHeartbeats 4000000 in
set_option maxRecDepth 100000 in
theorem c_X0_emptyStack (l : Launch) (D : va_G) (cA : ClassId) (a0 a1 a2 a3 a4 a5 a6 : Nat) (S : gs_C)  : gq_C l yX0_emptyStack wsX0_emptyStack ({ frames := 1, cells := 0, slots := 0, locals := 20 } : Room) D cA [.ref a0] (gw_Core cA a0 a1 a2 a3 a4 a5 a6 S) (none) (gw_Core cA a0 a1 a2 a3 a4 a5 a6 (k_X0_emptyStack S)) := by
  refine gq_openf (own := RX0) (lv := [(0, .ref a0)]) (fun r : gs_C => (none, gw_Core cA a0 a1 a2 a3 a4 a5 a6 r)) (k_X0_emptyStack S) (by decide) rfl rfl (Nat.le_of_ble_eq_true rfl) rfl rfl rfl (fun p e s m args below meth c A X => ?_)
  unfold k_X0_emptyStack
  refine gq_aload_n X dX0_emptyStack_0 0 rfl ?_
  refine gq_get (C := RX0) (T := TX0) (N := 3) X iX0_emptyStack_X0 0 gl_Core_c0 rfl 2 (by decide) fX0_emptyStack_X0_2 rfl dX0_emptyStack_1 ?_
  refine gq_letr (fun s1 es1 => ?_)
  refine gq_callVv (ws' := gw_Core cA a0 a1 a2 a3 a4 a5 a6 s1) X (c_X2_clear l D cA a5 a6 16 (by decide) S.2.2) rfl ⟨rfl, rfl⟩ ⟨Nat.le_of_ble_eq_true rfl, Nat.le_of_ble_eq_true rfl⟩ gX0_emptyStack_X2_clear hv_X2_clear 5 rfl rfl [5, 6] gl_Core_5_at gl_Core_5_nd gl_Pile_fst (by rw [es1]; exact gl_Core_5_set) rfl rfl (Nat.le_of_ble_eq_true rfl) ⟨Nat.zero_le _, Nat.zero_le _⟩ dX0_emptyStack_4 ?_
  exact gq_vretf X dX0_emptyStack_7 rfl rfl
theorem iX0_turns_X0 : ∀ w ∈ u_ws RX0 TX0 3, w ∈ wsX0_turns := by decide +kernel
theorem fX0_turns_X0_0 : Cond.fieldLink RX0 14 (TX0 0).1 (TX0 0).2.1 (TX0 0).2.2.1 ∈ wsX0_turns := by decide +kernel
theorem nX0_turns_X6_isTurn_1 : Cond.initialized yX6_isTurn.cls ∈ wsX0_turns := by decide +kernel
theorem nX0_turns_X6_isTurn_2 : Cond.static yX6_isTurn ∈ wsX0_turns := by decide +kernel
theorem hv_X0_turns : yX0_turns.cls = RX0 ∧ yX0_turns.cls ≠ "java/lang/invoke/MethodHandle" ∧ yX0_turns.cls ≠ "java/lang/invoke/VarHandle" ∧ (parseMethodDescriptor yX0_turns.desc).map (fun d => d.parameters.length) = some 2 := by decide +kernel
def k_X0_turns (S : gs_C × gs_P) (x2 : Int32) : Bool :=
  gq_lt (k_X3_part S.2 x2 0) (fun v1 =>
  gq_lt (k_X5_get 8 S.1.1 (k_X3_part S.2 x2 1)) (fun v2 =>
  gq_lt (k_X5_get 8 S.1.1 (k_X3_part S.2 x2 2)) (fun v3 =>
  if v1 = 5 then
    if v3 ≤ v2 then
      false
    else
      true
  else
    if v1 = 6 then
      if v2 = v3 then
        true
      else
        false
    else
      k_X6_isTurn v1)))
set_option maxHeartbeats 4000000 in
set_option maxRecDepth 100000 in
theorem c_X0_turns (l : Launch) (D : va_G) (cA : ClassId) (a0 a1 a2 a3 a4 a5 a6 a7 a8 a9 : Nat) (S : gs_C × gs_P) (x2 : Int32) : gq_C l yX0_turns wsX0_turns ({ frames := 2, cells := 0, slots := 0, locals := 43 } : Room) D cA [.ref a0, .ref a7, .int x2] (gw_CoreProg cA a0 a1 a2 a3 a4 a5 a6 a7 a8 a9 S) (some (.int (gq_b (k_X0_turns S x2)))) (gw_CoreProg cA a0 a1 a2 a3 a4 a5 a6 a7 a8 a9 S) := by
  refine gq_openf (own := RX0) (lv := [(0, .ref a0), (1, .ref a7), (2, .int x2)]) (fun r : Bool => (some (.int (gq_b r)), gw_CoreProg cA a0 a1 a2 a3 a4 a5 a6 a7 a8 a9 S)) (k_X0_turns S x2) (by decide) rfl rfl (Nat.le_of_ble_eq_true rfl) rfl rfl rfl (fun p e s m args below meth c A X => ?_)
  unfold k_X0_turns
  refine gq_aload_n X dX0_turns_0 1 rfl ?_
  refine gq_iload_n X dX0_turns_1 2 rfl ?_
  refine gq_iconst (v := 0) X dX0_turns_2 gq_i0 ?_
  refine gq_callVr (ws' := gw_CoreProg cA a0 a1 a2 a3 a4 a5 a6 a7 a8 a9 S) X (c_X3_part l D cA a7 a8 a9 S.2 x2 0) rfl ⟨rfl, rfl⟩ ⟨Nat.le_of_ble_eq_true rfl, Nat.le_of_ble_eq_true rfl⟩ gX0_turns_X3_part hv_X3_part 7 rfl rfl [7, 8, 9] gl_CoreProg_7_at gl_CoreProg_7_nd gl_Prog_fst gl_CoreProg_7_same rfl rfl (Nat.le_of_ble_eq_true rfl) ⟨Nat.zero_le _, Nat.zero_le _⟩ dX0_turns_3 ?_
  refine gq_letr (fun v1 ev1 => ?_)
  refine gq_eqst (st' := .int v1 :: _) (by rw [ev1]) ?_
  refine gq_istore_n (lv' := [(3, .int v1), (0, .ref a0), (1, .ref a7), (2, .int x2)]) X dX0_turns_6 (by decide) rfl ?_
  refine gq_aload_n X dX0_turns_7 1 rfl ?_
  refine gq_get (C := RX0) (T := TX0) (N := 3) X iX0_turns_X0 0 gl_CoreProg_c0 rfl 0 (by decide) fX0_turns_X0_0 rfl dX0_turns_8 ?_
  refine gq_aload_n X dX0_turns_11 2 rfl ?_
  refine gq_iload_n X dX0_turns_12 3 rfl ?_
  refine gq_iconst (v := 1) X dX0_turns_13 gq_i1 ?_
  refine gq_callVr (ws' := gw_CoreProg cA a0 a1 a2 a3 a4 a5 a6 a7 a8 a9 S) X (c_X3_part l D cA a7 a8 a9 S.2 x2 1) rfl ⟨rfl, rfl⟩ ⟨Nat.le_of_ble_eq_true rfl, Nat.le_of_ble_eq_true rfl⟩ gX0_turns_X3_part hv_X3_part 7 rfl rfl [7, 8, 9] gl_CoreProg_7_at gl_CoreProg_7_nd gl_Prog_fst gl_CoreProg_7_same rfl rfl (Nat.le_of_ble_eq_true rfl) ⟨Nat.zero_le _, Nat.zero_le _⟩ dX0_turns_14 ?_
  refine gq_callVr (ws' := gw_CoreProg cA a0 a1 a2 a3 a4 a5 a6 a7 a8 a9 S) X (c_X5_get l D cA a1 a2 8 (by decide) S.1.1 (k_X3_part S.2 x2 1)) rfl ⟨rfl, rfl⟩ ⟨Nat.le_of_ble_eq_true rfl, Nat.le_of_ble_eq_true rfl⟩ gX0_turns_X5_get hv_X5_get 1 rfl rfl [1, 2] gl_CoreProg_1_at gl_CoreProg_1_nd gl_Row_fst gl_CoreProg_1_same rfl rfl (Nat.le_of_ble_eq_true rfl) ⟨Nat.zero_le _, Nat.zero_le _⟩ dX0_turns_17 ?_
  refine gq_letr (fun v2 ev2 => ?_)
  refine gq_eqst (st' := .int v2 :: _) (by rw [ev2]) ?_
  refine gq_istore (lv' := [(4, .int v2), (3, .int v1), (0, .ref a0), (1, .ref a7), (2, .int x2)]) X dX0_turns_20 (by decide) rfl ?_
  refine gq_aload_n X dX0_turns_22 2 rfl ?_
  refine gq_get (C := RX0) (T := TX0) (N := 3) X iX0_turns_X0 0 gl_CoreProg_c0 rfl 0 (by decide) fX0_turns_X0_0 rfl dX0_turns_23 ?_
  refine gq_aload_n X dX0_turns_26 3 rfl ?_
  refine gq_iload_n X dX0_turns_27 4 rfl ?_
  refine gq_iconst (v := 2) X dX0_turns_28 gq_i2 ?_
  refine gq_callVr (ws' := gw_CoreProg cA a0 a1 a2 a3 a4 a5 a6 a7 a8 a9 S) X (c_X3_part l D cA a7 a8 a9 S.2 x2 2) rfl ⟨rfl, rfl⟩ ⟨Nat.le_of_ble_eq_true rfl, Nat.le_of_ble_eq_true rfl⟩ gX0_turns_X3_part hv_X3_part 7 rfl rfl [7, 8, 9] gl_CoreProg_7_at gl_CoreProg_7_nd gl_Prog_fst gl_CoreProg_7_same rfl rfl (Nat.le_of_ble_eq_true rfl) ⟨Nat.zero_le _, Nat.zero_le _⟩ dX0_turns_29 ?_
  refine gq_callVr (ws' := gw_CoreProg cA a0 a1 a2 a3 a4 a5 a6 a7 a8 a9 S) X (c_X5_get l D cA a1 a2 8 (by decide) S.1.1 (k_X3_part S.2 x2 2)) rfl ⟨rfl, rfl⟩ ⟨Nat.le_of_ble_eq_true rfl, Nat.le_of_ble_eq_true rfl⟩ gX0_turns_X5_get hv_X5_get 1 rfl rfl [1, 2] gl_CoreProg_1_at gl_CoreProg_1_nd gl_Row_fst gl_CoreProg_1_same rfl rfl (Nat.le_of_ble_eq_true rfl) ⟨Nat.zero_le _, Nat.zero_le _⟩ dX0_turns_32 ?_
  refine gq_letr (fun v3 ev3 => ?_)
  refine gq_eqst (st' := .int v3 :: _) (by rw [ev3]) ?_
  refine gq_istore (lv' := [(5, .int v3), (4, .int v2), (3, .int v1), (0, .ref a0), (1, .ref a7), (2, .int x2)]) X dX0_turns_35 (by decide) rfl ?_
  refine gq_iload_n X dX0_turns_37 2 rfl ?_
  refine gq_ite (fun h38_0 => ?_) (fun h38_0 => ?_)
  · refine gq_lsw (off := 26) (tgt := 64) X dX0_turns_38 (by decide) (by rw [h38_0]; decide) (by decide) ?_
    refine gq_iload X dX0_turns_64 1 rfl ?_
    refine gq_iload X dX0_turns_66 0 rfl ?_
    refine gq_ficmp_ge (tgt := 75) X dX0_turns_68 (by decide) (fun h68 => ?_) (fun h68 => ?_)
    · refine gq_iconst (v := 0) X dX0_turns_75 gq_i0 ?_
      exact gq_zretf (b := false) X dX0_turns_76 rfl rfl rfl
    · refine gq_iconst (v := 1) X dX0_turns_71 gq_i1 ?_
      refine gq_goto (tgt := 76) X dX0_turns_72 (by decide) ?_
      exact gq_zretf (b := true) X dX0_turns_76 rfl rfl rfl
  · refine gq_ite (fun h38_1 => ?_) (fun h38_1 => ?_)
    · refine gq_lsw (off := 39) (tgt := 77) X dX0_turns_38 (by decide) (by rw [h38_1]; decide) (by decide) ?_
      refine gq_iload X dX0_turns_77 1 rfl ?_
      refine gq_iload X dX0_turns_79 0 rfl ?_
      refine gq_ficmp_ne (tgt := 88) X dX0_turns_81 (by decide) (fun h81 => ?_) (fun h81 => ?_)
      · refine gq_iconst (v := 1) X dX0_turns_84 gq_i1 ?_
        refine gq_goto (tgt := 89) X dX0_turns_85 (by decide) ?_
        exact gq_zretf (b := true) X dX0_turns_89 rfl rfl rfl
      · refine gq_iconst (v := 0) X dX0_turns_88 gq_i0 ?_
        exact gq_zretf (b := false) X dX0_turns_89 rfl rfl rfl
    · refine gq_lsw (off := 52) (tgt := 90) X dX0_turns_38 (by decide) (by show Op.lookupswitch.offset [(5, 26), (6, 39)] 52 _ = _; rw [lv_osw h38_0 (show (5 : Int32).toInt = 5 by decide), lv_osw h38_1 (show (6 : Int32).toInt = 6 by decide)]; rfl) (by decide) ?_
      refine gq_iload_n X dX0_turns_90 2 rfl ?_
      refine gq_callSNr (ws' := gw_CoreProg cA a0 a1 a2 a3 a4 a5 a6 a7 a8 a9 S) X (c_X6_isTurn l D cA v1) rfl ⟨rfl, rfl⟩ ⟨Nat.le_of_ble_eq_true rfl, Nat.le_of_ble_eq_true rfl⟩ gX0_turns_X6_isTurn_n51 X.2.2.2.2.2.2.2.1.2.2.2.2.1 nX0_turns_X6_isTurn_1 nX0_turns_X6_isTurn_2 hd_X6_isTurn [] rfl (by decide) rfl rfl rfl rfl (Nat.le_of_ble_eq_true rfl) ⟨Nat.zero_le _, Nat.zero_le _⟩ dX0_turns_91 ?_
      exact gq_zretf (b := (k_X6_isTurn v1)) X dX0_turns_94 rfl rfl rfl
theorem iX0_perform_X0 : ∀ w ∈ u_ws RX0 TX0 3, w ∈ wsX0_perform := by decide +kernel
theorem fX0_perform_X0_0 : Cond.fieldLink RX0 14 (TX0 0).1 (TX0 0).2.1 (TX0 0).2.2.1 ∈ wsX0_perform := by decide +kernel
theorem fX0_perform_X0_1 : Cond.fieldLink RX0 20 (TX0 1).1 (TX0 1).2.1 (TX0 1).2.2.1 ∈ wsX0_perform := by decide +kernel
theorem fX0_perform_X0_2 : Cond.fieldLink RX0 26 (TX0 2).1 (TX0 2).2.1 (TX0 2).2.2.1 ∈ wsX0_perform := by decide +kernel
theorem kX0_perform_62 : Cond.constant RX0 62 2147483647 ∈ wsX0_perform := by decide +kernel
theorem hv_X0_perform : yX0_perform.cls = RX0 ∧ yX0_perform.cls ≠ "java/lang/invoke/MethodHandle" ∧ yX0_perform.cls ≠ "java/lang/invoke/VarHandle" ∧ (parseMethodDescriptor yX0_perform.desc).map (fun d => d.parameters.length) = some 2 := by decide +kernel
def k_X0_perform (S : gs_C × gs_P) (x2 : Int32) : Int32 × (gs_C × gs_P) :=
  gq_lt (k_X3_part S.2 x2 1) (fun v1 =>
  gq_lt (k_X3_part S.2 x2 3) (fun v2 =>
  gq_lt (k_X5_get 8 S.1.1 v1) (fun v3 =>
  gq_lt (k_X5_get 8 S.1.1 (k_X3_part S.2 x2 2)) (fun v4 =>
  if k_X3_part S.2 x2 0 = 0 then
    gq_lt (k_X5_set 8 S.1.1 v1 v2) (fun r5 =>
    gq_lt (((r5.2, S.1.2.1, S.1.2.2), S.2)) (fun s6 =>
    (x2 + 1, s6)))
  else
    if k_X3_part S.2 x2 0 = 1 then
      gq_lt (k_X5_set 8 S.1.1 v1 (v3 + v4)) (fun r7 =>
      gq_lt (((r7.2, S.1.2.1, S.1.2.2), S.2)) (fun s8 =>
      (x2 + 1, s8)))
    else
      if k_X3_part S.2 x2 0 = 2 then
        gq_lt (k_X5_set 8 S.1.1 v1 (v3 - v4)) (fun r9 =>
        gq_lt (((r9.2, S.1.2.1, S.1.2.2), S.2)) (fun s10 =>
        (x2 + 1, s10)))
      else
        if k_X3_part S.2 x2 0 = 3 then
          gq_lt (k_X5_set 8 S.1.1 v1 (k_X5_get 16 S.1.2.1 (v4 &&& 15))) (fun r11 =>
          gq_lt (((r11.2, S.1.2.1, S.1.2.2), S.2)) (fun s12 =>
          (x2 + 1, s12)))
        else
          if k_X3_part S.2 x2 0 = 4 then
            gq_lt (k_X5_set 16 S.1.2.1 (v4 &&& 15) v3) (fun r13 =>
            gq_lt (((S.1.1, r13.2, S.1.2.2), S.2)) (fun s14 =>
            (x2 + 1, s14)))
          else
            if k_X3_part S.2 x2 0 = 5 then
              if v4 ≤ v3 then
                (x2 + 1, S)
              else
                (v2, S)
            else
              if k_X3_part S.2 x2 0 = 6 then
                if v3 = v4 then
                  (v2, S)
                else
                  (x2 + 1, S)
              else
                if k_X3_part S.2 x2 0 = 7 then
                  (v2, S)
                else
                  if k_X3_part S.2 x2 0 = 8 then
                    gq_lt (k_X2_push 16 S.1.2.2 (x2 + 1)) (fun r15 =>
                    gq_lt (((S.1.1, S.1.2.1, r15.2), S.2)) (fun s16 =>
                    if r15.1 = true then
                      (v2, s16)
                    else
                      ((-1), s16)))
                  else
                    if k_X3_part S.2 x2 0 = 9 then
                      gq_lt (k_X2_pop 16 S.1.2.2) (fun r17 =>
                      gq_lt (((S.1.1, S.1.2.1, r17.2), S.2)) (fun s18 =>
                      (r17.1, s18)))
                    else
                      if k_X3_part S.2 x2 0 = 10 then
                        if k_X3_size S.2 ≤ 0 then
                          ((-1), S)
                        else
                          (gq_rem (v3 &&& 2147483647) (k_X3_size S.2), S)
                      else
                        (x2 + 1, S)))))
set_option maxHeartbeats 4000000 in
set_option maxRecDepth 100000 in
theorem c_X0_perform (l : Launch) (D : va_G) (cA : ClassId) (a0 a1 a2 a3 a4 a5 a6 a7 a8 a9 : Nat) (S : gs_C × gs_P) (x2 : Int32) : gq_C l yX0_perform wsX0_perform ({ frames := 3, cells := 0, slots := 0, locals := 63 } : Room) D cA [.ref a0, .ref a7, .int x2] (gw_CoreProg cA a0 a1 a2 a3 a4 a5 a6 a7 a8 a9 S) (some (.int (k_X0_perform S x2).1)) (gw_CoreProg cA a0 a1 a2 a3 a4 a5 a6 a7 a8 a9 ((k_X0_perform S x2).2)) := by
  refine gq_openf (own := RX0) (lv := [(0, .ref a0), (1, .ref a7), (2, .int x2)]) (fun r : Int32 × (gs_C × gs_P) => (some (.int r.1), gw_CoreProg cA a0 a1 a2 a3 a4 a5 a6 a7 a8 a9 r.2)) (k_X0_perform S x2) (by decide) rfl rfl (Nat.le_of_ble_eq_true rfl) rfl rfl rfl (fun p e s m args below meth c A X => ?_)
  unfold k_X0_perform
  refine gq_aload_n X dX0_perform_0 1 rfl ?_
  refine gq_iload_n X dX0_perform_1 2 rfl ?_
  refine gq_iconst (v := 1) X dX0_perform_2 gq_i1 ?_
  refine gq_callVr (ws' := gw_CoreProg cA a0 a1 a2 a3 a4 a5 a6 a7 a8 a9 S) X (c_X3_part l D cA a7 a8 a9 S.2 x2 1) rfl ⟨rfl, rfl⟩ ⟨Nat.le_of_ble_eq_true rfl, Nat.le_of_ble_eq_true rfl⟩ gX0_perform_X3_part hv_X3_part 7 rfl rfl [7, 8, 9] gl_CoreProg_7_at gl_CoreProg_7_nd gl_Prog_fst gl_CoreProg_7_same rfl rfl (Nat.le_of_ble_eq_true rfl) ⟨Nat.zero_le _, Nat.zero_le _⟩ dX0_perform_3 ?_
  refine gq_letr (fun v1 ev1 => ?_)
  refine gq_eqst (st' := .int v1 :: _) (by rw [ev1]) ?_
  refine gq_istore_n (lv' := [(3, .int v1), (0, .ref a0), (1, .ref a7), (2, .int x2)]) X dX0_perform_6 (by decide) rfl ?_
  refine gq_aload_n X dX0_perform_7 2 rfl ?_
  refine gq_iload_n X dX0_perform_8 3 rfl ?_
  refine gq_iconst (v := 3) X dX0_perform_9 gq_i3 ?_
  refine gq_callVr (ws' := gw_CoreProg cA a0 a1 a2 a3 a4 a5 a6 a7 a8 a9 S) X (c_X3_part l D cA a7 a8 a9 S.2 x2 3) rfl ⟨rfl, rfl⟩ ⟨Nat.le_of_ble_eq_true rfl, Nat.le_of_ble_eq_true rfl⟩ gX0_perform_X3_part hv_X3_part 7 rfl rfl [7, 8, 9] gl_CoreProg_7_at gl_CoreProg_7_nd gl_Prog_fst gl_CoreProg_7_same rfl rfl (Nat.le_of_ble_eq_true rfl) ⟨Nat.zero_le _, Nat.zero_le _⟩ dX0_perform_10 ?_
  refine gq_letr (fun v2 ev2 => ?_)
  refine gq_eqst (st' := .int v2 :: _) (by rw [ev2]) ?_
  refine gq_istore (lv' := [(4, .int v2), (3, .int v1), (0, .ref a0), (1, .ref a7), (2, .int x2)]) X dX0_perform_13 (by decide) rfl ?_
  refine gq_aload_n X dX0_perform_15 2 rfl ?_
  refine gq_get (C := RX0) (T := TX0) (N := 3) X iX0_perform_X0 0 gl_CoreProg_c0 rfl 0 (by decide) fX0_perform_X0_0 rfl dX0_perform_16 ?_
  refine gq_iload_n X dX0_perform_19 1 rfl ?_
  refine gq_callVr (ws' := gw_CoreProg cA a0 a1 a2 a3 a4 a5 a6 a7 a8 a9 S) X (c_X5_get l D cA a1 a2 8 (by decide) S.1.1 v1) rfl ⟨rfl, rfl⟩ ⟨Nat.le_of_ble_eq_true rfl, Nat.le_of_ble_eq_true rfl⟩ gX0_perform_X5_get hv_X5_get 1 rfl rfl [1, 2] gl_CoreProg_1_at gl_CoreProg_1_nd gl_Row_fst gl_CoreProg_1_same rfl rfl (Nat.le_of_ble_eq_true rfl) ⟨Nat.zero_le _, Nat.zero_le _⟩ dX0_perform_20 ?_
  refine gq_letr (fun v3 ev3 => ?_)
  refine gq_eqst (st' := .int v3 :: _) (by rw [ev3]) ?_
  refine gq_istore (lv' := [(5, .int v3), (4, .int v2), (3, .int v1), (0, .ref a0), (1, .ref a7), (2, .int x2)]) X dX0_perform_23 (by decide) rfl ?_
  refine gq_aload_n X dX0_perform_25 3 rfl ?_
  refine gq_get (C := RX0) (T := TX0) (N := 3) X iX0_perform_X0 0 gl_CoreProg_c0 rfl 0 (by decide) fX0_perform_X0_0 rfl dX0_perform_26 ?_
  refine gq_aload_n X dX0_perform_29 4 rfl ?_
  refine gq_iload_n X dX0_perform_30 5 rfl ?_
  refine gq_iconst (v := 2) X dX0_perform_31 gq_i2 ?_
  refine gq_callVr (ws' := gw_CoreProg cA a0 a1 a2 a3 a4 a5 a6 a7 a8 a9 S) X (c_X3_part l D cA a7 a8 a9 S.2 x2 2) rfl ⟨rfl, rfl⟩ ⟨Nat.le_of_ble_eq_true rfl, Nat.le_of_ble_eq_true rfl⟩ gX0_perform_X3_part hv_X3_part 7 rfl rfl [7, 8, 9] gl_CoreProg_7_at gl_CoreProg_7_nd gl_Prog_fst gl_CoreProg_7_same rfl rfl (Nat.le_of_ble_eq_true rfl) ⟨Nat.zero_le _, Nat.zero_le _⟩ dX0_perform_32 ?_
  refine gq_callVr (ws' := gw_CoreProg cA a0 a1 a2 a3 a4 a5 a6 a7 a8 a9 S) X (c_X5_get l D cA a1 a2 8 (by decide) S.1.1 (k_X3_part S.2 x2 2)) rfl ⟨rfl, rfl⟩ ⟨Nat.le_of_ble_eq_true rfl, Nat.le_of_ble_eq_true rfl⟩ gX0_perform_X5_get hv_X5_get 1 rfl rfl [1, 2] gl_CoreProg_1_at gl_CoreProg_1_nd gl_Row_fst gl_CoreProg_1_same rfl rfl (Nat.le_of_ble_eq_true rfl) ⟨Nat.zero_le _, Nat.zero_le _⟩ dX0_perform_35 ?_
  refine gq_letr (fun v4 ev4 => ?_)
  refine gq_eqst (st' := .int v4 :: _) (by rw [ev4]) ?_
  refine gq_istore (lv' := [(6, .int v4), (5, .int v3), (4, .int v2), (3, .int v1), (0, .ref a0), (1, .ref a7), (2, .int x2)]) X dX0_perform_38 (by decide) rfl ?_
  refine gq_aload_n X dX0_perform_40 5 rfl ?_
  refine gq_iload_n X dX0_perform_41 6 rfl ?_
  refine gq_iconst (v := 0) X dX0_perform_42 gq_i0 ?_
  refine gq_callVr (ws' := gw_CoreProg cA a0 a1 a2 a3 a4 a5 a6 a7 a8 a9 S) X (c_X3_part l D cA a7 a8 a9 S.2 x2 0) rfl ⟨rfl, rfl⟩ ⟨Nat.le_of_ble_eq_true rfl, Nat.le_of_ble_eq_true rfl⟩ gX0_perform_X3_part hv_X3_part 7 rfl rfl [7, 8, 9] gl_CoreProg_7_at gl_CoreProg_7_nd gl_Prog_fst gl_CoreProg_7_same rfl rfl (Nat.le_of_ble_eq_true rfl) ⟨Nat.zero_le _, Nat.zero_le _⟩ dX0_perform_43 ?_
  refine gq_ite (fun h46_0 => ?_) (fun h46_0 => ?_)
  · refine gq_tin (k := 0) (off := 58) (tgt := 104) X dX0_perform_46 h46_0 (by decide) (by decide) (by decide) (by decide) ?_
    refine gq_aload_n X dX0_perform_104 4 rfl ?_
    refine gq_get (C := RX0) (T := TX0) (N := 3) X iX0_perform_X0 0 gl_CoreProg_c0 rfl 0 (by decide) fX0_perform_X0_0 rfl dX0_perform_105 ?_
    refine gq_iload_n X dX0_perform_108 3 rfl ?_
    refine gq_iload X dX0_perform_109 2 rfl ?_
    refine gq_letr (fun r5 er5 => ?_)
    refine gq_letr (fun s6 es6 => ?_)
    refine gq_callVr (ws' := gw_CoreProg cA a0 a1 a2 a3 a4 a5 a6 a7 a8 a9 s6) X (gq_Ceq (res2 := some (Value.int r5.1)) (w2 := gw_Row cA a1 a2 8 r5.2) (c_X5_set l D cA a1 a2 8 (by decide) S.1.1 v1 v2) (by rw [er5]) (by rw [er5])) rfl ⟨rfl, rfl⟩ ⟨Nat.le_of_ble_eq_true rfl, Nat.le_of_ble_eq_true rfl⟩ gX0_perform_X5_set hv_X5_set 1 rfl rfl [1, 2] gl_CoreProg_1_at gl_CoreProg_1_nd gl_Row_fst (by rw [es6]; exact gl_CoreProg_1_set) rfl rfl (Nat.le_of_ble_eq_true rfl) ⟨Nat.zero_le _, Nat.zero_le _⟩ dX0_perform_111 ?_
    refine gq_pop X dX0_perform_114 rfl ?_
    refine gq_goto (tgt := 279) X dX0_perform_115 (by decide) ?_
    refine gq_iload_n X dX0_perform_279 6 rfl ?_
    refine gq_iconst (v := 1) X dX0_perform_280 gq_i1 ?_
    refine gq_iadd X dX0_perform_281 ?_
    exact gq_iretf X dX0_perform_282 rfl rfl
  · refine gq_ite (fun h46_1 => ?_) (fun h46_1 => ?_)
    · refine gq_tin (k := 1) (off := 72) (tgt := 118) X dX0_perform_46 h46_1 (by decide) (by decide) (by decide) (by decide) ?_
      refine gq_aload_n X dX0_perform_118 4 rfl ?_
      refine gq_get (C := RX0) (T := TX0) (N := 3) X iX0_perform_X0 0 gl_CoreProg_c0 rfl 0 (by decide) fX0_perform_X0_0 rfl dX0_perform_119 ?_
      refine gq_iload_n X dX0_perform_122 3 rfl ?_
      refine gq_iload X dX0_perform_123 1 rfl ?_
      refine gq_iload X dX0_perform_125 0 rfl ?_
      refine gq_iadd X dX0_perform_127 ?_
      refine gq_letr (fun r7 er7 => ?_)
      refine gq_letr (fun s8 es8 => ?_)
      refine gq_callVr (ws' := gw_CoreProg cA a0 a1 a2 a3 a4 a5 a6 a7 a8 a9 s8) X (gq_Ceq (res2 := some (Value.int r7.1)) (w2 := gw_Row cA a1 a2 8 r7.2) (c_X5_set l D cA a1 a2 8 (by decide) S.1.1 v1 (v3 + v4)) (by rw [er7]) (by rw [er7])) rfl ⟨rfl, rfl⟩ ⟨Nat.le_of_ble_eq_true rfl, Nat.le_of_ble_eq_true rfl⟩ gX0_perform_X5_set hv_X5_set 1 rfl rfl [1, 2] gl_CoreProg_1_at gl_CoreProg_1_nd gl_Row_fst (by rw [es8]; exact gl_CoreProg_1_set) rfl rfl (Nat.le_of_ble_eq_true rfl) ⟨Nat.zero_le _, Nat.zero_le _⟩ dX0_perform_128 ?_
      refine gq_pop X dX0_perform_131 rfl ?_
      refine gq_goto (tgt := 279) X dX0_perform_132 (by decide) ?_
      refine gq_iload_n X dX0_perform_279 6 rfl ?_
      refine gq_iconst (v := 1) X dX0_perform_280 gq_i1 ?_
      refine gq_iadd X dX0_perform_281 ?_
      exact gq_iretf X dX0_perform_282 rfl rfl
    · refine gq_ite (fun h46_2 => ?_) (fun h46_2 => ?_)
      · refine gq_tin (k := 2) (off := 89) (tgt := 135) X dX0_perform_46 h46_2 (by decide) (by decide) (by decide) (by decide) ?_
        refine gq_aload_n X dX0_perform_135 4 rfl ?_
        refine gq_get (C := RX0) (T := TX0) (N := 3) X iX0_perform_X0 0 gl_CoreProg_c0 rfl 0 (by decide) fX0_perform_X0_0 rfl dX0_perform_136 ?_
        refine gq_iload_n X dX0_perform_139 3 rfl ?_
        refine gq_iload X dX0_perform_140 1 rfl ?_
        refine gq_iload X dX0_perform_142 0 rfl ?_
        refine gq_isub X dX0_perform_144 ?_
        refine gq_letr (fun r9 er9 => ?_)
        refine gq_letr (fun s10 es10 => ?_)
        refine gq_callVr (ws' := gw_CoreProg cA a0 a1 a2 a3 a4 a5 a6 a7 a8 a9 s10) X (gq_Ceq (res2 := some (Value.int r9.1)) (w2 := gw_Row cA a1 a2 8 r9.2) (c_X5_set l D cA a1 a2 8 (by decide) S.1.1 v1 (v3 - v4)) (by rw [er9]) (by rw [er9])) rfl ⟨rfl, rfl⟩ ⟨Nat.le_of_ble_eq_true rfl, Nat.le_of_ble_eq_true rfl⟩ gX0_perform_X5_set hv_X5_set 1 rfl rfl [1, 2] gl_CoreProg_1_at gl_CoreProg_1_nd gl_Row_fst (by rw [es10]; exact gl_CoreProg_1_set) rfl rfl (Nat.le_of_ble_eq_true rfl) ⟨Nat.zero_le _, Nat.zero_le _⟩ dX0_perform_145 ?_
        refine gq_pop X dX0_perform_148 rfl ?_
        refine gq_goto (tgt := 279) X dX0_perform_149 (by decide) ?_
        refine gq_iload_n X dX0_perform_279 6 rfl ?_
        refine gq_iconst (v := 1) X dX0_perform_280 gq_i1 ?_
        refine gq_iadd X dX0_perform_281 ?_
        exact gq_iretf X dX0_perform_282 rfl rfl
      · refine gq_ite (fun h46_3 => ?_) (fun h46_3 => ?_)
        · refine gq_tin (k := 3) (off := 106) (tgt := 152) X dX0_perform_46 h46_3 (by decide) (by decide) (by decide) (by decide) ?_
          refine gq_aload_n X dX0_perform_152 4 rfl ?_
          refine gq_get (C := RX0) (T := TX0) (N := 3) X iX0_perform_X0 0 gl_CoreProg_c0 rfl 0 (by decide) fX0_perform_X0_0 rfl dX0_perform_153 ?_
          refine gq_iload_n X dX0_perform_156 3 rfl ?_
          refine gq_aload_n X dX0_perform_157 4 rfl ?_
          refine gq_get (C := RX0) (T := TX0) (N := 3) X iX0_perform_X0 0 gl_CoreProg_c0 rfl 1 (by decide) fX0_perform_X0_1 rfl dX0_perform_158 ?_
          refine gq_iload X dX0_perform_161 0 rfl ?_
          refine gq_bipush (v := 15) X dX0_perform_163 (by decide) ?_
          refine gq_iand X dX0_perform_165 ?_
          refine gq_callVr (ws' := gw_CoreProg cA a0 a1 a2 a3 a4 a5 a6 a7 a8 a9 S) X (c_X5_get l D cA a3 a4 16 (by decide) S.1.2.1 (v4 &&& 15)) rfl ⟨rfl, rfl⟩ ⟨Nat.le_of_ble_eq_true rfl, Nat.le_of_ble_eq_true rfl⟩ gX0_perform_X5_get hv_X5_get 3 rfl rfl [3, 4] gl_CoreProg_3_at gl_CoreProg_3_nd gl_Row_fst gl_CoreProg_3_same rfl rfl (Nat.le_of_ble_eq_true rfl) ⟨Nat.zero_le _, Nat.zero_le _⟩ dX0_perform_166 ?_
          refine gq_letr (fun r11 er11 => ?_)
          refine gq_letr (fun s12 es12 => ?_)
          refine gq_callVr (ws' := gw_CoreProg cA a0 a1 a2 a3 a4 a5 a6 a7 a8 a9 s12) X (gq_Ceq (res2 := some (Value.int r11.1)) (w2 := gw_Row cA a1 a2 8 r11.2) (c_X5_set l D cA a1 a2 8 (by decide) S.1.1 v1 (k_X5_get 16 S.1.2.1 (v4 &&& 15))) (by rw [er11]) (by rw [er11])) rfl ⟨rfl, rfl⟩ ⟨Nat.le_of_ble_eq_true rfl, Nat.le_of_ble_eq_true rfl⟩ gX0_perform_X5_set hv_X5_set 1 rfl rfl [1, 2] gl_CoreProg_1_at gl_CoreProg_1_nd gl_Row_fst (by rw [es12]; exact gl_CoreProg_1_set) rfl rfl (Nat.le_of_ble_eq_true rfl) ⟨Nat.zero_le _, Nat.zero_le _⟩ dX0_perform_169 ?_
          refine gq_pop X dX0_perform_172 rfl ?_
          refine gq_goto (tgt := 279) X dX0_perform_173 (by decide) ?_
          refine gq_iload_n X dX0_perform_279 6 rfl ?_
          refine gq_iconst (v := 1) X dX0_perform_280 gq_i1 ?_
          refine gq_iadd X dX0_perform_281 ?_
          exact gq_iretf X dX0_perform_282 rfl rfl
        · refine gq_ite (fun h46_4 => ?_) (fun h46_4 => ?_)
          · refine gq_tin (k := 4) (off := 130) (tgt := 176) X dX0_perform_46 h46_4 (by decide) (by decide) (by decide) (by decide) ?_
            refine gq_aload_n X dX0_perform_176 4 rfl ?_
            refine gq_get (C := RX0) (T := TX0) (N := 3) X iX0_perform_X0 0 gl_CoreProg_c0 rfl 1 (by decide) fX0_perform_X0_1 rfl dX0_perform_177 ?_
            refine gq_iload X dX0_perform_180 0 rfl ?_
            refine gq_bipush (v := 15) X dX0_perform_182 (by decide) ?_
            refine gq_iand X dX0_perform_184 ?_
            refine gq_iload X dX0_perform_185 1 rfl ?_
            refine gq_letr (fun r13 er13 => ?_)
            refine gq_letr (fun s14 es14 => ?_)
            refine gq_callVr (ws' := gw_CoreProg cA a0 a1 a2 a3 a4 a5 a6 a7 a8 a9 s14) X (gq_Ceq (res2 := some (Value.int r13.1)) (w2 := gw_Row cA a3 a4 16 r13.2) (c_X5_set l D cA a3 a4 16 (by decide) S.1.2.1 (v4 &&& 15) v3) (by rw [er13]) (by rw [er13])) rfl ⟨rfl, rfl⟩ ⟨Nat.le_of_ble_eq_true rfl, Nat.le_of_ble_eq_true rfl⟩ gX0_perform_X5_set hv_X5_set 3 rfl rfl [3, 4] gl_CoreProg_3_at gl_CoreProg_3_nd gl_Row_fst (by rw [es14]; exact gl_CoreProg_3_set) rfl rfl (Nat.le_of_ble_eq_true rfl) ⟨Nat.zero_le _, Nat.zero_le _⟩ dX0_perform_187 ?_
            refine gq_pop X dX0_perform_190 rfl ?_
            refine gq_goto (tgt := 279) X dX0_perform_191 (by decide) ?_
            refine gq_iload_n X dX0_perform_279 6 rfl ?_
            refine gq_iconst (v := 1) X dX0_perform_280 gq_i1 ?_
            refine gq_iadd X dX0_perform_281 ?_
            exact gq_iretf X dX0_perform_282 rfl rfl
          · refine gq_ite (fun h46_5 => ?_) (fun h46_5 => ?_)
            · refine gq_tin (k := 5) (off := 148) (tgt := 194) X dX0_perform_46 h46_5 (by decide) (by decide) (by decide) (by decide) ?_
              refine gq_iload X dX0_perform_194 1 rfl ?_
              refine gq_iload X dX0_perform_196 0 rfl ?_
              refine gq_ficmp_ge (tgt := 206) X dX0_perform_198 (by decide) (fun h198 => ?_) (fun h198 => ?_)
              · refine gq_iload_n X dX0_perform_206 6 rfl ?_
                refine gq_iconst (v := 1) X dX0_perform_207 gq_i1 ?_
                refine gq_iadd X dX0_perform_208 ?_
                exact gq_iretf X dX0_perform_209 rfl rfl
              · refine gq_iload X dX0_perform_201 2 rfl ?_
                refine gq_goto (tgt := 209) X dX0_perform_203 (by decide) ?_
                exact gq_iretf X dX0_perform_209 rfl rfl
            · refine gq_ite (fun h46_6 => ?_) (fun h46_6 => ?_)
              · refine gq_tin (k := 6) (off := 164) (tgt := 210) X dX0_perform_46 h46_6 (by decide) (by decide) (by decide) (by decide) ?_
                refine gq_iload X dX0_perform_210 1 rfl ?_
                refine gq_iload X dX0_perform_212 0 rfl ?_
                refine gq_ficmp_ne (tgt := 222) X dX0_perform_214 (by decide) (fun h214 => ?_) (fun h214 => ?_)
                · refine gq_iload X dX0_perform_217 2 rfl ?_
                  refine gq_goto (tgt := 225) X dX0_perform_219 (by decide) ?_
                  exact gq_iretf X dX0_perform_225 rfl rfl
                · refine gq_iload_n X dX0_perform_222 6 rfl ?_
                  refine gq_iconst (v := 1) X dX0_perform_223 gq_i1 ?_
                  refine gq_iadd X dX0_perform_224 ?_
                  exact gq_iretf X dX0_perform_225 rfl rfl
              · refine gq_ite (fun h46_7 => ?_) (fun h46_7 => ?_)
                · refine gq_tin (k := 7) (off := 180) (tgt := 226) X dX0_perform_46 h46_7 (by decide) (by decide) (by decide) (by decide) ?_
                  refine gq_iload X dX0_perform_226 2 rfl ?_
                  exact gq_iretf X dX0_perform_228 rfl rfl
                · refine gq_ite (fun h46_8 => ?_) (fun h46_8 => ?_)
                  · refine gq_tin (k := 8) (off := 183) (tgt := 229) X dX0_perform_46 h46_8 (by decide) (by decide) (by decide) (by decide) ?_
                    refine gq_aload_n X dX0_perform_229 4 rfl ?_
                    refine gq_get (C := RX0) (T := TX0) (N := 3) X iX0_perform_X0 0 gl_CoreProg_c0 rfl 2 (by decide) fX0_perform_X0_2 rfl dX0_perform_230 ?_
                    refine gq_iload_n X dX0_perform_233 6 rfl ?_
                    refine gq_iconst (v := 1) X dX0_perform_234 gq_i1 ?_
                    refine gq_iadd X dX0_perform_235 ?_
                    refine gq_letr (fun r15 er15 => ?_)
                    refine gq_letr (fun s16 es16 => ?_)
                    refine gq_callVr (ws' := gw_CoreProg cA a0 a1 a2 a3 a4 a5 a6 a7 a8 a9 s16) X (gq_Ceq (res2 := some (Value.int (gq_b r15.1))) (w2 := gw_Pile cA a5 a6 16 r15.2) (c_X2_push l D cA a5 a6 16 (by decide) S.1.2.2 (x2 + 1)) (by rw [er15]) (by rw [er15])) rfl ⟨rfl, rfl⟩ ⟨Nat.le_of_ble_eq_true rfl, Nat.le_of_ble_eq_true rfl⟩ gX0_perform_X2_push hv_X2_push 5 rfl rfl [5, 6] gl_CoreProg_5_at gl_CoreProg_5_nd gl_Pile_fst (by rw [es16]; exact gl_CoreProg_5_set) rfl rfl (Nat.le_of_ble_eq_true rfl) ⟨Nat.zero_le _, Nat.zero_le _⟩ dX0_perform_236 ?_
                    refine gq_fbif_eq (tgt := 247) X dX0_perform_239 (by decide) (fun h239 => ?_) (fun h239 => ?_)
                    · refine gq_iload X dX0_perform_242 2 rfl ?_
                      refine gq_goto (tgt := 248) X dX0_perform_244 (by decide) ?_
                      exact gq_iretf X dX0_perform_248 rfl rfl
                    · refine gq_iconst (v := (-1)) X dX0_perform_247 gq_im1 ?_
                      exact gq_iretf X dX0_perform_248 rfl rfl
                  · refine gq_ite (fun h46_9 => ?_) (fun h46_9 => ?_)
                    · refine gq_tin (k := 9) (off := 203) (tgt := 249) X dX0_perform_46 h46_9 (by decide) (by decide) (by decide) (by decide) ?_
                      refine gq_aload_n X dX0_perform_249 4 rfl ?_
                      refine gq_get (C := RX0) (T := TX0) (N := 3) X iX0_perform_X0 0 gl_CoreProg_c0 rfl 2 (by decide) fX0_perform_X0_2 rfl dX0_perform_250 ?_
                      refine gq_letr (fun r17 er17 => ?_)
                      refine gq_letr (fun s18 es18 => ?_)
                      refine gq_callVr (ws' := gw_CoreProg cA a0 a1 a2 a3 a4 a5 a6 a7 a8 a9 s18) X (gq_Ceq (res2 := some (Value.int r17.1)) (w2 := gw_Pile cA a5 a6 16 r17.2) (c_X2_pop l D cA a5 a6 16 (by decide) S.1.2.2) (by rw [er17]) (by rw [er17])) rfl ⟨rfl, rfl⟩ ⟨Nat.le_of_ble_eq_true rfl, Nat.le_of_ble_eq_true rfl⟩ gX0_perform_X2_pop hv_X2_pop 5 rfl rfl [5, 6] gl_CoreProg_5_at gl_CoreProg_5_nd gl_Pile_fst (by rw [es18]; exact gl_CoreProg_5_set) rfl rfl (Nat.le_of_ble_eq_true rfl) ⟨Nat.zero_le _, Nat.zero_le _⟩ dX0_perform_253 ?_
                      exact gq_iretf X dX0_perform_256 rfl rfl
                    · refine gq_ite (fun h46_10 => ?_) (fun h46_10 => ?_)
                      · refine gq_tin (k := 10) (off := 211) (tgt := 257) X dX0_perform_46 h46_10 (by decide) (by decide) (by decide) (by decide) ?_
                        refine gq_aload_n X dX0_perform_257 5 rfl ?_
                        refine gq_callVr (ws' := gw_CoreProg cA a0 a1 a2 a3 a4 a5 a6 a7 a8 a9 S) X (c_X3_size l D cA a7 a8 a9 S.2) rfl ⟨rfl, rfl⟩ ⟨Nat.le_of_ble_eq_true rfl, Nat.le_of_ble_eq_true rfl⟩ gX0_perform_X3_size hv_X3_size 7 rfl rfl [7, 8, 9] gl_CoreProg_7_at gl_CoreProg_7_nd gl_Prog_fst gl_CoreProg_7_same rfl rfl (Nat.le_of_ble_eq_true rfl) ⟨Nat.zero_le _, Nat.zero_le _⟩ dX0_perform_258 ?_
                        refine gq_fif_le (tgt := 277) X dX0_perform_261 (by decide) (fun h261 => ?_) (fun h261 => ?_)
                        · refine gq_iconst (v := (-1)) X dX0_perform_277 gq_im1 ?_
                          exact gq_iretf X dX0_perform_278 rfl rfl
                        · refine gq_iload X dX0_perform_264 1 rfl ?_
                          refine gq_ldc (v := 2147483647) X kX0_perform_62 dX0_perform_266 ?_
                          refine gq_iand X dX0_perform_268 ?_
                          refine gq_aload_n X dX0_perform_269 5 rfl ?_
                          refine gq_callVr (ws' := gw_CoreProg cA a0 a1 a2 a3 a4 a5 a6 a7 a8 a9 S) X (c_X3_size l D cA a7 a8 a9 S.2) rfl ⟨rfl, rfl⟩ ⟨Nat.le_of_ble_eq_true rfl, Nat.le_of_ble_eq_true rfl⟩ gX0_perform_X3_size hv_X3_size 7 rfl rfl [7, 8, 9] gl_CoreProg_7_at gl_CoreProg_7_nd gl_Prog_fst gl_CoreProg_7_same rfl rfl (Nat.le_of_ble_eq_true rfl) ⟨Nat.zero_le _, Nat.zero_le _⟩ dX0_perform_270 ?_
                          refine gq_irem X dX0_perform_273 (fun h0 => h261 (by rw [h0]; decide)) ?_
                          refine gq_goto (tgt := 278) X dX0_perform_274 (by decide) ?_
                          exact gq_iretf X dX0_perform_278 rfl rfl
                      · refine gq_tout (tgt := 279) X dX0_perform_46 (by have q0 := lv_neT h46_0 (show (0 : Int32).toInt = 0 by decide); have q1 := lv_neT h46_1 (show (1 : Int32).toInt = 1 by decide); have q2 := lv_neT h46_2 (show (2 : Int32).toInt = 2 by decide); have q3 := lv_neT h46_3 (show (3 : Int32).toInt = 3 by decide); have q4 := lv_neT h46_4 (show (4 : Int32).toInt = 4 by decide); have q5 := lv_neT h46_5 (show (5 : Int32).toInt = 5 by decide); have q6 := lv_neT h46_6 (show (6 : Int32).toInt = 6 by decide); have q7 := lv_neT h46_7 (show (7 : Int32).toInt = 7 by decide); have q8 := lv_neT h46_8 (show (8 : Int32).toInt = 8 by decide); have q9 := lv_neT h46_9 (show (9 : Int32).toInt = 9 by decide); have q10 := lv_neT h46_10 (show (10 : Int32).toInt = 10 by decide); omega) (by decide) ?_
                        refine gq_iload_n X dX0_perform_279 6 rfl ?_
                        refine gq_iconst (v := 1) X dX0_perform_280 gq_i1 ?_
                        refine gq_iadd X dX0_perform_281 ?_
                        exact gq_iretf X dX0_perform_282 rfl rfl
theorem iX1_forgetTables_X1 : ∀ w ∈ u_ws RX1 TX1 8, w ∈ wsX1_forgetTables := by decide +kernel
theorem fX1_forgetTables_X1_0 : Cond.fieldLink RX1 14 (TX1 0).1 (TX1 0).2.1 (TX1 0).2.2.1 ∈ wsX1_forgetTables := by decide +kernel
theorem fX1_forgetTables_X1_1 : Cond.fieldLink RX1 20 (TX1 1).1 (TX1 1).2.1 (TX1 1).2.2.1 ∈ wsX1_forgetTables := by decide +kernel
theorem fX1_forgetTables_X1_2 : Cond.fieldLink RX1 23 (TX1 2).1 (TX1 2).2.1 (TX1 2).2.2.1 ∈ wsX1_forgetTables := by decide +kernel
theorem fX1_forgetTables_X1_3 : Cond.fieldLink RX1 26 (TX1 3).1 (TX1 3).2.1 (TX1 3).2.2.1 ∈ wsX1_forgetTables := by decide +kernel
theorem fX1_forgetTables_X1_4 : Cond.fieldLink RX1 29 (TX1 4).1 (TX1 4).2.1 (TX1 4).2.2.1 ∈ wsX1_forgetTables := by decide +kernel
theorem fX1_forgetTables_X1_5 : Cond.fieldLink RX1 32 (TX1 5).1 (TX1 5).2.1 (TX1 5).2.2.1 ∈ wsX1_forgetTables := by decide +kernel
theorem fX1_forgetTables_X1_7 : Cond.fieldLink RX1 42 (TX1 7).1 (TX1 7).2.1 (TX1 7).2.2.1 ∈ wsX1_forgetTables := by decide +kernel
theorem hv_X1_forgetTables : yX1_forgetTables.cls = RX1 ∧ yX1_forgetTables.cls ≠ "java/lang/invoke/MethodHandle" ∧ yX1_forgetTables.cls ≠ "java/lang/invoke/VarHandle" ∧ (parseMethodDescriptor yX1_forgetTables.desc).map (fun d => d.parameters.length) = some 0 := by decide +kernel
def k_X1_forgetTables (S : gs_U) : gs_U :=
  gq_lt ((k_X5_fill 16 S.1 1, S.2.1, S.2.2.1, S.2.2.2.1, S.2.2.2.2.1, S.2.2.2.2.2.1, S.2.2.2.2.2.2.1, S.2.2.2.2.2.2.2)) (fun s1 =>
  gq_lt ((s1.1, k_X5_fill 16 s1.2.1 1, s1.2.2.1, s1.2.2.2.1, s1.2.2.2.2.1, s1.2.2.2.2.2.1, s1.2.2.2.2.2.2.1, s1.2.2.2.2.2.2.2)) (fun s2 =>
  gq_lt ((s2.1, s2.2.1, k_X5_fill 16 s2.2.2.1 1, s2.2.2.2.1, s2.2.2.2.2.1, s2.2.2.2.2.2.1, s2.2.2.2.2.2.2.1, s2.2.2.2.2.2.2.2)) (fun s3 =>
  gq_lt ((s3.1, s3.2.1, s3.2.2.1, k_X5_fill 8 s3.2.2.2.1 (-1), s3.2.2.2.2.1, s3.2.2.2.2.2.1, s3.2.2.2.2.2.2.1, s3.2.2.2.2.2.2.2)) (fun s4 =>
  gq_lt ((s4.1, s4.2.1, s4.2.2.1, s4.2.2.2.1, k_X5_fill 8 s4.2.2.2.2.1 5, s4.2.2.2.2.2.1, s4.2.2.2.2.2.2.1, s4.2.2.2.2.2.2.2)) (fun s5 =>
  gq_lt ((s5.1, s5.2.1, s5.2.2.1, s5.2.2.2.1, s5.2.2.2.2.1, k_X5_fill 8 s5.2.2.2.2.2.1 0, s5.2.2.2.2.2.2.1, s5.2.2.2.2.2.2.2)) (fun s6 =>
  gq_lt ((s6.1, s6.2.1, s6.2.2.1, s6.2.2.2.1, s6.2.2.2.2.1, s6.2.2.2.2.2.1, s6.2.2.2.2.2.2.1, 0)) (fun s7 =>
  s7)))))))
set_option maxHeartbeats 4000000 in
set_option maxRecDepth 100000 in
theorem c_X1_forgetTables (l : Launch) (D : va_G) (cA : ClassId) (a0 a1 a2 a3 a4 a5 a6 a7 a8 a9 a10 a11 a12 a13 a14 : Nat) (S : gs_U)  : gq_C l yX1_forgetTables wsX1_forgetTables ({ frames := 1, cells := 0, slots := 0, locals := 22 } : Room) D cA [.ref a0] (gw_Gues cA a0 a1 a2 a3 a4 a5 a6 a7 a8 a9 a10 a11 a12 a13 a14 S) (none) (gw_Gues cA a0 a1 a2 a3 a4 a5 a6 a7 a8 a9 a10 a11 a12 a13 a14 (k_X1_forgetTables S)) := by
  refine gq_openf (own := RX1) (lv := [(0, .ref a0)]) (fun r : gs_U => (none, gw_Gues cA a0 a1 a2 a3 a4 a5 a6 a7 a8 a9 a10 a11 a12 a13 a14 r)) (k_X1_forgetTables S) (by decide) rfl rfl (Nat.le_of_ble_eq_true rfl) rfl rfl rfl (fun p e s m args below meth c A X => ?_)
  unfold k_X1_forgetTables
  refine gq_aload_n X dX1_forgetTables_0 0 rfl ?_
  refine gq_get (C := RX1) (T := TX1) (N := 8) X iX1_forgetTables_X1 0 gl_Gues_c0 rfl 0 (by decide) fX1_forgetTables_X1_0 rfl dX1_forgetTables_1 ?_
  refine gq_iconst (v := 1) X dX1_forgetTables_4 gq_i1 ?_
  refine gq_letr (fun s1 es1 => ?_)
  refine gq_callVv (ws' := gw_Gues cA a0 a1 a2 a3 a4 a5 a6 a7 a8 a9 a10 a11 a12 a13 a14 s1) X (c_X5_fill l D cA a1 a2 16 (by decide) S.1 1) rfl ⟨rfl, rfl⟩ ⟨Nat.le_of_ble_eq_true rfl, Nat.le_of_ble_eq_true rfl⟩ gX1_forgetTables_X5_fill hv_X5_fill 1 rfl rfl [1, 2] gl_Gues_1_at gl_Gues_1_nd gl_Row_fst (by rw [es1]; exact gl_Gues_1_set) rfl rfl (Nat.le_of_ble_eq_true rfl) ⟨Nat.zero_le _, Nat.zero_le _⟩ dX1_forgetTables_5 ?_
  refine gq_aload_n X dX1_forgetTables_8 0 rfl ?_
  refine gq_get (C := RX1) (T := TX1) (N := 8) X iX1_forgetTables_X1 0 gl_Gues_c0 rfl 1 (by decide) fX1_forgetTables_X1_1 rfl dX1_forgetTables_9 ?_
  refine gq_iconst (v := 1) X dX1_forgetTables_12 gq_i1 ?_
  refine gq_letr (fun s2 es2 => ?_)
  refine gq_callVv (ws' := gw_Gues cA a0 a1 a2 a3 a4 a5 a6 a7 a8 a9 a10 a11 a12 a13 a14 s2) X (c_X5_fill l D cA a3 a4 16 (by decide) s1.2.1 1) rfl ⟨rfl, rfl⟩ ⟨Nat.le_of_ble_eq_true rfl, Nat.le_of_ble_eq_true rfl⟩ gX1_forgetTables_X5_fill hv_X5_fill 3 rfl rfl [3, 4] gl_Gues_3_at gl_Gues_3_nd gl_Row_fst (by rw [es2]; exact gl_Gues_3_set) rfl rfl (Nat.le_of_ble_eq_true rfl) ⟨Nat.zero_le _, Nat.zero_le _⟩ dX1_forgetTables_13 ?_
  refine gq_aload_n X dX1_forgetTables_16 0 rfl ?_
  refine gq_get (C := RX1) (T := TX1) (N := 8) X iX1_forgetTables_X1 0 gl_Gues_c0 rfl 2 (by decide) fX1_forgetTables_X1_2 rfl dX1_forgetTables_17 ?_
  refine gq_iconst (v := 1) X dX1_forgetTables_20 gq_i1 ?_
  refine gq_letr (fun s3 es3 => ?_)
  refine gq_callVv (ws' := gw_Gues cA a0 a1 a2 a3 a4 a5 a6 a7 a8 a9 a10 a11 a12 a13 a14 s3) X (c_X5_fill l D cA a5 a6 16 (by decide) s2.2.2.1 1) rfl ⟨rfl, rfl⟩ ⟨Nat.le_of_ble_eq_true rfl, Nat.le_of_ble_eq_true rfl⟩ gX1_forgetTables_X5_fill hv_X5_fill 5 rfl rfl [5, 6] gl_Gues_5_at gl_Gues_5_nd gl_Row_fst (by rw [es3]; exact gl_Gues_5_set) rfl rfl (Nat.le_of_ble_eq_true rfl) ⟨Nat.zero_le _, Nat.zero_le _⟩ dX1_forgetTables_21 ?_
  refine gq_aload_n X dX1_forgetTables_24 0 rfl ?_
  refine gq_get (C := RX1) (T := TX1) (N := 8) X iX1_forgetTables_X1 0 gl_Gues_c0 rfl 3 (by decide) fX1_forgetTables_X1_3 rfl dX1_forgetTables_25 ?_
  refine gq_iconst (v := (-1)) X dX1_forgetTables_28 gq_im1 ?_
  refine gq_letr (fun s4 es4 => ?_)
  refine gq_callVv (ws' := gw_Gues cA a0 a1 a2 a3 a4 a5 a6 a7 a8 a9 a10 a11 a12 a13 a14 s4) X (c_X5_fill l D cA a7 a8 8 (by decide) s3.2.2.2.1 (-1)) rfl ⟨rfl, rfl⟩ ⟨Nat.le_of_ble_eq_true rfl, Nat.le_of_ble_eq_true rfl⟩ gX1_forgetTables_X5_fill hv_X5_fill 7 rfl rfl [7, 8] gl_Gues_7_at gl_Gues_7_nd gl_Row_fst (by rw [es4]; exact gl_Gues_7_set) rfl rfl (Nat.le_of_ble_eq_true rfl) ⟨Nat.zero_le _, Nat.zero_le _⟩ dX1_forgetTables_29 ?_
  refine gq_aload_n X dX1_forgetTables_32 0 rfl ?_
  refine gq_get (C := RX1) (T := TX1) (N := 8) X iX1_forgetTables_X1 0 gl_Gues_c0 rfl 4 (by decide) fX1_forgetTables_X1_4 rfl dX1_forgetTables_33 ?_
  refine gq_iconst (v := 5) X dX1_forgetTables_36 gq_i5 ?_
  refine gq_letr (fun s5 es5 => ?_)
  refine gq_callVv (ws' := gw_Gues cA a0 a1 a2 a3 a4 a5 a6 a7 a8 a9 a10 a11 a12 a13 a14 s5) X (c_X5_fill l D cA a9 a10 8 (by decide) s4.2.2.2.2.1 5) rfl ⟨rfl, rfl⟩ ⟨Nat.le_of_ble_eq_true rfl, Nat.le_of_ble_eq_true rfl⟩ gX1_forgetTables_X5_fill hv_X5_fill 9 rfl rfl [9, 10] gl_Gues_9_at gl_Gues_9_nd gl_Row_fst (by rw [es5]; exact gl_Gues_9_set) rfl rfl (Nat.le_of_ble_eq_true rfl) ⟨Nat.zero_le _, Nat.zero_le _⟩ dX1_forgetTables_37 ?_
  refine gq_aload_n X dX1_forgetTables_40 0 rfl ?_
  refine gq_get (C := RX1) (T := TX1) (N := 8) X iX1_forgetTables_X1 0 gl_Gues_c0 rfl 5 (by decide) fX1_forgetTables_X1_5 rfl dX1_forgetTables_41 ?_
  refine gq_iconst (v := 0) X dX1_forgetTables_44 gq_i0 ?_
  refine gq_letr (fun s6 es6 => ?_)
  refine gq_callVv (ws' := gw_Gues cA a0 a1 a2 a3 a4 a5 a6 a7 a8 a9 a10 a11 a12 a13 a14 s6) X (c_X5_fill l D cA a11 a12 8 (by decide) s5.2.2.2.2.2.1 0) rfl ⟨rfl, rfl⟩ ⟨Nat.le_of_ble_eq_true rfl, Nat.le_of_ble_eq_true rfl⟩ gX1_forgetTables_X5_fill hv_X5_fill 11 rfl rfl [11, 12] gl_Gues_11_at gl_Gues_11_nd gl_Row_fst (by rw [es6]; exact gl_Gues_11_set) rfl rfl (Nat.le_of_ble_eq_true rfl) ⟨Nat.zero_le _, Nat.zero_le _⟩ dX1_forgetTables_45 ?_
  refine gq_aload_n X dX1_forgetTables_48 0 rfl ?_
  refine gq_iconst (v := 0) X dX1_forgetTables_49 gq_i0 ?_
  refine gq_letr (fun s7 es7 => ?_)
  refine gq_put (C := RX1) (T := TX1) (N := 8) (ws' := gw_Gues cA a0 a1 a2 a3 a4 a5 a6 a7 a8 a9 a10 a11 a12 a13 a14 s7) X iX1_forgetTables_X1 tyX1 tyX1_ok nmX1 0 gl_Gues_c0 rfl 7 (by decide) fX1_forgetTables_X1_7 rfl rfl rfl (Nat.le_of_ble_eq_true rfl) (by rw [es7]; exact gl_Gues_f7) dX1_forgetTables_50 ?_
  exact gq_vretf X dX1_forgetTables_53 rfl rfl
theorem iX1_history_X1 : ∀ w ∈ u_ws RX1 TX1 8, w ∈ wsX1_history := by decide +kernel
theorem fX1_history_X1_7 : Cond.fieldLink RX1 42 (TX1 7).1 (TX1 7).2.1 (TX1 7).2.2.1 ∈ wsX1_history := by decide +kernel
theorem hv_X1_history : yX1_history.cls = RX1 ∧ yX1_history.cls ≠ "java/lang/invoke/MethodHandle" ∧ yX1_history.cls ≠ "java/lang/invoke/VarHandle" ∧ (parseMethodDescriptor yX1_history.desc).map (fun d => d.parameters.length) = some 0 := by decide +kernel
def k_X1_history (S : gs_U) : Int32 :=
  S.2.2.2.2.2.2.2
set_option maxHeartbeats 4000000 in
set_option maxRecDepth 100000 in
theorem c_X1_history (l : Launch) (D : va_G) (cA : ClassId) (a0 a1 a2 a3 a4 a5 a6 a7 a8 a9 a10 a11 a12 a13 a14 : Nat) (S : gs_U)  : gq_C l yX1_history wsX1_history ({ frames := 0, cells := 0, slots := 0, locals := 0 } : Room) D cA [.ref a0] (gw_Gues cA a0 a1 a2 a3 a4 a5 a6 a7 a8 a9 a10 a11 a12 a13 a14 S) (some (.int (k_X1_history S))) (gw_Gues cA a0 a1 a2 a3 a4 a5 a6 a7 a8 a9 a10 a11 a12 a13 a14 S) := by
  refine gq_openf (own := RX1) (lv := [(0, .ref a0)]) (fun r : Int32 => (some (.int r), gw_Gues cA a0 a1 a2 a3 a4 a5 a6 a7 a8 a9 a10 a11 a12 a13 a14 S)) (k_X1_history S) (by decide) rfl rfl (Nat.le_of_ble_eq_true rfl) rfl rfl rfl (fun p e s m args below meth c A X => ?_)
  unfold k_X1_history
  refine gq_aload_n X dX1_history_0 0 rfl ?_
  refine gq_get (C := RX1) (T := TX1) (N := 8) X iX1_history_X1 0 gl_Gues_c0 rfl 7 (by decide) fX1_history_X1_7 rfl dX1_history_1 ?_
  exact gq_iretf X dX1_history_4 rfl rfl
theorem iX1_setHistory_X1 : ∀ w ∈ u_ws RX1 TX1 8, w ∈ wsX1_setHistory := by decide +kernel
theorem fX1_setHistory_X1_7 : Cond.fieldLink RX1 42 (TX1 7).1 (TX1 7).2.1 (TX1 7).2.2.1 ∈ wsX1_setHistory := by decide +kernel
theorem hv_X1_setHistory : yX1_setHistory.cls = RX1 ∧ yX1_setHistory.cls ≠ "java/lang/invoke/MethodHandle" ∧ yX1_setHistory.cls ≠ "java/lang/invoke/VarHandle" ∧ (parseMethodDescriptor yX1_setHistory.desc).map (fun d => d.parameters.length) = some 1 := by decide +kernel
def k_X1_setHistory (S : gs_U) (x1 : Int32) : gs_U :=
  gq_lt ((S.1, S.2.1, S.2.2.1, S.2.2.2.1, S.2.2.2.2.1, S.2.2.2.2.2.1, S.2.2.2.2.2.2.1, x1)) (fun s1 =>
  s1)
set_option maxHeartbeats 4000000 in
set_option maxRecDepth 100000 in
theorem c_X1_setHistory (l : Launch) (D : va_G) (cA : ClassId) (a0 a1 a2 a3 a4 a5 a6 a7 a8 a9 a10 a11 a12 a13 a14 : Nat) (S : gs_U) (x1 : Int32) : gq_C l yX1_setHistory wsX1_setHistory ({ frames := 0, cells := 0, slots := 0, locals := 0 } : Room) D cA [.ref a0, .int x1] (gw_Gues cA a0 a1 a2 a3 a4 a5 a6 a7 a8 a9 a10 a11 a12 a13 a14 S) (none) (gw_Gues cA a0 a1 a2 a3 a4 a5 a6 a7 a8 a9 a10 a11 a12 a13 a14 (k_X1_setHistory S x1)) := by
  refine gq_openf (own := RX1) (lv := [(0, .ref a0), (1, .int x1)]) (fun r : gs_U => (none, gw_Gues cA a0 a1 a2 a3 a4 a5 a6 a7 a8 a9 a10 a11 a12 a13 a14 r)) (k_X1_setHistory S x1) (by decide) rfl rfl (Nat.le_of_ble_eq_true rfl) rfl rfl rfl (fun p e s m args below meth c A X => ?_)
  unfold k_X1_setHistory
  refine gq_aload_n X dX1_setHistory_0 0 rfl ?_
  refine gq_iload_n X dX1_setHistory_1 1 rfl ?_
  refine gq_letr (fun s1 es1 => ?_)
  refine gq_put (C := RX1) (T := TX1) (N := 8) (ws' := gw_Gues cA a0 a1 a2 a3 a4 a5 a6 a7 a8 a9 a10 a11 a12 a13 a14 s1) X iX1_setHistory_X1 tyX1 tyX1_ok nmX1 0 gl_Gues_c0 rfl 7 (by decide) fX1_setHistory_X1_7 rfl rfl rfl (Nat.le_of_ble_eq_true rfl) (by rw [es1]; exact gl_Gues_f7) dX1_setHistory_2 ?_
  exact gq_vretf X dX1_setHistory_5 rfl rfl
theorem iX1_returns_X1 : ∀ w ∈ u_ws RX1 TX1 8, w ∈ wsX1_returns := by decide +kernel
theorem fX1_returns_X1_6 : Cond.fieldLink RX1 38 (TX1 6).1 (TX1 6).2.1 (TX1 6).2.2.1 ∈ wsX1_returns := by decide +kernel
theorem hv_X1_returns : yX1_returns.cls = RX1 ∧ yX1_returns.cls ≠ "java/lang/invoke/MethodHandle" ∧ yX1_returns.cls ≠ "java/lang/invoke/VarHandle" ∧ (parseMethodDescriptor yX1_returns.desc).map (fun d => d.parameters.length) = some 0 := by decide +kernel
def k_X1_returns (a0 a1 a2 a3 a4 a5 a6 a7 a8 a9 a10 a11 a12 a13 a14 : Nat) (S : gs_U) : Nat :=
  a13
set_option maxHeartbeats 4000000 in
set_option maxRecDepth 100000 in
theorem c_X1_returns (l : Launch) (D : va_G) (cA : ClassId) (a0 a1 a2 a3 a4 a5 a6 a7 a8 a9 a10 a11 a12 a13 a14 : Nat) (S : gs_U)  : gq_C l yX1_returns wsX1_returns ({ frames := 0, cells := 0, slots := 0, locals := 0 } : Room) D cA [.ref a0] (gw_Gues cA a0 a1 a2 a3 a4 a5 a6 a7 a8 a9 a10 a11 a12 a13 a14 S) (some (.ref (k_X1_returns a0 a1 a2 a3 a4 a5 a6 a7 a8 a9 a10 a11 a12 a13 a14 S))) (gw_Gues cA a0 a1 a2 a3 a4 a5 a6 a7 a8 a9 a10 a11 a12 a13 a14 S) := by
  refine gq_openf (own := RX1) (lv := [(0, .ref a0)]) (fun r : Nat => (some (.ref r), gw_Gues cA a0 a1 a2 a3 a4 a5 a6 a7 a8 a9 a10 a11 a12 a13 a14 S)) (k_X1_returns a0 a1 a2 a3 a4 a5 a6 a7 a8 a9 a10 a11 a12 a13 a14 S) (by decide) rfl rfl (Nat.le_of_ble_eq_true rfl) rfl rfl rfl (fun p e s m args below meth c A X => ?_)
  unfold k_X1_returns
  refine gq_aload_n X dX1_returns_0 0 rfl ?_
  refine gq_get (C := RX1) (T := TX1) (N := 8) X iX1_returns_X1 0 gl_Gues_c0 rfl 6 (by decide) fX1_returns_X1_6 rfl dX1_returns_1 ?_
  exact gq_aretf X dX1_returns_4 rfl rfl
theorem iX1_row_X1 : ∀ w ∈ u_ws RX1 TX1 8, w ∈ wsX1_row := by decide +kernel
theorem fX1_row_X1_0 : Cond.fieldLink RX1 14 (TX1 0).1 (TX1 0).2.1 (TX1 0).2.2.1 ∈ wsX1_row := by decide +kernel
theorem fX1_row_X1_1 : Cond.fieldLink RX1 20 (TX1 1).1 (TX1 1).2.1 (TX1 1).2.2.1 ∈ wsX1_row := by decide +kernel
theorem fX1_row_X1_2 : Cond.fieldLink RX1 23 (TX1 2).1 (TX1 2).2.1 (TX1 2).2.2.1 ∈ wsX1_row := by decide +kernel
theorem fX1_row_X1_3 : Cond.fieldLink RX1 26 (TX1 3).1 (TX1 3).2.1 (TX1 3).2.2.1 ∈ wsX1_row := by decide +kernel
theorem fX1_row_X1_4 : Cond.fieldLink RX1 29 (TX1 4).1 (TX1 4).2.1 (TX1 4).2.2.1 ∈ wsX1_row := by decide +kernel
theorem fX1_row_X1_5 : Cond.fieldLink RX1 32 (TX1 5).1 (TX1 5).2.1 (TX1 5).2.2.1 ∈ wsX1_row := by decide +kernel
theorem hv_X1_row : yX1_row.cls = RX1 ∧ yX1_row.cls ≠ "java/lang/invoke/MethodHandle" ∧ yX1_row.cls ≠ "java/lang/invoke/VarHandle" ∧ (parseMethodDescriptor yX1_row.desc).map (fun d => d.parameters.length) = some 1 := by decide +kernel
def k_X1_row (a0 a1 a2 a3 a4 a5 a6 a7 a8 a9 a10 a11 a12 a13 a14 : Nat) (S : gs_U) (x1 : Int32) : Nat :=
  if x1 = 0 then
    a1
  else
    if x1 = 1 then
      a3
    else
      if x1 = 2 then
        a5
      else
        if x1 = 3 then
          a7
        else
          if x1 = 4 then
            a9
          else
            a11
set_option maxHeartbeats 4000000 in
set_option maxRecDepth 100000 in
theorem c_X1_row (l : Launch) (D : va_G) (cA : ClassId) (a0 a1 a2 a3 a4 a5 a6 a7 a8 a9 a10 a11 a12 a13 a14 : Nat) (S : gs_U) (x1 : Int32) : gq_C l yX1_row wsX1_row ({ frames := 0, cells := 0, slots := 0, locals := 0 } : Room) D cA [.ref a0, .int x1] (gw_Gues cA a0 a1 a2 a3 a4 a5 a6 a7 a8 a9 a10 a11 a12 a13 a14 S) (some (.ref (k_X1_row a0 a1 a2 a3 a4 a5 a6 a7 a8 a9 a10 a11 a12 a13 a14 S x1))) (gw_Gues cA a0 a1 a2 a3 a4 a5 a6 a7 a8 a9 a10 a11 a12 a13 a14 S) := by
  refine gq_openf (own := RX1) (lv := [(0, .ref a0), (1, .int x1)]) (fun r : Nat => (some (.ref r), gw_Gues cA a0 a1 a2 a3 a4 a5 a6 a7 a8 a9 a10 a11 a12 a13 a14 S)) (k_X1_row a0 a1 a2 a3 a4 a5 a6 a7 a8 a9 a10 a11 a12 a13 a14 S x1) (by decide) rfl rfl (Nat.le_of_ble_eq_true rfl) rfl rfl rfl (fun p e s m args below meth c A X => ?_)
  unfold k_X1_row
  refine gq_iload_n X dX1_row_0 1 rfl ?_
  refine gq_ite (fun h1_0 => ?_) (fun h1_0 => ?_)
  · refine gq_tin (k := 0) (off := 35) (tgt := 36) X dX1_row_1 h1_0 (by decide) (by decide) (by decide) (by decide) ?_
    refine gq_aload_n X dX1_row_36 0 rfl ?_
    refine gq_get (C := RX1) (T := TX1) (N := 8) X iX1_row_X1 0 gl_Gues_c0 rfl 0 (by decide) fX1_row_X1_0 rfl dX1_row_37 ?_
    exact gq_aretf X dX1_row_40 rfl rfl
  · refine gq_ite (fun h1_1 => ?_) (fun h1_1 => ?_)
    · refine gq_tin (k := 1) (off := 40) (tgt := 41) X dX1_row_1 h1_1 (by decide) (by decide) (by decide) (by decide) ?_
      refine gq_aload_n X dX1_row_41 0 rfl ?_
      refine gq_get (C := RX1) (T := TX1) (N := 8) X iX1_row_X1 0 gl_Gues_c0 rfl 1 (by decide) fX1_row_X1_1 rfl dX1_row_42 ?_
      exact gq_aretf X dX1_row_45 rfl rfl
    · refine gq_ite (fun h1_2 => ?_) (fun h1_2 => ?_)
      · refine gq_tin (k := 2) (off := 45) (tgt := 46) X dX1_row_1 h1_2 (by decide) (by decide) (by decide) (by decide) ?_
        refine gq_aload_n X dX1_row_46 0 rfl ?_
        refine gq_get (C := RX1) (T := TX1) (N := 8) X iX1_row_X1 0 gl_Gues_c0 rfl 2 (by decide) fX1_row_X1_2 rfl dX1_row_47 ?_
        exact gq_aretf X dX1_row_50 rfl rfl
      · refine gq_ite (fun h1_3 => ?_) (fun h1_3 => ?_)
        · refine gq_tin (k := 3) (off := 50) (tgt := 51) X dX1_row_1 h1_3 (by decide) (by decide) (by decide) (by decide) ?_
          refine gq_aload_n X dX1_row_51 0 rfl ?_
          refine gq_get (C := RX1) (T := TX1) (N := 8) X iX1_row_X1 0 gl_Gues_c0 rfl 3 (by decide) fX1_row_X1_3 rfl dX1_row_52 ?_
          exact gq_aretf X dX1_row_55 rfl rfl
        · refine gq_ite (fun h1_4 => ?_) (fun h1_4 => ?_)
          · refine gq_tin (k := 4) (off := 55) (tgt := 56) X dX1_row_1 h1_4 (by decide) (by decide) (by decide) (by decide) ?_
            refine gq_aload_n X dX1_row_56 0 rfl ?_
            refine gq_get (C := RX1) (T := TX1) (N := 8) X iX1_row_X1 0 gl_Gues_c0 rfl 4 (by decide) fX1_row_X1_4 rfl dX1_row_57 ?_
            exact gq_aretf X dX1_row_60 rfl rfl
          · refine gq_tout (tgt := 61) X dX1_row_1 (by have q0 := lv_neT h1_0 (show (0 : Int32).toInt = 0 by decide); have q1 := lv_neT h1_1 (show (1 : Int32).toInt = 1 by decide); have q2 := lv_neT h1_2 (show (2 : Int32).toInt = 2 by decide); have q3 := lv_neT h1_3 (show (3 : Int32).toInt = 3 by decide); have q4 := lv_neT h1_4 (show (4 : Int32).toInt = 4 by decide); omega) (by decide) ?_
            refine gq_aload_n X dX1_row_61 0 rfl ?_
            refine gq_get (C := RX1) (T := TX1) (N := 8) X iX1_row_X1 0 gl_Gues_c0 rfl 5 (by decide) fX1_row_X1_5 rfl dX1_row_62 ?_
            exact gq_aretf X dX1_row_65 rfl rfl
theorem iX1_cell_X1 : ∀ w ∈ u_ws RX1 TX1 8, w ∈ wsX1_cell := by decide +kernel
theorem fX1_cell_X1_6 : Cond.fieldLink RX1 38 (TX1 6).1 (TX1 6).2.1 (TX1 6).2.2.1 ∈ wsX1_cell := by decide +kernel
theorem fX1_cell_X1_7 : Cond.fieldLink RX1 42 (TX1 7).1 (TX1 7).2.1 (TX1 7).2.2.1 ∈ wsX1_cell := by decide +kernel
theorem hv_X1_cell : yX1_cell.cls = RX1 ∧ yX1_cell.cls ≠ "java/lang/invoke/MethodHandle" ∧ yX1_cell.cls ≠ "java/lang/invoke/VarHandle" ∧ (parseMethodDescriptor yX1_cell.desc).map (fun d => d.parameters.length) = some 2 := by decide +kernel
def k_X1_cell (S : gs_U) (x1 : Int32) (x2 : Int32) : Int32 :=
  if x1 = 6 then
    S.2.2.2.2.2.2.2
  else
    if x1 = 7 then
      k_X2_get 4 S.2.2.2.2.2.2.1 x2
    else
      if x1 = 8 then
        k_X2_size 4 S.2.2.2.2.2.2.1
      else
        if x1 = 0 then
          k_X5_get 16 S.1 x2
        else
          if x1 = 1 then
            k_X5_get 16 S.2.1 x2
          else
            if x1 = 2 then
              k_X5_get 16 S.2.2.1 x2
            else
              if x1 = 3 then
                k_X5_get 8 S.2.2.2.1 x2
              else
                if x1 = 4 then
                  k_X5_get 8 S.2.2.2.2.1 x2
                else
                  k_X5_get 8 S.2.2.2.2.2.1 x2
set_option maxHeartbeats 4000000 in
set_option maxRecDepth 100000 in
theorem c_X1_cell (l : Launch) (D : va_G) (cA : ClassId) (a0 a1 a2 a3 a4 a5 a6 a7 a8 a9 a10 a11 a12 a13 a14 : Nat) (S : gs_U) (x1 : Int32) (x2 : Int32) : gq_C l yX1_cell wsX1_cell ({ frames := 2, cells := 0, slots := 0, locals := 42 } : Room) D cA [.ref a0, .int x1, .int x2] (gw_Gues cA a0 a1 a2 a3 a4 a5 a6 a7 a8 a9 a10 a11 a12 a13 a14 S) (some (.int (k_X1_cell S x1 x2))) (gw_Gues cA a0 a1 a2 a3 a4 a5 a6 a7 a8 a9 a10 a11 a12 a13 a14 S) := by
  refine gq_openf (own := RX1) (lv := [(0, .ref a0), (1, .int x1), (2, .int x2)]) (fun r : Int32 => (some (.int r), gw_Gues cA a0 a1 a2 a3 a4 a5 a6 a7 a8 a9 a10 a11 a12 a13 a14 S)) (k_X1_cell S x1 x2) (by decide) rfl rfl (Nat.le_of_ble_eq_true rfl) rfl rfl rfl (fun p e s m args below meth c A X => ?_)
  unfold k_X1_cell
  refine gq_iload_n X dX1_cell_0 1 rfl ?_
  refine gq_ite (fun h1_0 => ?_) (fun h1_0 => ?_)
  · refine gq_tin (k := 6) (off := 27) (tgt := 28) X dX1_cell_1 h1_0 (by decide) (by decide) (by decide) (by decide) ?_
    refine gq_aload_n X dX1_cell_28 0 rfl ?_
    refine gq_get (C := RX1) (T := TX1) (N := 8) X iX1_cell_X1 0 gl_Gues_c0 rfl 7 (by decide) fX1_cell_X1_7 rfl dX1_cell_29 ?_
    exact gq_iretf X dX1_cell_32 rfl rfl
  · refine gq_ite (fun h1_1 => ?_) (fun h1_1 => ?_)
    · refine gq_tin (k := 7) (off := 32) (tgt := 33) X dX1_cell_1 h1_1 (by decide) (by decide) (by decide) (by decide) ?_
      refine gq_aload_n X dX1_cell_33 0 rfl ?_
      refine gq_get (C := RX1) (T := TX1) (N := 8) X iX1_cell_X1 0 gl_Gues_c0 rfl 6 (by decide) fX1_cell_X1_6 rfl dX1_cell_34 ?_
      refine gq_iload_n X dX1_cell_37 2 rfl ?_
      refine gq_callVr (ws' := gw_Gues cA a0 a1 a2 a3 a4 a5 a6 a7 a8 a9 a10 a11 a12 a13 a14 S) X (c_X2_get l D cA a13 a14 4 (by decide) S.2.2.2.2.2.2.1 x2) rfl ⟨rfl, rfl⟩ ⟨Nat.le_of_ble_eq_true rfl, Nat.le_of_ble_eq_true rfl⟩ gX1_cell_X2_get hv_X2_get 13 rfl rfl [13, 14] gl_Gues_13_at gl_Gues_13_nd gl_Pile_fst gl_Gues_13_same rfl rfl (Nat.le_of_ble_eq_true rfl) ⟨Nat.zero_le _, Nat.zero_le _⟩ dX1_cell_38 ?_
      exact gq_iretf X dX1_cell_41 rfl rfl
    · refine gq_ite (fun h1_2 => ?_) (fun h1_2 => ?_)
      · refine gq_tin (k := 8) (off := 41) (tgt := 42) X dX1_cell_1 h1_2 (by decide) (by decide) (by decide) (by decide) ?_
        refine gq_aload_n X dX1_cell_42 0 rfl ?_
        refine gq_get (C := RX1) (T := TX1) (N := 8) X iX1_cell_X1 0 gl_Gues_c0 rfl 6 (by decide) fX1_cell_X1_6 rfl dX1_cell_43 ?_
        refine gq_callVr (ws' := gw_Gues cA a0 a1 a2 a3 a4 a5 a6 a7 a8 a9 a10 a11 a12 a13 a14 S) X (c_X2_size l D cA a13 a14 4 (by decide) S.2.2.2.2.2.2.1) rfl ⟨rfl, rfl⟩ ⟨Nat.le_of_ble_eq_true rfl, Nat.le_of_ble_eq_true rfl⟩ gX1_cell_X2_size hv_X2_size 13 rfl rfl [13, 14] gl_Gues_13_at gl_Gues_13_nd gl_Pile_fst gl_Gues_13_same rfl rfl (Nat.le_of_ble_eq_true rfl) ⟨Nat.zero_le _, Nat.zero_le _⟩ dX1_cell_46 ?_
        exact gq_iretf X dX1_cell_49 rfl rfl
      · refine gq_tout (tgt := 50) X dX1_cell_1 (by have q0 := lv_neT h1_0 (show (6 : Int32).toInt = 6 by decide); have q1 := lv_neT h1_1 (show (7 : Int32).toInt = 7 by decide); have q2 := lv_neT h1_2 (show (8 : Int32).toInt = 8 by decide); omega) (by decide) ?_
        refine gq_aload_n X dX1_cell_50 0 rfl ?_
        refine gq_iload_n X dX1_cell_51 1 rfl ?_
        refine gq_ite (fun q52_0 => ?_) (fun q52_0 => ?_)
        · refine gq_callVr (ws' := gw_Gues cA a0 a1 a2 a3 a4 a5 a6 a7 a8 a9 a10 a11 a12 a13 a14 S) X (gq_Ceq (res2 := some (Value.ref a1)) (c_X1_row l D cA a0 a1 a2 a3 a4 a5 a6 a7 a8 a9 a10 a11 a12 a13 a14 S x1) (by unfold k_X1_row; rw [if_pos q52_0]) rfl) rfl ⟨rfl, rfl⟩ ⟨Nat.le_of_ble_eq_true rfl, Nat.le_of_ble_eq_true rfl⟩ gX1_cell_X1_row hv_X1_row 0 gl_Gues_c0 rfl [0, 1, 2, 3, 4, 5, 6, 7, 8, 9, 10, 11, 12, 13, 14] gl_Gues_self_at gl_Gues_self_nd gl_Gues_fst gl_Gues_self_same rfl rfl (Nat.le_of_ble_eq_true rfl) ⟨Nat.zero_le _, Nat.zero_le _⟩ dX1_cell_52 ?_
          refine gq_iload_n X dX1_cell_55 2 rfl ?_
          refine gq_callVr (ws' := gw_Gues cA a0 a1 a2 a3 a4 a5 a6 a7 a8 a9 a10 a11 a12 a13 a14 S) X (c_X5_get l D cA a1 a2 16 (by decide) S.1 x2) rfl ⟨rfl, rfl⟩ ⟨Nat.le_of_ble_eq_true rfl, Nat.le_of_ble_eq_true rfl⟩ gX1_cell_X5_get hv_X5_get 1 rfl rfl [1, 2] gl_Gues_1_at gl_Gues_1_nd gl_Row_fst gl_Gues_1_same rfl rfl (Nat.le_of_ble_eq_true rfl) ⟨Nat.zero_le _, Nat.zero_le _⟩ dX1_cell_56 ?_
          exact gq_iretf X dX1_cell_59 rfl rfl
        · refine gq_ite (fun q52_1 => ?_) (fun q52_1 => ?_)
          · refine gq_callVr (ws' := gw_Gues cA a0 a1 a2 a3 a4 a5 a6 a7 a8 a9 a10 a11 a12 a13 a14 S) X (gq_Ceq (res2 := some (Value.ref a3)) (c_X1_row l D cA a0 a1 a2 a3 a4 a5 a6 a7 a8 a9 a10 a11 a12 a13 a14 S x1) (by unfold k_X1_row; rw [if_neg q52_0, if_pos q52_1]) rfl) rfl ⟨rfl, rfl⟩ ⟨Nat.le_of_ble_eq_true rfl, Nat.le_of_ble_eq_true rfl⟩ gX1_cell_X1_row hv_X1_row 0 gl_Gues_c0 rfl [0, 1, 2, 3, 4, 5, 6, 7, 8, 9, 10, 11, 12, 13, 14] gl_Gues_self_at gl_Gues_self_nd gl_Gues_fst gl_Gues_self_same rfl rfl (Nat.le_of_ble_eq_true rfl) ⟨Nat.zero_le _, Nat.zero_le _⟩ dX1_cell_52 ?_
            refine gq_iload_n X dX1_cell_55 2 rfl ?_
            refine gq_callVr (ws' := gw_Gues cA a0 a1 a2 a3 a4 a5 a6 a7 a8 a9 a10 a11 a12 a13 a14 S) X (c_X5_get l D cA a3 a4 16 (by decide) S.2.1 x2) rfl ⟨rfl, rfl⟩ ⟨Nat.le_of_ble_eq_true rfl, Nat.le_of_ble_eq_true rfl⟩ gX1_cell_X5_get hv_X5_get 3 rfl rfl [3, 4] gl_Gues_3_at gl_Gues_3_nd gl_Row_fst gl_Gues_3_same rfl rfl (Nat.le_of_ble_eq_true rfl) ⟨Nat.zero_le _, Nat.zero_le _⟩ dX1_cell_56 ?_
            exact gq_iretf X dX1_cell_59 rfl rfl
          · refine gq_ite (fun q52_2 => ?_) (fun q52_2 => ?_)
            · refine gq_callVr (ws' := gw_Gues cA a0 a1 a2 a3 a4 a5 a6 a7 a8 a9 a10 a11 a12 a13 a14 S) X (gq_Ceq (res2 := some (Value.ref a5)) (c_X1_row l D cA a0 a1 a2 a3 a4 a5 a6 a7 a8 a9 a10 a11 a12 a13 a14 S x1) (by unfold k_X1_row; rw [if_neg q52_0, if_neg q52_1, if_pos q52_2]) rfl) rfl ⟨rfl, rfl⟩ ⟨Nat.le_of_ble_eq_true rfl, Nat.le_of_ble_eq_true rfl⟩ gX1_cell_X1_row hv_X1_row 0 gl_Gues_c0 rfl [0, 1, 2, 3, 4, 5, 6, 7, 8, 9, 10, 11, 12, 13, 14] gl_Gues_self_at gl_Gues_self_nd gl_Gues_fst gl_Gues_self_same rfl rfl (Nat.le_of_ble_eq_true rfl) ⟨Nat.zero_le _, Nat.zero_le _⟩ dX1_cell_52 ?_
              refine gq_iload_n X dX1_cell_55 2 rfl ?_
              refine gq_callVr (ws' := gw_Gues cA a0 a1 a2 a3 a4 a5 a6 a7 a8 a9 a10 a11 a12 a13 a14 S) X (c_X5_get l D cA a5 a6 16 (by decide) S.2.2.1 x2) rfl ⟨rfl, rfl⟩ ⟨Nat.le_of_ble_eq_true rfl, Nat.le_of_ble_eq_true rfl⟩ gX1_cell_X5_get hv_X5_get 5 rfl rfl [5, 6] gl_Gues_5_at gl_Gues_5_nd gl_Row_fst gl_Gues_5_same rfl rfl (Nat.le_of_ble_eq_true rfl) ⟨Nat.zero_le _, Nat.zero_le _⟩ dX1_cell_56 ?_
              exact gq_iretf X dX1_cell_59 rfl rfl
            · refine gq_ite (fun q52_3 => ?_) (fun q52_3 => ?_)
              · refine gq_callVr (ws' := gw_Gues cA a0 a1 a2 a3 a4 a5 a6 a7 a8 a9 a10 a11 a12 a13 a14 S) X (gq_Ceq (res2 := some (Value.ref a7)) (c_X1_row l D cA a0 a1 a2 a3 a4 a5 a6 a7 a8 a9 a10 a11 a12 a13 a14 S x1) (by unfold k_X1_row; rw [if_neg q52_0, if_neg q52_1, if_neg q52_2, if_pos q52_3]) rfl) rfl ⟨rfl, rfl⟩ ⟨Nat.le_of_ble_eq_true rfl, Nat.le_of_ble_eq_true rfl⟩ gX1_cell_X1_row hv_X1_row 0 gl_Gues_c0 rfl [0, 1, 2, 3, 4, 5, 6, 7, 8, 9, 10, 11, 12, 13, 14] gl_Gues_self_at gl_Gues_self_nd gl_Gues_fst gl_Gues_self_same rfl rfl (Nat.le_of_ble_eq_true rfl) ⟨Nat.zero_le _, Nat.zero_le _⟩ dX1_cell_52 ?_
                refine gq_iload_n X dX1_cell_55 2 rfl ?_
                refine gq_callVr (ws' := gw_Gues cA a0 a1 a2 a3 a4 a5 a6 a7 a8 a9 a10 a11 a12 a13 a14 S) X (c_X5_get l D cA a7 a8 8 (by decide) S.2.2.2.1 x2) rfl ⟨rfl, rfl⟩ ⟨Nat.le_of_ble_eq_true rfl, Nat.le_of_ble_eq_true rfl⟩ gX1_cell_X5_get hv_X5_get 7 rfl rfl [7, 8] gl_Gues_7_at gl_Gues_7_nd gl_Row_fst gl_Gues_7_same rfl rfl (Nat.le_of_ble_eq_true rfl) ⟨Nat.zero_le _, Nat.zero_le _⟩ dX1_cell_56 ?_
                exact gq_iretf X dX1_cell_59 rfl rfl
              · refine gq_ite (fun q52_4 => ?_) (fun q52_4 => ?_)
                · refine gq_callVr (ws' := gw_Gues cA a0 a1 a2 a3 a4 a5 a6 a7 a8 a9 a10 a11 a12 a13 a14 S) X (gq_Ceq (res2 := some (Value.ref a9)) (c_X1_row l D cA a0 a1 a2 a3 a4 a5 a6 a7 a8 a9 a10 a11 a12 a13 a14 S x1) (by unfold k_X1_row; rw [if_neg q52_0, if_neg q52_1, if_neg q52_2, if_neg q52_3, if_pos q52_4]) rfl) rfl ⟨rfl, rfl⟩ ⟨Nat.le_of_ble_eq_true rfl, Nat.le_of_ble_eq_true rfl⟩ gX1_cell_X1_row hv_X1_row 0 gl_Gues_c0 rfl [0, 1, 2, 3, 4, 5, 6, 7, 8, 9, 10, 11, 12, 13, 14] gl_Gues_self_at gl_Gues_self_nd gl_Gues_fst gl_Gues_self_same rfl rfl (Nat.le_of_ble_eq_true rfl) ⟨Nat.zero_le _, Nat.zero_le _⟩ dX1_cell_52 ?_
                  refine gq_iload_n X dX1_cell_55 2 rfl ?_
                  refine gq_callVr (ws' := gw_Gues cA a0 a1 a2 a3 a4 a5 a6 a7 a8 a9 a10 a11 a12 a13 a14 S) X (c_X5_get l D cA a9 a10 8 (by decide) S.2.2.2.2.1 x2) rfl ⟨rfl, rfl⟩ ⟨Nat.le_of_ble_eq_true rfl, Nat.le_of_ble_eq_true rfl⟩ gX1_cell_X5_get hv_X5_get 9 rfl rfl [9, 10] gl_Gues_9_at gl_Gues_9_nd gl_Row_fst gl_Gues_9_same rfl rfl (Nat.le_of_ble_eq_true rfl) ⟨Nat.zero_le _, Nat.zero_le _⟩ dX1_cell_56 ?_
                  exact gq_iretf X dX1_cell_59 rfl rfl
                · refine gq_callVr (ws' := gw_Gues cA a0 a1 a2 a3 a4 a5 a6 a7 a8 a9 a10 a11 a12 a13 a14 S) X (gq_Ceq (res2 := some (Value.ref a11)) (c_X1_row l D cA a0 a1 a2 a3 a4 a5 a6 a7 a8 a9 a10 a11 a12 a13 a14 S x1) (by unfold k_X1_row; rw [if_neg q52_0, if_neg q52_1, if_neg q52_2, if_neg q52_3, if_neg q52_4]) rfl) rfl ⟨rfl, rfl⟩ ⟨Nat.le_of_ble_eq_true rfl, Nat.le_of_ble_eq_true rfl⟩ gX1_cell_X1_row hv_X1_row 0 gl_Gues_c0 rfl [0, 1, 2, 3, 4, 5, 6, 7, 8, 9, 10, 11, 12, 13, 14] gl_Gues_self_at gl_Gues_self_nd gl_Gues_fst gl_Gues_self_same rfl rfl (Nat.le_of_ble_eq_true rfl) ⟨Nat.zero_le _, Nat.zero_le _⟩ dX1_cell_52 ?_
                  refine gq_iload_n X dX1_cell_55 2 rfl ?_
                  refine gq_callVr (ws' := gw_Gues cA a0 a1 a2 a3 a4 a5 a6 a7 a8 a9 a10 a11 a12 a13 a14 S) X (c_X5_get l D cA a11 a12 8 (by decide) S.2.2.2.2.2.1 x2) rfl ⟨rfl, rfl⟩ ⟨Nat.le_of_ble_eq_true rfl, Nat.le_of_ble_eq_true rfl⟩ gX1_cell_X5_get hv_X5_get 11 rfl rfl [11, 12] gl_Gues_11_at gl_Gues_11_nd gl_Row_fst gl_Gues_11_same rfl rfl (Nat.le_of_ble_eq_true rfl) ⟨Nat.zero_le _, Nat.zero_le _⟩ dX1_cell_56 ?_
                  exact gq_iretf X dX1_cell_59 rfl rfl
theorem iX1_setCell_X1 : ∀ w ∈ u_ws RX1 TX1 8, w ∈ wsX1_setCell := by decide +kernel
theorem fX1_setCell_X1_6 : Cond.fieldLink RX1 38 (TX1 6).1 (TX1 6).2.1 (TX1 6).2.2.1 ∈ wsX1_setCell := by decide +kernel
theorem fX1_setCell_X1_7 : Cond.fieldLink RX1 42 (TX1 7).1 (TX1 7).2.1 (TX1 7).2.2.1 ∈ wsX1_setCell := by decide +kernel
theorem hv_X1_setCell : yX1_setCell.cls = RX1 ∧ yX1_setCell.cls ≠ "java/lang/invoke/MethodHandle" ∧ yX1_setCell.cls ≠ "java/lang/invoke/VarHandle" ∧ (parseMethodDescriptor yX1_setCell.desc).map (fun d => d.parameters.length) = some 3 := by decide +kernel
def k_X1_setCell (S : gs_U) (x1 : Int32) (x2 : Int32) (x3 : Int32) : Int32 × gs_U :=
  if x1 = 7 then
    gq_lt (k_X2_set 4 S.2.2.2.2.2.2.1 x2 x3) (fun r1 =>
    gq_lt ((S.1, S.2.1, S.2.2.1, S.2.2.2.1, S.2.2.2.2.1, S.2.2.2.2.2.1, r1.2, S.2.2.2.2.2.2.2)) (fun s2 =>
    (r1.1, s2)))
  else
    if x1 = 6 then
      gq_lt ((S.1, S.2.1, S.2.2.1, S.2.2.2.1, S.2.2.2.2.1, S.2.2.2.2.2.1, S.2.2.2.2.2.2.1, x3)) (fun s3 =>
      (S.2.2.2.2.2.2.2, s3))
    else
      if x1 = 0 then
        gq_lt (k_X5_set 16 S.1 x2 x3) (fun r4 =>
        gq_lt ((r4.2, S.2.1, S.2.2.1, S.2.2.2.1, S.2.2.2.2.1, S.2.2.2.2.2.1, S.2.2.2.2.2.2.1, S.2.2.2.2.2.2.2)) (fun s5 =>
        (r4.1, s5)))
      else
        if x1 = 1 then
          gq_lt (k_X5_set 16 S.2.1 x2 x3) (fun r6 =>
          gq_lt ((S.1, r6.2, S.2.2.1, S.2.2.2.1, S.2.2.2.2.1, S.2.2.2.2.2.1, S.2.2.2.2.2.2.1, S.2.2.2.2.2.2.2)) (fun s7 =>
          (r6.1, s7)))
        else
          if x1 = 2 then
            gq_lt (k_X5_set 16 S.2.2.1 x2 x3) (fun r8 =>
            gq_lt ((S.1, S.2.1, r8.2, S.2.2.2.1, S.2.2.2.2.1, S.2.2.2.2.2.1, S.2.2.2.2.2.2.1, S.2.2.2.2.2.2.2)) (fun s9 =>
            (r8.1, s9)))
          else
            if x1 = 3 then
              gq_lt (k_X5_set 8 S.2.2.2.1 x2 x3) (fun r10 =>
              gq_lt ((S.1, S.2.1, S.2.2.1, r10.2, S.2.2.2.2.1, S.2.2.2.2.2.1, S.2.2.2.2.2.2.1, S.2.2.2.2.2.2.2)) (fun s11 =>
              (r10.1, s11)))
            else
              if x1 = 4 then
                gq_lt (k_X5_set 8 S.2.2.2.2.1 x2 x3) (fun r12 =>
                gq_lt ((S.1, S.2.1, S.2.2.1, S.2.2.2.1, r12.2, S.2.2.2.2.2.1, S.2.2.2.2.2.2.1, S.2.2.2.2.2.2.2)) (fun s13 =>
                (r12.1, s13)))
              else
                gq_lt (k_X5_set 8 S.2.2.2.2.2.1 x2 x3) (fun r14 =>
                gq_lt ((S.1, S.2.1, S.2.2.1, S.2.2.2.1, S.2.2.2.2.1, r14.2, S.2.2.2.2.2.2.1, S.2.2.2.2.2.2.2)) (fun s15 =>
                (r14.1, s15)))
set_option maxHeartbeats 4000000 in
set_option maxRecDepth 100000 in
theorem c_X1_setCell (l : Launch) (D : va_G) (cA : ClassId) (a0 a1 a2 a3 a4 a5 a6 a7 a8 a9 a10 a11 a12 a13 a14 : Nat) (S : gs_U) (x1 : Int32) (x2 : Int32) (x3 : Int32) : gq_C l yX1_setCell wsX1_setCell ({ frames := 2, cells := 0, slots := 0, locals := 44 } : Room) D cA [.ref a0, .int x1, .int x2, .int x3] (gw_Gues cA a0 a1 a2 a3 a4 a5 a6 a7 a8 a9 a10 a11 a12 a13 a14 S) (some (.int (k_X1_setCell S x1 x2 x3).1)) (gw_Gues cA a0 a1 a2 a3 a4 a5 a6 a7 a8 a9 a10 a11 a12 a13 a14 ((k_X1_setCell S x1 x2 x3).2)) := by
  refine gq_openf (own := RX1) (lv := [(0, .ref a0), (1, .int x1), (2, .int x2), (3, .int x3)]) (fun r : Int32 × gs_U => (some (.int r.1), gw_Gues cA a0 a1 a2 a3 a4 a5 a6 a7 a8 a9 a10 a11 a12 a13 a14 r.2)) (k_X1_setCell S x1 x2 x3) (by decide) rfl rfl (Nat.le_of_ble_eq_true rfl) rfl rfl rfl (fun p e s m args below meth c A X => ?_)
  unfold k_X1_setCell
  refine gq_iload_n X dX1_setCell_0 1 rfl ?_
  refine gq_bipush (v := 7) X dX1_setCell_1 (by decide) ?_
  refine gq_ficmp_ne (tgt := 16) X dX1_setCell_3 (by decide) (fun h3 => ?_) (fun h3 => ?_)
  · refine gq_aload_n X dX1_setCell_6 0 rfl ?_
    refine gq_get (C := RX1) (T := TX1) (N := 8) X iX1_setCell_X1 0 gl_Gues_c0 rfl 6 (by decide) fX1_setCell_X1_6 rfl dX1_setCell_7 ?_
    refine gq_iload_n X dX1_setCell_10 2 rfl ?_
    refine gq_iload_n X dX1_setCell_11 3 rfl ?_
    refine gq_letr (fun r1 er1 => ?_)
    refine gq_letr (fun s2 es2 => ?_)
    refine gq_callVr (ws' := gw_Gues cA a0 a1 a2 a3 a4 a5 a6 a7 a8 a9 a10 a11 a12 a13 a14 s2) X (gq_Ceq (res2 := some (Value.int r1.1)) (w2 := gw_Pile cA a13 a14 4 r1.2) (c_X2_set l D cA a13 a14 4 (by decide) S.2.2.2.2.2.2.1 x2 x3) (by rw [er1]) (by rw [er1])) rfl ⟨rfl, rfl⟩ ⟨Nat.le_of_ble_eq_true rfl, Nat.le_of_ble_eq_true rfl⟩ gX1_setCell_X2_set hv_X2_set 13 rfl rfl [13, 14] gl_Gues_13_at gl_Gues_13_nd gl_Pile_fst (by rw [es2]; exact gl_Gues_13_set) rfl rfl (Nat.le_of_ble_eq_true rfl) ⟨Nat.zero_le _, Nat.zero_le _⟩ dX1_setCell_12 ?_
    exact gq_iretf X dX1_setCell_15 rfl rfl
  · refine gq_iload_n X dX1_setCell_16 1 rfl ?_
    refine gq_bipush (v := 6) X dX1_setCell_17 (by decide) ?_
    refine gq_ficmp_ne (tgt := 36) X dX1_setCell_19 (by decide) (fun h19 => ?_) (fun h19 => ?_)
    · refine gq_aload_n X dX1_setCell_22 0 rfl ?_
      refine gq_get (C := RX1) (T := TX1) (N := 8) X iX1_setCell_X1 0 gl_Gues_c0 rfl 7 (by decide) fX1_setCell_X1_7 rfl dX1_setCell_23 ?_
      refine gq_istore (lv' := [(4, .int S.2.2.2.2.2.2.2), (0, .ref a0), (1, .int x1), (2, .int x2), (3, .int x3)]) X dX1_setCell_26 (by decide) rfl ?_
      refine gq_aload_n X dX1_setCell_28 1 rfl ?_
      refine gq_iload_n X dX1_setCell_29 4 rfl ?_
      refine gq_letr (fun s3 es3 => ?_)
      refine gq_put (C := RX1) (T := TX1) (N := 8) (ws' := gw_Gues cA a0 a1 a2 a3 a4 a5 a6 a7 a8 a9 a10 a11 a12 a13 a14 s3) X iX1_setCell_X1 tyX1 tyX1_ok nmX1 0 gl_Gues_c0 rfl 7 (by decide) fX1_setCell_X1_7 rfl rfl rfl (Nat.le_of_ble_eq_true rfl) (by rw [es3]; exact gl_Gues_f7) dX1_setCell_30 ?_
      refine gq_iload X dX1_setCell_33 0 rfl ?_
      exact gq_iretf X dX1_setCell_35 rfl rfl
    · refine gq_aload_n X dX1_setCell_36 0 rfl ?_
      refine gq_iload_n X dX1_setCell_37 1 rfl ?_
      refine gq_ite (fun q38_0 => ?_) (fun q38_0 => ?_)
      · refine gq_callVr (ws' := gw_Gues cA a0 a1 a2 a3 a4 a5 a6 a7 a8 a9 a10 a11 a12 a13 a14 S) X (gq_Ceq (res2 := some (Value.ref a1)) (c_X1_row l D cA a0 a1 a2 a3 a4 a5 a6 a7 a8 a9 a10 a11 a12 a13 a14 S x1) (by unfold k_X1_row; rw [if_pos q38_0]) rfl) rfl ⟨rfl, rfl⟩ ⟨Nat.le_of_ble_eq_true rfl, Nat.le_of_ble_eq_true rfl⟩ gX1_setCell_X1_row hv_X1_row 0 gl_Gues_c0 rfl [0, 1, 2, 3, 4, 5, 6, 7, 8, 9, 10, 11, 12, 13, 14] gl_Gues_self_at gl_Gues_self_nd gl_Gues_fst gl_Gues_self_same rfl rfl (Nat.le_of_ble_eq_true rfl) ⟨Nat.zero_le _, Nat.zero_le _⟩ dX1_setCell_38 ?_
        refine gq_iload_n X dX1_setCell_41 2 rfl ?_
        refine gq_iload_n X dX1_setCell_42 3 rfl ?_
        refine gq_letr (fun r4 er4 => ?_)
        refine gq_letr (fun s5 es5 => ?_)
        refine gq_callVr (ws' := gw_Gues cA a0 a1 a2 a3 a4 a5 a6 a7 a8 a9 a10 a11 a12 a13 a14 s5) X (gq_Ceq (res2 := some (Value.int r4.1)) (w2 := gw_Row cA a1 a2 16 r4.2) (c_X5_set l D cA a1 a2 16 (by decide) S.1 x2 x3) (by rw [er4]) (by rw [er4])) rfl ⟨rfl, rfl⟩ ⟨Nat.le_of_ble_eq_true rfl, Nat.le_of_ble_eq_true rfl⟩ gX1_setCell_X5_set hv_X5_set 1 rfl rfl [1, 2] gl_Gues_1_at gl_Gues_1_nd gl_Row_fst (by rw [es5]; exact gl_Gues_1_set) rfl rfl (Nat.le_of_ble_eq_true rfl) ⟨Nat.zero_le _, Nat.zero_le _⟩ dX1_setCell_43 ?_
        exact gq_iretf X dX1_setCell_46 rfl rfl
      · refine gq_ite (fun q38_1 => ?_) (fun q38_1 => ?_)
        · refine gq_callVr (ws' := gw_Gues cA a0 a1 a2 a3 a4 a5 a6 a7 a8 a9 a10 a11 a12 a13 a14 S) X (gq_Ceq (res2 := some (Value.ref a3)) (c_X1_row l D cA a0 a1 a2 a3 a4 a5 a6 a7 a8 a9 a10 a11 a12 a13 a14 S x1) (by unfold k_X1_row; rw [if_neg q38_0, if_pos q38_1]) rfl) rfl ⟨rfl, rfl⟩ ⟨Nat.le_of_ble_eq_true rfl, Nat.le_of_ble_eq_true rfl⟩ gX1_setCell_X1_row hv_X1_row 0 gl_Gues_c0 rfl [0, 1, 2, 3, 4, 5, 6, 7, 8, 9, 10, 11, 12, 13, 14] gl_Gues_self_at gl_Gues_self_nd gl_Gues_fst gl_Gues_self_same rfl rfl (Nat.le_of_ble_eq_true rfl) ⟨Nat.zero_le _, Nat.zero_le _⟩ dX1_setCell_38 ?_
          refine gq_iload_n X dX1_setCell_41 2 rfl ?_
          refine gq_iload_n X dX1_setCell_42 3 rfl ?_
          refine gq_letr (fun r6 er6 => ?_)
          refine gq_letr (fun s7 es7 => ?_)
          refine gq_callVr (ws' := gw_Gues cA a0 a1 a2 a3 a4 a5 a6 a7 a8 a9 a10 a11 a12 a13 a14 s7) X (gq_Ceq (res2 := some (Value.int r6.1)) (w2 := gw_Row cA a3 a4 16 r6.2) (c_X5_set l D cA a3 a4 16 (by decide) S.2.1 x2 x3) (by rw [er6]) (by rw [er6])) rfl ⟨rfl, rfl⟩ ⟨Nat.le_of_ble_eq_true rfl, Nat.le_of_ble_eq_true rfl⟩ gX1_setCell_X5_set hv_X5_set 3 rfl rfl [3, 4] gl_Gues_3_at gl_Gues_3_nd gl_Row_fst (by rw [es7]; exact gl_Gues_3_set) rfl rfl (Nat.le_of_ble_eq_true rfl) ⟨Nat.zero_le _, Nat.zero_le _⟩ dX1_setCell_43 ?_
          exact gq_iretf X dX1_setCell_46 rfl rfl
        · refine gq_ite (fun q38_2 => ?_) (fun q38_2 => ?_)
          · refine gq_callVr (ws' := gw_Gues cA a0 a1 a2 a3 a4 a5 a6 a7 a8 a9 a10 a11 a12 a13 a14 S) X (gq_Ceq (res2 := some (Value.ref a5)) (c_X1_row l D cA a0 a1 a2 a3 a4 a5 a6 a7 a8 a9 a10 a11 a12 a13 a14 S x1) (by unfold k_X1_row; rw [if_neg q38_0, if_neg q38_1, if_pos q38_2]) rfl) rfl ⟨rfl, rfl⟩ ⟨Nat.le_of_ble_eq_true rfl, Nat.le_of_ble_eq_true rfl⟩ gX1_setCell_X1_row hv_X1_row 0 gl_Gues_c0 rfl [0, 1, 2, 3, 4, 5, 6, 7, 8, 9, 10, 11, 12, 13, 14] gl_Gues_self_at gl_Gues_self_nd gl_Gues_fst gl_Gues_self_same rfl rfl (Nat.le_of_ble_eq_true rfl) ⟨Nat.zero_le _, Nat.zero_le _⟩ dX1_setCell_38 ?_
            refine gq_iload_n X dX1_setCell_41 2 rfl ?_
            refine gq_iload_n X dX1_setCell_42 3 rfl ?_
            refine gq_letr (fun r8 er8 => ?_)
            refine gq_letr (fun s9 es9 => ?_)
            refine gq_callVr (ws' := gw_Gues cA a0 a1 a2 a3 a4 a5 a6 a7 a8 a9 a10 a11 a12 a13 a14 s9) X (gq_Ceq (res2 := some (Value.int r8.1)) (w2 := gw_Row cA a5 a6 16 r8.2) (c_X5_set l D cA a5 a6 16 (by decide) S.2.2.1 x2 x3) (by rw [er8]) (by rw [er8])) rfl ⟨rfl, rfl⟩ ⟨Nat.le_of_ble_eq_true rfl, Nat.le_of_ble_eq_true rfl⟩ gX1_setCell_X5_set hv_X5_set 5 rfl rfl [5, 6] gl_Gues_5_at gl_Gues_5_nd gl_Row_fst (by rw [es9]; exact gl_Gues_5_set) rfl rfl (Nat.le_of_ble_eq_true rfl) ⟨Nat.zero_le _, Nat.zero_le _⟩ dX1_setCell_43 ?_
            exact gq_iretf X dX1_setCell_46 rfl rfl
          · refine gq_ite (fun q38_3 => ?_) (fun q38_3 => ?_)
            · refine gq_callVr (ws' := gw_Gues cA a0 a1 a2 a3 a4 a5 a6 a7 a8 a9 a10 a11 a12 a13 a14 S) X (gq_Ceq (res2 := some (Value.ref a7)) (c_X1_row l D cA a0 a1 a2 a3 a4 a5 a6 a7 a8 a9 a10 a11 a12 a13 a14 S x1) (by unfold k_X1_row; rw [if_neg q38_0, if_neg q38_1, if_neg q38_2, if_pos q38_3]) rfl) rfl ⟨rfl, rfl⟩ ⟨Nat.le_of_ble_eq_true rfl, Nat.le_of_ble_eq_true rfl⟩ gX1_setCell_X1_row hv_X1_row 0 gl_Gues_c0 rfl [0, 1, 2, 3, 4, 5, 6, 7, 8, 9, 10, 11, 12, 13, 14] gl_Gues_self_at gl_Gues_self_nd gl_Gues_fst gl_Gues_self_same rfl rfl (Nat.le_of_ble_eq_true rfl) ⟨Nat.zero_le _, Nat.zero_le _⟩ dX1_setCell_38 ?_
              refine gq_iload_n X dX1_setCell_41 2 rfl ?_
              refine gq_iload_n X dX1_setCell_42 3 rfl ?_
              refine gq_letr (fun r10 er10 => ?_)
              refine gq_letr (fun s11 es11 => ?_)
              refine gq_callVr (ws' := gw_Gues cA a0 a1 a2 a3 a4 a5 a6 a7 a8 a9 a10 a11 a12 a13 a14 s11) X (gq_Ceq (res2 := some (Value.int r10.1)) (w2 := gw_Row cA a7 a8 8 r10.2) (c_X5_set l D cA a7 a8 8 (by decide) S.2.2.2.1 x2 x3) (by rw [er10]) (by rw [er10])) rfl ⟨rfl, rfl⟩ ⟨Nat.le_of_ble_eq_true rfl, Nat.le_of_ble_eq_true rfl⟩ gX1_setCell_X5_set hv_X5_set 7 rfl rfl [7, 8] gl_Gues_7_at gl_Gues_7_nd gl_Row_fst (by rw [es11]; exact gl_Gues_7_set) rfl rfl (Nat.le_of_ble_eq_true rfl) ⟨Nat.zero_le _, Nat.zero_le _⟩ dX1_setCell_43 ?_
              exact gq_iretf X dX1_setCell_46 rfl rfl
            · refine gq_ite (fun q38_4 => ?_) (fun q38_4 => ?_)
              · refine gq_callVr (ws' := gw_Gues cA a0 a1 a2 a3 a4 a5 a6 a7 a8 a9 a10 a11 a12 a13 a14 S) X (gq_Ceq (res2 := some (Value.ref a9)) (c_X1_row l D cA a0 a1 a2 a3 a4 a5 a6 a7 a8 a9 a10 a11 a12 a13 a14 S x1) (by unfold k_X1_row; rw [if_neg q38_0, if_neg q38_1, if_neg q38_2, if_neg q38_3, if_pos q38_4]) rfl) rfl ⟨rfl, rfl⟩ ⟨Nat.le_of_ble_eq_true rfl, Nat.le_of_ble_eq_true rfl⟩ gX1_setCell_X1_row hv_X1_row 0 gl_Gues_c0 rfl [0, 1, 2, 3, 4, 5, 6, 7, 8, 9, 10, 11, 12, 13, 14] gl_Gues_self_at gl_Gues_self_nd gl_Gues_fst gl_Gues_self_same rfl rfl (Nat.le_of_ble_eq_true rfl) ⟨Nat.zero_le _, Nat.zero_le _⟩ dX1_setCell_38 ?_
                refine gq_iload_n X dX1_setCell_41 2 rfl ?_
                refine gq_iload_n X dX1_setCell_42 3 rfl ?_
                refine gq_letr (fun r12 er12 => ?_)
                refine gq_letr (fun s13 es13 => ?_)
                refine gq_callVr (ws' := gw_Gues cA a0 a1 a2 a3 a4 a5 a6 a7 a8 a9 a10 a11 a12 a13 a14 s13) X (gq_Ceq (res2 := some (Value.int r12.1)) (w2 := gw_Row cA a9 a10 8 r12.2) (c_X5_set l D cA a9 a10 8 (by decide) S.2.2.2.2.1 x2 x3) (by rw [er12]) (by rw [er12])) rfl ⟨rfl, rfl⟩ ⟨Nat.le_of_ble_eq_true rfl, Nat.le_of_ble_eq_true rfl⟩ gX1_setCell_X5_set hv_X5_set 9 rfl rfl [9, 10] gl_Gues_9_at gl_Gues_9_nd gl_Row_fst (by rw [es13]; exact gl_Gues_9_set) rfl rfl (Nat.le_of_ble_eq_true rfl) ⟨Nat.zero_le _, Nat.zero_le _⟩ dX1_setCell_43 ?_
                exact gq_iretf X dX1_setCell_46 rfl rfl
              · refine gq_callVr (ws' := gw_Gues cA a0 a1 a2 a3 a4 a5 a6 a7 a8 a9 a10 a11 a12 a13 a14 S) X (gq_Ceq (res2 := some (Value.ref a11)) (c_X1_row l D cA a0 a1 a2 a3 a4 a5 a6 a7 a8 a9 a10 a11 a12 a13 a14 S x1) (by unfold k_X1_row; rw [if_neg q38_0, if_neg q38_1, if_neg q38_2, if_neg q38_3, if_neg q38_4]) rfl) rfl ⟨rfl, rfl⟩ ⟨Nat.le_of_ble_eq_true rfl, Nat.le_of_ble_eq_true rfl⟩ gX1_setCell_X1_row hv_X1_row 0 gl_Gues_c0 rfl [0, 1, 2, 3, 4, 5, 6, 7, 8, 9, 10, 11, 12, 13, 14] gl_Gues_self_at gl_Gues_self_nd gl_Gues_fst gl_Gues_self_same rfl rfl (Nat.le_of_ble_eq_true rfl) ⟨Nat.zero_le _, Nat.zero_le _⟩ dX1_setCell_38 ?_
                refine gq_iload_n X dX1_setCell_41 2 rfl ?_
                refine gq_iload_n X dX1_setCell_42 3 rfl ?_
                refine gq_letr (fun r14 er14 => ?_)
                refine gq_letr (fun s15 es15 => ?_)
                refine gq_callVr (ws' := gw_Gues cA a0 a1 a2 a3 a4 a5 a6 a7 a8 a9 a10 a11 a12 a13 a14 s15) X (gq_Ceq (res2 := some (Value.int r14.1)) (w2 := gw_Row cA a11 a12 8 r14.2) (c_X5_set l D cA a11 a12 8 (by decide) S.2.2.2.2.2.1 x2 x3) (by rw [er14]) (by rw [er14])) rfl ⟨rfl, rfl⟩ ⟨Nat.le_of_ble_eq_true rfl, Nat.le_of_ble_eq_true rfl⟩ gX1_setCell_X5_set hv_X5_set 11 rfl rfl [11, 12] gl_Gues_11_at gl_Gues_11_nd gl_Row_fst (by rw [es15]; exact gl_Gues_11_set) rfl rfl (Nat.le_of_ble_eq_true rfl) ⟨Nat.zero_le _, Nat.zero_le _⟩ dX1_setCell_43 ?_
                exact gq_iretf X dX1_setCell_46 rfl rfl
theorem iX1_isInTargets_X1 : ∀ w ∈ u_ws RX1 TX1 8, w ∈ wsX1_isInTargets := by decide +kernel
theorem fX1_isInTargets_X1_3 : Cond.fieldLink RX1 26 (TX1 3).1 (TX1 3).2.1 (TX1 3).2.2.1 ∈ wsX1_isInTargets := by decide +kernel
theorem hv_X1_isInTargets : yX1_isInTargets.cls = RX1 ∧ yX1_isInTargets.cls ≠ "java/lang/invoke/MethodHandle" ∧ yX1_isInTargets.cls ≠ "java/lang/invoke/VarHandle" ∧ (parseMethodDescriptor yX1_isInTargets.desc).map (fun d => d.parameters.length) = some 1 := by decide +kernel
def k_X1_isInTargets (S : gs_U) (x1 : Int32) : Bool :=
  if k_X5_get 8 S.2.2.2.1 (gq_rem x1 8) = x1 then
    true
  else
    false
set_option maxHeartbeats 4000000 in
set_option maxRecDepth 100000 in
theorem c_X1_isInTargets (l : Launch) (D : va_G) (cA : ClassId) (a0 a1 a2 a3 a4 a5 a6 a7 a8 a9 a10 a11 a12 a13 a14 : Nat) (S : gs_U) (x1 : Int32) : gq_C l yX1_isInTargets wsX1_isInTargets ({ frames := 1, cells := 0, slots := 0, locals := 21 } : Room) D cA [.ref a0, .int x1] (gw_Gues cA a0 a1 a2 a3 a4 a5 a6 a7 a8 a9 a10 a11 a12 a13 a14 S) (some (.int (gq_b (k_X1_isInTargets S x1)))) (gw_Gues cA a0 a1 a2 a3 a4 a5 a6 a7 a8 a9 a10 a11 a12 a13 a14 S) := by
  refine gq_openf (own := RX1) (lv := [(0, .ref a0), (1, .int x1)]) (fun r : Bool => (some (.int (gq_b r)), gw_Gues cA a0 a1 a2 a3 a4 a5 a6 a7 a8 a9 a10 a11 a12 a13 a14 S)) (k_X1_isInTargets S x1) (by decide) rfl rfl (Nat.le_of_ble_eq_true rfl) rfl rfl rfl (fun p e s m args below meth c A X => ?_)
  unfold k_X1_isInTargets
  refine gq_aload_n X dX1_isInTargets_0 0 rfl ?_
  refine gq_get (C := RX1) (T := TX1) (N := 8) X iX1_isInTargets_X1 0 gl_Gues_c0 rfl 3 (by decide) fX1_isInTargets_X1_3 rfl dX1_isInTargets_1 ?_
  refine gq_iload_n X dX1_isInTargets_4 1 rfl ?_
  refine gq_bipush (v := 8) X dX1_isInTargets_5 (by decide) ?_
  refine gq_irem X dX1_isInTargets_7 (by decide) ?_
  refine gq_callVr (ws' := gw_Gues cA a0 a1 a2 a3 a4 a5 a6 a7 a8 a9 a10 a11 a12 a13 a14 S) X (c_X5_get l D cA a7 a8 8 (by decide) S.2.2.2.1 (gq_rem x1 8)) rfl ⟨rfl, rfl⟩ ⟨Nat.le_of_ble_eq_true rfl, Nat.le_of_ble_eq_true rfl⟩ gX1_isInTargets_X5_get hv_X5_get 7 rfl rfl [7, 8] gl_Gues_7_at gl_Gues_7_nd gl_Row_fst gl_Gues_7_same rfl rfl (Nat.le_of_ble_eq_true rfl) ⟨Nat.zero_le _, Nat.zero_le _⟩ dX1_isInTargets_8 ?_
  refine gq_iload_n X dX1_isInTargets_11 1 rfl ?_
  refine gq_ficmp_ne (tgt := 19) X dX1_isInTargets_12 (by decide) (fun h12 => ?_) (fun h12 => ?_)
  · refine gq_iconst (v := 1) X dX1_isInTargets_15 gq_i1 ?_
    refine gq_goto (tgt := 20) X dX1_isInTargets_16 (by decide) ?_
    exact gq_zretf (b := true) X dX1_isInTargets_20 rfl rfl rfl
  · refine gq_iconst (v := 0) X dX1_isInTargets_19 gq_i0 ?_
    exact gq_zretf (b := false) X dX1_isInTargets_20 rfl rfl rfl
theorem hd_X1_mixedPlace : yX1_mixedPlace.cls ≠ "java/lang/invoke/MethodHandle" ∧ yX1_mixedPlace.cls ≠ "java/lang/invoke/VarHandle" ∧ (parseMethodDescriptor yX1_mixedPlace.desc).map (fun d => d.parameters.length) = some 2 := by decide +kernel
def k_X1_mixedPlace (x0 : Int32) (x1 : Int32) : Int32 :=
  (gq_rem x0 16) ^^^ x1
set_option maxHeartbeats 4000000 in
set_option maxRecDepth 100000 in
theorem c_X1_mixedPlace (l : Launch) (D : va_G) (cA : ClassId)  (x0 : Int32) (x1 : Int32) : gq_C l yX1_mixedPlace wsX1_mixedPlace ({ frames := 0, cells := 0, slots := 0, locals := 0 } : Room) D cA [.int x0, .int x1] (([] : va_W)) (some (.int (k_X1_mixedPlace x0 x1))) (([] : va_W)) := by
  refine gq_openf (own := RX1) (lv := [(0, .int x0), (1, .int x1)]) (fun r : Int32 => (some (.int r), ([] : va_W))) (k_X1_mixedPlace x0 x1) (by decide) rfl rfl (Nat.le_of_ble_eq_true rfl) rfl rfl rfl (fun p e s m args below meth c A X => ?_)
  unfold k_X1_mixedPlace
  refine gq_iload_n X dX1_mixedPlace_0 0 rfl ?_
  refine gq_bipush (v := 16) X dX1_mixedPlace_1 (by decide) ?_
  refine gq_irem X dX1_mixedPlace_3 (by decide) ?_
  refine gq_iload_n X dX1_mixedPlace_4 1 rfl ?_
  refine gq_ixor X dX1_mixedPlace_5 ?_
  exact gq_iretf X dX1_mixedPlace_6 rfl rfl
theorem hd_X1_tellsTurn : yX1_tellsTurn.cls ≠ "java/lang/invoke/MethodHandle" ∧ yX1_tellsTurn.cls ≠ "java/lang/invoke/VarHandle" ∧ (parseMethodDescriptor yX1_tellsTurn.desc).map (fun d => d.parameters.length) = some 2 := by decide +kernel
def k_X1_tellsTurn (n : Nat) (S : gs_R) (x1 : Int32) : Bool :=
  if k_X5_get n S x1 < 2 then
    false
  else
    true
set_option maxHeartbeats 4000000 in
set_option maxRecDepth 100000 in
theorem c_X1_tellsTurn (l : Launch) (D : va_G) (cA : ClassId) (a b n : Nat) (hn : n < 2147483648) (S : gs_R) (x1 : Int32) : gq_C l yX1_tellsTurn wsX1_tellsTurn ({ frames := 1, cells := 0, slots := 0, locals := 21 } : Room) D cA [.ref a, .int x1] (gw_Row cA a b n S) (some (.int (gq_b (k_X1_tellsTurn n S x1)))) (gw_Row cA a b n S) := by
  refine gq_openf (own := RX1) (lv := [(0, .ref a), (1, .int x1)]) (fun r : Bool => (some (.int (gq_b r)), gw_Row cA a b n S)) (k_X1_tellsTurn n S x1) (by decide) rfl rfl (Nat.le_of_ble_eq_true rfl) rfl rfl rfl (fun p e s m args below meth c A X => ?_)
  unfold k_X1_tellsTurn
  refine gq_aload_n X dX1_tellsTurn_0 0 rfl ?_
  refine gq_iload_n X dX1_tellsTurn_1 1 rfl ?_
  refine gq_callVr (ws' := gw_Row cA a b n S) X (c_X5_get l D cA a b n hn S x1) rfl ⟨rfl, rfl⟩ ⟨Nat.le_of_ble_eq_true rfl, Nat.le_of_ble_eq_true rfl⟩ gX1_tellsTurn_X5_get hv_X5_get 0 rfl rfl [0, 1] rfl (by decide) rfl rfl rfl rfl (Nat.le_of_ble_eq_true rfl) ⟨Nat.zero_le _, Nat.zero_le _⟩ dX1_tellsTurn_2 ?_
  refine gq_iconst (v := 2) X dX1_tellsTurn_5 gq_i2 ?_
  refine gq_ficmp_lt (tgt := 13) X dX1_tellsTurn_6 (by decide) (fun h6 => ?_) (fun h6 => ?_)
  · refine gq_iconst (v := 0) X dX1_tellsTurn_13 gq_i0 ?_
    exact gq_zretf (b := false) X dX1_tellsTurn_14 rfl rfl rfl
  · refine gq_iconst (v := 1) X dX1_tellsTurn_9 gq_i1 ?_
    refine gq_goto (tgt := 14) X dX1_tellsTurn_10 (by decide) ?_
    exact gq_zretf (b := true) X dX1_tellsTurn_14 rfl rfl rfl
theorem mX1_step_max_1 : Cond.methodLink RX1 103 Lib.Math.max.name ∈ wsX1_step := by decide +kernel
theorem mX1_step_max_2 : Cond.static Lib.Math.max.name ∈ wsX1_step := by decide +kernel
theorem mX1_step_max_3 : Cond.initialized "java/lang/Math" ∈ wsX1_step := by decide +kernel
theorem mX1_step_max_4 : Cond.code Lib.Math.max.name Lib.Math.max.code 2 (some .int) ∈ wsX1_step := by decide +kernel
theorem mX1_step_min_1 : Cond.methodLink RX1 98 Lib.Math.min.name ∈ wsX1_step := by decide +kernel
theorem mX1_step_min_2 : Cond.static Lib.Math.min.name ∈ wsX1_step := by decide +kernel
theorem mX1_step_min_3 : Cond.initialized "java/lang/Math" ∈ wsX1_step := by decide +kernel
theorem mX1_step_min_4 : Cond.code Lib.Math.min.name Lib.Math.min.code 2 (some .int) ∈ wsX1_step := by decide +kernel
theorem hd_X1_step : yX1_step.cls ≠ "java/lang/invoke/MethodHandle" ∧ yX1_step.cls ≠ "java/lang/invoke/VarHandle" ∧ (parseMethodDescriptor yX1_step.desc).map (fun d => d.parameters.length) = some 3 := by decide +kernel
def k_X1_step (n : Nat) (S : gs_R) (x1 : Int32) (y2 : Bool) : gs_R :=
  if y2 = true then
    gq_lt ((k_X5_get n S x1) + 1) (fun v1 =>
    gq_lt (k_X5_set n S x1 (gq_max 0 (gq_min 3 v1))) (fun r2 =>
    gq_lt (r2.2) (fun s3 =>
    s3)))
  else
    gq_lt ((k_X5_get n S x1) + (-1)) (fun v4 =>
    gq_lt (k_X5_set n S x1 (gq_max 0 (gq_min 3 v4))) (fun r5 =>
    gq_lt (r5.2) (fun s6 =>
    s6)))
set_option maxHeartbeats 4000000 in
set_option maxRecDepth 100000 in
theorem c_X1_step (l : Launch) (D : va_G) (cA : ClassId) (a b n : Nat) (hn : n < 2147483648) (S : gs_R) (x1 : Int32) (y2 : Bool) : gq_C l yX1_step wsX1_step ({ frames := 1, cells := 0, slots := 0, locals := 23 } : Room) D cA [.ref a, .int x1, .int (gq_b y2)] (gw_Row cA a b n S) (none) (gw_Row cA a b n (k_X1_step n S x1 y2)) := by
  refine gq_openf (own := RX1) (lv := [(0, .ref a), (1, .int x1), (2, .int (gq_b y2))]) (fun r : gs_R => (none, gw_Row cA a b n r)) (k_X1_step n S x1 y2) (by decide) rfl rfl (Nat.le_of_ble_eq_true rfl) rfl rfl rfl (fun p e s m args below meth c A X => ?_)
  unfold k_X1_step
  refine gq_aload_n X dX1_step_0 0 rfl ?_
  refine gq_iload_n X dX1_step_1 1 rfl ?_
  refine gq_callVr (ws' := gw_Row cA a b n S) X (c_X5_get l D cA a b n hn S x1) rfl ⟨rfl, rfl⟩ ⟨Nat.le_of_ble_eq_true rfl, Nat.le_of_ble_eq_true rfl⟩ gX1_step_X5_get hv_X5_get 0 rfl rfl [0, 1] rfl (by decide) rfl rfl rfl rfl (Nat.le_of_ble_eq_true rfl) ⟨Nat.zero_le _, Nat.zero_le _⟩ dX1_step_2 ?_
  refine gq_iload_n X dX1_step_5 2 rfl ?_
  refine gq_fbif_eq (tgt := 13) X dX1_step_6 (by decide) (fun h6 => ?_) (fun h6 => ?_)
  · refine gq_iconst (v := 1) X dX1_step_9 gq_i1 ?_
    refine gq_goto (tgt := 14) X dX1_step_10 (by decide) ?_
    refine gq_iadd X dX1_step_14 ?_
    refine gq_letr (fun v1 ev1 => ?_)
    refine gq_eqst (st' := .int v1 :: _) (by rw [ev1]) ?_
    refine gq_istore_n (lv' := [(3, .int v1), (0, .ref a), (1, .int x1), (2, .int (gq_b y2))]) X dX1_step_15 (by decide) rfl ?_
    refine gq_aload_n X dX1_step_16 1 rfl ?_
    refine gq_iload_n X dX1_step_17 2 rfl ?_
    refine gq_iconst (v := 0) X dX1_step_18 gq_i0 ?_
    refine gq_iconst (v := 3) X dX1_step_19 gq_i3 ?_
    refine gq_iload_n X dX1_step_20 0 rfl ?_
    refine gq_mmin X mX1_step_min_1 mX1_step_min_2 mX1_step_min_3 mX1_step_min_4 (Nat.le_of_ble_eq_true rfl) (Nat.le_of_ble_eq_true rfl) ⟨Nat.le_of_ble_eq_true rfl, Nat.le_of_ble_eq_true rfl⟩ dX1_step_21 ?_
    refine gq_mmax X mX1_step_max_1 mX1_step_max_2 mX1_step_max_3 mX1_step_max_4 (Nat.le_of_ble_eq_true rfl) (Nat.le_of_ble_eq_true rfl) ⟨Nat.le_of_ble_eq_true rfl, Nat.le_of_ble_eq_true rfl⟩ dX1_step_24 ?_
    refine gq_letr (fun r2 er2 => ?_)
    refine gq_letr (fun s3 es3 => ?_)
    refine gq_callVr (ws' := gw_Row cA a b n s3) X (gq_Ceq (res2 := some (Value.int r2.1)) (w2 := gw_Row cA a b n r2.2) (c_X5_set l D cA a b n hn S x1 (gq_max 0 (gq_min 3 v1))) (by rw [er2]) (by rw [er2])) rfl ⟨rfl, rfl⟩ ⟨Nat.le_of_ble_eq_true rfl, Nat.le_of_ble_eq_true rfl⟩ gX1_step_X5_set hv_X5_set 0 rfl rfl [0, 1] rfl (by decide) rfl (by rw [es3]; rfl) rfl rfl (Nat.le_of_ble_eq_true rfl) ⟨Nat.zero_le _, Nat.zero_le _⟩ dX1_step_27 ?_
    refine gq_pop X dX1_step_30 rfl ?_
    exact gq_vretf X dX1_step_31 rfl rfl
  · refine gq_iconst (v := (-1)) X dX1_step_13 gq_im1 ?_
    refine gq_iadd X dX1_step_14 ?_
    refine gq_letr (fun v4 ev4 => ?_)
    refine gq_eqst (st' := .int v4 :: _) (by rw [ev4]) ?_
    refine gq_istore_n (lv' := [(3, .int v4), (0, .ref a), (1, .int x1), (2, .int (gq_b y2))]) X dX1_step_15 (by decide) rfl ?_
    refine gq_aload_n X dX1_step_16 1 rfl ?_
    refine gq_iload_n X dX1_step_17 2 rfl ?_
    refine gq_iconst (v := 0) X dX1_step_18 gq_i0 ?_
    refine gq_iconst (v := 3) X dX1_step_19 gq_i3 ?_
    refine gq_iload_n X dX1_step_20 0 rfl ?_
    refine gq_mmin X mX1_step_min_1 mX1_step_min_2 mX1_step_min_3 mX1_step_min_4 (Nat.le_of_ble_eq_true rfl) (Nat.le_of_ble_eq_true rfl) ⟨Nat.le_of_ble_eq_true rfl, Nat.le_of_ble_eq_true rfl⟩ dX1_step_21 ?_
    refine gq_mmax X mX1_step_max_1 mX1_step_max_2 mX1_step_max_3 mX1_step_max_4 (Nat.le_of_ble_eq_true rfl) (Nat.le_of_ble_eq_true rfl) ⟨Nat.le_of_ble_eq_true rfl, Nat.le_of_ble_eq_true rfl⟩ dX1_step_24 ?_
    refine gq_letr (fun r5 er5 => ?_)
    refine gq_letr (fun s6 es6 => ?_)
    refine gq_callVr (ws' := gw_Row cA a b n s6) X (gq_Ceq (res2 := some (Value.int r5.1)) (w2 := gw_Row cA a b n r5.2) (c_X5_set l D cA a b n hn S x1 (gq_max 0 (gq_min 3 v4))) (by rw [er5]) (by rw [er5])) rfl ⟨rfl, rfl⟩ ⟨Nat.le_of_ble_eq_true rfl, Nat.le_of_ble_eq_true rfl⟩ gX1_step_X5_set hv_X5_set 0 rfl rfl [0, 1] rfl (by decide) rfl (by rw [es6]; rfl) rfl rfl (Nat.le_of_ble_eq_true rfl) ⟨Nat.zero_le _, Nat.zero_le _⟩ dX1_step_27 ?_
    refine gq_pop X dX1_step_30 rfl ?_
    exact gq_vretf X dX1_step_31 rfl rfl
theorem iX1_noteBit_X1 : ∀ w ∈ u_ws RX1 TX1 8, w ∈ wsX1_noteBit := by decide +kernel
theorem fX1_noteBit_X1_7 : Cond.fieldLink RX1 42 (TX1 7).1 (TX1 7).2.1 (TX1 7).2.2.1 ∈ wsX1_noteBit := by decide +kernel
theorem hv_X1_noteBit : yX1_noteBit.cls = RX1 ∧ yX1_noteBit.cls ≠ "java/lang/invoke/MethodHandle" ∧ yX1_noteBit.cls ≠ "java/lang/invoke/VarHandle" ∧ (parseMethodDescriptor yX1_noteBit.desc).map (fun d => d.parameters.length) = some 1 := by decide +kernel
def k_X1_noteBit (S : gs_U) (y1 : Bool) : gs_U :=
  if y1 = true then
    gq_lt ((S.1, S.2.1, S.2.2.1, S.2.2.2.1, S.2.2.2.2.1, S.2.2.2.2.2.1, S.2.2.2.2.2.2.1, ((S.2.2.2.2.2.2.2 <<< (1 &&& 31)) ||| 1) &&& 15)) (fun s1 =>
    s1)
  else
    gq_lt ((S.1, S.2.1, S.2.2.1, S.2.2.2.1, S.2.2.2.2.1, S.2.2.2.2.2.1, S.2.2.2.2.2.2.1, ((S.2.2.2.2.2.2.2 <<< (1 &&& 31)) ||| 0) &&& 15)) (fun s2 =>
    s2)
set_option maxHeartbeats 4000000 in
set_option maxRecDepth 100000 in
theorem c_X1_noteBit (l : Launch) (D : va_G) (cA : ClassId) (a0 a1 a2 a3 a4 a5 a6 a7 a8 a9 a10 a11 a12 a13 a14 : Nat) (S : gs_U) (y1 : Bool) : gq_C l yX1_noteBit wsX1_noteBit ({ frames := 0, cells := 0, slots := 0, locals := 0 } : Room) D cA [.ref a0, .int (gq_b y1)] (gw_Gues cA a0 a1 a2 a3 a4 a5 a6 a7 a8 a9 a10 a11 a12 a13 a14 S) (none) (gw_Gues cA a0 a1 a2 a3 a4 a5 a6 a7 a8 a9 a10 a11 a12 a13 a14 (k_X1_noteBit S y1)) := by
  refine gq_openf (own := RX1) (lv := [(0, .ref a0), (1, .int (gq_b y1))]) (fun r : gs_U => (none, gw_Gues cA a0 a1 a2 a3 a4 a5 a6 a7 a8 a9 a10 a11 a12 a13 a14 r)) (k_X1_noteBit S y1) (by decide) rfl rfl (Nat.le_of_ble_eq_true rfl) rfl rfl rfl (fun p e s m args below meth c A X => ?_)
  unfold k_X1_noteBit
  refine gq_aload_n X dX1_noteBit_0 0 rfl ?_
  refine gq_aload_n X dX1_noteBit_1 0 rfl ?_
  refine gq_get (C := RX1) (T := TX1) (N := 8) X iX1_noteBit_X1 0 gl_Gues_c0 rfl 7 (by decide) fX1_noteBit_X1_7 rfl dX1_noteBit_2 ?_
  refine gq_iconst (v := 1) X dX1_noteBit_5 gq_i1 ?_
  refine gq_ishl X dX1_noteBit_6 ?_
  refine gq_iload_n X dX1_noteBit_7 1 rfl ?_
  refine gq_fbif_eq (tgt := 15) X dX1_noteBit_8 (by decide) (fun h8 => ?_) (fun h8 => ?_)
  · refine gq_iconst (v := 1) X dX1_noteBit_11 gq_i1 ?_
    refine gq_goto (tgt := 16) X dX1_noteBit_12 (by decide) ?_
    refine gq_ior X dX1_noteBit_16 ?_
    refine gq_bipush (v := 15) X dX1_noteBit_17 (by decide) ?_
    refine gq_iand X dX1_noteBit_19 ?_
    refine gq_letr (fun s1 es1 => ?_)
    refine gq_put (C := RX1) (T := TX1) (N := 8) (ws' := gw_Gues cA a0 a1 a2 a3 a4 a5 a6 a7 a8 a9 a10 a11 a12 a13 a14 s1) X iX1_noteBit_X1 tyX1 tyX1_ok nmX1 0 gl_Gues_c0 rfl 7 (by decide) fX1_noteBit_X1_7 rfl rfl rfl (Nat.le_of_ble_eq_true rfl) (by rw [es1]; exact gl_Gues_f7) dX1_noteBit_20 ?_
    exact gq_vretf X dX1_noteBit_23 rfl rfl
  · refine gq_iconst (v := 0) X dX1_noteBit_15 gq_i0 ?_
    refine gq_ior X dX1_noteBit_16 ?_
    refine gq_bipush (v := 15) X dX1_noteBit_17 (by decide) ?_
    refine gq_iand X dX1_noteBit_19 ?_
    refine gq_letr (fun s2 es2 => ?_)
    refine gq_put (C := RX1) (T := TX1) (N := 8) (ws' := gw_Gues cA a0 a1 a2 a3 a4 a5 a6 a7 a8 a9 a10 a11 a12 a13 a14 s2) X iX1_noteBit_X1 tyX1 tyX1_ok nmX1 0 gl_Gues_c0 rfl 7 (by decide) fX1_noteBit_X1_7 rfl rfl rfl (Nat.le_of_ble_eq_true rfl) (by rw [es2]; exact gl_Gues_f7) dX1_noteBit_20 ?_
    exact gq_vretf X dX1_noteBit_23 rfl rfl
theorem iX1_seemsToTurn_X1 : ∀ w ∈ u_ws RX1 TX1 8, w ∈ wsX1_seemsToTurn := by decide +kernel
theorem fX1_seemsToTurn_X1_0 : Cond.fieldLink RX1 14 (TX1 0).1 (TX1 0).2.1 (TX1 0).2.2.1 ∈ wsX1_seemsToTurn := by decide +kernel
theorem fX1_seemsToTurn_X1_1 : Cond.fieldLink RX1 20 (TX1 1).1 (TX1 1).2.1 (TX1 1).2.2.1 ∈ wsX1_seemsToTurn := by decide +kernel
theorem fX1_seemsToTurn_X1_2 : Cond.fieldLink RX1 23 (TX1 2).1 (TX1 2).2.1 (TX1 2).2.2.1 ∈ wsX1_seemsToTurn := by decide +kernel
theorem fX1_seemsToTurn_X1_7 : Cond.fieldLink RX1 42 (TX1 7).1 (TX1 7).2.1 (TX1 7).2.2.1 ∈ wsX1_seemsToTurn := by decide +kernel
theorem hv_X1_seemsToTurn : yX1_seemsToTurn.cls = RX1 ∧ yX1_seemsToTurn.cls ≠ "java/lang/invoke/MethodHandle" ∧ yX1_seemsToTurn.cls ≠ "java/lang/invoke/VarHandle" ∧ (parseMethodDescriptor yX1_seemsToTurn.desc).map (fun d => d.parameters.length) = some 2 := by decide +kernel
def k_X1_seemsToTurn (S : gs_U) (x1 : Int32) (x2 : Int32) : Bool :=
  if x2 = 1 then
    k_X1_tellsTurn 16 S.1 (gq_rem x1 16)
  else
    if x2 = 2 then
      k_X1_tellsTurn 16 S.2.1 (k_X1_mixedPlace x1 S.2.2.2.2.2.2.2)
    else
      if x2 = 3 then
        if k_X1_tellsTurn 16 S.2.2.1 (gq_rem x1 16) = true then
          k_X1_tellsTurn 16 S.2.1 (k_X1_mixedPlace x1 S.2.2.2.2.2.2.2)
        else
          k_X1_tellsTurn 16 S.1 (gq_rem x1 16)
      else
        false
set_option maxHeartbeats 4000000 in
set_option maxRecDepth 100000 in
theorem c_X1_seemsToTurn (l : Launch) (D : va_G) (cA : ClassId) (a0 a1 a2 a3 a4 a5 a6 a7 a8 a9 a10 a11 a12 a13 a14 : Nat) (S : gs_U) (x1 : Int32) (x2 : Int32) : gq_C l yX1_seemsToTurn wsX1_seemsToTurn ({ frames := 2, cells := 0, slots := 0, locals := 42 } : Room) D cA [.ref a0, .int x1, .int x2] (gw_Gues cA a0 a1 a2 a3 a4 a5 a6 a7 a8 a9 a10 a11 a12 a13 a14 S) (some (.int (gq_b (k_X1_seemsToTurn S x1 x2)))) (gw_Gues cA a0 a1 a2 a3 a4 a5 a6 a7 a8 a9 a10 a11 a12 a13 a14 S) := by
  refine gq_openf (own := RX1) (lv := [(0, .ref a0), (1, .int x1), (2, .int x2)]) (fun r : Bool => (some (.int (gq_b r)), gw_Gues cA a0 a1 a2 a3 a4 a5 a6 a7 a8 a9 a10 a11 a12 a13 a14 S)) (k_X1_seemsToTurn S x1 x2) (by decide) rfl rfl (Nat.le_of_ble_eq_true rfl) rfl rfl rfl (fun p e s m args below meth c A X => ?_)
  unfold k_X1_seemsToTurn
  refine gq_iload_n X dX1_seemsToTurn_0 2 rfl ?_
  refine gq_ite (fun h1_0 => ?_) (fun h1_0 => ?_)
  · refine gq_tin (k := 1) (off := 27) (tgt := 28) X dX1_seemsToTurn_1 h1_0 (by decide) (by decide) (by decide) (by decide) ?_
    refine gq_aload_n X dX1_seemsToTurn_28 0 rfl ?_
    refine gq_get (C := RX1) (T := TX1) (N := 8) X iX1_seemsToTurn_X1 0 gl_Gues_c0 rfl 0 (by decide) fX1_seemsToTurn_X1_0 rfl dX1_seemsToTurn_29 ?_
    refine gq_iload_n X dX1_seemsToTurn_32 1 rfl ?_
    refine gq_bipush (v := 16) X dX1_seemsToTurn_33 (by decide) ?_
    refine gq_irem X dX1_seemsToTurn_35 (by decide) ?_
    refine gq_callSr (ws' := gw_Gues cA a0 a1 a2 a3 a4 a5 a6 a7 a8 a9 a10 a11 a12 a13 a14 S) X (c_X1_tellsTurn l D cA a1 a2 16 (by decide) S.1 (gq_rem x1 16)) rfl ⟨rfl, rfl⟩ ⟨Nat.le_of_ble_eq_true rfl, Nat.le_of_ble_eq_true rfl⟩ gX1_seemsToTurn_X1_tellsTurn hd_X1_tellsTurn [1, 2] gl_Gues_1_at gl_Gues_1_nd gl_Row_fst gl_Gues_1_same rfl rfl (Nat.le_of_ble_eq_true rfl) ⟨Nat.zero_le _, Nat.zero_le _⟩ dX1_seemsToTurn_36 ?_
    exact gq_zretf (b := (k_X1_tellsTurn 16 S.1 (gq_rem x1 16))) X dX1_seemsToTurn_39 rfl rfl rfl
  · refine gq_ite (fun h1_1 => ?_) (fun h1_1 => ?_)
    · refine gq_tin (k := 2) (off := 39) (tgt := 40) X dX1_seemsToTurn_1 h1_1 (by decide) (by decide) (by decide) (by decide) ?_
      refine gq_aload_n X dX1_seemsToTurn_40 0 rfl ?_
      refine gq_get (C := RX1) (T := TX1) (N := 8) X iX1_seemsToTurn_X1 0 gl_Gues_c0 rfl 1 (by decide) fX1_seemsToTurn_X1_1 rfl dX1_seemsToTurn_41 ?_
      refine gq_iload_n X dX1_seemsToTurn_44 1 rfl ?_
      refine gq_aload_n X dX1_seemsToTurn_45 0 rfl ?_
      refine gq_get (C := RX1) (T := TX1) (N := 8) X iX1_seemsToTurn_X1 0 gl_Gues_c0 rfl 7 (by decide) fX1_seemsToTurn_X1_7 rfl dX1_seemsToTurn_46 ?_
      refine gq_callSr (ws' := gw_Gues cA a0 a1 a2 a3 a4 a5 a6 a7 a8 a9 a10 a11 a12 a13 a14 S) X (c_X1_mixedPlace l D cA x1 S.2.2.2.2.2.2.2) rfl ⟨rfl, rfl⟩ ⟨Nat.le_of_ble_eq_true rfl, Nat.le_of_ble_eq_true rfl⟩ gX1_seemsToTurn_X1_mixedPlace hd_X1_mixedPlace [] rfl (by decide) rfl rfl rfl rfl (Nat.le_of_ble_eq_true rfl) ⟨Nat.zero_le _, Nat.zero_le _⟩ dX1_seemsToTurn_49 ?_
      refine gq_callSr (ws' := gw_Gues cA a0 a1 a2 a3 a4 a5 a6 a7 a8 a9 a10 a11 a12 a13 a14 S) X (c_X1_tellsTurn l D cA a3 a4 16 (by decide) S.2.1 (k_X1_mixedPlace x1 S.2.2.2.2.2.2.2)) rfl ⟨rfl, rfl⟩ ⟨Nat.le_of_ble_eq_true rfl, Nat.le_of_ble_eq_true rfl⟩ gX1_seemsToTurn_X1_tellsTurn hd_X1_tellsTurn [3, 4] gl_Gues_3_at gl_Gues_3_nd gl_Row_fst gl_Gues_3_same rfl rfl (Nat.le_of_ble_eq_true rfl) ⟨Nat.zero_le _, Nat.zero_le _⟩ dX1_seemsToTurn_52 ?_
      exact gq_zretf (b := (k_X1_tellsTurn 16 S.2.1 (k_X1_mixedPlace x1 S.2.2.2.2.2.2.2))) X dX1_seemsToTurn_55 rfl rfl rfl
    · refine gq_ite (fun h1_2 => ?_) (fun h1_2 => ?_)
      · refine gq_tin (k := 3) (off := 55) (tgt := 56) X dX1_seemsToTurn_1 h1_2 (by decide) (by decide) (by decide) (by decide) ?_
        refine gq_aload_n X dX1_seemsToTurn_56 0 rfl ?_
        refine gq_get (C := RX1) (T := TX1) (N := 8) X iX1_seemsToTurn_X1 0 gl_Gues_c0 rfl 2 (by decide) fX1_seemsToTurn_X1_2 rfl dX1_seemsToTurn_57 ?_
        refine gq_iload_n X dX1_seemsToTurn_60 1 rfl ?_
        refine gq_bipush (v := 16) X dX1_seemsToTurn_61 (by decide) ?_
        refine gq_irem X dX1_seemsToTurn_63 (by decide) ?_
        refine gq_callSr (ws' := gw_Gues cA a0 a1 a2 a3 a4 a5 a6 a7 a8 a9 a10 a11 a12 a13 a14 S) X (c_X1_tellsTurn l D cA a5 a6 16 (by decide) S.2.2.1 (gq_rem x1 16)) rfl ⟨rfl, rfl⟩ ⟨Nat.le_of_ble_eq_true rfl, Nat.le_of_ble_eq_true rfl⟩ gX1_seemsToTurn_X1_tellsTurn hd_X1_tellsTurn [5, 6] gl_Gues_5_at gl_Gues_5_nd gl_Row_fst gl_Gues_5_same rfl rfl (Nat.le_of_ble_eq_true rfl) ⟨Nat.zero_le _, Nat.zero_le _⟩ dX1_seemsToTurn_64 ?_
        refine gq_fbif_eq (tgt := 88) X dX1_seemsToTurn_67 (by decide) (fun h67 => ?_) (fun h67 => ?_)
        · refine gq_aload_n X dX1_seemsToTurn_70 0 rfl ?_
          refine gq_get (C := RX1) (T := TX1) (N := 8) X iX1_seemsToTurn_X1 0 gl_Gues_c0 rfl 1 (by decide) fX1_seemsToTurn_X1_1 rfl dX1_seemsToTurn_71 ?_
          refine gq_iload_n X dX1_seemsToTurn_74 1 rfl ?_
          refine gq_aload_n X dX1_seemsToTurn_75 0 rfl ?_
          refine gq_get (C := RX1) (T := TX1) (N := 8) X iX1_seemsToTurn_X1 0 gl_Gues_c0 rfl 7 (by decide) fX1_seemsToTurn_X1_7 rfl dX1_seemsToTurn_76 ?_
          refine gq_callSr (ws' := gw_Gues cA a0 a1 a2 a3 a4 a5 a6 a7 a8 a9 a10 a11 a12 a13 a14 S) X (c_X1_mixedPlace l D cA x1 S.2.2.2.2.2.2.2) rfl ⟨rfl, rfl⟩ ⟨Nat.le_of_ble_eq_true rfl, Nat.le_of_ble_eq_true rfl⟩ gX1_seemsToTurn_X1_mixedPlace hd_X1_mixedPlace [] rfl (by decide) rfl rfl rfl rfl (Nat.le_of_ble_eq_true rfl) ⟨Nat.zero_le _, Nat.zero_le _⟩ dX1_seemsToTurn_79 ?_
          refine gq_callSr (ws' := gw_Gues cA a0 a1 a2 a3 a4 a5 a6 a7 a8 a9 a10 a11 a12 a13 a14 S) X (c_X1_tellsTurn l D cA a3 a4 16 (by decide) S.2.1 (k_X1_mixedPlace x1 S.2.2.2.2.2.2.2)) rfl ⟨rfl, rfl⟩ ⟨Nat.le_of_ble_eq_true rfl, Nat.le_of_ble_eq_true rfl⟩ gX1_seemsToTurn_X1_tellsTurn hd_X1_tellsTurn [3, 4] gl_Gues_3_at gl_Gues_3_nd gl_Row_fst gl_Gues_3_same rfl rfl (Nat.le_of_ble_eq_true rfl) ⟨Nat.zero_le _, Nat.zero_le _⟩ dX1_seemsToTurn_82 ?_
          refine gq_goto (tgt := 99) X dX1_seemsToTurn_85 (by decide) ?_
          exact gq_zretf (b := (k_X1_tellsTurn 16 S.2.1 (k_X1_mixedPlace x1 S.2.2.2.2.2.2.2))) X dX1_seemsToTurn_99 rfl rfl rfl
        · refine gq_aload_n X dX1_seemsToTurn_88 0 rfl ?_
          refine gq_get (C := RX1) (T := TX1) (N := 8) X iX1_seemsToTurn_X1 0 gl_Gues_c0 rfl 0 (by decide) fX1_seemsToTurn_X1_0 rfl dX1_seemsToTurn_89 ?_
          refine gq_iload_n X dX1_seemsToTurn_92 1 rfl ?_
          refine gq_bipush (v := 16) X dX1_seemsToTurn_93 (by decide) ?_
          refine gq_irem X dX1_seemsToTurn_95 (by decide) ?_
          refine gq_callSr (ws' := gw_Gues cA a0 a1 a2 a3 a4 a5 a6 a7 a8 a9 a10 a11 a12 a13 a14 S) X (c_X1_tellsTurn l D cA a1 a2 16 (by decide) S.1 (gq_rem x1 16)) rfl ⟨rfl, rfl⟩ ⟨Nat.le_of_ble_eq_true rfl, Nat.le_of_ble_eq_true rfl⟩ gX1_seemsToTurn_X1_tellsTurn hd_X1_tellsTurn [1, 2] gl_Gues_1_at gl_Gues_1_nd gl_Row_fst gl_Gues_1_same rfl rfl (Nat.le_of_ble_eq_true rfl) ⟨Nat.zero_le _, Nat.zero_le _⟩ dX1_seemsToTurn_96 ?_
          exact gq_zretf (b := (k_X1_tellsTurn 16 S.1 (gq_rem x1 16))) X dX1_seemsToTurn_99 rfl rfl rfl
      · refine gq_tout (tgt := 100) X dX1_seemsToTurn_1 (by have q0 := lv_neT h1_0 (show (1 : Int32).toInt = 1 by decide); have q1 := lv_neT h1_1 (show (2 : Int32).toInt = 2 by decide); have q2 := lv_neT h1_2 (show (3 : Int32).toInt = 3 by decide); omega) (by decide) ?_
        refine gq_iconst (v := 0) X dX1_seemsToTurn_100 gq_i0 ?_
        exact gq_zretf (b := false) X dX1_seemsToTurn_101 rfl rfl rfl
theorem iX1_guess_X1 : ∀ w ∈ u_ws RX1 TX1 8, w ∈ wsX1_guess := by decide +kernel
theorem fX1_guess_X1_4 : Cond.fieldLink RX1 29 (TX1 4).1 (TX1 4).2.1 (TX1 4).2.2.1 ∈ wsX1_guess := by decide +kernel
theorem fX1_guess_X1_5 : Cond.fieldLink RX1 32 (TX1 5).1 (TX1 5).2.1 (TX1 5).2.2.1 ∈ wsX1_guess := by decide +kernel
theorem fX1_guess_X1_6 : Cond.fieldLink RX1 38 (TX1 6).1 (TX1 6).2.1 (TX1 6).2.2.1 ∈ wsX1_guess := by decide +kernel
theorem nX1_guess_X6_isBranch_1 : Cond.initialized yX6_isBranch.cls ∈ wsX1_guess := by decide +kernel
theorem nX1_guess_X6_isBranch_2 : Cond.static yX6_isBranch ∈ wsX1_guess := by decide +kernel
theorem hv_X1_guess : yX1_guess.cls = RX1 ∧ yX1_guess.cls ≠ "java/lang/invoke/MethodHandle" ∧ yX1_guess.cls ≠ "java/lang/invoke/VarHandle" ∧ (parseMethodDescriptor yX1_guess.desc).map (fun d => d.parameters.length) = some 2 := by decide +kernel
def k_X1_guess (S : gs_U) (x1 : Int32) (x2 : Int32) : Int32 × gs_U :=
  if k_X1_isInTargets S x1 = true then
    gq_lt (k_X5_get 8 S.2.2.2.2.2.1 (gq_rem x1 8)) (fun v1 =>
    gq_lt (k_X5_get 8 S.2.2.2.2.1 (gq_rem x1 8)) (fun v2 =>
    if k_X6_isBranch v2 = true then
      gq_lt (k_X1_seemsToTurn S x1 x2) (fun b3 =>
      gq_lt (k_X1_noteBit S b3) (fun s4 =>
      if b3 = true then
        (v1, s4)
      else
        (x1 + 1, s4)))
    else
      if v2 = 9 then
        gq_lt (k_X2_pop 4 S.2.2.2.2.2.2.1) (fun r5 =>
        gq_lt ((S.1, S.2.1, S.2.2.1, S.2.2.2.1, S.2.2.2.2.1, S.2.2.2.2.2.1, r5.2, S.2.2.2.2.2.2.2)) (fun s6 =>
        if r5.1 = (-1) then
          (x1 + 1, s6)
        else
          (r5.1, s6)))
      else
        if v2 = 8 then
          gq_lt ((S.1, S.2.1, S.2.2.1, S.2.2.2.1, S.2.2.2.2.1, S.2.2.2.2.2.1, k_X2_pushEldestOut 4 S.2.2.2.2.2.2.1 (x1 + 1), S.2.2.2.2.2.2.2)) (fun s7 =>
          (v1, s7))
        else
          (v1, S)))
  else
    (x1 + 1, S)
set_option maxHeartbeats 4000000 in
set_option maxRecDepth 100000 in
theorem c_X1_guess (l : Launch) (D : va_G) (cA : ClassId) (a0 a1 a2 a3 a4 a5 a6 a7 a8 a9 a10 a11 a12 a13 a14 : Nat) (S : gs_U) (x1 : Int32) (x2 : Int32) : gq_C l yX1_guess wsX1_guess ({ frames := 3, cells := 0, slots := 0, locals := 64 } : Room) D cA [.ref a0, .int x1, .int x2] (gw_Gues cA a0 a1 a2 a3 a4 a5 a6 a7 a8 a9 a10 a11 a12 a13 a14 S) (some (.int (k_X1_guess S x1 x2).1)) (gw_Gues cA a0 a1 a2 a3 a4 a5 a6 a7 a8 a9 a10 a11 a12 a13 a14 ((k_X1_guess S x1 x2).2)) := by
  refine gq_openf (own := RX1) (lv := [(0, .ref a0), (1, .int x1), (2, .int x2)]) (fun r : Int32 × gs_U => (some (.int r.1), gw_Gues cA a0 a1 a2 a3 a4 a5 a6 a7 a8 a9 a10 a11 a12 a13 a14 r.2)) (k_X1_guess S x1 x2) (by decide) rfl rfl (Nat.le_of_ble_eq_true rfl) rfl rfl rfl (fun p e s m args below meth c A X => ?_)
  unfold k_X1_guess
  refine gq_aload_n X dX1_guess_0 0 rfl ?_
  refine gq_iload_n X dX1_guess_1 1 rfl ?_
  refine gq_callVr (ws' := gw_Gues cA a0 a1 a2 a3 a4 a5 a6 a7 a8 a9 a10 a11 a12 a13 a14 S) X (c_X1_isInTargets l D cA a0 a1 a2 a3 a4 a5 a6 a7 a8 a9 a10 a11 a12 a13 a14 S x1) rfl ⟨rfl, rfl⟩ ⟨Nat.le_of_ble_eq_true rfl, Nat.le_of_ble_eq_true rfl⟩ gX1_guess_X1_isInTargets hv_X1_isInTargets 0 gl_Gues_c0 rfl [0, 1, 2, 3, 4, 5, 6, 7, 8, 9, 10, 11, 12, 13, 14] gl_Gues_self_at gl_Gues_self_nd gl_Gues_fst gl_Gues_self_same rfl rfl (Nat.le_of_ble_eq_true rfl) ⟨Nat.zero_le _, Nat.zero_le _⟩ dX1_guess_2 ?_
  refine gq_fbif_ne (tgt := 12) X dX1_guess_5 (by decide) (fun h5 => ?_) (fun h5 => ?_)
  · refine gq_aload_n X dX1_guess_12 0 rfl ?_
    refine gq_get (C := RX1) (T := TX1) (N := 8) X iX1_guess_X1 0 gl_Gues_c0 rfl 5 (by decide) fX1_guess_X1_5 rfl dX1_guess_13 ?_
    refine gq_iload_n X dX1_guess_16 1 rfl ?_
    refine gq_bipush (v := 8) X dX1_guess_17 (by decide) ?_
    refine gq_irem X dX1_guess_19 (by decide) ?_
    refine gq_callVr (ws' := gw_Gues cA a0 a1 a2 a3 a4 a5 a6 a7 a8 a9 a10 a11 a12 a13 a14 S) X (c_X5_get l D cA a11 a12 8 (by decide) S.2.2.2.2.2.1 (gq_rem x1 8)) rfl ⟨rfl, rfl⟩ ⟨Nat.le_of_ble_eq_true rfl, Nat.le_of_ble_eq_true rfl⟩ gX1_guess_X5_get hv_X5_get 11 rfl rfl [11, 12] gl_Gues_11_at gl_Gues_11_nd gl_Row_fst gl_Gues_11_same rfl rfl (Nat.le_of_ble_eq_true rfl) ⟨Nat.zero_le _, Nat.zero_le _⟩ dX1_guess_20 ?_
    refine gq_letr (fun v1 ev1 => ?_)
    refine gq_eqst (st' := .int v1 :: _) (by rw [ev1]) ?_
    refine gq_istore_n (lv' := [(3, .int v1), (0, .ref a0), (1, .int x1), (2, .int x2)]) X dX1_guess_23 (by decide) rfl ?_
    refine gq_aload_n X dX1_guess_24 1 rfl ?_
    refine gq_get (C := RX1) (T := TX1) (N := 8) X iX1_guess_X1 0 gl_Gues_c0 rfl 4 (by decide) fX1_guess_X1_4 rfl dX1_guess_25 ?_
    refine gq_iload_n X dX1_guess_28 2 rfl ?_
    refine gq_bipush (v := 8) X dX1_guess_29 (by decide) ?_
    refine gq_irem X dX1_guess_31 (by decide) ?_
    refine gq_callVr (ws' := gw_Gues cA a0 a1 a2 a3 a4 a5 a6 a7 a8 a9 a10 a11 a12 a13 a14 S) X (c_X5_get l D cA a9 a10 8 (by decide) S.2.2.2.2.1 (gq_rem x1 8)) rfl ⟨rfl, rfl⟩ ⟨Nat.le_of_ble_eq_true rfl, Nat.le_of_ble_eq_true rfl⟩ gX1_guess_X5_get hv_X5_get 9 rfl rfl [9, 10] gl_Gues_9_at gl_Gues_9_nd gl_Row_fst gl_Gues_9_same rfl rfl (Nat.le_of_ble_eq_true rfl) ⟨Nat.zero_le _, Nat.zero_le _⟩ dX1_guess_32 ?_
    refine gq_letr (fun v2 ev2 => ?_)
    refine gq_eqst (st' := .int v2 :: _) (by rw [ev2]) ?_
    refine gq_istore (lv' := [(4, .int v2), (3, .int v1), (0, .ref a0), (1, .int x1), (2, .int x2)]) X dX1_guess_35 (by decide) rfl ?_
    refine gq_iload X dX1_guess_37 0 rfl ?_
    refine gq_callSNr (ws' := gw_Gues cA a0 a1 a2 a3 a4 a5 a6 a7 a8 a9 a10 a11 a12 a13 a14 S) X (c_X6_isBranch l D cA v2) rfl ⟨rfl, rfl⟩ ⟨Nat.le_of_ble_eq_true rfl, Nat.le_of_ble_eq_true rfl⟩ gX1_guess_X6_isBranch_n74 X.2.2.2.2.2.2.2.1.2.2.2.2.2 nX1_guess_X6_isBranch_1 nX1_guess_X6_isBranch_2 hd_X6_isBranch [] rfl (by decide) rfl rfl rfl rfl (Nat.le_of_ble_eq_true rfl) ⟨Nat.zero_le _, Nat.zero_le _⟩ dX1_guess_39 ?_
    refine gq_fbif_eq (tgt := 72) X dX1_guess_42 (by decide) (fun h42 => ?_) (fun h42 => ?_)
    · refine gq_aload_n X dX1_guess_45 2 rfl ?_
      refine gq_iload_n X dX1_guess_46 3 rfl ?_
      refine gq_iload_n X dX1_guess_47 4 rfl ?_
      refine gq_callVr (ws' := gw_Gues cA a0 a1 a2 a3 a4 a5 a6 a7 a8 a9 a10 a11 a12 a13 a14 S) X (c_X1_seemsToTurn l D cA a0 a1 a2 a3 a4 a5 a6 a7 a8 a9 a10 a11 a12 a13 a14 S x1 x2) rfl ⟨rfl, rfl⟩ ⟨Nat.le_of_ble_eq_true rfl, Nat.le_of_ble_eq_true rfl⟩ gX1_guess_X1_seemsToTurn hv_X1_seemsToTurn 0 gl_Gues_c0 rfl [0, 1, 2, 3, 4, 5, 6, 7, 8, 9, 10, 11, 12, 13, 14] gl_Gues_self_at gl_Gues_self_nd gl_Gues_fst gl_Gues_self_same rfl rfl (Nat.le_of_ble_eq_true rfl) ⟨Nat.zero_le _, Nat.zero_le _⟩ dX1_guess_48 ?_
      refine gq_letr (fun b3 eb3 => ?_)
      refine gq_eqst (st' := .int (gq_b b3) :: _) (by rw [eb3]) ?_
      refine gq_istore (lv' := [(5, .int (gq_b b3)), (4, .int v2), (3, .int v1), (0, .ref a0), (1, .int x1), (2, .int x2)]) X dX1_guess_51 (by decide) rfl ?_
      refine gq_aload_n X dX1_guess_53 3 rfl ?_
      refine gq_iload X dX1_guess_54 0 rfl ?_
      refine gq_letr (fun s4 es4 => ?_)
      refine gq_callVv (ws' := gw_Gues cA a0 a1 a2 a3 a4 a5 a6 a7 a8 a9 a10 a11 a12 a13 a14 s4) X (c_X1_noteBit l D cA a0 a1 a2 a3 a4 a5 a6 a7 a8 a9 a10 a11 a12 a13 a14 S b3) rfl ⟨rfl, rfl⟩ ⟨Nat.le_of_ble_eq_true rfl, Nat.le_of_ble_eq_true rfl⟩ gX1_guess_X1_noteBit hv_X1_noteBit 0 gl_Gues_c0 rfl [0, 1, 2, 3, 4, 5, 6, 7, 8, 9, 10, 11, 12, 13, 14] gl_Gues_self_at gl_Gues_self_nd gl_Gues_fst (by rw [es4]; exact gl_Gues_self_set) rfl rfl (Nat.le_of_ble_eq_true rfl) ⟨Nat.zero_le _, Nat.zero_le _⟩ dX1_guess_56 ?_
      refine gq_iload X dX1_guess_59 0 rfl ?_
      refine gq_fbif_eq (tgt := 68) X dX1_guess_61 (by decide) (fun h61 => ?_) (fun h61 => ?_)
      · refine gq_iload_n X dX1_guess_64 2 rfl ?_
        refine gq_goto (tgt := 71) X dX1_guess_65 (by decide) ?_
        exact gq_iretf X dX1_guess_71 rfl rfl
      · refine gq_iload_n X dX1_guess_68 4 rfl ?_
        refine gq_iconst (v := 1) X dX1_guess_69 gq_i1 ?_
        refine gq_iadd X dX1_guess_70 ?_
        exact gq_iretf X dX1_guess_71 rfl rfl
    · refine gq_iload X dX1_guess_72 0 rfl ?_
      refine gq_bipush (v := 9) X dX1_guess_74 (by decide) ?_
      refine gq_ficmp_ne (tgt := 103) X dX1_guess_76 (by decide) (fun h76 => ?_) (fun h76 => ?_)
      · refine gq_aload_n X dX1_guess_79 2 rfl ?_
        refine gq_get (C := RX1) (T := TX1) (N := 8) X iX1_guess_X1 0 gl_Gues_c0 rfl 6 (by decide) fX1_guess_X1_6 rfl dX1_guess_80 ?_
        refine gq_letr (fun r5 er5 => ?_)
        refine gq_letr (fun s6 es6 => ?_)
        refine gq_callVr (ws' := gw_Gues cA a0 a1 a2 a3 a4 a5 a6 a7 a8 a9 a10 a11 a12 a13 a14 s6) X (gq_Ceq (res2 := some (Value.int r5.1)) (w2 := gw_Pile cA a13 a14 4 r5.2) (c_X2_pop l D cA a13 a14 4 (by decide) S.2.2.2.2.2.2.1) (by rw [er5]) (by rw [er5])) rfl ⟨rfl, rfl⟩ ⟨Nat.le_of_ble_eq_true rfl, Nat.le_of_ble_eq_true rfl⟩ gX1_guess_X2_pop hv_X2_pop 13 rfl rfl [13, 14] gl_Gues_13_at gl_Gues_13_nd gl_Pile_fst (by rw [es6]; exact gl_Gues_13_set) rfl rfl (Nat.le_of_ble_eq_true rfl) ⟨Nat.zero_le _, Nat.zero_le _⟩ dX1_guess_83 ?_
        refine gq_istore (lv' := [(5, .int r5.1), (4, .int v2), (3, .int v1), (0, .ref a0), (1, .int x1), (2, .int x2)]) X dX1_guess_86 (by decide) rfl ?_
        refine gq_iload X dX1_guess_88 0 rfl ?_
        refine gq_iconst (v := (-1)) X dX1_guess_90 gq_im1 ?_
        refine gq_ficmp_ne (tgt := 100) X dX1_guess_91 (by decide) (fun h91 => ?_) (fun h91 => ?_)
        · refine gq_iload_n X dX1_guess_94 4 rfl ?_
          refine gq_iconst (v := 1) X dX1_guess_95 gq_i1 ?_
          refine gq_iadd X dX1_guess_96 ?_
          refine gq_goto (tgt := 102) X dX1_guess_97 (by decide) ?_
          exact gq_iretf X dX1_guess_102 rfl rfl
        · refine gq_iload X dX1_guess_100 0 rfl ?_
          exact gq_iretf X dX1_guess_102 rfl rfl
      · refine gq_iload X dX1_guess_103 0 rfl ?_
        refine gq_bipush (v := 8) X dX1_guess_105 (by decide) ?_
        refine gq_ficmp_ne (tgt := 120) X dX1_guess_107 (by decide) (fun h107 => ?_) (fun h107 => ?_)
        · refine gq_aload_n X dX1_guess_110 2 rfl ?_
          refine gq_get (C := RX1) (T := TX1) (N := 8) X iX1_guess_X1 0 gl_Gues_c0 rfl 6 (by decide) fX1_guess_X1_6 rfl dX1_guess_111 ?_
          refine gq_iload_n X dX1_guess_114 3 rfl ?_
          refine gq_iconst (v := 1) X dX1_guess_115 gq_i1 ?_
          refine gq_iadd X dX1_guess_116 ?_
          refine gq_letr (fun s7 es7 => ?_)
          refine gq_callVv (ws' := gw_Gues cA a0 a1 a2 a3 a4 a5 a6 a7 a8 a9 a10 a11 a12 a13 a14 s7) X (c_X2_pushEldestOut l D cA a13 a14 4 (by decide) S.2.2.2.2.2.2.1 (x1 + 1) (by decide)) rfl ⟨rfl, rfl⟩ ⟨Nat.le_of_ble_eq_true rfl, Nat.le_of_ble_eq_true rfl⟩ gX1_guess_X2_pushEldestOut hv_X2_pushEldestOut 13 rfl rfl [13, 14] gl_Gues_13_at gl_Gues_13_nd gl_Pile_fst (by rw [es7]; exact gl_Gues_13_set) rfl rfl (Nat.le_of_ble_eq_true rfl) ⟨Nat.zero_le _, Nat.zero_le _⟩ dX1_guess_117 ?_
          refine gq_iload_n X dX1_guess_120 1 rfl ?_
          exact gq_iretf X dX1_guess_121 rfl rfl
        · refine gq_iload_n X dX1_guess_120 1 rfl ?_
          exact gq_iretf X dX1_guess_121 rfl rfl
  · refine gq_iload_n X dX1_guess_8 1 rfl ?_
    refine gq_iconst (v := 1) X dX1_guess_9 gq_i1 ?_
    refine gq_iadd X dX1_guess_10 ?_
    exact gq_iretf X dX1_guess_11 rfl rfl
theorem iX1_learn_X1 : ∀ w ∈ u_ws RX1 TX1 8, w ∈ wsX1_learn := by decide +kernel
theorem fX1_learn_X1_0 : Cond.fieldLink RX1 14 (TX1 0).1 (TX1 0).2.1 (TX1 0).2.2.1 ∈ wsX1_learn := by decide +kernel
theorem fX1_learn_X1_1 : Cond.fieldLink RX1 20 (TX1 1).1 (TX1 1).2.1 (TX1 1).2.2.1 ∈ wsX1_learn := by decide +kernel
theorem fX1_learn_X1_2 : Cond.fieldLink RX1 23 (TX1 2).1 (TX1 2).2.1 (TX1 2).2.2.1 ∈ wsX1_learn := by decide +kernel
theorem hv_X1_learn : yX1_learn.cls = RX1 ∧ yX1_learn.cls ≠ "java/lang/invoke/MethodHandle" ∧ yX1_learn.cls ≠ "java/lang/invoke/VarHandle" ∧ (parseMethodDescriptor yX1_learn.desc).map (fun d => d.parameters.length) = some 3 := by decide +kernel
def k_X1_learn (S : gs_U) (x1 : Int32) (x2 : Int32) (y3 : Bool) : gs_U :=
  gq_lt (gq_rem x1 16) (fun v1 =>
  gq_lt (k_X1_mixedPlace x1 x2) (fun v2 =>
  gq_lt (k_X1_tellsTurn 16 S.1 v1) (fun b3 =>
  gq_lt (k_X1_tellsTurn 16 S.2.1 v2) (fun b4 =>
  gq_lt ((k_X1_step 16 S.1 v1 y3, S.2.1, S.2.2.1, S.2.2.2.1, S.2.2.2.2.1, S.2.2.2.2.2.1, S.2.2.2.2.2.2.1, S.2.2.2.2.2.2.2)) (fun s5 =>
  gq_lt ((s5.1, k_X1_step 16 s5.2.1 v2 y3, s5.2.2.1, s5.2.2.2.1, s5.2.2.2.2.1, s5.2.2.2.2.2.1, s5.2.2.2.2.2.2.1, s5.2.2.2.2.2.2.2)) (fun s6 =>
  if gq_b b3 = gq_b b4 then
    s6
  else
    if gq_b b4 = gq_b y3 then
      gq_lt ((s6.1, s6.2.1, k_X1_step 16 s6.2.2.1 v1 true, s6.2.2.2.1, s6.2.2.2.2.1, s6.2.2.2.2.2.1, s6.2.2.2.2.2.2.1, s6.2.2.2.2.2.2.2)) (fun s7 =>
      s7)
    else
      gq_lt ((s6.1, s6.2.1, k_X1_step 16 s6.2.2.1 v1 false, s6.2.2.2.1, s6.2.2.2.2.1, s6.2.2.2.2.2.1, s6.2.2.2.2.2.2.1, s6.2.2.2.2.2.2.2)) (fun s8 =>
      s8)))))))
set_option maxHeartbeats 4000000 in
set_option maxRecDepth 100000 in
theorem c_X1_learn (l : Launch) (D : va_G) (cA : ClassId) (a0 a1 a2 a3 a4 a5 a6 a7 a8 a9 a10 a11 a12 a13 a14 : Nat) (S : gs_U) (x1 : Int32) (x2 : Int32) (y3 : Bool) : gq_C l yX1_learn wsX1_learn ({ frames := 2, cells := 0, slots := 0, locals := 46 } : Room) D cA [.ref a0, .int x1, .int x2, .int (gq_b y3)] (gw_Gues cA a0 a1 a2 a3 a4 a5 a6 a7 a8 a9 a10 a11 a12 a13 a14 S) (none) (gw_Gues cA a0 a1 a2 a3 a4 a5 a6 a7 a8 a9 a10 a11 a12 a13 a14 (k_X1_learn S x1 x2 y3)) := by
  refine gq_openf (own := RX1) (lv := [(0, .ref a0), (1, .int x1), (2, .int x2), (3, .int (gq_b y3))]) (fun r : gs_U => (none, gw_Gues cA a0 a1 a2 a3 a4 a5 a6 a7 a8 a9 a10 a11 a12 a13 a14 r)) (k_X1_learn S x1 x2 y3) (by decide) rfl rfl (Nat.le_of_ble_eq_true rfl) rfl rfl rfl (fun p e s m args below meth c A X => ?_)
  unfold k_X1_learn
  refine gq_iload_n X dX1_learn_0 1 rfl ?_
  refine gq_bipush (v := 16) X dX1_learn_1 (by decide) ?_
  refine gq_irem X dX1_learn_3 (by decide) ?_
  refine gq_letr (fun v1 ev1 => ?_)
  refine gq_eqst (st' := .int v1 :: _) (by rw [ev1]) ?_
  refine gq_istore (lv' := [(4, .int v1), (0, .ref a0), (1, .int x1), (2, .int x2), (3, .int (gq_b y3))]) X dX1_learn_4 (by decide) rfl ?_
  refine gq_iload_n X dX1_learn_6 2 rfl ?_
  refine gq_iload_n X dX1_learn_7 3 rfl ?_
  refine gq_callSr (ws' := gw_Gues cA a0 a1 a2 a3 a4 a5 a6 a7 a8 a9 a10 a11 a12 a13 a14 S) X (c_X1_mixedPlace l D cA x1 x2) rfl ⟨rfl, rfl⟩ ⟨Nat.le_of_ble_eq_true rfl, Nat.le_of_ble_eq_true rfl⟩ gX1_learn_X1_mixedPlace hd_X1_mixedPlace [] rfl (by decide) rfl rfl rfl rfl (Nat.le_of_ble_eq_true rfl) ⟨Nat.zero_le _, Nat.zero_le _⟩ dX1_learn_8 ?_
  refine gq_letr (fun v2 ev2 => ?_)
  refine gq_eqst (st' := .int v2 :: _) (by rw [ev2]) ?_
  refine gq_istore (lv' := [(5, .int v2), (4, .int v1), (0, .ref a0), (1, .int x1), (2, .int x2), (3, .int (gq_b y3))]) X dX1_learn_11 (by decide) rfl ?_
  refine gq_aload_n X dX1_learn_13 2 rfl ?_
  refine gq_get (C := RX1) (T := TX1) (N := 8) X iX1_learn_X1 0 gl_Gues_c0 rfl 0 (by decide) fX1_learn_X1_0 rfl dX1_learn_14 ?_
  refine gq_iload X dX1_learn_17 1 rfl ?_
  refine gq_callSr (ws' := gw_Gues cA a0 a1 a2 a3 a4 a5 a6 a7 a8 a9 a10 a11 a12 a13 a14 S) X (c_X1_tellsTurn l D cA a1 a2 16 (by decide) S.1 v1) rfl ⟨rfl, rfl⟩ ⟨Nat.le_of_ble_eq_true rfl, Nat.le_of_ble_eq_true rfl⟩ gX1_learn_X1_tellsTurn hd_X1_tellsTurn [1, 2] gl_Gues_1_at gl_Gues_1_nd gl_Row_fst gl_Gues_1_same rfl rfl (Nat.le_of_ble_eq_true rfl) ⟨Nat.zero_le _, Nat.zero_le _⟩ dX1_learn_19 ?_
  refine gq_letr (fun b3 eb3 => ?_)
  refine gq_eqst (st' := .int (gq_b b3) :: _) (by rw [eb3]) ?_
  refine gq_istore (lv' := [(6, .int (gq_b b3)), (5, .int v2), (4, .int v1), (0, .ref a0), (1, .int x1), (2, .int x2), (3, .int (gq_b y3))]) X dX1_learn_22 (by decide) rfl ?_
  refine gq_aload_n X dX1_learn_24 3 rfl ?_
  refine gq_get (C := RX1) (T := TX1) (N := 8) X iX1_learn_X1 0 gl_Gues_c0 rfl 1 (by decide) fX1_learn_X1_1 rfl dX1_learn_25 ?_
  refine gq_iload X dX1_learn_28 1 rfl ?_
  refine gq_callSr (ws' := gw_Gues cA a0 a1 a2 a3 a4 a5 a6 a7 a8 a9 a10 a11 a12 a13 a14 S) X (c_X1_tellsTurn l D cA a3 a4 16 (by decide) S.2.1 v2) rfl ⟨rfl, rfl⟩ ⟨Nat.le_of_ble_eq_true rfl, Nat.le_of_ble_eq_true rfl⟩ gX1_learn_X1_tellsTurn hd_X1_tellsTurn [3, 4] gl_Gues_3_at gl_Gues_3_nd gl_Row_fst gl_Gues_3_same rfl rfl (Nat.le_of_ble_eq_true rfl) ⟨Nat.zero_le _, Nat.zero_le _⟩ dX1_learn_30 ?_
  refine gq_letr (fun b4 eb4 => ?_)
  refine gq_eqst (st' := .int (gq_b b4) :: _) (by rw [eb4]) ?_
  refine gq_istore (lv' := [(7, .int (gq_b b4)), (6, .int (gq_b b3)), (5, .int v2), (4, .int v1), (0, .ref a0), (1, .int x1), (2, .int x2), (3, .int (gq_b y3))]) X dX1_learn_33 (by decide) rfl ?_
  refine gq_aload_n X dX1_learn_35 4 rfl ?_
  refine gq_get (C := RX1) (T := TX1) (N := 8) X iX1_learn_X1 0 gl_Gues_c0 rfl 0 (by decide) fX1_learn_X1_0 rfl dX1_learn_36 ?_
  refine gq_iload X dX1_learn_39 3 rfl ?_
  refine gq_iload_n X dX1_learn_41 7 rfl ?_
  refine gq_letr (fun s5 es5 => ?_)
  refine gq_callSv (ws' := gw_Gues cA a0 a1 a2 a3 a4 a5 a6 a7 a8 a9 a10 a11 a12 a13 a14 s5) X (c_X1_step l D cA a1 a2 16 (by decide) S.1 v1 y3) rfl ⟨rfl, rfl⟩ ⟨Nat.le_of_ble_eq_true rfl, Nat.le_of_ble_eq_true rfl⟩ gX1_learn_X1_step hd_X1_step [1, 2] gl_Gues_1_at gl_Gues_1_nd gl_Row_fst (by rw [es5]; exact gl_Gues_1_set) rfl rfl (Nat.le_of_ble_eq_true rfl) ⟨Nat.zero_le _, Nat.zero_le _⟩ dX1_learn_42 ?_
  refine gq_aload_n X dX1_learn_45 4 rfl ?_
  refine gq_get (C := RX1) (T := TX1) (N := 8) X iX1_learn_X1 0 gl_Gues_c0 rfl 1 (by decide) fX1_learn_X1_1 rfl dX1_learn_46 ?_
  refine gq_iload X dX1_learn_49 2 rfl ?_
  refine gq_iload_n X dX1_learn_51 7 rfl ?_
  refine gq_letr (fun s6 es6 => ?_)
  refine gq_callSv (ws' := gw_Gues cA a0 a1 a2 a3 a4 a5 a6 a7 a8 a9 a10 a11 a12 a13 a14 s6) X (c_X1_step l D cA a3 a4 16 (by decide) s5.2.1 v2 y3) rfl ⟨rfl, rfl⟩ ⟨Nat.le_of_ble_eq_true rfl, Nat.le_of_ble_eq_true rfl⟩ gX1_learn_X1_step hd_X1_step [3, 4] gl_Gues_3_at gl_Gues_3_nd gl_Row_fst (by rw [es6]; exact gl_Gues_3_set) rfl rfl (Nat.le_of_ble_eq_true rfl) ⟨Nat.zero_le _, Nat.zero_le _⟩ dX1_learn_52 ?_
  refine gq_iload X dX1_learn_55 1 rfl ?_
  refine gq_iload X dX1_learn_57 0 rfl ?_
  refine gq_ficmp_eq (tgt := 82) X dX1_learn_59 (by decide) (fun h59 => ?_) (fun h59 => ?_)
  · exact gq_vretf X dX1_learn_82 rfl rfl
  · refine gq_aload_n X dX1_learn_62 4 rfl ?_
    refine gq_get (C := RX1) (T := TX1) (N := 8) X iX1_learn_X1 0 gl_Gues_c0 rfl 2 (by decide) fX1_learn_X1_2 rfl dX1_learn_63 ?_
    refine gq_iload X dX1_learn_66 3 rfl ?_
    refine gq_iload X dX1_learn_68 0 rfl ?_
    refine gq_iload_n X dX1_learn_70 7 rfl ?_
    refine gq_ficmp_ne (tgt := 78) X dX1_learn_71 (by decide) (fun h71 => ?_) (fun h71 => ?_)
    · refine gq_iconst (v := 1) X dX1_learn_74 gq_i1 ?_
      refine gq_goto (tgt := 79) X dX1_learn_75 (by decide) ?_
      refine gq_letr (fun s7 es7 => ?_)
      refine gq_callSv (ws' := gw_Gues cA a0 a1 a2 a3 a4 a5 a6 a7 a8 a9 a10 a11 a12 a13 a14 s7) X (c_X1_step l D cA a5 a6 16 (by decide) s6.2.2.1 v1 true) rfl ⟨rfl, rfl⟩ ⟨Nat.le_of_ble_eq_true rfl, Nat.le_of_ble_eq_true rfl⟩ gX1_learn_X1_step hd_X1_step [5, 6] gl_Gues_5_at gl_Gues_5_nd gl_Row_fst (by rw [es7]; exact gl_Gues_5_set) rfl rfl (Nat.le_of_ble_eq_true rfl) ⟨Nat.zero_le _, Nat.zero_le _⟩ dX1_learn_79 ?_
      exact gq_vretf X dX1_learn_82 rfl rfl
    · refine gq_iconst (v := 0) X dX1_learn_78 gq_i0 ?_
      refine gq_letr (fun s8 es8 => ?_)
      refine gq_callSv (ws' := gw_Gues cA a0 a1 a2 a3 a4 a5 a6 a7 a8 a9 a10 a11 a12 a13 a14 s8) X (c_X1_step l D cA a5 a6 16 (by decide) s6.2.2.1 v1 false) rfl ⟨rfl, rfl⟩ ⟨Nat.le_of_ble_eq_true rfl, Nat.le_of_ble_eq_true rfl⟩ gX1_learn_X1_step hd_X1_step [5, 6] gl_Gues_5_at gl_Gues_5_nd gl_Row_fst (by rw [es8]; exact gl_Gues_5_set) rfl rfl (Nat.le_of_ble_eq_true rfl) ⟨Nat.zero_le _, Nat.zero_le _⟩ dX1_learn_79 ?_
      exact gq_vretf X dX1_learn_82 rfl rfl
theorem iX1_noteTarget_X1 : ∀ w ∈ u_ws RX1 TX1 8, w ∈ wsX1_noteTarget := by decide +kernel
theorem fX1_noteTarget_X1_3 : Cond.fieldLink RX1 26 (TX1 3).1 (TX1 3).2.1 (TX1 3).2.2.1 ∈ wsX1_noteTarget := by decide +kernel
theorem fX1_noteTarget_X1_4 : Cond.fieldLink RX1 29 (TX1 4).1 (TX1 4).2.1 (TX1 4).2.2.1 ∈ wsX1_noteTarget := by decide +kernel
theorem fX1_noteTarget_X1_5 : Cond.fieldLink RX1 32 (TX1 5).1 (TX1 5).2.1 (TX1 5).2.2.1 ∈ wsX1_noteTarget := by decide +kernel
theorem hv_X1_noteTarget : yX1_noteTarget.cls = RX1 ∧ yX1_noteTarget.cls ≠ "java/lang/invoke/MethodHandle" ∧ yX1_noteTarget.cls ≠ "java/lang/invoke/VarHandle" ∧ (parseMethodDescriptor yX1_noteTarget.desc).map (fun d => d.parameters.length) = some 3 := by decide +kernel
def k_X1_noteTarget (S : gs_U) (x1 : Int32) (x2 : Int32) (x3 : Int32) : gs_U :=
  gq_lt (k_X5_set 8 S.2.2.2.1 (gq_rem x1 8) x1) (fun r1 =>
  gq_lt ((S.1, S.2.1, S.2.2.1, r1.2, S.2.2.2.2.1, S.2.2.2.2.2.1, S.2.2.2.2.2.2.1, S.2.2.2.2.2.2.2)) (fun s2 =>
  gq_lt (k_X5_set 8 s2.2.2.2.2.1 (gq_rem x1 8) x2) (fun r3 =>
  gq_lt ((s2.1, s2.2.1, s2.2.2.1, s2.2.2.2.1, r3.2, s2.2.2.2.2.2.1, s2.2.2.2.2.2.2.1, s2.2.2.2.2.2.2.2)) (fun s4 =>
  gq_lt (k_X5_set 8 s4.2.2.2.2.2.1 (gq_rem x1 8) x3) (fun r5 =>
  gq_lt ((s4.1, s4.2.1, s4.2.2.1, s4.2.2.2.1, s4.2.2.2.2.1, r5.2, s4.2.2.2.2.2.2.1, s4.2.2.2.2.2.2.2)) (fun s6 =>
  s6))))))
set_option maxHeartbeats 4000000 in
set_option maxRecDepth 100000 in
theorem c_X1_noteTarget (l : Launch) (D : va_G) (cA : ClassId) (a0 a1 a2 a3 a4 a5 a6 a7 a8 a9 a10 a11 a12 a13 a14 : Nat) (S : gs_U) (x1 : Int32) (x2 : Int32) (x3 : Int32) : gq_C l yX1_noteTarget wsX1_noteTarget ({ frames := 1, cells := 0, slots := 0, locals := 23 } : Room) D cA [.ref a0, .int x1, .int x2, .int x3] (gw_Gues cA a0 a1 a2 a3 a4 a5 a6 a7 a8 a9 a10 a11 a12 a13 a14 S) (none) (gw_Gues cA a0 a1 a2 a3 a4 a5 a6 a7 a8 a9 a10 a11 a12 a13 a14 (k_X1_noteTarget S x1 x2 x3)) := by
  refine gq_openf (own := RX1) (lv := [(0, .ref a0), (1, .int x1), (2, .int x2), (3, .int x3)]) (fun r : gs_U => (none, gw_Gues cA a0 a1 a2 a3 a4 a5 a6 a7 a8 a9 a10 a11 a12 a13 a14 r)) (k_X1_noteTarget S x1 x2 x3) (by decide) rfl rfl (Nat.le_of_ble_eq_true rfl) rfl rfl rfl (fun p e s m args below meth c A X => ?_)
  unfold k_X1_noteTarget
  refine gq_aload_n X dX1_noteTarget_0 0 rfl ?_
  refine gq_get (C := RX1) (T := TX1) (N := 8) X iX1_noteTarget_X1 0 gl_Gues_c0 rfl 3 (by decide) fX1_noteTarget_X1_3 rfl dX1_noteTarget_1 ?_
  refine gq_iload_n X dX1_noteTarget_4 1 rfl ?_
  refine gq_bipush (v := 8) X dX1_noteTarget_5 (by decide) ?_
  refine gq_irem X dX1_noteTarget_7 (by decide) ?_
  refine gq_iload_n X dX1_noteTarget_8 1 rfl ?_
  refine gq_letr (fun r1 er1 => ?_)
  refine gq_letr (fun s2 es2 => ?_)
  refine gq_callVr (ws' := gw_Gues cA a0 a1 a2 a3 a4 a5 a6 a7 a8 a9 a10 a11 a12 a13 a14 s2) X (gq_Ceq (res2 := some (Value.int r1.1)) (w2 := gw_Row cA a7 a8 8 r1.2) (c_X5_set l D cA a7 a8 8 (by decide) S.2.2.2.1 (gq_rem x1 8) x1) (by rw [er1]) (by rw [er1])) rfl ⟨rfl, rfl⟩ ⟨Nat.le_of_ble_eq_true rfl, Nat.le_of_ble_eq_true rfl⟩ gX1_noteTarget_X5_set hv_X5_set 7 rfl rfl [7, 8] gl_Gues_7_at gl_Gues_7_nd gl_Row_fst (by rw [es2]; exact gl_Gues_7_set) rfl rfl (Nat.le_of_ble_eq_true rfl) ⟨Nat.zero_le _, Nat.zero_le _⟩ dX1_noteTarget_9 ?_
  refine gq_pop X dX1_noteTarget_12 rfl ?_
  refine gq_aload_n X dX1_noteTarget_13 0 rfl ?_
  refine gq_get (C := RX1) (T := TX1) (N := 8) X iX1_noteTarget_X1 0 gl_Gues_c0 rfl 4 (by decide) fX1_noteTarget_X1_4 rfl dX1_noteTarget_14 ?_
  refine gq_iload_n X dX1_noteTarget_17 1 rfl ?_
  refine gq_bipush (v := 8) X dX1_noteTarget_18 (by decide) ?_
  refine gq_irem X dX1_noteTarget_20 (by decide) ?_
  refine gq_iload_n X dX1_noteTarget_21 2 rfl ?_
  refine gq_letr (fun r3 er3 => ?_)
  refine gq_letr (fun s4 es4 => ?_)
  refine gq_callVr (ws' := gw_Gues cA a0 a1 a2 a3 a4 a5 a6 a7 a8 a9 a10 a11 a12 a13 a14 s4) X (gq_Ceq (res2 := some (Value.int r3.1)) (w2 := gw_Row cA a9 a10 8 r3.2) (c_X5_set l D cA a9 a10 8 (by decide) s2.2.2.2.2.1 (gq_rem x1 8) x2) (by rw [er3]) (by rw [er3])) rfl ⟨rfl, rfl⟩ ⟨Nat.le_of_ble_eq_true rfl, Nat.le_of_ble_eq_true rfl⟩ gX1_noteTarget_X5_set hv_X5_set 9 rfl rfl [9, 10] gl_Gues_9_at gl_Gues_9_nd gl_Row_fst (by rw [es4]; exact gl_Gues_9_set) rfl rfl (Nat.le_of_ble_eq_true rfl) ⟨Nat.zero_le _, Nat.zero_le _⟩ dX1_noteTarget_22 ?_
  refine gq_pop X dX1_noteTarget_25 rfl ?_
  refine gq_aload_n X dX1_noteTarget_26 0 rfl ?_
  refine gq_get (C := RX1) (T := TX1) (N := 8) X iX1_noteTarget_X1 0 gl_Gues_c0 rfl 5 (by decide) fX1_noteTarget_X1_5 rfl dX1_noteTarget_27 ?_
  refine gq_iload_n X dX1_noteTarget_30 1 rfl ?_
  refine gq_bipush (v := 8) X dX1_noteTarget_31 (by decide) ?_
  refine gq_irem X dX1_noteTarget_33 (by decide) ?_
  refine gq_iload_n X dX1_noteTarget_34 3 rfl ?_
  refine gq_letr (fun r5 er5 => ?_)
  refine gq_letr (fun s6 es6 => ?_)
  refine gq_callVr (ws' := gw_Gues cA a0 a1 a2 a3 a4 a5 a6 a7 a8 a9 a10 a11 a12 a13 a14 s6) X (gq_Ceq (res2 := some (Value.int r5.1)) (w2 := gw_Row cA a11 a12 8 r5.2) (c_X5_set l D cA a11 a12 8 (by decide) s4.2.2.2.2.2.1 (gq_rem x1 8) x3) (by rw [er5]) (by rw [er5])) rfl ⟨rfl, rfl⟩ ⟨Nat.le_of_ble_eq_true rfl, Nat.le_of_ble_eq_true rfl⟩ gX1_noteTarget_X5_set hv_X5_set 11 rfl rfl [11, 12] gl_Gues_11_at gl_Gues_11_nd gl_Row_fst (by rw [es6]; exact gl_Gues_11_set) rfl rfl (Nat.le_of_ble_eq_true rfl) ⟨Nat.zero_le _, Nat.zero_le _⟩ dX1_noteTarget_35 ?_
  refine gq_pop X dX1_noteTarget_38 rfl ?_
  exact gq_vretf X dX1_noteTarget_39 rfl rfl
theorem iX1_noteWhatWasDone_X1 : ∀ w ∈ u_ws RX1 TX1 8, w ∈ wsX1_noteWhatWasDone := by decide +kernel
theorem fX1_noteWhatWasDone_X1_6 : Cond.fieldLink RX1 38 (TX1 6).1 (TX1 6).2.1 (TX1 6).2.2.1 ∈ wsX1_noteWhatWasDone := by decide +kernel
theorem nX1_noteWhatWasDone_X6_isBranch_1 : Cond.initialized yX6_isBranch.cls ∈ wsX1_noteWhatWasDone := by decide +kernel
theorem nX1_noteWhatWasDone_X6_isBranch_2 : Cond.static yX6_isBranch ∈ wsX1_noteWhatWasDone := by decide +kernel
theorem hv_X1_noteWhatWasDone : yX1_noteWhatWasDone.cls = RX1 ∧ yX1_noteWhatWasDone.cls ≠ "java/lang/invoke/MethodHandle" ∧ yX1_noteWhatWasDone.cls ≠ "java/lang/invoke/VarHandle" ∧ (parseMethodDescriptor yX1_noteWhatWasDone.desc).map (fun d => d.parameters.length) = some 3 := by decide +kernel
def k_X1_noteWhatWasDone (S : gs_U) (x1 : Int32) (x2 : Int32) (y3 : Bool) : gs_U :=
  if k_X6_isBranch x2 = true then
    gq_lt (k_X1_noteBit S y3) (fun s1 =>
    if x2 = 8 then
      gq_lt ((s1.1, s1.2.1, s1.2.2.1, s1.2.2.2.1, s1.2.2.2.2.1, s1.2.2.2.2.2.1, k_X2_pushEldestOut 4 s1.2.2.2.2.2.2.1 (x1 + 1), s1.2.2.2.2.2.2.2)) (fun s2 =>
      s2)
    else
      if x2 = 9 then
        gq_lt (k_X2_pop 4 s1.2.2.2.2.2.2.1) (fun r3 =>
        gq_lt ((s1.1, s1.2.1, s1.2.2.1, s1.2.2.2.1, s1.2.2.2.2.1, s1.2.2.2.2.2.1, r3.2, s1.2.2.2.2.2.2.2)) (fun s4 =>
        s4))
      else
        s1)
  else
    if x2 = 8 then
      gq_lt ((S.1, S.2.1, S.2.2.1, S.2.2.2.1, S.2.2.2.2.1, S.2.2.2.2.2.1, k_X2_pushEldestOut 4 S.2.2.2.2.2.2.1 (x1 + 1), S.2.2.2.2.2.2.2)) (fun s5 =>
      s5)
    else
      if x2 = 9 then
        gq_lt (k_X2_pop 4 S.2.2.2.2.2.2.1) (fun r6 =>
        gq_lt ((S.1, S.2.1, S.2.2.1, S.2.2.2.1, S.2.2.2.2.1, S.2.2.2.2.2.1, r6.2, S.2.2.2.2.2.2.2)) (fun s7 =>
        s7))
      else
        S
set_option maxHeartbeats 4000000 in
set_option maxRecDepth 100000 in
theorem c_X1_noteWhatWasDone (l : Launch) (D : va_G) (cA : ClassId) (a0 a1 a2 a3 a4 a5 a6 a7 a8 a9 a10 a11 a12 a13 a14 : Nat) (S : gs_U) (x1 : Int32) (x2 : Int32) (y3 : Bool) : gq_C l yX1_noteWhatWasDone wsX1_noteWhatWasDone ({ frames := 3, cells := 0, slots := 0, locals := 63 } : Room) D cA [.ref a0, .int x1, .int x2, .int (gq_b y3)] (gw_Gues cA a0 a1 a2 a3 a4 a5 a6 a7 a8 a9 a10 a11 a12 a13 a14 S) (none) (gw_Gues cA a0 a1 a2 a3 a4 a5 a6 a7 a8 a9 a10 a11 a12 a13 a14 (k_X1_noteWhatWasDone S x1 x2 y3)) := by
  refine gq_openf (own := RX1) (lv := [(0, .ref a0), (1, .int x1), (2, .int x2), (3, .int (gq_b y3))]) (fun r : gs_U => (none, gw_Gues cA a0 a1 a2 a3 a4 a5 a6 a7 a8 a9 a10 a11 a12 a13 a14 r)) (k_X1_noteWhatWasDone S x1 x2 y3) (by decide) rfl rfl (Nat.le_of_ble_eq_true rfl) rfl rfl rfl (fun p e s m args below meth c A X => ?_)
  unfold k_X1_noteWhatWasDone
  refine gq_iload_n X dX1_noteWhatWasDone_0 2 rfl ?_
  refine gq_callSNr (ws' := gw_Gues cA a0 a1 a2 a3 a4 a5 a6 a7 a8 a9 a10 a11 a12 a13 a14 S) X (c_X6_isBranch l D cA x2) rfl ⟨rfl, rfl⟩ ⟨Nat.le_of_ble_eq_true rfl, Nat.le_of_ble_eq_true rfl⟩ gX1_noteWhatWasDone_X6_isBranch_n74 X.2.2.2.2.2.2.2.1.2.2.2.2.2 nX1_noteWhatWasDone_X6_isBranch_1 nX1_noteWhatWasDone_X6_isBranch_2 hd_X6_isBranch [] rfl (by decide) rfl rfl rfl rfl (Nat.le_of_ble_eq_true rfl) ⟨Nat.zero_le _, Nat.zero_le _⟩ dX1_noteWhatWasDone_1 ?_
  refine gq_fbif_eq (tgt := 12) X dX1_noteWhatWasDone_4 (by decide) (fun h4 => ?_) (fun h4 => ?_)
  · refine gq_aload_n X dX1_noteWhatWasDone_7 0 rfl ?_
    refine gq_iload_n X dX1_noteWhatWasDone_8 3 rfl ?_
    refine gq_letr (fun s1 es1 => ?_)
    refine gq_callVv (ws' := gw_Gues cA a0 a1 a2 a3 a4 a5 a6 a7 a8 a9 a10 a11 a12 a13 a14 s1) X (c_X1_noteBit l D cA a0 a1 a2 a3 a4 a5 a6 a7 a8 a9 a10 a11 a12 a13 a14 S y3) rfl ⟨rfl, rfl⟩ ⟨Nat.le_of_ble_eq_true rfl, Nat.le_of_ble_eq_true rfl⟩ gX1_noteWhatWasDone_X1_noteBit hv_X1_noteBit 0 gl_Gues_c0 rfl [0, 1, 2, 3, 4, 5, 6, 7, 8, 9, 10, 11, 12, 13, 14] gl_Gues_self_at gl_Gues_self_nd gl_Gues_fst (by rw [es1]; exact gl_Gues_self_set) rfl rfl (Nat.le_of_ble_eq_true rfl) ⟨Nat.zero_le _, Nat.zero_le _⟩ dX1_noteWhatWasDone_9 ?_
    refine gq_iload_n X dX1_noteWhatWasDone_12 2 rfl ?_
    refine gq_bipush (v := 8) X dX1_noteWhatWasDone_13 (by decide) ?_
    refine gq_ficmp_ne (tgt := 28) X dX1_noteWhatWasDone_15 (by decide) (fun h15 => ?_) (fun h15 => ?_)
    · refine gq_aload_n X dX1_noteWhatWasDone_18 0 rfl ?_
      refine gq_get (C := RX1) (T := TX1) (N := 8) X iX1_noteWhatWasDone_X1 0 gl_Gues_c0 rfl 6 (by decide) fX1_noteWhatWasDone_X1_6 rfl dX1_noteWhatWasDone_19 ?_
      refine gq_iload_n X dX1_noteWhatWasDone_22 1 rfl ?_
      refine gq_iconst (v := 1) X dX1_noteWhatWasDone_23 gq_i1 ?_
      refine gq_iadd X dX1_noteWhatWasDone_24 ?_
      refine gq_letr (fun s2 es2 => ?_)
      refine gq_callVv (ws' := gw_Gues cA a0 a1 a2 a3 a4 a5 a6 a7 a8 a9 a10 a11 a12 a13 a14 s2) X (c_X2_pushEldestOut l D cA a13 a14 4 (by decide) s1.2.2.2.2.2.2.1 (x1 + 1) (by decide)) rfl ⟨rfl, rfl⟩ ⟨Nat.le_of_ble_eq_true rfl, Nat.le_of_ble_eq_true rfl⟩ gX1_noteWhatWasDone_X2_pushEldestOut hv_X2_pushEldestOut 13 rfl rfl [13, 14] gl_Gues_13_at gl_Gues_13_nd gl_Pile_fst (by rw [es2]; exact gl_Gues_13_set) rfl rfl (Nat.le_of_ble_eq_true rfl) ⟨Nat.zero_le _, Nat.zero_le _⟩ dX1_noteWhatWasDone_25 ?_
      refine gq_iload_n X dX1_noteWhatWasDone_28 2 rfl ?_
      refine gq_bipush (v := 9) X dX1_noteWhatWasDone_29 (by decide) ?_
      refine gq_icmp_ne (tgt := 42) X dX1_noteWhatWasDone_31 (by decide) (fun _ => ?_) (fun h => absurd h (by rw [h15]; decide))
      exact gq_vretf X dX1_noteWhatWasDone_42 rfl rfl
    · refine gq_iload_n X dX1_noteWhatWasDone_28 2 rfl ?_
      refine gq_bipush (v := 9) X dX1_noteWhatWasDone_29 (by decide) ?_
      refine gq_ficmp_ne (tgt := 42) X dX1_noteWhatWasDone_31 (by decide) (fun h31 => ?_) (fun h31 => ?_)
      · refine gq_aload_n X dX1_noteWhatWasDone_34 0 rfl ?_
        refine gq_get (C := RX1) (T := TX1) (N := 8) X iX1_noteWhatWasDone_X1 0 gl_Gues_c0 rfl 6 (by decide) fX1_noteWhatWasDone_X1_6 rfl dX1_noteWhatWasDone_35 ?_
        refine gq_letr (fun r3 er3 => ?_)
        refine gq_letr (fun s4 es4 => ?_)
        refine gq_callVr (ws' := gw_Gues cA a0 a1 a2 a3 a4 a5 a6 a7 a8 a9 a10 a11 a12 a13 a14 s4) X (gq_Ceq (res2 := some (Value.int r3.1)) (w2 := gw_Pile cA a13 a14 4 r3.2) (c_X2_pop l D cA a13 a14 4 (by decide) s1.2.2.2.2.2.2.1) (by rw [er3]) (by rw [er3])) rfl ⟨rfl, rfl⟩ ⟨Nat.le_of_ble_eq_true rfl, Nat.le_of_ble_eq_true rfl⟩ gX1_noteWhatWasDone_X2_pop hv_X2_pop 13 rfl rfl [13, 14] gl_Gues_13_at gl_Gues_13_nd gl_Pile_fst (by rw [es4]; exact gl_Gues_13_set) rfl rfl (Nat.le_of_ble_eq_true rfl) ⟨Nat.zero_le _, Nat.zero_le _⟩ dX1_noteWhatWasDone_38 ?_
        refine gq_pop X dX1_noteWhatWasDone_41 rfl ?_
        exact gq_vretf X dX1_noteWhatWasDone_42 rfl rfl
      · exact gq_vretf X dX1_noteWhatWasDone_42 rfl rfl
  · refine gq_iload_n X dX1_noteWhatWasDone_12 2 rfl ?_
    refine gq_bipush (v := 8) X dX1_noteWhatWasDone_13 (by decide) ?_
    refine gq_ficmp_ne (tgt := 28) X dX1_noteWhatWasDone_15 (by decide) (fun h15 => ?_) (fun h15 => ?_)
    · refine gq_aload_n X dX1_noteWhatWasDone_18 0 rfl ?_
      refine gq_get (C := RX1) (T := TX1) (N := 8) X iX1_noteWhatWasDone_X1 0 gl_Gues_c0 rfl 6 (by decide) fX1_noteWhatWasDone_X1_6 rfl dX1_noteWhatWasDone_19 ?_
      refine gq_iload_n X dX1_noteWhatWasDone_22 1 rfl ?_
      refine gq_iconst (v := 1) X dX1_noteWhatWasDone_23 gq_i1 ?_
      refine gq_iadd X dX1_noteWhatWasDone_24 ?_
      refine gq_letr (fun s5 es5 => ?_)
      refine gq_callVv (ws' := gw_Gues cA a0 a1 a2 a3 a4 a5 a6 a7 a8 a9 a10 a11 a12 a13 a14 s5) X (c_X2_pushEldestOut l D cA a13 a14 4 (by decide) S.2.2.2.2.2.2.1 (x1 + 1) (by decide)) rfl ⟨rfl, rfl⟩ ⟨Nat.le_of_ble_eq_true rfl, Nat.le_of_ble_eq_true rfl⟩ gX1_noteWhatWasDone_X2_pushEldestOut hv_X2_pushEldestOut 13 rfl rfl [13, 14] gl_Gues_13_at gl_Gues_13_nd gl_Pile_fst (by rw [es5]; exact gl_Gues_13_set) rfl rfl (Nat.le_of_ble_eq_true rfl) ⟨Nat.zero_le _, Nat.zero_le _⟩ dX1_noteWhatWasDone_25 ?_
      refine gq_iload_n X dX1_noteWhatWasDone_28 2 rfl ?_
      refine gq_bipush (v := 9) X dX1_noteWhatWasDone_29 (by decide) ?_
      refine gq_icmp_ne (tgt := 42) X dX1_noteWhatWasDone_31 (by decide) (fun _ => ?_) (fun h => absurd h (by rw [h15]; decide))
      exact gq_vretf X dX1_noteWhatWasDone_42 rfl rfl
    · refine gq_iload_n X dX1_noteWhatWasDone_28 2 rfl ?_
      refine gq_bipush (v := 9) X dX1_noteWhatWasDone_29 (by decide) ?_
      refine gq_ficmp_ne (tgt := 42) X dX1_noteWhatWasDone_31 (by decide) (fun h31 => ?_) (fun h31 => ?_)
      · refine gq_aload_n X dX1_noteWhatWasDone_34 0 rfl ?_
        refine gq_get (C := RX1) (T := TX1) (N := 8) X iX1_noteWhatWasDone_X1 0 gl_Gues_c0 rfl 6 (by decide) fX1_noteWhatWasDone_X1_6 rfl dX1_noteWhatWasDone_35 ?_
        refine gq_letr (fun r6 er6 => ?_)
        refine gq_letr (fun s7 es7 => ?_)
        refine gq_callVr (ws' := gw_Gues cA a0 a1 a2 a3 a4 a5 a6 a7 a8 a9 a10 a11 a12 a13 a14 s7) X (gq_Ceq (res2 := some (Value.int r6.1)) (w2 := gw_Pile cA a13 a14 4 r6.2) (c_X2_pop l D cA a13 a14 4 (by decide) S.2.2.2.2.2.2.1) (by rw [er6]) (by rw [er6])) rfl ⟨rfl, rfl⟩ ⟨Nat.le_of_ble_eq_true rfl, Nat.le_of_ble_eq_true rfl⟩ gX1_noteWhatWasDone_X2_pop hv_X2_pop 13 rfl rfl [13, 14] gl_Gues_13_at gl_Gues_13_nd gl_Pile_fst (by rw [es7]; exact gl_Gues_13_set) rfl rfl (Nat.le_of_ble_eq_true rfl) ⟨Nat.zero_le _, Nat.zero_le _⟩ dX1_noteWhatWasDone_38 ?_
        refine gq_pop X dX1_noteWhatWasDone_41 rfl ?_
        exact gq_vretf X dX1_noteWhatWasDone_42 rfl rfl
      · exact gq_vretf X dX1_noteWhatWasDone_42 rfl rfl
theorem iX4_size_X4 : ∀ w ∈ u_ws RX4 TX4 8, w ∈ wsX4_size := by decide +kernel
theorem fX4_size_X4_7 : Cond.fieldLink RX4 39 (TX4 7).1 (TX4 7).2.1 (TX4 7).2.2.1 ∈ wsX4_size := by decide +kernel
theorem hv_X4_size : yX4_size.cls = RX4 ∧ yX4_size.cls ≠ "java/lang/invoke/MethodHandle" ∧ yX4_size.cls ≠ "java/lang/invoke/VarHandle" ∧ (parseMethodDescriptor yX4_size.desc).map (fun d => d.parameters.length) = some 0 := by decide +kernel
def k_X4_size (S : gs_Q) : Int32 :=
  S.2.2.2.2.2.2.2
set_option maxHeartbeats 4000000 in
set_option maxRecDepth 100000 in
theorem c_X4_size (l : Launch) (D : va_G) (cA : ClassId) (a0 a1 a2 a3 a4 a5 a6 a7 a8 a9 a10 a11 a12 : Nat) (S : gs_Q)  : gq_C l yX4_size wsX4_size ({ frames := 0, cells := 0, slots := 0, locals := 0 } : Room) D cA [.ref a0] (gw_Que cA a0 a1 a2 a3 a4 a5 a6 a7 a8 a9 a10 a11 a12 S) (some (.int (k_X4_size S))) (gw_Que cA a0 a1 a2 a3 a4 a5 a6 a7 a8 a9 a10 a11 a12 S) := by
  refine gq_openf (own := RX4) (lv := [(0, .ref a0)]) (fun r : Int32 => (some (.int r), gw_Que cA a0 a1 a2 a3 a4 a5 a6 a7 a8 a9 a10 a11 a12 S)) (k_X4_size S) (by decide) rfl rfl (Nat.le_of_ble_eq_true rfl) rfl rfl rfl (fun p e s m args below meth c A X => ?_)
  unfold k_X4_size
  refine gq_aload_n X dX4_size_0 0 rfl ?_
  refine gq_get (C := RX4) (T := TX4) (N := 8) X iX4_size_X4 0 gl_Que_c0 rfl 7 (by decide) fX4_size_X4_7 rfl dX4_size_1 ?_
  exact gq_iretf X dX4_size_4 rfl rfl
theorem iX4_clear_X4 : ∀ w ∈ u_ws RX4 TX4 8, w ∈ wsX4_clear := by decide +kernel
theorem fX4_clear_X4_7 : Cond.fieldLink RX4 39 (TX4 7).1 (TX4 7).2.1 (TX4 7).2.2.1 ∈ wsX4_clear := by decide +kernel
theorem hv_X4_clear : yX4_clear.cls = RX4 ∧ yX4_clear.cls ≠ "java/lang/invoke/MethodHandle" ∧ yX4_clear.cls ≠ "java/lang/invoke/VarHandle" ∧ (parseMethodDescriptor yX4_clear.desc).map (fun d => d.parameters.length) = some 0 := by decide +kernel
def k_X4_clear (S : gs_Q) : gs_Q :=
  gq_lt ((S.1, S.2.1, S.2.2.1, S.2.2.2.1, S.2.2.2.2.1, S.2.2.2.2.2.1, S.2.2.2.2.2.2.1, 0)) (fun s1 =>
  s1)
set_option maxHeartbeats 4000000 in
set_option maxRecDepth 100000 in
theorem c_X4_clear (l : Launch) (D : va_G) (cA : ClassId) (a0 a1 a2 a3 a4 a5 a6 a7 a8 a9 a10 a11 a12 : Nat) (S : gs_Q)  : gq_C l yX4_clear wsX4_clear ({ frames := 0, cells := 0, slots := 0, locals := 0 } : Room) D cA [.ref a0] (gw_Que cA a0 a1 a2 a3 a4 a5 a6 a7 a8 a9 a10 a11 a12 S) (none) (gw_Que cA a0 a1 a2 a3 a4 a5 a6 a7 a8 a9 a10 a11 a12 (k_X4_clear S)) := by
  refine gq_openf (own := RX4) (lv := [(0, .ref a0)]) (fun r : gs_Q => (none, gw_Que cA a0 a1 a2 a3 a4 a5 a6 a7 a8 a9 a10 a11 a12 r)) (k_X4_clear S) (by decide) rfl rfl (Nat.le_of_ble_eq_true rfl) rfl rfl rfl (fun p e s m args below meth c A X => ?_)
  unfold k_X4_clear
  refine gq_aload_n X dX4_clear_0 0 rfl ?_
  refine gq_iconst (v := 0) X dX4_clear_1 gq_i0 ?_
  refine gq_letr (fun s1 es1 => ?_)
  refine gq_put (C := RX4) (T := TX4) (N := 8) (ws' := gw_Que cA a0 a1 a2 a3 a4 a5 a6 a7 a8 a9 a10 a11 a12 s1) X iX4_clear_X4 tyX4 tyX4_ok nmX4 0 gl_Que_c0 rfl 7 (by decide) fX4_clear_X4_7 rfl rfl rfl (Nat.le_of_ble_eq_true rfl) (by rw [es1]; exact gl_Que_f7) dX4_clear_2 ?_
  exact gq_vretf X dX4_clear_5 rfl rfl
theorem iX4_address_X4 : ∀ w ∈ u_ws RX4 TX4 8, w ∈ wsX4_address := by decide +kernel
theorem fX4_address_X4_0 : Cond.fieldLink RX4 14 (TX4 0).1 (TX4 0).2.1 (TX4 0).2.2.1 ∈ wsX4_address := by decide +kernel
theorem fX4_address_X4_6 : Cond.fieldLink RX4 35 (TX4 6).1 (TX4 6).2.1 (TX4 6).2.2.1 ∈ wsX4_address := by decide +kernel
theorem fX4_address_X4_7 : Cond.fieldLink RX4 39 (TX4 7).1 (TX4 7).2.1 (TX4 7).2.2.1 ∈ wsX4_address := by decide +kernel
theorem hv_X4_address : yX4_address.cls = RX4 ∧ yX4_address.cls ≠ "java/lang/invoke/MethodHandle" ∧ yX4_address.cls ≠ "java/lang/invoke/VarHandle" ∧ (parseMethodDescriptor yX4_address.desc).map (fun d => d.parameters.length) = some 1 := by decide +kernel
def k_X4_address (S : gs_Q) (x1 : Int32) : Int32 :=
  if x1 < 0 then
    (-1)
  else
    if S.2.2.2.2.2.2.2 ≤ x1 then
      (-1)
    else
      k_X5_get 6 S.1 (gq_rem (S.2.2.2.2.2.2.1 + x1) 6)
set_option maxHeartbeats 4000000 in
set_option maxRecDepth 100000 in
theorem c_X4_address (l : Launch) (D : va_G) (cA : ClassId) (a0 a1 a2 a3 a4 a5 a6 a7 a8 a9 a10 a11 a12 : Nat) (S : gs_Q) (x1 : Int32) : gq_C l yX4_address wsX4_address ({ frames := 1, cells := 0, slots := 0, locals := 21 } : Room) D cA [.ref a0, .int x1] (gw_Que cA a0 a1 a2 a3 a4 a5 a6 a7 a8 a9 a10 a11 a12 S) (some (.int (k_X4_address S x1))) (gw_Que cA a0 a1 a2 a3 a4 a5 a6 a7 a8 a9 a10 a11 a12 S) := by
  refine gq_openf (own := RX4) (lv := [(0, .ref a0), (1, .int x1)]) (fun r : Int32 => (some (.int r), gw_Que cA a0 a1 a2 a3 a4 a5 a6 a7 a8 a9 a10 a11 a12 S)) (k_X4_address S x1) (by decide) rfl rfl (Nat.le_of_ble_eq_true rfl) rfl rfl rfl (fun p e s m args below meth c A X => ?_)
  unfold k_X4_address
  refine gq_iload_n X dX4_address_0 1 rfl ?_
  refine gq_fif_lt (tgt := 31) X dX4_address_1 (by decide) (fun h1 => ?_) (fun h1 => ?_)
  · refine gq_iconst (v := (-1)) X dX4_address_31 gq_im1 ?_
    exact gq_iretf X dX4_address_32 rfl rfl
  · refine gq_iload_n X dX4_address_4 1 rfl ?_
    refine gq_aload_n X dX4_address_5 0 rfl ?_
    refine gq_get (C := RX4) (T := TX4) (N := 8) X iX4_address_X4 0 gl_Que_c0 rfl 7 (by decide) fX4_address_X4_7 rfl dX4_address_6 ?_
    refine gq_ficmp_ge (tgt := 31) X dX4_address_9 (by decide) (fun h9 => ?_) (fun h9 => ?_)
    · refine gq_iconst (v := (-1)) X dX4_address_31 gq_im1 ?_
      exact gq_iretf X dX4_address_32 rfl rfl
    · refine gq_aload_n X dX4_address_12 0 rfl ?_
      refine gq_get (C := RX4) (T := TX4) (N := 8) X iX4_address_X4 0 gl_Que_c0 rfl 0 (by decide) fX4_address_X4_0 rfl dX4_address_13 ?_
      refine gq_aload_n X dX4_address_16 0 rfl ?_
      refine gq_get (C := RX4) (T := TX4) (N := 8) X iX4_address_X4 0 gl_Que_c0 rfl 6 (by decide) fX4_address_X4_6 rfl dX4_address_17 ?_
      refine gq_iload_n X dX4_address_20 1 rfl ?_
      refine gq_iadd X dX4_address_21 ?_
      refine gq_bipush (v := 6) X dX4_address_22 (by decide) ?_
      refine gq_irem X dX4_address_24 (by decide) ?_
      refine gq_callVr (ws' := gw_Que cA a0 a1 a2 a3 a4 a5 a6 a7 a8 a9 a10 a11 a12 S) X (c_X5_get l D cA a1 a2 6 (by decide) S.1 (gq_rem (S.2.2.2.2.2.2.1 + x1) 6)) rfl ⟨rfl, rfl⟩ ⟨Nat.le_of_ble_eq_true rfl, Nat.le_of_ble_eq_true rfl⟩ gX4_address_X5_get hv_X5_get 1 rfl rfl [1, 2] gl_Que_1_at gl_Que_1_nd gl_Row_fst gl_Que_1_same rfl rfl (Nat.le_of_ble_eq_true rfl) ⟨Nat.zero_le _, Nat.zero_le _⟩ dX4_address_25 ?_
      refine gq_goto (tgt := 32) X dX4_address_28 (by decide) ?_
      exact gq_iretf X dX4_address_32 rfl rfl
theorem iX4_isEldestOf_X4 : ∀ w ∈ u_ws RX4 TX4 8, w ∈ wsX4_isEldestOf := by decide +kernel
theorem fX4_isEldestOf_X4_2 : Cond.fieldLink RX4 23 (TX4 2).1 (TX4 2).2.1 (TX4 2).2.2.1 ∈ wsX4_isEldestOf := by decide +kernel
theorem fX4_isEldestOf_X4_6 : Cond.fieldLink RX4 35 (TX4 6).1 (TX4 6).2.1 (TX4 6).2.2.1 ∈ wsX4_isEldestOf := by decide +kernel
theorem fX4_isEldestOf_X4_7 : Cond.fieldLink RX4 39 (TX4 7).1 (TX4 7).2.1 (TX4 7).2.2.1 ∈ wsX4_isEldestOf := by decide +kernel
theorem hv_X4_isEldestOf : yX4_isEldestOf.cls = RX4 ∧ yX4_isEldestOf.cls ≠ "java/lang/invoke/MethodHandle" ∧ yX4_isEldestOf.cls ≠ "java/lang/invoke/VarHandle" ∧ (parseMethodDescriptor yX4_isEldestOf.desc).map (fun d => d.parameters.length) = some 1 := by decide +kernel
def k_X4_isEldestOf (S : gs_Q) (x1 : Int32) : Bool :=
  if S.2.2.2.2.2.2.2 ≤ 0 then
    false
  else
    if k_X5_get 6 S.2.2.1 S.2.2.2.2.2.2.1 = x1 then
      true
    else
      false
set_option maxHeartbeats 4000000 in
set_option maxRecDepth 100000 in
theorem c_X4_isEldestOf (l : Launch) (D : va_G) (cA : ClassId) (a0 a1 a2 a3 a4 a5 a6 a7 a8 a9 a10 a11 a12 : Nat) (S : gs_Q) (x1 : Int32) : gq_C l yX4_isEldestOf wsX4_isEldestOf ({ frames := 1, cells := 0, slots := 0, locals := 21 } : Room) D cA [.ref a0, .int x1] (gw_Que cA a0 a1 a2 a3 a4 a5 a6 a7 a8 a9 a10 a11 a12 S) (some (.int (gq_b (k_X4_isEldestOf S x1)))) (gw_Que cA a0 a1 a2 a3 a4 a5 a6 a7 a8 a9 a10 a11 a12 S) := by
  refine gq_openf (own := RX4) (lv := [(0, .ref a0), (1, .int x1)]) (fun r : Bool => (some (.int (gq_b r)), gw_Que cA a0 a1 a2 a3 a4 a5 a6 a7 a8 a9 a10 a11 a12 S)) (k_X4_isEldestOf S x1) (by decide) rfl rfl (Nat.le_of_ble_eq_true rfl) rfl rfl rfl (fun p e s m args below meth c A X => ?_)
  unfold k_X4_isEldestOf
  refine gq_aload_n X dX4_isEldestOf_0 0 rfl ?_
  refine gq_get (C := RX4) (T := TX4) (N := 8) X iX4_isEldestOf_X4 0 gl_Que_c0 rfl 7 (by decide) fX4_isEldestOf_X4_7 rfl dX4_isEldestOf_1 ?_
  refine gq_fif_le (tgt := 26) X dX4_isEldestOf_4 (by decide) (fun h4 => ?_) (fun h4 => ?_)
  · refine gq_iconst (v := 0) X dX4_isEldestOf_26 gq_i0 ?_
    exact gq_zretf (b := false) X dX4_isEldestOf_27 rfl rfl rfl
  · refine gq_aload_n X dX4_isEldestOf_7 0 rfl ?_
    refine gq_get (C := RX4) (T := TX4) (N := 8) X iX4_isEldestOf_X4 0 gl_Que_c0 rfl 2 (by decide) fX4_isEldestOf_X4_2 rfl dX4_isEldestOf_8 ?_
    refine gq_aload_n X dX4_isEldestOf_11 0 rfl ?_
    refine gq_get (C := RX4) (T := TX4) (N := 8) X iX4_isEldestOf_X4 0 gl_Que_c0 rfl 6 (by decide) fX4_isEldestOf_X4_6 rfl dX4_isEldestOf_12 ?_
    refine gq_callVr (ws' := gw_Que cA a0 a1 a2 a3 a4 a5 a6 a7 a8 a9 a10 a11 a12 S) X (c_X5_get l D cA a5 a6 6 (by decide) S.2.2.1 S.2.2.2.2.2.2.1) rfl ⟨rfl, rfl⟩ ⟨Nat.le_of_ble_eq_true rfl, Nat.le_of_ble_eq_true rfl⟩ gX4_isEldestOf_X5_get hv_X5_get 5 rfl rfl [5, 6] gl_Que_5_at gl_Que_5_nd gl_Row_fst gl_Que_5_same rfl rfl (Nat.le_of_ble_eq_true rfl) ⟨Nat.zero_le _, Nat.zero_le _⟩ dX4_isEldestOf_15 ?_
    refine gq_iload_n X dX4_isEldestOf_18 1 rfl ?_
    refine gq_ficmp_ne (tgt := 26) X dX4_isEldestOf_19 (by decide) (fun h19 => ?_) (fun h19 => ?_)
    · refine gq_iconst (v := 1) X dX4_isEldestOf_22 gq_i1 ?_
      refine gq_goto (tgt := 27) X dX4_isEldestOf_23 (by decide) ?_
      exact gq_zretf (b := true) X dX4_isEldestOf_27 rfl rfl rfl
    · refine gq_iconst (v := 0) X dX4_isEldestOf_26 gq_i0 ?_
      exact gq_zretf (b := false) X dX4_isEldestOf_27 rfl rfl rfl
theorem iX4_takeEldest_X4 : ∀ w ∈ u_ws RX4 TX4 8, w ∈ wsX4_takeEldest := by decide +kernel
theorem fX4_takeEldest_X4_6 : Cond.fieldLink RX4 35 (TX4 6).1 (TX4 6).2.1 (TX4 6).2.2.1 ∈ wsX4_takeEldest := by decide +kernel
theorem fX4_takeEldest_X4_7 : Cond.fieldLink RX4 39 (TX4 7).1 (TX4 7).2.1 (TX4 7).2.2.1 ∈ wsX4_takeEldest := by decide +kernel
theorem mX4_takeEldest_max_1 : Cond.methodLink RX4 46 Lib.Math.max.name ∈ wsX4_takeEldest := by decide +kernel
theorem mX4_takeEldest_max_2 : Cond.static Lib.Math.max.name ∈ wsX4_takeEldest := by decide +kernel
theorem mX4_takeEldest_max_3 : Cond.initialized "java/lang/Math" ∈ wsX4_takeEldest := by decide +kernel
theorem mX4_takeEldest_max_4 : Cond.code Lib.Math.max.name Lib.Math.max.code 2 (some .int) ∈ wsX4_takeEldest := by decide +kernel
theorem hv_X4_takeEldest : yX4_takeEldest.cls = RX4 ∧ yX4_takeEldest.cls ≠ "java/lang/invoke/MethodHandle" ∧ yX4_takeEldest.cls ≠ "java/lang/invoke/VarHandle" ∧ (parseMethodDescriptor yX4_takeEldest.desc).map (fun d => d.parameters.length) = some 0 := by decide +kernel
def k_X4_takeEldest (S : gs_Q) : Int32 × gs_Q :=
  gq_lt ((S.1, S.2.1, S.2.2.1, S.2.2.2.1, S.2.2.2.2.1, S.2.2.2.2.2.1, gq_rem (S.2.2.2.2.2.2.1 + 1) 6, S.2.2.2.2.2.2.2)) (fun s1 =>
  gq_lt ((s1.1, s1.2.1, s1.2.2.1, s1.2.2.2.1, s1.2.2.2.2.1, s1.2.2.2.2.2.1, s1.2.2.2.2.2.2.1, gq_max 0 (s1.2.2.2.2.2.2.2 - 1))) (fun s2 =>
  (S.2.2.2.2.2.2.1, s2)))
set_option maxHeartbeats 4000000 in
set_option maxRecDepth 100000 in
theorem c_X4_takeEldest (l : Launch) (D : va_G) (cA : ClassId) (a0 a1 a2 a3 a4 a5 a6 a7 a8 a9 a10 a11 a12 : Nat) (S : gs_Q)  : gq_C l yX4_takeEldest wsX4_takeEldest ({ frames := 1, cells := 0, slots := 0, locals := 21 } : Room) D cA [.ref a0] (gw_Que cA a0 a1 a2 a3 a4 a5 a6 a7 a8 a9 a10 a11 a12 S) (some (.int (k_X4_takeEldest S).1)) (gw_Que cA a0 a1 a2 a3 a4 a5 a6 a7 a8 a9 a10 a11 a12 ((k_X4_takeEldest S).2)) := by
  refine gq_openf (own := RX4) (lv := [(0, .ref a0)]) (fun r : Int32 × gs_Q => (some (.int r.1), gw_Que cA a0 a1 a2 a3 a4 a5 a6 a7 a8 a9 a10 a11 a12 r.2)) (k_X4_takeEldest S) (by decide) rfl rfl (Nat.le_of_ble_eq_true rfl) rfl rfl rfl (fun p e s m args below meth c A X => ?_)
  unfold k_X4_takeEldest
  refine gq_aload_n X dX4_takeEldest_0 0 rfl ?_
  refine gq_get (C := RX4) (T := TX4) (N := 8) X iX4_takeEldest_X4 0 gl_Que_c0 rfl 6 (by decide) fX4_takeEldest_X4_6 rfl dX4_takeEldest_1 ?_
  refine gq_istore_n (lv' := [(1, .int S.2.2.2.2.2.2.1), (0, .ref a0)]) X dX4_takeEldest_4 (by decide) rfl ?_
  refine gq_aload_n X dX4_takeEldest_5 1 rfl ?_
  refine gq_aload_n X dX4_takeEldest_6 1 rfl ?_
  refine gq_get (C := RX4) (T := TX4) (N := 8) X iX4_takeEldest_X4 0 gl_Que_c0 rfl 6 (by decide) fX4_takeEldest_X4_6 rfl dX4_takeEldest_7 ?_
  refine gq_iconst (v := 1) X dX4_takeEldest_10 gq_i1 ?_
  refine gq_iadd X dX4_takeEldest_11 ?_
  refine gq_bipush (v := 6) X dX4_takeEldest_12 (by decide) ?_
  refine gq_irem X dX4_takeEldest_14 (by decide) ?_
  refine gq_letr (fun s1 es1 => ?_)
  refine gq_put (C := RX4) (T := TX4) (N := 8) (ws' := gw_Que cA a0 a1 a2 a3 a4 a5 a6 a7 a8 a9 a10 a11 a12 s1) X iX4_takeEldest_X4 tyX4 tyX4_ok nmX4 0 gl_Que_c0 rfl 6 (by decide) fX4_takeEldest_X4_6 rfl rfl rfl (Nat.le_of_ble_eq_true rfl) (by rw [es1]; exact gl_Que_f6) dX4_takeEldest_15 ?_
  refine gq_aload_n X dX4_takeEldest_18 1 rfl ?_
  refine gq_iconst (v := 0) X dX4_takeEldest_19 gq_i0 ?_
  refine gq_aload_n X dX4_takeEldest_20 1 rfl ?_
  refine gq_get (C := RX4) (T := TX4) (N := 8) X iX4_takeEldest_X4 0 gl_Que_c0 rfl 7 (by decide) fX4_takeEldest_X4_7 rfl dX4_takeEldest_21 ?_
  refine gq_iconst (v := 1) X dX4_takeEldest_24 gq_i1 ?_
  refine gq_isub X dX4_takeEldest_25 ?_
  refine gq_mmax X mX4_takeEldest_max_1 mX4_takeEldest_max_2 mX4_takeEldest_max_3 mX4_takeEldest_max_4 (Nat.le_of_ble_eq_true rfl) (Nat.le_of_ble_eq_true rfl) ⟨Nat.le_of_ble_eq_true rfl, Nat.le_of_ble_eq_true rfl⟩ dX4_takeEldest_26 ?_
  refine gq_letr (fun s2 es2 => ?_)
  refine gq_put (C := RX4) (T := TX4) (N := 8) (ws' := gw_Que cA a0 a1 a2 a3 a4 a5 a6 a7 a8 a9 a10 a11 a12 s2) X iX4_takeEldest_X4 tyX4 tyX4_ok nmX4 0 gl_Que_c0 rfl 7 (by decide) fX4_takeEldest_X4_7 rfl rfl rfl (Nat.le_of_ble_eq_true rfl) (by rw [es2]; exact gl_Que_f7) dX4_takeEldest_29 ?_
  refine gq_iload_n X dX4_takeEldest_32 0 rfl ?_
  exact gq_iretf X dX4_takeEldest_33 rfl rfl
theorem iX4_addressOf_X4 : ∀ w ∈ u_ws RX4 TX4 8, w ∈ wsX4_addressOf := by decide +kernel
theorem fX4_addressOf_X4_0 : Cond.fieldLink RX4 14 (TX4 0).1 (TX4 0).2.1 (TX4 0).2.2.1 ∈ wsX4_addressOf := by decide +kernel
theorem hv_X4_addressOf : yX4_addressOf.cls = RX4 ∧ yX4_addressOf.cls ≠ "java/lang/invoke/MethodHandle" ∧ yX4_addressOf.cls ≠ "java/lang/invoke/VarHandle" ∧ (parseMethodDescriptor yX4_addressOf.desc).map (fun d => d.parameters.length) = some 1 := by decide +kernel
def k_X4_addressOf (S : gs_Q) (x1 : Int32) : Int32 :=
  k_X5_get 6 S.1 x1
set_option maxHeartbeats 4000000 in
set_option maxRecDepth 100000 in
theorem c_X4_addressOf (l : Launch) (D : va_G) (cA : ClassId) (a0 a1 a2 a3 a4 a5 a6 a7 a8 a9 a10 a11 a12 : Nat) (S : gs_Q) (x1 : Int32) : gq_C l yX4_addressOf wsX4_addressOf ({ frames := 1, cells := 0, slots := 0, locals := 21 } : Room) D cA [.ref a0, .int x1] (gw_Que cA a0 a1 a2 a3 a4 a5 a6 a7 a8 a9 a10 a11 a12 S) (some (.int (k_X4_addressOf S x1))) (gw_Que cA a0 a1 a2 a3 a4 a5 a6 a7 a8 a9 a10 a11 a12 S) := by
  refine gq_openf (own := RX4) (lv := [(0, .ref a0), (1, .int x1)]) (fun r : Int32 => (some (.int r), gw_Que cA a0 a1 a2 a3 a4 a5 a6 a7 a8 a9 a10 a11 a12 S)) (k_X4_addressOf S x1) (by decide) rfl rfl (Nat.le_of_ble_eq_true rfl) rfl rfl rfl (fun p e s m args below meth c A X => ?_)
  unfold k_X4_addressOf
  refine gq_aload_n X dX4_addressOf_0 0 rfl ?_
  refine gq_get (C := RX4) (T := TX4) (N := 8) X iX4_addressOf_X4 0 gl_Que_c0 rfl 0 (by decide) fX4_addressOf_X4_0 rfl dX4_addressOf_1 ?_
  refine gq_iload_n X dX4_addressOf_4 1 rfl ?_
  refine gq_callVr (ws' := gw_Que cA a0 a1 a2 a3 a4 a5 a6 a7 a8 a9 a10 a11 a12 S) X (c_X5_get l D cA a1 a2 6 (by decide) S.1 x1) rfl ⟨rfl, rfl⟩ ⟨Nat.le_of_ble_eq_true rfl, Nat.le_of_ble_eq_true rfl⟩ gX4_addressOf_X5_get hv_X5_get 1 rfl rfl [1, 2] gl_Que_1_at gl_Que_1_nd gl_Row_fst gl_Que_1_same rfl rfl (Nat.le_of_ble_eq_true rfl) ⟨Nat.zero_le _, Nat.zero_le _⟩ dX4_addressOf_5 ?_
  exact gq_iretf X dX4_addressOf_8 rfl rfl
theorem iX4_guessOf_X4 : ∀ w ∈ u_ws RX4 TX4 8, w ∈ wsX4_guessOf := by decide +kernel
theorem fX4_guessOf_X4_1 : Cond.fieldLink RX4 20 (TX4 1).1 (TX4 1).2.1 (TX4 1).2.2.1 ∈ wsX4_guessOf := by decide +kernel
theorem hv_X4_guessOf : yX4_guessOf.cls = RX4 ∧ yX4_guessOf.cls ≠ "java/lang/invoke/MethodHandle" ∧ yX4_guessOf.cls ≠ "java/lang/invoke/VarHandle" ∧ (parseMethodDescriptor yX4_guessOf.desc).map (fun d => d.parameters.length) = some 1 := by decide +kernel
def k_X4_guessOf (S : gs_Q) (x1 : Int32) : Int32 :=
  k_X5_get 6 S.2.1 x1
set_option maxHeartbeats 4000000 in
set_option maxRecDepth 100000 in
theorem c_X4_guessOf (l : Launch) (D : va_G) (cA : ClassId) (a0 a1 a2 a3 a4 a5 a6 a7 a8 a9 a10 a11 a12 : Nat) (S : gs_Q) (x1 : Int32) : gq_C l yX4_guessOf wsX4_guessOf ({ frames := 1, cells := 0, slots := 0, locals := 21 } : Room) D cA [.ref a0, .int x1] (gw_Que cA a0 a1 a2 a3 a4 a5 a6 a7 a8 a9 a10 a11 a12 S) (some (.int (k_X4_guessOf S x1))) (gw_Que cA a0 a1 a2 a3 a4 a5 a6 a7 a8 a9 a10 a11 a12 S) := by
  refine gq_openf (own := RX4) (lv := [(0, .ref a0), (1, .int x1)]) (fun r : Int32 => (some (.int r), gw_Que cA a0 a1 a2 a3 a4 a5 a6 a7 a8 a9 a10 a11 a12 S)) (k_X4_guessOf S x1) (by decide) rfl rfl (Nat.le_of_ble_eq_true rfl) rfl rfl rfl (fun p e s m args below meth c A X => ?_)
  unfold k_X4_guessOf
  refine gq_aload_n X dX4_guessOf_0 0 rfl ?_
  refine gq_get (C := RX4) (T := TX4) (N := 8) X iX4_guessOf_X4 0 gl_Que_c0 rfl 1 (by decide) fX4_guessOf_X4_1 rfl dX4_guessOf_1 ?_
  refine gq_iload_n X dX4_guessOf_4 1 rfl ?_
  refine gq_callVr (ws' := gw_Que cA a0 a1 a2 a3 a4 a5 a6 a7 a8 a9 a10 a11 a12 S) X (c_X5_get l D cA a3 a4 6 (by decide) S.2.1 x1) rfl ⟨rfl, rfl⟩ ⟨Nat.le_of_ble_eq_true rfl, Nat.le_of_ble_eq_true rfl⟩ gX4_guessOf_X5_get hv_X5_get 3 rfl rfl [3, 4] gl_Que_3_at gl_Que_3_nd gl_Row_fst gl_Que_3_same rfl rfl (Nat.le_of_ble_eq_true rfl) ⟨Nat.zero_le _, Nat.zero_le _⟩ dX4_guessOf_5 ?_
  exact gq_iretf X dX4_guessOf_8 rfl rfl
theorem iX4_historyOf_X4 : ∀ w ∈ u_ws RX4 TX4 8, w ∈ wsX4_historyOf := by decide +kernel
theorem fX4_historyOf_X4_3 : Cond.fieldLink RX4 26 (TX4 3).1 (TX4 3).2.1 (TX4 3).2.2.1 ∈ wsX4_historyOf := by decide +kernel
theorem hv_X4_historyOf : yX4_historyOf.cls = RX4 ∧ yX4_historyOf.cls ≠ "java/lang/invoke/MethodHandle" ∧ yX4_historyOf.cls ≠ "java/lang/invoke/VarHandle" ∧ (parseMethodDescriptor yX4_historyOf.desc).map (fun d => d.parameters.length) = some 1 := by decide +kernel
def k_X4_historyOf (S : gs_Q) (x1 : Int32) : Int32 :=
  k_X5_get 6 S.2.2.2.1 x1
set_option maxHeartbeats 4000000 in
set_option maxRecDepth 100000 in
theorem c_X4_historyOf (l : Launch) (D : va_G) (cA : ClassId) (a0 a1 a2 a3 a4 a5 a6 a7 a8 a9 a10 a11 a12 : Nat) (S : gs_Q) (x1 : Int32) : gq_C l yX4_historyOf wsX4_historyOf ({ frames := 1, cells := 0, slots := 0, locals := 21 } : Room) D cA [.ref a0, .int x1] (gw_Que cA a0 a1 a2 a3 a4 a5 a6 a7 a8 a9 a10 a11 a12 S) (some (.int (k_X4_historyOf S x1))) (gw_Que cA a0 a1 a2 a3 a4 a5 a6 a7 a8 a9 a10 a11 a12 S) := by
  refine gq_openf (own := RX4) (lv := [(0, .ref a0), (1, .int x1)]) (fun r : Int32 => (some (.int r), gw_Que cA a0 a1 a2 a3 a4 a5 a6 a7 a8 a9 a10 a11 a12 S)) (k_X4_historyOf S x1) (by decide) rfl rfl (Nat.le_of_ble_eq_true rfl) rfl rfl rfl (fun p e s m args below meth c A X => ?_)
  unfold k_X4_historyOf
  refine gq_aload_n X dX4_historyOf_0 0 rfl ?_
  refine gq_get (C := RX4) (T := TX4) (N := 8) X iX4_historyOf_X4 0 gl_Que_c0 rfl 3 (by decide) fX4_historyOf_X4_3 rfl dX4_historyOf_1 ?_
  refine gq_iload_n X dX4_historyOf_4 1 rfl ?_
  refine gq_callVr (ws' := gw_Que cA a0 a1 a2 a3 a4 a5 a6 a7 a8 a9 a10 a11 a12 S) X (c_X5_get l D cA a7 a8 6 (by decide) S.2.2.2.1 x1) rfl ⟨rfl, rfl⟩ ⟨Nat.le_of_ble_eq_true rfl, Nat.le_of_ble_eq_true rfl⟩ gX4_historyOf_X5_get hv_X5_get 7 rfl rfl [7, 8] gl_Que_7_at gl_Que_7_nd gl_Row_fst gl_Que_7_same rfl rfl (Nat.le_of_ble_eq_true rfl) ⟨Nat.zero_le _, Nat.zero_le _⟩ dX4_historyOf_5 ?_
  exact gq_iretf X dX4_historyOf_8 rfl rfl
theorem iX4_setGuess_X4 : ∀ w ∈ u_ws RX4 TX4 8, w ∈ wsX4_setGuess := by decide +kernel
theorem fX4_setGuess_X4_1 : Cond.fieldLink RX4 20 (TX4 1).1 (TX4 1).2.1 (TX4 1).2.2.1 ∈ wsX4_setGuess := by decide +kernel
theorem hv_X4_setGuess : yX4_setGuess.cls = RX4 ∧ yX4_setGuess.cls ≠ "java/lang/invoke/MethodHandle" ∧ yX4_setGuess.cls ≠ "java/lang/invoke/VarHandle" ∧ (parseMethodDescriptor yX4_setGuess.desc).map (fun d => d.parameters.length) = some 2 := by decide +kernel
def k_X4_setGuess (S : gs_Q) (x1 : Int32) (x2 : Int32) : gs_Q :=
  gq_lt (k_X5_set 6 S.2.1 x1 x2) (fun r1 =>
  gq_lt ((S.1, r1.2, S.2.2.1, S.2.2.2.1, S.2.2.2.2.1, S.2.2.2.2.2.1, S.2.2.2.2.2.2.1, S.2.2.2.2.2.2.2)) (fun s2 =>
  s2))
set_option maxHeartbeats 4000000 in
set_option maxRecDepth 100000 in
theorem c_X4_setGuess (l : Launch) (D : va_G) (cA : ClassId) (a0 a1 a2 a3 a4 a5 a6 a7 a8 a9 a10 a11 a12 : Nat) (S : gs_Q) (x1 : Int32) (x2 : Int32) : gq_C l yX4_setGuess wsX4_setGuess ({ frames := 1, cells := 0, slots := 0, locals := 23 } : Room) D cA [.ref a0, .int x1, .int x2] (gw_Que cA a0 a1 a2 a3 a4 a5 a6 a7 a8 a9 a10 a11 a12 S) (none) (gw_Que cA a0 a1 a2 a3 a4 a5 a6 a7 a8 a9 a10 a11 a12 (k_X4_setGuess S x1 x2)) := by
  refine gq_openf (own := RX4) (lv := [(0, .ref a0), (1, .int x1), (2, .int x2)]) (fun r : gs_Q => (none, gw_Que cA a0 a1 a2 a3 a4 a5 a6 a7 a8 a9 a10 a11 a12 r)) (k_X4_setGuess S x1 x2) (by decide) rfl rfl (Nat.le_of_ble_eq_true rfl) rfl rfl rfl (fun p e s m args below meth c A X => ?_)
  unfold k_X4_setGuess
  refine gq_aload_n X dX4_setGuess_0 0 rfl ?_
  refine gq_get (C := RX4) (T := TX4) (N := 8) X iX4_setGuess_X4 0 gl_Que_c0 rfl 1 (by decide) fX4_setGuess_X4_1 rfl dX4_setGuess_1 ?_
  refine gq_iload_n X dX4_setGuess_4 1 rfl ?_
  refine gq_iload_n X dX4_setGuess_5 2 rfl ?_
  refine gq_letr (fun r1 er1 => ?_)
  refine gq_letr (fun s2 es2 => ?_)
  refine gq_callVr (ws' := gw_Que cA a0 a1 a2 a3 a4 a5 a6 a7 a8 a9 a10 a11 a12 s2) X (gq_Ceq (res2 := some (Value.int r1.1)) (w2 := gw_Row cA a3 a4 6 r1.2) (c_X5_set l D cA a3 a4 6 (by decide) S.2.1 x1 x2) (by rw [er1]) (by rw [er1])) rfl ⟨rfl, rfl⟩ ⟨Nat.le_of_ble_eq_true rfl, Nat.le_of_ble_eq_true rfl⟩ gX4_setGuess_X5_set hv_X5_set 3 rfl rfl [3, 4] gl_Que_3_at gl_Que_3_nd gl_Row_fst (by rw [es2]; exact gl_Que_3_set) rfl rfl (Nat.le_of_ble_eq_true rfl) ⟨Nat.zero_le _, Nat.zero_le _⟩ dX4_setGuess_6 ?_
  refine gq_pop X dX4_setGuess_9 rfl ?_
  exact gq_vretf X dX4_setGuess_10 rfl rfl
theorem iX4_add_X4 : ∀ w ∈ u_ws RX4 TX4 8, w ∈ wsX4_add := by decide +kernel
theorem fX4_add_X4_0 : Cond.fieldLink RX4 14 (TX4 0).1 (TX4 0).2.1 (TX4 0).2.2.1 ∈ wsX4_add := by decide +kernel
theorem fX4_add_X4_2 : Cond.fieldLink RX4 23 (TX4 2).1 (TX4 2).2.1 (TX4 2).2.2.1 ∈ wsX4_add := by decide +kernel
theorem fX4_add_X4_6 : Cond.fieldLink RX4 35 (TX4 6).1 (TX4 6).2.1 (TX4 6).2.2.1 ∈ wsX4_add := by decide +kernel
theorem fX4_add_X4_7 : Cond.fieldLink RX4 39 (TX4 7).1 (TX4 7).2.1 (TX4 7).2.2.1 ∈ wsX4_add := by decide +kernel
theorem mX4_add_min_1 : Cond.methodLink RX4 55 Lib.Math.min.name ∈ wsX4_add := by decide +kernel
theorem mX4_add_min_2 : Cond.static Lib.Math.min.name ∈ wsX4_add := by decide +kernel
theorem mX4_add_min_3 : Cond.initialized "java/lang/Math" ∈ wsX4_add := by decide +kernel
theorem mX4_add_min_4 : Cond.code Lib.Math.min.name Lib.Math.min.code 2 (some .int) ∈ wsX4_add := by decide +kernel
theorem hv_X4_add : yX4_add.cls = RX4 ∧ yX4_add.cls ≠ "java/lang/invoke/MethodHandle" ∧ yX4_add.cls ≠ "java/lang/invoke/VarHandle" ∧ (parseMethodDescriptor yX4_add.desc).map (fun d => d.parameters.length) = some 2 := by decide +kernel
def k_X4_add (S : gs_Q) (x1 : Int32) (x2 : Int32) : Int32 × gs_Q :=
  gq_lt (gq_rem (S.2.2.2.2.2.2.1 + S.2.2.2.2.2.2.2) 6) (fun v1 =>
  gq_lt ((S.1, S.2.1, S.2.2.1, S.2.2.2.1, S.2.2.2.2.1, S.2.2.2.2.2.1, S.2.2.2.2.2.2.1, gq_min 6 (S.2.2.2.2.2.2.2 + 1))) (fun s2 =>
  gq_lt (k_X5_set 6 s2.1 v1 x1) (fun r3 =>
  gq_lt ((r3.2, s2.2.1, s2.2.2.1, s2.2.2.2.1, s2.2.2.2.2.1, s2.2.2.2.2.2.1, s2.2.2.2.2.2.2.1, s2.2.2.2.2.2.2.2)) (fun s4 =>
  gq_lt (k_X5_set 6 s4.2.2.1 v1 x2) (fun r5 =>
  gq_lt ((s4.1, s4.2.1, r5.2, s4.2.2.2.1, s4.2.2.2.2.1, s4.2.2.2.2.2.1, s4.2.2.2.2.2.2.1, s4.2.2.2.2.2.2.2)) (fun s6 =>
  (v1, s6)))))))
set_option maxHeartbeats 4000000 in
set_option maxRecDepth 100000 in
theorem c_X4_add (l : Launch) (D : va_G) (cA : ClassId) (a0 a1 a2 a3 a4 a5 a6 a7 a8 a9 a10 a11 a12 : Nat) (S : gs_Q) (x1 : Int32) (x2 : Int32) : gq_C l yX4_add wsX4_add ({ frames := 1, cells := 0, slots := 0, locals := 23 } : Room) D cA [.ref a0, .int x1, .int x2] (gw_Que cA a0 a1 a2 a3 a4 a5 a6 a7 a8 a9 a10 a11 a12 S) (some (.int (k_X4_add S x1 x2).1)) (gw_Que cA a0 a1 a2 a3 a4 a5 a6 a7 a8 a9 a10 a11 a12 ((k_X4_add S x1 x2).2)) := by
  refine gq_openf (own := RX4) (lv := [(0, .ref a0), (1, .int x1), (2, .int x2)]) (fun r : Int32 × gs_Q => (some (.int r.1), gw_Que cA a0 a1 a2 a3 a4 a5 a6 a7 a8 a9 a10 a11 a12 r.2)) (k_X4_add S x1 x2) (by decide) rfl rfl (Nat.le_of_ble_eq_true rfl) rfl rfl rfl (fun p e s m args below meth c A X => ?_)
  unfold k_X4_add
  refine gq_aload_n X dX4_add_0 0 rfl ?_
  refine gq_get (C := RX4) (T := TX4) (N := 8) X iX4_add_X4 0 gl_Que_c0 rfl 6 (by decide) fX4_add_X4_6 rfl dX4_add_1 ?_
  refine gq_aload_n X dX4_add_4 0 rfl ?_
  refine gq_get (C := RX4) (T := TX4) (N := 8) X iX4_add_X4 0 gl_Que_c0 rfl 7 (by decide) fX4_add_X4_7 rfl dX4_add_5 ?_
  refine gq_iadd X dX4_add_8 ?_
  refine gq_bipush (v := 6) X dX4_add_9 (by decide) ?_
  refine gq_irem X dX4_add_11 (by decide) ?_
  refine gq_letr (fun v1 ev1 => ?_)
  refine gq_eqst (st' := .int v1 :: _) (by rw [ev1]) ?_
  refine gq_istore_n (lv' := [(3, .int v1), (0, .ref a0), (1, .int x1), (2, .int x2)]) X dX4_add_12 (by decide) rfl ?_
  refine gq_aload_n X dX4_add_13 1 rfl ?_
  refine gq_bipush (v := 6) X dX4_add_14 (by decide) ?_
  refine gq_aload_n X dX4_add_16 1 rfl ?_
  refine gq_get (C := RX4) (T := TX4) (N := 8) X iX4_add_X4 0 gl_Que_c0 rfl 7 (by decide) fX4_add_X4_7 rfl dX4_add_17 ?_
  refine gq_iconst (v := 1) X dX4_add_20 gq_i1 ?_
  refine gq_iadd X dX4_add_21 ?_
  refine gq_mmin X mX4_add_min_1 mX4_add_min_2 mX4_add_min_3 mX4_add_min_4 (Nat.le_of_ble_eq_true rfl) (Nat.le_of_ble_eq_true rfl) ⟨Nat.le_of_ble_eq_true rfl, Nat.le_of_ble_eq_true rfl⟩ dX4_add_22 ?_
  refine gq_letr (fun s2 es2 => ?_)
  refine gq_put (C := RX4) (T := TX4) (N := 8) (ws' := gw_Que cA a0 a1 a2 a3 a4 a5 a6 a7 a8 a9 a10 a11 a12 s2) X iX4_add_X4 tyX4 tyX4_ok nmX4 0 gl_Que_c0 rfl 7 (by decide) fX4_add_X4_7 rfl rfl rfl (Nat.le_of_ble_eq_true rfl) (by rw [es2]; exact gl_Que_f7) dX4_add_25 ?_
  refine gq_aload_n X dX4_add_28 1 rfl ?_
  refine gq_get (C := RX4) (T := TX4) (N := 8) X iX4_add_X4 0 gl_Que_c0 rfl 0 (by decide) fX4_add_X4_0 rfl dX4_add_29 ?_
  refine gq_iload_n X dX4_add_32 0 rfl ?_
  refine gq_iload_n X dX4_add_33 2 rfl ?_
  refine gq_letr (fun r3 er3 => ?_)
  refine gq_letr (fun s4 es4 => ?_)
  refine gq_callVr (ws' := gw_Que cA a0 a1 a2 a3 a4 a5 a6 a7 a8 a9 a10 a11 a12 s4) X (gq_Ceq (res2 := some (Value.int r3.1)) (w2 := gw_Row cA a1 a2 6 r3.2) (c_X5_set l D cA a1 a2 6 (by decide) s2.1 v1 x1) (by rw [er3]) (by rw [er3])) rfl ⟨rfl, rfl⟩ ⟨Nat.le_of_ble_eq_true rfl, Nat.le_of_ble_eq_true rfl⟩ gX4_add_X5_set hv_X5_set 1 rfl rfl [1, 2] gl_Que_1_at gl_Que_1_nd gl_Row_fst (by rw [es4]; exact gl_Que_1_set) rfl rfl (Nat.le_of_ble_eq_true rfl) ⟨Nat.zero_le _, Nat.zero_le _⟩ dX4_add_34 ?_
  refine gq_pop X dX4_add_37 rfl ?_
  refine gq_aload_n X dX4_add_38 1 rfl ?_
  refine gq_get (C := RX4) (T := TX4) (N := 8) X iX4_add_X4 0 gl_Que_c0 rfl 2 (by decide) fX4_add_X4_2 rfl dX4_add_39 ?_
  refine gq_iload_n X dX4_add_42 0 rfl ?_
  refine gq_iload_n X dX4_add_43 3 rfl ?_
  refine gq_letr (fun r5 er5 => ?_)
  refine gq_letr (fun s6 es6 => ?_)
  refine gq_callVr (ws' := gw_Que cA a0 a1 a2 a3 a4 a5 a6 a7 a8 a9 a10 a11 a12 s6) X (gq_Ceq (res2 := some (Value.int r5.1)) (w2 := gw_Row cA a5 a6 6 r5.2) (c_X5_set l D cA a5 a6 6 (by decide) s4.2.2.1 v1 x2) (by rw [er5]) (by rw [er5])) rfl ⟨rfl, rfl⟩ ⟨Nat.le_of_ble_eq_true rfl, Nat.le_of_ble_eq_true rfl⟩ gX4_add_X5_set hv_X5_set 5 rfl rfl [5, 6] gl_Que_5_at gl_Que_5_nd gl_Row_fst (by rw [es6]; exact gl_Que_5_set) rfl rfl (Nat.le_of_ble_eq_true rfl) ⟨Nat.zero_le _, Nat.zero_le _⟩ dX4_add_44 ?_
  refine gq_pop X dX4_add_47 rfl ?_
  refine gq_iload_n X dX4_add_48 0 rfl ?_
  exact gq_iretf X dX4_add_49 rfl rfl
theorem iX4_keep_X4 : ∀ w ∈ u_ws RX4 TX4 8, w ∈ wsX4_keep := by decide +kernel
theorem fX4_keep_X4_3 : Cond.fieldLink RX4 26 (TX4 3).1 (TX4 3).2.1 (TX4 3).2.2.1 ∈ wsX4_keep := by decide +kernel
theorem fX4_keep_X4_4 : Cond.fieldLink RX4 29 (TX4 4).1 (TX4 4).2.1 (TX4 4).2.2.1 ∈ wsX4_keep := by decide +kernel
theorem fX4_keep_X4_5 : Cond.fieldLink RX4 32 (TX4 5).1 (TX4 5).2.1 (TX4 5).2.2.1 ∈ wsX4_keep := by decide +kernel
theorem hv_X4_keep : yX4_keep.cls = RX4 ∧ yX4_keep.cls ≠ "java/lang/invoke/MethodHandle" ∧ yX4_keep.cls ≠ "java/lang/invoke/VarHandle" ∧ (parseMethodDescriptor yX4_keep.desc).map (fun d => d.parameters.length) = some 3 := by decide +kernel
def k_X4_keep (S : gs_Q × gs_P) (x1 : Int32) (x2 : Int32) : (gs_Q × gs_P) :=
  gq_lt (k_X5_set 6 S.1.2.2.2.1 x1 x2) (fun r1 =>
  gq_lt (((S.1.1, S.1.2.1, S.1.2.2.1, r1.2, S.1.2.2.2.2.1, S.1.2.2.2.2.2.1, S.1.2.2.2.2.2.2.1, S.1.2.2.2.2.2.2.2), S.2)) (fun s2 =>
  gq_lt (k_X5_set 6 s2.1.2.2.2.2.1 x1 (k_X2_size 4 s2.2)) (fun r3 =>
  gq_lt (((s2.1.1, s2.1.2.1, s2.1.2.2.1, s2.1.2.2.2.1, r3.2, s2.1.2.2.2.2.2.1, s2.1.2.2.2.2.2.2.1, s2.1.2.2.2.2.2.2.2), s2.2)) (fun s4 =>
  gq_lt (k_X5_set 24 s4.1.2.2.2.2.2.1 ((x1 * 4) + 0) (k_X2_get 4 s4.2 0)) (fun r5 =>
  gq_lt (((s4.1.1, s4.1.2.1, s4.1.2.2.1, s4.1.2.2.2.1, s4.1.2.2.2.2.1, r5.2, s4.1.2.2.2.2.2.2.1, s4.1.2.2.2.2.2.2.2), s4.2)) (fun s6 =>
  gq_lt (k_X5_set 24 s6.1.2.2.2.2.2.1 ((x1 * 4) + 1) (k_X2_get 4 s6.2 1)) (fun r7 =>
  gq_lt (((s6.1.1, s6.1.2.1, s6.1.2.2.1, s6.1.2.2.2.1, s6.1.2.2.2.2.1, r7.2, s6.1.2.2.2.2.2.2.1, s6.1.2.2.2.2.2.2.2), s6.2)) (fun s8 =>
  gq_lt (k_X5_set 24 s8.1.2.2.2.2.2.1 ((x1 * 4) + 2) (k_X2_get 4 s8.2 2)) (fun r9 =>
  gq_lt (((s8.1.1, s8.1.2.1, s8.1.2.2.1, s8.1.2.2.2.1, s8.1.2.2.2.2.1, r9.2, s8.1.2.2.2.2.2.2.1, s8.1.2.2.2.2.2.2.2), s8.2)) (fun s10 =>
  gq_lt (k_X5_set 24 s10.1.2.2.2.2.2.1 ((x1 * 4) + 3) (k_X2_get 4 s10.2 3)) (fun r11 =>
  gq_lt (((s10.1.1, s10.1.2.1, s10.1.2.2.1, s10.1.2.2.2.1, s10.1.2.2.2.2.1, r11.2, s10.1.2.2.2.2.2.2.1, s10.1.2.2.2.2.2.2.2), s10.2)) (fun s12 =>
  s12))))))))))))
set_option maxHeartbeats 4000000 in
set_option maxRecDepth 100000 in
theorem c_X4_keep (l : Launch) (D : va_G) (cA : ClassId) (a0 a1 a2 a3 a4 a5 a6 a7 a8 a9 a10 a11 a12 a13 a14 : Nat) (S : gs_Q × gs_P) (x1 : Int32) (x2 : Int32) : gq_C l yX4_keep wsX4_keep ({ frames := 2, cells := 0, slots := 0, locals := 42 } : Room) D cA [.ref a0, .int x1, .int x2, .ref a13] (gw_QuePile cA a0 a1 a2 a3 a4 a5 a6 a7 a8 a9 a10 a11 a12 a13 a14 S) (none) (gw_QuePile cA a0 a1 a2 a3 a4 a5 a6 a7 a8 a9 a10 a11 a12 a13 a14 (k_X4_keep S x1 x2)) := by
  refine gq_openf (own := RX4) (lv := [(0, .ref a0), (1, .int x1), (2, .int x2), (3, .ref a13)]) (fun r : (gs_Q × gs_P) => (none, gw_QuePile cA a0 a1 a2 a3 a4 a5 a6 a7 a8 a9 a10 a11 a12 a13 a14 r)) (k_X4_keep S x1 x2) (by decide) rfl rfl (Nat.le_of_ble_eq_true rfl) rfl rfl rfl (fun p e s m args below meth c A X => ?_)
  unfold k_X4_keep
  refine gq_aload_n X dX4_keep_0 0 rfl ?_
  refine gq_get (C := RX4) (T := TX4) (N := 8) X iX4_keep_X4 0 gl_QuePile_c0 rfl 3 (by decide) fX4_keep_X4_3 rfl dX4_keep_1 ?_
  refine gq_iload_n X dX4_keep_4 1 rfl ?_
  refine gq_iload_n X dX4_keep_5 2 rfl ?_
  refine gq_letr (fun r1 er1 => ?_)
  refine gq_letr (fun s2 es2 => ?_)
  refine gq_callVr (ws' := gw_QuePile cA a0 a1 a2 a3 a4 a5 a6 a7 a8 a9 a10 a11 a12 a13 a14 s2) X (gq_Ceq (res2 := some (Value.int r1.1)) (w2 := gw_Row cA a7 a8 6 r1.2) (c_X5_set l D cA a7 a8 6 (by decide) S.1.2.2.2.1 x1 x2) (by rw [er1]) (by rw [er1])) rfl ⟨rfl, rfl⟩ ⟨Nat.le_of_ble_eq_true rfl, Nat.le_of_ble_eq_true rfl⟩ gX4_keep_X5_set hv_X5_set 7 rfl rfl [7, 8] gl_QuePile_7_at gl_QuePile_7_nd gl_Row_fst (by rw [es2]; exact gl_QuePile_7_set) rfl rfl (Nat.le_of_ble_eq_true rfl) ⟨Nat.zero_le _, Nat.zero_le _⟩ dX4_keep_6 ?_
  refine gq_pop X dX4_keep_9 rfl ?_
  refine gq_aload_n X dX4_keep_10 0 rfl ?_
  refine gq_get (C := RX4) (T := TX4) (N := 8) X iX4_keep_X4 0 gl_QuePile_c0 rfl 4 (by decide) fX4_keep_X4_4 rfl dX4_keep_11 ?_
  refine gq_iload_n X dX4_keep_14 1 rfl ?_
  refine gq_aload_n X dX4_keep_15 3 rfl ?_
  refine gq_callVr (ws' := gw_QuePile cA a0 a1 a2 a3 a4 a5 a6 a7 a8 a9 a10 a11 a12 a13 a14 s2) X (c_X2_size l D cA a13 a14 4 (by decide) s2.2) rfl ⟨rfl, rfl⟩ ⟨Nat.le_of_ble_eq_true rfl, Nat.le_of_ble_eq_true rfl⟩ gX4_keep_X2_size hv_X2_size 13 rfl rfl [13, 14] gl_QuePile_13_at gl_QuePile_13_nd gl_Pile_fst gl_QuePile_13_same rfl rfl (Nat.le_of_ble_eq_true rfl) ⟨Nat.zero_le _, Nat.zero_le _⟩ dX4_keep_16 ?_
  refine gq_letr (fun r3 er3 => ?_)
  refine gq_letr (fun s4 es4 => ?_)
  refine gq_callVr (ws' := gw_QuePile cA a0 a1 a2 a3 a4 a5 a6 a7 a8 a9 a10 a11 a12 a13 a14 s4) X (gq_Ceq (res2 := some (Value.int r3.1)) (w2 := gw_Row cA a9 a10 6 r3.2) (c_X5_set l D cA a9 a10 6 (by decide) s2.1.2.2.2.2.1 x1 (k_X2_size 4 s2.2)) (by rw [er3]) (by rw [er3])) rfl ⟨rfl, rfl⟩ ⟨Nat.le_of_ble_eq_true rfl, Nat.le_of_ble_eq_true rfl⟩ gX4_keep_X5_set hv_X5_set 9 rfl rfl [9, 10] gl_QuePile_9_at gl_QuePile_9_nd gl_Row_fst (by rw [es4]; exact gl_QuePile_9_set) rfl rfl (Nat.le_of_ble_eq_true rfl) ⟨Nat.zero_le _, Nat.zero_le _⟩ dX4_keep_19 ?_
  refine gq_pop X dX4_keep_22 rfl ?_
  refine gq_iconst (v := 0) X dX4_keep_23 gq_i0 ?_
  refine gq_istore (lv' := [(4, .int 0), (0, .ref a0), (1, .int x1), (2, .int x2), (3, .ref a13)]) X dX4_keep_24 (by decide) rfl ?_
  refine gq_iload X dX4_keep_26 0 rfl ?_
  refine gq_iconst (v := 4) X dX4_keep_28 gq_i4 ?_
  refine gq_icmp_ge (tgt := 58) X dX4_keep_29 (by decide) (fun h => absurd h (by decide)) (fun _ => ?_)
  refine gq_aload_n X dX4_keep_32 1 rfl ?_
  refine gq_get (C := RX4) (T := TX4) (N := 8) X iX4_keep_X4 0 gl_QuePile_c0 rfl 5 (by decide) fX4_keep_X4_5 rfl dX4_keep_33 ?_
  refine gq_iload_n X dX4_keep_36 2 rfl ?_
  refine gq_iconst (v := 4) X dX4_keep_37 gq_i4 ?_
  refine gq_imul X dX4_keep_38 ?_
  refine gq_iload X dX4_keep_39 0 rfl ?_
  refine gq_iadd X dX4_keep_41 ?_
  refine gq_aload_n X dX4_keep_42 4 rfl ?_
  refine gq_iload X dX4_keep_43 0 rfl ?_
  refine gq_callVr (ws' := gw_QuePile cA a0 a1 a2 a3 a4 a5 a6 a7 a8 a9 a10 a11 a12 a13 a14 s4) X (c_X2_get l D cA a13 a14 4 (by decide) s4.2 0) rfl ⟨rfl, rfl⟩ ⟨Nat.le_of_ble_eq_true rfl, Nat.le_of_ble_eq_true rfl⟩ gX4_keep_X2_get hv_X2_get 13 rfl rfl [13, 14] gl_QuePile_13_at gl_QuePile_13_nd gl_Pile_fst gl_QuePile_13_same rfl rfl (Nat.le_of_ble_eq_true rfl) ⟨Nat.zero_le _, Nat.zero_le _⟩ dX4_keep_45 ?_
  refine gq_letr (fun r5 er5 => ?_)
  refine gq_letr (fun s6 es6 => ?_)
  refine gq_callVr (ws' := gw_QuePile cA a0 a1 a2 a3 a4 a5 a6 a7 a8 a9 a10 a11 a12 a13 a14 s6) X (gq_Ceq (res2 := some (Value.int r5.1)) (w2 := gw_Row cA a11 a12 24 r5.2) (c_X5_set l D cA a11 a12 24 (by decide) s4.1.2.2.2.2.2.1 ((x1 * 4) + 0) (k_X2_get 4 s4.2 0)) (by rw [er5]) (by rw [er5])) rfl ⟨rfl, rfl⟩ ⟨Nat.le_of_ble_eq_true rfl, Nat.le_of_ble_eq_true rfl⟩ gX4_keep_X5_set hv_X5_set 11 rfl rfl [11, 12] gl_QuePile_11_at gl_QuePile_11_nd gl_Row_fst (by rw [es6]; exact gl_QuePile_11_set) rfl rfl (Nat.le_of_ble_eq_true rfl) ⟨Nat.zero_le _, Nat.zero_le _⟩ dX4_keep_48 ?_
  refine gq_pop X dX4_keep_51 rfl ?_
  refine gq_iinc (lv' := [(4, .int 1), (0, .ref a0), (1, .int x1), (2, .int x2), (3, .ref a13)]) X dX4_keep_52 0 rfl (by decide) (by decide) rfl ?_
  refine gq_goto (tgt := 26) X dX4_keep_55 (by decide) ?_
  refine gq_iload X dX4_keep_26 0 rfl ?_
  refine gq_iconst (v := 4) X dX4_keep_28 gq_i4 ?_
  refine gq_icmp_ge (tgt := 58) X dX4_keep_29 (by decide) (fun h => absurd h (by decide)) (fun _ => ?_)
  refine gq_aload_n X dX4_keep_32 1 rfl ?_
  refine gq_get (C := RX4) (T := TX4) (N := 8) X iX4_keep_X4 0 gl_QuePile_c0 rfl 5 (by decide) fX4_keep_X4_5 rfl dX4_keep_33 ?_
  refine gq_iload_n X dX4_keep_36 2 rfl ?_
  refine gq_iconst (v := 4) X dX4_keep_37 gq_i4 ?_
  refine gq_imul X dX4_keep_38 ?_
  refine gq_iload X dX4_keep_39 0 rfl ?_
  refine gq_iadd X dX4_keep_41 ?_
  refine gq_aload_n X dX4_keep_42 4 rfl ?_
  refine gq_iload X dX4_keep_43 0 rfl ?_
  refine gq_callVr (ws' := gw_QuePile cA a0 a1 a2 a3 a4 a5 a6 a7 a8 a9 a10 a11 a12 a13 a14 s6) X (c_X2_get l D cA a13 a14 4 (by decide) s6.2 1) rfl ⟨rfl, rfl⟩ ⟨Nat.le_of_ble_eq_true rfl, Nat.le_of_ble_eq_true rfl⟩ gX4_keep_X2_get hv_X2_get 13 rfl rfl [13, 14] gl_QuePile_13_at gl_QuePile_13_nd gl_Pile_fst gl_QuePile_13_same rfl rfl (Nat.le_of_ble_eq_true rfl) ⟨Nat.zero_le _, Nat.zero_le _⟩ dX4_keep_45 ?_
  refine gq_letr (fun r7 er7 => ?_)
  refine gq_letr (fun s8 es8 => ?_)
  refine gq_callVr (ws' := gw_QuePile cA a0 a1 a2 a3 a4 a5 a6 a7 a8 a9 a10 a11 a12 a13 a14 s8) X (gq_Ceq (res2 := some (Value.int r7.1)) (w2 := gw_Row cA a11 a12 24 r7.2) (c_X5_set l D cA a11 a12 24 (by decide) s6.1.2.2.2.2.2.1 ((x1 * 4) + 1) (k_X2_get 4 s6.2 1)) (by rw [er7]) (by rw [er7])) rfl ⟨rfl, rfl⟩ ⟨Nat.le_of_ble_eq_true rfl, Nat.le_of_ble_eq_true rfl⟩ gX4_keep_X5_set hv_X5_set 11 rfl rfl [11, 12] gl_QuePile_11_at gl_QuePile_11_nd gl_Row_fst (by rw [es8]; exact gl_QuePile_11_set) rfl rfl (Nat.le_of_ble_eq_true rfl) ⟨Nat.zero_le _, Nat.zero_le _⟩ dX4_keep_48 ?_
  refine gq_pop X dX4_keep_51 rfl ?_
  refine gq_iinc (lv' := [(4, .int 2), (0, .ref a0), (1, .int x1), (2, .int x2), (3, .ref a13)]) X dX4_keep_52 0 rfl (by decide) (by decide) rfl ?_
  refine gq_goto (tgt := 26) X dX4_keep_55 (by decide) ?_
  refine gq_iload X dX4_keep_26 0 rfl ?_
  refine gq_iconst (v := 4) X dX4_keep_28 gq_i4 ?_
  refine gq_icmp_ge (tgt := 58) X dX4_keep_29 (by decide) (fun h => absurd h (by decide)) (fun _ => ?_)
  refine gq_aload_n X dX4_keep_32 1 rfl ?_
  refine gq_get (C := RX4) (T := TX4) (N := 8) X iX4_keep_X4 0 gl_QuePile_c0 rfl 5 (by decide) fX4_keep_X4_5 rfl dX4_keep_33 ?_
  refine gq_iload_n X dX4_keep_36 2 rfl ?_
  refine gq_iconst (v := 4) X dX4_keep_37 gq_i4 ?_
  refine gq_imul X dX4_keep_38 ?_
  refine gq_iload X dX4_keep_39 0 rfl ?_
  refine gq_iadd X dX4_keep_41 ?_
  refine gq_aload_n X dX4_keep_42 4 rfl ?_
  refine gq_iload X dX4_keep_43 0 rfl ?_
  refine gq_callVr (ws' := gw_QuePile cA a0 a1 a2 a3 a4 a5 a6 a7 a8 a9 a10 a11 a12 a13 a14 s8) X (c_X2_get l D cA a13 a14 4 (by decide) s8.2 2) rfl ⟨rfl, rfl⟩ ⟨Nat.le_of_ble_eq_true rfl, Nat.le_of_ble_eq_true rfl⟩ gX4_keep_X2_get hv_X2_get 13 rfl rfl [13, 14] gl_QuePile_13_at gl_QuePile_13_nd gl_Pile_fst gl_QuePile_13_same rfl rfl (Nat.le_of_ble_eq_true rfl) ⟨Nat.zero_le _, Nat.zero_le _⟩ dX4_keep_45 ?_
  refine gq_letr (fun r9 er9 => ?_)
  refine gq_letr (fun s10 es10 => ?_)
  refine gq_callVr (ws' := gw_QuePile cA a0 a1 a2 a3 a4 a5 a6 a7 a8 a9 a10 a11 a12 a13 a14 s10) X (gq_Ceq (res2 := some (Value.int r9.1)) (w2 := gw_Row cA a11 a12 24 r9.2) (c_X5_set l D cA a11 a12 24 (by decide) s8.1.2.2.2.2.2.1 ((x1 * 4) + 2) (k_X2_get 4 s8.2 2)) (by rw [er9]) (by rw [er9])) rfl ⟨rfl, rfl⟩ ⟨Nat.le_of_ble_eq_true rfl, Nat.le_of_ble_eq_true rfl⟩ gX4_keep_X5_set hv_X5_set 11 rfl rfl [11, 12] gl_QuePile_11_at gl_QuePile_11_nd gl_Row_fst (by rw [es10]; exact gl_QuePile_11_set) rfl rfl (Nat.le_of_ble_eq_true rfl) ⟨Nat.zero_le _, Nat.zero_le _⟩ dX4_keep_48 ?_
  refine gq_pop X dX4_keep_51 rfl ?_
  refine gq_iinc (lv' := [(4, .int 3), (0, .ref a0), (1, .int x1), (2, .int x2), (3, .ref a13)]) X dX4_keep_52 0 rfl (by decide) (by decide) rfl ?_
  refine gq_goto (tgt := 26) X dX4_keep_55 (by decide) ?_
  refine gq_iload X dX4_keep_26 0 rfl ?_
  refine gq_iconst (v := 4) X dX4_keep_28 gq_i4 ?_
  refine gq_icmp_ge (tgt := 58) X dX4_keep_29 (by decide) (fun h => absurd h (by decide)) (fun _ => ?_)
  refine gq_aload_n X dX4_keep_32 1 rfl ?_
  refine gq_get (C := RX4) (T := TX4) (N := 8) X iX4_keep_X4 0 gl_QuePile_c0 rfl 5 (by decide) fX4_keep_X4_5 rfl dX4_keep_33 ?_
  refine gq_iload_n X dX4_keep_36 2 rfl ?_
  refine gq_iconst (v := 4) X dX4_keep_37 gq_i4 ?_
  refine gq_imul X dX4_keep_38 ?_
  refine gq_iload X dX4_keep_39 0 rfl ?_
  refine gq_iadd X dX4_keep_41 ?_
  refine gq_aload_n X dX4_keep_42 4 rfl ?_
  refine gq_iload X dX4_keep_43 0 rfl ?_
  refine gq_callVr (ws' := gw_QuePile cA a0 a1 a2 a3 a4 a5 a6 a7 a8 a9 a10 a11 a12 a13 a14 s10) X (c_X2_get l D cA a13 a14 4 (by decide) s10.2 3) rfl ⟨rfl, rfl⟩ ⟨Nat.le_of_ble_eq_true rfl, Nat.le_of_ble_eq_true rfl⟩ gX4_keep_X2_get hv_X2_get 13 rfl rfl [13, 14] gl_QuePile_13_at gl_QuePile_13_nd gl_Pile_fst gl_QuePile_13_same rfl rfl (Nat.le_of_ble_eq_true rfl) ⟨Nat.zero_le _, Nat.zero_le _⟩ dX4_keep_45 ?_
  refine gq_letr (fun r11 er11 => ?_)
  refine gq_letr (fun s12 es12 => ?_)
  refine gq_callVr (ws' := gw_QuePile cA a0 a1 a2 a3 a4 a5 a6 a7 a8 a9 a10 a11 a12 a13 a14 s12) X (gq_Ceq (res2 := some (Value.int r11.1)) (w2 := gw_Row cA a11 a12 24 r11.2) (c_X5_set l D cA a11 a12 24 (by decide) s10.1.2.2.2.2.2.1 ((x1 * 4) + 3) (k_X2_get 4 s10.2 3)) (by rw [er11]) (by rw [er11])) rfl ⟨rfl, rfl⟩ ⟨Nat.le_of_ble_eq_true rfl, Nat.le_of_ble_eq_true rfl⟩ gX4_keep_X5_set hv_X5_set 11 rfl rfl [11, 12] gl_QuePile_11_at gl_QuePile_11_nd gl_Row_fst (by rw [es12]; exact gl_QuePile_11_set) rfl rfl (Nat.le_of_ble_eq_true rfl) ⟨Nat.zero_le _, Nat.zero_le _⟩ dX4_keep_48 ?_
  refine gq_pop X dX4_keep_51 rfl ?_
  refine gq_iinc (lv' := [(4, .int 4), (0, .ref a0), (1, .int x1), (2, .int x2), (3, .ref a13)]) X dX4_keep_52 0 rfl (by decide) (by decide) rfl ?_
  refine gq_goto (tgt := 26) X dX4_keep_55 (by decide) ?_
  refine gq_iload X dX4_keep_26 0 rfl ?_
  refine gq_iconst (v := 4) X dX4_keep_28 gq_i4 ?_
  refine gq_icmp_ge (tgt := 58) X dX4_keep_29 (by decide) (fun _ => ?_) (fun h => absurd (by decide) h)
  exact gq_vretf X dX4_keep_58 rfl rfl
theorem iX4_giveReturnsBack_X4 : ∀ w ∈ u_ws RX4 TX4 8, w ∈ wsX4_giveReturnsBack := by decide +kernel
theorem fX4_giveReturnsBack_X4_4 : Cond.fieldLink RX4 29 (TX4 4).1 (TX4 4).2.1 (TX4 4).2.2.1 ∈ wsX4_giveReturnsBack := by decide +kernel
theorem fX4_giveReturnsBack_X4_5 : Cond.fieldLink RX4 32 (TX4 5).1 (TX4 5).2.1 (TX4 5).2.2.1 ∈ wsX4_giveReturnsBack := by decide +kernel
theorem hv_X4_giveReturnsBack : yX4_giveReturnsBack.cls = RX4 ∧ yX4_giveReturnsBack.cls ≠ "java/lang/invoke/MethodHandle" ∧ yX4_giveReturnsBack.cls ≠ "java/lang/invoke/VarHandle" ∧ (parseMethodDescriptor yX4_giveReturnsBack.desc).map (fun d => d.parameters.length) = some 2 := by decide +kernel
def k_X4_giveReturnsBack (S : gs_Q × gs_P) (x1 : Int32) : (gs_Q × gs_P) :=
  gq_lt ((S.1, k_X2_clear 4 S.2)) (fun s1 =>
  if k_X5_get 6 s1.1.2.2.2.2.1 x1 ≤ 0 then
    s1
  else
    gq_lt (k_X2_push 4 s1.2 (k_X5_get 24 s1.1.2.2.2.2.2.1 ((x1 * 4) + 0))) (fun r2 =>
    gq_lt ((s1.1, r2.2)) (fun s3 =>
    if k_X5_get 6 s3.1.2.2.2.2.1 x1 ≤ 1 then
      s3
    else
      gq_lt (k_X2_push 4 s3.2 (k_X5_get 24 s3.1.2.2.2.2.2.1 ((x1 * 4) + 1))) (fun r4 =>
      gq_lt ((s3.1, r4.2)) (fun s5 =>
      if k_X5_get 6 s5.1.2.2.2.2.1 x1 ≤ 2 then
        s5
      else
        gq_lt (k_X2_push 4 s5.2 (k_X5_get 24 s5.1.2.2.2.2.2.1 ((x1 * 4) + 2))) (fun r6 =>
        gq_lt ((s5.1, r6.2)) (fun s7 =>
        if k_X5_get 6 s7.1.2.2.2.2.1 x1 ≤ 3 then
          s7
        else
          gq_lt (k_X2_push 4 s7.2 (k_X5_get 24 s7.1.2.2.2.2.2.1 ((x1 * 4) + 3))) (fun r8 =>
          gq_lt ((s7.1, r8.2)) (fun s9 =>
          s9)))))))))
set_option maxHeartbeats 4000000 in
set_option maxRecDepth 100000 in
theorem c_X4_giveReturnsBack (l : Launch) (D : va_G) (cA : ClassId) (a0 a1 a2 a3 a4 a5 a6 a7 a8 a9 a10 a11 a12 a13 a14 : Nat) (S : gs_Q × gs_P) (x1 : Int32) : gq_C l yX4_giveReturnsBack wsX4_giveReturnsBack ({ frames := 1, cells := 0, slots := 0, locals := 21 } : Room) D cA [.ref a0, .int x1, .ref a13] (gw_QuePile cA a0 a1 a2 a3 a4 a5 a6 a7 a8 a9 a10 a11 a12 a13 a14 S) (none) (gw_QuePile cA a0 a1 a2 a3 a4 a5 a6 a7 a8 a9 a10 a11 a12 a13 a14 (k_X4_giveReturnsBack S x1)) := by
  refine gq_openf (own := RX4) (lv := [(0, .ref a0), (1, .int x1), (2, .ref a13)]) (fun r : (gs_Q × gs_P) => (none, gw_QuePile cA a0 a1 a2 a3 a4 a5 a6 a7 a8 a9 a10 a11 a12 a13 a14 r)) (k_X4_giveReturnsBack S x1) (by decide) rfl rfl (Nat.le_of_ble_eq_true rfl) rfl rfl rfl (fun p e s m args below meth c A X => ?_)
  unfold k_X4_giveReturnsBack
  refine gq_aload_n X dX4_giveReturnsBack_0 2 rfl ?_
  refine gq_letr (fun s1 es1 => ?_)
  refine gq_callVv (ws' := gw_QuePile cA a0 a1 a2 a3 a4 a5 a6 a7 a8 a9 a10 a11 a12 a13 a14 s1) X (c_X2_clear l D cA a13 a14 4 (by decide) S.2) rfl ⟨rfl, rfl⟩ ⟨Nat.le_of_ble_eq_true rfl, Nat.le_of_ble_eq_true rfl⟩ gX4_giveReturnsBack_X2_clear hv_X2_clear 13 rfl rfl [13, 14] gl_QuePile_13_at gl_QuePile_13_nd gl_Pile_fst (by rw [es1]; exact gl_QuePile_13_set) rfl rfl (Nat.le_of_ble_eq_true rfl) ⟨Nat.zero_le _, Nat.zero_le _⟩ dX4_giveReturnsBack_1 ?_
  refine gq_iconst (v := 0) X dX4_giveReturnsBack_4 gq_i0 ?_
  refine gq_istore_n (lv' := [(3, .int 0), (0, .ref a0), (1, .int x1), (2, .ref a13)]) X dX4_giveReturnsBack_5 (by decide) rfl ?_
  refine gq_iload_n X dX4_giveReturnsBack_6 0 rfl ?_
  refine gq_iconst (v := 4) X dX4_giveReturnsBack_7 gq_i4 ?_
  refine gq_icmp_ge (tgt := 46) X dX4_giveReturnsBack_8 (by decide) (fun h => absurd h (by decide)) (fun _ => ?_)
  refine gq_iload_n X dX4_giveReturnsBack_11 0 rfl ?_
  refine gq_aload_n X dX4_giveReturnsBack_12 1 rfl ?_
  refine gq_get (C := RX4) (T := TX4) (N := 8) X iX4_giveReturnsBack_X4 0 gl_QuePile_c0 rfl 4 (by decide) fX4_giveReturnsBack_X4_4 rfl dX4_giveReturnsBack_13 ?_
  refine gq_iload_n X dX4_giveReturnsBack_16 2 rfl ?_
  refine gq_callVr (ws' := gw_QuePile cA a0 a1 a2 a3 a4 a5 a6 a7 a8 a9 a10 a11 a12 a13 a14 s1) X (c_X5_get l D cA a9 a10 6 (by decide) s1.1.2.2.2.2.1 x1) rfl ⟨rfl, rfl⟩ ⟨Nat.le_of_ble_eq_true rfl, Nat.le_of_ble_eq_true rfl⟩ gX4_giveReturnsBack_X5_get hv_X5_get 9 rfl rfl [9, 10] gl_QuePile_9_at gl_QuePile_9_nd gl_Row_fst gl_QuePile_9_same rfl rfl (Nat.le_of_ble_eq_true rfl) ⟨Nat.zero_le _, Nat.zero_le _⟩ dX4_giveReturnsBack_17 ?_
  refine gq_ficmp_ge (tgt := 46) X dX4_giveReturnsBack_20 (by decide) (fun h20 => ?_) (fun h20 => ?_)
  · exact gq_vretf X dX4_giveReturnsBack_46 rfl rfl
  · refine gq_aload_n X dX4_giveReturnsBack_23 3 rfl ?_
    refine gq_aload_n X dX4_giveReturnsBack_24 1 rfl ?_
    refine gq_get (C := RX4) (T := TX4) (N := 8) X iX4_giveReturnsBack_X4 0 gl_QuePile_c0 rfl 5 (by decide) fX4_giveReturnsBack_X4_5 rfl dX4_giveReturnsBack_25 ?_
    refine gq_iload_n X dX4_giveReturnsBack_28 2 rfl ?_
    refine gq_iconst (v := 4) X dX4_giveReturnsBack_29 gq_i4 ?_
    refine gq_imul X dX4_giveReturnsBack_30 ?_
    refine gq_iload_n X dX4_giveReturnsBack_31 0 rfl ?_
    refine gq_iadd X dX4_giveReturnsBack_32 ?_
    refine gq_callVr (ws' := gw_QuePile cA a0 a1 a2 a3 a4 a5 a6 a7 a8 a9 a10 a11 a12 a13 a14 s1) X (c_X5_get l D cA a11 a12 24 (by decide) s1.1.2.2.2.2.2.1 ((x1 * 4) + 0)) rfl ⟨rfl, rfl⟩ ⟨Nat.le_of_ble_eq_true rfl, Nat.le_of_ble_eq_true rfl⟩ gX4_giveReturnsBack_X5_get hv_X5_get 11 rfl rfl [11, 12] gl_QuePile_11_at gl_QuePile_11_nd gl_Row_fst gl_QuePile_11_same rfl rfl (Nat.le_of_ble_eq_true rfl) ⟨Nat.zero_le _, Nat.zero_le _⟩ dX4_giveReturnsBack_33 ?_
    refine gq_letr (fun r2 er2 => ?_)
    refine gq_letr (fun s3 es3 => ?_)
    refine gq_callVr (ws' := gw_QuePile cA a0 a1 a2 a3 a4 a5 a6 a7 a8 a9 a10 a11 a12 a13 a14 s3) X (gq_Ceq (res2 := some (Value.int (gq_b r2.1))) (w2 := gw_Pile cA a13 a14 4 r2.2) (c_X2_push l D cA a13 a14 4 (by decide) s1.2 (k_X5_get 24 s1.1.2.2.2.2.2.1 ((x1 * 4) + 0))) (by rw [er2]) (by rw [er2])) rfl ⟨rfl, rfl⟩ ⟨Nat.le_of_ble_eq_true rfl, Nat.le_of_ble_eq_true rfl⟩ gX4_giveReturnsBack_X2_push hv_X2_push 13 rfl rfl [13, 14] gl_QuePile_13_at gl_QuePile_13_nd gl_Pile_fst (by rw [es3]; exact gl_QuePile_13_set) rfl rfl (Nat.le_of_ble_eq_true rfl) ⟨Nat.zero_le _, Nat.zero_le _⟩ dX4_giveReturnsBack_36 ?_
    refine gq_pop X dX4_giveReturnsBack_39 rfl ?_
    refine gq_iinc (lv' := [(3, .int 1), (0, .ref a0), (1, .int x1), (2, .ref a13)]) X dX4_giveReturnsBack_40 0 rfl (by decide) (by decide) rfl ?_
    refine gq_goto (tgt := 6) X dX4_giveReturnsBack_43 (by decide) ?_
    refine gq_iload_n X dX4_giveReturnsBack_6 0 rfl ?_
    refine gq_iconst (v := 4) X dX4_giveReturnsBack_7 gq_i4 ?_
    refine gq_icmp_ge (tgt := 46) X dX4_giveReturnsBack_8 (by decide) (fun h => absurd h (by decide)) (fun _ => ?_)
    refine gq_iload_n X dX4_giveReturnsBack_11 0 rfl ?_
    refine gq_aload_n X dX4_giveReturnsBack_12 1 rfl ?_
    refine gq_get (C := RX4) (T := TX4) (N := 8) X iX4_giveReturnsBack_X4 0 gl_QuePile_c0 rfl 4 (by decide) fX4_giveReturnsBack_X4_4 rfl dX4_giveReturnsBack_13 ?_
    refine gq_iload_n X dX4_giveReturnsBack_16 2 rfl ?_
    refine gq_callVr (ws' := gw_QuePile cA a0 a1 a2 a3 a4 a5 a6 a7 a8 a9 a10 a11 a12 a13 a14 s3) X (c_X5_get l D cA a9 a10 6 (by decide) s3.1.2.2.2.2.1 x1) rfl ⟨rfl, rfl⟩ ⟨Nat.le_of_ble_eq_true rfl, Nat.le_of_ble_eq_true rfl⟩ gX4_giveReturnsBack_X5_get hv_X5_get 9 rfl rfl [9, 10] gl_QuePile_9_at gl_QuePile_9_nd gl_Row_fst gl_QuePile_9_same rfl rfl (Nat.le_of_ble_eq_true rfl) ⟨Nat.zero_le _, Nat.zero_le _⟩ dX4_giveReturnsBack_17 ?_
    refine gq_ficmp_ge (tgt := 46) X dX4_giveReturnsBack_20 (by decide) (fun h20_1 => ?_) (fun h20_1 => ?_)
    · exact gq_vretf X dX4_giveReturnsBack_46 rfl rfl
    · refine gq_aload_n X dX4_giveReturnsBack_23 3 rfl ?_
      refine gq_aload_n X dX4_giveReturnsBack_24 1 rfl ?_
      refine gq_get (C := RX4) (T := TX4) (N := 8) X iX4_giveReturnsBack_X4 0 gl_QuePile_c0 rfl 5 (by decide) fX4_giveReturnsBack_X4_5 rfl dX4_giveReturnsBack_25 ?_
      refine gq_iload_n X dX4_giveReturnsBack_28 2 rfl ?_
      refine gq_iconst (v := 4) X dX4_giveReturnsBack_29 gq_i4 ?_
      refine gq_imul X dX4_giveReturnsBack_30 ?_
      refine gq_iload_n X dX4_giveReturnsBack_31 0 rfl ?_
      refine gq_iadd X dX4_giveReturnsBack_32 ?_
      refine gq_callVr (ws' := gw_QuePile cA a0 a1 a2 a3 a4 a5 a6 a7 a8 a9 a10 a11 a12 a13 a14 s3) X (c_X5_get l D cA a11 a12 24 (by decide) s3.1.2.2.2.2.2.1 ((x1 * 4) + 1)) rfl ⟨rfl, rfl⟩ ⟨Nat.le_of_ble_eq_true rfl, Nat.le_of_ble_eq_true rfl⟩ gX4_giveReturnsBack_X5_get hv_X5_get 11 rfl rfl [11, 12] gl_QuePile_11_at gl_QuePile_11_nd gl_Row_fst gl_QuePile_11_same rfl rfl (Nat.le_of_ble_eq_true rfl) ⟨Nat.zero_le _, Nat.zero_le _⟩ dX4_giveReturnsBack_33 ?_
      refine gq_letr (fun r4 er4 => ?_)
      refine gq_letr (fun s5 es5 => ?_)
      refine gq_callVr (ws' := gw_QuePile cA a0 a1 a2 a3 a4 a5 a6 a7 a8 a9 a10 a11 a12 a13 a14 s5) X (gq_Ceq (res2 := some (Value.int (gq_b r4.1))) (w2 := gw_Pile cA a13 a14 4 r4.2) (c_X2_push l D cA a13 a14 4 (by decide) s3.2 (k_X5_get 24 s3.1.2.2.2.2.2.1 ((x1 * 4) + 1))) (by rw [er4]) (by rw [er4])) rfl ⟨rfl, rfl⟩ ⟨Nat.le_of_ble_eq_true rfl, Nat.le_of_ble_eq_true rfl⟩ gX4_giveReturnsBack_X2_push hv_X2_push 13 rfl rfl [13, 14] gl_QuePile_13_at gl_QuePile_13_nd gl_Pile_fst (by rw [es5]; exact gl_QuePile_13_set) rfl rfl (Nat.le_of_ble_eq_true rfl) ⟨Nat.zero_le _, Nat.zero_le _⟩ dX4_giveReturnsBack_36 ?_
      refine gq_pop X dX4_giveReturnsBack_39 rfl ?_
      refine gq_iinc (lv' := [(3, .int 2), (0, .ref a0), (1, .int x1), (2, .ref a13)]) X dX4_giveReturnsBack_40 0 rfl (by decide) (by decide) rfl ?_
      refine gq_goto (tgt := 6) X dX4_giveReturnsBack_43 (by decide) ?_
      refine gq_iload_n X dX4_giveReturnsBack_6 0 rfl ?_
      refine gq_iconst (v := 4) X dX4_giveReturnsBack_7 gq_i4 ?_
      refine gq_icmp_ge (tgt := 46) X dX4_giveReturnsBack_8 (by decide) (fun h => absurd h (by decide)) (fun _ => ?_)
      refine gq_iload_n X dX4_giveReturnsBack_11 0 rfl ?_
      refine gq_aload_n X dX4_giveReturnsBack_12 1 rfl ?_
      refine gq_get (C := RX4) (T := TX4) (N := 8) X iX4_giveReturnsBack_X4 0 gl_QuePile_c0 rfl 4 (by decide) fX4_giveReturnsBack_X4_4 rfl dX4_giveReturnsBack_13 ?_
      refine gq_iload_n X dX4_giveReturnsBack_16 2 rfl ?_
      refine gq_callVr (ws' := gw_QuePile cA a0 a1 a2 a3 a4 a5 a6 a7 a8 a9 a10 a11 a12 a13 a14 s5) X (c_X5_get l D cA a9 a10 6 (by decide) s5.1.2.2.2.2.1 x1) rfl ⟨rfl, rfl⟩ ⟨Nat.le_of_ble_eq_true rfl, Nat.le_of_ble_eq_true rfl⟩ gX4_giveReturnsBack_X5_get hv_X5_get 9 rfl rfl [9, 10] gl_QuePile_9_at gl_QuePile_9_nd gl_Row_fst gl_QuePile_9_same rfl rfl (Nat.le_of_ble_eq_true rfl) ⟨Nat.zero_le _, Nat.zero_le _⟩ dX4_giveReturnsBack_17 ?_
      refine gq_ficmp_ge (tgt := 46) X dX4_giveReturnsBack_20 (by decide) (fun h20_2 => ?_) (fun h20_2 => ?_)
      · exact gq_vretf X dX4_giveReturnsBack_46 rfl rfl
      · refine gq_aload_n X dX4_giveReturnsBack_23 3 rfl ?_
        refine gq_aload_n X dX4_giveReturnsBack_24 1 rfl ?_
        refine gq_get (C := RX4) (T := TX4) (N := 8) X iX4_giveReturnsBack_X4 0 gl_QuePile_c0 rfl 5 (by decide) fX4_giveReturnsBack_X4_5 rfl dX4_giveReturnsBack_25 ?_
        refine gq_iload_n X dX4_giveReturnsBack_28 2 rfl ?_
        refine gq_iconst (v := 4) X dX4_giveReturnsBack_29 gq_i4 ?_
        refine gq_imul X dX4_giveReturnsBack_30 ?_
        refine gq_iload_n X dX4_giveReturnsBack_31 0 rfl ?_
        refine gq_iadd X dX4_giveReturnsBack_32 ?_
        refine gq_callVr (ws' := gw_QuePile cA a0 a1 a2 a3 a4 a5 a6 a7 a8 a9 a10 a11 a12 a13 a14 s5) X (c_X5_get l D cA a11 a12 24 (by decide) s5.1.2.2.2.2.2.1 ((x1 * 4) + 2)) rfl ⟨rfl, rfl⟩ ⟨Nat.le_of_ble_eq_true rfl, Nat.le_of_ble_eq_true rfl⟩ gX4_giveReturnsBack_X5_get hv_X5_get 11 rfl rfl [11, 12] gl_QuePile_11_at gl_QuePile_11_nd gl_Row_fst gl_QuePile_11_same rfl rfl (Nat.le_of_ble_eq_true rfl) ⟨Nat.zero_le _, Nat.zero_le _⟩ dX4_giveReturnsBack_33 ?_
        refine gq_letr (fun r6 er6 => ?_)
        refine gq_letr (fun s7 es7 => ?_)
        refine gq_callVr (ws' := gw_QuePile cA a0 a1 a2 a3 a4 a5 a6 a7 a8 a9 a10 a11 a12 a13 a14 s7) X (gq_Ceq (res2 := some (Value.int (gq_b r6.1))) (w2 := gw_Pile cA a13 a14 4 r6.2) (c_X2_push l D cA a13 a14 4 (by decide) s5.2 (k_X5_get 24 s5.1.2.2.2.2.2.1 ((x1 * 4) + 2))) (by rw [er6]) (by rw [er6])) rfl ⟨rfl, rfl⟩ ⟨Nat.le_of_ble_eq_true rfl, Nat.le_of_ble_eq_true rfl⟩ gX4_giveReturnsBack_X2_push hv_X2_push 13 rfl rfl [13, 14] gl_QuePile_13_at gl_QuePile_13_nd gl_Pile_fst (by rw [es7]; exact gl_QuePile_13_set) rfl rfl (Nat.le_of_ble_eq_true rfl) ⟨Nat.zero_le _, Nat.zero_le _⟩ dX4_giveReturnsBack_36 ?_
        refine gq_pop X dX4_giveReturnsBack_39 rfl ?_
        refine gq_iinc (lv' := [(3, .int 3), (0, .ref a0), (1, .int x1), (2, .ref a13)]) X dX4_giveReturnsBack_40 0 rfl (by decide) (by decide) rfl ?_
        refine gq_goto (tgt := 6) X dX4_giveReturnsBack_43 (by decide) ?_
        refine gq_iload_n X dX4_giveReturnsBack_6 0 rfl ?_
        refine gq_iconst (v := 4) X dX4_giveReturnsBack_7 gq_i4 ?_
        refine gq_icmp_ge (tgt := 46) X dX4_giveReturnsBack_8 (by decide) (fun h => absurd h (by decide)) (fun _ => ?_)
        refine gq_iload_n X dX4_giveReturnsBack_11 0 rfl ?_
        refine gq_aload_n X dX4_giveReturnsBack_12 1 rfl ?_
        refine gq_get (C := RX4) (T := TX4) (N := 8) X iX4_giveReturnsBack_X4 0 gl_QuePile_c0 rfl 4 (by decide) fX4_giveReturnsBack_X4_4 rfl dX4_giveReturnsBack_13 ?_
        refine gq_iload_n X dX4_giveReturnsBack_16 2 rfl ?_
        refine gq_callVr (ws' := gw_QuePile cA a0 a1 a2 a3 a4 a5 a6 a7 a8 a9 a10 a11 a12 a13 a14 s7) X (c_X5_get l D cA a9 a10 6 (by decide) s7.1.2.2.2.2.1 x1) rfl ⟨rfl, rfl⟩ ⟨Nat.le_of_ble_eq_true rfl, Nat.le_of_ble_eq_true rfl⟩ gX4_giveReturnsBack_X5_get hv_X5_get 9 rfl rfl [9, 10] gl_QuePile_9_at gl_QuePile_9_nd gl_Row_fst gl_QuePile_9_same rfl rfl (Nat.le_of_ble_eq_true rfl) ⟨Nat.zero_le _, Nat.zero_le _⟩ dX4_giveReturnsBack_17 ?_
        refine gq_ficmp_ge (tgt := 46) X dX4_giveReturnsBack_20 (by decide) (fun h20_3 => ?_) (fun h20_3 => ?_)
        · exact gq_vretf X dX4_giveReturnsBack_46 rfl rfl
        · refine gq_aload_n X dX4_giveReturnsBack_23 3 rfl ?_
          refine gq_aload_n X dX4_giveReturnsBack_24 1 rfl ?_
          refine gq_get (C := RX4) (T := TX4) (N := 8) X iX4_giveReturnsBack_X4 0 gl_QuePile_c0 rfl 5 (by decide) fX4_giveReturnsBack_X4_5 rfl dX4_giveReturnsBack_25 ?_
          refine gq_iload_n X dX4_giveReturnsBack_28 2 rfl ?_
          refine gq_iconst (v := 4) X dX4_giveReturnsBack_29 gq_i4 ?_
          refine gq_imul X dX4_giveReturnsBack_30 ?_
          refine gq_iload_n X dX4_giveReturnsBack_31 0 rfl ?_
          refine gq_iadd X dX4_giveReturnsBack_32 ?_
          refine gq_callVr (ws' := gw_QuePile cA a0 a1 a2 a3 a4 a5 a6 a7 a8 a9 a10 a11 a12 a13 a14 s7) X (c_X5_get l D cA a11 a12 24 (by decide) s7.1.2.2.2.2.2.1 ((x1 * 4) + 3)) rfl ⟨rfl, rfl⟩ ⟨Nat.le_of_ble_eq_true rfl, Nat.le_of_ble_eq_true rfl⟩ gX4_giveReturnsBack_X5_get hv_X5_get 11 rfl rfl [11, 12] gl_QuePile_11_at gl_QuePile_11_nd gl_Row_fst gl_QuePile_11_same rfl rfl (Nat.le_of_ble_eq_true rfl) ⟨Nat.zero_le _, Nat.zero_le _⟩ dX4_giveReturnsBack_33 ?_
          refine gq_letr (fun r8 er8 => ?_)
          refine gq_letr (fun s9 es9 => ?_)
          refine gq_callVr (ws' := gw_QuePile cA a0 a1 a2 a3 a4 a5 a6 a7 a8 a9 a10 a11 a12 a13 a14 s9) X (gq_Ceq (res2 := some (Value.int (gq_b r8.1))) (w2 := gw_Pile cA a13 a14 4 r8.2) (c_X2_push l D cA a13 a14 4 (by decide) s7.2 (k_X5_get 24 s7.1.2.2.2.2.2.1 ((x1 * 4) + 3))) (by rw [er8]) (by rw [er8])) rfl ⟨rfl, rfl⟩ ⟨Nat.le_of_ble_eq_true rfl, Nat.le_of_ble_eq_true rfl⟩ gX4_giveReturnsBack_X2_push hv_X2_push 13 rfl rfl [13, 14] gl_QuePile_13_at gl_QuePile_13_nd gl_Pile_fst (by rw [es9]; exact gl_QuePile_13_set) rfl rfl (Nat.le_of_ble_eq_true rfl) ⟨Nat.zero_le _, Nat.zero_le _⟩ dX4_giveReturnsBack_36 ?_
          refine gq_pop X dX4_giveReturnsBack_39 rfl ?_
          refine gq_iinc (lv' := [(3, .int 4), (0, .ref a0), (1, .int x1), (2, .ref a13)]) X dX4_giveReturnsBack_40 0 rfl (by decide) (by decide) rfl ?_
          refine gq_goto (tgt := 6) X dX4_giveReturnsBack_43 (by decide) ?_
          refine gq_iload_n X dX4_giveReturnsBack_6 0 rfl ?_
          refine gq_iconst (v := 4) X dX4_giveReturnsBack_7 gq_i4 ?_
          refine gq_icmp_ge (tgt := 46) X dX4_giveReturnsBack_8 (by decide) (fun _ => ?_) (fun h => absurd (by decide) h)
          exact gq_vretf X dX4_giveReturnsBack_46 rfl rfl
