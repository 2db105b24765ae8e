theorem gq_in2 {i : Int32} {n : Nat} (h1 : ¬ i < 0) (h2 : i < nI n) (hn : n < 2147483648) : vp_in i n := gq_in h1 (by rw [Int32.le_iff_toInt_le]; rw [Int32.lt_iff_toInt_lt] at h2; omega) hn
theorem gq_cl {i : Nat} (h : i < 2147483648) : gq_ix (nI i) = i := nI_clamp h
def gq_fill (f : gs_R) (v : Int32) (i : Nat) : gs_R := fun j => if j < i then v else f j
theorem gq_fill_0 (f : gs_R) (v : Int32) : f = gq_fill f v 0 := by funext j; simp [gq_fill]
theorem gq_fill_s (f : gs_R) (v : Int32) {i n : Nat} (h : i < n) (hn : n < 2147483648) : upd (gq_fill f v i) (gq_ix (nI i)) v = gq_fill f v (i + 1) := by
  rw [gq_cl (by omega)]
  funext j
  simp only [upd, gq_fill]
  by_cases h1 : j = i
  · subst h1; simp
  · by_cases h2 : j < i
    · rw [if_neg h1, if_pos h2, if_pos (by omega)]
    · rw [if_neg h1, if_neg h2, if_neg (by omega)]
def gq_shl (f : gs_R) (i : Nat) : gs_R := fun j => if j + 1 < i then f (j + 1) else f j
theorem gq_shl_1 (f : gs_R) : f = gq_shl f 1 := by funext j; simp [gq_shl]
theorem gq_shl_s (f : gs_R) {i n : Nat} (h0 : 1 ≤ i) (h : i < n) (hn : n < 2147483648) : upd (gq_shl f i) (gq_ix (nI i - 1)) (gq_shl f i (gq_ix (nI i))) = gq_shl f (i + 1) := by
  obtain ⟨k, rfl⟩ : ∃ k, i = k + 1 := ⟨i - 1, by omega⟩
  rw [nI_pred, gq_cl (by omega), gq_cl (by omega)]
  funext j
  simp only [upd, gq_shl]
  by_cases h1 : j = k
  · subst h1; simp; intro h9; omega
  · by_cases h2 : j + 1 < k + 1
    · rw [if_neg h1, if_pos h2, if_pos (by omega)]
    · rw [if_neg h1, if_neg h2, if_neg (by omega)]
theorem iX5_get_X5 : ∀ w ∈ u_ws RX5 TX5 1, w ∈ wsX5_get := by decide +kernel
theorem fX5_get_X5_0 : Cond.fieldLink RX5 13 (TX5 0).1 (TX5 0).2.1 (TX5 0).2.2.1 ∈ wsX5_get := by decide +kernel
theorem hv_X5_get : yX5_get.cls = RX5 ∧ yX5_get.cls ≠ "java/lang/invoke/MethodHandle" ∧ yX5_get.cls ≠ "java/lang/invoke/VarHandle" ∧ (parseMethodDescriptor yX5_get.desc).map (fun d => d.parameters.length) = some 1 := by decide +kernel
def k_X5_get (n : Nat) (S : gs_R) (x1 : Int32) : Int32 :=
  if x1 < 0 then
    0
  else
    if nI n ≤ x1 then
      0
    else
      S (gq_ix x1)
set_option maxHeartbeats 4000000 in
set_option maxRecDepth 100000 in
theorem c_X5_get (l : Launch) (D : va_G) (cA : ClassId) (a b n : Nat) (hn : n < 2147483648) (S : gs_R) (x1 : Int32) : gq_C l yX5_get wsX5_get ({ frames := 0, cells := 0, slots := 0, locals := 0 } : Room) D cA [.ref a, .int x1] (gw_Row cA a b n S) (some (.int (k_X5_get n S x1))) (gw_Row cA a b n S) := by
  refine gq_openf (own := RX5) (lv := [(0, .ref a), (1, .int x1)]) (fun r : Int32 => (some (.int r), gw_Row cA a b n S)) (k_X5_get n S x1) (by decide) rfl rfl (Nat.le_of_ble_eq_true rfl) rfl rfl rfl (fun p e s m args below meth c A X => ?_)
  unfold k_X5_get
  refine gq_iload_n X dX5_get_0 1 rfl ?_
  refine gq_fif_lt (tgt := 22) X dX5_get_1 (by decide) (fun h1 => ?_) (fun h1 => ?_)
  · refine gq_iconst (v := 0) X dX5_get_22 gq_i0 ?_
    exact gq_iretf X dX5_get_23 rfl rfl
  · refine gq_iload_n X dX5_get_4 1 rfl ?_
    refine gq_aload_n X dX5_get_5 0 rfl ?_
    refine gq_get (C := RX5) (T := TX5) (N := 1) X iX5_get_X5 0 rfl rfl 0 (by decide) fX5_get_X5_0 rfl dX5_get_6 ?_
    refine gq_alen (v := nI n) X 1 rfl rfl dX5_get_9 ?_
    refine gq_ficmp_ge (tgt := 22) X dX5_get_10 (by decide) (fun h10 => ?_) (fun h10 => ?_)
    · refine gq_iconst (v := 0) X dX5_get_22 gq_i0 ?_
      exact gq_iretf X dX5_get_23 rfl rfl
    · refine gq_aload_n X dX5_get_13 0 rfl ?_
      refine gq_get (C := RX5) (T := TX5) (N := 1) X iX5_get_X5 0 rfl rfl 0 (by decide) fX5_get_X5_0 rfl dX5_get_14 ?_
      refine gq_iload_n X dX5_get_17 1 rfl ?_
      refine gq_ald X 1 rfl (gq_in h1 h10 hn) dX5_get_18 ?_
      refine gq_goto (tgt := 23) X dX5_get_19 (by decide) ?_
      exact gq_iretf X dX5_get_23 rfl rfl
theorem iX5_set_X5 : ∀ w ∈ u_ws RX5 TX5 1, w ∈ wsX5_set := by decide +kernel
theorem fX5_set_X5_0 : Cond.fieldLink RX5 13 (TX5 0).1 (TX5 0).2.1 (TX5 0).2.2.1 ∈ wsX5_set := by decide +kernel
theorem hv_X5_set : yX5_set.cls = RX5 ∧ yX5_set.cls ≠ "java/lang/invoke/MethodHandle" ∧ yX5_set.cls ≠ "java/lang/invoke/VarHandle" ∧ (parseMethodDescriptor yX5_set.desc).map (fun d => d.parameters.length) = some 2 := by decide +kernel
def k_X5_set (n : Nat) (S : gs_R) (x1 : Int32) (x2 : Int32) : Int32 × gs_R :=
  if x1 < 0 then
    (0, S)
  else
    if x1 < nI n then
      gq_lt (S (gq_ix x1)) (fun v1 =>
      gq_lt (upd S (gq_ix x1) x2) (fun s2 =>
      (v1, s2)))
    else
      (0, S)
set_option maxHeartbeats 4000000 in
set_option maxRecDepth 100000 in
theorem c_X5_set (l : Launch) (D : va_G) (cA : ClassId) (a b n : Nat) (hn : n < 2147483648) (S : gs_R) (x1 : Int32) (x2 : Int32) : gq_C l yX5_set wsX5_set ({ frames := 0, cells := 0, slots := 0, locals := 0 } : Room) D cA [.ref a, .int x1, .int x2] (gw_Row cA a b n S) (some (.int (k_X5_set n S x1 x2).1)) (gw_Row cA a b n ((k_X5_set n S x1 x2).2)) := by
  refine gq_openf (own := RX5) (lv := [(0, .ref a), (1, .int x1), (2, .int x2)]) (fun r : Int32 × gs_R => (some (.int r.1), gw_Row cA a b n r.2)) (k_X5_set n S x1 x2) (by decide) rfl rfl (Nat.le_of_ble_eq_true rfl) rfl rfl rfl (fun p e s m args below meth c A X => ?_)
  unfold k_X5_set
  refine gq_iload_n X dX5_set_0 1 rfl ?_
  refine gq_fif_lt (tgt := 13) X dX5_set_1 (by decide) (fun h1 => ?_) (fun h1 => ?_)
  · refine gq_iconst (v := 0) X dX5_set_13 gq_i0 ?_
    exact gq_iretf X dX5_set_14 rfl rfl
  · refine gq_iload_n X dX5_set_4 1 rfl ?_
    refine gq_aload_n X dX5_set_5 0 rfl ?_
    refine gq_get (C := RX5) (T := TX5) (N := 1) X iX5_set_X5 0 rfl rfl 0 (by decide) fX5_set_X5_0 rfl dX5_set_6 ?_
    refine gq_alen (v := nI n) X 1 rfl rfl dX5_set_9 ?_
    refine gq_ficmp_lt (tgt := 15) X dX5_set_10 (by decide) (fun h10 => ?_) (fun h10 => ?_)
    · refine gq_aload_n X dX5_set_15 0 rfl ?_
      refine gq_get (C := RX5) (T := TX5) (N := 1) X iX5_set_X5 0 rfl rfl 0 (by decide) fX5_set_X5_0 rfl dX5_set_16 ?_
      refine gq_iload_n X dX5_set_19 1 rfl ?_
      refine gq_ald X 1 rfl (gq_in2 h1 h10 hn) dX5_set_20 ?_
      refine gq_letr (fun v1 ev1 => ?_)
      refine gq_eqst (st' := .int v1 :: _) (by rw [ev1]) ?_
      refine gq_istore_n (lv' := [(3, .int v1), (0, .ref a), (1, .int x1), (2, .int x2)]) X dX5_set_21 (by decide) rfl ?_
      refine gq_aload_n X dX5_set_22 1 rfl ?_
      refine gq_get (C := RX5) (T := TX5) (N := 1) X iX5_set_X5 0 rfl rfl 0 (by decide) fX5_set_X5_0 rfl dX5_set_23 ?_
      refine gq_iload_n X dX5_set_26 2 rfl ?_
      refine gq_iload_n X dX5_set_27 3 rfl ?_
      refine gq_letr (fun s2 es2 => ?_)
      refine gq_ast (ws' := gw_Row cA a b n s2) X 1 rfl (gq_in2 h1 h10 hn) (by rw [es2]; rfl) dX5_set_28 ?_
      refine gq_iload_n X dX5_set_29 0 rfl ?_
      exact gq_iretf X dX5_set_30 rfl rfl
    · refine gq_iconst (v := 0) X dX5_set_13 gq_i0 ?_
      exact gq_iretf X dX5_set_14 rfl rfl
theorem hv_X5_add : yX5_add.cls = RX5 ∧ yX5_add.cls ≠ "java/lang/invoke/MethodHandle" ∧ yX5_add.cls ≠ "java/lang/invoke/VarHandle" ∧ (parseMethodDescriptor yX5_add.desc).map (fun d => d.parameters.length) = some 2 := by decide +kernel
def k_X5_add (n : Nat) (S : gs_R) (x1 : Int32) (x2 : Int32) : gs_R :=
  gq_lt (k_X5_set n S x1 ((k_X5_get n S x1) + x2)) (fun r1 =>
  gq_lt (r1.2) (fun s2 =>
  s2))
set_option maxHeartbeats 4000000 in
set_option maxRecDepth 100000 in
theorem c_X5_add (l : Launch) (D : va_G) (cA : ClassId) (a b n : Nat) (hn : n < 2147483648) (S : gs_R) (x1 : Int32) (x2 : Int32) : gq_C l yX5_add wsX5_add ({ frames := 1, cells := 0, slots := 0, locals := 23 } : Room) D cA [.ref a, .int x1, .int x2] (gw_Row cA a b n S) (none) (gw_Row cA a b n (k_X5_add n S x1 x2)) := by
  refine gq_openf (own := RX5) (lv := [(0, .ref a), (1, .int x1), (2, .int x2)]) (fun r : gs_R => (none, gw_Row cA a b n r)) (k_X5_add n S x1 x2) (by decide) rfl rfl (Nat.le_of_ble_eq_true rfl) rfl rfl rfl (fun p e s m args below meth c A X => ?_)
  unfold k_X5_add
  refine gq_aload_n X dX5_add_0 0 rfl ?_
  refine gq_iload_n X dX5_add_1 1 rfl ?_
  refine gq_aload_n X dX5_add_2 0 rfl ?_
  refine gq_iload_n X dX5_add_3 1 rfl ?_
  refine gq_callVr (ws' := gw_Row cA a b n S) X (c_X5_get l D cA a b n hn S x1) rfl ⟨rfl, rfl⟩ ⟨Nat.le_of_ble_eq_true rfl, Nat.le_of_ble_eq_true rfl⟩ gX5_add_X5_get hv_X5_get 0 rfl rfl [0, 1] rfl (by decide) rfl rfl rfl rfl (Nat.le_of_ble_eq_true rfl) ⟨Nat.zero_le _, Nat.zero_le _⟩ dX5_add_4 ?_
  refine gq_iload_n X dX5_add_7 2 rfl ?_
  refine gq_iadd X dX5_add_8 ?_
  refine gq_letr (fun r1 er1 => ?_)
  refine gq_letr (fun s2 es2 => ?_)
  refine gq_callVr (ws' := gw_Row cA a b n s2) X (gq_Ceq (res2 := some (Value.int r1.1)) (w2 := gw_Row cA a b n r1.2) (c_X5_set l D cA a b n hn S x1 ((k_X5_get n S x1) + x2)) (by rw [er1]) (by rw [er1])) rfl ⟨rfl, rfl⟩ ⟨Nat.le_of_ble_eq_true rfl, Nat.le_of_ble_eq_true rfl⟩ gX5_add_X5_set hv_X5_set 0 rfl rfl [0, 1] rfl (by decide) rfl (by rw [es2]; rfl) rfl rfl (Nat.le_of_ble_eq_true rfl) ⟨Nat.zero_le _, Nat.zero_le _⟩ dX5_add_9 ?_
  refine gq_pop X dX5_add_12 rfl ?_
  exact gq_vretf X dX5_add_13 rfl rfl
theorem iX5_fill_X5 : ∀ w ∈ u_ws RX5 TX5 1, w ∈ wsX5_fill := by decide +kernel
theorem fX5_fill_X5_0 : Cond.fieldLink RX5 13 (TX5 0).1 (TX5 0).2.1 (TX5 0).2.2.1 ∈ wsX5_fill := by decide +kernel
theorem hv_X5_fill : yX5_fill.cls = RX5 ∧ yX5_fill.cls ≠ "java/lang/invoke/MethodHandle" ∧ yX5_fill.cls ≠ "java/lang/invoke/VarHandle" ∧ (parseMethodDescriptor yX5_fill.desc).map (fun d => d.parameters.length) = some 1 := by decide +kernel
def k_X5_fill (n : Nat) (S : gs_R) (x1 : Int32) : gs_R :=
  gq_lt (gq_fill S x1 n) (fun s1 =>
  s1)
set_option maxHeartbeats 4000000 in
set_option maxRecDepth 100000 in
theorem c_X5_fill (l : Launch) (D : va_G) (cA : ClassId) (a b n : Nat) (hn : n < 2147483648) (S : gs_R) (x1 : Int32) : gq_C l yX5_fill wsX5_fill ({ frames := 0, cells := 0, slots := 0, locals := 0 } : Room) D cA [.ref a, .int x1] (gw_Row cA a b n S) (none) (gw_Row cA a b n (k_X5_fill n S x1)) := by
  refine gq_openf (own := RX5) (lv := [(0, .ref a), (1, .int x1)]) (fun r : gs_R => (none, gw_Row cA a b n r)) (k_X5_fill n S x1) (by decide) rfl rfl (Nat.le_of_ble_eq_true rfl) rfl rfl rfl (fun p e s m args below meth c A X => ?_)
  unfold k_X5_fill
  refine gq_iconst (v := 0) X dX5_fill_0 gq_i0 ?_
  refine gq_istore_n (lv' := [(2, .int 0), (0, .ref a), (1, .int x1)]) X dX5_fill_1 (by decide) rfl ?_
  refine gq_letr (fun s1 es1 => ?_)
  refine gq_eqw (ws' := gw_Row cA a b n (gq_fill S x1 0)) (by rw [← gq_fill_0 S x1]) ?_
  refine gq_loop (N := n) (i0 := 0) (fun i => gw_Row cA a b n (gq_fill S x1 i)) (fun i => [(2, .int (nI i)), (0, .ref a), (1, .int x1)]) (Nat.zero_le _) (fun i hi h0 ih => ?_)
  refine gq_iload_n X dX5_fill_2 0 rfl ?_
  refine gq_aload_n X dX5_fill_3 1 rfl ?_
  refine gq_get (C := RX5) (T := TX5) (N := 1) X iX5_fill_X5 0 rfl rfl 0 (by decide) fX5_fill_X5_0 rfl dX5_fill_4 ?_
  refine gq_alen (v := nI n) X 1 rfl rfl dX5_fill_7 ?_
  rcases Nat.lt_or_ge i n with hlt | hge
  · refine gq_icmp_ge (tgt := 24) X dX5_fill_8 (by decide) (fun h => absurd h (nI_ge hlt hn)) (fun _ => ?_)
    refine gq_aload_n X dX5_fill_11 1 rfl ?_
    refine gq_get (C := RX5) (T := TX5) (N := 1) X iX5_fill_X5 0 rfl rfl 0 (by decide) fX5_fill_X5_0 rfl dX5_fill_12 ?_
    refine gq_iload_n X dX5_fill_15 0 rfl ?_
    refine gq_iload_n X dX5_fill_16 2 rfl ?_
    obtain ⟨s2, es2⟩ : ∃ y, y = upd (gq_fill S x1 i) (gq_ix (nI i)) x1 := ⟨_, rfl⟩
    refine gq_ast (ws' := gw_Row cA a b n s2) X 1 rfl (vp_in_nI hlt hn) (by rw [es2]; rfl) dX5_fill_17 ?_
    refine gq_iinc (lv' := [(2, .int (nI (i + 1))), (0, .ref a), (1, .int x1)]) X dX5_fill_18 0 rfl (nI_1 i) (by decide) rfl ?_
    refine gq_goto (tgt := 2) X dX5_fill_21 (by decide) ?_
    refine gq_eqw (ws' := gw_Row cA a b n (gq_fill S x1 (i + 1))) (by rw [es2, gq_fill_s _ _ hlt hn]) ?_
    exact ih hlt
  · have hiN : n = i := by omega
    subst hiN
    refine gq_icmp_ge (tgt := 24) X dX5_fill_8 (by decide) (fun _ => ?_) (fun h => absurd (nI_le (Nat.le_refl _) hn) h)
    refine gq_eqw (ws' := gw_Row cA a b n s1) (by rw [es1]) ?_
    exact gq_vretf X dX5_fill_24 rfl rfl
theorem iX2_size_X2 : ∀ w ∈ u_ws RX2 TX2 2, w ∈ wsX2_size := by decide +kernel
theorem fX2_size_X2_1 : Cond.fieldLink RX2 9 (TX2 1).1 (TX2 1).2.1 (TX2 1).2.2.1 ∈ wsX2_size := by decide +kernel
theorem hv_X2_size : yX2_size.cls = RX2 ∧ yX2_size.cls ≠ "java/lang/invoke/MethodHandle" ∧ yX2_size.cls ≠ "java/lang/invoke/VarHandle" ∧ (parseMethodDescriptor yX2_size.desc).map (fun d => d.parameters.length) = some 0 := by decide +kernel
def k_X2_size (n : Nat) (S : gs_P) : Int32 :=
  S.2
set_option maxHeartbeats 4000000 in
set_option maxRecDepth 100000 in
theorem c_X2_size (l : Launch) (D : va_G) (cA : ClassId) (a b n : Nat) (hn : n < 2147483648) (S : gs_P)  : gq_C l yX2_size wsX2_size ({ frames := 0, cells := 0, slots := 0, locals := 0 } : Room) D cA [.ref a] (gw_Pile cA a b n S) (some (.int (k_X2_size n S))) (gw_Pile cA a b n S) := by
  refine gq_openf (own := RX2) (lv := [(0, .ref a)]) (fun r : Int32 => (some (.int r), gw_Pile cA a b n S)) (k_X2_size n S) (by decide) rfl rfl (Nat.le_of_ble_eq_true rfl) rfl rfl rfl (fun p e s m args below meth c A X => ?_)
  unfold k_X2_size
  refine gq_aload_n X dX2_size_0 0 rfl ?_
  refine gq_get (C := RX2) (T := TX2) (N := 2) X iX2_size_X2 0 rfl rfl 1 (by decide) fX2_size_X2_1 rfl dX2_size_1 ?_
  exact gq_iretf X dX2_size_4 rfl rfl
theorem iX2_has_X2 : ∀ w ∈ u_ws RX2 TX2 2, w ∈ wsX2_has := by decide +kernel
theorem fX2_has_X2_0 : Cond.fieldLink RX2 21 (TX2 0).1 (TX2 0).2.1 (TX2 0).2.2.1 ∈ wsX2_has := by decide +kernel
theorem fX2_has_X2_1 : Cond.fieldLink RX2 9 (TX2 1).1 (TX2 1).2.1 (TX2 1).2.2.1 ∈ wsX2_has := by decide +kernel
theorem hv_X2_has : yX2_has.cls = RX2 ∧ yX2_has.cls ≠ "java/lang/invoke/MethodHandle" ∧ yX2_has.cls ≠ "java/lang/invoke/VarHandle" ∧ (parseMethodDescriptor yX2_has.desc).map (fun d => d.parameters.length) = some 1 := by decide +kernel
def k_X2_has (n : Nat) (S : gs_P) (x1 : Int32) : Bool :=
  if x1 < 0 then
    false
  else
    if S.2 ≤ x1 then
      false
    else
      if nI n ≤ x1 then
        false
      else
        true
set_option maxHeartbeats 4000000 in
set_option maxRecDepth 100000 in
theorem c_X2_has (l : Launch) (D : va_G) (cA : ClassId) (a b n : Nat) (hn : n < 2147483648) (S : gs_P) (x1 : Int32) : gq_C l yX2_has wsX2_has ({ frames := 0, cells := 0, slots := 0, locals := 0 } : Room) D cA [.ref a, .int x1] (gw_Pile cA a b n S) (some (.int (gq_b (k_X2_has n S x1)))) (gw_Pile cA a b n S) := by
  refine gq_openf (own := RX2) (lv := [(0, .ref a), (1, .int x1)]) (fun r : Bool => (some (.int (gq_b r)), gw_Pile cA a b n S)) (k_X2_has n S x1) (by decide) rfl rfl (Nat.le_of_ble_eq_true rfl) rfl rfl rfl (fun p e s m args below meth c A X => ?_)
  unfold k_X2_has
  refine gq_iload_n X dX2_has_0 1 rfl ?_
  refine gq_fif_lt (tgt := 25) X dX2_has_1 (by decide) (fun h1 => ?_) (fun h1 => ?_)
  · refine gq_iconst (v := 0) X dX2_has_25 gq_i0 ?_
    exact gq_zretf (b := false) X dX2_has_26 rfl rfl rfl
  · refine gq_iload_n X dX2_has_4 1 rfl ?_
    refine gq_aload_n X dX2_has_5 0 rfl ?_
    refine gq_get (C := RX2) (T := TX2) (N := 2) X iX2_has_X2 0 rfl rfl 1 (by decide) fX2_has_X2_1 rfl dX2_has_6 ?_
    refine gq_ficmp_ge (tgt := 25) X dX2_has_9 (by decide) (fun h9 => ?_) (fun h9 => ?_)
    · refine gq_iconst (v := 0) X dX2_has_25 gq_i0 ?_
      exact gq_zretf (b := false) X dX2_has_26 rfl rfl rfl
    · refine gq_iload_n X dX2_has_12 1 rfl ?_
      refine gq_aload_n X dX2_has_13 0 rfl ?_
      refine gq_get (C := RX2) (T := TX2) (N := 2) X iX2_has_X2 0 rfl rfl 0 (by decide) fX2_has_X2_0 rfl dX2_has_14 ?_
      refine gq_alen (v := nI n) X 1 rfl rfl dX2_has_17 ?_
      refine gq_ficmp_ge (tgt := 25) X dX2_has_18 (by decide) (fun h18 => ?_) (fun h18 => ?_)
      · refine gq_iconst (v := 0) X dX2_has_25 gq_i0 ?_
        exact gq_zretf (b := false) X dX2_has_26 rfl rfl rfl
      · refine gq_iconst (v := 1) X dX2_has_21 gq_i1 ?_
        refine gq_goto (tgt := 26) X dX2_has_22 (by decide) ?_
        exact gq_zretf (b := true) X dX2_has_26 rfl rfl rfl
theorem gq_has_in {n : Nat} {S : gs_P} {x : Int32} (hn : n < 2147483648) (h : k_X2_has n S x = true) : vp_in x n := by
  unfold k_X2_has at h
  by_cases h1 : x < 0
  · rw [if_pos h1] at h; cases h
  · by_cases h2 : S.2 ≤ x
    · rw [if_neg h1, if_pos h2] at h; cases h
    · by_cases h3 : nI n ≤ x
      · rw [if_neg h1, if_neg h2, if_pos h3] at h; cases h
      · exact gq_in h1 h3 hn
theorem iX2_get_X2 : ∀ w ∈ u_ws RX2 TX2 2, w ∈ wsX2_get := by decide +kernel
theorem fX2_get_X2_0 : Cond.fieldLink RX2 21 (TX2 0).1 (TX2 0).2.1 (TX2 0).2.2.1 ∈ wsX2_get := by decide +kernel
theorem hv_X2_get : yX2_get.cls = RX2 ∧ yX2_get.cls ≠ "java/lang/invoke/MethodHandle" ∧ yX2_get.cls ≠ "java/lang/invoke/VarHandle" ∧ (parseMethodDescriptor yX2_get.desc).map (fun d => d.parameters.length) = some 1 := by decide +kernel
def k_X2_get (n : Nat) (S : gs_P) (x1 : Int32) : Int32 :=
  if k_X2_has n S x1 = true then
    S.1 (gq_ix x1)
  else
    (-1)
set_option maxHeartbeats 4000000 in
set_option maxRecDepth 100000 in
theorem c_X2_get (l : Launch) (D : va_G) (cA : ClassId) (a b n : Nat) (hn : n < 2147483648) (S : gs_P) (x1 : Int32) : gq_C l yX2_get wsX2_get ({ frames := 1, cells := 0, slots := 0, locals := 21 } : Room) D cA [.ref a, .int x1] (gw_Pile cA a b n S) (some (.int (k_X2_get n S x1))) (gw_Pile cA a b n S) := by
  refine gq_openf (own := RX2) (lv := [(0, .ref a), (1, .int x1)]) (fun r : Int32 => (some (.int r), gw_Pile cA a b n S)) (k_X2_get n S x1) (by decide) rfl rfl (Nat.le_of_ble_eq_true rfl) rfl rfl rfl (fun p e s m args below meth c A X => ?_)
  unfold k_X2_get
  refine gq_aload_n X dX2_get_0 0 rfl ?_
  refine gq_iload_n X dX2_get_1 1 rfl ?_
  refine gq_callVr (ws' := gw_Pile cA a b n S) X (c_X2_has l D cA a b n hn S x1) rfl ⟨rfl, rfl⟩ ⟨Nat.le_of_ble_eq_true rfl, Nat.le_of_ble_eq_true rfl⟩ gX2_get_X2_has hv_X2_has 0 rfl rfl [0, 1] rfl (by decide) rfl rfl rfl rfl (Nat.le_of_ble_eq_true rfl) ⟨Nat.zero_le _, Nat.zero_le _⟩ dX2_get_2 ?_
  refine gq_fbif_eq (tgt := 17) X dX2_get_5 (by decide) (fun h5 => ?_) (fun h5 => ?_)
  · refine gq_aload_n X dX2_get_8 0 rfl ?_
    refine gq_get (C := RX2) (T := TX2) (N := 2) X iX2_get_X2 0 rfl rfl 0 (by decide) fX2_get_X2_0 rfl dX2_get_9 ?_
    refine gq_iload_n X dX2_get_12 1 rfl ?_
    refine gq_ald X 1 rfl (gq_has_in hn h5) dX2_get_13 ?_
    refine gq_goto (tgt := 18) X dX2_get_14 (by decide) ?_
    exact gq_iretf X dX2_get_18 rfl rfl
  · refine gq_iconst (v := (-1)) X dX2_get_17 gq_im1 ?_
    exact gq_iretf X dX2_get_18 rfl rfl
theorem iX2_set_X2 : ∀ w ∈ u_ws RX2 TX2 2, w ∈ wsX2_set := by decide +kernel
theorem fX2_set_X2_0 : Cond.fieldLink RX2 21 (TX2 0).1 (TX2 0).2.1 (TX2 0).2.2.1 ∈ wsX2_set := by decide +kernel
theorem hv_X2_set : yX2_set.cls = RX2 ∧ yX2_set.cls ≠ "java/lang/invoke/MethodHandle" ∧ yX2_set.cls ≠ "java/lang/invoke/VarHandle" ∧ (parseMethodDescriptor yX2_set.desc).map (fun d => d.parameters.length) = some 2 := by decide +kernel
def k_X2_set (n : Nat) (S : gs_P) (x1 : Int32) (x2 : Int32) : Int32 × gs_P :=
  if k_X2_has n S x1 = true then
    gq_lt (S.1 (gq_ix x1)) (fun v1 =>
    gq_lt ((upd S.1 (gq_ix x1) x2, S.2)) (fun s2 =>
    (v1, s2)))
  else
    ((-1), S)
set_option maxHeartbeats 4000000 in
set_option maxRecDepth 100000 in
theorem c_X2_set (l : Launch) (D : va_G) (cA : ClassId) (a b n : Nat) (hn : n < 2147483648) (S : gs_P) (x1 : Int32) (x2 : Int32) : gq_C l yX2_set wsX2_set ({ frames := 1, cells := 0, slots := 0, locals := 21 } : Room) D cA [.ref a, .int x1, .int x2] (gw_Pile cA a b n S) (some (.int (k_X2_set n S x1 x2).1)) (gw_Pile cA a b n ((k_X2_set n S x1 x2).2)) := by
  refine gq_openf (own := RX2) (lv := [(0, .ref a), (1, .int x1), (2, .int x2)]) (fun r : Int32 × gs_P => (some (.int r.1), gw_Pile cA a b n r.2)) (k_X2_set n S x1 x2) (by decide) rfl rfl (Nat.le_of_ble_eq_true rfl) rfl rfl rfl (fun p e s m args below meth c A X => ?_)
  unfold k_X2_set
  refine gq_aload_n X dX2_set_0 0 rfl ?_
  refine gq_iload_n X dX2_set_1 1 rfl ?_
  refine gq_callVr (ws' := gw_Pile cA a b n S) X (c_X2_has l D cA a b n hn S x1) rfl ⟨rfl, rfl⟩ ⟨Nat.le_of_ble_eq_true rfl, Nat.le_of_ble_eq_true rfl⟩ gX2_set_X2_has hv_X2_has 0 rfl rfl [0, 1] rfl (by decide) rfl rfl rfl rfl (Nat.le_of_ble_eq_true rfl) ⟨Nat.zero_le _, Nat.zero_le _⟩ dX2_set_2 ?_
  refine gq_fbif_ne (tgt := 10) X dX2_set_5 (by decide) (fun h5 => ?_) (fun h5 => ?_)
  · refine gq_aload_n X dX2_set_10 0 rfl ?_
    refine gq_get (C := RX2) (T := TX2) (N := 2) X iX2_set_X2 0 rfl rfl 0 (by decide) fX2_set_X2_0 rfl dX2_set_11 ?_
    refine gq_iload_n X dX2_set_14 1 rfl ?_
    refine gq_ald X 1 rfl (gq_has_in hn h5) dX2_set_15 ?_
    refine gq_letr (fun v1 ev1 => ?_)
    refine gq_eqst (st' := .int v1 :: _) (by rw [ev1]) ?_
    refine gq_istore_n (lv' := [(3, .int v1), (0, .ref a), (1, .int x1), (2, .int x2)]) X dX2_set_16 (by decide) rfl ?_
    refine gq_aload_n X dX2_set_17 1 rfl ?_
    refine gq_get (C := RX2) (T := TX2) (N := 2) X iX2_set_X2 0 rfl rfl 0 (by decide) fX2_set_X2_0 rfl dX2_set_18 ?_
    refine gq_iload_n X dX2_set_21 2 rfl ?_
    refine gq_iload_n X dX2_set_22 3 rfl ?_
    refine gq_letr (fun s2 es2 => ?_)
    refine gq_ast (ws' := gw_Pile cA a b n s2) X 1 rfl (gq_has_in hn h5) (by rw [es2]; rfl) dX2_set_23 ?_
    refine gq_iload_n X dX2_set_24 0 rfl ?_
    exact gq_iretf X dX2_set_25 rfl rfl
  · refine gq_iconst (v := (-1)) X dX2_set_8 gq_im1 ?_
    exact gq_iretf X dX2_set_9 rfl rfl
theorem iX2_push_X2 : ∀ w ∈ u_ws RX2 TX2 2, w ∈ wsX2_push := by decide +kernel
theorem fX2_push_X2_0 : Cond.fieldLink RX2 21 (TX2 0).1 (TX2 0).2.1 (TX2 0).2.2.1 ∈ wsX2_push := by decide +kernel
theorem fX2_push_X2_1 : Cond.fieldLink RX2 9 (TX2 1).1 (TX2 1).2.1 (TX2 1).2.2.1 ∈ wsX2_push := by decide +kernel
theorem hv_X2_push : yX2_push.cls = RX2 ∧ yX2_push.cls ≠ "java/lang/invoke/MethodHandle" ∧ yX2_push.cls ≠ "java/lang/invoke/VarHandle" ∧ (parseMethodDescriptor yX2_push.desc).map (fun d => d.parameters.length) = some 1 := by decide +kernel
def k_X2_push (n : Nat) (S : gs_P) (x1 : Int32) : Bool × gs_P :=
  if S.2 < 0 then
    (false, S)
  else
    if S.2 < nI n then
      gq_lt ((upd S.1 (gq_ix S.2) x1, S.2)) (fun s1 =>
      gq_lt ((s1.1, s1.2 + 1)) (fun s2 =>
      (true, s2)))
    else
      (false, S)
set_option maxHeartbeats 4000000 in
set_option maxRecDepth 100000 in
theorem c_X2_push (l : Launch) (D : va_G) (cA : ClassId) (a b n : Nat) (hn : n < 2147483648) (S : gs_P) (x1 : Int32) : gq_C l yX2_push wsX2_push ({ frames := 0, cells := 0, slots := 0, locals := 0 } : Room) D cA [.ref a, .int x1] (gw_Pile cA a b n S) (some (.int (gq_b (k_X2_push n S x1).1))) (gw_Pile cA a b n ((k_X2_push n S x1).2)) := by
  refine gq_openf (own := RX2) (lv := [(0, .ref a), (1, .int x1)]) (fun r : Bool × gs_P => (some (.int (gq_b r.1)), gw_Pile cA a b n r.2)) (k_X2_push n S x1) (by decide) rfl rfl (Nat.le_of_ble_eq_true rfl) rfl rfl rfl (fun p e s m args below meth c A X => ?_)
  unfold k_X2_push
  refine gq_aload_n X dX2_push_0 0 rfl ?_
  refine gq_get (C := RX2) (T := TX2) (N := 2) X iX2_push_X2 0 rfl rfl 1 (by decide) fX2_push_X2_1 rfl dX2_push_1 ?_
  refine gq_fif_lt (tgt := 19) X dX2_push_4 (by decide) (fun h4 => ?_) (fun h4 => ?_)
  · refine gq_iconst (v := 0) X dX2_push_19 gq_i0 ?_
    exact gq_zretf (b := false) X dX2_push_20 rfl rfl rfl
  · refine gq_aload_n X dX2_push_7 0 rfl ?_
    refine gq_get (C := RX2) (T := TX2) (N := 2) X iX2_push_X2 0 rfl rfl 1 (by decide) fX2_push_X2_1 rfl dX2_push_8 ?_
    refine gq_aload_n X dX2_push_11 0 rfl ?_
    refine gq_get (C := RX2) (T := TX2) (N := 2) X iX2_push_X2 0 rfl rfl 0 (by decide) fX2_push_X2_0 rfl dX2_push_12 ?_
    refine gq_alen (v := nI n) X 1 rfl rfl dX2_push_15 ?_
    refine gq_ficmp_lt (tgt := 21) X dX2_push_16 (by decide) (fun h16 => ?_) (fun h16 => ?_)
    · refine gq_aload_n X dX2_push_21 0 rfl ?_
      refine gq_get (C := RX2) (T := TX2) (N := 2) X iX2_push_X2 0 rfl rfl 0 (by decide) fX2_push_X2_0 rfl dX2_push_22 ?_
      refine gq_aload_n X dX2_push_25 0 rfl ?_
      refine gq_get (C := RX2) (T := TX2) (N := 2) X iX2_push_X2 0 rfl rfl 1 (by decide) fX2_push_X2_1 rfl dX2_push_26 ?_
      refine gq_iload_n X dX2_push_29 1 rfl ?_
      refine gq_letr (fun s1 es1 => ?_)
      refine gq_ast (ws' := gw_Pile cA a b n s1) X 1 rfl (gq_in2 h4 h16 hn) (by rw [es1]; rfl) dX2_push_30 ?_
      refine gq_aload_n X dX2_push_31 0 rfl ?_
      refine gq_dup X dX2_push_32 rfl ?_
      refine gq_get (C := RX2) (T := TX2) (N := 2) X iX2_push_X2 0 rfl rfl 1 (by decide) fX2_push_X2_1 rfl dX2_push_33 ?_
      refine gq_iconst (v := 1) X dX2_push_36 gq_i1 ?_
      refine gq_iadd X dX2_push_37 ?_
      refine gq_letr (fun s2 es2 => ?_)
      refine gq_put (C := RX2) (T := TX2) (N := 2) (ws' := gw_Pile cA a b n s2) X iX2_push_X2 tyX2 tyX2_ok nmX2 0 rfl rfl 1 (by decide) fX2_push_X2_1 rfl rfl rfl (Nat.le_of_ble_eq_true rfl) (by rw [es2]; rfl) dX2_push_38 ?_
      refine gq_iconst (v := 1) X dX2_push_41 gq_i1 ?_
      exact gq_zretf (b := true) X dX2_push_42 rfl rfl rfl
    · refine gq_iconst (v := 0) X dX2_push_19 gq_i0 ?_
      exact gq_zretf (b := false) X dX2_push_20 rfl rfl rfl
theorem iX2_clear_X2 : ∀ w ∈ u_ws RX2 TX2 2, w ∈ wsX2_clear := by decide +kernel
theorem fX2_clear_X2_1 : Cond.fieldLink RX2 9 (TX2 1).1 (TX2 1).2.1 (TX2 1).2.2.1 ∈ wsX2_clear := by decide +kernel
theorem hv_X2_clear : yX2_clear.cls = RX2 ∧ yX2_clear.cls ≠ "java/lang/invoke/MethodHandle" ∧ yX2_clear.cls ≠ "java/lang/invoke/VarHandle" ∧ (parseMethodDescriptor yX2_clear.desc).map (fun d => d.parameters.length) = some 0 := by decide +kernel
def k_X2_clear (n : Nat) (S : gs_P) : gs_P :=
  gq_lt ((S.1, 0)) (fun s1 =>
  s1)
set_option maxHeartbeats 4000000 in
set_option maxRecDepth 100000 in
theorem c_X2_clear (l : Launch) (D : va_G) (cA : ClassId) (a b n : Nat) (hn : n < 2147483648) (S : gs_P)  : gq_C l yX2_clear wsX2_clear ({ frames := 0, cells := 0, slots := 0, locals := 0 } : Room) D cA [.ref a] (gw_Pile cA a b n S) (none) (gw_Pile cA a b n (k_X2_clear n S)) := by
  refine gq_openf (own := RX2) (lv := [(0, .ref a)]) (fun r : gs_P => (none, gw_Pile cA a b n r)) (k_X2_clear n S) (by decide) rfl rfl (Nat.le_of_ble_eq_true rfl) rfl rfl rfl (fun p e s m args below meth c A X => ?_)
  unfold k_X2_clear
  refine gq_aload_n X dX2_clear_0 0 rfl ?_
  refine gq_iconst (v := 0) X dX2_clear_1 gq_i0 ?_
  refine gq_letr (fun s1 es1 => ?_)
  refine gq_put (C := RX2) (T := TX2) (N := 2) (ws' := gw_Pile cA a b n s1) X iX2_clear_X2 tyX2 tyX2_ok nmX2 0 rfl rfl 1 (by decide) fX2_clear_X2_1 rfl rfl rfl (Nat.le_of_ble_eq_true rfl) (by rw [es1]; rfl) dX2_clear_2 ?_
  exact gq_vretf X dX2_clear_5 rfl rfl
theorem iX2_pop_X2 : ∀ w ∈ u_ws RX2 TX2 2, w ∈ wsX2_pop := by decide +kernel
theorem fX2_pop_X2_1 : Cond.fieldLink RX2 9 (TX2 1).1 (TX2 1).2.1 (TX2 1).2.2.1 ∈ wsX2_pop := by decide +kernel
theorem mX2_pop_max_1 : Cond.methodLink RX2 15 Lib.Math.max.name ∈ wsX2_pop := by decide +kernel
theorem mX2_pop_max_2 : Cond.static Lib.Math.max.name ∈ wsX2_pop := by decide +kernel
theorem mX2_pop_max_3 : Cond.initialized "java/lang/Math" ∈ wsX2_pop := by decide +kernel
theorem mX2_pop_max_4 : Cond.code Lib.Math.max.name Lib.Math.max.code 2 (some .int) ∈ wsX2_pop := by decide +kernel
theorem hv_X2_pop : yX2_pop.cls = RX2 ∧ yX2_pop.cls ≠ "java/lang/invoke/MethodHandle" ∧ yX2_pop.cls ≠ "java/lang/invoke/VarHandle" ∧ (parseMethodDescriptor yX2_pop.desc).map (fun d => d.parameters.length) = some 0 := by decide +kernel
def k_X2_pop (n : Nat) (S : gs_P) : Int32 × gs_P :=
  gq_lt (k_X2_get n S (S.2 - 1)) (fun v1 =>
  gq_lt ((S.1, gq_max 0 (S.2 - 1))) (fun s2 =>
  (v1, s2)))
set_option maxHeartbeats 4000000 in
set_option maxRecDepth 100000 in
theorem c_X2_pop (l : Launch) (D : va_G) (cA : ClassId) (a b n : Nat) (hn : n < 2147483648) (S : gs_P)  : gq_C l yX2_pop wsX2_pop ({ frames := 2, cells := 0, slots := 0, locals := 42 } : Room) D cA [.ref a] (gw_Pile cA a b n S) (some (.int (k_X2_pop n S).1)) (gw_Pile cA a b n ((k_X2_pop n S).2)) := by
  refine gq_openf (own := RX2) (lv := [(0, .ref a)]) (fun r : Int32 × gs_P => (some (.int r.1), gw_Pile cA a b n r.2)) (k_X2_pop n S) (by decide) rfl rfl (Nat.le_of_ble_eq_true rfl) rfl rfl rfl (fun p e s m args below meth c A X => ?_)
  unfold k_X2_pop
  refine gq_aload_n X dX2_pop_0 0 rfl ?_
  refine gq_aload_n X dX2_pop_1 0 rfl ?_
  refine gq_get (C := RX2) (T := TX2) (N := 2) X iX2_pop_X2 0 rfl rfl 1 (by decide) fX2_pop_X2_1 rfl dX2_pop_2 ?_
  refine gq_iconst (v := 1) X dX2_pop_5 gq_i1 ?_
  refine gq_isub X dX2_pop_6 ?_
  refine gq_callVr (ws' := gw_Pile cA a b n S) X (c_X2_get l D cA a b n hn S (S.2 - 1)) rfl ⟨rfl, rfl⟩ ⟨Nat.le_of_ble_eq_true rfl, Nat.le_of_ble_eq_true rfl⟩ gX2_pop_X2_get hv_X2_get 0 rfl rfl [0, 1] rfl (by decide) rfl rfl rfl rfl (Nat.le_of_ble_eq_true rfl) ⟨Nat.zero_le _, Nat.zero_le _⟩ dX2_pop_7 ?_
  refine gq_letr (fun v1 ev1 => ?_)
  refine gq_eqst (st' := .int v1 :: _) (by rw [ev1]) ?_
  refine gq_istore_n (lv' := [(1, .int v1), (0, .ref a)]) X dX2_pop_10 (by decide) rfl ?_
  refine gq_aload_n X dX2_pop_11 1 rfl ?_
  refine gq_iconst (v := 0) X dX2_pop_12 gq_i0 ?_
  refine gq_aload_n X dX2_pop_13 1 rfl ?_
  refine gq_get (C := RX2) (T := TX2) (N := 2) X iX2_pop_X2 0 rfl rfl 1 (by decide) fX2_pop_X2_1 rfl dX2_pop_14 ?_
  refine gq_iconst (v := 1) X dX2_pop_17 gq_i1 ?_
  refine gq_isub X dX2_pop_18 ?_
  refine gq_mmax X mX2_pop_max_1 mX2_pop_max_2 mX2_pop_max_3 mX2_pop_max_4 (Nat.le_of_ble_eq_true rfl) (Nat.le_of_ble_eq_true rfl) ⟨Nat.le_of_ble_eq_true rfl, Nat.le_of_ble_eq_true rfl⟩ dX2_pop_19 ?_
  refine gq_letr (fun s2 es2 => ?_)
  refine gq_put (C := RX2) (T := TX2) (N := 2) (ws' := gw_Pile cA a b n s2) X iX2_pop_X2 tyX2 tyX2_ok nmX2 0 rfl rfl 1 (by decide) fX2_pop_X2_1 rfl rfl rfl (Nat.le_of_ble_eq_true rfl) (by rw [es2]; rfl) dX2_pop_22 ?_
  refine gq_iload_n X dX2_pop_25 0 rfl ?_
  exact gq_iretf X dX2_pop_26 rfl rfl
theorem iX2_pushEldestOut_X2 : ∀ w ∈ u_ws RX2 TX2 2, w ∈ wsX2_pushEldestOut := by decide +kernel
theorem fX2_pushEldestOut_X2_0 : Cond.fieldLink RX2 21 (TX2 0).1 (TX2 0).2.1 (TX2 0).2.2.1 ∈ wsX2_pushEldestOut := by decide +kernel
theorem fX2_pushEldestOut_X2_1 : Cond.fieldLink RX2 9 (TX2 1).1 (TX2 1).2.1 (TX2 1).2.2.1 ∈ wsX2_pushEldestOut := by decide +kernel
theorem mX2_pushEldestOut_max_1 : Cond.methodLink RX2 15 Lib.Math.max.name ∈ wsX2_pushEldestOut := by decide +kernel
theorem mX2_pushEldestOut_max_2 : Cond.static Lib.Math.max.name ∈ wsX2_pushEldestOut := by decide +kernel
theorem mX2_pushEldestOut_max_3 : Cond.initialized "java/lang/Math" ∈ wsX2_pushEldestOut := by decide +kernel
theorem mX2_pushEldestOut_max_4 : Cond.code Lib.Math.max.name Lib.Math.max.code 2 (some .int) ∈ wsX2_pushEldestOut := by decide +kernel
theorem hv_X2_pushEldestOut : yX2_pushEldestOut.cls = RX2 ∧ yX2_pushEldestOut.cls ≠ "java/lang/invoke/MethodHandle" ∧ yX2_pushEldestOut.cls ≠ "java/lang/invoke/VarHandle" ∧ (parseMethodDescriptor yX2_pushEldestOut.desc).map (fun d => d.parameters.length) = some 1 := by decide +kernel
def k_X2_pushEldestOut (n : Nat) (S : gs_P) (x1 : Int32) : gs_P :=
  if S.2 < nI n then
    gq_lt (k_X2_push n S x1) (fun r1 =>
    gq_lt (r1.2) (fun s2 =>
    s2))
  else
    gq_lt ((gq_shl S.1 n, S.2)) (fun s3 =>
    gq_lt ((s3.1, gq_max 0 ((nI n) - 1))) (fun s5 =>
    gq_lt (k_X2_push n s5 x1) (fun r6 =>
    gq_lt (r6.2) (fun s7 =>
    s7))))
set_option maxHeartbeats 4000000 in
set_option maxRecDepth 100000 in
theorem c_X2_pushEldestOut (l : Launch) (D : va_G) (cA : ClassId) (a b n : Nat) (hn : n < 2147483648) (S : gs_P) (x1 : Int32) (hn1 : 1 ≤ n) : gq_C l yX2_pushEldestOut wsX2_pushEldestOut ({ frames := 1, cells := 0, slots := 0, locals := 21 } : Room) D cA [.ref a, .int x1] (gw_Pile cA a b n S) (none) (gw_Pile cA a b n (k_X2_pushEldestOut n S x1)) := by
  refine gq_openf (own := RX2) (lv := [(0, .ref a), (1, .int x1)]) (fun r : gs_P => (none, gw_Pile cA a b n r)) (k_X2_pushEldestOut n S x1) (by decide) rfl rfl (Nat.le_of_ble_eq_true rfl) rfl rfl rfl (fun p e s m args below meth c A X => ?_)
  unfold k_X2_pushEldestOut
  refine gq_aload_n X dX2_pushEldestOut_0 0 rfl ?_
  refine gq_get (C := RX2) (T := TX2) (N := 2) X iX2_pushEldestOut_X2 0 rfl rfl 1 (by decide) fX2_pushEldestOut_X2_1 rfl dX2_pushEldestOut_1 ?_
  refine gq_aload_n X dX2_pushEldestOut_4 0 rfl ?_
  refine gq_get (C := RX2) (T := TX2) (N := 2) X iX2_pushEldestOut_X2 0 rfl rfl 0 (by decide) fX2_pushEldestOut_X2_0 rfl dX2_pushEldestOut_5 ?_
  refine gq_alen (v := nI n) X 1 rfl rfl dX2_pushEldestOut_8 ?_
  refine gq_ficmp_lt (tgt := 58) X dX2_pushEldestOut_9 (by decide) (fun h9 => ?_) (fun h9 => ?_)
  · refine gq_aload_n X dX2_pushEldestOut_58 0 rfl ?_
    refine gq_iload_n X dX2_pushEldestOut_59 1 rfl ?_
    refine gq_letr (fun r1 er1 => ?_)
    refine gq_letr (fun s2 es2 => ?_)
    refine gq_callVr (ws' := gw_Pile cA a b n s2) X (gq_Ceq (res2 := some (Value.int (gq_b r1.1))) (w2 := gw_Pile cA a b n r1.2) (c_X2_push l D cA a b n hn S x1) (by rw [er1]) (by rw [er1])) rfl ⟨rfl, rfl⟩ ⟨Nat.le_of_ble_eq_true rfl, Nat.le_of_ble_eq_true rfl⟩ gX2_pushEldestOut_X2_push hv_X2_push 0 rfl rfl [0, 1] rfl (by decide) rfl (by rw [es2]; rfl) rfl rfl (Nat.le_of_ble_eq_true rfl) ⟨Nat.zero_le _, Nat.zero_le _⟩ dX2_pushEldestOut_60 ?_
    refine gq_pop X dX2_pushEldestOut_63 rfl ?_
    exact gq_vretf X dX2_pushEldestOut_64 rfl rfl
  · refine gq_iconst (v := 1) X dX2_pushEldestOut_12 gq_i1 ?_
    refine gq_istore_n (lv' := [(2, .int 1), (0, .ref a), (1, .int x1)]) X dX2_pushEldestOut_13 (by decide) rfl ?_
    refine gq_letr (fun s3 es3 => ?_)
    refine gq_eqw (ws' := gw_Pile cA a b n (gq_shl S.1 1, S.2)) (by rw [← gq_shl_1 S.1]) ?_
    refine gq_loop (N := n) (i0 := 1) (fun i => gw_Pile cA a b n (gq_shl S.1 i, S.2)) (fun i => [(2, .int (nI i)), (0, .ref a), (1, .int x1)]) hn1 (fun i hi h0 ih => ?_)
    refine gq_iload_n X dX2_pushEldestOut_14 0 rfl ?_
    refine gq_aload_n X dX2_pushEldestOut_15 1 rfl ?_
    refine gq_get (C := RX2) (T := TX2) (N := 2) X iX2_pushEldestOut_X2 0 rfl rfl 0 (by decide) fX2_pushEldestOut_X2_0 rfl dX2_pushEldestOut_16 ?_
    refine gq_alen (v := nI n) X 1 rfl rfl dX2_pushEldestOut_19 ?_
    rcases Nat.lt_or_ge i n with hlt | hge
    · refine gq_icmp_ge (tgt := 43) X dX2_pushEldestOut_20 (by decide) (fun h => absurd h (nI_ge hlt hn)) (fun _ => ?_)
      refine gq_aload_n X dX2_pushEldestOut_23 1 rfl ?_
      refine gq_get (C := RX2) (T := TX2) (N := 2) X iX2_pushEldestOut_X2 0 rfl rfl 0 (by decide) fX2_pushEldestOut_X2_0 rfl dX2_pushEldestOut_24 ?_
      refine gq_iload_n X dX2_pushEldestOut_27 0 rfl ?_
      refine gq_iconst (v := 1) X dX2_pushEldestOut_28 gq_i1 ?_
      refine gq_isub X dX2_pushEldestOut_29 ?_
      refine gq_aload_n X dX2_pushEldestOut_30 1 rfl ?_
      refine gq_get (C := RX2) (T := TX2) (N := 2) X iX2_pushEldestOut_X2 0 rfl rfl 0 (by decide) fX2_pushEldestOut_X2_0 rfl dX2_pushEldestOut_31 ?_
      refine gq_iload_n X dX2_pushEldestOut_34 0 rfl ?_
      refine gq_ald X 1 rfl (vp_in_nI hlt hn) dX2_pushEldestOut_35 ?_
      obtain ⟨s4, es4⟩ : ∃ y, y = (upd ((gq_shl S.1 i, S.2).1) (gq_ix ((nI i) - 1)) (((gq_shl S.1 i, S.2).1) (gq_ix (nI i))), (gq_shl S.1 i, S.2).2) := ⟨_, rfl⟩
      refine gq_ast (ws' := gw_Pile cA a b n s4) X 1 rfl (by obtain ⟨k, rfl⟩ : ∃ k, i = k + 1 := ⟨i - 1, by omega⟩; rw [nI_pred]; exact vp_in_nI (by omega) hn) (by rw [es4]; rfl) dX2_pushEldestOut_36 ?_
      refine gq_iinc (lv' := [(2, .int (nI (i + 1))), (0, .ref a), (1, .int x1)]) X dX2_pushEldestOut_37 0 rfl (nI_1 i) (by decide) rfl ?_
      refine gq_goto (tgt := 14) X dX2_pushEldestOut_40 (by decide) ?_
      refine gq_eqw (ws' := gw_Pile cA a b n (gq_shl S.1 (i + 1), S.2)) (by rw [es4, gq_shl_s _ h0 hlt hn]) ?_
      exact ih hlt
    · have hiN : n = i := by omega
      subst hiN
      refine gq_icmp_ge (tgt := 43) X dX2_pushEldestOut_20 (by decide) (fun _ => ?_) (fun h => absurd (nI_le (Nat.le_refl _) hn) h)
      refine gq_eqw (ws' := gw_Pile cA a b n s3) (by rw [es3]) ?_
      refine gq_aload_n X dX2_pushEldestOut_43 1 rfl ?_
      refine gq_iconst (v := 0) X dX2_pushEldestOut_44 gq_i0 ?_
      refine gq_aload_n X dX2_pushEldestOut_45 1 rfl ?_
      refine gq_get (C := RX2) (T := TX2) (N := 2) X iX2_pushEldestOut_X2 0 rfl rfl 0 (by decide) fX2_pushEldestOut_X2_0 rfl dX2_pushEldestOut_46 ?_
      refine gq_alen (v := nI n) X 1 rfl rfl dX2_pushEldestOut_49 ?_
      refine gq_iconst (v := 1) X dX2_pushEldestOut_50 gq_i1 ?_
      refine gq_isub X dX2_pushEldestOut_51 ?_
      refine gq_mmax X mX2_pushEldestOut_max_1 mX2_pushEldestOut_max_2 mX2_pushEldestOut_max_3 mX2_pushEldestOut_max_4 (Nat.le_of_ble_eq_true rfl) (Nat.le_of_ble_eq_true rfl) ⟨Nat.le_of_ble_eq_true rfl, Nat.le_of_ble_eq_true rfl⟩ dX2_pushEldestOut_52 ?_
      refine gq_letr (fun s5 es5 => ?_)
      refine gq_put (C := RX2) (T := TX2) (N := 2) (ws' := gw_Pile cA a b n s5) X iX2_pushEldestOut_X2 tyX2 tyX2_ok nmX2 0 rfl rfl 1 (by decide) fX2_pushEldestOut_X2_1 rfl rfl rfl (Nat.le_of_ble_eq_true rfl) (by rw [es5]; rfl) dX2_pushEldestOut_55 ?_
      refine gq_aload_n X dX2_pushEldestOut_58 1 rfl ?_
      refine gq_iload_n X dX2_pushEldestOut_59 2 rfl ?_
      refine gq_letr (fun r6 er6 => ?_)
      refine gq_letr (fun s7 es7 => ?_)
      refine gq_callVr (ws' := gw_Pile cA a b n s7) X (gq_Ceq (res2 := some (Value.int (gq_b r6.1))) (w2 := gw_Pile cA a b n r6.2) (c_X2_push l D cA a b n hn s5 x1) (by rw [er6]) (by rw [er6])) rfl ⟨rfl, rfl⟩ ⟨Nat.le_of_ble_eq_true rfl, Nat.le_of_ble_eq_true rfl⟩ gX2_pushEldestOut_X2_push hv_X2_push 0 rfl rfl [0, 1] rfl (by decide) rfl (by rw [es7]; rfl) rfl rfl (Nat.le_of_ble_eq_true rfl) ⟨Nat.zero_le _, Nat.zero_le _⟩ dX2_pushEldestOut_60 ?_
      refine gq_pop X dX2_pushEldestOut_63 rfl ?_
      exact gq_vretf X dX2_pushEldestOut_64 rfl rfl
